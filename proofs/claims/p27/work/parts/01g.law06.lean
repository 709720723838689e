theorem dL_acts_727 : decode cL_acts 727 = .ok (.iand, 1) := by decide +kernel
theorem dL_acts_728 : decode cL_acts 728 = .ok (.istore 28, 2) := by decide +kernel
theorem dL_acts_730 : decode cL_acts 730 = .ok (.aload_n 1, 1) := by decide +kernel
theorem dL_acts_731 : decode cL_acts 731 = .ok (.iconst 4, 1) := by decide +kernel
theorem dL_acts_732 : decode cL_acts 732 = .ok (.dup2, 1) := by decide +kernel
theorem dL_acts_733 : decode cL_acts 733 = .ok (.iaload, 1) := by decide +kernel
theorem dL_acts_734 : decode cL_acts 734 = .ok (.iconst 1, 1) := by decide +kernel
theorem dL_acts_735 : decode cL_acts 735 = .ok (.iload 13, 2) := by decide +kernel
theorem dL_acts_737 : decode cL_acts 737 = .ok (.ishl, 1) := by decide +kernel
theorem dL_acts_738 : decode cL_acts 738 = .ok (.ior, 1) := by decide +kernel
theorem dL_acts_739 : decode cL_acts 739 = .ok (.iastore, 1) := by decide +kernel
theorem dL_acts_740 : decode cL_acts 740 = .ok (.aload_n 0, 1) := by decide +kernel
theorem dL_acts_741 : decode cL_acts 741 = .ok (.iload 13, 2) := by decide +kernel
theorem dL_acts_743 : decode cL_acts 743 = .ok (.invokevirtual 76, 3) := by decide +kernel
theorem dL_acts_746 : decode cL_acts 746 = .ok (.iload 28, 2) := by decide +kernel
theorem dL_acts_748 : decode cL_acts 748 = .ok (.if_icmp .ne 7, 3) := by decide +kernel
theorem dL_acts_751 : decode cL_acts 751 = .ok (.iconst 1, 1) := by decide +kernel
theorem dL_acts_752 : decode cL_acts 752 = .ok (.goto 4, 3) := by decide +kernel
theorem dL_acts_755 : decode cL_acts 755 = .ok (.iconst 0, 1) := by decide +kernel
theorem dL_acts_756 : decode cL_acts 756 = .ok (.ireturn, 1) := by decide +kernel
theorem dL_acts_757 : decode cL_acts 757 = .ok (.iload 14, 2) := by decide +kernel
theorem dL_acts_759 : decode cL_acts 759 = .ok (.ifCond .lt 21, 3) := by decide +kernel
theorem dL_acts_762 : decode cL_acts 762 = .ok (.aload_n 1, 1) := by decide +kernel
theorem dL_acts_763 : decode cL_acts 763 = .ok (.iconst 4, 1) := by decide +kernel
theorem dL_acts_764 : decode cL_acts 764 = .ok (.iaload, 1) := by decide +kernel
theorem dL_acts_765 : decode cL_acts 765 = .ok (.iload 13, 2) := by decide +kernel
theorem dL_acts_767 : decode cL_acts 767 = .ok (.ishr, 1) := by decide +kernel
theorem dL_acts_768 : decode cL_acts 768 = .ok (.iconst 1, 1) := by decide +kernel
theorem dL_acts_769 : decode cL_acts 769 = .ok (.iand, 1) := by decide +kernel
theorem dL_acts_770 : decode cL_acts 770 = .ok (.ifCond .eq 10, 3) := by decide +kernel
theorem dL_acts_773 : decode cL_acts 773 = .ok (.iload 6, 2) := by decide +kernel
theorem dL_acts_775 : decode cL_acts 775 = .ok (.iconst 3, 1) := by decide +kernel
theorem dL_acts_776 : decode cL_acts 776 = .ok (.irem, 1) := by decide +kernel
theorem dL_acts_777 : decode cL_acts 777 = .ok (.ifCond .le 57, 3) := by decide +kernel
theorem dL_acts_780 : decode cL_acts 780 = .ok (.aload_n 0, 1) := by decide +kernel
theorem dL_acts_781 : decode cL_acts 781 = .ok (.iload 14, 2) := by decide +kernel
theorem dL_acts_783 : decode cL_acts 783 = .ok (.ifCond .ge 7, 3) := by decide +kernel
theorem dL_acts_786 : decode cL_acts 786 = .ok (.iconst 0, 1) := by decide +kernel
theorem dL_acts_787 : decode cL_acts 787 = .ok (.goto 17, 3) := by decide +kernel
theorem dL_acts_790 : decode cL_acts 790 = .ok (.iload 6, 2) := by decide +kernel
theorem dL_acts_792 : decode cL_acts 792 = .ok (.iconst 3, 1) := by decide +kernel
theorem dL_acts_793 : decode cL_acts 793 = .ok (.irem, 1) := by decide +kernel
theorem dL_acts_794 : decode cL_acts 794 = .ok (.ifCond .le 8, 3) := by decide +kernel
theorem dL_acts_797 : decode cL_acts 797 = .ok (.iload 12, 2) := by decide +kernel
theorem dL_acts_799 : decode cL_acts 799 = .ok (.goto 5, 3) := by decide +kernel
theorem dL_acts_802 : decode cL_acts 802 = .ok (.iload 13, 2) := by decide +kernel
theorem dL_acts_804 : decode cL_acts 804 = .ok (.invokevirtual 80, 3) := by decide +kernel
theorem dL_acts_807 : decode cL_acts 807 = .ok (.iload 14, 2) := by decide +kernel
theorem dL_acts_809 : decode cL_acts 809 = .ok (.ifCond .lt 10, 3) := by decide +kernel
theorem dL_acts_812 : decode cL_acts 812 = .ok (.iload 6, 2) := by decide +kernel
theorem dL_acts_814 : decode cL_acts 814 = .ok (.iconst 3, 1) := by decide +kernel
theorem dL_acts_815 : decode cL_acts 815 = .ok (.irem, 1) := by decide +kernel
theorem dL_acts_816 : decode cL_acts 816 = .ok (.ifCond .le 7, 3) := by decide +kernel
theorem dL_acts_819 : decode cL_acts 819 = .ok (.iconst (-1), 1) := by decide +kernel
theorem dL_acts_820 : decode cL_acts 820 = .ok (.goto 5, 3) := by decide +kernel
theorem dL_acts_823 : decode cL_acts 823 = .ok (.bipush (-2), 2) := by decide +kernel
theorem dL_acts_825 : decode cL_acts 825 = .ok (.if_icmp .ne 7, 3) := by decide +kernel
theorem dL_acts_828 : decode cL_acts 828 = .ok (.iconst 1, 1) := by decide +kernel
theorem dL_acts_829 : decode cL_acts 829 = .ok (.goto 4, 3) := by decide +kernel
theorem dL_acts_832 : decode cL_acts 832 = .ok (.iconst 0, 1) := by decide +kernel
theorem dL_acts_833 : decode cL_acts 833 = .ok (.ireturn, 1) := by decide +kernel
theorem dL_acts_834 : decode cL_acts 834 = .ok (.aload_n 1, 1) := by decide +kernel
theorem dL_acts_835 : decode cL_acts 835 = .ok (.iconst 4, 1) := by decide +kernel
theorem dL_acts_836 : decode cL_acts 836 = .ok (.dup2, 1) := by decide +kernel
theorem dL_acts_837 : decode cL_acts 837 = .ok (.iaload, 1) := by decide +kernel
theorem dL_acts_838 : decode cL_acts 838 = .ok (.iconst 1, 1) := by decide +kernel
theorem dL_acts_839 : decode cL_acts 839 = .ok (.iload 13, 2) := by decide +kernel
theorem dL_acts_841 : decode cL_acts 841 = .ok (.ishl, 1) := by decide +kernel
theorem dL_acts_842 : decode cL_acts 842 = .ok (.isub, 1) := by decide +kernel
theorem dL_acts_843 : decode cL_acts 843 = .ok (.iastore, 1) := by decide +kernel
theorem dL_acts_844 : decode cL_acts 844 = .ok (.aload_n 0, 1) := by decide +kernel
theorem dL_acts_845 : decode cL_acts 845 = .ok (.iload 13, 2) := by decide +kernel
theorem dL_acts_847 : decode cL_acts 847 = .ok (.invokevirtual 80, 3) := by decide +kernel
theorem dL_acts_850 : decode cL_acts 850 = .ok (.aload_n 0, 1) := by decide +kernel
theorem dL_acts_851 : decode cL_acts 851 = .ok (.bipush 7, 2) := by decide +kernel
theorem dL_acts_853 : decode cL_acts 853 = .ok (.invokevirtual 83, 3) := by decide +kernel
theorem dL_acts_856 : decode cL_acts 856 = .ok (.if_icmp .ne 7, 3) := by decide +kernel
theorem dL_acts_859 : decode cL_acts 859 = .ok (.iconst 1, 1) := by decide +kernel
theorem dL_acts_860 : decode cL_acts 860 = .ok (.goto 4, 3) := by decide +kernel
theorem dL_acts_863 : decode cL_acts 863 = .ok (.iconst 0, 1) := by decide +kernel
theorem dL_acts_864 : decode cL_acts 864 = .ok (.ireturn, 1) := by decide +kernel
theorem dL_acts_865 : decode cL_acts 865 = .ok (.iload 14, 2) := by decide +kernel
theorem dL_acts_867 : decode cL_acts 867 = .ok (.ifCond .ge 19, 3) := by decide +kernel
theorem dL_acts_870 : decode cL_acts 870 = .ok (.aload_n 0, 1) := by decide +kernel
theorem dL_acts_871 : decode cL_acts 871 = .ok (.iconst 0, 1) := by decide +kernel
theorem dL_acts_872 : decode cL_acts 872 = .ok (.iconst 0, 1) := by decide +kernel
theorem dL_acts_873 : decode cL_acts 873 = .ok (.invokevirtual 86, 3) := by decide +kernel
theorem dL_acts_876 : decode cL_acts 876 = .ok (.iconst (-1), 1) := by decide +kernel
theorem dL_acts_877 : decode cL_acts 877 = .ok (.if_icmp .ne 7, 3) := by decide +kernel
theorem dL_acts_880 : decode cL_acts 880 = .ok (.iconst 1, 1) := by decide +kernel
theorem dL_acts_881 : decode cL_acts 881 = .ok (.goto 4, 3) := by decide +kernel
theorem dL_acts_884 : decode cL_acts 884 = .ok (.iconst 0, 1) := by decide +kernel
theorem dL_acts_885 : decode cL_acts 885 = .ok (.ireturn, 1) := by decide +kernel
theorem dL_acts_886 : decode cL_acts 886 = .ok (.iload 6, 2) := by decide +kernel
theorem dL_acts_888 : decode cL_acts 888 = .ok (.iconst 2, 1) := by decide +kernel
theorem dL_acts_889 : decode cL_acts 889 = .ok (.irem, 1) := by decide +kernel
theorem dL_acts_890 : decode cL_acts 890 = .ok (.ifCond .ne 7, 3) := by decide +kernel
theorem dL_acts_893 : decode cL_acts 893 = .ok (.iconst 1, 1) := by decide +kernel
theorem dL_acts_894 : decode cL_acts 894 = .ok (.goto 4, 3) := by decide +kernel
theorem dL_acts_897 : decode cL_acts 897 = .ok (.iconst 0, 1) := by decide +kernel
theorem dL_acts_898 : decode cL_acts 898 = .ok (.istore 29, 2) := by decide +kernel
theorem dL_acts_900 : decode cL_acts 900 = .ok (.iload 29, 2) := by decide +kernel
theorem dL_acts_902 : decode cL_acts 902 = .ok (.ifCond .eq 11, 3) := by decide +kernel
theorem dL_acts_905 : decode cL_acts 905 = .ok (.iload 14, 2) := by decide +kernel
theorem dL_acts_907 : decode cL_acts 907 = .ok (.bipush 10, 2) := by decide +kernel
theorem dL_acts_909 : decode cL_acts 909 = .ok (.irem, 1) := by decide +kernel
theorem dL_acts_910 : decode cL_acts 910 = .ok (.goto 9, 3) := by decide +kernel
theorem dL_acts_913 : decode cL_acts 913 = .ok (.aload_n 1, 1) := by decide +kernel
theorem dL_acts_914 : decode cL_acts 914 = .ok (.iload 14, 2) := by decide +kernel
theorem dL_acts_916 : decode cL_acts 916 = .ok (.invokestatic 23, 3) := by decide +kernel
theorem dL_acts_919 : decode cL_acts 919 = .ok (.istore 30, 2) := by decide +kernel
theorem dL_acts_921 : decode cL_acts 921 = .ok (.iload 29, 2) := by decide +kernel
theorem dL_acts_923 : decode cL_acts 923 = .ok (.ifCond .eq 12, 3) := by decide +kernel
theorem dL_acts_926 : decode cL_acts 926 = .ok (.aload_n 1, 1) := by decide +kernel
theorem dL_acts_927 : decode cL_acts 927 = .ok (.iload 14, 2) := by decide +kernel
theorem dL_acts_929 : decode cL_acts 929 = .ok (.invokestatic 23, 3) := by decide +kernel
theorem dL_acts_932 : decode cL_acts 932 = .ok (.goto 8, 3) := by decide +kernel
theorem dL_acts_935 : decode cL_acts 935 = .ok (.iload 14, 2) := by decide +kernel
theorem dL_acts_937 : decode cL_acts 937 = .ok (.bipush 10, 2) := by decide +kernel
theorem dL_acts_939 : decode cL_acts 939 = .ok (.irem, 1) := by decide +kernel
theorem dL_acts_940 : decode cL_acts 940 = .ok (.istore 31, 2) := by decide +kernel
theorem dL_acts_942 : decode cL_acts 942 = .ok (.iload 29, 2) := by decide +kernel
theorem dL_acts_944 : decode cL_acts 944 = .ok (.ifCond .eq 18, 3) := by decide +kernel
theorem dL_acts_947 : decode cL_acts 947 = .ok (.iload 14, 2) := by decide +kernel
theorem dL_acts_949 : decode cL_acts 949 = .ok (.bipush 10, 2) := by decide +kernel
theorem dL_acts_951 : decode cL_acts 951 = .ok (.if_icmp .ge 7, 3) := by decide +kernel
theorem dL_acts_954 : decode cL_acts 954 = .ok (.iconst 3, 1) := by decide +kernel
theorem dL_acts_955 : decode cL_acts 955 = .ok (.goto 19, 3) := by decide +kernel
theorem dL_acts_958 : decode cL_acts 958 = .ok (.iconst 0, 1) := by decide +kernel
theorem dL_acts_959 : decode cL_acts 959 = .ok (.goto 15, 3) := by decide +kernel
theorem dL_acts_962 : decode cL_acts 962 = .ok (.iload 14, 2) := by decide +kernel
theorem dL_acts_964 : decode cL_acts 964 = .ok (.bipush 10, 2) := by decide +kernel
theorem dL_acts_966 : decode cL_acts 966 = .ok (.if_icmp .ge 7, 3) := by decide +kernel
theorem dL_acts_969 : decode cL_acts 969 = .ok (.iconst 1, 1) := by decide +kernel
theorem dL_acts_970 : decode cL_acts 970 = .ok (.goto 4, 3) := by decide +kernel
theorem dL_acts_973 : decode cL_acts 973 = .ok (.iconst 2, 1) := by decide +kernel
theorem dL_acts_974 : decode cL_acts 974 = .ok (.istore 32, 2) := by decide +kernel
theorem dL_acts_976 : decode cL_acts 976 = .ok (.iload 29, 2) := by decide +kernel
theorem dL_acts_978 : decode cL_acts 978 = .ok (.ifCond .eq 18, 3) := by decide +kernel
theorem dL_acts_981 : decode cL_acts 981 = .ok (.iload 14, 2) := by decide +kernel
theorem dL_acts_983 : decode cL_acts 983 = .ok (.bipush 10, 2) := by decide +kernel
theorem dL_acts_985 : decode cL_acts 985 = .ok (.if_icmp .ge 7, 3) := by decide +kernel
theorem dL_acts_988 : decode cL_acts 988 = .ok (.iconst 1, 1) := by decide +kernel
theorem dL_acts_989 : decode cL_acts 989 = .ok (.goto 19, 3) := by decide +kernel
theorem dL_acts_992 : decode cL_acts 992 = .ok (.iconst 2, 1) := by decide +kernel
theorem dL_acts_993 : decode cL_acts 993 = .ok (.goto 15, 3) := by decide +kernel
theorem dL_acts_996 : decode cL_acts 996 = .ok (.iload 14, 2) := by decide +kernel
theorem dL_acts_998 : decode cL_acts 998 = .ok (.bipush 10, 2) := by decide +kernel
theorem dL_acts_1000 : decode cL_acts 1000 = .ok (.if_icmp .ge 7, 3) := by decide +kernel
theorem dL_acts_1003 : decode cL_acts 1003 = .ok (.iconst 3, 1) := by decide +kernel
theorem dL_acts_1004 : decode cL_acts 1004 = .ok (.goto 4, 3) := by decide +kernel
theorem dL_acts_1007 : decode cL_acts 1007 = .ok (.iconst 0, 1) := by decide +kernel
theorem dL_acts_1008 : decode cL_acts 1008 = .ok (.istore 33, 2) := by decide +kernel
theorem dL_acts_1010 : decode cL_acts 1010 = .ok (.aload_n 3, 1) := by decide +kernel
theorem dL_acts_1011 : decode cL_acts 1011 = .ok (.iconst 4, 1) := by decide +kernel
theorem dL_acts_1012 : decode cL_acts 1012 = .ok (.iload 31, 2) := by decide +kernel
theorem dL_acts_1014 : decode cL_acts 1014 = .ok (.imul, 1) := by decide +kernel
theorem dL_acts_1015 : decode cL_acts 1015 = .ok (.iload 32, 2) := by decide +kernel
theorem dL_acts_1017 : decode cL_acts 1017 = .ok (.iadd, 1) := by decide +kernel
theorem dL_acts_1018 : decode cL_acts 1018 = .ok (.laload, 1) := by decide +kernel
theorem dL_acts_1019 : decode cL_acts 1019 = .ok (.lstore 34, 2) := by decide +kernel
theorem dL_acts_1021 : decode cL_acts 1021 = .ok (.iconst 0, 1) := by decide +kernel
theorem dL_acts_1022 : decode cL_acts 1022 = .ok (.istore 36, 2) := by decide +kernel
theorem dL_acts_1024 : decode cL_acts 1024 = .ok (.iconst 0, 1) := by decide +kernel
theorem dL_acts_1025 : decode cL_acts 1025 = .ok (.istore 37, 2) := by decide +kernel
theorem dL_acts_1027 : decode cL_acts 1027 = .ok (.iconst 0, 1) := by decide +kernel
