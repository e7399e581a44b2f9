theorem dL_refuses_772 : decode cL_refuses 772 = .ok (.iconst 0, 1) := by decide +kernel
theorem dL_refuses_773 : decode cL_refuses 773 = .ok (.iconst 0, 1) := by decide +kernel
theorem dL_refuses_774 : decode cL_refuses 774 = .ok (.iconst 0, 1) := by decide +kernel
theorem dL_refuses_775 : decode cL_refuses 775 = .ok (.invokestatic 86, 3) := by decide +kernel
theorem dL_refuses_778 : decode cL_refuses 778 = .ok (.ldc 75, 2) := by decide +kernel
theorem dL_refuses_780 : decode cL_refuses 780 = .ok (.if_icmp .ne 155, 3) := by decide +kernel
theorem dL_refuses_783 : decode cL_refuses 783 = .ok (.aload_n 0, 1) := by decide +kernel
theorem dL_refuses_784 : decode cL_refuses 784 = .ok (.bipush 17, 2) := by decide +kernel
theorem dL_refuses_786 : decode cL_refuses 786 = .ok (.iconst 0, 1) := by decide +kernel
theorem dL_refuses_787 : decode cL_refuses 787 = .ok (.iload_n 3, 1) := by decide +kernel
theorem dL_refuses_788 : decode cL_refuses 788 = .ok (.iconst 1, 1) := by decide +kernel
theorem dL_refuses_789 : decode cL_refuses 789 = .ok (.if_icmp .ne 7, 3) := by decide +kernel
theorem dL_refuses_792 : decode cL_refuses 792 = .ok (.iconst 2, 1) := by decide +kernel
theorem dL_refuses_793 : decode cL_refuses 793 = .ok (.goto 5, 3) := by decide +kernel
theorem dL_refuses_796 : decode cL_refuses 796 = .ok (.iload 4, 2) := by decide +kernel
theorem dL_refuses_798 : decode cL_refuses 798 = .ok (.iconst 5, 1) := by decide +kernel
theorem dL_refuses_799 : decode cL_refuses 799 = .ok (.iconst 0, 1) := by decide +kernel
theorem dL_refuses_800 : decode cL_refuses 800 = .ok (.invokestatic 86, 3) := by decide +kernel
theorem dL_refuses_803 : decode cL_refuses 803 = .ok (.ldc 78, 2) := by decide +kernel
theorem dL_refuses_805 : decode cL_refuses 805 = .ok (.if_icmp .ne 130, 3) := by decide +kernel
theorem dL_refuses_808 : decode cL_refuses 808 = .ok (.aload_n 0, 1) := by decide +kernel
theorem dL_refuses_809 : decode cL_refuses 809 = .ok (.bipush 17, 2) := by decide +kernel
theorem dL_refuses_811 : decode cL_refuses 811 = .ok (.iconst 0, 1) := by decide +kernel
theorem dL_refuses_812 : decode cL_refuses 812 = .ok (.iconst 0, 1) := by decide +kernel
theorem dL_refuses_813 : decode cL_refuses 813 = .ok (.iload_n 3, 1) := by decide +kernel
theorem dL_refuses_814 : decode cL_refuses 814 = .ok (.ifCond .ne 7, 3) := by decide +kernel
theorem dL_refuses_817 : decode cL_refuses 817 = .ok (.iconst 1, 1) := by decide +kernel
theorem dL_refuses_818 : decode cL_refuses 818 = .ok (.goto 15, 3) := by decide +kernel
theorem dL_refuses_821 : decode cL_refuses 821 = .ok (.iload_n 3, 1) := by decide +kernel
theorem dL_refuses_822 : decode cL_refuses 822 = .ok (.iconst 1, 1) := by decide +kernel
theorem dL_refuses_823 : decode cL_refuses 823 = .ok (.if_icmp .ne 8, 3) := by decide +kernel
theorem dL_refuses_826 : decode cL_refuses 826 = .ok (.bipush 100, 2) := by decide +kernel
theorem dL_refuses_828 : decode cL_refuses 828 = .ok (.goto 5, 3) := by decide +kernel
theorem dL_refuses_831 : decode cL_refuses 831 = .ok (.iload 4, 2) := by decide +kernel
theorem dL_refuses_833 : decode cL_refuses 833 = .ok (.iconst 0, 1) := by decide +kernel
theorem dL_refuses_834 : decode cL_refuses 834 = .ok (.invokestatic 86, 3) := by decide +kernel
theorem dL_refuses_837 : decode cL_refuses 837 = .ok (.ldc 78, 2) := by decide +kernel
theorem dL_refuses_839 : decode cL_refuses 839 = .ok (.if_icmp .ne 96, 3) := by decide +kernel
theorem dL_refuses_842 : decode cL_refuses 842 = .ok (.aload_n 0, 1) := by decide +kernel
theorem dL_refuses_843 : decode cL_refuses 843 = .ok (.bipush 18, 2) := by decide +kernel
theorem dL_refuses_845 : decode cL_refuses 845 = .ok (.iload 5, 2) := by decide +kernel
theorem dL_refuses_847 : decode cL_refuses 847 = .ok (.iconst 0, 1) := by decide +kernel
theorem dL_refuses_848 : decode cL_refuses 848 = .ok (.iconst 0, 1) := by decide +kernel
theorem dL_refuses_849 : decode cL_refuses 849 = .ok (.iconst 0, 1) := by decide +kernel
theorem dL_refuses_850 : decode cL_refuses 850 = .ok (.invokestatic 86, 3) := by decide +kernel
theorem dL_refuses_853 : decode cL_refuses 853 = .ok (.ldc 75, 2) := by decide +kernel
theorem dL_refuses_855 : decode cL_refuses 855 = .ok (.if_icmp .ne 80, 3) := by decide +kernel
theorem dL_refuses_858 : decode cL_refuses 858 = .ok (.aload_n 0, 1) := by decide +kernel
theorem dL_refuses_859 : decode cL_refuses 859 = .ok (.bipush 18, 2) := by decide +kernel
theorem dL_refuses_861 : decode cL_refuses 861 = .ok (.iconst 0, 1) := by decide +kernel
theorem dL_refuses_862 : decode cL_refuses 862 = .ok (.iload 5, 2) := by decide +kernel
theorem dL_refuses_864 : decode cL_refuses 864 = .ok (.iconst 0, 1) := by decide +kernel
theorem dL_refuses_865 : decode cL_refuses 865 = .ok (.iconst 0, 1) := by decide +kernel
theorem dL_refuses_866 : decode cL_refuses 866 = .ok (.invokestatic 86, 3) := by decide +kernel
theorem dL_refuses_869 : decode cL_refuses 869 = .ok (.ldc 75, 2) := by decide +kernel
theorem dL_refuses_871 : decode cL_refuses 871 = .ok (.if_icmp .ne 64, 3) := by decide +kernel
theorem dL_refuses_874 : decode cL_refuses 874 = .ok (.aload_n 0, 1) := by decide +kernel
theorem dL_refuses_875 : decode cL_refuses 875 = .ok (.bipush 19, 2) := by decide +kernel
theorem dL_refuses_877 : decode cL_refuses 877 = .ok (.iconst 0, 1) := by decide +kernel
theorem dL_refuses_878 : decode cL_refuses 878 = .ok (.iload_n 3, 1) := by decide +kernel
theorem dL_refuses_879 : decode cL_refuses 879 = .ok (.iconst 1, 1) := by decide +kernel
theorem dL_refuses_880 : decode cL_refuses 880 = .ok (.if_icmp .ne 8, 3) := by decide +kernel
theorem dL_refuses_883 : decode cL_refuses 883 = .ok (.bipush 16, 2) := by decide +kernel
theorem dL_refuses_885 : decode cL_refuses 885 = .ok (.goto 5, 3) := by decide +kernel
theorem dL_refuses_888 : decode cL_refuses 888 = .ok (.iload 4, 2) := by decide +kernel
theorem dL_refuses_890 : decode cL_refuses 890 = .ok (.iconst 0, 1) := by decide +kernel
theorem dL_refuses_891 : decode cL_refuses 891 = .ok (.iconst 0, 1) := by decide +kernel
theorem dL_refuses_892 : decode cL_refuses 892 = .ok (.invokestatic 86, 3) := by decide +kernel
theorem dL_refuses_895 : decode cL_refuses 895 = .ok (.ldc 75, 2) := by decide +kernel
theorem dL_refuses_897 : decode cL_refuses 897 = .ok (.if_icmp .ne 38, 3) := by decide +kernel
theorem dL_refuses_900 : decode cL_refuses 900 = .ok (.aload_n 0, 1) := by decide +kernel
theorem dL_refuses_901 : decode cL_refuses 901 = .ok (.bipush 19, 2) := by decide +kernel
theorem dL_refuses_903 : decode cL_refuses 903 = .ok (.iload 7, 2) := by decide +kernel
theorem dL_refuses_905 : decode cL_refuses 905 = .ok (.iconst 0, 1) := by decide +kernel
theorem dL_refuses_906 : decode cL_refuses 906 = .ok (.iconst 0, 1) := by decide +kernel
theorem dL_refuses_907 : decode cL_refuses 907 = .ok (.iconst 0, 1) := by decide +kernel
theorem dL_refuses_908 : decode cL_refuses 908 = .ok (.invokestatic 86, 3) := by decide +kernel
theorem dL_refuses_911 : decode cL_refuses 911 = .ok (.ldc 78, 2) := by decide +kernel
theorem dL_refuses_913 : decode cL_refuses 913 = .ok (.if_icmp .ne 22, 3) := by decide +kernel
theorem dL_refuses_916 : decode cL_refuses 916 = .ok (.aload_n 0, 1) := by decide +kernel
theorem dL_refuses_917 : decode cL_refuses 917 = .ok (.bipush 19, 2) := by decide +kernel
theorem dL_refuses_919 : decode cL_refuses 919 = .ok (.iconst (-1), 1) := by decide +kernel
theorem dL_refuses_920 : decode cL_refuses 920 = .ok (.iconst (-1), 1) := by decide +kernel
theorem dL_refuses_921 : decode cL_refuses 921 = .ok (.iconst 0, 1) := by decide +kernel
theorem dL_refuses_922 : decode cL_refuses 922 = .ok (.iconst 0, 1) := by decide +kernel
theorem dL_refuses_923 : decode cL_refuses 923 = .ok (.invokestatic 86, 3) := by decide +kernel
theorem dL_refuses_926 : decode cL_refuses 926 = .ok (.ldc 75, 2) := by decide +kernel
theorem dL_refuses_928 : decode cL_refuses 928 = .ok (.if_icmp .ne 7, 3) := by decide +kernel
theorem dL_refuses_931 : decode cL_refuses 931 = .ok (.iconst 1, 1) := by decide +kernel
theorem dL_refuses_932 : decode cL_refuses 932 = .ok (.goto 4, 3) := by decide +kernel
theorem dL_refuses_935 : decode cL_refuses 935 = .ok (.iconst 0, 1) := by decide +kernel
theorem dL_refuses_936 : decode cL_refuses 936 = .ok (.istore 8, 2) := by decide +kernel
theorem dL_refuses_938 : decode cL_refuses 938 = .ok (.iconst 0, 1) := by decide +kernel
theorem dL_refuses_939 : decode cL_refuses 939 = .ok (.istore 9, 2) := by decide +kernel
theorem dL_refuses_941 : decode cL_refuses 941 = .ok (.iload 9, 2) := by decide +kernel
theorem dL_refuses_943 : decode cL_refuses 943 = .ok (.iconst 4, 1) := by decide +kernel
theorem dL_refuses_944 : decode cL_refuses 944 = .ok (.if_icmp .ge 247, 3) := by decide +kernel
theorem dL_refuses_947 : decode cL_refuses 947 = .ok (.iload 8, 2) := by decide +kernel
theorem dL_refuses_949 : decode cL_refuses 949 = .ok (.ifCond .eq 242, 3) := by decide +kernel
theorem dL_refuses_952 : decode cL_refuses 952 = .ok (.aload_n 0, 1) := by decide +kernel
theorem dL_refuses_953 : decode cL_refuses 953 = .ok (.iload 9, 2) := by decide +kernel
theorem dL_refuses_955 : decode cL_refuses 955 = .ok (.iconst 0, 1) := by decide +kernel
theorem dL_refuses_956 : decode cL_refuses 956 = .ok (.invokevirtual 46, 3) := by decide +kernel
theorem dL_refuses_959 : decode cL_refuses 959 = .ok (.istore 10, 2) := by decide +kernel
theorem dL_refuses_961 : decode cL_refuses 961 = .ok (.iload_n 3, 1) := by decide +kernel
theorem dL_refuses_962 : decode cL_refuses 962 = .ok (.iconst 1, 1) := by decide +kernel
theorem dL_refuses_963 : decode cL_refuses 963 = .ok (.if_icmp .ne 8, 3) := by decide +kernel
theorem dL_refuses_966 : decode cL_refuses 966 = .ok (.iload 10, 2) := by decide +kernel
theorem dL_refuses_968 : decode cL_refuses 968 = .ok (.goto 5, 3) := by decide +kernel
theorem dL_refuses_971 : decode cL_refuses 971 = .ok (.iload 4, 2) := by decide +kernel
theorem dL_refuses_973 : decode cL_refuses 973 = .ok (.istore 11, 2) := by decide +kernel
theorem dL_refuses_975 : decode cL_refuses 975 = .ok (.aload_n 0, 1) := by decide +kernel
theorem dL_refuses_976 : decode cL_refuses 976 = .ok (.iconst 1, 1) := by decide +kernel
theorem dL_refuses_977 : decode cL_refuses 977 = .ok (.iload 9, 2) := by decide +kernel
theorem dL_refuses_979 : decode cL_refuses 979 = .ok (.iconst 0, 1) := by decide +kernel
theorem dL_refuses_980 : decode cL_refuses 980 = .ok (.iload 11, 2) := by decide +kernel
theorem dL_refuses_982 : decode cL_refuses 982 = .ok (.iconst 0, 1) := by decide +kernel
theorem dL_refuses_983 : decode cL_refuses 983 = .ok (.invokestatic 86, 3) := by decide +kernel
theorem dL_refuses_986 : decode cL_refuses 986 = .ok (.ldc 75, 2) := by decide +kernel
theorem dL_refuses_988 : decode cL_refuses 988 = .ok (.if_icmp .ne 194, 3) := by decide +kernel
theorem dL_refuses_991 : decode cL_refuses 991 = .ok (.aload_n 0, 1) := by decide +kernel
theorem dL_refuses_992 : decode cL_refuses 992 = .ok (.iconst 1, 1) := by decide +kernel
theorem dL_refuses_993 : decode cL_refuses 993 = .ok (.iload 9, 2) := by decide +kernel
theorem dL_refuses_995 : decode cL_refuses 995 = .ok (.iconst 0, 1) := by decide +kernel
theorem dL_refuses_996 : decode cL_refuses 996 = .ok (.iconst 0, 1) := by decide +kernel
theorem dL_refuses_997 : decode cL_refuses 997 = .ok (.iload 11, 2) := by decide +kernel
theorem dL_refuses_999 : decode cL_refuses 999 = .ok (.invokestatic 86, 3) := by decide +kernel
theorem dL_refuses_1002 : decode cL_refuses 1002 = .ok (.ldc 75, 2) := by decide +kernel
theorem dL_refuses_1004 : decode cL_refuses 1004 = .ok (.if_icmp .ne 178, 3) := by decide +kernel
theorem dL_refuses_1007 : decode cL_refuses 1007 = .ok (.aload_n 0, 1) := by decide +kernel
theorem dL_refuses_1008 : decode cL_refuses 1008 = .ok (.iconst 1, 1) := by decide +kernel
theorem dL_refuses_1009 : decode cL_refuses 1009 = .ok (.iload 9, 2) := by decide +kernel
theorem dL_refuses_1011 : decode cL_refuses 1011 = .ok (.iconst 3, 1) := by decide +kernel
theorem dL_refuses_1012 : decode cL_refuses 1012 = .ok (.iload 11, 2) := by decide +kernel
theorem dL_refuses_1014 : decode cL_refuses 1014 = .ok (.iconst 0, 1) := by decide +kernel
theorem dL_refuses_1015 : decode cL_refuses 1015 = .ok (.invokestatic 86, 3) := by decide +kernel
theorem dL_refuses_1018 : decode cL_refuses 1018 = .ok (.ldc 75, 2) := by decide +kernel
theorem dL_refuses_1020 : decode cL_refuses 1020 = .ok (.if_icmp .ne 162, 3) := by decide +kernel
theorem dL_refuses_1023 : decode cL_refuses 1023 = .ok (.aload_n 0, 1) := by decide +kernel
theorem dL_refuses_1024 : decode cL_refuses 1024 = .ok (.iconst 2, 1) := by decide +kernel
theorem dL_refuses_1025 : decode cL_refuses 1025 = .ok (.iload 9, 2) := by decide +kernel
theorem dL_refuses_1027 : decode cL_refuses 1027 = .ok (.iload 11, 2) := by decide +kernel
theorem dL_refuses_1029 : decode cL_refuses 1029 = .ok (.iconst 0, 1) := by decide +kernel
theorem dL_refuses_1030 : decode cL_refuses 1030 = .ok (.iconst 0, 1) := by decide +kernel
theorem dL_refuses_1031 : decode cL_refuses 1031 = .ok (.invokestatic 86, 3) := by decide +kernel
theorem dL_refuses_1034 : decode cL_refuses 1034 = .ok (.ldc 75, 2) := by decide +kernel
theorem dL_refuses_1036 : decode cL_refuses 1036 = .ok (.if_icmp .ne 146, 3) := by decide +kernel
theorem dL_refuses_1039 : decode cL_refuses 1039 = .ok (.aload_n 0, 1) := by decide +kernel
theorem dL_refuses_1040 : decode cL_refuses 1040 = .ok (.bipush 7, 2) := by decide +kernel
theorem dL_refuses_1042 : decode cL_refuses 1042 = .ok (.iload 9, 2) := by decide +kernel
theorem dL_refuses_1044 : decode cL_refuses 1044 = .ok (.iload 11, 2) := by decide +kernel
theorem dL_refuses_1046 : decode cL_refuses 1046 = .ok (.bipush 9, 2) := by decide +kernel
theorem dL_refuses_1048 : decode cL_refuses 1048 = .ok (.iconst 0, 1) := by decide +kernel
theorem dL_refuses_1049 : decode cL_refuses 1049 = .ok (.invokestatic 86, 3) := by decide +kernel
theorem dL_refuses_1052 : decode cL_refuses 1052 = .ok (.ldc 75, 2) := by decide +kernel
theorem dL_refuses_1054 : decode cL_refuses 1054 = .ok (.if_icmp .ne 128, 3) := by decide +kernel
theorem dL_refuses_1057 : decode cL_refuses 1057 = .ok (.aload_n 0, 1) := by decide +kernel
theorem dL_refuses_1058 : decode cL_refuses 1058 = .ok (.bipush 8, 2) := by decide +kernel
theorem dL_refuses_1060 : decode cL_refuses 1060 = .ok (.iload 9, 2) := by decide +kernel
theorem dL_refuses_1062 : decode cL_refuses 1062 = .ok (.iload 11, 2) := by decide +kernel
theorem dL_refuses_1064 : decode cL_refuses 1064 = .ok (.iconst (-1), 1) := by decide +kernel
theorem dL_refuses_1065 : decode cL_refuses 1065 = .ok (.iconst 0, 1) := by decide +kernel
theorem dL_refuses_1066 : decode cL_refuses 1066 = .ok (.invokestatic 86, 3) := by decide +kernel
theorem dL_refuses_1069 : decode cL_refuses 1069 = .ok (.ldc 75, 2) := by decide +kernel
theorem dL_refuses_1071 : decode cL_refuses 1071 = .ok (.if_icmp .ne 111, 3) := by decide +kernel
theorem dL_refuses_1074 : decode cL_refuses 1074 = .ok (.aload_n 0, 1) := by decide +kernel
theorem dL_refuses_1075 : decode cL_refuses 1075 = .ok (.bipush 12, 2) := by decide +kernel
theorem dL_refuses_1077 : decode cL_refuses 1077 = .ok (.iload 9, 2) := by decide +kernel
theorem dL_refuses_1079 : decode cL_refuses 1079 = .ok (.iload 11, 2) := by decide +kernel
theorem dL_refuses_1081 : decode cL_refuses 1081 = .ok (.iconst 0, 1) := by decide +kernel
theorem dL_refuses_1082 : decode cL_refuses 1082 = .ok (.iconst 0, 1) := by decide +kernel
theorem dL_refuses_1083 : decode cL_refuses 1083 = .ok (.invokestatic 86, 3) := by decide +kernel
theorem dL_refuses_1086 : decode cL_refuses 1086 = .ok (.ldc 75, 2) := by decide +kernel
theorem dL_refuses_1088 : decode cL_refuses 1088 = .ok (.if_icmp .ne 94, 3) := by decide +kernel
theorem dL_refuses_1091 : decode cL_refuses 1091 = .ok (.iload 10, 2) := by decide +kernel
theorem dL_refuses_1093 : decode cL_refuses 1093 = .ok (.ifCond .eq 85, 3) := by decide +kernel
theorem dL_refuses_1096 : decode cL_refuses 1096 = .ok (.aload_n 0, 1) := by decide +kernel
theorem dL_refuses_1097 : decode cL_refuses 1097 = .ok (.bipush 7, 2) := by decide +kernel
theorem dL_refuses_1099 : decode cL_refuses 1099 = .ok (.iload 9, 2) := by decide +kernel
theorem dL_refuses_1101 : decode cL_refuses 1101 = .ok (.iconst 0, 1) := by decide +kernel
theorem dL_refuses_1102 : decode cL_refuses 1102 = .ok (.iload_n 3, 1) := by decide +kernel
theorem dL_refuses_1103 : decode cL_refuses 1103 = .ok (.ifCond .ne 8, 3) := by decide +kernel
theorem dL_refuses_1106 : decode cL_refuses 1106 = .ok (.bipush (-2), 2) := by decide +kernel
theorem dL_refuses_1108 : decode cL_refuses 1108 = .ok (.goto 14, 3) := by decide +kernel
theorem dL_refuses_1111 : decode cL_refuses 1111 = .ok (.iload_n 3, 1) := by decide +kernel
theorem dL_refuses_1112 : decode cL_refuses 1112 = .ok (.iconst 1, 1) := by decide +kernel
theorem dL_refuses_1113 : decode cL_refuses 1113 = .ok (.if_icmp .ne 7, 3) := by decide +kernel
theorem dL_refuses_1116 : decode cL_refuses 1116 = .ok (.iconst 2, 1) := by decide +kernel
theorem dL_refuses_1117 : decode cL_refuses 1117 = .ok (.goto 5, 3) := by decide +kernel
theorem dL_refuses_1120 : decode cL_refuses 1120 = .ok (.iload 4, 2) := by decide +kernel
theorem dL_refuses_1122 : decode cL_refuses 1122 = .ok (.iconst 0, 1) := by decide +kernel
theorem dL_refuses_1123 : decode cL_refuses 1123 = .ok (.invokestatic 86, 3) := by decide +kernel
theorem dL_refuses_1126 : decode cL_refuses 1126 = .ok (.ldc 78, 2) := by decide +kernel
theorem dL_refuses_1128 : decode cL_refuses 1128 = .ok (.if_icmp .ne 54, 3) := by decide +kernel
theorem dL_refuses_1131 : decode cL_refuses 1131 = .ok (.aload_n 0, 1) := by decide +kernel
theorem dL_refuses_1132 : decode cL_refuses 1132 = .ok (.bipush 8, 2) := by decide +kernel
theorem dL_refuses_1134 : decode cL_refuses 1134 = .ok (.iload 9, 2) := by decide +kernel
theorem dL_refuses_1136 : decode cL_refuses 1136 = .ok (.iconst 0, 1) := by decide +kernel
theorem dL_refuses_1137 : decode cL_refuses 1137 = .ok (.iload 6, 2) := by decide +kernel
theorem dL_refuses_1139 : decode cL_refuses 1139 = .ok (.iconst 0, 1) := by decide +kernel
theorem dL_refuses_1140 : decode cL_refuses 1140 = .ok (.invokestatic 86, 3) := by decide +kernel
theorem dL_refuses_1143 : decode cL_refuses 1143 = .ok (.ldc 78, 2) := by decide +kernel
theorem dL_refuses_1145 : decode cL_refuses 1145 = .ok (.if_icmp .ne 37, 3) := by decide +kernel
theorem dL_refuses_1148 : decode cL_refuses 1148 = .ok (.aload_n 0, 1) := by decide +kernel
theorem dL_refuses_1149 : decode cL_refuses 1149 = .ok (.iconst 3, 1) := by decide +kernel
theorem dL_refuses_1150 : decode cL_refuses 1150 = .ok (.iload 9, 2) := by decide +kernel
theorem dL_refuses_1152 : decode cL_refuses 1152 = .ok (.iconst 0, 1) := by decide +kernel
theorem dL_refuses_1153 : decode cL_refuses 1153 = .ok (.iconst 1, 1) := by decide +kernel
theorem dL_refuses_1154 : decode cL_refuses 1154 = .ok (.iconst 0, 1) := by decide +kernel
theorem dL_refuses_1155 : decode cL_refuses 1155 = .ok (.invokestatic 86, 3) := by decide +kernel
theorem dL_refuses_1158 : decode cL_refuses 1158 = .ok (.ldc 81, 2) := by decide +kernel
theorem dL_refuses_1160 : decode cL_refuses 1160 = .ok (.if_icmp .ne 22, 3) := by decide +kernel
theorem dL_refuses_1163 : decode cL_refuses 1163 = .ok (.aload_n 0, 1) := by decide +kernel
theorem dL_refuses_1164 : decode cL_refuses 1164 = .ok (.iconst 4, 1) := by decide +kernel
theorem dL_refuses_1165 : decode cL_refuses 1165 = .ok (.iload 9, 2) := by decide +kernel
theorem dL_refuses_1167 : decode cL_refuses 1167 = .ok (.iconst 1, 1) := by decide +kernel
theorem dL_refuses_1168 : decode cL_refuses 1168 = .ok (.iconst 0, 1) := by decide +kernel
theorem dL_refuses_1169 : decode cL_refuses 1169 = .ok (.iconst 0, 1) := by decide +kernel
theorem dL_refuses_1170 : decode cL_refuses 1170 = .ok (.invokestatic 86, 3) := by decide +kernel
theorem dL_refuses_1173 : decode cL_refuses 1173 = .ok (.ldc 81, 2) := by decide +kernel
theorem dL_refuses_1175 : decode cL_refuses 1175 = .ok (.if_icmp .ne 7, 3) := by decide +kernel
theorem dL_refuses_1178 : decode cL_refuses 1178 = .ok (.iconst 1, 1) := by decide +kernel
theorem dL_refuses_1179 : decode cL_refuses 1179 = .ok (.goto 4, 3) := by decide +kernel
theorem dL_refuses_1182 : decode cL_refuses 1182 = .ok (.iconst 0, 1) := by decide +kernel
theorem dL_refuses_1183 : decode cL_refuses 1183 = .ok (.istore 8, 2) := by decide +kernel
theorem dL_refuses_1185 : decode cL_refuses 1185 = .ok (.iinc 9 1, 3) := by decide +kernel
theorem dL_refuses_1188 : decode cL_refuses 1188 = .ok (.goto (-247), 3) := by decide +kernel
theorem dL_refuses_1191 : decode cL_refuses 1191 = .ok (.iload 8, 2) := by decide +kernel
theorem dL_refuses_1193 : decode cL_refuses 1193 = .ok (.ifCond .ne 5, 3) := by decide +kernel
theorem dL_refuses_1196 : decode cL_refuses 1196 = .ok (.iconst 0, 1) := by decide +kernel
theorem dL_refuses_1197 : decode cL_refuses 1197 = .ok (.ireturn, 1) := by decide +kernel
theorem dL_refuses_1198 : decode cL_refuses 1198 = .ok (.iinc 3 1, 3) := by decide +kernel
theorem dL_refuses_1201 : decode cL_refuses 1201 = .ok (.goto (-1158), 3) := by decide +kernel
theorem dL_refuses_1204 : decode cL_refuses 1204 = .ok (.iload_n 2, 1) := by decide +kernel
theorem dL_refuses_1205 : decode cL_refuses 1205 = .ok (.aload_n 0, 1) := by decide +kernel
theorem dL_refuses_1206 : decode cL_refuses 1206 = .ok (.iconst 0, 1) := by decide +kernel
theorem dL_refuses_1207 : decode cL_refuses 1207 = .ok (.iconst 0, 1) := by decide +kernel
theorem dL_refuses_1208 : decode cL_refuses 1208 = .ok (.invokevirtual 46, 3) := by decide +kernel
theorem dL_refuses_1211 : decode cL_refuses 1211 = .ok (.sipush 200, 3) := by decide +kernel
theorem dL_refuses_1214 : decode cL_refuses 1214 = .ok (.aload_n 0, 1) := by decide +kernel
theorem dL_refuses_1215 : decode cL_refuses 1215 = .ok (.iconst 1, 1) := by decide +kernel
theorem dL_refuses_1216 : decode cL_refuses 1216 = .ok (.iconst 0, 1) := by decide +kernel
theorem dL_refuses_1217 : decode cL_refuses 1217 = .ok (.invokevirtual 46, 3) := by decide +kernel
theorem dL_refuses_1220 : decode cL_refuses 1220 = .ok (.imul, 1) := by decide +kernel
theorem dL_refuses_1221 : decode cL_refuses 1221 = .ok (.iadd, 1) := by decide +kernel
theorem dL_refuses_1222 : decode cL_refuses 1222 = .ok (.ldc 83, 2) := by decide +kernel
theorem dL_refuses_1224 : decode cL_refuses 1224 = .ok (.aload_n 0, 1) := by decide +kernel
theorem dL_refuses_1225 : decode cL_refuses 1225 = .ok (.iconst 2, 1) := by decide +kernel
theorem dL_refuses_1226 : decode cL_refuses 1226 = .ok (.iconst 0, 1) := by decide +kernel
theorem dL_refuses_1227 : decode cL_refuses 1227 = .ok (.invokevirtual 46, 3) := by decide +kernel
theorem dL_refuses_1230 : decode cL_refuses 1230 = .ok (.imul, 1) := by decide +kernel
theorem dL_refuses_1231 : decode cL_refuses 1231 = .ok (.iadd, 1) := by decide +kernel
theorem dL_refuses_1232 : decode cL_refuses 1232 = .ok (.ldc 84, 2) := by decide +kernel
theorem dL_refuses_1234 : decode cL_refuses 1234 = .ok (.aload_n 0, 1) := by decide +kernel
theorem dL_refuses_1235 : decode cL_refuses 1235 = .ok (.iconst 3, 1) := by decide +kernel
theorem dL_refuses_1236 : decode cL_refuses 1236 = .ok (.iconst 0, 1) := by decide +kernel
theorem dL_refuses_1237 : decode cL_refuses 1237 = .ok (.invokevirtual 46, 3) := by decide +kernel
theorem dL_refuses_1240 : decode cL_refuses 1240 = .ok (.imul, 1) := by decide +kernel
theorem dL_refuses_1241 : decode cL_refuses 1241 = .ok (.iadd, 1) := by decide +kernel
theorem dL_refuses_1242 : decode cL_refuses 1242 = .ok (.if_icmp .ne 7, 3) := by decide +kernel
theorem dL_refuses_1245 : decode cL_refuses 1245 = .ok (.iconst 1, 1) := by decide +kernel
theorem dL_refuses_1246 : decode cL_refuses 1246 = .ok (.goto 4, 3) := by decide +kernel
theorem dL_refuses_1249 : decode cL_refuses 1249 = .ok (.iconst 0, 1) := by decide +kernel
theorem dL_refuses_1250 : decode cL_refuses 1250 = .ok (.ireturn, 1) := by decide +kernel
set_option maxRecDepth 20000 in
theorem ggL_net_X11_ofNet : GoodIn wsL_net wsX11_ofNet := goodIn_ca (goodIn_ca (goodIn_r _ [5, 6, 7, 8, 9, 10, 11, 4, 12, 13, 14, 15, 16, 17, 18, 19, 20, 21, 22, 23, 24, 25, 26, 27, 28, 29, 30, 31, 32, 33, 34, 35, 36, 37, 38, 39, 40, 41, 42, 43, 44, 45, 46, 47, 48, 49, 50, 51, 52, 53, 54, 55, 56, 57, 58, 59, 60, 61, 62, 63, 64, 65, 66, 67, 68, 69, 70, 71, 72, 73, 74, 75, 76, 77, 78, 79, 80, 81, 82, 83, 84, 85, 86, 87, 88, 89, 90, 91, 92, 93, 94, 95, 96, 97, 98, 99, 100, 101, 102, 103, 104, 105, 106, 107, 108, 109, 110, 111, 112, 113, 114, 115, 116, 117, 118, 119, 120, 121, 122, 123, 124, 125, 126, 127, 128, 129, 130, 131, 132, 133, 134, 135, 136, 137, 138, 139, 140, 141, 142, 143, 144, 145, 146, 147, 148, 149, 150, 151, 152, 153, 154, 155, 156, 157, 158, 159, 160, 161] (by decide +kernel) (by decide +kernel)) (goodIn_sub (fun _ h => List.mem_cons_of_mem _ (List.mem_append_left _ (List.mem_append_right _ h))) (by decide +kernel))) (goodIn_sub (fun _ h => List.mem_cons_of_mem _ (List.mem_append_right _ h)) (by decide +kernel))
set_option maxRecDepth 20000 in
theorem gL_net_X11_ofNet : GoodIn wsL_net (wsV RL 46 RX11 yX11_ofNet wsX11_ofNet) := goodIn_app (goodIn_of _ (by decide +kernel)) ggL_net_X11_ofNet
theorem dL_net_0 : decode cL_net 0 = .ok (.aload_n 0, 1) := by decide +kernel
theorem dL_net_1 : decode cL_net 1 = .ok (.iload_n 1, 1) := by decide +kernel
theorem dL_net_2 : decode cL_net 2 = .ok (.iconst 0, 1) := by decide +kernel
theorem dL_net_3 : decode cL_net 3 = .ok (.invokevirtual 46, 3) := by decide +kernel
theorem dL_net_6 : decode cL_net 6 = .ok (.iload_n 2, 1) := by decide +kernel
theorem dL_net_7 : decode cL_net 7 = .ok (.if_icmp .ne 62, 3) := by decide +kernel
theorem dL_net_10 : decode cL_net 10 = .ok (.aload_n 0, 1) := by decide +kernel
theorem dL_net_11 : decode cL_net 11 = .ok (.iload_n 1, 1) := by decide +kernel
theorem dL_net_12 : decode cL_net 12 = .ok (.iconst 1, 1) := by decide +kernel
theorem dL_net_13 : decode cL_net 13 = .ok (.invokevirtual 46, 3) := by decide +kernel
theorem dL_net_16 : decode cL_net 16 = .ok (.iload_n 3, 1) := by decide +kernel
theorem dL_net_17 : decode cL_net 17 = .ok (.if_icmp .ne 52, 3) := by decide +kernel
theorem dL_net_20 : decode cL_net 20 = .ok (.aload_n 0, 1) := by decide +kernel
theorem dL_net_21 : decode cL_net 21 = .ok (.iload_n 1, 1) := by decide +kernel
theorem dL_net_22 : decode cL_net 22 = .ok (.iconst 2, 1) := by decide +kernel
theorem dL_net_23 : decode cL_net 23 = .ok (.invokevirtual 46, 3) := by decide +kernel
theorem dL_net_26 : decode cL_net 26 = .ok (.iload 4, 2) := by decide +kernel
theorem dL_net_28 : decode cL_net 28 = .ok (.if_icmp .ne 41, 3) := by decide +kernel
theorem dL_net_31 : decode cL_net 31 = .ok (.aload_n 0, 1) := by decide +kernel
theorem dL_net_32 : decode cL_net 32 = .ok (.iload_n 1, 1) := by decide +kernel
theorem dL_net_33 : decode cL_net 33 = .ok (.iconst 3, 1) := by decide +kernel
theorem dL_net_34 : decode cL_net 34 = .ok (.invokevirtual 46, 3) := by decide +kernel
theorem dL_net_37 : decode cL_net 37 = .ok (.iload 5, 2) := by decide +kernel
theorem dL_net_39 : decode cL_net 39 = .ok (.if_icmp .ne 30, 3) := by decide +kernel
theorem dL_net_42 : decode cL_net 42 = .ok (.aload_n 0, 1) := by decide +kernel
theorem dL_net_43 : decode cL_net 43 = .ok (.iload_n 1, 1) := by decide +kernel
theorem dL_net_44 : decode cL_net 44 = .ok (.iconst 4, 1) := by decide +kernel
theorem dL_net_45 : decode cL_net 45 = .ok (.invokevirtual 46, 3) := by decide +kernel
theorem dL_net_48 : decode cL_net 48 = .ok (.iload 6, 2) := by decide +kernel
theorem dL_net_50 : decode cL_net 50 = .ok (.if_icmp .ne 19, 3) := by decide +kernel
theorem dL_net_53 : decode cL_net 53 = .ok (.aload_n 0, 1) := by decide +kernel
theorem dL_net_54 : decode cL_net 54 = .ok (.iload_n 1, 1) := by decide +kernel
theorem dL_net_55 : decode cL_net 55 = .ok (.bipush 6, 2) := by decide +kernel
theorem dL_net_57 : decode cL_net 57 = .ok (.invokevirtual 46, 3) := by decide +kernel
theorem dL_net_60 : decode cL_net 60 = .ok (.iload 7, 2) := by decide +kernel
theorem dL_net_62 : decode cL_net 62 = .ok (.if_icmp .ne 7, 3) := by decide +kernel
theorem dL_net_65 : decode cL_net 65 = .ok (.iconst 1, 1) := by decide +kernel
theorem dL_net_66 : decode cL_net 66 = .ok (.goto 4, 3) := by decide +kernel
theorem dL_net_69 : decode cL_net 69 = .ok (.iconst 0, 1) := by decide +kernel
theorem dL_net_70 : decode cL_net 70 = .ok (.ireturn, 1) := by decide +kernel
set_option maxRecDepth 20000 in
theorem ggL_changes_X11_changes : GoodIn wsL_changes wsX11_changes := goodIn_ca (goodIn_ca (goodIn_r _ [5, 6, 7, 8, 9, 10, 11, 12, 13, 14, 4, 15, 16, 17, 18, 19, 20, 21, 22, 23, 24, 25, 26, 27, 28, 29, 30, 31, 32, 33, 34, 35, 36, 37, 38, 39, 40, 41, 42, 43, 44, 45, 46, 47, 48, 49, 50, 51, 52, 53, 54, 55, 56, 57, 58, 59, 60, 61, 62, 63, 64, 65, 66, 67, 68, 69, 70, 71, 72, 73, 74, 75, 76, 77, 78, 79, 80, 81, 82, 83, 84, 85, 86, 87, 88, 89, 90, 91, 92, 93, 94, 95, 96, 97, 98, 99, 100, 101, 102, 103, 104, 105, 106, 107, 108, 109, 110, 111, 112, 113, 114, 115, 116, 117, 118, 119, 120, 121, 122, 123, 124, 125, 126, 127, 128, 129, 130, 131, 132, 133, 134, 135, 136, 137, 138, 139, 140, 141, 142, 143, 144, 145, 146, 147, 148, 149, 150, 151, 152, 153, 154, 155, 156, 157, 158, 159, 160, 161, 162, 163, 164, 165, 166, 167, 168, 169, 170, 171, 172, 173, 174, 175, 176, 177, 178, 179, 180, 181, 182, 183, 184, 185, 186, 187, 188, 189, 190, 191, 192, 193, 194, 195, 196, 197, 198, 199, 200, 201, 202, 203, 204, 245, 246, 247, 248, 249, 250, 251, 252, 253, 254, 255, 256, 257, 258, 259, 260, 261, 262, 263, 264, 265, 266, 267, 268, 269, 270, 271, 272, 273, 274, 275] (by decide +kernel) (by decide +kernel)) (goodIn_sub (fun _ h => List.mem_cons_of_mem _ (List.mem_append_left _ (List.mem_append_right _ h))) (by decide +kernel))) (goodIn_sub (fun _ h => List.mem_cons_of_mem _ (List.mem_append_right _ h)) (by decide +kernel))
set_option maxRecDepth 20000 in
theorem gL_changes_X11_changes : GoodIn wsL_changes (wsV RL 55 RX11 yX11_changes wsX11_changes) := goodIn_app (goodIn_of _ (by decide +kernel)) ggL_changes_X11_changes
set_option maxRecDepth 20000 in
theorem ggL_changes_X11_changesAnew : GoodIn wsL_changes wsX11_changesAnew := goodIn_ca (goodIn_ca (goodIn_r _ [208, 209, 8, 10, 7, 9, 11, 12, 13, 14, 4, 15, 16, 17, 18, 19, 20, 21, 22, 23, 24, 25, 26, 27, 28, 29, 30, 31, 32, 33, 34, 35, 36, 37, 38, 39, 40, 41, 42, 43, 44, 45, 46, 47, 48, 49, 50, 51, 52, 53, 54, 55, 56, 57, 58, 59, 60, 61, 62, 63, 64, 65, 66, 67, 68, 69, 70, 71, 72, 73, 74, 75, 76, 77, 78, 79, 80, 81, 82, 83, 84, 85, 86, 87, 88, 89, 90, 91, 92, 93, 94, 95, 96, 97, 98, 99, 100, 101, 102, 103, 104, 105, 106, 107, 108, 109, 110, 111, 112, 113, 114, 115, 116, 117, 118, 119, 120, 121, 122, 123, 124, 125, 126, 127, 128, 129, 130, 131, 132, 133, 134, 135, 136, 137, 138, 210, 211, 212, 213, 214, 215, 216, 217, 218, 219, 220, 221, 139, 140, 141, 142, 222, 223, 224, 225, 226, 227, 228, 229, 230, 231, 232, 233, 234, 235, 236, 237, 238, 239, 240, 241, 242, 243, 179, 180, 181, 244, 197, 198, 199, 200, 201, 202, 203, 204, 245, 246, 247, 248, 249, 250, 251, 252, 253, 254, 255, 256, 257, 258, 259, 260, 261, 262, 263, 264, 265, 266, 267, 268, 269, 270, 271, 272, 273, 276] (by decide +kernel) (by decide +kernel)) (goodIn_sub (fun _ h => List.mem_cons_of_mem _ (List.mem_append_left _ (List.mem_append_right _ h))) (by decide +kernel))) (goodIn_sub (fun _ h => List.mem_cons_of_mem _ (List.mem_append_right _ h)) (by decide +kernel))
set_option maxRecDepth 20000 in
theorem gL_changes_X11_changesAnew : GoodIn wsL_changes (wsV RL 58 RX11 yX11_changesAnew wsX11_changesAnew) := goodIn_app (goodIn_of _ (by decide +kernel)) ggL_changes_X11_changesAnew
theorem dL_changes_0 : decode cL_changes 0 = .ok (.aload_n 0, 1) := by decide +kernel
theorem dL_changes_1 : decode cL_changes 1 = .ok (.iload_n 1, 1) := by decide +kernel
theorem dL_changes_2 : decode cL_changes 2 = .ok (.iload_n 2, 1) := by decide +kernel
theorem dL_changes_3 : decode cL_changes 3 = .ok (.iload_n 3, 1) := by decide +kernel
theorem dL_changes_4 : decode cL_changes 4 = .ok (.iconst 0, 1) := by decide +kernel
theorem dL_changes_5 : decode cL_changes 5 = .ok (.invokevirtual 55, 3) := by decide +kernel
theorem dL_changes_8 : decode cL_changes 8 = .ok (.iload 4, 2) := by decide +kernel
theorem dL_changes_10 : decode cL_changes 10 = .ok (.if_icmp .ne 72, 3) := by decide +kernel
theorem dL_changes_13 : decode cL_changes 13 = .ok (.aload_n 0, 1) := by decide +kernel
theorem dL_changes_14 : decode cL_changes 14 = .ok (.iload_n 1, 1) := by decide +kernel
theorem dL_changes_15 : decode cL_changes 15 = .ok (.iload_n 2, 1) := by decide +kernel
theorem dL_changes_16 : decode cL_changes 16 = .ok (.iload_n 3, 1) := by decide +kernel
theorem dL_changes_17 : decode cL_changes 17 = .ok (.iconst 1, 1) := by decide +kernel
theorem dL_changes_18 : decode cL_changes 18 = .ok (.invokevirtual 55, 3) := by decide +kernel
theorem dL_changes_21 : decode cL_changes 21 = .ok (.iload 5, 2) := by decide +kernel
theorem dL_changes_23 : decode cL_changes 23 = .ok (.if_icmp .ne 59, 3) := by decide +kernel
theorem dL_changes_26 : decode cL_changes 26 = .ok (.aload_n 0, 1) := by decide +kernel
theorem dL_changes_27 : decode cL_changes 27 = .ok (.iload_n 1, 1) := by decide +kernel
theorem dL_changes_28 : decode cL_changes 28 = .ok (.iload_n 2, 1) := by decide +kernel
theorem dL_changes_29 : decode cL_changes 29 = .ok (.iload_n 3, 1) := by decide +kernel
theorem dL_changes_30 : decode cL_changes 30 = .ok (.iconst 2, 1) := by decide +kernel
theorem dL_changes_31 : decode cL_changes 31 = .ok (.invokevirtual 55, 3) := by decide +kernel
theorem dL_changes_34 : decode cL_changes 34 = .ok (.iload 6, 2) := by decide +kernel
theorem dL_changes_36 : decode cL_changes 36 = .ok (.if_icmp .ne 46, 3) := by decide +kernel
theorem dL_changes_39 : decode cL_changes 39 = .ok (.aload_n 0, 1) := by decide +kernel
theorem dL_changes_40 : decode cL_changes 40 = .ok (.iload_n 1, 1) := by decide +kernel
theorem dL_changes_41 : decode cL_changes 41 = .ok (.iload_n 2, 1) := by decide +kernel
theorem dL_changes_42 : decode cL_changes 42 = .ok (.iload_n 3, 1) := by decide +kernel
theorem dL_changes_43 : decode cL_changes 43 = .ok (.iconst 0, 1) := by decide +kernel
theorem dL_changes_44 : decode cL_changes 44 = .ok (.invokevirtual 58, 3) := by decide +kernel
theorem dL_changes_47 : decode cL_changes 47 = .ok (.iload 4, 2) := by decide +kernel
theorem dL_changes_49 : decode cL_changes 49 = .ok (.if_icmp .ne 33, 3) := by decide +kernel
theorem dL_changes_52 : decode cL_changes 52 = .ok (.aload_n 0, 1) := by decide +kernel
theorem dL_changes_53 : decode cL_changes 53 = .ok (.iload_n 1, 1) := by decide +kernel
theorem dL_changes_54 : decode cL_changes 54 = .ok (.iload_n 2, 1) := by decide +kernel
theorem dL_changes_55 : decode cL_changes 55 = .ok (.iload_n 3, 1) := by decide +kernel
theorem dL_changes_56 : decode cL_changes 56 = .ok (.iconst 1, 1) := by decide +kernel
theorem dL_changes_57 : decode cL_changes 57 = .ok (.invokevirtual 58, 3) := by decide +kernel
theorem dL_changes_60 : decode cL_changes 60 = .ok (.iload 5, 2) := by decide +kernel
theorem dL_changes_62 : decode cL_changes 62 = .ok (.if_icmp .ne 20, 3) := by decide +kernel
theorem dL_changes_65 : decode cL_changes 65 = .ok (.aload_n 0, 1) := by decide +kernel
theorem dL_changes_66 : decode cL_changes 66 = .ok (.iload_n 1, 1) := by decide +kernel
theorem dL_changes_67 : decode cL_changes 67 = .ok (.iload_n 2, 1) := by decide +kernel
theorem dL_changes_68 : decode cL_changes 68 = .ok (.iload_n 3, 1) := by decide +kernel
theorem dL_changes_69 : decode cL_changes 69 = .ok (.iconst 2, 1) := by decide +kernel
theorem dL_changes_70 : decode cL_changes 70 = .ok (.invokevirtual 58, 3) := by decide +kernel
theorem dL_changes_73 : decode cL_changes 73 = .ok (.iload 6, 2) := by decide +kernel
theorem dL_changes_75 : decode cL_changes 75 = .ok (.if_icmp .ne 7, 3) := by decide +kernel
theorem dL_changes_78 : decode cL_changes 78 = .ok (.iconst 1, 1) := by decide +kernel
theorem dL_changes_79 : decode cL_changes 79 = .ok (.goto 4, 3) := by decide +kernel
theorem dL_changes_82 : decode cL_changes 82 = .ok (.iconst 0, 1) := by decide +kernel
theorem dL_changes_83 : decode cL_changes 83 = .ok (.ireturn, 1) := by decide +kernel
set_option maxRecDepth 20000 in
theorem ggL_off_X11_off : GoodIn wsL_off wsX11_off := goodIn_ca (goodIn_ca (goodIn_ca (goodIn_r _ [5, 6, 7, 8, 9, 10, 4, 11, 12, 13, 14, 15, 16, 17, 18, 19, 20, 21, 22, 23, 24, 25, 26, 27, 28, 29, 30, 31, 32, 33, 34, 35, 36, 37, 38, 39, 40, 41, 42, 43, 44, 45, 46, 47, 48, 49, 50, 51, 52, 53, 54, 55, 56, 57, 58, 59, 60, 61, 62, 63, 64, 65, 66, 67, 68, 69, 70, 71, 72, 73, 74, 75, 76, 77, 78, 79, 80, 81, 82, 83, 84, 85, 86, 87, 88, 89, 90, 91, 92, 93, 94, 95, 96, 97, 98, 99, 100, 101, 102, 103, 104, 105, 106, 107, 108, 109, 110, 111, 112, 113, 114, 115, 116, 117, 118, 119, 120, 121, 122, 123, 124, 125, 126, 127, 128, 129, 130, 131, 132, 133, 134, 135, 136, 137, 138, 139, 140, 141, 142, 143, 144, 145, 146, 147, 148, 149, 150, 151, 152, 153, 154, 155, 156, 157, 158, 159, 160, 161, 162, 163, 164, 165, 166, 167, 168, 169, 170, 171, 172, 173, 174, 175, 176] (by decide +kernel) (by decide +kernel)) (goodIn_sub (fun _ h => List.mem_cons_of_mem _ (List.mem_append_left _ (List.mem_append_left _ (List.mem_append_right _ h)))) (by decide +kernel))) (goodIn_sub (fun _ h => List.mem_cons_of_mem _ (List.mem_append_left _ (List.mem_append_right _ h))) (by decide +kernel))) (goodIn_sub (fun _ h => List.mem_cons_of_mem _ (List.mem_append_right _ h)) (by decide +kernel))
set_option maxRecDepth 20000 in
theorem gL_off_X11_off : GoodIn wsL_off (wsV RL 61 RX11 yX11_off wsX11_off) := goodIn_app (goodIn_of _ (by decide +kernel)) ggL_off_X11_off
theorem dL_off_0 : decode cL_off 0 = .ok (.aload_n 0, 1) := by decide +kernel
theorem dL_off_1 : decode cL_off 1 = .ok (.iload_n 1, 1) := by decide +kernel
theorem dL_off_2 : decode cL_off 2 = .ok (.iload_n 2, 1) := by decide +kernel
theorem dL_off_3 : decode cL_off 3 = .ok (.iconst 0, 1) := by decide +kernel
theorem dL_off_4 : decode cL_off 4 = .ok (.invokevirtual 61, 3) := by decide +kernel
theorem dL_off_7 : decode cL_off 7 = .ok (.iload_n 3, 1) := by decide +kernel
theorem dL_off_8 : decode cL_off 8 = .ok (.if_icmp .ne 43, 3) := by decide +kernel
theorem dL_off_11 : decode cL_off 11 = .ok (.aload_n 0, 1) := by decide +kernel
theorem dL_off_12 : decode cL_off 12 = .ok (.iload_n 1, 1) := by decide +kernel
theorem dL_off_13 : decode cL_off 13 = .ok (.iload_n 2, 1) := by decide +kernel
theorem dL_off_14 : decode cL_off 14 = .ok (.iconst 1, 1) := by decide +kernel
theorem dL_off_15 : decode cL_off 15 = .ok (.invokevirtual 61, 3) := by decide +kernel
theorem dL_off_18 : decode cL_off 18 = .ok (.iload 4, 2) := by decide +kernel
theorem dL_off_20 : decode cL_off 20 = .ok (.if_icmp .ne 31, 3) := by decide +kernel
theorem dL_off_23 : decode cL_off 23 = .ok (.aload_n 0, 1) := by decide +kernel
theorem dL_off_24 : decode cL_off 24 = .ok (.iload_n 1, 1) := by decide +kernel
theorem dL_off_25 : decode cL_off 25 = .ok (.iload_n 2, 1) := by decide +kernel
theorem dL_off_26 : decode cL_off 26 = .ok (.iconst 2, 1) := by decide +kernel
theorem dL_off_27 : decode cL_off 27 = .ok (.invokevirtual 61, 3) := by decide +kernel
theorem dL_off_30 : decode cL_off 30 = .ok (.iload 5, 2) := by decide +kernel
theorem dL_off_32 : decode cL_off 32 = .ok (.if_icmp .ne 19, 3) := by decide +kernel
theorem dL_off_35 : decode cL_off 35 = .ok (.aload_n 0, 1) := by decide +kernel
theorem dL_off_36 : decode cL_off 36 = .ok (.iload_n 1, 1) := by decide +kernel
theorem dL_off_37 : decode cL_off 37 = .ok (.iload_n 2, 1) := by decide +kernel
theorem dL_off_38 : decode cL_off 38 = .ok (.iconst 3, 1) := by decide +kernel
theorem dL_off_39 : decode cL_off 39 = .ok (.invokevirtual 61, 3) := by decide +kernel
theorem dL_off_42 : decode cL_off 42 = .ok (.iload 6, 2) := by decide +kernel
theorem dL_off_44 : decode cL_off 44 = .ok (.if_icmp .ne 7, 3) := by decide +kernel
theorem dL_off_47 : decode cL_off 47 = .ok (.iconst 1, 1) := by decide +kernel
theorem dL_off_48 : decode cL_off 48 = .ok (.goto 4, 3) := by decide +kernel
theorem dL_off_51 : decode cL_off 51 = .ok (.iconst 0, 1) := by decide +kernel
theorem dL_off_52 : decode cL_off 52 = .ok (.ireturn, 1) := by decide +kernel
set_option maxRecDepth 20000 in
theorem ggL_path_X11_path : GoodIn wsL_path wsX11_path := goodIn_ca (goodIn_r _ [6, 7, 8, 9, 10, 11, 12, 13, 5, 14, 15, 16, 17, 18, 19, 20, 21, 22, 23, 24, 25, 26, 27, 28, 29, 30, 31, 32, 33, 34, 35, 36, 37, 38, 39, 40, 41, 42, 43, 44, 45, 46, 47, 48, 49, 50, 51, 52, 53, 54, 55, 56, 57, 58, 59, 60, 61, 62, 63, 64, 65, 66, 67, 68, 69, 70, 71, 72, 73, 74, 75, 76, 77, 78, 79, 80, 81, 82, 83, 84, 85, 86, 87, 88, 89, 90, 91, 92, 93, 94, 95, 96, 97, 98, 99, 100, 101, 102, 103] (by decide +kernel) (by decide +kernel)) (goodIn_sub (fun _ h => List.mem_cons_of_mem _ (List.mem_append_right _ h)) (by decide +kernel))
set_option maxRecDepth 20000 in
theorem gL_path_X11_path : GoodIn wsL_path (wsV RL 52 RX11 yX11_path wsX11_path) := goodIn_app (goodIn_of _ (by decide +kernel)) ggL_path_X11_path
theorem dL_path_0 : decode cL_path 0 = .ok (.aload_n 0, 1) := by decide +kernel
theorem dL_path_1 : decode cL_path 1 = .ok (.iload_n 1, 1) := by decide +kernel
theorem dL_path_2 : decode cL_path 2 = .ok (.iconst 0, 1) := by decide +kernel
theorem dL_path_3 : decode cL_path 3 = .ok (.invokevirtual 52, 3) := by decide +kernel
theorem dL_path_6 : decode cL_path 6 = .ok (.iload_n 2, 1) := by decide +kernel
theorem dL_path_7 : decode cL_path 7 = .ok (.if_icmp .ne 61, 3) := by decide +kernel
theorem dL_path_10 : decode cL_path 10 = .ok (.aload_n 0, 1) := by decide +kernel
theorem dL_path_11 : decode cL_path 11 = .ok (.iload_n 1, 1) := by decide +kernel
theorem dL_path_12 : decode cL_path 12 = .ok (.iconst 1, 1) := by decide +kernel
theorem dL_path_13 : decode cL_path 13 = .ok (.invokevirtual 52, 3) := by decide +kernel
theorem dL_path_16 : decode cL_path 16 = .ok (.iload_n 3, 1) := by decide +kernel
theorem dL_path_17 : decode cL_path 17 = .ok (.if_icmp .ne 51, 3) := by decide +kernel
theorem dL_path_20 : decode cL_path 20 = .ok (.aload_n 0, 1) := by decide +kernel
theorem dL_path_21 : decode cL_path 21 = .ok (.iload_n 1, 1) := by decide +kernel
theorem dL_path_22 : decode cL_path 22 = .ok (.iconst 2, 1) := by decide +kernel
theorem dL_path_23 : decode cL_path 23 = .ok (.invokevirtual 52, 3) := by decide +kernel
theorem dL_path_26 : decode cL_path 26 = .ok (.iload 4, 2) := by decide +kernel
theorem dL_path_28 : decode cL_path 28 = .ok (.if_icmp .ne 40, 3) := by decide +kernel
theorem dL_path_31 : decode cL_path 31 = .ok (.aload_n 0, 1) := by decide +kernel
theorem dL_path_32 : decode cL_path 32 = .ok (.iload_n 1, 1) := by decide +kernel
theorem dL_path_33 : decode cL_path 33 = .ok (.iconst 3, 1) := by decide +kernel
theorem dL_path_34 : decode cL_path 34 = .ok (.invokevirtual 52, 3) := by decide +kernel
theorem dL_path_37 : decode cL_path 37 = .ok (.iload 5, 2) := by decide +kernel
theorem dL_path_39 : decode cL_path 39 = .ok (.if_icmp .ne 29, 3) := by decide +kernel
theorem dL_path_42 : decode cL_path 42 = .ok (.aload_n 0, 1) := by decide +kernel
theorem dL_path_43 : decode cL_path 43 = .ok (.iload_n 1, 1) := by decide +kernel
theorem dL_path_44 : decode cL_path 44 = .ok (.iconst 4, 1) := by decide +kernel
theorem dL_path_45 : decode cL_path 45 = .ok (.invokevirtual 52, 3) := by decide +kernel
theorem dL_path_48 : decode cL_path 48 = .ok (.iload 6, 2) := by decide +kernel
theorem dL_path_50 : decode cL_path 50 = .ok (.if_icmp .ne 18, 3) := by decide +kernel
theorem dL_path_53 : decode cL_path 53 = .ok (.aload_n 0, 1) := by decide +kernel
theorem dL_path_54 : decode cL_path 54 = .ok (.iload_n 1, 1) := by decide +kernel
theorem dL_path_55 : decode cL_path 55 = .ok (.ldc 82, 2) := by decide +kernel
theorem dL_path_57 : decode cL_path 57 = .ok (.invokevirtual 52, 3) := by decide +kernel
theorem dL_path_60 : decode cL_path 60 = .ok (.iconst (-1), 1) := by decide +kernel
theorem dL_path_61 : decode cL_path 61 = .ok (.if_icmp .ne 7, 3) := by decide +kernel
theorem dL_path_64 : decode cL_path 64 = .ok (.iconst 1, 1) := by decide +kernel
theorem dL_path_65 : decode cL_path 65 = .ok (.goto 4, 3) := by decide +kernel
theorem dL_path_68 : decode cL_path 68 = .ok (.iconst 0, 1) := by decide +kernel
theorem dL_path_69 : decode cL_path 69 = .ok (.ireturn, 1) := by decide +kernel
set_option maxRecDepth 20000 in
theorem ggL_value_X11_value : GoodIn wsL_value wsX11_value := goodIn_ca (goodIn_ca (goodIn_r _ [5, 6, 7, 8, 9, 10, 4, 11, 12, 13, 14, 15, 16, 17, 18, 19, 20, 21, 22, 23, 24, 25, 26, 27, 28, 29, 30, 31, 32, 33, 34, 35, 36, 37, 38, 39, 40, 41, 42, 43, 44, 45, 46, 47, 48, 49, 50, 51, 52, 53, 54, 55, 56, 57, 58, 59, 60, 61, 62, 63, 64, 65, 66, 67, 68, 69, 70, 71, 72, 73, 74, 75, 76, 77, 78, 79, 80, 81, 82, 83, 84, 85, 86, 87, 88, 89, 90, 91, 92, 93, 94, 95, 96, 97, 98, 99, 100, 101, 139, 140, 141, 142, 143, 144, 145, 146, 147, 148, 149, 150, 151, 152, 153, 154, 155, 156, 157, 158, 159, 160, 161, 162] (by decide +kernel) (by decide +kernel)) (goodIn_sub (fun _ h => List.mem_cons_of_mem _ (List.mem_append_left _ (List.mem_append_right _ h))) (by decide +kernel))) (goodIn_sub (fun _ h => List.mem_cons_of_mem _ (List.mem_append_right _ h)) (by decide +kernel))
set_option maxRecDepth 20000 in
theorem gL_value_X11_value : GoodIn wsL_value (wsV RL 40 RX11 yX11_value wsX11_value) := goodIn_app (goodIn_of _ (by decide +kernel)) ggL_value_X11_value
set_option maxRecDepth 20000 in
theorem ggL_value_X11_valueAnew : GoodIn wsL_value wsX11_valueAnew := goodIn_ca (goodIn_ca (goodIn_r _ [105, 6, 106, 8, 9, 10, 4, 11, 12, 13, 14, 15, 16, 17, 18, 19, 107, 89, 90, 34, 91, 92, 108, 94, 95, 96, 97, 42, 43, 44, 45, 46, 47, 109, 110, 111, 112, 113, 114, 115, 116, 117, 118, 119, 120, 121, 122, 123, 124, 125, 126, 127, 128, 32, 33, 35, 36, 129, 130, 38, 39, 40, 41, 131, 61, 62, 63, 64, 132, 72, 73, 74, 75, 133, 134, 135, 136, 137, 80, 81, 82, 83, 138, 57, 58, 59, 76, 77, 78, 139, 140, 141, 142, 143, 144, 145, 146, 147, 148, 149, 150, 153, 154, 155, 156, 157, 158, 159, 160, 161, 163, 164, 165] (by decide +kernel) (by decide +kernel)) (goodIn_sub (fun _ h => List.mem_cons_of_mem _ (List.mem_append_left _ (List.mem_append_right _ h))) (by decide +kernel))) (goodIn_sub (fun _ h => List.mem_cons_of_mem _ (List.mem_append_right _ h)) (by decide +kernel))
set_option maxRecDepth 20000 in
theorem gL_value_X11_valueAnew : GoodIn wsL_value (wsV RL 43 RX11 yX11_valueAnew wsX11_valueAnew) := goodIn_app (goodIn_of _ (by decide +kernel)) ggL_value_X11_valueAnew
theorem dL_value_0 : decode cL_value 0 = .ok (.aload_n 0, 1) := by decide +kernel
theorem dL_value_1 : decode cL_value 1 = .ok (.iload_n 1, 1) := by decide +kernel
theorem dL_value_2 : decode cL_value 2 = .ok (.iload_n 2, 1) := by decide +kernel
theorem dL_value_3 : decode cL_value 3 = .ok (.invokevirtual 40, 3) := by decide +kernel
theorem dL_value_6 : decode cL_value 6 = .ok (.iload_n 3, 1) := by decide +kernel
theorem dL_value_7 : decode cL_value 7 = .ok (.if_icmp .ne 17, 3) := by decide +kernel
theorem dL_value_10 : decode cL_value 10 = .ok (.aload_n 0, 1) := by decide +kernel
theorem dL_value_11 : decode cL_value 11 = .ok (.iload_n 1, 1) := by decide +kernel
theorem dL_value_12 : decode cL_value 12 = .ok (.iload_n 2, 1) := by decide +kernel
theorem dL_value_13 : decode cL_value 13 = .ok (.invokevirtual 43, 3) := by decide +kernel
theorem dL_value_16 : decode cL_value 16 = .ok (.iload_n 3, 1) := by decide +kernel
theorem dL_value_17 : decode cL_value 17 = .ok (.if_icmp .ne 7, 3) := by decide +kernel
theorem dL_value_20 : decode cL_value 20 = .ok (.iconst 1, 1) := by decide +kernel
theorem dL_value_21 : decode cL_value 21 = .ok (.goto 4, 3) := by decide +kernel
theorem dL_value_24 : decode cL_value 24 = .ok (.iconst 0, 1) := by decide +kernel
theorem dL_value_25 : decode cL_value 25 = .ok (.ireturn, 1) := by decide +kernel
set_option maxRecDepth 20000 in
theorem ggL_adders_X11_init : GoodIn wsL_adders wsX11_init := goodIn_r _ [9, 10, 11, 12, 13, 14, 15, 16, 17, 18, 19, 20, 21, 22, 23, 24, 25, 26, 27, 28, 29, 30, 31, 32, 33, 34, 35, 36, 37, 38, 39, 40, 41, 42, 43, 44, 45, 46, 47, 48, 49, 50, 51, 52, 53, 54, 55, 56, 57, 58, 59, 60, 61, 62, 63, 64, 65, 66, 67, 68, 69, 70, 71, 72, 73, 74, 75, 76, 77, 78, 79, 80, 81, 82, 83, 84, 85, 86, 87, 88, 89, 90, 91, 92, 93, 94, 95, 96, 97, 98, 99, 100, 101, 102, 103, 104, 105, 106, 107, 108, 109, 110, 111, 112, 113, 114, 115, 116, 117, 118, 119, 120, 121, 122, 123, 124, 125, 126, 127, 128, 129, 130, 131, 132, 688, 689, 690, 691, 692, 693, 694, 695, 696, 697, 698, 699, 700, 701, 702, 703, 704, 705, 706, 707, 708, 709, 710, 711, 712, 713, 714, 715, 716, 717, 718, 719, 720, 721, 722, 723, 724, 725, 726, 727, 728, 729, 730, 731, 732, 733, 734, 735, 736, 737] (by decide +kernel) (by decide +kernel)
set_option maxRecDepth 20000 in
theorem gL_adders_X11_init : GoodIn wsL_adders (wsX11_init) := ggL_adders_X11_init
set_option maxRecDepth 20000 in
theorem ggL_adders_L_refuses : GoodIn wsL_adders wsL_refuses := goodIn_ca (goodIn_ca (goodIn_ca (goodIn_r _ [136, 137, 138, 139, 140, 141, 142, 5, 143, 144, 145, 3, 146, 31, 18, 27, 147, 148, 149, 150, 151, 152, 14, 153, 154, 155, 156, 157, 158, 159, 160, 54, 161, 162, 163, 164, 165, 166, 167, 168, 169, 170, 171, 172, 173, 174, 175, 176, 19, 177, 178, 179, 180, 123, 181, 182, 183, 17, 184, 60, 185, 186, 187, 188, 189, 190, 191, 192, 30, 193, 194, 85, 195, 196, 197, 198, 199, 200, 201, 202, 203, 204, 124, 205, 206, 207, 208, 209, 125, 210, 211, 130, 131, 132, 212, 213, 214, 215, 216, 217, 218, 219, 220, 221, 222, 223, 224, 127, 225, 226, 227, 26, 228, 79, 229, 230, 231, 232, 233, 234, 235, 236, 237, 238, 239, 240, 241, 242, 243, 244, 245, 246, 247, 248, 249, 250, 251, 77, 252, 253, 254, 255, 256, 257, 258, 135, 259, 260, 261, 262, 263, 264, 265, 266, 267, 268, 269, 270, 271, 272, 273, 274, 275, 276, 277, 278, 279, 280, 126, 281, 282, 283, 284, 285, 286, 287, 288, 289, 290, 291, 292, 293, 294, 295, 296, 297, 298, 299, 300, 301, 302, 303, 304, 305, 306, 307, 308, 309, 310, 311, 23, 312, 313, 314, 315, 316, 317, 22, 318, 319, 320, 321, 322, 323, 324, 325, 326, 327, 328, 329, 330, 331, 332, 333, 334, 335, 336, 337, 338, 339, 65, 66, 68, 340, 341, 342, 343, 344, 67, 69, 345, 346, 347, 348, 349, 350, 351, 352, 353, 354, 355, 356, 357, 358, 359, 360, 70, 71, 361, 362, 363, 364, 365, 366, 367, 368, 369, 370, 371, 372, 373, 374, 375, 376, 377, 378, 379, 380, 381, 129, 382, 383, 384, 385, 386, 387, 388, 389, 390, 391, 392, 393, 394, 395, 396, 397, 398, 35, 399, 400, 401, 34, 402, 403, 404, 405, 406, 93, 94, 407, 408, 409, 410, 411, 412, 413, 414, 415, 416, 417, 418, 419, 420, 421, 92, 422, 100, 423, 424, 425, 426, 427, 428, 429, 430, 431, 432, 433, 434, 435, 436, 437, 438, 439, 440, 441, 442, 443, 444, 445, 446, 447, 448, 449, 450, 451, 452, 453, 454, 78, 455, 456, 457, 458, 459, 460, 461, 462, 463, 464, 465, 466, 467, 468, 469, 470, 471, 472, 473, 474, 475, 476, 477, 478, 479, 480, 44, 36, 40, 481, 482, 483, 484, 485, 486, 487, 488, 489, 490, 39, 491, 492, 493, 494, 495, 496, 497, 498, 499, 500, 501, 43, 502, 503, 504, 505, 506, 507, 508, 509, 510, 511, 512, 513, 514, 515, 516, 517, 108, 518, 519, 520, 521, 522, 523, 524, 525, 526, 527, 528, 529, 530, 531, 532, 533, 534, 535, 536, 537, 538, 539, 540, 541, 542, 543, 544, 545, 546, 547, 548, 549, 550, 551, 552, 553, 554, 555, 556, 557, 558, 559, 560, 561, 562, 48, 563, 564, 565, 47, 566, 114, 567, 568, 569, 570, 571, 572, 573, 574, 575, 576, 577, 578, 579, 580, 581, 582, 583, 584, 585, 586, 587, 588, 589, 590, 591, 592, 593, 594, 595, 596, 52, 597, 598, 599, 600, 601, 602, 51, 603, 604, 605, 606, 607, 608, 609, 610, 611, 612, 613, 614, 615, 616, 617, 618, 619, 620, 621, 622, 623, 624, 625, 626, 627, 628, 629, 630, 631, 632, 633, 634, 635, 636, 637, 638, 639, 640, 641, 642, 643, 644, 645, 646, 647, 648, 649, 650, 651, 652, 653, 654, 655, 656, 657, 688, 689, 690, 691, 692, 693, 694, 695, 696, 697, 698, 699, 729, 730, 731, 732, 733, 734, 735, 736, 700, 714, 715, 711, 712, 713, 701, 702, 703, 704, 705, 706, 707, 708, 709, 710, 716, 717, 737, 718, 719, 720, 721, 722, 723, 724, 725, 726, 727, 728] (by decide +kernel) (by decide +kernel)) (goodIn_sub (fun _ h => List.mem_cons_of_mem _ (List.mem_append_left _ (List.mem_append_left _ (List.mem_append_right _ h)))) (by decide +kernel))) (goodIn_sub (fun _ h => List.mem_cons_of_mem _ (List.mem_append_left _ (List.mem_append_right _ h))) (by decide +kernel))) (goodIn_sub (fun _ h => List.mem_cons_of_mem _ (List.mem_append_right _ h)) (by decide +kernel))
set_option maxRecDepth 20000 in
theorem gL_adders_L_refuses : GoodIn wsL_adders (va_wsS RL 93 yL_refuses wsL_refuses) := goodIn_app (goodIn_of _ (by decide +kernel)) ggL_adders_L_refuses
set_option maxRecDepth 20000 in
theorem ggL_adders_L_net : GoodIn wsL_adders wsL_net := goodIn_ca (goodIn_ca (goodIn_r _ [660, 143, 144, 145, 3, 146, 31, 18, 27, 147, 148, 149, 150, 151, 152, 14, 153, 154, 155, 156, 157, 158, 159, 160, 54, 161, 162, 163, 164, 165, 166, 167, 168, 169, 170, 171, 172, 173, 174, 175, 176, 19, 177, 178, 179, 180, 123, 181, 182, 183, 17, 184, 60, 185, 186, 187, 188, 189, 190, 191, 192, 30, 193, 194, 85, 195, 196, 197, 198, 199, 200, 201, 202, 203, 204, 124, 205, 206, 207, 208, 209, 125, 210, 211, 130, 131, 132, 212, 213, 214, 215, 216, 217, 218, 219, 220, 221, 222, 223, 224, 127, 225, 226, 227, 26, 228, 79, 229, 230, 231, 232, 233, 234, 235, 236, 237, 238, 239, 240, 241, 242, 243, 244, 245, 246, 247, 248, 249, 250, 251, 77, 252, 253, 254, 255, 256, 688, 689, 690, 691, 692, 693, 694, 695, 696, 697, 698, 699, 729, 730, 731, 732, 733, 734, 735, 736, 700, 714, 715, 711, 712, 713] (by decide +kernel) (by decide +kernel)) (goodIn_sub (fun _ h => List.mem_cons_of_mem _ (List.mem_append_left _ (List.mem_append_left _ (List.mem_append_right _ h)))) (by decide +kernel))) (goodIn_sub (fun _ h => List.mem_cons_of_mem _ (List.mem_append_left _ (List.mem_append_right _ h))) (by decide +kernel))
set_option maxRecDepth 20000 in
theorem gL_adders_L_net : GoodIn wsL_adders (va_wsS RL 97 yL_net wsL_net) := goodIn_app (goodIn_of _ (by decide +kernel)) ggL_adders_L_net
set_option maxRecDepth 20000 in
theorem ggL_adders_X11_ofNet : GoodIn wsL_adders wsX11_ofNet := goodIn_ca (goodIn_ca (goodIn_r _ [146, 31, 18, 27, 147, 148, 149, 3, 150, 151, 152, 14, 153, 154, 155, 156, 157, 158, 159, 160, 54, 161, 162, 163, 164, 165, 166, 167, 168, 169, 170, 171, 172, 173, 174, 175, 176, 19, 177, 178, 179, 180, 123, 181, 182, 183, 17, 184, 60, 185, 186, 187, 188, 189, 190, 191, 192, 30, 193, 194, 85, 195, 196, 197, 198, 199, 200, 201, 202, 203, 204, 124, 205, 206, 207, 208, 209, 125, 210, 211, 130, 131, 132, 212, 213, 214, 215, 216, 217, 218, 219, 220, 221, 222, 223, 224, 127, 225, 226, 227, 26, 228, 79, 229, 230, 231, 232, 233, 234, 235, 236, 237, 238, 239, 240, 241, 242, 243, 244, 245, 246, 247, 248, 249, 250, 251, 77, 252, 253, 254, 255, 256, 688, 689, 690, 691, 692, 693, 694, 695, 696, 697, 698, 699, 729, 730, 731, 732, 733, 734, 735, 736, 700, 714, 715, 711, 712, 713] (by decide +kernel) (by decide +kernel)) (goodIn_sub (fun _ h => List.mem_cons_of_mem _ (List.mem_append_left _ (List.mem_append_left _ (List.mem_append_right _ h)))) (by decide +kernel))) (goodIn_sub (fun _ h => List.mem_cons_of_mem _ (List.mem_append_left _ (List.mem_append_right _ h))) (by decide +kernel))
set_option maxRecDepth 20000 in
theorem gL_adders_X11_ofNet : GoodIn wsL_adders (wsV RL 46 RX11 yX11_ofNet wsX11_ofNet) := goodIn_app (goodIn_of _ (by decide +kernel)) ggL_adders_X11_ofNet
set_option maxRecDepth 20000 in
theorem ggL_adders_L_value : GoodIn wsL_adders wsL_value := goodIn_ca (goodIn_ca (goodIn_r _ [663, 438, 439, 440, 3, 441, 398, 35, 147, 148, 149, 150, 151, 152, 14, 153, 154, 155, 156, 157, 399, 400, 401, 34, 402, 403, 404, 405, 406, 93, 94, 407, 159, 160, 54, 161, 162, 408, 178, 179, 180, 123, 181, 182, 183, 17, 184, 60, 409, 410, 411, 412, 413, 414, 415, 416, 417, 186, 187, 188, 418, 202, 203, 204, 124, 419, 420, 421, 92, 422, 100, 423, 207, 208, 209, 125, 424, 425, 426, 427, 387, 388, 389, 126, 428, 429, 430, 431, 432, 169, 170, 171, 172, 433, 222, 223, 224, 127, 442, 443, 444, 445, 446, 447, 448, 449, 27, 168, 450, 451, 452, 453, 26, 454, 77, 78, 230, 231, 232, 233, 252, 130, 131, 132, 253, 254, 255, 256, 234, 247, 235, 236, 243, 455, 456, 457, 458, 459, 244, 688, 689, 690, 691, 692, 693, 694, 695, 696, 697, 698, 699, 716, 717, 729, 730, 731, 732, 733, 734, 735, 736, 700, 737, 711, 712, 713] (by decide +kernel) (by decide +kernel)) (goodIn_sub (fun _ h => List.mem_cons_of_mem _ (List.mem_append_left _ (List.mem_append_left _ (List.mem_append_right _ h)))) (by decide +kernel))) (goodIn_sub (fun _ h => List.mem_cons_of_mem _ (List.mem_append_left _ (List.mem_append_right _ h))) (by decide +kernel))
set_option maxRecDepth 20000 in
theorem gL_adders_L_value : GoodIn wsL_adders (va_wsS RL 102 yL_value wsL_value) := goodIn_app (goodIn_of _ (by decide +kernel)) ggL_adders_L_value
set_option maxRecDepth 20000 in
theorem ggL_adders_L_path : GoodIn wsL_adders wsL_path := goodIn_ca (goodIn_r _ [666, 137, 468, 469, 470, 3, 471, 151, 152, 31, 18, 147, 148, 149, 150, 14, 190, 191, 192, 30, 193, 194, 85, 195, 196, 197, 198, 199, 159, 160, 54, 161, 162, 200, 178, 179, 180, 123, 181, 182, 183, 17, 184, 60, 201, 202, 203, 204, 124, 205, 206, 207, 208, 209, 125, 210, 186, 187, 188, 211, 130, 131, 132, 472, 217, 218, 219, 220, 169, 170, 171, 172, 221, 222, 223, 224, 127, 473, 474, 475, 476, 688, 689, 690, 691, 692, 693, 694, 695, 696, 697, 698, 699, 714, 715, 729, 730, 731, 732, 733, 734, 735, 736, 700] (by decide +kernel) (by decide +kernel)) (goodIn_sub (fun _ h => List.mem_cons_of_mem _ (List.mem_append_left _ (List.mem_append_left _ (List.mem_append_right _ h)))) (by decide +kernel))
set_option maxRecDepth 20000 in
theorem gL_adders_L_path : GoodIn wsL_adders (va_wsS RL 105 yL_path wsL_path) := goodIn_app (goodIn_of _ (by decide +kernel)) ggL_adders_L_path
set_option maxRecDepth 20000 in
theorem ggL_adders_L_changes : GoodIn wsL_adders wsL_changes := goodIn_ca (goodIn_ca (goodIn_r _ [669, 477, 478, 479, 3, 480, 44, 18, 35, 36, 31, 40, 147, 148, 149, 150, 151, 152, 14, 481, 482, 483, 398, 153, 154, 155, 156, 157, 484, 485, 486, 487, 190, 191, 192, 30, 193, 194, 85, 195, 196, 197, 198, 199, 159, 160, 54, 161, 162, 200, 178, 179, 180, 123, 181, 182, 183, 17, 184, 60, 201, 202, 203, 204, 124, 205, 206, 207, 208, 209, 125, 210, 186, 187, 188, 211, 130, 131, 132, 399, 400, 401, 34, 402, 403, 404, 405, 406, 93, 94, 407, 408, 409, 410, 411, 412, 413, 414, 415, 416, 417, 418, 419, 420, 421, 92, 422, 100, 423, 424, 425, 426, 427, 387, 388, 389, 126, 428, 429, 430, 431, 432, 169, 170, 171, 172, 433, 222, 223, 224, 127, 488, 489, 490, 39, 491, 492, 493, 494, 495, 496, 497, 498, 499, 500, 501, 43, 502, 503, 504, 505, 506, 507, 508, 509, 510, 511, 512, 513, 514, 515, 516, 517, 108, 518, 519, 520, 521, 522, 523, 524, 525, 526, 527, 528, 529, 530, 531, 532, 533, 534, 535, 536, 537, 538, 539, 540, 541, 542, 543, 544, 545, 546, 547, 548, 549, 550, 551, 552, 553, 554, 555, 556, 557, 558, 559, 560, 561, 562, 48, 563, 564, 565, 47, 566, 114, 567, 568, 435, 436, 437, 569, 570, 571, 572, 573, 574, 575, 576, 577, 578, 579, 580, 581, 582, 583, 584, 585, 586, 587, 588, 589, 590, 591, 592, 688, 689, 690, 691, 692, 693, 694, 695, 696, 697, 698, 699, 714, 715, 729, 730, 731, 732, 733, 734, 735, 736, 700, 716, 717, 737, 718, 719, 720, 721, 722, 723] (by decide +kernel) (by decide +kernel)) (goodIn_sub (fun _ h => List.mem_cons_of_mem _ (List.mem_append_left _ (List.mem_append_left _ (List.mem_append_right _ h)))) (by decide +kernel))) (goodIn_sub (fun _ h => List.mem_cons_of_mem _ (List.mem_append_left _ (List.mem_append_right _ h))) (by decide +kernel))
set_option maxRecDepth 20000 in
theorem gL_adders_L_changes : GoodIn wsL_adders (va_wsS RL 108 yL_changes wsL_changes) := goodIn_app (goodIn_of _ (by decide +kernel)) ggL_adders_L_changes
set_option maxRecDepth 20000 in
theorem ggL_adders_X11_unlike : GoodIn wsL_adders wsX11_unlike := goodIn_ca (goodIn_ca (goodIn_r _ [646, 267, 268, 35, 36, 647, 504, 197, 505, 147, 148, 149, 3, 150, 151, 152, 14, 163, 164, 165, 54, 166, 167, 648, 619, 620, 34, 621, 403, 404, 405, 406, 93, 94, 407, 159, 160, 161, 162, 408, 178, 179, 180, 123, 181, 182, 183, 17, 184, 60, 409, 410, 411, 412, 413, 414, 415, 416, 417, 186, 187, 188, 418, 202, 203, 204, 124, 419, 420, 421, 92, 422, 100, 423, 207, 208, 209, 125, 424, 425, 426, 427, 387, 388, 389, 126, 428, 429, 430, 431, 432, 169, 170, 171, 172, 433, 222, 223, 224, 127, 649, 650, 651, 652, 688, 689, 690, 691, 692, 693, 694, 695, 696, 697, 698, 699, 729, 730, 731, 732, 733, 734, 735, 736, 716, 717, 700, 737] (by decide +kernel) (by decide +kernel)) (goodIn_sub (fun _ h => List.mem_cons_of_mem _ (List.mem_append_right _ h)) (by decide +kernel))) (goodIn_sub (fun _ h => List.mem_cons_of_mem _ (List.mem_append_left _ (List.mem_append_left _ (List.mem_append_right _ h)))) (by decide +kernel))
set_option maxRecDepth 20000 in
theorem gL_adders_X11_unlike : GoodIn wsL_adders (wsV RL 67 RX11 yX11_unlike wsX11_unlike) := goodIn_app (goodIn_of _ (by decide +kernel)) ggL_adders_X11_unlike
set_option maxRecDepth 20000 in
theorem ggL_adders_L_act : GoodIn wsL_adders wsL_act := goodIn_ca (goodIn_ca (goodIn_ca (goodIn_r _ [259, 260, 261, 262, 141, 142, 5, 263, 264, 265, 3, 266, 267, 268, 147, 148, 149, 150, 151, 152, 14, 269, 270, 271, 54, 272, 162, 163, 164, 165, 166, 167, 273, 274, 275, 276, 277, 278, 279, 280, 123, 124, 125, 126, 281, 130, 131, 17, 132, 60, 282, 283, 284, 285, 286, 287, 288, 289, 290, 291, 292, 293, 294, 295, 296, 297, 298, 299, 300, 301, 302, 303, 168, 169, 170, 171, 172, 304, 305, 306, 307, 127, 308, 309, 310, 311, 23, 153, 154, 155, 156, 157, 312, 313, 314, 158, 159, 160, 161, 315, 316, 317, 22, 318, 319, 320, 321, 322, 323, 324, 325, 326, 327, 328, 329, 330, 331, 332, 333, 334, 335, 336, 337, 338, 339, 65, 66, 68, 340, 341, 342, 343, 344, 67, 69, 345, 346, 347, 348, 241, 182, 183, 184, 349, 350, 351, 352, 353, 354, 355, 356, 357, 358, 359, 360, 70, 71, 361, 362, 363, 364, 365, 366, 367, 368, 369, 370, 371, 372, 373, 374, 375, 376, 377, 378, 379, 380, 381, 18, 19, 189, 129, 382, 383, 384, 385, 386, 387, 388, 389, 181, 390, 391, 392, 393, 394, 395, 396, 397, 398, 35, 399, 400, 401, 34, 402, 403, 404, 405, 406, 93, 94, 407, 408, 178, 179, 180, 409, 410, 411, 412, 413, 414, 415, 416, 417, 186, 187, 188, 418, 202, 203, 204, 419, 420, 421, 92, 422, 100, 423, 207, 208, 209, 424, 425, 426, 427, 428, 429, 430, 431, 432, 433, 222, 223, 224, 434, 435, 436, 437, 438, 439, 440, 441, 442, 443, 444, 445, 446, 447, 448, 449, 27, 450, 451, 452, 453, 26, 454, 77, 78, 230, 231, 232, 233, 252, 253, 254, 255, 256, 234, 247, 235, 236, 243, 455, 456, 457, 458, 459, 244, 143, 144, 145, 146, 31, 173, 174, 175, 176, 177, 185, 190, 191, 192, 30, 193, 194, 85, 195, 196, 197, 198, 199, 200, 201, 205, 206, 210, 211, 212, 213, 214, 215, 216, 217, 218, 219, 220, 221, 225, 226, 227, 228, 79, 229, 237, 238, 239, 240, 242, 245, 246, 248, 249, 250, 251, 460, 461, 462, 463, 464, 465, 466, 467, 468, 469, 470, 471, 472, 473, 474, 475, 476, 477, 478, 479, 480, 44, 36, 40, 481, 482, 483, 484, 485, 486, 487, 488, 489, 490, 39, 491, 492, 493, 494, 495, 496, 497, 498, 499, 500, 501, 43, 502, 503, 504, 505, 506, 507, 508, 509, 510, 511, 512, 513, 514, 515, 516, 517, 108, 518, 519, 520, 521, 522, 523, 524, 525, 526, 527, 528, 529, 530, 531, 532, 533, 534, 535, 536, 537, 538, 539, 540, 541, 542, 543, 544, 545, 546, 547, 548, 549, 550, 551, 552, 553, 554, 555, 556, 557, 558, 559, 560, 561, 562, 48, 563, 564, 565, 47, 566, 114, 567, 568, 569, 570, 571, 572, 573, 574, 575, 576, 577, 578, 579, 580, 581, 582, 583, 584, 585, 586, 587, 588, 589, 590, 591, 592, 593, 594, 595, 596, 52, 597, 598, 599, 600, 601, 602, 51, 603, 604, 605, 606, 607, 608, 609, 610, 611, 612, 613, 614, 615, 616, 617, 618, 619, 620, 621, 622, 623, 624, 625, 626, 627, 628, 629, 630, 631, 632, 633, 634, 635, 636, 637, 638, 639, 640, 641, 642, 643, 644, 645, 646, 647, 648, 649, 650, 651, 652, 653, 654, 655, 656, 657, 688, 689, 690, 691, 692, 693, 694, 695, 696, 697, 698, 699, 729, 730, 731, 732, 733, 734, 735, 736, 700, 701, 702, 703, 704, 705, 706, 707, 708, 709, 710, 716, 717, 737, 711, 712, 713, 714, 715, 718, 719, 720, 721, 722, 723, 724, 725, 726, 727, 728] (by decide +kernel) (by decide +kernel)) (goodIn_sub (fun _ h => List.mem_cons_of_mem _ (List.mem_append_right _ h)) (by decide +kernel))) (goodIn_sub (fun _ h => List.mem_cons_of_mem _ (List.mem_append_left _ (List.mem_append_left _ (List.mem_append_right _ h)))) (by decide +kernel))) (goodIn_sub (fun _ h => List.mem_cons_of_mem _ (List.mem_append_left _ (List.mem_append_right _ h))) (by decide +kernel))
set_option maxRecDepth 20000 in
theorem gL_adders_L_act : GoodIn wsL_adders (va_wsS RL 86 yL_act wsL_act) := goodIn_app (goodIn_of _ (by decide +kernel)) ggL_adders_L_act
set_option maxRecDepth 20000 in
theorem ggL_adders_X11_adder : GoodIn wsL_adders wsX11_adder := goodIn_ca (goodIn_ca (goodIn_ca (goodIn_r _ [311, 23, 147, 148, 149, 3, 150, 151, 152, 14, 153, 154, 155, 156, 157, 312, 313, 314, 267, 268, 158, 159, 160, 54, 161, 162, 315, 316, 317, 22, 318, 319, 320, 321, 322, 323, 324, 325, 274, 275, 276, 167, 277, 278, 279, 280, 123, 124, 125, 126, 281, 130, 131, 17, 132, 60, 326, 327, 328, 329, 330, 297, 298, 299, 331, 305, 306, 307, 172, 127, 332, 333, 334, 335, 336, 337, 338, 339, 65, 66, 68, 340, 341, 342, 343, 344, 67, 69, 345, 346, 347, 348, 241, 182, 183, 184, 349, 350, 351, 352, 688, 689, 690, 691, 692, 693, 694, 695, 696, 697, 698, 699, 729, 730, 731, 732, 733, 734, 735, 736, 701, 702, 703, 704, 705, 706, 707, 708, 709, 710, 700] (by decide +kernel) (by decide +kernel)) (goodIn_sub (fun _ h => List.mem_cons_of_mem _ (List.mem_append_left _ (List.mem_append_left _ (List.mem_append_right _ h)))) (by decide +kernel))) (goodIn_sub (fun _ h => List.mem_cons_of_mem _ (List.mem_append_left _ (List.mem_append_right _ h))) (by decide +kernel))) (goodIn_sub (fun _ h => List.mem_cons_of_mem _ (List.mem_append_right _ h)) (by decide +kernel))
set_option maxRecDepth 20000 in
theorem gL_adders_X11_adder : GoodIn wsL_adders (wsV RL 21 RX11 yX11_adder wsX11_adder) := goodIn_app (goodIn_of _ (by decide +kernel)) ggL_adders_X11_adder
set_option maxRecDepth 20000 in
theorem ggL_adders_X11_time : GoodIn wsL_adders wsX11_time := goodIn_ca (goodIn_r _ [463, 31, 18, 147, 148, 149, 3, 150, 151, 152, 14, 289, 290, 291, 292, 293, 294, 54, 295, 162, 190, 191, 192, 30, 193, 194, 85, 195, 196, 197, 198, 199, 159, 160, 161, 200, 178, 179, 180, 123, 181, 182, 183, 17, 184, 60, 201, 202, 203, 204, 124, 205, 206, 207, 208, 209, 125, 210, 186, 187, 188, 211, 130, 131, 132, 464, 465, 466, 467, 688, 689, 690, 691, 692, 693, 694, 695, 696, 697, 698, 699, 729, 730, 731, 732, 733, 734, 735, 736, 714, 715, 700] (by decide +kernel) (by decide +kernel)) (goodIn_sub (fun _ h => List.mem_cons_of_mem _ (List.mem_append_left _ (List.mem_append_left _ (List.mem_append_right _ h)))) (by decide +kernel))
set_option maxRecDepth 20000 in
theorem gL_adders_X11_time : GoodIn wsL_adders (wsV RL 49 RX11 yX11_time wsX11_time) := goodIn_app (goodIn_of _ (by decide +kernel)) ggL_adders_X11_time
set_option maxRecDepth 20000 in
theorem ggL_adders_X11_bit : GoodIn wsL_adders wsX11_bit := goodIn_ca (goodIn_ca (goodIn_r _ [397, 398, 35, 147, 148, 149, 3, 150, 151, 152, 14, 289, 290, 291, 292, 293, 294, 54, 295, 162, 153, 154, 155, 156, 157, 399, 400, 401, 34, 402, 403, 404, 405, 406, 93, 94, 407, 159, 160, 161, 408, 178, 179, 180, 123, 181, 182, 183, 17, 184, 60, 409, 410, 411, 412, 413, 414, 415, 416, 417, 186, 187, 188, 418, 202, 203, 204, 124, 419, 420, 421, 92, 422, 100, 423, 207, 208, 209, 125, 424, 425, 426, 427, 387, 388, 389, 126, 428, 429, 430, 431, 432, 169, 170, 171, 172, 433, 222, 223, 224, 127, 434, 435, 436, 437, 688, 689, 690, 691, 692, 693, 694, 695, 696, 697, 698, 699, 729, 730, 731, 732, 733, 734, 735, 736, 716, 717, 700, 737] (by decide +kernel) (by decide +kernel)) (goodIn_sub (fun _ h => List.mem_cons_of_mem _ (List.mem_append_left _ (List.mem_append_left _ (List.mem_append_right _ h)))) (by decide +kernel))) (goodIn_sub (fun _ h => List.mem_cons_of_mem _ (List.mem_append_left _ (List.mem_append_right _ h))) (by decide +kernel))
set_option maxRecDepth 20000 in
theorem gL_adders_X11_bit : GoodIn wsL_adders (wsV RL 37 RX11 yX11_bit wsX11_bit) := goodIn_app (goodIn_of _ (by decide +kernel)) ggL_adders_X11_bit
set_option maxRecDepth 20000 in
theorem ggL_adders_L_off : GoodIn wsL_adders wsL_off := goodIn_ca (goodIn_ca (goodIn_ca (goodIn_r _ [672, 593, 594, 595, 3, 596, 52, 35, 147, 148, 149, 150, 151, 152, 14, 153, 154, 155, 156, 157, 597, 598, 599, 267, 268, 163, 164, 165, 54, 166, 167, 600, 601, 602, 51, 603, 604, 504, 197, 505, 605, 606, 607, 608, 609, 610, 611, 612, 613, 614, 615, 616, 617, 618, 619, 620, 34, 621, 403, 404, 405, 406, 93, 94, 407, 159, 160, 161, 162, 408, 178, 179, 180, 123, 181, 182, 183, 17, 184, 60, 409, 410, 411, 412, 413, 414, 415, 416, 417, 186, 187, 188, 418, 202, 203, 204, 124, 419, 420, 421, 92, 422, 100, 423, 207, 208, 209, 125, 424, 425, 426, 427, 387, 388, 389, 126, 428, 429, 430, 431, 432, 169, 170, 171, 172, 433, 222, 223, 224, 127, 622, 443, 444, 445, 623, 624, 625, 626, 627, 628, 629, 630, 196, 198, 631, 632, 633, 634, 688, 689, 690, 691, 692, 693, 694, 695, 696, 697, 698, 699, 729, 730, 731, 732, 733, 734, 735, 736, 724, 725, 726, 727, 728, 716, 717, 700, 737] (by decide +kernel) (by decide +kernel)) (goodIn_sub (fun _ h => List.mem_cons_of_mem _ (List.mem_append_left _ (List.mem_append_left _ (List.mem_append_right _ h)))) (by decide +kernel))) (goodIn_sub (fun _ h => List.mem_cons_of_mem _ (List.mem_append_left _ (List.mem_append_right _ h))) (by decide +kernel))) (goodIn_sub (fun _ h => List.mem_cons_of_mem _ (List.mem_append_right _ h)) (by decide +kernel))
set_option maxRecDepth 20000 in
theorem gL_adders_L_off : GoodIn wsL_adders (va_wsS RL 111 yL_off wsL_off) := goodIn_app (goodIn_of _ (by decide +kernel)) ggL_adders_L_off
set_option maxRecDepth 20000 in
theorem ggL_adders_X11_unseen : GoodIn wsL_adders wsX11_unseen := goodIn_ca (goodIn_ca (goodIn_ca (goodIn_r _ [638, 52, 35, 147, 148, 149, 3, 150, 151, 152, 14, 153, 154, 155, 156, 157, 597, 598, 599, 267, 268, 163, 164, 165, 54, 166, 167, 600, 601, 602, 51, 603, 604, 504, 197, 505, 605, 606, 607, 608, 609, 610, 611, 612, 613, 614, 615, 616, 617, 618, 619, 620, 34, 621, 403, 404, 405, 406, 93, 94, 407, 159, 160, 161, 162, 408, 178, 179, 180, 123, 181, 182, 183, 17, 184, 60, 409, 410, 411, 412, 413, 414, 415, 416, 417, 186, 187, 188, 418, 202, 203, 204, 124, 419, 420, 421, 92, 422, 100, 423, 207, 208, 209, 125, 424, 425, 426, 427, 387, 388, 389, 126, 428, 429, 430, 431, 432, 169, 170, 171, 172, 433, 222, 223, 224, 127, 622, 443, 444, 445, 623, 624, 625, 626, 627, 628, 629, 630, 196, 198, 639, 640, 641, 642, 688, 689, 690, 691, 692, 693, 694, 695, 696, 697, 698, 699, 729, 730, 731, 732, 733, 734, 735, 736, 724, 725, 726, 727, 728, 716, 717, 700, 737] (by decide +kernel) (by decide +kernel)) (goodIn_sub (fun _ h => List.mem_cons_of_mem _ (List.mem_append_left _ (List.mem_append_left _ (List.mem_append_right _ h)))) (by decide +kernel))) (goodIn_sub (fun _ h => List.mem_cons_of_mem _ (List.mem_append_left _ (List.mem_append_right _ h))) (by decide +kernel))) (goodIn_sub (fun _ h => List.mem_cons_of_mem _ (List.mem_append_right _ h)) (by decide +kernel))
set_option maxRecDepth 20000 in
theorem gL_adders_X11_unseen : GoodIn wsL_adders (wsV RL 64 RX11 yX11_unseen wsX11_unseen) := goodIn_app (goodIn_of _ (by decide +kernel)) ggL_adders_X11_unseen
set_option maxRecDepth 20000 in
theorem ggL_adders_X11_stick : GoodIn wsL_adders wsX11_stick := goodIn_ca (goodIn_ca (goodIn_r _ [385, 147, 148, 149, 3, 150, 151, 152, 14, 289, 290, 291, 292, 293, 294, 54, 295, 162, 153, 154, 155, 156, 157, 386, 387, 388, 389, 126, 181, 182, 183, 17, 184, 60, 390, 391, 392, 393, 281, 130, 131, 132, 688, 689, 690, 691, 692, 693, 694, 695, 696, 697, 698, 699, 729, 730, 731, 732, 733, 734, 735, 736, 700] (by decide +kernel) (by decide +kernel)) (goodIn_sub (fun _ h => List.mem_cons_of_mem _ (List.mem_append_left _ (List.mem_append_left _ (List.mem_append_right _ h)))) (by decide +kernel))) (goodIn_sub (fun _ h => List.mem_cons_of_mem _ (List.mem_append_left _ (List.mem_append_right _ h))) (by decide +kernel))
set_option maxRecDepth 20000 in
theorem gL_adders_X11_stick : GoodIn wsL_adders (wsV RL 34 RX11 yX11_stick wsX11_stick) := goodIn_app (goodIn_of _ (by decide +kernel)) ggL_adders_X11_stick
set_option maxRecDepth 20000 in
theorem ggL_adders_X11_clear : GoodIn wsL_adders wsX11_clear := goodIn_ca (goodIn_r _ [373, 147, 148, 149, 3, 150, 151, 152, 14, 158, 159, 160, 54, 161, 162, 374, 375, 376, 377, 167, 172, 688, 689, 690, 691, 692, 693, 694, 695, 696, 697, 698, 699, 729, 730, 731, 732, 733, 734, 735, 736] (by decide +kernel) (by decide +kernel)) (goodIn_sub (fun _ h => List.mem_cons_of_mem _ (List.mem_append_left _ (List.mem_append_left _ (List.mem_append_right _ h)))) (by decide +kernel))
set_option maxRecDepth 20000 in
theorem gL_adders_X11_clear : GoodIn wsL_adders (wsV RL 28 RX11 yX11_clear wsX11_clear) := goodIn_app (goodIn_of _ (by decide +kernel)) ggL_adders_X11_clear
set_option maxRecDepth 20000 in
theorem ggL_adders_L_multipliers : GoodIn wsL_adders wsL_multipliers := goodIn_ca (goodIn_ca (goodIn_ca (goodIn_r _ [675, 370, 371, 372, 3, 373, 147, 148, 149, 150, 151, 152, 14, 158, 159, 160, 54, 161, 162, 374, 375, 376, 377, 167, 172, 353, 354, 355, 356, 23, 153, 154, 155, 156, 157, 312, 313, 314, 267, 268, 357, 358, 359, 22, 360, 70, 71, 361, 321, 322, 323, 324, 325, 274, 275, 276, 277, 278, 279, 280, 123, 124, 125, 126, 281, 130, 131, 17, 132, 60, 330, 297, 298, 299, 340, 352, 182, 183, 184, 362, 363, 364, 365, 331, 305, 306, 307, 127, 366, 367, 368, 369, 320, 319, 326, 327, 328, 329, 332, 333, 334, 335, 658, 659, 135, 660, 143, 144, 145, 146, 31, 18, 27, 163, 164, 165, 166, 168, 169, 170, 171, 173, 174, 175, 176, 19, 177, 178, 179, 180, 181, 185, 186, 187, 188, 189, 190, 191, 192, 30, 193, 194, 85, 195, 196, 197, 198, 199, 200, 201, 202, 203, 204, 205, 206, 207, 208, 209, 210, 211, 212, 213, 214, 215, 216, 217, 218, 219, 220, 221, 222, 223, 224, 225, 226, 227, 26, 228, 79, 229, 230, 231, 232, 233, 234, 235, 236, 237, 238, 239, 240, 241, 242, 243, 244, 245, 246, 247, 248, 249, 250, 251, 77, 252, 253, 254, 255, 256, 661, 662, 663, 438, 439, 440, 441, 398, 35, 399, 400, 401, 34, 402, 403, 404, 405, 406, 93, 94, 407, 408, 409, 410, 411, 412, 413, 414, 415, 416, 417, 418, 419, 420, 421, 92, 422, 100, 423, 424, 425, 426, 427, 387, 388, 389, 428, 429, 430, 431, 432, 433, 442, 443, 444, 445, 446, 447, 448, 449, 450, 451, 452, 453, 454, 78, 455, 456, 457, 458, 459, 664, 665, 666, 137, 468, 469, 470, 471, 472, 473, 474, 475, 476, 460, 461, 462, 463, 289, 290, 291, 292, 293, 294, 295, 464, 465, 466, 467, 670, 671, 672, 593, 594, 595, 596, 52, 597, 598, 599, 600, 601, 602, 51, 603, 604, 504, 505, 605, 606, 607, 608, 609, 610, 611, 612, 613, 614, 615, 616, 617, 618, 619, 620, 621, 622, 623, 624, 625, 626, 627, 628, 629, 630, 631, 632, 633, 634, 643, 644, 645, 646, 36, 647, 648, 649, 650, 651, 652, 635, 636, 637, 638, 639, 640, 641, 642, 688, 689, 690, 691, 692, 693, 694, 695, 696, 697, 698, 699, 729, 730, 731, 732, 733, 734, 735, 736, 701, 702, 703, 704, 705, 706, 707, 708, 709, 710, 700, 714, 715, 711, 712, 713, 716, 717, 737, 724, 725, 726, 727, 728] (by decide +kernel) (by decide +kernel)) (goodIn_sub (fun _ h => List.mem_cons_of_mem _ (List.mem_append_left _ (List.mem_append_left _ (List.mem_append_right _ h)))) (by decide +kernel))) (goodIn_sub (fun _ h => List.mem_cons_of_mem _ (List.mem_append_left _ (List.mem_append_right _ h))) (by decide +kernel))) (goodIn_sub (fun _ h => List.mem_cons_of_mem _ (List.mem_append_right _ h)) (by decide +kernel))
set_option maxRecDepth 20000 in
theorem gL_adders_L_multipliers : GoodIn wsL_adders (va_wsS RL 113 yL_multipliers wsL_multipliers) := goodIn_app (goodIn_of _ (by decide +kernel)) ggL_adders_L_multipliers
set_option maxRecDepth 20000 in
theorem ggL_adders_L_glitch : GoodIn wsL_adders wsL_glitch := goodIn_ca (goodIn_ca (goodIn_ca (goodIn_r _ [678, 5, 263, 264, 265, 3, 266, 267, 268, 147, 148, 149, 150, 151, 152, 14, 269, 270, 271, 54, 272, 162, 163, 164, 165, 166, 167, 273, 274, 275, 276, 277, 278, 279, 280, 123, 124, 125, 126, 281, 130, 131, 17, 132, 60, 282, 283, 284, 285, 286, 287, 288, 289, 290, 291, 292, 293, 294, 295, 296, 297, 298, 299, 300, 301, 302, 303, 168, 169, 170, 171, 172, 304, 305, 306, 307, 127, 143, 144, 145, 146, 31, 18, 27, 153, 154, 155, 156, 157, 158, 159, 160, 161, 173, 174, 175, 176, 19, 177, 178, 179, 180, 181, 182, 183, 184, 185, 186, 187, 188, 189, 190, 191, 192, 30, 193, 194, 85, 195, 196, 197, 198, 199, 200, 201, 202, 203, 204, 205, 206, 207, 208, 209, 210, 211, 212, 213, 214, 215, 216, 217, 218, 219, 220, 221, 222, 223, 224, 225, 226, 227, 26, 228, 79, 229, 230, 231, 232, 233, 234, 235, 236, 237, 238, 239, 240, 241, 242, 243, 244, 245, 246, 247, 248, 249, 250, 251, 77, 252, 253, 254, 255, 256, 661, 662, 135, 663, 438, 439, 440, 441, 398, 35, 399, 400, 401, 34, 402, 403, 404, 405, 406, 93, 94, 407, 408, 409, 410, 411, 412, 413, 414, 415, 416, 417, 418, 419, 420, 421, 92, 422, 100, 423, 424, 425, 426, 427, 387, 388, 389, 428, 429, 430, 431, 432, 433, 442, 443, 444, 445, 446, 447, 448, 449, 450, 451, 452, 453, 454, 78, 455, 456, 457, 458, 459, 667, 668, 669, 477, 478, 479, 480, 44, 36, 40, 481, 482, 483, 484, 485, 486, 487, 488, 489, 490, 39, 491, 492, 493, 494, 495, 496, 497, 498, 499, 500, 501, 43, 502, 503, 504, 505, 506, 507, 508, 509, 510, 511, 512, 513, 514, 515, 516, 517, 108, 518, 519, 520, 521, 522, 523, 524, 525, 526, 527, 528, 529, 530, 531, 532, 533, 534, 535, 536, 537, 538, 539, 540, 541, 542, 543, 544, 545, 546, 547, 548, 549, 550, 551, 552, 553, 554, 555, 556, 557, 558, 559, 560, 561, 562, 48, 563, 564, 565, 47, 566, 114, 567, 568, 435, 436, 437, 569, 570, 571, 572, 573, 574, 575, 576, 577, 578, 579, 580, 581, 582, 583, 584, 585, 586, 587, 588, 589, 590, 591, 592, 664, 665, 666, 137, 468, 469, 470, 471, 472, 473, 474, 475, 476, 257, 258, 259, 260, 261, 262, 141, 142, 308, 309, 310, 311, 23, 312, 313, 314, 315, 316, 317, 22, 318, 319, 320, 321, 322, 323, 324, 325, 326, 327, 328, 329, 330, 331, 332, 333, 334, 335, 336, 337, 338, 339, 65, 66, 68, 340, 341, 342, 343, 344, 67, 69, 345, 346, 347, 348, 349, 350, 351, 352, 353, 354, 355, 356, 357, 358, 359, 360, 70, 71, 361, 362, 363, 364, 365, 366, 367, 368, 369, 370, 371, 372, 373, 374, 375, 376, 377, 378, 379, 380, 381, 129, 382, 383, 384, 385, 386, 390, 391, 392, 393, 394, 395, 396, 397, 434, 460, 461, 462, 463, 464, 465, 466, 467, 593, 594, 595, 596, 52, 597, 598, 599, 600, 601, 602, 51, 603, 604, 605, 606, 607, 608, 609, 610, 611, 612, 613, 614, 615, 616, 617, 618, 619, 620, 621, 622, 623, 624, 625, 626, 627, 628, 629, 630, 631, 632, 633, 634, 635, 636, 637, 638, 639, 640, 641, 642, 643, 644, 645, 646, 647, 648, 649, 650, 651, 652, 653, 654, 655, 656, 657, 658, 659, 660, 688, 689, 690, 691, 692, 693, 694, 695, 696, 697, 698, 699, 729, 730, 731, 732, 733, 734, 735, 736, 700, 714, 715, 711, 712, 713, 716, 717, 737, 718, 719, 720, 721, 722, 723, 701, 702, 703, 704, 705, 706, 707, 708, 709, 710, 724, 725, 726, 727, 728] (by decide +kernel) (by decide +kernel)) (goodIn_sub (fun _ h => List.mem_cons_of_mem _ (List.mem_append_right _ h)) (by decide +kernel))) (goodIn_sub (fun _ h => List.mem_cons_of_mem _ (List.mem_append_left _ (List.mem_append_left _ (List.mem_append_right _ h)))) (by decide +kernel))) (goodIn_sub (fun _ h => List.mem_cons_of_mem _ (List.mem_append_left _ (List.mem_append_right _ h))) (by decide +kernel))
set_option maxRecDepth 20000 in
theorem gL_adders_L_glitch : GoodIn wsL_adders (va_wsS RL 116 yL_glitch wsL_glitch) := goodIn_app (goodIn_of _ (by decide +kernel)) ggL_adders_L_glitch
set_option maxRecDepth 20000 in
theorem ggL_adders_L_digits : GoodIn wsL_adders wsL_digits := goodIn_ca (goodIn_ca (goodIn_r _ [681, 137, 682, 140, 683, 653, 654, 655, 3, 656, 151, 152, 657, 153, 154, 155, 156, 157] (by decide +kernel) (by decide +kernel)) (goodIn_sub (fun _ h => List.mem_cons_of_mem _ (List.mem_append_left _ (List.mem_append_left _ (List.mem_append_right _ h)))) (by decide +kernel))) (goodIn_sub (fun _ h => List.mem_cons_of_mem _ (List.mem_append_left _ (List.mem_append_right _ h))) (by decide +kernel))
