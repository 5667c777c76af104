/-! The law's bytes, on. -/
theorem dL_law_774 : decode cL_law 774 = .ok (.goto (-132), 3) := by decide +kernel
theorem dL_law_777 : decode cL_law 777 = .ok (.iload 6, 2) := by decide +kernel
theorem dL_law_779 : decode cL_law 779 = .ok (.newarray .int, 2) := by decide +kernel
theorem dL_law_781 : decode cL_law 781 = .ok (.astore 23, 2) := by decide +kernel
theorem dL_law_783 : decode cL_law 783 = .ok (.iconst 0, 1) := by decide +kernel
theorem dL_law_784 : decode cL_law 784 = .ok (.istore 24, 2) := by decide +kernel
theorem dL_law_786 : decode cL_law 786 = .ok (.iconst 0, 1) := by decide +kernel
theorem dL_law_787 : decode cL_law 787 = .ok (.istore 25, 2) := by decide +kernel
theorem dL_law_789 : decode cL_law 789 = .ok (.iconst 0, 1) := by decide +kernel
theorem dL_law_790 : decode cL_law 790 = .ok (.istore 26, 2) := by decide +kernel
theorem dL_law_792 : decode cL_law 792 = .ok (.iload 26, 2) := by decide +kernel
theorem dL_law_794 : decode cL_law 794 = .ok (.iload 7, 2) := by decide +kernel
theorem dL_law_796 : decode cL_law 796 = .ok (.if_icmp .ge 316, 3) := by decide +kernel
theorem dL_law_799 : decode cL_law 799 = .ok (.aload_n 1, 1) := by decide +kernel
theorem dL_law_800 : decode cL_law 800 = .ok (.iload 26, 2) := by decide +kernel
theorem dL_law_802 : decode cL_law 802 = .ok (.iconst 3, 1) := by decide +kernel
theorem dL_law_803 : decode cL_law 803 = .ok (.invokevirtual 101, 3) := by decide +kernel
theorem dL_law_806 : decode cL_law 806 = .ok (.istore 27, 2) := by decide +kernel
theorem dL_law_808 : decode cL_law 808 = .ok (.aload_n 1, 1) := by decide +kernel
theorem dL_law_809 : decode cL_law 809 = .ok (.iload 26, 2) := by decide +kernel
theorem dL_law_811 : decode cL_law 811 = .ok (.iconst 2, 1) := by decide +kernel
theorem dL_law_812 : decode cL_law 812 = .ok (.invokevirtual 101, 3) := by decide +kernel
theorem dL_law_815 : decode cL_law 815 = .ok (.istore 28, 2) := by decide +kernel
theorem dL_law_817 : decode cL_law 817 = .ok (.aload_n 1, 1) := by decide +kernel
theorem dL_law_818 : decode cL_law 818 = .ok (.iload 26, 2) := by decide +kernel
theorem dL_law_820 : decode cL_law 820 = .ok (.iconst 5, 1) := by decide +kernel
theorem dL_law_821 : decode cL_law 821 = .ok (.invokevirtual 101, 3) := by decide +kernel
theorem dL_law_824 : decode cL_law 824 = .ok (.aload 10, 2) := by decide +kernel
theorem dL_law_826 : decode cL_law 826 = .ok (.iload 26, 2) := by decide +kernel
theorem dL_law_828 : decode cL_law 828 = .ok (.aaload, 1) := by decide +kernel
theorem dL_law_829 : decode cL_law 829 = .ok (.iconst 5, 1) := by decide +kernel
theorem dL_law_830 : decode cL_law 830 = .ok (.iaload, 1) := by decide +kernel
theorem dL_law_831 : decode cL_law 831 = .ok (.isub, 1) := by decide +kernel
theorem dL_law_832 : decode cL_law 832 = .ok (.istore 29, 2) := by decide +kernel
theorem dL_law_834 : decode cL_law 834 = .ok (.iload 24, 2) := by decide +kernel
theorem dL_law_836 : decode cL_law 836 = .ok (.iload 27, 2) := by decide +kernel
theorem dL_law_838 : decode cL_law 838 = .ok (.iadd, 1) := by decide +kernel
theorem dL_law_839 : decode cL_law 839 = .ok (.istore 24, 2) := by decide +kernel
theorem dL_law_841 : decode cL_law 841 = .ok (.iload 25, 2) := by decide +kernel
theorem dL_law_843 : decode cL_law 843 = .ok (.iload 29, 2) := by decide +kernel
theorem dL_law_845 : decode cL_law 845 = .ok (.iadd, 1) := by decide +kernel
theorem dL_law_846 : decode cL_law 846 = .ok (.istore 25, 2) := by decide +kernel
theorem dL_law_848 : decode cL_law 848 = .ok (.iload 28, 2) := by decide +kernel
theorem dL_law_850 : decode cL_law 850 = .ok (.ifCond .lt 12, 3) := by decide +kernel
theorem dL_law_853 : decode cL_law 853 = .ok (.aload 23, 2) := by decide +kernel
theorem dL_law_855 : decode cL_law 855 = .ok (.iload 28, 2) := by decide +kernel
theorem dL_law_857 : decode cL_law 857 = .ok (.dup2, 1) := by decide +kernel
theorem dL_law_858 : decode cL_law 858 = .ok (.iaload, 1) := by decide +kernel
theorem dL_law_859 : decode cL_law 859 = .ok (.iconst 1, 1) := by decide +kernel
theorem dL_law_860 : decode cL_law 860 = .ok (.iadd, 1) := by decide +kernel
theorem dL_law_861 : decode cL_law 861 = .ok (.iastore, 1) := by decide +kernel
theorem dL_law_862 : decode cL_law 862 = .ok (.aload_n 1, 1) := by decide +kernel
theorem dL_law_863 : decode cL_law 863 = .ok (.iload 26, 2) := by decide +kernel
theorem dL_law_865 : decode cL_law 865 = .ok (.iconst 0, 1) := by decide +kernel
theorem dL_law_866 : decode cL_law 866 = .ok (.invokevirtual 101, 3) := by decide +kernel
theorem dL_law_869 : decode cL_law 869 = .ok (.aload 10, 2) := by decide +kernel
theorem dL_law_871 : decode cL_law 871 = .ok (.iload 26, 2) := by decide +kernel
theorem dL_law_873 : decode cL_law 873 = .ok (.aaload, 1) := by decide +kernel
theorem dL_law_874 : decode cL_law 874 = .ok (.iconst 0, 1) := by decide +kernel
theorem dL_law_875 : decode cL_law 875 = .ok (.iaload, 1) := by decide +kernel
theorem dL_law_876 : decode cL_law 876 = .ok (.if_icmp .ne 123, 3) := by decide +kernel
theorem dL_law_879 : decode cL_law 879 = .ok (.aload_n 1, 1) := by decide +kernel
theorem dL_law_880 : decode cL_law 880 = .ok (.iload 26, 2) := by decide +kernel
theorem dL_law_882 : decode cL_law 882 = .ok (.iconst 1, 1) := by decide +kernel
theorem dL_law_883 : decode cL_law 883 = .ok (.invokevirtual 101, 3) := by decide +kernel
theorem dL_law_886 : decode cL_law 886 = .ok (.aload 10, 2) := by decide +kernel
theorem dL_law_888 : decode cL_law 888 = .ok (.iload 26, 2) := by decide +kernel
theorem dL_law_890 : decode cL_law 890 = .ok (.aaload, 1) := by decide +kernel
theorem dL_law_891 : decode cL_law 891 = .ok (.iconst 1, 1) := by decide +kernel
theorem dL_law_892 : decode cL_law 892 = .ok (.iaload, 1) := by decide +kernel
theorem dL_law_893 : decode cL_law 893 = .ok (.if_icmp .ne 106, 3) := by decide +kernel
theorem dL_law_896 : decode cL_law 896 = .ok (.aload_n 1, 1) := by decide +kernel
theorem dL_law_897 : decode cL_law 897 = .ok (.iload 26, 2) := by decide +kernel
theorem dL_law_899 : decode cL_law 899 = .ok (.iconst 4, 1) := by decide +kernel
theorem dL_law_900 : decode cL_law 900 = .ok (.invokevirtual 101, 3) := by decide +kernel
theorem dL_law_903 : decode cL_law 903 = .ok (.aload 10, 2) := by decide +kernel
theorem dL_law_905 : decode cL_law 905 = .ok (.iload 26, 2) := by decide +kernel
theorem dL_law_907 : decode cL_law 907 = .ok (.aaload, 1) := by decide +kernel
theorem dL_law_908 : decode cL_law 908 = .ok (.iconst 4, 1) := by decide +kernel
theorem dL_law_909 : decode cL_law 909 = .ok (.iaload, 1) := by decide +kernel
theorem dL_law_910 : decode cL_law 910 = .ok (.iload 27, 2) := by decide +kernel
theorem dL_law_912 : decode cL_law 912 = .ok (.iadd, 1) := by decide +kernel
theorem dL_law_913 : decode cL_law 913 = .ok (.if_icmp .ne 86, 3) := by decide +kernel
theorem dL_law_916 : decode cL_law 916 = .ok (.iload 27, 2) := by decide +kernel
theorem dL_law_918 : decode cL_law 918 = .ok (.ifCond .lt 81, 3) := by decide +kernel
theorem dL_law_921 : decode cL_law 921 = .ok (.iload 27, 2) := by decide +kernel
theorem dL_law_923 : decode cL_law 923 = .ok (.bipush 31, 2) := by decide +kernel
theorem dL_law_925 : decode cL_law 925 = .ok (.if_icmp .gt 74, 3) := by decide +kernel
theorem dL_law_928 : decode cL_law 928 = .ok (.iload 29, 2) := by decide +kernel
theorem dL_law_930 : decode cL_law 930 = .ok (.ifCond .lt 69, 3) := by decide +kernel
theorem dL_law_933 : decode cL_law 933 = .ok (.iload 29, 2) := by decide +kernel
theorem dL_law_935 : decode cL_law 935 = .ok (.iconst 1, 1) := by decide +kernel
theorem dL_law_936 : decode cL_law 936 = .ok (.if_icmp .gt 63, 3) := by decide +kernel
theorem dL_law_939 : decode cL_law 939 = .ok (.iload 29, 2) := by decide +kernel
theorem dL_law_941 : decode cL_law 941 = .ok (.iconst 1, 1) := by decide +kernel
theorem dL_law_942 : decode cL_law 942 = .ok (.if_icmp .ne 15, 3) := by decide +kernel
theorem dL_law_945 : decode cL_law 945 = .ok (.iload 27, 2) := by decide +kernel
theorem dL_law_947 : decode cL_law 947 = .ok (.aload 10, 2) := by decide +kernel
theorem dL_law_949 : decode cL_law 949 = .ok (.iload 26, 2) := by decide +kernel
theorem dL_law_951 : decode cL_law 951 = .ok (.aaload, 1) := by decide +kernel
theorem dL_law_952 : decode cL_law 952 = .ok (.iconst 0, 1) := by decide +kernel
theorem dL_law_953 : decode cL_law 953 = .ok (.iaload, 1) := by decide +kernel
theorem dL_law_954 : decode cL_law 954 = .ok (.if_icmp .ne 45, 3) := by decide +kernel
theorem dL_law_957 : decode cL_law 957 = .ok (.aload 10, 2) := by decide +kernel
theorem dL_law_959 : decode cL_law 959 = .ok (.iload 26, 2) := by decide +kernel
theorem dL_law_961 : decode cL_law 961 = .ok (.aaload, 1) := by decide +kernel
theorem dL_law_962 : decode cL_law 962 = .ok (.iconst 2, 1) := by decide +kernel
theorem dL_law_963 : decode cL_law 963 = .ok (.iaload, 1) := by decide +kernel
theorem dL_law_964 : decode cL_law 964 = .ok (.ifCond .ge 11, 3) := by decide +kernel
theorem dL_law_967 : decode cL_law 967 = .ok (.iload 27, 2) := by decide +kernel
theorem dL_law_969 : decode cL_law 969 = .ok (.iload 29, 2) := by decide +kernel
theorem dL_law_971 : decode cL_law 971 = .ok (.iadd, 1) := by decide +kernel
theorem dL_law_972 : decode cL_law 972 = .ok (.ifCond .gt 27, 3) := by decide +kernel
theorem dL_law_975 : decode cL_law 975 = .ok (.iload 28, 2) := by decide +kernel
theorem dL_law_977 : decode cL_law 977 = .ok (.aload_n 1, 1) := by decide +kernel
theorem dL_law_978 : decode cL_law 978 = .ok (.iconst 2, 1) := by decide +kernel
theorem dL_law_979 : decode cL_law 979 = .ok (.invokevirtual 94, 3) := by decide +kernel
theorem dL_law_982 : decode cL_law 982 = .ok (.ifCond .ne 7, 3) := by decide +kernel
theorem dL_law_985 : decode cL_law 985 = .ok (.iconst (-1), 1) := by decide +kernel
theorem dL_law_986 : decode cL_law 986 = .ok (.goto 10, 3) := by decide +kernel
theorem dL_law_989 : decode cL_law 989 = .ok (.aload 10, 2) := by decide +kernel
theorem dL_law_991 : decode cL_law 991 = .ok (.iload 26, 2) := by decide +kernel
theorem dL_law_993 : decode cL_law 993 = .ok (.aaload, 1) := by decide +kernel
theorem dL_law_994 : decode cL_law 994 = .ok (.iconst 2, 1) := by decide +kernel
theorem dL_law_995 : decode cL_law 995 = .ok (.iaload, 1) := by decide +kernel
theorem dL_law_996 : decode cL_law 996 = .ok (.if_icmp .eq 5, 3) := by decide +kernel
theorem dL_law_999 : decode cL_law 999 = .ok (.iconst 0, 1) := by decide +kernel
theorem dL_law_1000 : decode cL_law 1000 = .ok (.ireturn, 1) := by decide +kernel
theorem dL_law_1001 : decode cL_law 1001 = .ok (.iload 29, 2) := by decide +kernel
theorem dL_law_1003 : decode cL_law 1003 = .ok (.ifCond .ne 6, 3) := by decide +kernel
theorem dL_law_1006 : decode cL_law 1006 = .ok (.goto 100, 3) := by decide +kernel
theorem dL_law_1009 : decode cL_law 1009 = .ok (.iconst 0, 1) := by decide +kernel
theorem dL_law_1010 : decode cL_law 1010 = .ok (.istore 30, 2) := by decide +kernel
theorem dL_law_1012 : decode cL_law 1012 = .ok (.iconst 0, 1) := by decide +kernel
theorem dL_law_1013 : decode cL_law 1013 = .ok (.istore 31, 2) := by decide +kernel
theorem dL_law_1015 : decode cL_law 1015 = .ok (.iload 31, 2) := by decide +kernel
theorem dL_law_1017 : decode cL_law 1017 = .ok (.iload 8, 2) := by decide +kernel
theorem dL_law_1019 : decode cL_law 1019 = .ok (.if_icmp .ge 80, 3) := by decide +kernel
theorem dL_law_1022 : decode cL_law 1022 = .ok (.iload 30, 2) := by decide +kernel
theorem dL_law_1024 : decode cL_law 1024 = .ok (.aload_n 1, 1) := by decide +kernel
theorem dL_law_1025 : decode cL_law 1025 = .ok (.iload 31, 2) := by decide +kernel
theorem dL_law_1027 : decode cL_law 1027 = .ok (.iconst 3, 1) := by decide +kernel
theorem dL_law_1028 : decode cL_law 1028 = .ok (.invokevirtual 104, 3) := by decide +kernel
theorem dL_law_1031 : decode cL_law 1031 = .ok (.aload 11, 2) := by decide +kernel
theorem dL_law_1033 : decode cL_law 1033 = .ok (.iload 31, 2) := by decide +kernel
theorem dL_law_1035 : decode cL_law 1035 = .ok (.aaload, 1) := by decide +kernel
theorem dL_law_1036 : decode cL_law 1036 = .ok (.iconst 3, 1) := by decide +kernel
theorem dL_law_1037 : decode cL_law 1037 = .ok (.iaload, 1) := by decide +kernel
theorem dL_law_1038 : decode cL_law 1038 = .ok (.if_icmp .le 51, 3) := by decide +kernel
theorem dL_law_1041 : decode cL_law 1041 = .ok (.aload_n 1, 1) := by decide +kernel
theorem dL_law_1042 : decode cL_law 1042 = .ok (.iload 31, 2) := by decide +kernel
theorem dL_law_1044 : decode cL_law 1044 = .ok (.iconst 0, 1) := by decide +kernel
theorem dL_law_1045 : decode cL_law 1045 = .ok (.invokevirtual 104, 3) := by decide +kernel
theorem dL_law_1048 : decode cL_law 1048 = .ok (.aload_n 1, 1) := by decide +kernel
theorem dL_law_1049 : decode cL_law 1049 = .ok (.aload 10, 2) := by decide +kernel
theorem dL_law_1051 : decode cL_law 1051 = .ok (.iload 26, 2) := by decide +kernel
theorem dL_law_1053 : decode cL_law 1053 = .ok (.aaload, 1) := by decide +kernel
theorem dL_law_1054 : decode cL_law 1054 = .ok (.iconst 2, 1) := by decide +kernel
theorem dL_law_1055 : decode cL_law 1055 = .ok (.iaload, 1) := by decide +kernel
theorem dL_law_1056 : decode cL_law 1056 = .ok (.iconst 0, 1) := by decide +kernel
theorem dL_law_1057 : decode cL_law 1057 = .ok (.invokevirtual 97, 3) := by decide +kernel
theorem dL_law_1060 : decode cL_law 1060 = .ok (.if_icmp .ne 29, 3) := by decide +kernel
theorem dL_law_1063 : decode cL_law 1063 = .ok (.aload_n 1, 1) := by decide +kernel
theorem dL_law_1064 : decode cL_law 1064 = .ok (.iload 31, 2) := by decide +kernel
theorem dL_law_1066 : decode cL_law 1066 = .ok (.iconst 1, 1) := by decide +kernel
theorem dL_law_1067 : decode cL_law 1067 = .ok (.invokevirtual 104, 3) := by decide +kernel
theorem dL_law_1070 : decode cL_law 1070 = .ok (.aload_n 1, 1) := by decide +kernel
theorem dL_law_1071 : decode cL_law 1071 = .ok (.aload 10, 2) := by decide +kernel
theorem dL_law_1073 : decode cL_law 1073 = .ok (.iload 26, 2) := by decide +kernel
theorem dL_law_1075 : decode cL_law 1075 = .ok (.aaload, 1) := by decide +kernel
theorem dL_law_1076 : decode cL_law 1076 = .ok (.iconst 2, 1) := by decide +kernel
theorem dL_law_1077 : decode cL_law 1077 = .ok (.iaload, 1) := by decide +kernel
theorem dL_law_1078 : decode cL_law 1078 = .ok (.iconst 1, 1) := by decide +kernel
theorem dL_law_1079 : decode cL_law 1079 = .ok (.invokevirtual 97, 3) := by decide +kernel
theorem dL_law_1082 : decode cL_law 1082 = .ok (.if_icmp .ne 7, 3) := by decide +kernel
theorem dL_law_1085 : decode cL_law 1085 = .ok (.iconst 1, 1) := by decide +kernel
theorem dL_law_1086 : decode cL_law 1086 = .ok (.goto 4, 3) := by decide +kernel
theorem dL_law_1089 : decode cL_law 1089 = .ok (.iconst 0, 1) := by decide +kernel
theorem dL_law_1090 : decode cL_law 1090 = .ok (.ior, 1) := by decide +kernel
theorem dL_law_1091 : decode cL_law 1091 = .ok (.istore 30, 2) := by decide +kernel
theorem dL_law_1093 : decode cL_law 1093 = .ok (.iinc 31 1, 3) := by decide +kernel
theorem dL_law_1096 : decode cL_law 1096 = .ok (.goto (-81), 3) := by decide +kernel
theorem dL_law_1099 : decode cL_law 1099 = .ok (.iload 30, 2) := by decide +kernel
theorem dL_law_1101 : decode cL_law 1101 = .ok (.ifCond .ne 5, 3) := by decide +kernel
theorem dL_law_1104 : decode cL_law 1104 = .ok (.iconst 0, 1) := by decide +kernel
theorem dL_law_1105 : decode cL_law 1105 = .ok (.ireturn, 1) := by decide +kernel
theorem dL_law_1106 : decode cL_law 1106 = .ok (.iinc 26 1, 3) := by decide +kernel
theorem dL_law_1109 : decode cL_law 1109 = .ok (.goto (-317), 3) := by decide +kernel
theorem dL_law_1112 : decode cL_law 1112 = .ok (.iconst 0, 1) := by decide +kernel
theorem dL_law_1113 : decode cL_law 1113 = .ok (.istore 26, 2) := by decide +kernel
theorem dL_law_1115 : decode cL_law 1115 = .ok (.iconst 0, 1) := by decide +kernel
theorem dL_law_1116 : decode cL_law 1116 = .ok (.istore 27, 2) := by decide +kernel
theorem dL_law_1118 : decode cL_law 1118 = .ok (.iload 27, 2) := by decide +kernel
theorem dL_law_1120 : decode cL_law 1120 = .ok (.iload 6, 2) := by decide +kernel
theorem dL_law_1122 : decode cL_law 1122 = .ok (.if_icmp .ge 202, 3) := by decide +kernel
theorem dL_law_1125 : decode cL_law 1125 = .ok (.aload_n 1, 1) := by decide +kernel
theorem dL_law_1126 : decode cL_law 1126 = .ok (.iload 27, 2) := by decide +kernel
theorem dL_law_1128 : decode cL_law 1128 = .ok (.iconst 2, 1) := by decide +kernel
theorem dL_law_1129 : decode cL_law 1129 = .ok (.invokevirtual 97, 3) := by decide +kernel
theorem dL_law_1132 : decode cL_law 1132 = .ok (.istore 28, 2) := by decide +kernel
theorem dL_law_1134 : decode cL_law 1134 = .ok (.iload 26, 2) := by decide +kernel
theorem dL_law_1136 : decode cL_law 1136 = .ok (.iload 28, 2) := by decide +kernel
theorem dL_law_1138 : decode cL_law 1138 = .ok (.iadd, 1) := by decide +kernel
theorem dL_law_1139 : decode cL_law 1139 = .ok (.istore 26, 2) := by decide +kernel
theorem dL_law_1141 : decode cL_law 1141 = .ok (.iconst (-1), 1) := by decide +kernel
theorem dL_law_1142 : decode cL_law 1142 = .ok (.istore 29, 2) := by decide +kernel
theorem dL_law_1144 : decode cL_law 1144 = .ok (.iconst 0, 1) := by decide +kernel
theorem dL_law_1145 : decode cL_law 1145 = .ok (.istore 30, 2) := by decide +kernel
theorem dL_law_1147 : decode cL_law 1147 = .ok (.iload 30, 2) := by decide +kernel
theorem dL_law_1149 : decode cL_law 1149 = .ok (.iload 8, 2) := by decide +kernel
theorem dL_law_1151 : decode cL_law 1151 = .ok (.if_icmp .ge 69, 3) := by decide +kernel
theorem dL_law_1154 : decode cL_law 1154 = .ok (.aload_n 1, 1) := by decide +kernel
theorem dL_law_1155 : decode cL_law 1155 = .ok (.iload 30, 2) := by decide +kernel
theorem dL_law_1157 : decode cL_law 1157 = .ok (.iconst 0, 1) := by decide +kernel
theorem dL_law_1158 : decode cL_law 1158 = .ok (.invokevirtual 104, 3) := by decide +kernel
theorem dL_law_1161 : decode cL_law 1161 = .ok (.aload_n 1, 1) := by decide +kernel
theorem dL_law_1162 : decode cL_law 1162 = .ok (.iload 27, 2) := by decide +kernel
theorem dL_law_1164 : decode cL_law 1164 = .ok (.iconst 0, 1) := by decide +kernel
theorem dL_law_1165 : decode cL_law 1165 = .ok (.invokevirtual 97, 3) := by decide +kernel
theorem dL_law_1168 : decode cL_law 1168 = .ok (.isub, 1) := by decide +kernel
theorem dL_law_1169 : decode cL_law 1169 = .ok (.invokestatic 122, 3) := by decide +kernel
theorem dL_law_1172 : decode cL_law 1172 = .ok (.aload_n 1, 1) := by decide +kernel
theorem dL_law_1173 : decode cL_law 1173 = .ok (.iload 30, 2) := by decide +kernel
theorem dL_law_1175 : decode cL_law 1175 = .ok (.iconst 1, 1) := by decide +kernel
theorem dL_law_1176 : decode cL_law 1176 = .ok (.invokevirtual 104, 3) := by decide +kernel
theorem dL_law_1179 : decode cL_law 1179 = .ok (.aload_n 1, 1) := by decide +kernel
theorem dL_law_1180 : decode cL_law 1180 = .ok (.iload 27, 2) := by decide +kernel
theorem dL_law_1182 : decode cL_law 1182 = .ok (.iconst 1, 1) := by decide +kernel
theorem dL_law_1183 : decode cL_law 1183 = .ok (.invokevirtual 97, 3) := by decide +kernel
theorem dL_law_1186 : decode cL_law 1186 = .ok (.isub, 1) := by decide +kernel
theorem dL_law_1187 : decode cL_law 1187 = .ok (.invokestatic 122, 3) := by decide +kernel
theorem dL_law_1190 : decode cL_law 1190 = .ok (.invokestatic 127, 3) := by decide +kernel
theorem dL_law_1193 : decode cL_law 1193 = .ok (.istore 31, 2) := by decide +kernel
theorem dL_law_1195 : decode cL_law 1195 = .ok (.iload 29, 2) := by decide +kernel
theorem dL_law_1197 : decode cL_law 1197 = .ok (.ifCond .ge 8, 3) := by decide +kernel
theorem dL_law_1200 : decode cL_law 1200 = .ok (.iload 31, 2) := by decide +kernel
theorem dL_law_1202 : decode cL_law 1202 = .ok (.goto 10, 3) := by decide +kernel
theorem dL_law_1205 : decode cL_law 1205 = .ok (.iload 29, 2) := by decide +kernel
theorem dL_law_1207 : decode cL_law 1207 = .ok (.iload 31, 2) := by decide +kernel
theorem dL_law_1209 : decode cL_law 1209 = .ok (.invokestatic 130, 3) := by decide +kernel
theorem dL_law_1212 : decode cL_law 1212 = .ok (.istore 29, 2) := by decide +kernel
theorem dL_law_1214 : decode cL_law 1214 = .ok (.iinc 30 1, 3) := by decide +kernel
theorem dL_law_1217 : decode cL_law 1217 = .ok (.goto (-70), 3) := by decide +kernel
theorem dL_law_1220 : decode cL_law 1220 = .ok (.iload 28, 2) := by decide +kernel
theorem dL_law_1222 : decode cL_law 1222 = .ok (.aload 9, 2) := by decide +kernel
theorem dL_law_1224 : decode cL_law 1224 = .ok (.iload 27, 2) := by decide +kernel
theorem dL_law_1226 : decode cL_law 1226 = .ok (.iaload, 1) := by decide +kernel
theorem dL_law_1227 : decode cL_law 1227 = .ok (.if_icmp .gt 89, 3) := by decide +kernel
theorem dL_law_1230 : decode cL_law 1230 = .ok (.iload 28, 2) := by decide +kernel
theorem dL_law_1232 : decode cL_law 1232 = .ok (.iconst 1, 1) := by decide +kernel
theorem dL_law_1233 : decode cL_law 1233 = .ok (.if_icmp .ne 56, 3) := by decide +kernel
theorem dL_law_1236 : decode cL_law 1236 = .ok (.aload_n 1, 1) := by decide +kernel
theorem dL_law_1237 : decode cL_law 1237 = .ok (.aload_n 1, 1) := by decide +kernel
theorem dL_law_1238 : decode cL_law 1238 = .ok (.iload 27, 2) := by decide +kernel
theorem dL_law_1240 : decode cL_law 1240 = .ok (.iconst 0, 1) := by decide +kernel
theorem dL_law_1241 : decode cL_law 1241 = .ok (.invokevirtual 97, 3) := by decide +kernel
theorem dL_law_1244 : decode cL_law 1244 = .ok (.aload_n 1, 1) := by decide +kernel
theorem dL_law_1245 : decode cL_law 1245 = .ok (.iload 27, 2) := by decide +kernel
theorem dL_law_1247 : decode cL_law 1247 = .ok (.iconst 1, 1) := by decide +kernel
theorem dL_law_1248 : decode cL_law 1248 = .ok (.invokevirtual 97, 3) := by decide +kernel
theorem dL_law_1251 : decode cL_law 1251 = .ok (.iconst 2, 1) := by decide +kernel
theorem dL_law_1252 : decode cL_law 1252 = .ok (.invokevirtual 120, 3) := by decide +kernel
theorem dL_law_1255 : decode cL_law 1255 = .ok (.iload 27, 2) := by decide +kernel
theorem dL_law_1257 : decode cL_law 1257 = .ok (.if_icmp .ne 59, 3) := by decide +kernel
theorem dL_law_1260 : decode cL_law 1260 = .ok (.aload_n 1, 1) := by decide +kernel
theorem dL_law_1261 : decode cL_law 1261 = .ok (.iconst 2, 1) := by decide +kernel
theorem dL_law_1262 : decode cL_law 1262 = .ok (.invokevirtual 94, 3) := by decide +kernel
theorem dL_law_1265 : decode cL_law 1265 = .ok (.ifCond .eq 51, 3) := by decide +kernel
theorem dL_law_1268 : decode cL_law 1268 = .ok (.aload_n 2, 1) := by decide +kernel
theorem dL_law_1269 : decode cL_law 1269 = .ok (.getfield 30, 3) := by decide +kernel
theorem dL_law_1272 : decode cL_law 1272 = .ok (.iload 18, 2) := by decide +kernel
theorem dL_law_1274 : decode cL_law 1274 = .ok (.bipush 7, 2) := by decide +kernel
theorem dL_law_1276 : decode cL_law 1276 = .ok (.irem, 1) := by decide +kernel
theorem dL_law_1277 : decode cL_law 1277 = .ok (.iaload, 1) := by decide +kernel
theorem dL_law_1278 : decode cL_law 1278 = .ok (.ifCond .le 11, 3) := by decide +kernel
theorem dL_law_1281 : decode cL_law 1281 = .ok (.aload 23, 2) := by decide +kernel
theorem dL_law_1283 : decode cL_law 1283 = .ok (.iload 27, 2) := by decide +kernel
theorem dL_law_1285 : decode cL_law 1285 = .ok (.iaload, 1) := by decide +kernel
theorem dL_law_1286 : decode cL_law 1286 = .ok (.ifCond .eq 30, 3) := by decide +kernel
theorem dL_law_1289 : decode cL_law 1289 = .ok (.aload_n 1, 1) := by decide +kernel
theorem dL_law_1290 : decode cL_law 1290 = .ok (.iload 27, 2) := by decide +kernel
theorem dL_law_1292 : decode cL_law 1292 = .ok (.iconst 3, 1) := by decide +kernel
theorem dL_law_1293 : decode cL_law 1293 = .ok (.invokevirtual 97, 3) := by decide +kernel
theorem dL_law_1296 : decode cL_law 1296 = .ok (.aload 23, 2) := by decide +kernel
theorem dL_law_1298 : decode cL_law 1298 = .ok (.iload 27, 2) := by decide +kernel
theorem dL_law_1300 : decode cL_law 1300 = .ok (.iaload, 1) := by decide +kernel
theorem dL_law_1301 : decode cL_law 1301 = .ok (.if_icmp .ne 15, 3) := by decide +kernel
theorem dL_law_1304 : decode cL_law 1304 = .ok (.aload_n 1, 1) := by decide +kernel
theorem dL_law_1305 : decode cL_law 1305 = .ok (.iload 27, 2) := by decide +kernel
theorem dL_law_1307 : decode cL_law 1307 = .ok (.iconst 4, 1) := by decide +kernel
theorem dL_law_1308 : decode cL_law 1308 = .ok (.invokevirtual 97, 3) := by decide +kernel
theorem dL_law_1311 : decode cL_law 1311 = .ok (.iload 29, 2) := by decide +kernel
theorem dL_law_1313 : decode cL_law 1313 = .ok (.if_icmp .eq 5, 3) := by decide +kernel
theorem dL_law_1316 : decode cL_law 1316 = .ok (.iconst 0, 1) := by decide +kernel
theorem dL_law_1317 : decode cL_law 1317 = .ok (.ireturn, 1) := by decide +kernel
theorem dL_law_1318 : decode cL_law 1318 = .ok (.iinc 27 1, 3) := by decide +kernel
theorem dL_law_1321 : decode cL_law 1321 = .ok (.goto (-203), 3) := by decide +kernel
theorem dL_law_1324 : decode cL_law 1324 = .ok (.iconst 0, 1) := by decide +kernel
theorem dL_law_1325 : decode cL_law 1325 = .ok (.istore 27, 2) := by decide +kernel
theorem dL_law_1327 : decode cL_law 1327 = .ok (.iconst 0, 1) := by decide +kernel
theorem dL_law_1328 : decode cL_law 1328 = .ok (.istore 28, 2) := by decide +kernel
theorem dL_law_1330 : decode cL_law 1330 = .ok (.iload 28, 2) := by decide +kernel
theorem dL_law_1332 : decode cL_law 1332 = .ok (.iload 8, 2) := by decide +kernel
theorem dL_law_1334 : decode cL_law 1334 = .ok (.if_icmp .ge 104, 3) := by decide +kernel
theorem dL_law_1337 : decode cL_law 1337 = .ok (.iload 27, 2) := by decide +kernel
theorem dL_law_1339 : decode cL_law 1339 = .ok (.aload_n 1, 1) := by decide +kernel
theorem dL_law_1340 : decode cL_law 1340 = .ok (.iload 28, 2) := by decide +kernel
theorem dL_law_1342 : decode cL_law 1342 = .ok (.iconst 3, 1) := by decide +kernel
theorem dL_law_1343 : decode cL_law 1343 = .ok (.invokevirtual 104, 3) := by decide +kernel
theorem dL_law_1346 : decode cL_law 1346 = .ok (.aload 11, 2) := by decide +kernel
theorem dL_law_1348 : decode cL_law 1348 = .ok (.iload 28, 2) := by decide +kernel
theorem dL_law_1350 : decode cL_law 1350 = .ok (.aaload, 1) := by decide +kernel
theorem dL_law_1351 : decode cL_law 1351 = .ok (.iconst 3, 1) := by decide +kernel
theorem dL_law_1352 : decode cL_law 1352 = .ok (.iaload, 1) := by decide +kernel
theorem dL_law_1353 : decode cL_law 1353 = .ok (.isub, 1) := by decide +kernel
theorem dL_law_1354 : decode cL_law 1354 = .ok (.iadd, 1) := by decide +kernel
theorem dL_law_1355 : decode cL_law 1355 = .ok (.istore 27, 2) := by decide +kernel
theorem dL_law_1357 : decode cL_law 1357 = .ok (.aload_n 1, 1) := by decide +kernel
theorem dL_law_1358 : decode cL_law 1358 = .ok (.iload 28, 2) := by decide +kernel
theorem dL_law_1360 : decode cL_law 1360 = .ok (.iconst 2, 1) := by decide +kernel
theorem dL_law_1361 : decode cL_law 1361 = .ok (.invokevirtual 104, 3) := by decide +kernel
theorem dL_law_1364 : decode cL_law 1364 = .ok (.aload 11, 2) := by decide +kernel
theorem dL_law_1366 : decode cL_law 1366 = .ok (.iload 28, 2) := by decide +kernel
theorem dL_law_1368 : decode cL_law 1368 = .ok (.aaload, 1) := by decide +kernel
theorem dL_law_1369 : decode cL_law 1369 = .ok (.iconst 2, 1) := by decide +kernel
theorem dL_law_1370 : decode cL_law 1370 = .ok (.iaload, 1) := by decide +kernel
theorem dL_law_1371 : decode cL_law 1371 = .ok (.if_icmp .ne 59, 3) := by decide +kernel
theorem dL_law_1374 : decode cL_law 1374 = .ok (.aload_n 1, 1) := by decide +kernel
theorem dL_law_1375 : decode cL_law 1375 = .ok (.iload 28, 2) := by decide +kernel
theorem dL_law_1377 : decode cL_law 1377 = .ok (.iconst 0, 1) := by decide +kernel
theorem dL_law_1378 : decode cL_law 1378 = .ok (.invokevirtual 104, 3) := by decide +kernel
theorem dL_law_1381 : decode cL_law 1381 = .ok (.aload 11, 2) := by decide +kernel
theorem dL_law_1383 : decode cL_law 1383 = .ok (.iload 28, 2) := by decide +kernel
theorem dL_law_1385 : decode cL_law 1385 = .ok (.aaload, 1) := by decide +kernel
theorem dL_law_1386 : decode cL_law 1386 = .ok (.iconst 0, 1) := by decide +kernel
theorem dL_law_1387 : decode cL_law 1387 = .ok (.iaload, 1) := by decide +kernel
theorem dL_law_1388 : decode cL_law 1388 = .ok (.isub, 1) := by decide +kernel
theorem dL_law_1389 : decode cL_law 1389 = .ok (.invokestatic 122, 3) := by decide +kernel
theorem dL_law_1392 : decode cL_law 1392 = .ok (.aload 11, 2) := by decide +kernel
theorem dL_law_1394 : decode cL_law 1394 = .ok (.iload 28, 2) := by decide +kernel
theorem dL_law_1396 : decode cL_law 1396 = .ok (.aaload, 1) := by decide +kernel
theorem dL_law_1397 : decode cL_law 1397 = .ok (.iconst 2, 1) := by decide +kernel
theorem dL_law_1398 : decode cL_law 1398 = .ok (.iaload, 1) := by decide +kernel
theorem dL_law_1399 : decode cL_law 1399 = .ok (.if_icmp .gt 31, 3) := by decide +kernel
theorem dL_law_1402 : decode cL_law 1402 = .ok (.aload_n 1, 1) := by decide +kernel
theorem dL_law_1403 : decode cL_law 1403 = .ok (.iload 28, 2) := by decide +kernel
theorem dL_law_1405 : decode cL_law 1405 = .ok (.iconst 1, 1) := by decide +kernel
theorem dL_law_1406 : decode cL_law 1406 = .ok (.invokevirtual 104, 3) := by decide +kernel
theorem dL_law_1409 : decode cL_law 1409 = .ok (.aload 11, 2) := by decide +kernel
theorem dL_law_1411 : decode cL_law 1411 = .ok (.iload 28, 2) := by decide +kernel
theorem dL_law_1413 : decode cL_law 1413 = .ok (.aaload, 1) := by decide +kernel
theorem dL_law_1414 : decode cL_law 1414 = .ok (.iconst 1, 1) := by decide +kernel
theorem dL_law_1415 : decode cL_law 1415 = .ok (.iaload, 1) := by decide +kernel
theorem dL_law_1416 : decode cL_law 1416 = .ok (.isub, 1) := by decide +kernel
theorem dL_law_1417 : decode cL_law 1417 = .ok (.invokestatic 122, 3) := by decide +kernel
theorem dL_law_1420 : decode cL_law 1420 = .ok (.aload 11, 2) := by decide +kernel
theorem dL_law_1422 : decode cL_law 1422 = .ok (.iload 28, 2) := by decide +kernel
theorem dL_law_1424 : decode cL_law 1424 = .ok (.aaload, 1) := by decide +kernel
theorem dL_law_1425 : decode cL_law 1425 = .ok (.iconst 2, 1) := by decide +kernel
theorem dL_law_1426 : decode cL_law 1426 = .ok (.iaload, 1) := by decide +kernel
theorem dL_law_1427 : decode cL_law 1427 = .ok (.if_icmp .le 5, 3) := by decide +kernel
theorem dL_law_1430 : decode cL_law 1430 = .ok (.iconst 0, 1) := by decide +kernel
theorem dL_law_1431 : decode cL_law 1431 = .ok (.ireturn, 1) := by decide +kernel
theorem dL_law_1432 : decode cL_law 1432 = .ok (.iinc 28 1, 3) := by decide +kernel
theorem dL_law_1435 : decode cL_law 1435 = .ok (.goto (-105), 3) := by decide +kernel
theorem dL_law_1438 : decode cL_law 1438 = .ok (.iload 22, 2) := by decide +kernel
theorem dL_law_1440 : decode cL_law 1440 = .ok (.aload_n 1, 1) := by decide +kernel
theorem dL_law_1441 : decode cL_law 1441 = .ok (.iconst 3, 1) := by decide +kernel
theorem dL_law_1442 : decode cL_law 1442 = .ok (.invokevirtual 94, 3) := by decide +kernel
theorem dL_law_1445 : decode cL_law 1445 = .ok (.if_icmp .ne 65, 3) := by decide +kernel
theorem dL_law_1448 : decode cL_law 1448 = .ok (.iload 24, 2) := by decide +kernel
theorem dL_law_1450 : decode cL_law 1450 = .ok (.iload 21, 2) := by decide +kernel
theorem dL_law_1452 : decode cL_law 1452 = .ok (.if_icmp .ne 58, 3) := by decide +kernel
theorem dL_law_1455 : decode cL_law 1455 = .ok (.iload 25, 2) := by decide +kernel
theorem dL_law_1457 : decode cL_law 1457 = .ok (.iload 27, 2) := by decide +kernel
theorem dL_law_1459 : decode cL_law 1459 = .ok (.if_icmp .ne 51, 3) := by decide +kernel
theorem dL_law_1462 : decode cL_law 1462 = .ok (.aload_n 1, 1) := by decide +kernel
theorem dL_law_1463 : decode cL_law 1463 = .ok (.bipush 8, 2) := by decide +kernel
theorem dL_law_1465 : decode cL_law 1465 = .ok (.invokevirtual 94, 3) := by decide +kernel
theorem dL_law_1468 : decode cL_law 1468 = .ok (.iload 19, 2) := by decide +kernel
theorem dL_law_1470 : decode cL_law 1470 = .ok (.iload 27, 2) := by decide +kernel
theorem dL_law_1472 : decode cL_law 1472 = .ok (.iadd, 1) := by decide +kernel
theorem dL_law_1473 : decode cL_law 1473 = .ok (.if_icmp .ne 37, 3) := by decide +kernel
theorem dL_law_1476 : decode cL_law 1476 = .ok (.iload 26, 2) := by decide +kernel
theorem dL_law_1478 : decode cL_law 1478 = .ok (.aload_n 1, 1) := by decide +kernel
theorem dL_law_1479 : decode cL_law 1479 = .ok (.iconst 5, 1) := by decide +kernel
theorem dL_law_1480 : decode cL_law 1480 = .ok (.invokevirtual 94, 3) := by decide +kernel
theorem dL_law_1483 : decode cL_law 1483 = .ok (.if_icmp .ne 27, 3) := by decide +kernel
theorem dL_law_1486 : decode cL_law 1486 = .ok (.aload_n 1, 1) := by decide +kernel
theorem dL_law_1487 : decode cL_law 1487 = .ok (.invokevirtual 133, 3) := by decide +kernel
theorem dL_law_1490 : decode cL_law 1490 = .ok (.iload 7, 2) := by decide +kernel
theorem dL_law_1492 : decode cL_law 1492 = .ok (.ifCond .ne 7, 3) := by decide +kernel
theorem dL_law_1495 : decode cL_law 1495 = .ok (.dconst 0, 1) := by decide +kernel
theorem dL_law_1496 : decode cL_law 1496 = .ok (.goto 10, 3) := by decide +kernel
theorem dL_law_1499 : decode cL_law 1499 = .ok (.iload 24, 2) := by decide +kernel
theorem dL_law_1501 : decode cL_law 1501 = .ok (.i2d, 1) := by decide +kernel
theorem dL_law_1502 : decode cL_law 1502 = .ok (.iload 7, 2) := by decide +kernel
theorem dL_law_1504 : decode cL_law 1504 = .ok (.i2d, 1) := by decide +kernel
theorem dL_law_1505 : decode cL_law 1505 = .ok (.ddiv, 1) := by decide +kernel
theorem dL_law_1506 : decode cL_law 1506 = .ok (.dcmp .l, 1) := by decide +kernel
theorem dL_law_1507 : decode cL_law 1507 = .ok (.ifCond .eq 5, 3) := by decide +kernel
theorem dL_law_1510 : decode cL_law 1510 = .ok (.iconst 0, 1) := by decide +kernel
theorem dL_law_1511 : decode cL_law 1511 = .ok (.ireturn, 1) := by decide +kernel
theorem dL_law_1512 : decode cL_law 1512 = .ok (.iinc 4 1, 3) := by decide +kernel
theorem dL_law_1515 : decode cL_law 1515 = .ok (.goto (-1464), 3) := by decide +kernel
theorem dL_law_1518 : decode cL_law 1518 = .ok (.aload_n 2, 1) := by decide +kernel
theorem dL_law_1519 : decode cL_law 1519 = .ok (.aload_n 1, 1) := by decide +kernel
theorem dL_law_1520 : decode cL_law 1520 = .ok (.invokevirtual 137, 3) := by decide +kernel
theorem dL_law_1523 : decode cL_law 1523 = .ok (.ireturn, 1) := by decide +kernel
