theorem dL_build_937 : decode cL_build 937 = .ok (.bipush 93, 2) := by decide +kernel
theorem dL_build_939 : decode cL_build 939 = .ok (.invokestatic 15, 3) := by decide +kernel
theorem dL_build_942 : decode cL_build 942 = .ok (.iadd, 1) := by decide +kernel
theorem dL_build_943 : decode cL_build 943 = .ok (.iastore, 1) := by decide +kernel
theorem dL_build_944 : decode cL_build 944 = .ok (.bipush 8, 2) := by decide +kernel
theorem dL_build_946 : decode cL_build 946 = .ok (.iload 10, 2) := by decide +kernel
theorem dL_build_948 : decode cL_build 948 = .ok (.iconst 4, 1) := by decide +kernel
theorem dL_build_949 : decode cL_build 949 = .ok (.ishr, 1) := by decide +kernel
theorem dL_build_950 : decode cL_build 950 = .ok (.bipush 93, 2) := by decide +kernel
theorem dL_build_952 : decode cL_build 952 = .ok (.invokestatic 15, 3) := by decide +kernel
theorem dL_build_955 : decode cL_build 955 = .ok (.iadd, 1) := by decide +kernel
theorem dL_build_956 : decode cL_build 956 = .ok (.istore 12, 2) := by decide +kernel
theorem dL_build_958 : decode cL_build 958 = .ok (.aload 6, 2) := by decide +kernel
theorem dL_build_960 : decode cL_build 960 = .ok (.iload 11, 2) := by decide +kernel
theorem dL_build_962 : decode cL_build 962 = .ok (.iconst 4, 1) := by decide +kernel
theorem dL_build_963 : decode cL_build 963 = .ok (.iadd, 1) := by decide +kernel
theorem dL_build_964 : decode cL_build 964 = .ok (.aload 6, 2) := by decide +kernel
theorem dL_build_966 : decode cL_build 966 = .ok (.iload 11, 2) := by decide +kernel
theorem dL_build_968 : decode cL_build 968 = .ok (.iconst 3, 1) := by decide +kernel
theorem dL_build_969 : decode cL_build 969 = .ok (.iadd, 1) := by decide +kernel
theorem dL_build_970 : decode cL_build 970 = .ok (.iaload, 1) := by decide +kernel
theorem dL_build_971 : decode cL_build 971 = .ok (.iload 12, 2) := by decide +kernel
theorem dL_build_973 : decode cL_build 973 = .ok (.iadd, 1) := by decide +kernel
theorem dL_build_974 : decode cL_build 974 = .ok (.iload 12, 2) := by decide +kernel
theorem dL_build_976 : decode cL_build 976 = .ok (.iadd, 1) := by decide +kernel
theorem dL_build_977 : decode cL_build 977 = .ok (.iastore, 1) := by decide +kernel
theorem dL_build_978 : decode cL_build 978 = .ok (.aload_n 0, 1) := by decide +kernel
theorem dL_build_979 : decode cL_build 979 = .ok (.aload 6, 2) := by decide +kernel
theorem dL_build_981 : decode cL_build 981 = .ok (.iload 11, 2) := by decide +kernel
theorem dL_build_983 : decode cL_build 983 = .ok (.iaload, 1) := by decide +kernel
theorem dL_build_984 : decode cL_build 984 = .ok (.aload 6, 2) := by decide +kernel
theorem dL_build_986 : decode cL_build 986 = .ok (.iload 11, 2) := by decide +kernel
theorem dL_build_988 : decode cL_build 988 = .ok (.iconst 1, 1) := by decide +kernel
theorem dL_build_989 : decode cL_build 989 = .ok (.iadd, 1) := by decide +kernel
theorem dL_build_990 : decode cL_build 990 = .ok (.iaload, 1) := by decide +kernel
theorem dL_build_991 : decode cL_build 991 = .ok (.aload 6, 2) := by decide +kernel
theorem dL_build_993 : decode cL_build 993 = .ok (.iload 11, 2) := by decide +kernel
theorem dL_build_995 : decode cL_build 995 = .ok (.iconst 2, 1) := by decide +kernel
theorem dL_build_996 : decode cL_build 996 = .ok (.iadd, 1) := by decide +kernel
theorem dL_build_997 : decode cL_build 997 = .ok (.iaload, 1) := by decide +kernel
theorem dL_build_998 : decode cL_build 998 = .ok (.aload 6, 2) := by decide +kernel
theorem dL_build_1000 : decode cL_build 1000 = .ok (.iload 11, 2) := by decide +kernel
theorem dL_build_1002 : decode cL_build 1002 = .ok (.iconst 3, 1) := by decide +kernel
theorem dL_build_1003 : decode cL_build 1003 = .ok (.iadd, 1) := by decide +kernel
theorem dL_build_1004 : decode cL_build 1004 = .ok (.iaload, 1) := by decide +kernel
theorem dL_build_1005 : decode cL_build 1005 = .ok (.iload 12, 2) := by decide +kernel
theorem dL_build_1007 : decode cL_build 1007 = .ok (.invokevirtual 37, 3) := by decide +kernel
theorem dL_build_1010 : decode cL_build 1010 = .ok (.aload 7, 2) := by decide +kernel
theorem dL_build_1012 : decode cL_build 1012 = .ok (.iconst 3, 1) := by decide +kernel
theorem dL_build_1013 : decode cL_build 1013 = .ok (.iaload, 1) := by decide +kernel
theorem dL_build_1014 : decode cL_build 1014 = .ok (.if_icmp .eq 5, 3) := by decide +kernel
theorem dL_build_1017 : decode cL_build 1017 = .ok (.aconst_null, 1) := by decide +kernel
theorem dL_build_1018 : decode cL_build 1018 = .ok (.areturn, 1) := by decide +kernel
theorem dL_build_1019 : decode cL_build 1019 = .ok (.aload 7, 2) := by decide +kernel
theorem dL_build_1021 : decode cL_build 1021 = .ok (.iconst 3, 1) := by decide +kernel
theorem dL_build_1022 : decode cL_build 1022 = .ok (.dup2, 1) := by decide +kernel
theorem dL_build_1023 : decode cL_build 1023 = .ok (.iaload, 1) := by decide +kernel
theorem dL_build_1024 : decode cL_build 1024 = .ok (.iconst 1, 1) := by decide +kernel
theorem dL_build_1025 : decode cL_build 1025 = .ok (.iadd, 1) := by decide +kernel
theorem dL_build_1026 : decode cL_build 1026 = .ok (.iastore, 1) := by decide +kernel
theorem dL_build_1027 : decode cL_build 1027 = .ok (.iinc 9 1, 3) := by decide +kernel
theorem dL_build_1030 : decode cL_build 1030 = .ok (.goto (-196), 3) := by decide +kernel
theorem dL_build_1033 : decode cL_build 1033 = .ok (.aload 7, 2) := by decide +kernel
theorem dL_build_1035 : decode cL_build 1035 = .ok (.iconst 4, 1) := by decide +kernel
theorem dL_build_1036 : decode cL_build 1036 = .ok (.iconst (-1), 1) := by decide +kernel
theorem dL_build_1037 : decode cL_build 1037 = .ok (.iastore, 1) := by decide +kernel
theorem dL_build_1038 : decode cL_build 1038 = .ok (.aload_n 1, 1) := by decide +kernel
theorem dL_build_1039 : decode cL_build 1039 = .ok (.iload_n 2, 1) := by decide +kernel
theorem dL_build_1040 : decode cL_build 1040 = .ok (.invokestatic 9, 3) := by decide +kernel
theorem dL_build_1043 : decode cL_build 1043 = .ok (.bipush 11, 2) := by decide +kernel
theorem dL_build_1045 : decode cL_build 1045 = .ok (.ishr, 1) := by decide +kernel
theorem dL_build_1046 : decode cL_build 1046 = .ok (.iconst 5, 1) := by decide +kernel
theorem dL_build_1047 : decode cL_build 1047 = .ok (.invokestatic 15, 3) := by decide +kernel
theorem dL_build_1050 : decode cL_build 1050 = .ok (.ifCond .le 72, 3) := by decide +kernel
theorem dL_build_1053 : decode cL_build 1053 = .ok (.aload 7, 2) := by decide +kernel
theorem dL_build_1055 : decode cL_build 1055 = .ok (.iconst 4, 1) := by decide +kernel
theorem dL_build_1056 : decode cL_build 1056 = .ok (.aload_n 1, 1) := by decide +kernel
theorem dL_build_1057 : decode cL_build 1057 = .ok (.iload_n 2, 1) := by decide +kernel
theorem dL_build_1058 : decode cL_build 1058 = .ok (.invokestatic 9, 3) := by decide +kernel
theorem dL_build_1061 : decode cL_build 1061 = .ok (.bipush 12, 2) := by decide +kernel
theorem dL_build_1063 : decode cL_build 1063 = .ok (.ishr, 1) := by decide +kernel
theorem dL_build_1064 : decode cL_build 1064 = .ok (.aload 7, 2) := by decide +kernel
theorem dL_build_1066 : decode cL_build 1066 = .ok (.iconst 0, 1) := by decide +kernel
theorem dL_build_1067 : decode cL_build 1067 = .ok (.iaload, 1) := by decide +kernel
theorem dL_build_1068 : decode cL_build 1068 = .ok (.invokestatic 15, 3) := by decide +kernel
theorem dL_build_1071 : decode cL_build 1071 = .ok (.iastore, 1) := by decide +kernel
theorem dL_build_1072 : decode cL_build 1072 = .ok (.aload 7, 2) := by decide +kernel
theorem dL_build_1074 : decode cL_build 1074 = .ok (.iconst 5, 1) := by decide +kernel
theorem dL_build_1075 : decode cL_build 1075 = .ok (.aload_n 1, 1) := by decide +kernel
theorem dL_build_1076 : decode cL_build 1076 = .ok (.iload_n 2, 1) := by decide +kernel
theorem dL_build_1077 : decode cL_build 1077 = .ok (.invokestatic 9, 3) := by decide +kernel
theorem dL_build_1080 : decode cL_build 1080 = .ok (.bipush 14, 2) := by decide +kernel
theorem dL_build_1082 : decode cL_build 1082 = .ok (.ishr, 1) := by decide +kernel
theorem dL_build_1083 : decode cL_build 1083 = .ok (.sipush 201, 3) := by decide +kernel
theorem dL_build_1086 : decode cL_build 1086 = .ok (.invokestatic 15, 3) := by decide +kernel
theorem dL_build_1089 : decode cL_build 1089 = .ok (.bipush 100, 2) := by decide +kernel
theorem dL_build_1091 : decode cL_build 1091 = .ok (.isub, 1) := by decide +kernel
theorem dL_build_1092 : decode cL_build 1092 = .ok (.iastore, 1) := by decide +kernel
theorem dL_build_1093 : decode cL_build 1093 = .ok (.aload_n 3, 1) := by decide +kernel
theorem dL_build_1094 : decode cL_build 1094 = .ok (.iconst 3, 1) := by decide +kernel
theorem dL_build_1095 : decode cL_build 1095 = .ok (.aload 7, 2) := by decide +kernel
theorem dL_build_1097 : decode cL_build 1097 = .ok (.iconst 4, 1) := by decide +kernel
theorem dL_build_1098 : decode cL_build 1098 = .ok (.iaload, 1) := by decide +kernel
theorem dL_build_1099 : decode cL_build 1099 = .ok (.imul, 1) := by decide +kernel
theorem dL_build_1100 : decode cL_build 1100 = .ok (.iconst 2, 1) := by decide +kernel
theorem dL_build_1101 : decode cL_build 1101 = .ok (.iadd, 1) := by decide +kernel
theorem dL_build_1102 : decode cL_build 1102 = .ok (.iconst 0, 1) := by decide +kernel
theorem dL_build_1103 : decode cL_build 1103 = .ok (.iastore, 1) := by decide +kernel
theorem dL_build_1104 : decode cL_build 1104 = .ok (.aload_n 0, 1) := by decide +kernel
theorem dL_build_1105 : decode cL_build 1105 = .ok (.aload 7, 2) := by decide +kernel
theorem dL_build_1107 : decode cL_build 1107 = .ok (.iconst 4, 1) := by decide +kernel
theorem dL_build_1108 : decode cL_build 1108 = .ok (.iaload, 1) := by decide +kernel
theorem dL_build_1109 : decode cL_build 1109 = .ok (.aload 7, 2) := by decide +kernel
theorem dL_build_1111 : decode cL_build 1111 = .ok (.iconst 5, 1) := by decide +kernel
theorem dL_build_1112 : decode cL_build 1112 = .ok (.iaload, 1) := by decide +kernel
theorem dL_build_1113 : decode cL_build 1113 = .ok (.invokevirtual 41, 3) := by decide +kernel
theorem dL_build_1116 : decode cL_build 1116 = .ok (.iconst (-1), 1) := by decide +kernel
theorem dL_build_1117 : decode cL_build 1117 = .ok (.if_icmp .eq 5, 3) := by decide +kernel
theorem dL_build_1120 : decode cL_build 1120 = .ok (.aconst_null, 1) := by decide +kernel
theorem dL_build_1121 : decode cL_build 1121 = .ok (.areturn, 1) := by decide +kernel
theorem dL_build_1122 : decode cL_build 1122 = .ok (.iconst 0, 1) := by decide +kernel
theorem dL_build_1123 : decode cL_build 1123 = .ok (.istore 9, 2) := by decide +kernel
theorem dL_build_1125 : decode cL_build 1125 = .ok (.iload 9, 2) := by decide +kernel
theorem dL_build_1127 : decode cL_build 1127 = .ok (.iconst 4, 1) := by decide +kernel
theorem dL_build_1128 : decode cL_build 1128 = .ok (.if_icmp .ge 25, 3) := by decide +kernel
theorem dL_build_1131 : decode cL_build 1131 = .ok (.aload_n 0, 1) := by decide +kernel
theorem dL_build_1132 : decode cL_build 1132 = .ok (.iload 9, 2) := by decide +kernel
theorem dL_build_1134 : decode cL_build 1134 = .ok (.invokevirtual 44, 3) := by decide +kernel
theorem dL_build_1137 : decode cL_build 1137 = .ok (.aload 7, 2) := by decide +kernel
theorem dL_build_1139 : decode cL_build 1139 = .ok (.iload 9, 2) := by decide +kernel
theorem dL_build_1141 : decode cL_build 1141 = .ok (.iaload, 1) := by decide +kernel
theorem dL_build_1142 : decode cL_build 1142 = .ok (.if_icmp .eq 5, 3) := by decide +kernel
theorem dL_build_1145 : decode cL_build 1145 = .ok (.aconst_null, 1) := by decide +kernel
theorem dL_build_1146 : decode cL_build 1146 = .ok (.areturn, 1) := by decide +kernel
theorem dL_build_1147 : decode cL_build 1147 = .ok (.iinc 9 1, 3) := by decide +kernel
theorem dL_build_1150 : decode cL_build 1150 = .ok (.goto (-25), 3) := by decide +kernel
theorem dL_build_1153 : decode cL_build 1153 = .ok (.aload 7, 2) := by decide +kernel
theorem dL_build_1155 : decode cL_build 1155 = .ok (.areturn, 1) := by decide +kernel
set_option maxRecDepth 20000 in
theorem ggL_common_L_common : GoodIn wsL_common wsL_common := goodIn_r _ [0, 1, 2, 3] (by decide +kernel) (by decide +kernel)
set_option maxRecDepth 20000 in
theorem gL_common_L_common : GoodIn wsL_common (va_wsS RL 48 yL_common wsL_common) := goodIn_app (goodIn_of _ (by decide +kernel)) ggL_common_L_common
theorem dL_common_0 : decode cL_common 0 = .ok (.lload_n 2, 1) := by decide +kernel
theorem dL_common_1 : decode cL_common 1 = .ok (.lconst 0, 1) := by decide +kernel
theorem dL_common_2 : decode cL_common 2 = .ok (.lcmp, 1) := by decide +kernel
theorem dL_common_3 : decode cL_common 3 = .ok (.ifCond .ne 18, 3) := by decide +kernel
theorem dL_common_6 : decode cL_common 6 = .ok (.lload_n 0, 1) := by decide +kernel
theorem dL_common_7 : decode cL_common 7 = .ok (.lconst 0, 1) := by decide +kernel
theorem dL_common_8 : decode cL_common 8 = .ok (.lcmp, 1) := by decide +kernel
theorem dL_common_9 : decode cL_common 9 = .ok (.ifCond .ge 8, 3) := by decide +kernel
theorem dL_common_12 : decode cL_common 12 = .ok (.lload_n 0, 1) := by decide +kernel
theorem dL_common_13 : decode cL_common 13 = .ok (.lneg, 1) := by decide +kernel
theorem dL_common_14 : decode cL_common 14 = .ok (.goto 14, 3) := by decide +kernel
theorem dL_common_17 : decode cL_common 17 = .ok (.lload_n 0, 1) := by decide +kernel
theorem dL_common_18 : decode cL_common 18 = .ok (.goto 10, 3) := by decide +kernel
theorem dL_common_21 : decode cL_common 21 = .ok (.lload_n 2, 1) := by decide +kernel
theorem dL_common_22 : decode cL_common 22 = .ok (.lload_n 0, 1) := by decide +kernel
theorem dL_common_23 : decode cL_common 23 = .ok (.lload_n 2, 1) := by decide +kernel
theorem dL_common_24 : decode cL_common 24 = .ok (.lrem, 1) := by decide +kernel
theorem dL_common_25 : decode cL_common 25 = .ok (.invokestatic 48, 3) := by decide +kernel
theorem dL_common_28 : decode cL_common 28 = .ok (.lreturn, 1) := by decide +kernel
set_option maxRecDepth 20000 in
theorem ggL_fraction_L_common : GoodIn wsL_fraction wsL_common := goodIn_r _ [5, 2, 3, 4] (by decide +kernel) (by decide +kernel)
set_option maxRecDepth 20000 in
theorem gL_fraction_L_common : GoodIn wsL_fraction (va_wsS RL 48 yL_common wsL_common) := goodIn_app (goodIn_of _ (by decide +kernel)) ggL_fraction_L_common
theorem dL_fraction_0 : decode cL_fraction 0 = .ok (.lload_n 0, 1) := by decide +kernel
theorem dL_fraction_1 : decode cL_fraction 1 = .ok (.lload_n 2, 1) := by decide +kernel
theorem dL_fraction_2 : decode cL_fraction 2 = .ok (.invokestatic 48, 3) := by decide +kernel
theorem dL_fraction_5 : decode cL_fraction 5 = .ok (.lstore 4, 2) := by decide +kernel
theorem dL_fraction_7 : decode cL_fraction 7 = .ok (.lload_n 2, 1) := by decide +kernel
theorem dL_fraction_8 : decode cL_fraction 8 = .ok (.lconst 0, 1) := by decide +kernel
theorem dL_fraction_9 : decode cL_fraction 9 = .ok (.lcmp, 1) := by decide +kernel
theorem dL_fraction_10 : decode cL_fraction 10 = .ok (.ifCond .ge 7, 3) := by decide +kernel
theorem dL_fraction_13 : decode cL_fraction 13 = .ok (.iconst 1, 1) := by decide +kernel
theorem dL_fraction_14 : decode cL_fraction 14 = .ok (.goto 4, 3) := by decide +kernel
theorem dL_fraction_17 : decode cL_fraction 17 = .ok (.iconst 0, 1) := by decide +kernel
theorem dL_fraction_18 : decode cL_fraction 18 = .ok (.lload 4, 2) := by decide +kernel
theorem dL_fraction_20 : decode cL_fraction 20 = .ok (.lconst 0, 1) := by decide +kernel
theorem dL_fraction_21 : decode cL_fraction 21 = .ok (.lcmp, 1) := by decide +kernel
theorem dL_fraction_22 : decode cL_fraction 22 = .ok (.ifCond .ge 7, 3) := by decide +kernel
theorem dL_fraction_25 : decode cL_fraction 25 = .ok (.iconst 1, 1) := by decide +kernel
theorem dL_fraction_26 : decode cL_fraction 26 = .ok (.goto 4, 3) := by decide +kernel
theorem dL_fraction_29 : decode cL_fraction 29 = .ok (.iconst 0, 1) := by decide +kernel
theorem dL_fraction_30 : decode cL_fraction 30 = .ok (.if_icmp .eq 8, 3) := by decide +kernel
theorem dL_fraction_33 : decode cL_fraction 33 = .ok (.lload 4, 2) := by decide +kernel
theorem dL_fraction_35 : decode cL_fraction 35 = .ok (.lneg, 1) := by decide +kernel
theorem dL_fraction_36 : decode cL_fraction 36 = .ok (.lstore 4, 2) := by decide +kernel
theorem dL_fraction_38 : decode cL_fraction 38 = .ok (.iconst 2, 1) := by decide +kernel
theorem dL_fraction_39 : decode cL_fraction 39 = .ok (.newarray .long, 2) := by decide +kernel
theorem dL_fraction_41 : decode cL_fraction 41 = .ok (.dup, 1) := by decide +kernel
theorem dL_fraction_42 : decode cL_fraction 42 = .ok (.iconst 0, 1) := by decide +kernel
theorem dL_fraction_43 : decode cL_fraction 43 = .ok (.lload_n 0, 1) := by decide +kernel
theorem dL_fraction_44 : decode cL_fraction 44 = .ok (.lload 4, 2) := by decide +kernel
theorem dL_fraction_46 : decode cL_fraction 46 = .ok (.ldiv, 1) := by decide +kernel
theorem dL_fraction_47 : decode cL_fraction 47 = .ok (.lastore, 1) := by decide +kernel
theorem dL_fraction_48 : decode cL_fraction 48 = .ok (.dup, 1) := by decide +kernel
theorem dL_fraction_49 : decode cL_fraction 49 = .ok (.iconst 1, 1) := by decide +kernel
theorem dL_fraction_50 : decode cL_fraction 50 = .ok (.lload_n 2, 1) := by decide +kernel
theorem dL_fraction_51 : decode cL_fraction 51 = .ok (.lload 4, 2) := by decide +kernel
theorem dL_fraction_53 : decode cL_fraction 53 = .ok (.ldiv, 1) := by decide +kernel
theorem dL_fraction_54 : decode cL_fraction 54 = .ok (.lastore, 1) := by decide +kernel
theorem dL_fraction_55 : decode cL_fraction 55 = .ok (.areturn, 1) := by decide +kernel
theorem dL_isRing_0 : decode cL_isRing 0 = .ok (.aload_n 1, 1) := by decide +kernel
theorem dL_isRing_1 : decode cL_isRing 1 = .ok (.iconst 5, 1) := by decide +kernel
theorem dL_isRing_2 : decode cL_isRing 2 = .ok (.aload_n 2, 1) := by decide +kernel
theorem dL_isRing_3 : decode cL_isRing 3 = .ok (.iconst 2, 1) := by decide +kernel
theorem dL_isRing_4 : decode cL_isRing 4 = .ok (.iload_n 0, 1) := by decide +kernel
theorem dL_isRing_5 : decode cL_isRing 5 = .ok (.imul, 1) := by decide +kernel
theorem dL_isRing_6 : decode cL_isRing 6 = .ok (.iaload, 1) := by decide +kernel
theorem dL_isRing_7 : decode cL_isRing 7 = .ok (.imul, 1) := by decide +kernel
theorem dL_isRing_8 : decode cL_isRing 8 = .ok (.iconst 4, 1) := by decide +kernel
theorem dL_isRing_9 : decode cL_isRing 9 = .ok (.iadd, 1) := by decide +kernel
theorem dL_isRing_10 : decode cL_isRing 10 = .ok (.iaload, 1) := by decide +kernel
theorem dL_isRing_11 : decode cL_isRing 11 = .ok (.aload_n 1, 1) := by decide +kernel
theorem dL_isRing_12 : decode cL_isRing 12 = .ok (.iconst 5, 1) := by decide +kernel
theorem dL_isRing_13 : decode cL_isRing 13 = .ok (.aload_n 2, 1) := by decide +kernel
theorem dL_isRing_14 : decode cL_isRing 14 = .ok (.iconst 2, 1) := by decide +kernel
theorem dL_isRing_15 : decode cL_isRing 15 = .ok (.iload_n 0, 1) := by decide +kernel
theorem dL_isRing_16 : decode cL_isRing 16 = .ok (.imul, 1) := by decide +kernel
theorem dL_isRing_17 : decode cL_isRing 17 = .ok (.iconst 1, 1) := by decide +kernel
theorem dL_isRing_18 : decode cL_isRing 18 = .ok (.iadd, 1) := by decide +kernel
theorem dL_isRing_19 : decode cL_isRing 19 = .ok (.iaload, 1) := by decide +kernel
theorem dL_isRing_20 : decode cL_isRing 20 = .ok (.imul, 1) := by decide +kernel
theorem dL_isRing_21 : decode cL_isRing 21 = .ok (.iconst 4, 1) := by decide +kernel
theorem dL_isRing_22 : decode cL_isRing 22 = .ok (.iadd, 1) := by decide +kernel
theorem dL_isRing_23 : decode cL_isRing 23 = .ok (.iaload, 1) := by decide +kernel
theorem dL_isRing_24 : decode cL_isRing 24 = .ok (.iadd, 1) := by decide +kernel
theorem dL_isRing_25 : decode cL_isRing 25 = .ok (.ifCond .le 7, 3) := by decide +kernel
theorem dL_isRing_28 : decode cL_isRing 28 = .ok (.iconst 1, 1) := by decide +kernel
theorem dL_isRing_29 : decode cL_isRing 29 = .ok (.goto 4, 3) := by decide +kernel
theorem dL_isRing_32 : decode cL_isRing 32 = .ok (.iconst 0, 1) := by decide +kernel
theorem dL_isRing_33 : decode cL_isRing 33 = .ok (.ireturn, 1) := by decide +kernel
set_option maxRecDepth 20000 in
theorem ggL_law_X6_init : GoodIn wsL_law wsX6_init := goodIn_r _ [15, 16, 17, 18, 19, 20, 21, 22, 23, 24, 25, 26, 27, 28, 29, 30, 31, 32, 33, 34, 35, 36, 37, 38, 39, 40, 41, 42, 384, 385, 386, 378, 379, 380, 381, 382, 383] (by decide +kernel) (by decide +kernel)
set_option maxRecDepth 20000 in
theorem gL_law_X6_init : GoodIn wsL_law (wsX6_init) := ggL_law_X6_init
set_option maxRecDepth 20000 in
theorem ggL_law_X6_broken : GoodIn wsL_law wsX6_broken := goodIn_r _ [338, 25, 182, 183, 24, 179, 180, 73, 74, 75, 21, 76, 77, 159, 160, 161, 162, 163, 164, 165, 166, 167, 168, 169, 170, 171, 172, 173, 174, 32, 339, 340, 341, 203, 342, 212, 207, 206, 221, 213, 214, 215, 64, 216, 85, 217, 218, 219, 220, 222, 223, 224, 225, 189, 190, 88, 191, 192, 9, 10, 11, 94, 95, 193, 194, 195, 343, 344, 345, 346, 378, 379, 380, 381, 382, 383, 400, 401, 394, 395, 396, 384, 385, 386, 397, 398, 399, 402, 403, 387, 388, 389, 390, 391, 392, 393] (by decide +kernel) (by decide +kernel)
set_option maxRecDepth 20000 in
theorem gL_law_X6_broken : GoodIn wsL_law (wsV RL 80 RX6 yX6_broken wsX6_broken) := goodIn_app (goodIn_of _ (by decide +kernel)) ggL_law_X6_broken
set_option maxRecDepth 20000 in
theorem ggL_law_X6_isTold : GoodIn wsL_law wsX6_isTold := goodIn_ca (goodIn_r _ [350, 22, 151, 153, 154, 155, 2, 156, 157, 158, 73, 74, 75, 21, 76, 77, 70, 71, 72, 159, 160, 161, 162, 163, 164, 165, 166, 167, 168, 169, 170, 171, 172, 173, 174, 32, 351, 214, 215, 64, 216, 85, 378, 379, 380, 381, 382, 383, 384, 385, 386, 387, 388, 389, 390, 391] (by decide +kernel) (by decide +kernel)) (goodIn_sub (fun _ h => List.mem_append_right _ h) (by decide +kernel))
set_option maxRecDepth 20000 in
theorem gL_law_X6_isTold : GoodIn wsL_law (wsV RL 84 RX6 yX6_isTold wsX6_isTold) := goodIn_app (goodIn_of _ (by decide +kernel)) ggL_law_X6_isTold
set_option maxRecDepth 20000 in
theorem ggL_law_X6_stage : GoodIn wsL_law wsX6_stage := goodIn_ca (goodIn_r _ [355, 22, 151, 356, 153, 154, 155, 2, 156, 157, 158, 73, 74, 75, 21, 76, 77, 70, 71, 72, 159, 160, 161, 162, 163, 164, 165, 166, 167, 168, 169, 170, 171, 172, 173, 174, 32, 378, 379, 380, 381, 382, 383, 387, 388, 389, 390, 391, 384, 385, 386] (by decide +kernel) (by decide +kernel)) (goodIn_sub (fun _ h => List.mem_append_right _ h) (by decide +kernel))
set_option maxRecDepth 20000 in
theorem gL_law_X6_stage : GoodIn wsL_law (wsV RL 88 RX6 yX6_stage wsX6_stage) := goodIn_app (goodIn_of _ (by decide +kernel)) ggL_law_X6_stage
set_option maxRecDepth 20000 in
theorem ggL_law_X6_speed : GoodIn wsL_law wsX6_speed := goodIn_ca (goodIn_ca (goodIn_r _ [360, 22, 151, 361, 362, 363, 153, 154, 155, 2, 156, 157, 158, 73, 74, 75, 21, 76, 77, 70, 71, 72, 364, 365, 366, 367, 60, 61, 159, 160, 161, 162, 163, 164, 165, 166, 167, 168, 169, 170, 171, 172, 173, 174, 32, 351, 214, 215, 64, 216, 85, 378, 379, 380, 381, 382, 383, 387, 388, 389, 390, 391, 392, 393, 384, 385, 386] (by decide +kernel) (by decide +kernel)) (goodIn_sub (fun _ h => List.mem_append_right _ h) (by decide +kernel))) (goodIn_sub (fun _ h => List.mem_append_left _ (List.mem_append_left _ (List.mem_append_right _ h))) (by decide +kernel))
set_option maxRecDepth 20000 in
theorem gL_law_X6_speed : GoodIn wsL_law (wsV RL 91 RX6 yX6_speed wsX6_speed) := goodIn_app (goodIn_of _ (by decide +kernel)) ggL_law_X6_speed
set_option maxRecDepth 20000 in
theorem ggL_law_L_common : GoodIn wsL_law wsL_common := goodIn_r _ [370, 368, 369, 45] (by decide +kernel) (by decide +kernel)
set_option maxRecDepth 20000 in
theorem gL_law_L_common : GoodIn wsL_law (va_wsS RL 48 yL_common wsL_common) := goodIn_app (goodIn_of _ (by decide +kernel)) ggL_law_L_common
set_option maxRecDepth 20000 in
theorem ggL_law_L_isRing : GoodIn wsL_law wsL_isRing := goodIn_r _ [373] (by decide +kernel) (by decide +kernel)
set_option maxRecDepth 20000 in
theorem gL_law_L_isRing : GoodIn wsL_law (va_wsS RL 58 yL_isRing wsL_isRing) := goodIn_app (goodIn_of _ (by decide +kernel)) ggL_law_L_isRing
set_option maxRecDepth 20000 in
theorem ggL_law_L_fraction : GoodIn wsL_law wsL_fraction := goodIn_r _ [376, 377, 368, 369, 45, 370] (by decide +kernel) (by decide +kernel)
set_option maxRecDepth 20000 in
theorem gL_law_L_fraction : GoodIn wsL_law (va_wsS RL 52 yL_fraction wsL_fraction) := goodIn_app (goodIn_of _ (by decide +kernel)) ggL_law_L_fraction
