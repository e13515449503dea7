theorem dL_law_956 : decode cL_law 956 = .ok (.aload_n 1, 1) := by decide +kernel
theorem dL_law_957 : decode cL_law 957 = .ok (.aload_n 0, 1) := by decide +kernel
theorem dL_law_958 : decode cL_law 958 = .ok (.iload 4, 2) := by decide +kernel
theorem dL_law_960 : decode cL_law 960 = .ok (.iconst 1, 1) := by decide +kernel
theorem dL_law_961 : decode cL_law 961 = .ok (.iadd, 1) := by decide +kernel
theorem dL_law_962 : decode cL_law 962 = .ok (.iaload, 1) := by decide +kernel
theorem dL_law_963 : decode cL_law 963 = .ok (.invokevirtual 89, 3) := by decide +kernel
theorem kw_947 : Cond.code yX11_rivalry prog_1_method_14_code 2 (some .boolean) ∈ uu := uu_in (i := 947) (by decide +kernel) (by decide +kernel)
theorem kw_944 : Cond.methodLink "LandSurveyLaw" 89 yX11_rivalry ∈ uu := uu_in (i := 944) (by decide +kernel) (by decide +kernel)
theorem kw_945 : Cond.instanceMethod yX11_rivalry ∈ uu := uu_in (i := 945) (by decide +kernel) (by decide +kernel)
theorem kw_946 : Cond.selects "LandSurvey" yX11_rivalry yX11_rivalry ∈ uu := uu_in (i := 946) (by decide +kernel) (by decide +kernel)
theorem lk_LandSurveyLaw_89 : lkV "LandSurveyLaw" 89 yX11_rivalry cX11_rivalry 2 (some .boolean) 1 := ⟨kw_944, kw_945, kw_946, kw_144, kw_947, okX11_rivalry⟩
theorem dL_law_966 : decode cL_law 966 = .ok (.pop, 1) := by decide +kernel
theorem dL_law_967 : decode cL_law 967 = .ok (.aload_n 2, 1) := by decide +kernel
theorem dL_law_968 : decode cL_law 968 = .ok (.aload_n 0, 1) := by decide +kernel
theorem dL_law_969 : decode cL_law 969 = .ok (.iload 4, 2) := by decide +kernel
theorem dL_law_971 : decode cL_law 971 = .ok (.iconst 1, 1) := by decide +kernel
theorem dL_law_972 : decode cL_law 972 = .ok (.iadd, 1) := by decide +kernel
theorem dL_law_973 : decode cL_law 973 = .ok (.iaload, 1) := by decide +kernel
theorem dL_law_974 : decode cL_law 974 = .ok (.invokevirtual 92, 3) := by decide +kernel
theorem kw_1937 : Cond.code yX12_rivalry prog_14_method_84_code 2 (some .boolean) ∈ uu := uu_in (i := 1937) (by decide +kernel) (by decide +kernel)
theorem kw_1934 : Cond.methodLink "LandSurveyLaw" 92 yX12_rivalry ∈ uu := uu_in (i := 1934) (by decide +kernel) (by decide +kernel)
theorem kw_1935 : Cond.instanceMethod yX12_rivalry ∈ uu := uu_in (i := 1935) (by decide +kernel) (by decide +kernel)
theorem kw_1936 : Cond.selects "LandSurveyModel" yX12_rivalry yX12_rivalry ∈ uu := uu_in (i := 1936) (by decide +kernel) (by decide +kernel)
theorem lk_LandSurveyLaw_92 : lkV "LandSurveyLaw" 92 yX12_rivalry cX12_rivalry 2 (some .boolean) 1 := ⟨kw_1934, kw_1935, kw_1936, kw_152, kw_1937, okX12_rivalry⟩
theorem dL_law_977 : decode cL_law 977 = .ok (.pop, 1) := by decide +kernel
theorem dL_law_978 : decode cL_law 978 = .ok (.goto 918, 3) := by decide +kernel
theorem dL_law_981 : decode cL_law 981 = .ok (.aload_n 1, 1) := by decide +kernel
theorem dL_law_982 : decode cL_law 982 = .ok (.aload_n 0, 1) := by decide +kernel
theorem dL_law_983 : decode cL_law 983 = .ok (.iload 4, 2) := by decide +kernel
theorem dL_law_985 : decode cL_law 985 = .ok (.iconst 1, 1) := by decide +kernel
theorem dL_law_986 : decode cL_law 986 = .ok (.iadd, 1) := by decide +kernel
theorem dL_law_987 : decode cL_law 987 = .ok (.iaload, 1) := by decide +kernel
theorem dL_law_988 : decode cL_law 988 = .ok (.aload_n 0, 1) := by decide +kernel
theorem dL_law_989 : decode cL_law 989 = .ok (.iload 4, 2) := by decide +kernel
theorem dL_law_991 : decode cL_law 991 = .ok (.iconst 2, 1) := by decide +kernel
theorem dL_law_992 : decode cL_law 992 = .ok (.iadd, 1) := by decide +kernel
theorem dL_law_993 : decode cL_law 993 = .ok (.iaload, 1) := by decide +kernel
theorem dL_law_994 : decode cL_law 994 = .ok (.aload_n 3, 1) := by decide +kernel
theorem dL_law_995 : decode cL_law 995 = .ok (.invokestatic 93, 3) := by decide +kernel
theorem kw_1361 : Cond.methodLink "LandSurveyLaw" 93 yL_look ∈ uu := uu_in (i := 1361) (by decide +kernel) (by decide +kernel)
theorem kw_1362 : Cond.static yL_look ∈ uu := uu_in (i := 1362) (by decide +kernel) (by decide +kernel)
theorem kw_143 : Cond.initialized "LandSurveyLaw" ∈ uu := uu_in (i := 143) (by decide +kernel) (by decide +kernel)
theorem kw_1363 : Cond.codeWith yL_look method_3_code 5 (some .int) [(0, 10, 13, 13)] ∈ uu := uu_in (i := 1363) (by decide +kernel) (by decide +kernel)
theorem dL_law_998 : decode cL_law 998 = .ok (.istore 5, 2) := by decide +kernel
theorem dL_law_1000 : decode cL_law 1000 = .ok (.aload_n 2, 1) := by decide +kernel
theorem dL_law_1001 : decode cL_law 1001 = .ok (.aload_n 0, 1) := by decide +kernel
theorem dL_law_1002 : decode cL_law 1002 = .ok (.iload 4, 2) := by decide +kernel
theorem dL_law_1004 : decode cL_law 1004 = .ok (.iconst 1, 1) := by decide +kernel
theorem dL_law_1005 : decode cL_law 1005 = .ok (.iadd, 1) := by decide +kernel
theorem dL_law_1006 : decode cL_law 1006 = .ok (.iaload, 1) := by decide +kernel
theorem dL_law_1007 : decode cL_law 1007 = .ok (.aload_n 0, 1) := by decide +kernel
theorem dL_law_1008 : decode cL_law 1008 = .ok (.iload 4, 2) := by decide +kernel
theorem dL_law_1010 : decode cL_law 1010 = .ok (.iconst 2, 1) := by decide +kernel
theorem dL_law_1011 : decode cL_law 1011 = .ok (.iadd, 1) := by decide +kernel
theorem dL_law_1012 : decode cL_law 1012 = .ok (.iaload, 1) := by decide +kernel
theorem dL_law_1013 : decode cL_law 1013 = .ok (.invokevirtual 98, 3) := by decide +kernel
theorem kw_1941 : Cond.code yX12_look prog_14_method_85_code 3 (some .int) ∈ uu := uu_in (i := 1941) (by decide +kernel) (by decide +kernel)
theorem kw_1938 : Cond.methodLink "LandSurveyLaw" 98 yX12_look ∈ uu := uu_in (i := 1938) (by decide +kernel) (by decide +kernel)
theorem kw_1939 : Cond.instanceMethod yX12_look ∈ uu := uu_in (i := 1939) (by decide +kernel) (by decide +kernel)
theorem kw_1940 : Cond.selects "LandSurveyModel" yX12_look yX12_look ∈ uu := uu_in (i := 1940) (by decide +kernel) (by decide +kernel)
theorem lk_LandSurveyLaw_98 : lkV "LandSurveyLaw" 98 yX12_look cX12_look 3 (some .int) 2 := ⟨kw_1938, kw_1939, kw_1940, kw_152, kw_1941, okX12_look⟩
theorem dL_law_1016 : decode cL_law 1016 = .ok (.istore 6, 2) := by decide +kernel
theorem dL_law_1018 : decode cL_law 1018 = .ok (.goto 878, 3) := by decide +kernel
theorem dL_law_1021 : decode cL_law 1021 = .ok (.aload_n 1, 1) := by decide +kernel
theorem dL_law_1022 : decode cL_law 1022 = .ok (.aload_n 0, 1) := by decide +kernel
theorem dL_law_1023 : decode cL_law 1023 = .ok (.iload 4, 2) := by decide +kernel
theorem dL_law_1025 : decode cL_law 1025 = .ok (.iconst 1, 1) := by decide +kernel
theorem dL_law_1026 : decode cL_law 1026 = .ok (.iadd, 1) := by decide +kernel
theorem dL_law_1027 : decode cL_law 1027 = .ok (.iaload, 1) := by decide +kernel
theorem dL_law_1028 : decode cL_law 1028 = .ok (.invokevirtual 99, 3) := by decide +kernel
theorem kw_951 : Cond.code yX11_cost prog_1_method_16_code 3 (some .int) ∈ uu := uu_in (i := 951) (by decide +kernel) (by decide +kernel)
theorem kw_948 : Cond.methodLink "LandSurveyLaw" 99 yX11_cost ∈ uu := uu_in (i := 948) (by decide +kernel) (by decide +kernel)
theorem kw_949 : Cond.instanceMethod yX11_cost ∈ uu := uu_in (i := 949) (by decide +kernel) (by decide +kernel)
theorem kw_950 : Cond.selects "LandSurvey" yX11_cost yX11_cost ∈ uu := uu_in (i := 950) (by decide +kernel) (by decide +kernel)
theorem lk_LandSurveyLaw_99 : lkV "LandSurveyLaw" 99 yX11_cost cX11_cost 3 (some .int) 1 := ⟨kw_948, kw_949, kw_950, kw_144, kw_951, okX11_cost⟩
theorem dL_law_1031 : decode cL_law 1031 = .ok (.pop, 1) := by decide +kernel
theorem dL_law_1032 : decode cL_law 1032 = .ok (.aload_n 2, 1) := by decide +kernel
theorem dL_law_1033 : decode cL_law 1033 = .ok (.aload_n 0, 1) := by decide +kernel
theorem dL_law_1034 : decode cL_law 1034 = .ok (.iload 4, 2) := by decide +kernel
theorem dL_law_1036 : decode cL_law 1036 = .ok (.iconst 1, 1) := by decide +kernel
theorem dL_law_1037 : decode cL_law 1037 = .ok (.iadd, 1) := by decide +kernel
theorem dL_law_1038 : decode cL_law 1038 = .ok (.iaload, 1) := by decide +kernel
theorem dL_law_1039 : decode cL_law 1039 = .ok (.invokevirtual 102, 3) := by decide +kernel
theorem kw_2087 : Cond.code yX12_cost prog_14_method_86_code 2 (some .int) ∈ uu := uu_in (i := 2087) (by decide +kernel) (by decide +kernel)
theorem kw_2084 : Cond.methodLink "LandSurveyLaw" 102 yX12_cost ∈ uu := uu_in (i := 2084) (by decide +kernel) (by decide +kernel)
theorem kw_2085 : Cond.instanceMethod yX12_cost ∈ uu := uu_in (i := 2085) (by decide +kernel) (by decide +kernel)
theorem kw_2086 : Cond.selects "LandSurveyModel" yX12_cost yX12_cost ∈ uu := uu_in (i := 2086) (by decide +kernel) (by decide +kernel)
theorem lk_LandSurveyLaw_102 : lkV "LandSurveyLaw" 102 yX12_cost cX12_cost 2 (some .int) 1 := ⟨kw_2084, kw_2085, kw_2086, kw_152, kw_2087, okX12_cost⟩
theorem dL_law_1042 : decode cL_law 1042 = .ok (.pop, 1) := by decide +kernel
theorem dL_law_1043 : decode cL_law 1043 = .ok (.goto 853, 3) := by decide +kernel
theorem dL_law_1046 : decode cL_law 1046 = .ok (.aload_n 1, 1) := by decide +kernel
theorem dL_law_1047 : decode cL_law 1047 = .ok (.aload_n 0, 1) := by decide +kernel
theorem dL_law_1048 : decode cL_law 1048 = .ok (.iload 4, 2) := by decide +kernel
theorem dL_law_1050 : decode cL_law 1050 = .ok (.iconst 1, 1) := by decide +kernel
theorem dL_law_1051 : decode cL_law 1051 = .ok (.iadd, 1) := by decide +kernel
theorem dL_law_1052 : decode cL_law 1052 = .ok (.iaload, 1) := by decide +kernel
theorem dL_law_1053 : decode cL_law 1053 = .ok (.aload_n 0, 1) := by decide +kernel
theorem dL_law_1054 : decode cL_law 1054 = .ok (.iload 4, 2) := by decide +kernel
theorem dL_law_1056 : decode cL_law 1056 = .ok (.iconst 2, 1) := by decide +kernel
theorem dL_law_1057 : decode cL_law 1057 = .ok (.iadd, 1) := by decide +kernel
theorem dL_law_1058 : decode cL_law 1058 = .ok (.iaload, 1) := by decide +kernel
theorem dL_law_1059 : decode cL_law 1059 = .ok (.invokevirtual 103, 3) := by decide +kernel
theorem kw_1132 : Cond.code yX11_doubted prog_1_method_17_code 6 (some .int) ∈ uu := uu_in (i := 1132) (by decide +kernel) (by decide +kernel)
theorem kw_1129 : Cond.methodLink "LandSurveyLaw" 103 yX11_doubted ∈ uu := uu_in (i := 1129) (by decide +kernel) (by decide +kernel)
theorem kw_1130 : Cond.instanceMethod yX11_doubted ∈ uu := uu_in (i := 1130) (by decide +kernel) (by decide +kernel)
theorem kw_1131 : Cond.selects "LandSurvey" yX11_doubted yX11_doubted ∈ uu := uu_in (i := 1131) (by decide +kernel) (by decide +kernel)
theorem lk_LandSurveyLaw_103 : lkV "LandSurveyLaw" 103 yX11_doubted cX11_doubted 6 (some .int) 2 := ⟨kw_1129, kw_1130, kw_1131, kw_144, kw_1132, okX11_doubted⟩
theorem dL_law_1062 : decode cL_law 1062 = .ok (.pop, 1) := by decide +kernel
theorem dL_law_1063 : decode cL_law 1063 = .ok (.aload_n 2, 1) := by decide +kernel
theorem dL_law_1064 : decode cL_law 1064 = .ok (.aload_n 0, 1) := by decide +kernel
theorem dL_law_1065 : decode cL_law 1065 = .ok (.iload 4, 2) := by decide +kernel
theorem dL_law_1067 : decode cL_law 1067 = .ok (.iconst 1, 1) := by decide +kernel
theorem dL_law_1068 : decode cL_law 1068 = .ok (.iadd, 1) := by decide +kernel
theorem dL_law_1069 : decode cL_law 1069 = .ok (.iaload, 1) := by decide +kernel
theorem dL_law_1070 : decode cL_law 1070 = .ok (.aload_n 0, 1) := by decide +kernel
theorem dL_law_1071 : decode cL_law 1071 = .ok (.iload 4, 2) := by decide +kernel
theorem dL_law_1073 : decode cL_law 1073 = .ok (.iconst 2, 1) := by decide +kernel
theorem dL_law_1074 : decode cL_law 1074 = .ok (.iadd, 1) := by decide +kernel
theorem dL_law_1075 : decode cL_law 1075 = .ok (.iaload, 1) := by decide +kernel
theorem dL_law_1076 : decode cL_law 1076 = .ok (.invokevirtual 106, 3) := by decide +kernel
theorem kw_2095 : Cond.code yX12_doubted prog_14_method_87_code 5 (some .int) ∈ uu := uu_in (i := 2095) (by decide +kernel) (by decide +kernel)
theorem kw_2092 : Cond.methodLink "LandSurveyLaw" 106 yX12_doubted ∈ uu := uu_in (i := 2092) (by decide +kernel) (by decide +kernel)
theorem kw_2093 : Cond.instanceMethod yX12_doubted ∈ uu := uu_in (i := 2093) (by decide +kernel) (by decide +kernel)
theorem kw_2094 : Cond.selects "LandSurveyModel" yX12_doubted yX12_doubted ∈ uu := uu_in (i := 2094) (by decide +kernel) (by decide +kernel)
theorem lk_LandSurveyLaw_106 : lkV "LandSurveyLaw" 106 yX12_doubted cX12_doubted 5 (some .int) 2 := ⟨kw_2092, kw_2093, kw_2094, kw_152, kw_2095, okX12_doubted⟩
theorem dL_law_1079 : decode cL_law 1079 = .ok (.pop, 1) := by decide +kernel
theorem dL_law_1080 : decode cL_law 1080 = .ok (.goto 816, 3) := by decide +kernel
theorem dL_law_1083 : decode cL_law 1083 = .ok (.aload_n 1, 1) := by decide +kernel
theorem dL_law_1084 : decode cL_law 1084 = .ok (.aload_n 0, 1) := by decide +kernel
theorem dL_law_1085 : decode cL_law 1085 = .ok (.iload 4, 2) := by decide +kernel
theorem dL_law_1087 : decode cL_law 1087 = .ok (.iconst 1, 1) := by decide +kernel
theorem dL_law_1088 : decode cL_law 1088 = .ok (.iadd, 1) := by decide +kernel
theorem dL_law_1089 : decode cL_law 1089 = .ok (.iaload, 1) := by decide +kernel
theorem dL_law_1090 : decode cL_law 1090 = .ok (.invokevirtual 107, 3) := by decide +kernel
theorem kw_1140 : Cond.code yX11_best prog_1_method_18_code 2 (some .int) ∈ uu := uu_in (i := 1140) (by decide +kernel) (by decide +kernel)
theorem kw_1137 : Cond.methodLink "LandSurveyLaw" 107 yX11_best ∈ uu := uu_in (i := 1137) (by decide +kernel) (by decide +kernel)
theorem kw_1138 : Cond.instanceMethod yX11_best ∈ uu := uu_in (i := 1138) (by decide +kernel) (by decide +kernel)
theorem kw_1139 : Cond.selects "LandSurvey" yX11_best yX11_best ∈ uu := uu_in (i := 1139) (by decide +kernel) (by decide +kernel)
theorem lk_LandSurveyLaw_107 : lkV "LandSurveyLaw" 107 yX11_best cX11_best 2 (some .int) 1 := ⟨kw_1137, kw_1138, kw_1139, kw_144, kw_1140, okX11_best⟩
theorem dL_law_1093 : decode cL_law 1093 = .ok (.pop, 1) := by decide +kernel
theorem dL_law_1094 : decode cL_law 1094 = .ok (.aload_n 2, 1) := by decide +kernel
theorem dL_law_1095 : decode cL_law 1095 = .ok (.aload_n 0, 1) := by decide +kernel
theorem dL_law_1096 : decode cL_law 1096 = .ok (.iload 4, 2) := by decide +kernel
theorem dL_law_1098 : decode cL_law 1098 = .ok (.iconst 1, 1) := by decide +kernel
theorem dL_law_1099 : decode cL_law 1099 = .ok (.iadd, 1) := by decide +kernel
theorem dL_law_1100 : decode cL_law 1100 = .ok (.iaload, 1) := by decide +kernel
theorem dL_law_1101 : decode cL_law 1101 = .ok (.invokevirtual 110, 3) := by decide +kernel
theorem kw_2099 : Cond.code yX12_best prog_14_method_89_code 2 (some .int) ∈ uu := uu_in (i := 2099) (by decide +kernel) (by decide +kernel)
theorem kw_2096 : Cond.methodLink "LandSurveyLaw" 110 yX12_best ∈ uu := uu_in (i := 2096) (by decide +kernel) (by decide +kernel)
theorem kw_2097 : Cond.instanceMethod yX12_best ∈ uu := uu_in (i := 2097) (by decide +kernel) (by decide +kernel)
theorem kw_2098 : Cond.selects "LandSurveyModel" yX12_best yX12_best ∈ uu := uu_in (i := 2098) (by decide +kernel) (by decide +kernel)
theorem lk_LandSurveyLaw_110 : lkV "LandSurveyLaw" 110 yX12_best cX12_best 2 (some .int) 1 := ⟨kw_2096, kw_2097, kw_2098, kw_152, kw_2099, okX12_best⟩
theorem dL_law_1104 : decode cL_law 1104 = .ok (.pop, 1) := by decide +kernel
theorem dL_law_1105 : decode cL_law 1105 = .ok (.goto 791, 3) := by decide +kernel
theorem dL_law_1108 : decode cL_law 1108 = .ok (.aload_n 1, 1) := by decide +kernel
theorem dL_law_1109 : decode cL_law 1109 = .ok (.aload_n 0, 1) := by decide +kernel
theorem dL_law_1110 : decode cL_law 1110 = .ok (.iload 4, 2) := by decide +kernel
theorem dL_law_1112 : decode cL_law 1112 = .ok (.iconst 1, 1) := by decide +kernel
theorem dL_law_1113 : decode cL_law 1113 = .ok (.iadd, 1) := by decide +kernel
theorem dL_law_1114 : decode cL_law 1114 = .ok (.iaload, 1) := by decide +kernel
theorem dL_law_1115 : decode cL_law 1115 = .ok (.invokevirtual 111, 3) := by decide +kernel
theorem kw_1162 : Cond.code yX11_kept prog_1_method_19_code 2 (some .int) ∈ uu := uu_in (i := 1162) (by decide +kernel) (by decide +kernel)
theorem kw_1159 : Cond.methodLink "LandSurveyLaw" 111 yX11_kept ∈ uu := uu_in (i := 1159) (by decide +kernel) (by decide +kernel)
theorem kw_1160 : Cond.instanceMethod yX11_kept ∈ uu := uu_in (i := 1160) (by decide +kernel) (by decide +kernel)
theorem kw_1161 : Cond.selects "LandSurvey" yX11_kept yX11_kept ∈ uu := uu_in (i := 1161) (by decide +kernel) (by decide +kernel)
theorem lk_LandSurveyLaw_111 : lkV "LandSurveyLaw" 111 yX11_kept cX11_kept 2 (some .int) 1 := ⟨kw_1159, kw_1160, kw_1161, kw_144, kw_1162, okX11_kept⟩
theorem dL_law_1118 : decode cL_law 1118 = .ok (.pop, 1) := by decide +kernel
theorem dL_law_1119 : decode cL_law 1119 = .ok (.aload_n 2, 1) := by decide +kernel
theorem dL_law_1120 : decode cL_law 1120 = .ok (.aload_n 0, 1) := by decide +kernel
theorem dL_law_1121 : decode cL_law 1121 = .ok (.iload 4, 2) := by decide +kernel
theorem dL_law_1123 : decode cL_law 1123 = .ok (.iconst 1, 1) := by decide +kernel
theorem dL_law_1124 : decode cL_law 1124 = .ok (.iadd, 1) := by decide +kernel
theorem dL_law_1125 : decode cL_law 1125 = .ok (.iaload, 1) := by decide +kernel
theorem dL_law_1126 : decode cL_law 1126 = .ok (.invokevirtual 114, 3) := by decide +kernel
theorem kw_2107 : Cond.code yX12_kept prog_14_method_90_code 2 (some .int) ∈ uu := uu_in (i := 2107) (by decide +kernel) (by decide +kernel)
theorem kw_2104 : Cond.methodLink "LandSurveyLaw" 114 yX12_kept ∈ uu := uu_in (i := 2104) (by decide +kernel) (by decide +kernel)
theorem kw_2105 : Cond.instanceMethod yX12_kept ∈ uu := uu_in (i := 2105) (by decide +kernel) (by decide +kernel)
theorem kw_2106 : Cond.selects "LandSurveyModel" yX12_kept yX12_kept ∈ uu := uu_in (i := 2106) (by decide +kernel) (by decide +kernel)
theorem lk_LandSurveyLaw_114 : lkV "LandSurveyLaw" 114 yX12_kept cX12_kept 2 (some .int) 1 := ⟨kw_2104, kw_2105, kw_2106, kw_152, kw_2107, okX12_kept⟩
theorem dL_law_1129 : decode cL_law 1129 = .ok (.pop, 1) := by decide +kernel
theorem dL_law_1130 : decode cL_law 1130 = .ok (.goto 766, 3) := by decide +kernel
theorem dL_law_1133 : decode cL_law 1133 = .ok (.aload_n 1, 1) := by decide +kernel
theorem dL_law_1134 : decode cL_law 1134 = .ok (.aload_n 0, 1) := by decide +kernel
theorem dL_law_1135 : decode cL_law 1135 = .ok (.iload 4, 2) := by decide +kernel
theorem dL_law_1137 : decode cL_law 1137 = .ok (.iconst 1, 1) := by decide +kernel
theorem dL_law_1138 : decode cL_law 1138 = .ok (.iadd, 1) := by decide +kernel
theorem dL_law_1139 : decode cL_law 1139 = .ok (.iaload, 1) := by decide +kernel
theorem dL_law_1140 : decode cL_law 1140 = .ok (.aload_n 0, 1) := by decide +kernel
theorem dL_law_1141 : decode cL_law 1141 = .ok (.iload 4, 2) := by decide +kernel
theorem dL_law_1143 : decode cL_law 1143 = .ok (.iconst 2, 1) := by decide +kernel
theorem dL_law_1144 : decode cL_law 1144 = .ok (.iadd, 1) := by decide +kernel
theorem dL_law_1145 : decode cL_law 1145 = .ok (.iaload, 1) := by decide +kernel
theorem dL_law_1146 : decode cL_law 1146 = .ok (.aload_n 0, 1) := by decide +kernel
theorem dL_law_1147 : decode cL_law 1147 = .ok (.iload 4, 2) := by decide +kernel
theorem dL_law_1149 : decode cL_law 1149 = .ok (.iconst 3, 1) := by decide +kernel
theorem dL_law_1150 : decode cL_law 1150 = .ok (.iadd, 1) := by decide +kernel
theorem dL_law_1151 : decode cL_law 1151 = .ok (.iaload, 1) := by decide +kernel
theorem dL_law_1152 : decode cL_law 1152 = .ok (.aload_n 0, 1) := by decide +kernel
theorem dL_law_1153 : decode cL_law 1153 = .ok (.iload 4, 2) := by decide +kernel
theorem dL_law_1155 : decode cL_law 1155 = .ok (.iconst 4, 1) := by decide +kernel
theorem dL_law_1156 : decode cL_law 1156 = .ok (.iadd, 1) := by decide +kernel
theorem dL_law_1157 : decode cL_law 1157 = .ok (.iaload, 1) := by decide +kernel
theorem dL_law_1158 : decode cL_law 1158 = .ok (.aload_n 3, 1) := by decide +kernel
theorem dL_law_1159 : decode cL_law 1159 = .ok (.invokestatic 115, 3) := by decide +kernel
theorem kw_1434 : Cond.methodLink "LandSurveyLaw" 115 yL_base ∈ uu := uu_in (i := 1434) (by decide +kernel) (by decide +kernel)
theorem kw_1435 : Cond.static yL_base ∈ uu := uu_in (i := 1435) (by decide +kernel) (by decide +kernel)
theorem kw_1436 : Cond.codeWith yL_base method_4_code 7 (some .int) [(0, 14, 17, 13)] ∈ uu := uu_in (i := 1436) (by decide +kernel) (by decide +kernel)
theorem dL_law_1162 : decode cL_law 1162 = .ok (.istore 5, 2) := by decide +kernel
theorem dL_law_1164 : decode cL_law 1164 = .ok (.aload_n 2, 1) := by decide +kernel
theorem dL_law_1165 : decode cL_law 1165 = .ok (.aload_n 0, 1) := by decide +kernel
theorem dL_law_1166 : decode cL_law 1166 = .ok (.iload 4, 2) := by decide +kernel
theorem dL_law_1168 : decode cL_law 1168 = .ok (.iconst 1, 1) := by decide +kernel
theorem dL_law_1169 : decode cL_law 1169 = .ok (.iadd, 1) := by decide +kernel
theorem dL_law_1170 : decode cL_law 1170 = .ok (.iaload, 1) := by decide +kernel
theorem dL_law_1171 : decode cL_law 1171 = .ok (.aload_n 0, 1) := by decide +kernel
theorem dL_law_1172 : decode cL_law 1172 = .ok (.iload 4, 2) := by decide +kernel
theorem dL_law_1174 : decode cL_law 1174 = .ok (.iconst 2, 1) := by decide +kernel
theorem dL_law_1175 : decode cL_law 1175 = .ok (.iadd, 1) := by decide +kernel
theorem dL_law_1176 : decode cL_law 1176 = .ok (.iaload, 1) := by decide +kernel
theorem dL_law_1177 : decode cL_law 1177 = .ok (.aload_n 0, 1) := by decide +kernel
theorem dL_law_1178 : decode cL_law 1178 = .ok (.iload 4, 2) := by decide +kernel
theorem dL_law_1180 : decode cL_law 1180 = .ok (.iconst 3, 1) := by decide +kernel
theorem dL_law_1181 : decode cL_law 1181 = .ok (.iadd, 1) := by decide +kernel
theorem dL_law_1182 : decode cL_law 1182 = .ok (.iaload, 1) := by decide +kernel
theorem dL_law_1183 : decode cL_law 1183 = .ok (.aload_n 0, 1) := by decide +kernel
theorem dL_law_1184 : decode cL_law 1184 = .ok (.iload 4, 2) := by decide +kernel
theorem dL_law_1186 : decode cL_law 1186 = .ok (.iconst 4, 1) := by decide +kernel
theorem dL_law_1187 : decode cL_law 1187 = .ok (.iadd, 1) := by decide +kernel
theorem dL_law_1188 : decode cL_law 1188 = .ok (.iaload, 1) := by decide +kernel
theorem dL_law_1189 : decode cL_law 1189 = .ok (.invokevirtual 118, 3) := by decide +kernel
theorem kw_2111 : Cond.code yX12_base prog_14_method_91_code 5 (some .int) ∈ uu := uu_in (i := 2111) (by decide +kernel) (by decide +kernel)
theorem kw_2108 : Cond.methodLink "LandSurveyLaw" 118 yX12_base ∈ uu := uu_in (i := 2108) (by decide +kernel) (by decide +kernel)
theorem kw_2109 : Cond.instanceMethod yX12_base ∈ uu := uu_in (i := 2109) (by decide +kernel) (by decide +kernel)
theorem kw_2110 : Cond.selects "LandSurveyModel" yX12_base yX12_base ∈ uu := uu_in (i := 2110) (by decide +kernel) (by decide +kernel)
theorem lk_LandSurveyLaw_118 : lkV "LandSurveyLaw" 118 yX12_base cX12_base 5 (some .int) 4 := ⟨kw_2108, kw_2109, kw_2110, kw_152, kw_2111, okX12_base⟩
theorem dL_law_1192 : decode cL_law 1192 = .ok (.istore 6, 2) := by decide +kernel
theorem dL_law_1194 : decode cL_law 1194 = .ok (.goto 702, 3) := by decide +kernel
theorem dL_law_1197 : decode cL_law 1197 = .ok (.aload_n 1, 1) := by decide +kernel
theorem dL_law_1198 : decode cL_law 1198 = .ok (.aload_n 0, 1) := by decide +kernel
theorem dL_law_1199 : decode cL_law 1199 = .ok (.iload 4, 2) := by decide +kernel
theorem dL_law_1201 : decode cL_law 1201 = .ok (.iconst 1, 1) := by decide +kernel
theorem dL_law_1202 : decode cL_law 1202 = .ok (.iadd, 1) := by decide +kernel
theorem dL_law_1203 : decode cL_law 1203 = .ok (.iaload, 1) := by decide +kernel
theorem dL_law_1204 : decode cL_law 1204 = .ok (.aload_n 0, 1) := by decide +kernel
theorem dL_law_1205 : decode cL_law 1205 = .ok (.iload 4, 2) := by decide +kernel
theorem dL_law_1207 : decode cL_law 1207 = .ok (.iconst 2, 1) := by decide +kernel
theorem dL_law_1208 : decode cL_law 1208 = .ok (.iadd, 1) := by decide +kernel
theorem dL_law_1209 : decode cL_law 1209 = .ok (.iaload, 1) := by decide +kernel
theorem dL_law_1210 : decode cL_law 1210 = .ok (.aload_n 0, 1) := by decide +kernel
theorem dL_law_1211 : decode cL_law 1211 = .ok (.iload 4, 2) := by decide +kernel
theorem dL_law_1213 : decode cL_law 1213 = .ok (.iconst 3, 1) := by decide +kernel
theorem dL_law_1214 : decode cL_law 1214 = .ok (.iadd, 1) := by decide +kernel
theorem dL_law_1215 : decode cL_law 1215 = .ok (.iaload, 1) := by decide +kernel
theorem dL_law_1216 : decode cL_law 1216 = .ok (.invokevirtual 119, 3) := by decide +kernel
theorem kw_1166 : Cond.code yX11_lies prog_1_method_21_code 5 (some .int) ∈ uu := uu_in (i := 1166) (by decide +kernel) (by decide +kernel)
theorem kw_1163 : Cond.methodLink "LandSurveyLaw" 119 yX11_lies ∈ uu := uu_in (i := 1163) (by decide +kernel) (by decide +kernel)
theorem kw_1164 : Cond.instanceMethod yX11_lies ∈ uu := uu_in (i := 1164) (by decide +kernel) (by decide +kernel)
theorem kw_1165 : Cond.selects "LandSurvey" yX11_lies yX11_lies ∈ uu := uu_in (i := 1165) (by decide +kernel) (by decide +kernel)
theorem lk_LandSurveyLaw_119 : lkV "LandSurveyLaw" 119 yX11_lies cX11_lies 5 (some .int) 3 := ⟨kw_1163, kw_1164, kw_1165, kw_144, kw_1166, okX11_lies⟩
theorem dL_law_1219 : decode cL_law 1219 = .ok (.pop, 1) := by decide +kernel
theorem dL_law_1220 : decode cL_law 1220 = .ok (.aload_n 2, 1) := by decide +kernel
theorem dL_law_1221 : decode cL_law 1221 = .ok (.aload_n 0, 1) := by decide +kernel
theorem dL_law_1222 : decode cL_law 1222 = .ok (.iload 4, 2) := by decide +kernel
theorem dL_law_1224 : decode cL_law 1224 = .ok (.iconst 1, 1) := by decide +kernel
theorem dL_law_1225 : decode cL_law 1225 = .ok (.iadd, 1) := by decide +kernel
theorem dL_law_1226 : decode cL_law 1226 = .ok (.iaload, 1) := by decide +kernel
theorem dL_law_1227 : decode cL_law 1227 = .ok (.aload_n 0, 1) := by decide +kernel
theorem dL_law_1228 : decode cL_law 1228 = .ok (.iload 4, 2) := by decide +kernel
theorem dL_law_1230 : decode cL_law 1230 = .ok (.iconst 2, 1) := by decide +kernel
theorem dL_law_1231 : decode cL_law 1231 = .ok (.iadd, 1) := by decide +kernel
theorem dL_law_1232 : decode cL_law 1232 = .ok (.iaload, 1) := by decide +kernel
theorem dL_law_1233 : decode cL_law 1233 = .ok (.aload_n 0, 1) := by decide +kernel
theorem dL_law_1234 : decode cL_law 1234 = .ok (.iload 4, 2) := by decide +kernel
theorem dL_law_1236 : decode cL_law 1236 = .ok (.iconst 3, 1) := by decide +kernel
theorem dL_law_1237 : decode cL_law 1237 = .ok (.iadd, 1) := by decide +kernel
theorem dL_law_1238 : decode cL_law 1238 = .ok (.iaload, 1) := by decide +kernel
theorem dL_law_1239 : decode cL_law 1239 = .ok (.invokevirtual 123, 3) := by decide +kernel
theorem kw_2115 : Cond.code yX12_lies prog_14_method_95_code 4 (some .int) ∈ uu := uu_in (i := 2115) (by decide +kernel) (by decide +kernel)
theorem kw_2112 : Cond.methodLink "LandSurveyLaw" 123 yX12_lies ∈ uu := uu_in (i := 2112) (by decide +kernel) (by decide +kernel)
theorem kw_2113 : Cond.instanceMethod yX12_lies ∈ uu := uu_in (i := 2113) (by decide +kernel) (by decide +kernel)
theorem kw_2114 : Cond.selects "LandSurveyModel" yX12_lies yX12_lies ∈ uu := uu_in (i := 2114) (by decide +kernel) (by decide +kernel)
theorem lk_LandSurveyLaw_123 : lkV "LandSurveyLaw" 123 yX12_lies cX12_lies 4 (some .int) 3 := ⟨kw_2112, kw_2113, kw_2114, kw_152, kw_2115, okX12_lies⟩
theorem dL_law_1242 : decode cL_law 1242 = .ok (.pop, 1) := by decide +kernel
theorem dL_law_1243 : decode cL_law 1243 = .ok (.goto 653, 3) := by decide +kernel
theorem dL_law_1246 : decode cL_law 1246 = .ok (.aload_n 1, 1) := by decide +kernel
theorem dL_law_1247 : decode cL_law 1247 = .ok (.aload_n 0, 1) := by decide +kernel
theorem dL_law_1248 : decode cL_law 1248 = .ok (.iload 4, 2) := by decide +kernel
theorem dL_law_1250 : decode cL_law 1250 = .ok (.iconst 1, 1) := by decide +kernel
theorem dL_law_1251 : decode cL_law 1251 = .ok (.iadd, 1) := by decide +kernel
theorem dL_law_1252 : decode cL_law 1252 = .ok (.iaload, 1) := by decide +kernel
theorem dL_law_1253 : decode cL_law 1253 = .ok (.aload_n 0, 1) := by decide +kernel
theorem dL_law_1254 : decode cL_law 1254 = .ok (.iload 4, 2) := by decide +kernel
theorem dL_law_1256 : decode cL_law 1256 = .ok (.iconst 2, 1) := by decide +kernel
theorem dL_law_1257 : decode cL_law 1257 = .ok (.iadd, 1) := by decide +kernel
theorem dL_law_1258 : decode cL_law 1258 = .ok (.iaload, 1) := by decide +kernel
theorem dL_law_1259 : decode cL_law 1259 = .ok (.aload_n 0, 1) := by decide +kernel
theorem dL_law_1260 : decode cL_law 1260 = .ok (.iload 4, 2) := by decide +kernel
theorem dL_law_1262 : decode cL_law 1262 = .ok (.iconst 3, 1) := by decide +kernel
theorem dL_law_1263 : decode cL_law 1263 = .ok (.iadd, 1) := by decide +kernel
theorem dL_law_1264 : decode cL_law 1264 = .ok (.iaload, 1) := by decide +kernel
theorem dL_law_1265 : decode cL_law 1265 = .ok (.invokevirtual 124, 3) := by decide +kernel
theorem kw_1191 : Cond.code yX11_line prog_1_method_22_code 7 (some .int) ∈ uu := uu_in (i := 1191) (by decide +kernel) (by decide +kernel)
theorem kw_1188 : Cond.methodLink "LandSurveyLaw" 124 yX11_line ∈ uu := uu_in (i := 1188) (by decide +kernel) (by decide +kernel)
theorem kw_1189 : Cond.instanceMethod yX11_line ∈ uu := uu_in (i := 1189) (by decide +kernel) (by decide +kernel)
theorem kw_1190 : Cond.selects "LandSurvey" yX11_line yX11_line ∈ uu := uu_in (i := 1190) (by decide +kernel) (by decide +kernel)
theorem lk_LandSurveyLaw_124 : lkV "LandSurveyLaw" 124 yX11_line cX11_line 7 (some .int) 3 := ⟨kw_1188, kw_1189, kw_1190, kw_144, kw_1191, okX11_line⟩
theorem dL_law_1268 : decode cL_law 1268 = .ok (.pop, 1) := by decide +kernel
theorem dL_law_1269 : decode cL_law 1269 = .ok (.aload_n 2, 1) := by decide +kernel
theorem dL_law_1270 : decode cL_law 1270 = .ok (.aload_n 0, 1) := by decide +kernel
theorem dL_law_1271 : decode cL_law 1271 = .ok (.iload 4, 2) := by decide +kernel
theorem dL_law_1273 : decode cL_law 1273 = .ok (.iconst 1, 1) := by decide +kernel
theorem dL_law_1274 : decode cL_law 1274 = .ok (.iadd, 1) := by decide +kernel
theorem dL_law_1275 : decode cL_law 1275 = .ok (.iaload, 1) := by decide +kernel
theorem dL_law_1276 : decode cL_law 1276 = .ok (.aload_n 0, 1) := by decide +kernel
theorem dL_law_1277 : decode cL_law 1277 = .ok (.iload 4, 2) := by decide +kernel
theorem dL_law_1279 : decode cL_law 1279 = .ok (.iconst 2, 1) := by decide +kernel
theorem dL_law_1280 : decode cL_law 1280 = .ok (.iadd, 1) := by decide +kernel
theorem dL_law_1281 : decode cL_law 1281 = .ok (.iaload, 1) := by decide +kernel
theorem dL_law_1282 : decode cL_law 1282 = .ok (.aload_n 0, 1) := by decide +kernel
theorem dL_law_1283 : decode cL_law 1283 = .ok (.iload 4, 2) := by decide +kernel
theorem dL_law_1285 : decode cL_law 1285 = .ok (.iconst 3, 1) := by decide +kernel
theorem dL_law_1286 : decode cL_law 1286 = .ok (.iadd, 1) := by decide +kernel
theorem dL_law_1287 : decode cL_law 1287 = .ok (.iaload, 1) := by decide +kernel
theorem dL_law_1288 : decode cL_law 1288 = .ok (.invokevirtual 127, 3) := by decide +kernel
theorem kw_2131 : Cond.code yX12_line prog_14_method_97_code 10 (some .int) ∈ uu := uu_in (i := 2131) (by decide +kernel) (by decide +kernel)
theorem kw_2128 : Cond.methodLink "LandSurveyLaw" 127 yX12_line ∈ uu := uu_in (i := 2128) (by decide +kernel) (by decide +kernel)
theorem kw_2129 : Cond.instanceMethod yX12_line ∈ uu := uu_in (i := 2129) (by decide +kernel) (by decide +kernel)
theorem kw_2130 : Cond.selects "LandSurveyModel" yX12_line yX12_line ∈ uu := uu_in (i := 2130) (by decide +kernel) (by decide +kernel)
theorem lk_LandSurveyLaw_127 : lkV "LandSurveyLaw" 127 yX12_line cX12_line 10 (some .int) 3 := ⟨kw_2128, kw_2129, kw_2130, kw_152, kw_2131, okX12_line⟩
theorem dL_law_1291 : decode cL_law 1291 = .ok (.pop, 1) := by decide +kernel
theorem dL_law_1292 : decode cL_law 1292 = .ok (.goto 604, 3) := by decide +kernel
theorem dL_law_1295 : decode cL_law 1295 = .ok (.aload_n 1, 1) := by decide +kernel
theorem dL_law_1296 : decode cL_law 1296 = .ok (.aload_n 0, 1) := by decide +kernel
theorem dL_law_1297 : decode cL_law 1297 = .ok (.iload 4, 2) := by decide +kernel
theorem dL_law_1299 : decode cL_law 1299 = .ok (.iconst 1, 1) := by decide +kernel
theorem dL_law_1300 : decode cL_law 1300 = .ok (.iadd, 1) := by decide +kernel
theorem dL_law_1301 : decode cL_law 1301 = .ok (.iaload, 1) := by decide +kernel
theorem dL_law_1302 : decode cL_law 1302 = .ok (.aload_n 0, 1) := by decide +kernel
theorem dL_law_1303 : decode cL_law 1303 = .ok (.iload 4, 2) := by decide +kernel
theorem dL_law_1305 : decode cL_law 1305 = .ok (.iconst 2, 1) := by decide +kernel
theorem dL_law_1306 : decode cL_law 1306 = .ok (.iadd, 1) := by decide +kernel
theorem dL_law_1307 : decode cL_law 1307 = .ok (.iaload, 1) := by decide +kernel
theorem dL_law_1308 : decode cL_law 1308 = .ok (.aload_n 0, 1) := by decide +kernel
theorem dL_law_1309 : decode cL_law 1309 = .ok (.iload 4, 2) := by decide +kernel
theorem dL_law_1311 : decode cL_law 1311 = .ok (.iconst 3, 1) := by decide +kernel
theorem dL_law_1312 : decode cL_law 1312 = .ok (.iadd, 1) := by decide +kernel
theorem dL_law_1313 : decode cL_law 1313 = .ok (.iaload, 1) := by decide +kernel
theorem dL_law_1314 : decode cL_law 1314 = .ok (.aload_n 0, 1) := by decide +kernel
theorem dL_law_1315 : decode cL_law 1315 = .ok (.iload 4, 2) := by decide +kernel
theorem dL_law_1317 : decode cL_law 1317 = .ok (.iconst 4, 1) := by decide +kernel
theorem dL_law_1318 : decode cL_law 1318 = .ok (.iadd, 1) := by decide +kernel
theorem dL_law_1319 : decode cL_law 1319 = .ok (.iaload, 1) := by decide +kernel
theorem dL_law_1320 : decode cL_law 1320 = .ok (.aload_n 3, 1) := by decide +kernel
theorem dL_law_1321 : decode cL_law 1321 = .ok (.invokestatic 128, 3) := by decide +kernel
theorem kw_1441 : Cond.methodLink "LandSurveyLaw" 128 yL_deep ∈ uu := uu_in (i := 1441) (by decide +kernel) (by decide +kernel)
theorem kw_1442 : Cond.static yL_deep ∈ uu := uu_in (i := 1442) (by decide +kernel) (by decide +kernel)
theorem kw_1443 : Cond.codeWith yL_deep method_5_code 7 (some .int) [(0, 14, 17, 13)] ∈ uu := uu_in (i := 1443) (by decide +kernel) (by decide +kernel)
theorem dL_law_1324 : decode cL_law 1324 = .ok (.istore 5, 2) := by decide +kernel
theorem dL_law_1326 : decode cL_law 1326 = .ok (.aload_n 2, 1) := by decide +kernel
theorem dL_law_1327 : decode cL_law 1327 = .ok (.aload_n 0, 1) := by decide +kernel
theorem dL_law_1328 : decode cL_law 1328 = .ok (.iload 4, 2) := by decide +kernel
theorem dL_law_1330 : decode cL_law 1330 = .ok (.iconst 1, 1) := by decide +kernel
theorem dL_law_1331 : decode cL_law 1331 = .ok (.iadd, 1) := by decide +kernel
theorem dL_law_1332 : decode cL_law 1332 = .ok (.iaload, 1) := by decide +kernel
theorem dL_law_1333 : decode cL_law 1333 = .ok (.aload_n 0, 1) := by decide +kernel
theorem dL_law_1334 : decode cL_law 1334 = .ok (.iload 4, 2) := by decide +kernel
theorem dL_law_1336 : decode cL_law 1336 = .ok (.iconst 2, 1) := by decide +kernel
theorem dL_law_1337 : decode cL_law 1337 = .ok (.iadd, 1) := by decide +kernel
theorem dL_law_1338 : decode cL_law 1338 = .ok (.iaload, 1) := by decide +kernel
theorem dL_law_1339 : decode cL_law 1339 = .ok (.aload_n 0, 1) := by decide +kernel
theorem dL_law_1340 : decode cL_law 1340 = .ok (.iload 4, 2) := by decide +kernel
theorem dL_law_1342 : decode cL_law 1342 = .ok (.iconst 3, 1) := by decide +kernel
theorem dL_law_1343 : decode cL_law 1343 = .ok (.iadd, 1) := by decide +kernel
theorem dL_law_1344 : decode cL_law 1344 = .ok (.iaload, 1) := by decide +kernel
theorem dL_law_1345 : decode cL_law 1345 = .ok (.aload_n 0, 1) := by decide +kernel
theorem dL_law_1346 : decode cL_law 1346 = .ok (.iload 4, 2) := by decide +kernel
theorem dL_law_1348 : decode cL_law 1348 = .ok (.iconst 4, 1) := by decide +kernel
theorem dL_law_1349 : decode cL_law 1349 = .ok (.iadd, 1) := by decide +kernel
theorem dL_law_1350 : decode cL_law 1350 = .ok (.iaload, 1) := by decide +kernel
theorem dL_law_1351 : decode cL_law 1351 = .ok (.invokevirtual 130, 3) := by decide +kernel
theorem kw_2138 : Cond.code yX12_deep prog_14_method_105_code 5 (some .int) ∈ uu := uu_in (i := 2138) (by decide +kernel) (by decide +kernel)
theorem kw_2135 : Cond.methodLink "LandSurveyLaw" 130 yX12_deep ∈ uu := uu_in (i := 2135) (by decide +kernel) (by decide +kernel)
theorem kw_2136 : Cond.instanceMethod yX12_deep ∈ uu := uu_in (i := 2136) (by decide +kernel) (by decide +kernel)
theorem kw_2137 : Cond.selects "LandSurveyModel" yX12_deep yX12_deep ∈ uu := uu_in (i := 2137) (by decide +kernel) (by decide +kernel)
theorem lk_LandSurveyLaw_130 : lkV "LandSurveyLaw" 130 yX12_deep cX12_deep 5 (some .int) 4 := ⟨kw_2135, kw_2136, kw_2137, kw_152, kw_2138, okX12_deep⟩
theorem dL_law_1354 : decode cL_law 1354 = .ok (.istore 6, 2) := by decide +kernel
theorem dL_law_1356 : decode cL_law 1356 = .ok (.goto 540, 3) := by decide +kernel
theorem dL_law_1359 : decode cL_law 1359 = .ok (.aload_n 1, 1) := by decide +kernel
theorem dL_law_1360 : decode cL_law 1360 = .ok (.aload_n 0, 1) := by decide +kernel
theorem dL_law_1361 : decode cL_law 1361 = .ok (.iload 4, 2) := by decide +kernel
theorem dL_law_1363 : decode cL_law 1363 = .ok (.iconst 1, 1) := by decide +kernel
theorem dL_law_1364 : decode cL_law 1364 = .ok (.iadd, 1) := by decide +kernel
theorem dL_law_1365 : decode cL_law 1365 = .ok (.iaload, 1) := by decide +kernel
theorem dL_law_1366 : decode cL_law 1366 = .ok (.aload_n 0, 1) := by decide +kernel
theorem dL_law_1367 : decode cL_law 1367 = .ok (.iload 4, 2) := by decide +kernel
theorem dL_law_1369 : decode cL_law 1369 = .ok (.iconst 2, 1) := by decide +kernel
theorem dL_law_1370 : decode cL_law 1370 = .ok (.iadd, 1) := by decide +kernel
theorem dL_law_1371 : decode cL_law 1371 = .ok (.iaload, 1) := by decide +kernel
theorem dL_law_1372 : decode cL_law 1372 = .ok (.aload_n 0, 1) := by decide +kernel
theorem dL_law_1373 : decode cL_law 1373 = .ok (.iload 4, 2) := by decide +kernel
theorem dL_law_1375 : decode cL_law 1375 = .ok (.iconst 3, 1) := by decide +kernel
theorem dL_law_1376 : decode cL_law 1376 = .ok (.iadd, 1) := by decide +kernel
theorem dL_law_1377 : decode cL_law 1377 = .ok (.iaload, 1) := by decide +kernel
theorem dL_law_1378 : decode cL_law 1378 = .ok (.invokevirtual 131, 3) := by decide +kernel
theorem kw_1205 : Cond.code yX11_water prog_1_method_24_code 8 (some .int) ∈ uu := uu_in (i := 1205) (by decide +kernel) (by decide +kernel)
theorem kw_1202 : Cond.methodLink "LandSurveyLaw" 131 yX11_water ∈ uu := uu_in (i := 1202) (by decide +kernel) (by decide +kernel)
theorem kw_1203 : Cond.instanceMethod yX11_water ∈ uu := uu_in (i := 1203) (by decide +kernel) (by decide +kernel)
theorem kw_1204 : Cond.selects "LandSurvey" yX11_water yX11_water ∈ uu := uu_in (i := 1204) (by decide +kernel) (by decide +kernel)
theorem lk_LandSurveyLaw_131 : lkV "LandSurveyLaw" 131 yX11_water cX11_water 8 (some .int) 3 := ⟨kw_1202, kw_1203, kw_1204, kw_144, kw_1205, okX11_water⟩
theorem dL_law_1381 : decode cL_law 1381 = .ok (.pop, 1) := by decide +kernel
theorem dL_law_1382 : decode cL_law 1382 = .ok (.aload_n 2, 1) := by decide +kernel
theorem dL_law_1383 : decode cL_law 1383 = .ok (.aload_n 0, 1) := by decide +kernel
theorem dL_law_1384 : decode cL_law 1384 = .ok (.iload 4, 2) := by decide +kernel
theorem dL_law_1386 : decode cL_law 1386 = .ok (.iconst 1, 1) := by decide +kernel
theorem dL_law_1387 : decode cL_law 1387 = .ok (.iadd, 1) := by decide +kernel
theorem dL_law_1388 : decode cL_law 1388 = .ok (.iaload, 1) := by decide +kernel
theorem dL_law_1389 : decode cL_law 1389 = .ok (.aload_n 0, 1) := by decide +kernel
theorem dL_law_1390 : decode cL_law 1390 = .ok (.iload 4, 2) := by decide +kernel
theorem dL_law_1392 : decode cL_law 1392 = .ok (.iconst 2, 1) := by decide +kernel
theorem dL_law_1393 : decode cL_law 1393 = .ok (.iadd, 1) := by decide +kernel
theorem dL_law_1394 : decode cL_law 1394 = .ok (.iaload, 1) := by decide +kernel
theorem dL_law_1395 : decode cL_law 1395 = .ok (.aload_n 0, 1) := by decide +kernel
theorem dL_law_1396 : decode cL_law 1396 = .ok (.iload 4, 2) := by decide +kernel
theorem dL_law_1398 : decode cL_law 1398 = .ok (.iconst 3, 1) := by decide +kernel
theorem dL_law_1399 : decode cL_law 1399 = .ok (.iadd, 1) := by decide +kernel
theorem dL_law_1400 : decode cL_law 1400 = .ok (.iaload, 1) := by decide +kernel
theorem dL_law_1401 : decode cL_law 1401 = .ok (.invokevirtual 134, 3) := by decide +kernel
theorem kw_2163 : Cond.code yX12_water prog_14_method_106_code 10 (some .int) ∈ uu := uu_in (i := 2163) (by decide +kernel) (by decide +kernel)
theorem kw_2160 : Cond.methodLink "LandSurveyLaw" 134 yX12_water ∈ uu := uu_in (i := 2160) (by decide +kernel) (by decide +kernel)
theorem kw_2161 : Cond.instanceMethod yX12_water ∈ uu := uu_in (i := 2161) (by decide +kernel) (by decide +kernel)
theorem kw_2162 : Cond.selects "LandSurveyModel" yX12_water yX12_water ∈ uu := uu_in (i := 2162) (by decide +kernel) (by decide +kernel)
theorem lk_LandSurveyLaw_134 : lkV "LandSurveyLaw" 134 yX12_water cX12_water 10 (some .int) 3 := ⟨kw_2160, kw_2161, kw_2162, kw_152, kw_2163, okX12_water⟩
theorem dL_law_1404 : decode cL_law 1404 = .ok (.pop, 1) := by decide +kernel
theorem dL_law_1405 : decode cL_law 1405 = .ok (.goto 491, 3) := by decide +kernel
theorem dL_law_1408 : decode cL_law 1408 = .ok (.aload_n 1, 1) := by decide +kernel
theorem dL_law_1409 : decode cL_law 1409 = .ok (.aload_n 0, 1) := by decide +kernel
theorem dL_law_1410 : decode cL_law 1410 = .ok (.iload 4, 2) := by decide +kernel
theorem dL_law_1412 : decode cL_law 1412 = .ok (.iconst 1, 1) := by decide +kernel
theorem dL_law_1413 : decode cL_law 1413 = .ok (.iadd, 1) := by decide +kernel
theorem dL_law_1414 : decode cL_law 1414 = .ok (.iaload, 1) := by decide +kernel
theorem dL_law_1415 : decode cL_law 1415 = .ok (.aload_n 0, 1) := by decide +kernel
theorem dL_law_1416 : decode cL_law 1416 = .ok (.iload 4, 2) := by decide +kernel
theorem dL_law_1418 : decode cL_law 1418 = .ok (.iconst 2, 1) := by decide +kernel
theorem dL_law_1419 : decode cL_law 1419 = .ok (.iadd, 1) := by decide +kernel
theorem dL_law_1420 : decode cL_law 1420 = .ok (.iaload, 1) := by decide +kernel
theorem dL_law_1421 : decode cL_law 1421 = .ok (.aload_n 0, 1) := by decide +kernel
theorem dL_law_1422 : decode cL_law 1422 = .ok (.iload 4, 2) := by decide +kernel
theorem dL_law_1424 : decode cL_law 1424 = .ok (.iconst 3, 1) := by decide +kernel
theorem dL_law_1425 : decode cL_law 1425 = .ok (.iadd, 1) := by decide +kernel
theorem dL_law_1426 : decode cL_law 1426 = .ok (.iaload, 1) := by decide +kernel
theorem dL_law_1427 : decode cL_law 1427 = .ok (.invokevirtual 135, 3) := by decide +kernel
theorem kw_1243 : Cond.code yX11_seam prog_1_method_25_code 6 (some .int) ∈ uu := uu_in (i := 1243) (by decide +kernel) (by decide +kernel)
theorem kw_1240 : Cond.methodLink "LandSurveyLaw" 135 yX11_seam ∈ uu := uu_in (i := 1240) (by decide +kernel) (by decide +kernel)
theorem kw_1241 : Cond.instanceMethod yX11_seam ∈ uu := uu_in (i := 1241) (by decide +kernel) (by decide +kernel)
theorem kw_1242 : Cond.selects "LandSurvey" yX11_seam yX11_seam ∈ uu := uu_in (i := 1242) (by decide +kernel) (by decide +kernel)
theorem lk_LandSurveyLaw_135 : lkV "LandSurveyLaw" 135 yX11_seam cX11_seam 6 (some .int) 3 := ⟨kw_1240, kw_1241, kw_1242, kw_144, kw_1243, okX11_seam⟩
theorem dL_law_1430 : decode cL_law 1430 = .ok (.pop, 1) := by decide +kernel
theorem dL_law_1431 : decode cL_law 1431 = .ok (.aload_n 2, 1) := by decide +kernel
theorem dL_law_1432 : decode cL_law 1432 = .ok (.aload_n 0, 1) := by decide +kernel
theorem dL_law_1433 : decode cL_law 1433 = .ok (.iload 4, 2) := by decide +kernel
theorem dL_law_1435 : decode cL_law 1435 = .ok (.iconst 1, 1) := by decide +kernel
theorem dL_law_1436 : decode cL_law 1436 = .ok (.iadd, 1) := by decide +kernel
theorem dL_law_1437 : decode cL_law 1437 = .ok (.iaload, 1) := by decide +kernel
theorem dL_law_1438 : decode cL_law 1438 = .ok (.aload_n 0, 1) := by decide +kernel
theorem dL_law_1439 : decode cL_law 1439 = .ok (.iload 4, 2) := by decide +kernel
theorem dL_law_1441 : decode cL_law 1441 = .ok (.iconst 2, 1) := by decide +kernel
theorem dL_law_1442 : decode cL_law 1442 = .ok (.iadd, 1) := by decide +kernel
theorem dL_law_1443 : decode cL_law 1443 = .ok (.iaload, 1) := by decide +kernel
theorem dL_law_1444 : decode cL_law 1444 = .ok (.aload_n 0, 1) := by decide +kernel
theorem dL_law_1445 : decode cL_law 1445 = .ok (.iload 4, 2) := by decide +kernel
theorem dL_law_1447 : decode cL_law 1447 = .ok (.iconst 3, 1) := by decide +kernel
theorem dL_law_1448 : decode cL_law 1448 = .ok (.iadd, 1) := by decide +kernel
theorem dL_law_1449 : decode cL_law 1449 = .ok (.iaload, 1) := by decide +kernel
theorem dL_law_1450 : decode cL_law 1450 = .ok (.invokevirtual 138, 3) := by decide +kernel
theorem kw_2175 : Cond.code yX12_seam prog_14_method_107_code 6 (some .int) ∈ uu := uu_in (i := 2175) (by decide +kernel) (by decide +kernel)
theorem kw_2172 : Cond.methodLink "LandSurveyLaw" 138 yX12_seam ∈ uu := uu_in (i := 2172) (by decide +kernel) (by decide +kernel)
theorem kw_2173 : Cond.instanceMethod yX12_seam ∈ uu := uu_in (i := 2173) (by decide +kernel) (by decide +kernel)
theorem kw_2174 : Cond.selects "LandSurveyModel" yX12_seam yX12_seam ∈ uu := uu_in (i := 2174) (by decide +kernel) (by decide +kernel)
theorem lk_LandSurveyLaw_138 : lkV "LandSurveyLaw" 138 yX12_seam cX12_seam 6 (some .int) 3 := ⟨kw_2172, kw_2173, kw_2174, kw_152, kw_2175, okX12_seam⟩
theorem dL_law_1453 : decode cL_law 1453 = .ok (.pop, 1) := by decide +kernel
theorem dL_law_1454 : decode cL_law 1454 = .ok (.goto 442, 3) := by decide +kernel
set_option maxRecDepth 100000 in
set_option maxHeartbeats 8000000 in
theorem law_c12 (l : Launch) (hst : l.stackTraces = false) {p : Program} {e : Env} {s : State} {m : MethodId} {below : List Frame} {meth : Method} {c : Code} {D : va_G} {cy : Nat → ClassId} {w : Nat → Nat} {z0 b L : Nat} {xs : Nat → Int32} {h : Hp} {x : Int} {n1 n2 n3 : Nat} (C : Cx p l room_1 s m #[Value.ref b] meth c D cy z0 7 cL_law "LandSurveyLaw" w) (hr : meth.sig.returnType = ret) (hX : va_X b L xs s s.heap) (hbl : b < s.heap.size) (hbz : b < z0) (hzs : s.heap.size ≤ z0) (hL : L ≤ 4096) (fx : 0 ≤ x ∧ x ≤ 4088) (hq : x ≤ (L : Int) - 8) (O : Okh h) (tn1 : Tg h n1 = 11) (tn2 : Tg h n2 = 12) (tn3 : Tg h n3 = 99102) (ln3 : Ln h n3 = 1) (pX : XInv h n1) (pM : MInv h n2) (hT : Qask h n1 = Qm 82 h n2 ∧ ASK h n1) (IH : ∀ (h1 : Hp), Okh h1 → Tg h1 n1 = 11 → Tg h1 n2 = 12 → Tg h1 n3 = 99102 → Ln h1 n3 = 1 → XInv h1 n1 → MInv h1 n2 → Qask h1 n1 = Qm 82 h1 n2 ∧ ASK h1 n1 → GW p l e room_1 s m #[Value.ref b] below meth c D cy z0 7 (lw_Z below #[Value.ref b] s) 23 [(4, .inl (x + 8)), (3, .inr (.inr n3)), (2, .inr (.inr n2)), (1, .inr (.inr n1)), (0, .inr (.inr (b + 1)))] [] h1 (13 * (x + 8).toNat + 119) (806 * (x + 8).toNat + 52115)) : GW p l e room_1 s m #[Value.ref b] below meth c D cy z0 7 (lw_Z below #[Value.ref b] s) 956 [(4, .inl x), (3, .inr (.inr n3)), (2, .inr (.inr n2)), (1, .inr (.inr n1)), (0, .inr (.inr (b + 1)))] [] h (13 * x.toNat + 119) (806 * x.toNat + 52115) := by
  obtain ⟨F1, e2⟩ : ∃ z, Qask h n1 = z := ⟨_, rfl⟩
  have e3 : Qm 82 h n2 = F1 := (Eq.symm hT.1).trans e2
  refine g_aload_n C rfl 3 rfl dL_law_956 ?_
  refine g_aload_n C rfl 4 rfl dL_law_957 ?_
  refine g_iload C 0 rfl dL_law_958 ?_
  refine g_iconst C dL_law_960 ?_
  have f4 : (1 : Int) ≤ (x + 1) ∧ (x + 1) ≤ (4089 : Int) := ia_add fx (il 1) (by decide) (by decide)
  refine g_iadd C dL_law_961 ?_
  refine g_sld C hX hbl hbz ⟨by omega, by omega⟩ (by omega) dL_law_962 ?_
  have f5 : (-2147483648 : Int) ≤ (sx xs (x + 1)) ∧ (sx xs (x + 1)) ≤ (2147483647 : Int) := inR_of _
  refine g_callI (st := []) (gc_V C lk_LandSurveyLaw_89 (k_X11_rivalry l D cy w z0 O tn1 f5) tn1 rfl rfl rfl ⟨by decide, by decide⟩ (Nat.le_of_ble_eq_true rfl) dL_law_963 ⟨(by show _ ≤ 601024; omega), (by show _ ≤ 7293034; omega)⟩) (fun r6 h7 f9 K8 => ?_)
  obtain ⟨O10, F11, f12⟩ := K8
  refine g_pop C rfl dL_law_966 ?_
  refine g_aload_n C rfl 2 rfl dL_law_967 ?_
  refine g_aload_n C rfl 4 rfl dL_law_968 ?_
  refine g_iload C 0 rfl dL_law_969 ?_
  refine g_iconst C dL_law_971 ?_
  refine g_iadd C dL_law_972 ?_
  refine g_sld C hX hbl hbz ⟨by omega, by omega⟩ (by omega) dL_law_973 ?_
  have e13 : Tg h7 n2 = 12 := (fxT F11 tn2)
  refine g_callI (st := []) (gc_V C lk_LandSurveyLaw_92 (k_X12_rivalry l D cy w z0 O10 e13 f5) e13 rfl rfl rfl ⟨by decide, by decide⟩ (Nat.le_of_ble_eq_true rfl) dL_law_974 ⟨(by show _ ≤ 601024; omega), (by show _ ≤ 7293034; omega)⟩) (fun r14 h15 f17 K16 => ?_)
  obtain ⟨O18, F19, f20⟩ := K16
  refine g_pop C rfl dL_law_977 ?_
  refine g_goto C 1896 (by decide) dL_law_978 ?_
  have f21 : (8 : Int) ≤ (x + 8) ∧ (x + 8) ≤ (4096 : Int) := ia_add fx (il 8) (by decide) (by decide)
  refine g_iinc C [(4, .inl (x + 8)), (3, .inr (.inr n3)), (2, .inr (.inr n2)), (1, .inr (.inr n1)), (0, .inr (.inr (b + 1)))] 0 rfl (by decide) rfl dL_law_1896 ?_
  refine g_goto C 23 (by decide) dL_law_1899 ?_
  refine GW.sub [0, 1, 2, 3, 4] rfl ?_
  refine GW.widen (by omega : _ ≤ 13 * (x + 8).toNat + 119) (by omega : _ ≤ 806 * (x + 8).toNat + 52115) ?_
  have e22 : Qask h7 n1 = F1 := Eq.trans (show Qask h7 n1 = Qask h n1 from (Qask_fx O F11 tn1 rfl)) e2
  have e24 : Tg h7 n1 = 11 := (fxT F11 tn1)
  have e23 : Qask h15 n1 = F1 := Eq.trans (show Qask h15 n1 = Qask h7 n1 from (Qask_fx O10 F19 e24 rfl)) e22
  have e25 : Qm 82 h7 n2 = F1 := Eq.trans (show Qm 82 h7 n2 = Qm 82 h n2 from (mAI (j := 82) O F11 tn2 rE_12_82 ar_182101 rfl rfl)) e3
  have e26 : Qm 82 h15 n2 = F1 := Eq.trans (show Qm 82 h15 n2 = Qm 82 h7 n2 from (mAI (j := 82) O10 F19 e13 rE_12_82 ar_182101 rfl rfl)) e25
  have p27 := (ASK_fx O10 F19 e24 rfl (ASK_fx O F11 tn1 rfl hT.2))
  have p28 := (XInv_fx O10 F19 e24 rfl (XInv_fx O F11 tn1 rfl pX))
  have p29 := (MInv_fx O10 F19 e13 rfl (MInv_fx O F11 tn2 rfl pM))
  have e30 : Tg h15 n1 = 11 := (fxT F19 e24)
  have e31 : Tg h15 n2 = 12 := (fxT F19 e13)
  have e32 : Tg h15 n3 = 99102 := (fxT F19 (fxT F11 tn3))
  have e33 : Tg h7 n3 = 99102 := (fxT F11 tn3)
  have e34 : Ln h15 n3 = 1 := ((fxL F19 e33).trans ((fxL F11 tn3).trans ln3))
  exact IH _ O18 e30 e31 e32 e34 p28 p29 ⟨(e23.trans (Eq.symm e26)), p27⟩
set_option maxRecDepth 100000 in
set_option maxHeartbeats 8000000 in
theorem law_c13 (l : Launch) (hst : l.stackTraces = false) {p : Program} {e : Env} {s : State} {m : MethodId} {below : List Frame} {meth : Method} {c : Code} {D : va_G} {cy : Nat → ClassId} {w : Nat → Nat} {z0 b L : Nat} {xs : Nat → Int32} {h : Hp} {x : Int} {n1 n2 n3 : Nat} (C : Cx p l room_1 s m #[Value.ref b] meth c D cy z0 7 cL_law "LandSurveyLaw" w) (hr : meth.sig.returnType = ret) (hX : va_X b L xs s s.heap) (hbl : b < s.heap.size) (hbz : b < z0) (hzs : s.heap.size ≤ z0) (hL : L ≤ 4096) (fx : 0 ≤ x ∧ x ≤ 4088) (hq : x ≤ (L : Int) - 8) (O : Okh h) (tn1 : Tg h n1 = 11) (tn2 : Tg h n2 = 12) (tn3 : Tg h n3 = 99102) (ln3 : Ln h n3 = 1) (pX : XInv h n1) (pM : MInv h n2) (hT : Qask h n1 = Qm 82 h n2 ∧ ASK h n1) (IH : ∀ (h1 : Hp), Okh h1 → Tg h1 n1 = 11 → Tg h1 n2 = 12 → Tg h1 n3 = 99102 → Ln h1 n3 = 1 → XInv h1 n1 → MInv h1 n2 → Qask h1 n1 = Qm 82 h1 n2 ∧ ASK h1 n1 → GW p l e room_1 s m #[Value.ref b] below meth c D cy z0 7 (lw_Z below #[Value.ref b] s) 23 [(4, .inl (x + 8)), (3, .inr (.inr n3)), (2, .inr (.inr n2)), (1, .inr (.inr n1)), (0, .inr (.inr (b + 1)))] [] h1 (13 * (x + 8).toNat + 119) (806 * (x + 8).toNat + 52115)) : GW p l e room_1 s m #[Value.ref b] below meth c D cy z0 7 (lw_Z below #[Value.ref b] s) 981 [(4, .inl x), (3, .inr (.inr n3)), (2, .inr (.inr n2)), (1, .inr (.inr n1)), (0, .inr (.inr (b + 1)))] [] h (13 * x.toNat + 119) (806 * x.toNat + 52115) := by
  obtain ⟨F1, e2⟩ : ∃ z, Qask h n1 = z := ⟨_, rfl⟩
  have e3 : Qm 82 h n2 = F1 := (Eq.symm hT.1).trans e2
  refine g_aload_n C rfl 3 rfl dL_law_981 ?_
  refine g_aload_n C rfl 4 rfl dL_law_982 ?_
  refine g_iload C 0 rfl dL_law_983 ?_
  refine g_iconst C dL_law_985 ?_
  have f4 : (1 : Int) ≤ (x + 1) ∧ (x + 1) ≤ (4089 : Int) := ia_add fx (il 1) (by decide) (by decide)
  refine g_iadd C dL_law_986 ?_
  refine g_sld C hX hbl hbz ⟨by omega, by omega⟩ (by omega) dL_law_987 ?_
  have f5 : (-2147483648 : Int) ≤ (sx xs (x + 1)) ∧ (sx xs (x + 1)) ≤ (2147483647 : Int) := inR_of _
  refine g_aload_n C rfl 4 rfl dL_law_988 ?_
  refine g_iload C 0 rfl dL_law_989 ?_
  refine g_iconst C dL_law_991 ?_
  have f6 : (2 : Int) ≤ (x + 2) ∧ (x + 2) ≤ (4090 : Int) := ia_add fx (il 2) (by decide) (by decide)
  refine g_iadd C dL_law_992 ?_
  refine g_sld C hX hbl hbz ⟨by omega, by omega⟩ (by omega) dL_law_993 ?_
  have f7 : (-2147483648 : Int) ≤ (sx xs (x + 2)) ∧ (sx xs (x + 2)) ≤ (2147483647 : Int) := inR_of _
  refine g_aload_n C rfl 1 rfl dL_law_994 ?_
  refine g_callI (st := []) (gw_S C (k_L_look l hst D cy w z0 O tn1 f5 f7 tn3 ln3 pX) kw_1361 kw_1362 kw_143 kw_1363 okL_look rfl ⟨by decide, by decide⟩ (Nat.le_of_ble_eq_true rfl) dL_law_995 ⟨(by show _ ≤ 601024; omega), (by show _ ≤ 7293034; omega)⟩) (fun r8 h9 f10 K11 => ?_)
  obtain ⟨O12, F13, f14, p15⟩ := K11
  refine g_istore C [(5, .inl r8), (4, .inl x), (3, .inr (.inr n3)), (2, .inr (.inr n2)), (1, .inr (.inr n1)), (0, .inr (.inr (b + 1)))] (by decide) rfl dL_law_998 ?_
  refine g_aload_n C rfl 3 rfl dL_law_1000 ?_
  refine g_aload_n C rfl 5 rfl dL_law_1001 ?_
  refine g_iload C 1 rfl dL_law_1002 ?_
  refine g_iconst C dL_law_1004 ?_
  refine g_iadd C dL_law_1005 ?_
  refine g_sld C hX hbl hbz ⟨by omega, by omega⟩ (by omega) dL_law_1006 ?_
  refine g_aload_n C rfl 5 rfl dL_law_1007 ?_
  refine g_iload C 1 rfl dL_law_1008 ?_
  refine g_iconst C dL_law_1010 ?_
  refine g_iadd C dL_law_1011 ?_
  refine g_sld C hX hbl hbz ⟨by omega, by omega⟩ (by omega) dL_law_1012 ?_
  have e16 : Tg h9 n2 = 12 := (fxT F13 tn2)
  have p17 := (MInv_fx O F13 tn2 rfl pM)
  refine g_callI (st := []) (gc_V C lk_LandSurveyLaw_98 (k_X12_look l D cy w z0 O12 e16 f5 f7 p17) e16 rfl rfl rfl ⟨by decide, by decide⟩ (Nat.le_of_ble_eq_true rfl) dL_law_1013 ⟨(by show _ ≤ 601024; omega), (by show _ ≤ 7293034; omega)⟩) (fun r18 h19 f21 K20 => ?_)
  obtain ⟨O22, F23, f24⟩ := K20
  refine g_istore C [(6, .inl r18), (5, .inl r8), (4, .inl x), (3, .inr (.inr n3)), (2, .inr (.inr n2)), (1, .inr (.inr n1)), (0, .inr (.inr (b + 1)))] (by decide) rfl dL_law_1016 ?_
  refine g_goto C 1896 (by decide) dL_law_1018 ?_
  have f25 : (8 : Int) ≤ (x + 8) ∧ (x + 8) ≤ (4096 : Int) := ia_add fx (il 8) (by decide) (by decide)
  refine g_iinc C [(4, .inl (x + 8)), (6, .inl r18), (5, .inl r8), (3, .inr (.inr n3)), (2, .inr (.inr n2)), (1, .inr (.inr n1)), (0, .inr (.inr (b + 1)))] 2 rfl (by decide) rfl dL_law_1896 ?_
  refine g_goto C 23 (by decide) dL_law_1899 ?_
  refine GW.sub [0, 3, 4, 5, 6] rfl ?_
  refine GW.widen (by omega : _ ≤ 13 * (x + 8).toNat + 119) (by omega : _ ≤ 806 * (x + 8).toNat + 52115) ?_
  have e26 : Qask h9 n1 = F1 := Eq.trans (show Qask h9 n1 = Qask h n1 from (Qask_fx O F13 tn1 rfl)) e2
  have e28 : Tg h9 n1 = 11 := (fxT F13 tn1)
  have e27 : Qask h19 n1 = F1 := Eq.trans (show Qask h19 n1 = Qask h9 n1 from (Qask_fx O12 F23 e28 rfl)) e26
  have e29 : Qm 82 h9 n2 = F1 := Eq.trans (show Qm 82 h9 n2 = Qm 82 h n2 from (mAI (j := 82) O F13 tn2 rE_12_82 ar_182101 rfl rfl)) e3
  have e30 : Qm 82 h19 n2 = F1 := Eq.trans (show Qm 82 h19 n2 = Qm 82 h9 n2 from (mAI (j := 82) O12 F23 e16 rE_12_82 ar_182101 rfl rfl)) e29
  have p31 := (ASK_fx O12 F23 e28 rfl (ASK_fx O F13 tn1 rfl hT.2))
  have p32 := (XInv_fx O12 F23 e28 rfl p15)
  have p33 := (MInv_fx O12 F23 e16 rfl p17)
  have e34 : Tg h19 n1 = 11 := (fxT F23 e28)
  have e35 : Tg h19 n2 = 12 := (fxT F23 e16)
  have e36 : Tg h19 n3 = 99102 := (fxT F23 (fxT F13 tn3))
  have e37 : Tg h9 n3 = 99102 := (fxT F13 tn3)
  have e38 : Ln h19 n3 = 1 := ((fxL F23 e37).trans ((fxL F13 tn3).trans ln3))
  exact IH _ O22 e34 e35 e36 e38 p32 p33 ⟨(e27.trans (Eq.symm e30)), p31⟩
set_option maxRecDepth 100000 in
set_option maxHeartbeats 8000000 in
theorem law_c14 (l : Launch) (hst : l.stackTraces = false) {p : Program} {e : Env} {s : State} {m : MethodId} {below : List Frame} {meth : Method} {c : Code} {D : va_G} {cy : Nat → ClassId} {w : Nat → Nat} {z0 b L : Nat} {xs : Nat → Int32} {h : Hp} {x : Int} {n1 n2 n3 : Nat} (C : Cx p l room_1 s m #[Value.ref b] meth c D cy z0 7 cL_law "LandSurveyLaw" w) (hr : meth.sig.returnType = ret) (hX : va_X b L xs s s.heap) (hbl : b < s.heap.size) (hbz : b < z0) (hzs : s.heap.size ≤ z0) (hL : L ≤ 4096) (fx : 0 ≤ x ∧ x ≤ 4088) (hq : x ≤ (L : Int) - 8) (O : Okh h) (tn1 : Tg h n1 = 11) (tn2 : Tg h n2 = 12) (tn3 : Tg h n3 = 99102) (ln3 : Ln h n3 = 1) (pX : XInv h n1) (pM : MInv h n2) (hT : Qask h n1 = Qm 82 h n2 ∧ ASK h n1) (IH : ∀ (h1 : Hp), Okh h1 → Tg h1 n1 = 11 → Tg h1 n2 = 12 → Tg h1 n3 = 99102 → Ln h1 n3 = 1 → XInv h1 n1 → MInv h1 n2 → Qask h1 n1 = Qm 82 h1 n2 ∧ ASK h1 n1 → GW p l e room_1 s m #[Value.ref b] below meth c D cy z0 7 (lw_Z below #[Value.ref b] s) 23 [(4, .inl (x + 8)), (3, .inr (.inr n3)), (2, .inr (.inr n2)), (1, .inr (.inr n1)), (0, .inr (.inr (b + 1)))] [] h1 (13 * (x + 8).toNat + 119) (806 * (x + 8).toNat + 52115)) : GW p l e room_1 s m #[Value.ref b] below meth c D cy z0 7 (lw_Z below #[Value.ref b] s) 1021 [(4, .inl x), (3, .inr (.inr n3)), (2, .inr (.inr n2)), (1, .inr (.inr n1)), (0, .inr (.inr (b + 1)))] [] h (13 * x.toNat + 119) (806 * x.toNat + 52115) := by
  obtain ⟨F1, e2⟩ : ∃ z, Qask h n1 = z := ⟨_, rfl⟩
  have e3 : Qm 82 h n2 = F1 := (Eq.symm hT.1).trans e2
  refine g_aload_n C rfl 3 rfl dL_law_1021 ?_
  refine g_aload_n C rfl 4 rfl dL_law_1022 ?_
  refine g_iload C 0 rfl dL_law_1023 ?_
  refine g_iconst C dL_law_1025 ?_
  have f4 : (1 : Int) ≤ (x + 1) ∧ (x + 1) ≤ (4089 : Int) := ia_add fx (il 1) (by decide) (by decide)
  refine g_iadd C dL_law_1026 ?_
  refine g_sld C hX hbl hbz ⟨by omega, by omega⟩ (by omega) dL_law_1027 ?_
  have f5 : (-2147483648 : Int) ≤ (sx xs (x + 1)) ∧ (sx xs (x + 1)) ≤ (2147483647 : Int) := inR_of _
  refine g_callI (st := []) (gc_V C lk_LandSurveyLaw_99 (k_X11_cost l D cy w z0 O tn1 f5 pX) tn1 rfl rfl rfl ⟨by decide, by decide⟩ (Nat.le_of_ble_eq_true rfl) dL_law_1028 ⟨(by show _ ≤ 601024; omega), (by show _ ≤ 7293034; omega)⟩) (fun r6 h7 f9 K8 => ?_)
  obtain ⟨O10, F11, f12, p13⟩ := K8
  refine g_pop C rfl dL_law_1031 ?_
  refine g_aload_n C rfl 2 rfl dL_law_1032 ?_
  refine g_aload_n C rfl 4 rfl dL_law_1033 ?_
  refine g_iload C 0 rfl dL_law_1034 ?_
  refine g_iconst C dL_law_1036 ?_
  refine g_iadd C dL_law_1037 ?_
  refine g_sld C hX hbl hbz ⟨by omega, by omega⟩ (by omega) dL_law_1038 ?_
  have e14 : Tg h7 n2 = 12 := (fxT F11 tn2)
  have p15 := (MInv_fx O F11 tn2 rfl pM)
  refine g_callI (st := []) (gc_V C lk_LandSurveyLaw_102 (k_X12_cost l D cy w z0 O10 e14 f5 p15) e14 rfl rfl rfl ⟨by decide, by decide⟩ (Nat.le_of_ble_eq_true rfl) dL_law_1039 ⟨(by show _ ≤ 601024; omega), (by show _ ≤ 7293034; omega)⟩) (fun r16 h17 f19 K18 => ?_)
  obtain ⟨O20, F21, f22⟩ := K18
  refine g_pop C rfl dL_law_1042 ?_
  refine g_goto C 1896 (by decide) dL_law_1043 ?_
  have f23 : (8 : Int) ≤ (x + 8) ∧ (x + 8) ≤ (4096 : Int) := ia_add fx (il 8) (by decide) (by decide)
  refine g_iinc C [(4, .inl (x + 8)), (3, .inr (.inr n3)), (2, .inr (.inr n2)), (1, .inr (.inr n1)), (0, .inr (.inr (b + 1)))] 0 rfl (by decide) rfl dL_law_1896 ?_
  refine g_goto C 23 (by decide) dL_law_1899 ?_
  refine GW.sub [0, 1, 2, 3, 4] rfl ?_
  refine GW.widen (by omega : _ ≤ 13 * (x + 8).toNat + 119) (by omega : _ ≤ 806 * (x + 8).toNat + 52115) ?_
  have e24 : Qask h7 n1 = F1 := Eq.trans (show Qask h7 n1 = Qask h n1 from (Qask_fx O F11 tn1 rfl)) e2
  have e26 : Tg h7 n1 = 11 := (fxT F11 tn1)
  have e25 : Qask h17 n1 = F1 := Eq.trans (show Qask h17 n1 = Qask h7 n1 from (Qask_fx O10 F21 e26 rfl)) e24
  have e27 : Qm 82 h7 n2 = F1 := Eq.trans (show Qm 82 h7 n2 = Qm 82 h n2 from (mAI (j := 82) O F11 tn2 rE_12_82 ar_182101 rfl rfl)) e3
  have e28 : Qm 82 h17 n2 = F1 := Eq.trans (show Qm 82 h17 n2 = Qm 82 h7 n2 from (mAI (j := 82) O10 F21 e14 rE_12_82 ar_182101 rfl rfl)) e27
  have p29 := (ASK_fx O10 F21 e26 rfl (ASK_fx O F11 tn1 rfl hT.2))
  have p30 := (XInv_fx O10 F21 e26 rfl p13)
  have p31 := (MInv_fx O10 F21 e14 rfl p15)
  have e32 : Tg h17 n1 = 11 := (fxT F21 e26)
  have e33 : Tg h17 n2 = 12 := (fxT F21 e14)
  have e34 : Tg h17 n3 = 99102 := (fxT F21 (fxT F11 tn3))
  have e35 : Tg h7 n3 = 99102 := (fxT F11 tn3)
  have e36 : Ln h17 n3 = 1 := ((fxL F21 e35).trans ((fxL F11 tn3).trans ln3))
  exact IH _ O20 e32 e33 e34 e36 p30 p31 ⟨(e25.trans (Eq.symm e28)), p29⟩
set_option maxRecDepth 100000 in
set_option maxHeartbeats 8000000 in
theorem law_c15 (l : Launch) (hst : l.stackTraces = false) {p : Program} {e : Env} {s : State} {m : MethodId} {below : List Frame} {meth : Method} {c : Code} {D : va_G} {cy : Nat → ClassId} {w : Nat → Nat} {z0 b L : Nat} {xs : Nat → Int32} {h : Hp} {x : Int} {n1 n2 n3 : Nat} (C : Cx p l room_1 s m #[Value.ref b] meth c D cy z0 7 cL_law "LandSurveyLaw" w) (hr : meth.sig.returnType = ret) (hX : va_X b L xs s s.heap) (hbl : b < s.heap.size) (hbz : b < z0) (hzs : s.heap.size ≤ z0) (hL : L ≤ 4096) (fx : 0 ≤ x ∧ x ≤ 4088) (hq : x ≤ (L : Int) - 8) (O : Okh h) (tn1 : Tg h n1 = 11) (tn2 : Tg h n2 = 12) (tn3 : Tg h n3 = 99102) (ln3 : Ln h n3 = 1) (pX : XInv h n1) (pM : MInv h n2) (hT : Qask h n1 = Qm 82 h n2 ∧ ASK h n1) (IH : ∀ (h1 : Hp), Okh h1 → Tg h1 n1 = 11 → Tg h1 n2 = 12 → Tg h1 n3 = 99102 → Ln h1 n3 = 1 → XInv h1 n1 → MInv h1 n2 → Qask h1 n1 = Qm 82 h1 n2 ∧ ASK h1 n1 → GW p l e room_1 s m #[Value.ref b] below meth c D cy z0 7 (lw_Z below #[Value.ref b] s) 23 [(4, .inl (x + 8)), (3, .inr (.inr n3)), (2, .inr (.inr n2)), (1, .inr (.inr n1)), (0, .inr (.inr (b + 1)))] [] h1 (13 * (x + 8).toNat + 119) (806 * (x + 8).toNat + 52115)) : GW p l e room_1 s m #[Value.ref b] below meth c D cy z0 7 (lw_Z below #[Value.ref b] s) 1046 [(4, .inl x), (3, .inr (.inr n3)), (2, .inr (.inr n2)), (1, .inr (.inr n1)), (0, .inr (.inr (b + 1)))] [] h (13 * x.toNat + 119) (806 * x.toNat + 52115) := by
  obtain ⟨F1, e2⟩ : ∃ z, Qask h n1 = z := ⟨_, rfl⟩
  have e3 : Qm 82 h n2 = F1 := (Eq.symm hT.1).trans e2
  refine g_aload_n C rfl 3 rfl dL_law_1046 ?_
  refine g_aload_n C rfl 4 rfl dL_law_1047 ?_
  refine g_iload C 0 rfl dL_law_1048 ?_
  refine g_iconst C dL_law_1050 ?_
  have f4 : (1 : Int) ≤ (x + 1) ∧ (x + 1) ≤ (4089 : Int) := ia_add fx (il 1) (by decide) (by decide)
  refine g_iadd C dL_law_1051 ?_
  refine g_sld C hX hbl hbz ⟨by omega, by omega⟩ (by omega) dL_law_1052 ?_
  have f5 : (-2147483648 : Int) ≤ (sx xs (x + 1)) ∧ (sx xs (x + 1)) ≤ (2147483647 : Int) := inR_of _
  refine g_aload_n C rfl 4 rfl dL_law_1053 ?_
  refine g_iload C 0 rfl dL_law_1054 ?_
  refine g_iconst C dL_law_1056 ?_
  have f6 : (2 : Int) ≤ (x + 2) ∧ (x + 2) ≤ (4090 : Int) := ia_add fx (il 2) (by decide) (by decide)
  refine g_iadd C dL_law_1057 ?_
  refine g_sld C hX hbl hbz ⟨by omega, by omega⟩ (by omega) dL_law_1058 ?_
  have f7 : (-2147483648 : Int) ≤ (sx xs (x + 2)) ∧ (sx xs (x + 2)) ≤ (2147483647 : Int) := inR_of _
  refine g_callI (st := []) (gc_V C lk_LandSurveyLaw_103 (k_X11_doubted l D cy w z0 O tn1 f5 f7 pX) tn1 rfl rfl rfl ⟨by decide, by decide⟩ (Nat.le_of_ble_eq_true rfl) dL_law_1059 ⟨(by show _ ≤ 601024; omega), (by show _ ≤ 7293034; omega)⟩) (fun r8 h9 f11 K10 => ?_)
  obtain ⟨O12, F13, f14, p15⟩ := K10
  refine g_pop C rfl dL_law_1062 ?_
  refine g_aload_n C rfl 2 rfl dL_law_1063 ?_
  refine g_aload_n C rfl 4 rfl dL_law_1064 ?_
  refine g_iload C 0 rfl dL_law_1065 ?_
  refine g_iconst C dL_law_1067 ?_
  refine g_iadd C dL_law_1068 ?_
  refine g_sld C hX hbl hbz ⟨by omega, by omega⟩ (by omega) dL_law_1069 ?_
  refine g_aload_n C rfl 4 rfl dL_law_1070 ?_
  refine g_iload C 0 rfl dL_law_1071 ?_
  refine g_iconst C dL_law_1073 ?_
  refine g_iadd C dL_law_1074 ?_
  refine g_sld C hX hbl hbz ⟨by omega, by omega⟩ (by omega) dL_law_1075 ?_
  have e16 : Tg h9 n2 = 12 := (fxT F13 tn2)
  have p17 := (MInv_fx O F13 tn2 rfl pM)
  refine g_callI (st := []) (gc_V C lk_LandSurveyLaw_106 (k_X12_doubted l D cy w z0 O12 e16 f5 f7 p17) e16 rfl rfl rfl ⟨by decide, by decide⟩ (Nat.le_of_ble_eq_true rfl) dL_law_1076 ⟨(by show _ ≤ 601024; omega), (by show _ ≤ 7293034; omega)⟩) (fun r18 h19 f21 K20 => ?_)
  obtain ⟨O22, F23, f24⟩ := K20
  refine g_pop C rfl dL_law_1079 ?_
  refine g_goto C 1896 (by decide) dL_law_1080 ?_
  have f25 : (8 : Int) ≤ (x + 8) ∧ (x + 8) ≤ (4096 : Int) := ia_add fx (il 8) (by decide) (by decide)
  refine g_iinc C [(4, .inl (x + 8)), (3, .inr (.inr n3)), (2, .inr (.inr n2)), (1, .inr (.inr n1)), (0, .inr (.inr (b + 1)))] 0 rfl (by decide) rfl dL_law_1896 ?_
  refine g_goto C 23 (by decide) dL_law_1899 ?_
  refine GW.sub [0, 1, 2, 3, 4] rfl ?_
  refine GW.widen (by omega : _ ≤ 13 * (x + 8).toNat + 119) (by omega : _ ≤ 806 * (x + 8).toNat + 52115) ?_
  have e26 : Qask h9 n1 = F1 := Eq.trans (show Qask h9 n1 = Qask h n1 from (Qask_fx O F13 tn1 rfl)) e2
  have e28 : Tg h9 n1 = 11 := (fxT F13 tn1)
  have e27 : Qask h19 n1 = F1 := Eq.trans (show Qask h19 n1 = Qask h9 n1 from (Qask_fx O12 F23 e28 rfl)) e26
  have e29 : Qm 82 h9 n2 = F1 := Eq.trans (show Qm 82 h9 n2 = Qm 82 h n2 from (mAI (j := 82) O F13 tn2 rE_12_82 ar_182101 rfl rfl)) e3
  have e30 : Qm 82 h19 n2 = F1 := Eq.trans (show Qm 82 h19 n2 = Qm 82 h9 n2 from (mAI (j := 82) O12 F23 e16 rE_12_82 ar_182101 rfl rfl)) e29
  have p31 := (ASK_fx O12 F23 e28 rfl (ASK_fx O F13 tn1 rfl hT.2))
  have p32 := (XInv_fx O12 F23 e28 rfl p15)
  have p33 := (MInv_fx O12 F23 e16 rfl p17)
  have e34 : Tg h19 n1 = 11 := (fxT F23 e28)
  have e35 : Tg h19 n2 = 12 := (fxT F23 e16)
  have e36 : Tg h19 n3 = 99102 := (fxT F23 (fxT F13 tn3))
  have e37 : Tg h9 n3 = 99102 := (fxT F13 tn3)
  have e38 : Ln h19 n3 = 1 := ((fxL F23 e37).trans ((fxL F13 tn3).trans ln3))
  exact IH _ O22 e34 e35 e36 e38 p32 p33 ⟨(e27.trans (Eq.symm e30)), p31⟩
set_option maxRecDepth 100000 in
set_option maxHeartbeats 8000000 in
theorem law_c16 (l : Launch) (hst : l.stackTraces = false) {p : Program} {e : Env} {s : State} {m : MethodId} {below : List Frame} {meth : Method} {c : Code} {D : va_G} {cy : Nat → ClassId} {w : Nat → Nat} {z0 b L : Nat} {xs : Nat → Int32} {h : Hp} {x : Int} {n1 n2 n3 : Nat} (C : Cx p l room_1 s m #[Value.ref b] meth c D cy z0 7 cL_law "LandSurveyLaw" w) (hr : meth.sig.returnType = ret) (hX : va_X b L xs s s.heap) (hbl : b < s.heap.size) (hbz : b < z0) (hzs : s.heap.size ≤ z0) (hL : L ≤ 4096) (fx : 0 ≤ x ∧ x ≤ 4088) (hq : x ≤ (L : Int) - 8) (O : Okh h) (tn1 : Tg h n1 = 11) (tn2 : Tg h n2 = 12) (tn3 : Tg h n3 = 99102) (ln3 : Ln h n3 = 1) (pX : XInv h n1) (pM : MInv h n2) (hT : Qask h n1 = Qm 82 h n2 ∧ ASK h n1) (IH : ∀ (h1 : Hp), Okh h1 → Tg h1 n1 = 11 → Tg h1 n2 = 12 → Tg h1 n3 = 99102 → Ln h1 n3 = 1 → XInv h1 n1 → MInv h1 n2 → Qask h1 n1 = Qm 82 h1 n2 ∧ ASK h1 n1 → GW p l e room_1 s m #[Value.ref b] below meth c D cy z0 7 (lw_Z below #[Value.ref b] s) 23 [(4, .inl (x + 8)), (3, .inr (.inr n3)), (2, .inr (.inr n2)), (1, .inr (.inr n1)), (0, .inr (.inr (b + 1)))] [] h1 (13 * (x + 8).toNat + 119) (806 * (x + 8).toNat + 52115)) : GW p l e room_1 s m #[Value.ref b] below meth c D cy z0 7 (lw_Z below #[Value.ref b] s) 1083 [(4, .inl x), (3, .inr (.inr n3)), (2, .inr (.inr n2)), (1, .inr (.inr n1)), (0, .inr (.inr (b + 1)))] [] h (13 * x.toNat + 119) (806 * x.toNat + 52115) := by
  obtain ⟨F1, e2⟩ : ∃ z, Qask h n1 = z := ⟨_, rfl⟩
  have e3 : Qm 82 h n2 = F1 := (Eq.symm hT.1).trans e2
  refine g_aload_n C rfl 3 rfl dL_law_1083 ?_
  refine g_aload_n C rfl 4 rfl dL_law_1084 ?_
  refine g_iload C 0 rfl dL_law_1085 ?_
  refine g_iconst C dL_law_1087 ?_
  have f4 : (1 : Int) ≤ (x + 1) ∧ (x + 1) ≤ (4089 : Int) := ia_add fx (il 1) (by decide) (by decide)
  refine g_iadd C dL_law_1088 ?_
  refine g_sld C hX hbl hbz ⟨by omega, by omega⟩ (by omega) dL_law_1089 ?_
  have f5 : (-2147483648 : Int) ≤ (sx xs (x + 1)) ∧ (sx xs (x + 1)) ≤ (2147483647 : Int) := inR_of _
  refine g_callI (st := []) (gc_V C lk_LandSurveyLaw_107 (k_X11_best l D cy w z0 O tn1 f5 pX) tn1 rfl rfl rfl ⟨by decide, by decide⟩ (Nat.le_of_ble_eq_true rfl) dL_law_1090 ⟨(by show _ ≤ 601024; omega), (by show _ ≤ 7293034; omega)⟩) (fun r6 h7 f9 K8 => ?_)
  obtain ⟨O10, F11, f12, p13⟩ := K8
  refine g_pop C rfl dL_law_1093 ?_
  refine g_aload_n C rfl 2 rfl dL_law_1094 ?_
  refine g_aload_n C rfl 4 rfl dL_law_1095 ?_
  refine g_iload C 0 rfl dL_law_1096 ?_
  refine g_iconst C dL_law_1098 ?_
  refine g_iadd C dL_law_1099 ?_
  refine g_sld C hX hbl hbz ⟨by omega, by omega⟩ (by omega) dL_law_1100 ?_
  have e14 : Tg h7 n2 = 12 := (fxT F11 tn2)
  have p15 := (MInv_fx O F11 tn2 rfl pM)
  refine g_callI (st := []) (gc_V C lk_LandSurveyLaw_110 (k_X12_best l D cy w z0 O10 e14 f5 p15) e14 rfl rfl rfl ⟨by decide, by decide⟩ (Nat.le_of_ble_eq_true rfl) dL_law_1101 ⟨(by show _ ≤ 601024; omega), (by show _ ≤ 7293034; omega)⟩) (fun r16 h17 f19 K18 => ?_)
  obtain ⟨O20, F21, f22⟩ := K18
  refine g_pop C rfl dL_law_1104 ?_
  refine g_goto C 1896 (by decide) dL_law_1105 ?_
  have f23 : (8 : Int) ≤ (x + 8) ∧ (x + 8) ≤ (4096 : Int) := ia_add fx (il 8) (by decide) (by decide)
  refine g_iinc C [(4, .inl (x + 8)), (3, .inr (.inr n3)), (2, .inr (.inr n2)), (1, .inr (.inr n1)), (0, .inr (.inr (b + 1)))] 0 rfl (by decide) rfl dL_law_1896 ?_
  refine g_goto C 23 (by decide) dL_law_1899 ?_
  refine GW.sub [0, 1, 2, 3, 4] rfl ?_
  refine GW.widen (by omega : _ ≤ 13 * (x + 8).toNat + 119) (by omega : _ ≤ 806 * (x + 8).toNat + 52115) ?_
  have e24 : Qask h7 n1 = F1 := Eq.trans (show Qask h7 n1 = Qask h n1 from (Qask_fx O F11 tn1 rfl)) e2
  have e26 : Tg h7 n1 = 11 := (fxT F11 tn1)
  have e25 : Qask h17 n1 = F1 := Eq.trans (show Qask h17 n1 = Qask h7 n1 from (Qask_fx O10 F21 e26 rfl)) e24
  have e27 : Qm 82 h7 n2 = F1 := Eq.trans (show Qm 82 h7 n2 = Qm 82 h n2 from (mAI (j := 82) O F11 tn2 rE_12_82 ar_182101 rfl rfl)) e3
  have e28 : Qm 82 h17 n2 = F1 := Eq.trans (show Qm 82 h17 n2 = Qm 82 h7 n2 from (mAI (j := 82) O10 F21 e14 rE_12_82 ar_182101 rfl rfl)) e27
  have p29 := (ASK_fx O10 F21 e26 rfl (ASK_fx O F11 tn1 rfl hT.2))
  have p30 := (XInv_fx O10 F21 e26 rfl p13)
  have p31 := (MInv_fx O10 F21 e14 rfl p15)
  have e32 : Tg h17 n1 = 11 := (fxT F21 e26)
  have e33 : Tg h17 n2 = 12 := (fxT F21 e14)
  have e34 : Tg h17 n3 = 99102 := (fxT F21 (fxT F11 tn3))
  have e35 : Tg h7 n3 = 99102 := (fxT F11 tn3)
  have e36 : Ln h17 n3 = 1 := ((fxL F21 e35).trans ((fxL F11 tn3).trans ln3))
  exact IH _ O20 e32 e33 e34 e36 p30 p31 ⟨(e25.trans (Eq.symm e28)), p29⟩
set_option maxRecDepth 100000 in
set_option maxHeartbeats 8000000 in
theorem law_c17 (l : Launch) (hst : l.stackTraces = false) {p : Program} {e : Env} {s : State} {m : MethodId} {below : List Frame} {meth : Method} {c : Code} {D : va_G} {cy : Nat → ClassId} {w : Nat → Nat} {z0 b L : Nat} {xs : Nat → Int32} {h : Hp} {x : Int} {n1 n2 n3 : Nat} (C : Cx p l room_1 s m #[Value.ref b] meth c D cy z0 7 cL_law "LandSurveyLaw" w) (hr : meth.sig.returnType = ret) (hX : va_X b L xs s s.heap) (hbl : b < s.heap.size) (hbz : b < z0) (hzs : s.heap.size ≤ z0) (hL : L ≤ 4096) (fx : 0 ≤ x ∧ x ≤ 4088) (hq : x ≤ (L : Int) - 8) (O : Okh h) (tn1 : Tg h n1 = 11) (tn2 : Tg h n2 = 12) (tn3 : Tg h n3 = 99102) (ln3 : Ln h n3 = 1) (pX : XInv h n1) (pM : MInv h n2) (hT : Qask h n1 = Qm 82 h n2 ∧ ASK h n1) (IH : ∀ (h1 : Hp), Okh h1 → Tg h1 n1 = 11 → Tg h1 n2 = 12 → Tg h1 n3 = 99102 → Ln h1 n3 = 1 → XInv h1 n1 → MInv h1 n2 → Qask h1 n1 = Qm 82 h1 n2 ∧ ASK h1 n1 → GW p l e room_1 s m #[Value.ref b] below meth c D cy z0 7 (lw_Z below #[Value.ref b] s) 23 [(4, .inl (x + 8)), (3, .inr (.inr n3)), (2, .inr (.inr n2)), (1, .inr (.inr n1)), (0, .inr (.inr (b + 1)))] [] h1 (13 * (x + 8).toNat + 119) (806 * (x + 8).toNat + 52115)) : GW p l e room_1 s m #[Value.ref b] below meth c D cy z0 7 (lw_Z below #[Value.ref b] s) 1108 [(4, .inl x), (3, .inr (.inr n3)), (2, .inr (.inr n2)), (1, .inr (.inr n1)), (0, .inr (.inr (b + 1)))] [] h (13 * x.toNat + 119) (806 * x.toNat + 52115) := by
  obtain ⟨F1, e2⟩ : ∃ z, Qask h n1 = z := ⟨_, rfl⟩
  have e3 : Qm 82 h n2 = F1 := (Eq.symm hT.1).trans e2
  refine g_aload_n C rfl 3 rfl dL_law_1108 ?_
  refine g_aload_n C rfl 4 rfl dL_law_1109 ?_
  refine g_iload C 0 rfl dL_law_1110 ?_
  refine g_iconst C dL_law_1112 ?_
  have f4 : (1 : Int) ≤ (x + 1) ∧ (x + 1) ≤ (4089 : Int) := ia_add fx (il 1) (by decide) (by decide)
  refine g_iadd C dL_law_1113 ?_
  refine g_sld C hX hbl hbz ⟨by omega, by omega⟩ (by omega) dL_law_1114 ?_
  have f5 : (-2147483648 : Int) ≤ (sx xs (x + 1)) ∧ (sx xs (x + 1)) ≤ (2147483647 : Int) := inR_of _
  refine g_callI (st := []) (gc_V C lk_LandSurveyLaw_111 (k_X11_kept l D cy w z0 O tn1 f5 pX) tn1 rfl rfl rfl ⟨by decide, by decide⟩ (Nat.le_of_ble_eq_true rfl) dL_law_1115 ⟨(by show _ ≤ 601024; omega), (by show _ ≤ 7293034; omega)⟩) (fun r6 h7 f9 K8 => ?_)
  obtain ⟨O10, F11, f12, p13⟩ := K8
  refine g_pop C rfl dL_law_1118 ?_
  refine g_aload_n C rfl 2 rfl dL_law_1119 ?_
  refine g_aload_n C rfl 4 rfl dL_law_1120 ?_
  refine g_iload C 0 rfl dL_law_1121 ?_
  refine g_iconst C dL_law_1123 ?_
  refine g_iadd C dL_law_1124 ?_
  refine g_sld C hX hbl hbz ⟨by omega, by omega⟩ (by omega) dL_law_1125 ?_
  have e14 : Tg h7 n2 = 12 := (fxT F11 tn2)
  have p15 := (MInv_fx O F11 tn2 rfl pM)
  refine g_callI (st := []) (gc_V C lk_LandSurveyLaw_114 (k_X12_kept l D cy w z0 O10 e14 f5 p15) e14 rfl rfl rfl ⟨by decide, by decide⟩ (Nat.le_of_ble_eq_true rfl) dL_law_1126 ⟨(by show _ ≤ 601024; omega), (by show _ ≤ 7293034; omega)⟩) (fun r16 h17 f19 K18 => ?_)
  obtain ⟨O20, F21, f22⟩ := K18
  refine g_pop C rfl dL_law_1129 ?_
  refine g_goto C 1896 (by decide) dL_law_1130 ?_
  have f23 : (8 : Int) ≤ (x + 8) ∧ (x + 8) ≤ (4096 : Int) := ia_add fx (il 8) (by decide) (by decide)
  refine g_iinc C [(4, .inl (x + 8)), (3, .inr (.inr n3)), (2, .inr (.inr n2)), (1, .inr (.inr n1)), (0, .inr (.inr (b + 1)))] 0 rfl (by decide) rfl dL_law_1896 ?_
  refine g_goto C 23 (by decide) dL_law_1899 ?_
  refine GW.sub [0, 1, 2, 3, 4] rfl ?_
  refine GW.widen (by omega : _ ≤ 13 * (x + 8).toNat + 119) (by omega : _ ≤ 806 * (x + 8).toNat + 52115) ?_
  have e24 : Qask h7 n1 = F1 := Eq.trans (show Qask h7 n1 = Qask h n1 from (Qask_fx O F11 tn1 rfl)) e2
  have e26 : Tg h7 n1 = 11 := (fxT F11 tn1)
  have e25 : Qask h17 n1 = F1 := Eq.trans (show Qask h17 n1 = Qask h7 n1 from (Qask_fx O10 F21 e26 rfl)) e24
  have e27 : Qm 82 h7 n2 = F1 := Eq.trans (show Qm 82 h7 n2 = Qm 82 h n2 from (mAI (j := 82) O F11 tn2 rE_12_82 ar_182101 rfl rfl)) e3
  have e28 : Qm 82 h17 n2 = F1 := Eq.trans (show Qm 82 h17 n2 = Qm 82 h7 n2 from (mAI (j := 82) O10 F21 e14 rE_12_82 ar_182101 rfl rfl)) e27
  have p29 := (ASK_fx O10 F21 e26 rfl (ASK_fx O F11 tn1 rfl hT.2))
  have p30 := (XInv_fx O10 F21 e26 rfl p13)
  have p31 := (MInv_fx O10 F21 e14 rfl p15)
  have e32 : Tg h17 n1 = 11 := (fxT F21 e26)
  have e33 : Tg h17 n2 = 12 := (fxT F21 e14)
  have e34 : Tg h17 n3 = 99102 := (fxT F21 (fxT F11 tn3))
  have e35 : Tg h7 n3 = 99102 := (fxT F11 tn3)
  have e36 : Ln h17 n3 = 1 := ((fxL F21 e35).trans ((fxL F11 tn3).trans ln3))
  exact IH _ O20 e32 e33 e34 e36 p30 p31 ⟨(e25.trans (Eq.symm e28)), p29⟩
set_option maxRecDepth 100000 in
set_option maxHeartbeats 8000000 in
theorem law_c18 (l : Launch) (hst : l.stackTraces = false) {p : Program} {e : Env} {s : State} {m : MethodId} {below : List Frame} {meth : Method} {c : Code} {D : va_G} {cy : Nat → ClassId} {w : Nat → Nat} {z0 b L : Nat} {xs : Nat → Int32} {h : Hp} {x : Int} {n1 n2 n3 : Nat} (C : Cx p l room_1 s m #[Value.ref b] meth c D cy z0 7 cL_law "LandSurveyLaw" w) (hr : meth.sig.returnType = ret) (hX : va_X b L xs s s.heap) (hbl : b < s.heap.size) (hbz : b < z0) (hzs : s.heap.size ≤ z0) (hL : L ≤ 4096) (fx : 0 ≤ x ∧ x ≤ 4088) (hq : x ≤ (L : Int) - 8) (O : Okh h) (tn1 : Tg h n1 = 11) (tn2 : Tg h n2 = 12) (tn3 : Tg h n3 = 99102) (ln3 : Ln h n3 = 1) (pX : XInv h n1) (pM : MInv h n2) (hT : Qask h n1 = Qm 82 h n2 ∧ ASK h n1) (IH : ∀ (h1 : Hp), Okh h1 → Tg h1 n1 = 11 → Tg h1 n2 = 12 → Tg h1 n3 = 99102 → Ln h1 n3 = 1 → XInv h1 n1 → MInv h1 n2 → Qask h1 n1 = Qm 82 h1 n2 ∧ ASK h1 n1 → GW p l e room_1 s m #[Value.ref b] below meth c D cy z0 7 (lw_Z below #[Value.ref b] s) 23 [(4, .inl (x + 8)), (3, .inr (.inr n3)), (2, .inr (.inr n2)), (1, .inr (.inr n1)), (0, .inr (.inr (b + 1)))] [] h1 (13 * (x + 8).toNat + 119) (806 * (x + 8).toNat + 52115)) : GW p l e room_1 s m #[Value.ref b] below meth c D cy z0 7 (lw_Z below #[Value.ref b] s) 1133 [(4, .inl x), (3, .inr (.inr n3)), (2, .inr (.inr n2)), (1, .inr (.inr n1)), (0, .inr (.inr (b + 1)))] [] h (13 * x.toNat + 119) (806 * x.toNat + 52115) := by
  obtain ⟨F1, e2⟩ : ∃ z, Qask h n1 = z := ⟨_, rfl⟩
  have e3 : Qm 82 h n2 = F1 := (Eq.symm hT.1).trans e2
  refine g_aload_n C rfl 3 rfl dL_law_1133 ?_
  refine g_aload_n C rfl 4 rfl dL_law_1134 ?_
  refine g_iload C 0 rfl dL_law_1135 ?_
  refine g_iconst C dL_law_1137 ?_
  have f4 : (1 : Int) ≤ (x + 1) ∧ (x + 1) ≤ (4089 : Int) := ia_add fx (il 1) (by decide) (by decide)
  refine g_iadd C dL_law_1138 ?_
  refine g_sld C hX hbl hbz ⟨by omega, by omega⟩ (by omega) dL_law_1139 ?_
  have f5 : (-2147483648 : Int) ≤ (sx xs (x + 1)) ∧ (sx xs (x + 1)) ≤ (2147483647 : Int) := inR_of _
  refine g_aload_n C rfl 4 rfl dL_law_1140 ?_
  refine g_iload C 0 rfl dL_law_1141 ?_
  refine g_iconst C dL_law_1143 ?_
  have f6 : (2 : Int) ≤ (x + 2) ∧ (x + 2) ≤ (4090 : Int) := ia_add fx (il 2) (by decide) (by decide)
  refine g_iadd C dL_law_1144 ?_
  refine g_sld C hX hbl hbz ⟨by omega, by omega⟩ (by omega) dL_law_1145 ?_
  have f7 : (-2147483648 : Int) ≤ (sx xs (x + 2)) ∧ (sx xs (x + 2)) ≤ (2147483647 : Int) := inR_of _
  refine g_aload_n C rfl 4 rfl dL_law_1146 ?_
  refine g_iload C 0 rfl dL_law_1147 ?_
  refine g_iconst C dL_law_1149 ?_
  have f8 : (3 : Int) ≤ (x + 3) ∧ (x + 3) ≤ (4091 : Int) := ia_add fx (il 3) (by decide) (by decide)
  refine g_iadd C dL_law_1150 ?_
  refine g_sld C hX hbl hbz ⟨by omega, by omega⟩ (by omega) dL_law_1151 ?_
  have f9 : (-2147483648 : Int) ≤ (sx xs (x + 3)) ∧ (sx xs (x + 3)) ≤ (2147483647 : Int) := inR_of _
  refine g_aload_n C rfl 4 rfl dL_law_1152 ?_
  refine g_iload C 0 rfl dL_law_1153 ?_
  refine g_iconst C dL_law_1155 ?_
  have f10 : (4 : Int) ≤ (x + 4) ∧ (x + 4) ≤ (4092 : Int) := ia_add fx (il 4) (by decide) (by decide)
  refine g_iadd C dL_law_1156 ?_
  refine g_sld C hX hbl hbz ⟨by omega, by omega⟩ (by omega) dL_law_1157 ?_
  have f11 : (-2147483648 : Int) ≤ (sx xs (x + 4)) ∧ (sx xs (x + 4)) ≤ (2147483647 : Int) := inR_of _
  refine g_aload_n C rfl 1 rfl dL_law_1158 ?_
  refine g_callI (st := []) (gw_S C (k_L_base l hst D cy w z0 O tn1 f5 f7 f9 f11 tn3 ln3 pX) kw_1434 kw_1435 kw_143 kw_1436 okL_base rfl ⟨by decide, by decide⟩ (Nat.le_of_ble_eq_true rfl) dL_law_1159 ⟨(by show _ ≤ 601024; omega), (by show _ ≤ 7293034; omega)⟩) (fun r12 h13 f14 K15 => ?_)
  obtain ⟨O16, F17, f18, p19⟩ := K15
  refine g_istore C [(5, .inl r12), (4, .inl x), (3, .inr (.inr n3)), (2, .inr (.inr n2)), (1, .inr (.inr n1)), (0, .inr (.inr (b + 1)))] (by decide) rfl dL_law_1162 ?_
  refine g_aload_n C rfl 3 rfl dL_law_1164 ?_
  refine g_aload_n C rfl 5 rfl dL_law_1165 ?_
  refine g_iload C 1 rfl dL_law_1166 ?_
  refine g_iconst C dL_law_1168 ?_
  refine g_iadd C dL_law_1169 ?_
  refine g_sld C hX hbl hbz ⟨by omega, by omega⟩ (by omega) dL_law_1170 ?_
  refine g_aload_n C rfl 5 rfl dL_law_1171 ?_
  refine g_iload C 1 rfl dL_law_1172 ?_
  refine g_iconst C dL_law_1174 ?_
  refine g_iadd C dL_law_1175 ?_
  refine g_sld C hX hbl hbz ⟨by omega, by omega⟩ (by omega) dL_law_1176 ?_
  refine g_aload_n C rfl 5 rfl dL_law_1177 ?_
  refine g_iload C 1 rfl dL_law_1178 ?_
  refine g_iconst C dL_law_1180 ?_
  refine g_iadd C dL_law_1181 ?_
  refine g_sld C hX hbl hbz ⟨by omega, by omega⟩ (by omega) dL_law_1182 ?_
  refine g_aload_n C rfl 5 rfl dL_law_1183 ?_
  refine g_iload C 1 rfl dL_law_1184 ?_
  refine g_iconst C dL_law_1186 ?_
  refine g_iadd C dL_law_1187 ?_
  refine g_sld C hX hbl hbz ⟨by omega, by omega⟩ (by omega) dL_law_1188 ?_
  have e20 : Tg h13 n2 = 12 := (fxT F17 tn2)
  have p21 := (MInv_fx O F17 tn2 rfl pM)
  refine g_callI (st := []) (gc_V C lk_LandSurveyLaw_118 (k_X12_base l D cy w z0 O16 e20 f5 f7 f9 f11 p21) e20 rfl rfl rfl ⟨by decide, by decide⟩ (Nat.le_of_ble_eq_true rfl) dL_law_1189 ⟨(by show _ ≤ 601024; omega), (by show _ ≤ 7293034; omega)⟩) (fun r22 h23 f25 K24 => ?_)
  obtain ⟨O26, F27, f28⟩ := K24
  refine g_istore C [(6, .inl r22), (5, .inl r12), (4, .inl x), (3, .inr (.inr n3)), (2, .inr (.inr n2)), (1, .inr (.inr n1)), (0, .inr (.inr (b + 1)))] (by decide) rfl dL_law_1192 ?_
  refine g_goto C 1896 (by decide) dL_law_1194 ?_
  have f29 : (8 : Int) ≤ (x + 8) ∧ (x + 8) ≤ (4096 : Int) := ia_add fx (il 8) (by decide) (by decide)
  refine g_iinc C [(4, .inl (x + 8)), (6, .inl r22), (5, .inl r12), (3, .inr (.inr n3)), (2, .inr (.inr n2)), (1, .inr (.inr n1)), (0, .inr (.inr (b + 1)))] 2 rfl (by decide) rfl dL_law_1896 ?_
  refine g_goto C 23 (by decide) dL_law_1899 ?_
  refine GW.sub [0, 3, 4, 5, 6] rfl ?_
  refine GW.widen (by omega : _ ≤ 13 * (x + 8).toNat + 119) (by omega : _ ≤ 806 * (x + 8).toNat + 52115) ?_
  have e30 : Qask h13 n1 = F1 := Eq.trans (show Qask h13 n1 = Qask h n1 from (Qask_fx O F17 tn1 rfl)) e2
  have e32 : Tg h13 n1 = 11 := (fxT F17 tn1)
  have e31 : Qask h23 n1 = F1 := Eq.trans (show Qask h23 n1 = Qask h13 n1 from (Qask_fx O16 F27 e32 rfl)) e30
  have e33 : Qm 82 h13 n2 = F1 := Eq.trans (show Qm 82 h13 n2 = Qm 82 h n2 from (mAI (j := 82) O F17 tn2 rE_12_82 ar_182101 rfl rfl)) e3
  have e34 : Qm 82 h23 n2 = F1 := Eq.trans (show Qm 82 h23 n2 = Qm 82 h13 n2 from (mAI (j := 82) O16 F27 e20 rE_12_82 ar_182101 rfl rfl)) e33
  have p35 := (ASK_fx O16 F27 e32 rfl (ASK_fx O F17 tn1 rfl hT.2))
  have p36 := (XInv_fx O16 F27 e32 rfl p19)
  have p37 := (MInv_fx O16 F27 e20 rfl p21)
  have e38 : Tg h23 n1 = 11 := (fxT F27 e32)
  have e39 : Tg h23 n2 = 12 := (fxT F27 e20)
  have e40 : Tg h23 n3 = 99102 := (fxT F27 (fxT F17 tn3))
  have e41 : Tg h13 n3 = 99102 := (fxT F17 tn3)
  have e42 : Ln h23 n3 = 1 := ((fxL F27 e41).trans ((fxL F17 tn3).trans ln3))
  exact IH _ O26 e38 e39 e40 e42 p36 p37 ⟨(e31.trans (Eq.symm e34)), p35⟩
set_option maxRecDepth 100000 in
set_option maxHeartbeats 8000000 in
theorem law_c19 (l : Launch) (hst : l.stackTraces = false) {p : Program} {e : Env} {s : State} {m : MethodId} {below : List Frame} {meth : Method} {c : Code} {D : va_G} {cy : Nat → ClassId} {w : Nat → Nat} {z0 b L : Nat} {xs : Nat → Int32} {h : Hp} {x : Int} {n1 n2 n3 : Nat} (C : Cx p l room_1 s m #[Value.ref b] meth c D cy z0 7 cL_law "LandSurveyLaw" w) (hr : meth.sig.returnType = ret) (hX : va_X b L xs s s.heap) (hbl : b < s.heap.size) (hbz : b < z0) (hzs : s.heap.size ≤ z0) (hL : L ≤ 4096) (fx : 0 ≤ x ∧ x ≤ 4088) (hq : x ≤ (L : Int) - 8) (O : Okh h) (tn1 : Tg h n1 = 11) (tn2 : Tg h n2 = 12) (tn3 : Tg h n3 = 99102) (ln3 : Ln h n3 = 1) (pX : XInv h n1) (pM : MInv h n2) (hT : Qask h n1 = Qm 82 h n2 ∧ ASK h n1) (IH : ∀ (h1 : Hp), Okh h1 → Tg h1 n1 = 11 → Tg h1 n2 = 12 → Tg h1 n3 = 99102 → Ln h1 n3 = 1 → XInv h1 n1 → MInv h1 n2 → Qask h1 n1 = Qm 82 h1 n2 ∧ ASK h1 n1 → GW p l e room_1 s m #[Value.ref b] below meth c D cy z0 7 (lw_Z below #[Value.ref b] s) 23 [(4, .inl (x + 8)), (3, .inr (.inr n3)), (2, .inr (.inr n2)), (1, .inr (.inr n1)), (0, .inr (.inr (b + 1)))] [] h1 (13 * (x + 8).toNat + 119) (806 * (x + 8).toNat + 52115)) : GW p l e room_1 s m #[Value.ref b] below meth c D cy z0 7 (lw_Z below #[Value.ref b] s) 1197 [(4, .inl x), (3, .inr (.inr n3)), (2, .inr (.inr n2)), (1, .inr (.inr n1)), (0, .inr (.inr (b + 1)))] [] h (13 * x.toNat + 119) (806 * x.toNat + 52115) := by
  obtain ⟨F1, e2⟩ : ∃ z, Qask h n1 = z := ⟨_, rfl⟩
  have e3 : Qm 82 h n2 = F1 := (Eq.symm hT.1).trans e2
  refine g_aload_n C rfl 3 rfl dL_law_1197 ?_
  refine g_aload_n C rfl 4 rfl dL_law_1198 ?_
  refine g_iload C 0 rfl dL_law_1199 ?_
  refine g_iconst C dL_law_1201 ?_
  have f4 : (1 : Int) ≤ (x + 1) ∧ (x + 1) ≤ (4089 : Int) := ia_add fx (il 1) (by decide) (by decide)
  refine g_iadd C dL_law_1202 ?_
  refine g_sld C hX hbl hbz ⟨by omega, by omega⟩ (by omega) dL_law_1203 ?_
  have f5 : (-2147483648 : Int) ≤ (sx xs (x + 1)) ∧ (sx xs (x + 1)) ≤ (2147483647 : Int) := inR_of _
  refine g_aload_n C rfl 4 rfl dL_law_1204 ?_
  refine g_iload C 0 rfl dL_law_1205 ?_
  refine g_iconst C dL_law_1207 ?_
  have f6 : (2 : Int) ≤ (x + 2) ∧ (x + 2) ≤ (4090 : Int) := ia_add fx (il 2) (by decide) (by decide)
  refine g_iadd C dL_law_1208 ?_
  refine g_sld C hX hbl hbz ⟨by omega, by omega⟩ (by omega) dL_law_1209 ?_
  have f7 : (-2147483648 : Int) ≤ (sx xs (x + 2)) ∧ (sx xs (x + 2)) ≤ (2147483647 : Int) := inR_of _
  refine g_aload_n C rfl 4 rfl dL_law_1210 ?_
  refine g_iload C 0 rfl dL_law_1211 ?_
  refine g_iconst C dL_law_1213 ?_
  have f8 : (3 : Int) ≤ (x + 3) ∧ (x + 3) ≤ (4091 : Int) := ia_add fx (il 3) (by decide) (by decide)
  refine g_iadd C dL_law_1214 ?_
  refine g_sld C hX hbl hbz ⟨by omega, by omega⟩ (by omega) dL_law_1215 ?_
  have f9 : (-2147483648 : Int) ≤ (sx xs (x + 3)) ∧ (sx xs (x + 3)) ≤ (2147483647 : Int) := inR_of _
  refine g_callI (st := []) (gc_V C lk_LandSurveyLaw_119 (k_X11_lies l D cy w z0 O tn1 f5 f7 f9 pX) tn1 rfl rfl rfl ⟨by decide, by decide⟩ (Nat.le_of_ble_eq_true rfl) dL_law_1216 ⟨(by show _ ≤ 601024; omega), (by show _ ≤ 7293034; omega)⟩) (fun r10 h11 f13 K12 => ?_)
  obtain ⟨O14, F15, f16, p17⟩ := K12
  refine g_pop C rfl dL_law_1219 ?_
  refine g_aload_n C rfl 2 rfl dL_law_1220 ?_
  refine g_aload_n C rfl 4 rfl dL_law_1221 ?_
  refine g_iload C 0 rfl dL_law_1222 ?_
  refine g_iconst C dL_law_1224 ?_
  refine g_iadd C dL_law_1225 ?_
  refine g_sld C hX hbl hbz ⟨by omega, by omega⟩ (by omega) dL_law_1226 ?_
  refine g_aload_n C rfl 4 rfl dL_law_1227 ?_
  refine g_iload C 0 rfl dL_law_1228 ?_
  refine g_iconst C dL_law_1230 ?_
  refine g_iadd C dL_law_1231 ?_
  refine g_sld C hX hbl hbz ⟨by omega, by omega⟩ (by omega) dL_law_1232 ?_
  refine g_aload_n C rfl 4 rfl dL_law_1233 ?_
  refine g_iload C 0 rfl dL_law_1234 ?_
  refine g_iconst C dL_law_1236 ?_
  refine g_iadd C dL_law_1237 ?_
  refine g_sld C hX hbl hbz ⟨by omega, by omega⟩ (by omega) dL_law_1238 ?_
  have e18 : Tg h11 n2 = 12 := (fxT F15 tn2)
  have p19 := (MInv_fx O F15 tn2 rfl pM)
  refine g_callI (st := []) (gc_V C lk_LandSurveyLaw_123 (k_X12_lies l D cy w z0 O14 e18 f5 f7 f9 p19) e18 rfl rfl rfl ⟨by decide, by decide⟩ (Nat.le_of_ble_eq_true rfl) dL_law_1239 ⟨(by show _ ≤ 601024; omega), (by show _ ≤ 7293034; omega)⟩) (fun r20 h21 f23 K22 => ?_)
  obtain ⟨O24, F25, f26⟩ := K22
  refine g_pop C rfl dL_law_1242 ?_
  refine g_goto C 1896 (by decide) dL_law_1243 ?_
  have f27 : (8 : Int) ≤ (x + 8) ∧ (x + 8) ≤ (4096 : Int) := ia_add fx (il 8) (by decide) (by decide)
  refine g_iinc C [(4, .inl (x + 8)), (3, .inr (.inr n3)), (2, .inr (.inr n2)), (1, .inr (.inr n1)), (0, .inr (.inr (b + 1)))] 0 rfl (by decide) rfl dL_law_1896 ?_
  refine g_goto C 23 (by decide) dL_law_1899 ?_
  refine GW.sub [0, 1, 2, 3, 4] rfl ?_
  refine GW.widen (by omega : _ ≤ 13 * (x + 8).toNat + 119) (by omega : _ ≤ 806 * (x + 8).toNat + 52115) ?_
  have e28 : Qask h11 n1 = F1 := Eq.trans (show Qask h11 n1 = Qask h n1 from (Qask_fx O F15 tn1 rfl)) e2
  have e30 : Tg h11 n1 = 11 := (fxT F15 tn1)
  have e29 : Qask h21 n1 = F1 := Eq.trans (show Qask h21 n1 = Qask h11 n1 from (Qask_fx O14 F25 e30 rfl)) e28
  have e31 : Qm 82 h11 n2 = F1 := Eq.trans (show Qm 82 h11 n2 = Qm 82 h n2 from (mAI (j := 82) O F15 tn2 rE_12_82 ar_182101 rfl rfl)) e3
  have e32 : Qm 82 h21 n2 = F1 := Eq.trans (show Qm 82 h21 n2 = Qm 82 h11 n2 from (mAI (j := 82) O14 F25 e18 rE_12_82 ar_182101 rfl rfl)) e31
  have p33 := (ASK_fx O14 F25 e30 rfl (ASK_fx O F15 tn1 rfl hT.2))
  have p34 := (XInv_fx O14 F25 e30 rfl p17)
  have p35 := (MInv_fx O14 F25 e18 rfl p19)
  have e36 : Tg h21 n1 = 11 := (fxT F25 e30)
  have e37 : Tg h21 n2 = 12 := (fxT F25 e18)
  have e38 : Tg h21 n3 = 99102 := (fxT F25 (fxT F15 tn3))
  have e39 : Tg h11 n3 = 99102 := (fxT F15 tn3)
  have e40 : Ln h21 n3 = 1 := ((fxL F25 e39).trans ((fxL F15 tn3).trans ln3))
  exact IH _ O24 e36 e37 e38 e40 p34 p35 ⟨(e29.trans (Eq.symm e32)), p33⟩
set_option maxRecDepth 100000 in
set_option maxHeartbeats 8000000 in
theorem law_c20 (l : Launch) (hst : l.stackTraces = false) {p : Program} {e : Env} {s : State} {m : MethodId} {below : List Frame} {meth : Method} {c : Code} {D : va_G} {cy : Nat → ClassId} {w : Nat → Nat} {z0 b L : Nat} {xs : Nat → Int32} {h : Hp} {x : Int} {n1 n2 n3 : Nat} (C : Cx p l room_1 s m #[Value.ref b] meth c D cy z0 7 cL_law "LandSurveyLaw" w) (hr : meth.sig.returnType = ret) (hX : va_X b L xs s s.heap) (hbl : b < s.heap.size) (hbz : b < z0) (hzs : s.heap.size ≤ z0) (hL : L ≤ 4096) (fx : 0 ≤ x ∧ x ≤ 4088) (hq : x ≤ (L : Int) - 8) (O : Okh h) (tn1 : Tg h n1 = 11) (tn2 : Tg h n2 = 12) (tn3 : Tg h n3 = 99102) (ln3 : Ln h n3 = 1) (pX : XInv h n1) (pM : MInv h n2) (hT : Qask h n1 = Qm 82 h n2 ∧ ASK h n1) (IH : ∀ (h1 : Hp), Okh h1 → Tg h1 n1 = 11 → Tg h1 n2 = 12 → Tg h1 n3 = 99102 → Ln h1 n3 = 1 → XInv h1 n1 → MInv h1 n2 → Qask h1 n1 = Qm 82 h1 n2 ∧ ASK h1 n1 → GW p l e room_1 s m #[Value.ref b] below meth c D cy z0 7 (lw_Z below #[Value.ref b] s) 23 [(4, .inl (x + 8)), (3, .inr (.inr n3)), (2, .inr (.inr n2)), (1, .inr (.inr n1)), (0, .inr (.inr (b + 1)))] [] h1 (13 * (x + 8).toNat + 119) (806 * (x + 8).toNat + 52115)) : GW p l e room_1 s m #[Value.ref b] below meth c D cy z0 7 (lw_Z below #[Value.ref b] s) 1246 [(4, .inl x), (3, .inr (.inr n3)), (2, .inr (.inr n2)), (1, .inr (.inr n1)), (0, .inr (.inr (b + 1)))] [] h (13 * x.toNat + 119) (806 * x.toNat + 52115) := by
  obtain ⟨F1, e2⟩ : ∃ z, Qask h n1 = z := ⟨_, rfl⟩
  have e3 : Qm 82 h n2 = F1 := (Eq.symm hT.1).trans e2
  refine g_aload_n C rfl 3 rfl dL_law_1246 ?_
  refine g_aload_n C rfl 4 rfl dL_law_1247 ?_
  refine g_iload C 0 rfl dL_law_1248 ?_
  refine g_iconst C dL_law_1250 ?_
  have f4 : (1 : Int) ≤ (x + 1) ∧ (x + 1) ≤ (4089 : Int) := ia_add fx (il 1) (by decide) (by decide)
  refine g_iadd C dL_law_1251 ?_
  refine g_sld C hX hbl hbz ⟨by omega, by omega⟩ (by omega) dL_law_1252 ?_
  have f5 : (-2147483648 : Int) ≤ (sx xs (x + 1)) ∧ (sx xs (x + 1)) ≤ (2147483647 : Int) := inR_of _
  refine g_aload_n C rfl 4 rfl dL_law_1253 ?_
  refine g_iload C 0 rfl dL_law_1254 ?_
  refine g_iconst C dL_law_1256 ?_
  have f6 : (2 : Int) ≤ (x + 2) ∧ (x + 2) ≤ (4090 : Int) := ia_add fx (il 2) (by decide) (by decide)
  refine g_iadd C dL_law_1257 ?_
  refine g_sld C hX hbl hbz ⟨by omega, by omega⟩ (by omega) dL_law_1258 ?_
  have f7 : (-2147483648 : Int) ≤ (sx xs (x + 2)) ∧ (sx xs (x + 2)) ≤ (2147483647 : Int) := inR_of _
  refine g_aload_n C rfl 4 rfl dL_law_1259 ?_
  refine g_iload C 0 rfl dL_law_1260 ?_
  refine g_iconst C dL_law_1262 ?_
  have f8 : (3 : Int) ≤ (x + 3) ∧ (x + 3) ≤ (4091 : Int) := ia_add fx (il 3) (by decide) (by decide)
  refine g_iadd C dL_law_1263 ?_
  refine g_sld C hX hbl hbz ⟨by omega, by omega⟩ (by omega) dL_law_1264 ?_
  have f9 : (-2147483648 : Int) ≤ (sx xs (x + 3)) ∧ (sx xs (x + 3)) ≤ (2147483647 : Int) := inR_of _
  refine g_callI (st := []) (gc_V C lk_LandSurveyLaw_124 (k_X11_line l D cy w z0 O tn1 f5 f7 f9 pX) tn1 rfl rfl rfl ⟨by decide, by decide⟩ (Nat.le_of_ble_eq_true rfl) dL_law_1265 ⟨(by show _ ≤ 601024; omega), (by show _ ≤ 7293034; omega)⟩) (fun r10 h11 f13 K12 => ?_)
  obtain ⟨O14, F15, f16, p17⟩ := K12
  refine g_pop C rfl dL_law_1268 ?_
  refine g_aload_n C rfl 2 rfl dL_law_1269 ?_
  refine g_aload_n C rfl 4 rfl dL_law_1270 ?_
  refine g_iload C 0 rfl dL_law_1271 ?_
  refine g_iconst C dL_law_1273 ?_
  refine g_iadd C dL_law_1274 ?_
  refine g_sld C hX hbl hbz ⟨by omega, by omega⟩ (by omega) dL_law_1275 ?_
  refine g_aload_n C rfl 4 rfl dL_law_1276 ?_
  refine g_iload C 0 rfl dL_law_1277 ?_
  refine g_iconst C dL_law_1279 ?_
  refine g_iadd C dL_law_1280 ?_
  refine g_sld C hX hbl hbz ⟨by omega, by omega⟩ (by omega) dL_law_1281 ?_
  refine g_aload_n C rfl 4 rfl dL_law_1282 ?_
  refine g_iload C 0 rfl dL_law_1283 ?_
  refine g_iconst C dL_law_1285 ?_
  refine g_iadd C dL_law_1286 ?_
  refine g_sld C hX hbl hbz ⟨by omega, by omega⟩ (by omega) dL_law_1287 ?_
  have e18 : Tg h11 n2 = 12 := (fxT F15 tn2)
  have p19 := (MInv_fx O F15 tn2 rfl pM)
  refine g_callI (st := []) (gc_V C lk_LandSurveyLaw_127 (k_X12_line l D cy w z0 O14 e18 f5 f7 f9 p19) e18 rfl rfl rfl ⟨by decide, by decide⟩ (Nat.le_of_ble_eq_true rfl) dL_law_1288 ⟨(by show _ ≤ 601024; omega), (by show _ ≤ 7293034; omega)⟩) (fun r20 h21 f23 K22 => ?_)
  obtain ⟨O24, F25, f26⟩ := K22
  refine g_pop C rfl dL_law_1291 ?_
  refine g_goto C 1896 (by decide) dL_law_1292 ?_
  have f27 : (8 : Int) ≤ (x + 8) ∧ (x + 8) ≤ (4096 : Int) := ia_add fx (il 8) (by decide) (by decide)
  refine g_iinc C [(4, .inl (x + 8)), (3, .inr (.inr n3)), (2, .inr (.inr n2)), (1, .inr (.inr n1)), (0, .inr (.inr (b + 1)))] 0 rfl (by decide) rfl dL_law_1896 ?_
  refine g_goto C 23 (by decide) dL_law_1899 ?_
  refine GW.sub [0, 1, 2, 3, 4] rfl ?_
  refine GW.widen (by omega : _ ≤ 13 * (x + 8).toNat + 119) (by omega : _ ≤ 806 * (x + 8).toNat + 52115) ?_
  have e28 : Qask h11 n1 = F1 := Eq.trans (show Qask h11 n1 = Qask h n1 from (Qask_fx O F15 tn1 rfl)) e2
  have e30 : Tg h11 n1 = 11 := (fxT F15 tn1)
  have e29 : Qask h21 n1 = F1 := Eq.trans (show Qask h21 n1 = Qask h11 n1 from (Qask_fx O14 F25 e30 rfl)) e28
  have e31 : Qm 82 h11 n2 = F1 := Eq.trans (show Qm 82 h11 n2 = Qm 82 h n2 from (mAI (j := 82) O F15 tn2 rE_12_82 ar_182101 rfl rfl)) e3
  have e32 : Qm 82 h21 n2 = F1 := Eq.trans (show Qm 82 h21 n2 = Qm 82 h11 n2 from (mAI (j := 82) O14 F25 e18 rE_12_82 ar_182101 rfl rfl)) e31
  have p33 := (ASK_fx O14 F25 e30 rfl (ASK_fx O F15 tn1 rfl hT.2))
  have p34 := (XInv_fx O14 F25 e30 rfl p17)
  have p35 := (MInv_fx O14 F25 e18 rfl p19)
  have e36 : Tg h21 n1 = 11 := (fxT F25 e30)
  have e37 : Tg h21 n2 = 12 := (fxT F25 e18)
  have e38 : Tg h21 n3 = 99102 := (fxT F25 (fxT F15 tn3))
  have e39 : Tg h11 n3 = 99102 := (fxT F15 tn3)
  have e40 : Ln h21 n3 = 1 := ((fxL F25 e39).trans ((fxL F15 tn3).trans ln3))
  exact IH _ O24 e36 e37 e38 e40 p34 p35 ⟨(e29.trans (Eq.symm e32)), p33⟩
set_option maxRecDepth 100000 in
set_option maxHeartbeats 8000000 in
theorem law_c21 (l : Launch) (hst : l.stackTraces = false) {p : Program} {e : Env} {s : State} {m : MethodId} {below : List Frame} {meth : Method} {c : Code} {D : va_G} {cy : Nat → ClassId} {w : Nat → Nat} {z0 b L : Nat} {xs : Nat → Int32} {h : Hp} {x : Int} {n1 n2 n3 : Nat} (C : Cx p l room_1 s m #[Value.ref b] meth c D cy z0 7 cL_law "LandSurveyLaw" w) (hr : meth.sig.returnType = ret) (hX : va_X b L xs s s.heap) (hbl : b < s.heap.size) (hbz : b < z0) (hzs : s.heap.size ≤ z0) (hL : L ≤ 4096) (fx : 0 ≤ x ∧ x ≤ 4088) (hq : x ≤ (L : Int) - 8) (O : Okh h) (tn1 : Tg h n1 = 11) (tn2 : Tg h n2 = 12) (tn3 : Tg h n3 = 99102) (ln3 : Ln h n3 = 1) (pX : XInv h n1) (pM : MInv h n2) (hT : Qask h n1 = Qm 82 h n2 ∧ ASK h n1) (IH : ∀ (h1 : Hp), Okh h1 → Tg h1 n1 = 11 → Tg h1 n2 = 12 → Tg h1 n3 = 99102 → Ln h1 n3 = 1 → XInv h1 n1 → MInv h1 n2 → Qask h1 n1 = Qm 82 h1 n2 ∧ ASK h1 n1 → GW p l e room_1 s m #[Value.ref b] below meth c D cy z0 7 (lw_Z below #[Value.ref b] s) 23 [(4, .inl (x + 8)), (3, .inr (.inr n3)), (2, .inr (.inr n2)), (1, .inr (.inr n1)), (0, .inr (.inr (b + 1)))] [] h1 (13 * (x + 8).toNat + 119) (806 * (x + 8).toNat + 52115)) : GW p l e room_1 s m #[Value.ref b] below meth c D cy z0 7 (lw_Z below #[Value.ref b] s) 1295 [(4, .inl x), (3, .inr (.inr n3)), (2, .inr (.inr n2)), (1, .inr (.inr n1)), (0, .inr (.inr (b + 1)))] [] h (13 * x.toNat + 119) (806 * x.toNat + 52115) := by
  obtain ⟨F1, e2⟩ : ∃ z, Qask h n1 = z := ⟨_, rfl⟩
  have e3 : Qm 82 h n2 = F1 := (Eq.symm hT.1).trans e2
  refine g_aload_n C rfl 3 rfl dL_law_1295 ?_
  refine g_aload_n C rfl 4 rfl dL_law_1296 ?_
  refine g_iload C 0 rfl dL_law_1297 ?_
  refine g_iconst C dL_law_1299 ?_
  have f4 : (1 : Int) ≤ (x + 1) ∧ (x + 1) ≤ (4089 : Int) := ia_add fx (il 1) (by decide) (by decide)
  refine g_iadd C dL_law_1300 ?_
  refine g_sld C hX hbl hbz ⟨by omega, by omega⟩ (by omega) dL_law_1301 ?_
  have f5 : (-2147483648 : Int) ≤ (sx xs (x + 1)) ∧ (sx xs (x + 1)) ≤ (2147483647 : Int) := inR_of _
  refine g_aload_n C rfl 4 rfl dL_law_1302 ?_
  refine g_iload C 0 rfl dL_law_1303 ?_
  refine g_iconst C dL_law_1305 ?_
  have f6 : (2 : Int) ≤ (x + 2) ∧ (x + 2) ≤ (4090 : Int) := ia_add fx (il 2) (by decide) (by decide)
  refine g_iadd C dL_law_1306 ?_
  refine g_sld C hX hbl hbz ⟨by omega, by omega⟩ (by omega) dL_law_1307 ?_
  have f7 : (-2147483648 : Int) ≤ (sx xs (x + 2)) ∧ (sx xs (x + 2)) ≤ (2147483647 : Int) := inR_of _
  refine g_aload_n C rfl 4 rfl dL_law_1308 ?_
  refine g_iload C 0 rfl dL_law_1309 ?_
  refine g_iconst C dL_law_1311 ?_
  have f8 : (3 : Int) ≤ (x + 3) ∧ (x + 3) ≤ (4091 : Int) := ia_add fx (il 3) (by decide) (by decide)
  refine g_iadd C dL_law_1312 ?_
  refine g_sld C hX hbl hbz ⟨by omega, by omega⟩ (by omega) dL_law_1313 ?_
  have f9 : (-2147483648 : Int) ≤ (sx xs (x + 3)) ∧ (sx xs (x + 3)) ≤ (2147483647 : Int) := inR_of _
  refine g_aload_n C rfl 4 rfl dL_law_1314 ?_
  refine g_iload C 0 rfl dL_law_1315 ?_
  refine g_iconst C dL_law_1317 ?_
  have f10 : (4 : Int) ≤ (x + 4) ∧ (x + 4) ≤ (4092 : Int) := ia_add fx (il 4) (by decide) (by decide)
  refine g_iadd C dL_law_1318 ?_
  refine g_sld C hX hbl hbz ⟨by omega, by omega⟩ (by omega) dL_law_1319 ?_
  have f11 : (-2147483648 : Int) ≤ (sx xs (x + 4)) ∧ (sx xs (x + 4)) ≤ (2147483647 : Int) := inR_of _
  refine g_aload_n C rfl 1 rfl dL_law_1320 ?_
  refine g_callI (st := []) (gw_S C (k_L_deep l hst D cy w z0 O tn1 f5 f7 f9 f11 tn3 ln3 pX) kw_1441 kw_1442 kw_143 kw_1443 okL_deep rfl ⟨by decide, by decide⟩ (Nat.le_of_ble_eq_true rfl) dL_law_1321 ⟨(by show _ ≤ 601024; omega), (by show _ ≤ 7293034; omega)⟩) (fun r12 h13 f14 K15 => ?_)
  obtain ⟨O16, F17, f18, p19⟩ := K15
  refine g_istore C [(5, .inl r12), (4, .inl x), (3, .inr (.inr n3)), (2, .inr (.inr n2)), (1, .inr (.inr n1)), (0, .inr (.inr (b + 1)))] (by decide) rfl dL_law_1324 ?_
  refine g_aload_n C rfl 3 rfl dL_law_1326 ?_
  refine g_aload_n C rfl 5 rfl dL_law_1327 ?_
  refine g_iload C 1 rfl dL_law_1328 ?_
  refine g_iconst C dL_law_1330 ?_
  refine g_iadd C dL_law_1331 ?_
  refine g_sld C hX hbl hbz ⟨by omega, by omega⟩ (by omega) dL_law_1332 ?_
  refine g_aload_n C rfl 5 rfl dL_law_1333 ?_
  refine g_iload C 1 rfl dL_law_1334 ?_
  refine g_iconst C dL_law_1336 ?_
  refine g_iadd C dL_law_1337 ?_
  refine g_sld C hX hbl hbz ⟨by omega, by omega⟩ (by omega) dL_law_1338 ?_
  refine g_aload_n C rfl 5 rfl dL_law_1339 ?_
  refine g_iload C 1 rfl dL_law_1340 ?_
  refine g_iconst C dL_law_1342 ?_
  refine g_iadd C dL_law_1343 ?_
  refine g_sld C hX hbl hbz ⟨by omega, by omega⟩ (by omega) dL_law_1344 ?_
  refine g_aload_n C rfl 5 rfl dL_law_1345 ?_
  refine g_iload C 1 rfl dL_law_1346 ?_
  refine g_iconst C dL_law_1348 ?_
  refine g_iadd C dL_law_1349 ?_
  refine g_sld C hX hbl hbz ⟨by omega, by omega⟩ (by omega) dL_law_1350 ?_
  have e20 : Tg h13 n2 = 12 := (fxT F17 tn2)
  have p21 := (MInv_fx O F17 tn2 rfl pM)
  refine g_callI (st := []) (gc_V C lk_LandSurveyLaw_130 (k_X12_deep l D cy w z0 O16 e20 f5 f7 f9 f11 p21) e20 rfl rfl rfl ⟨by decide, by decide⟩ (Nat.le_of_ble_eq_true rfl) dL_law_1351 ⟨(by show _ ≤ 601024; omega), (by show _ ≤ 7293034; omega)⟩) (fun r22 h23 f25 K24 => ?_)
  obtain ⟨O26, F27, f28⟩ := K24
  refine g_istore C [(6, .inl r22), (5, .inl r12), (4, .inl x), (3, .inr (.inr n3)), (2, .inr (.inr n2)), (1, .inr (.inr n1)), (0, .inr (.inr (b + 1)))] (by decide) rfl dL_law_1354 ?_
  refine g_goto C 1896 (by decide) dL_law_1356 ?_
  have f29 : (8 : Int) ≤ (x + 8) ∧ (x + 8) ≤ (4096 : Int) := ia_add fx (il 8) (by decide) (by decide)
  refine g_iinc C [(4, .inl (x + 8)), (6, .inl r22), (5, .inl r12), (3, .inr (.inr n3)), (2, .inr (.inr n2)), (1, .inr (.inr n1)), (0, .inr (.inr (b + 1)))] 2 rfl (by decide) rfl dL_law_1896 ?_
  refine g_goto C 23 (by decide) dL_law_1899 ?_
  refine GW.sub [0, 3, 4, 5, 6] rfl ?_
  refine GW.widen (by omega : _ ≤ 13 * (x + 8).toNat + 119) (by omega : _ ≤ 806 * (x + 8).toNat + 52115) ?_
  have e30 : Qask h13 n1 = F1 := Eq.trans (show Qask h13 n1 = Qask h n1 from (Qask_fx O F17 tn1 rfl)) e2
  have e32 : Tg h13 n1 = 11 := (fxT F17 tn1)
  have e31 : Qask h23 n1 = F1 := Eq.trans (show Qask h23 n1 = Qask h13 n1 from (Qask_fx O16 F27 e32 rfl)) e30
  have e33 : Qm 82 h13 n2 = F1 := Eq.trans (show Qm 82 h13 n2 = Qm 82 h n2 from (mAI (j := 82) O F17 tn2 rE_12_82 ar_182101 rfl rfl)) e3
  have e34 : Qm 82 h23 n2 = F1 := Eq.trans (show Qm 82 h23 n2 = Qm 82 h13 n2 from (mAI (j := 82) O16 F27 e20 rE_12_82 ar_182101 rfl rfl)) e33
  have p35 := (ASK_fx O16 F27 e32 rfl (ASK_fx O F17 tn1 rfl hT.2))
  have p36 := (XInv_fx O16 F27 e32 rfl p19)
  have p37 := (MInv_fx O16 F27 e20 rfl p21)
  have e38 : Tg h23 n1 = 11 := (fxT F27 e32)
  have e39 : Tg h23 n2 = 12 := (fxT F27 e20)
  have e40 : Tg h23 n3 = 99102 := (fxT F27 (fxT F17 tn3))
  have e41 : Tg h13 n3 = 99102 := (fxT F17 tn3)
  have e42 : Ln h23 n3 = 1 := ((fxL F27 e41).trans ((fxL F17 tn3).trans ln3))
  exact IH _ O26 e38 e39 e40 e42 p36 p37 ⟨(e31.trans (Eq.symm e34)), p35⟩
set_option maxRecDepth 100000 in
set_option maxHeartbeats 8000000 in
theorem law_c22 (l : Launch) (hst : l.stackTraces = false) {p : Program} {e : Env} {s : State} {m : MethodId} {below : List Frame} {meth : Method} {c : Code} {D : va_G} {cy : Nat → ClassId} {w : Nat → Nat} {z0 b L : Nat} {xs : Nat → Int32} {h : Hp} {x : Int} {n1 n2 n3 : Nat} (C : Cx p l room_1 s m #[Value.ref b] meth c D cy z0 7 cL_law "LandSurveyLaw" w) (hr : meth.sig.returnType = ret) (hX : va_X b L xs s s.heap) (hbl : b < s.heap.size) (hbz : b < z0) (hzs : s.heap.size ≤ z0) (hL : L ≤ 4096) (fx : 0 ≤ x ∧ x ≤ 4088) (hq : x ≤ (L : Int) - 8) (O : Okh h) (tn1 : Tg h n1 = 11) (tn2 : Tg h n2 = 12) (tn3 : Tg h n3 = 99102) (ln3 : Ln h n3 = 1) (pX : XInv h n1) (pM : MInv h n2) (hT : Qask h n1 = Qm 82 h n2 ∧ ASK h n1) (IH : ∀ (h1 : Hp), Okh h1 → Tg h1 n1 = 11 → Tg h1 n2 = 12 → Tg h1 n3 = 99102 → Ln h1 n3 = 1 → XInv h1 n1 → MInv h1 n2 → Qask h1 n1 = Qm 82 h1 n2 ∧ ASK h1 n1 → GW p l e room_1 s m #[Value.ref b] below meth c D cy z0 7 (lw_Z below #[Value.ref b] s) 23 [(4, .inl (x + 8)), (3, .inr (.inr n3)), (2, .inr (.inr n2)), (1, .inr (.inr n1)), (0, .inr (.inr (b + 1)))] [] h1 (13 * (x + 8).toNat + 119) (806 * (x + 8).toNat + 52115)) : GW p l e room_1 s m #[Value.ref b] below meth c D cy z0 7 (lw_Z below #[Value.ref b] s) 1359 [(4, .inl x), (3, .inr (.inr n3)), (2, .inr (.inr n2)), (1, .inr (.inr n1)), (0, .inr (.inr (b + 1)))] [] h (13 * x.toNat + 119) (806 * x.toNat + 52115) := by
  obtain ⟨F1, e2⟩ : ∃ z, Qask h n1 = z := ⟨_, rfl⟩
  have e3 : Qm 82 h n2 = F1 := (Eq.symm hT.1).trans e2
  refine g_aload_n C rfl 3 rfl dL_law_1359 ?_
  refine g_aload_n C rfl 4 rfl dL_law_1360 ?_
  refine g_iload C 0 rfl dL_law_1361 ?_
  refine g_iconst C dL_law_1363 ?_
  have f4 : (1 : Int) ≤ (x + 1) ∧ (x + 1) ≤ (4089 : Int) := ia_add fx (il 1) (by decide) (by decide)
  refine g_iadd C dL_law_1364 ?_
  refine g_sld C hX hbl hbz ⟨by omega, by omega⟩ (by omega) dL_law_1365 ?_
  have f5 : (-2147483648 : Int) ≤ (sx xs (x + 1)) ∧ (sx xs (x + 1)) ≤ (2147483647 : Int) := inR_of _
  refine g_aload_n C rfl 4 rfl dL_law_1366 ?_
  refine g_iload C 0 rfl dL_law_1367 ?_
  refine g_iconst C dL_law_1369 ?_
  have f6 : (2 : Int) ≤ (x + 2) ∧ (x + 2) ≤ (4090 : Int) := ia_add fx (il 2) (by decide) (by decide)
  refine g_iadd C dL_law_1370 ?_
  refine g_sld C hX hbl hbz ⟨by omega, by omega⟩ (by omega) dL_law_1371 ?_
  have f7 : (-2147483648 : Int) ≤ (sx xs (x + 2)) ∧ (sx xs (x + 2)) ≤ (2147483647 : Int) := inR_of _
  refine g_aload_n C rfl 4 rfl dL_law_1372 ?_
  refine g_iload C 0 rfl dL_law_1373 ?_
  refine g_iconst C dL_law_1375 ?_
  have f8 : (3 : Int) ≤ (x + 3) ∧ (x + 3) ≤ (4091 : Int) := ia_add fx (il 3) (by decide) (by decide)
  refine g_iadd C dL_law_1376 ?_
  refine g_sld C hX hbl hbz ⟨by omega, by omega⟩ (by omega) dL_law_1377 ?_
  have f9 : (-2147483648 : Int) ≤ (sx xs (x + 3)) ∧ (sx xs (x + 3)) ≤ (2147483647 : Int) := inR_of _
  refine g_callI (st := []) (gc_V C lk_LandSurveyLaw_131 (k_X11_water l D cy w z0 O tn1 f5 f7 f9 pX) tn1 rfl rfl rfl ⟨by decide, by decide⟩ (Nat.le_of_ble_eq_true rfl) dL_law_1378 ⟨(by show _ ≤ 601024; omega), (by show _ ≤ 7293034; omega)⟩) (fun r10 h11 f13 K12 => ?_)
  obtain ⟨O14, F15, f16, p17⟩ := K12
  refine g_pop C rfl dL_law_1381 ?_
  refine g_aload_n C rfl 2 rfl dL_law_1382 ?_
  refine g_aload_n C rfl 4 rfl dL_law_1383 ?_
  refine g_iload C 0 rfl dL_law_1384 ?_
  refine g_iconst C dL_law_1386 ?_
  refine g_iadd C dL_law_1387 ?_
  refine g_sld C hX hbl hbz ⟨by omega, by omega⟩ (by omega) dL_law_1388 ?_
  refine g_aload_n C rfl 4 rfl dL_law_1389 ?_
  refine g_iload C 0 rfl dL_law_1390 ?_
  refine g_iconst C dL_law_1392 ?_
  refine g_iadd C dL_law_1393 ?_
  refine g_sld C hX hbl hbz ⟨by omega, by omega⟩ (by omega) dL_law_1394 ?_
  refine g_aload_n C rfl 4 rfl dL_law_1395 ?_
  refine g_iload C 0 rfl dL_law_1396 ?_
  refine g_iconst C dL_law_1398 ?_
  refine g_iadd C dL_law_1399 ?_
  refine g_sld C hX hbl hbz ⟨by omega, by omega⟩ (by omega) dL_law_1400 ?_
  have e18 : Tg h11 n2 = 12 := (fxT F15 tn2)
  have p19 := (MInv_fx O F15 tn2 rfl pM)
  refine g_callI (st := []) (gc_V C lk_LandSurveyLaw_134 (k_X12_water l D cy w z0 O14 e18 f5 f7 f9 p19) e18 rfl rfl rfl ⟨by decide, by decide⟩ (Nat.le_of_ble_eq_true rfl) dL_law_1401 ⟨(by show _ ≤ 601024; omega), (by show _ ≤ 7293034; omega)⟩) (fun r20 h21 f23 K22 => ?_)
  obtain ⟨O24, F25, f26⟩ := K22
  refine g_pop C rfl dL_law_1404 ?_
  refine g_goto C 1896 (by decide) dL_law_1405 ?_
  have f27 : (8 : Int) ≤ (x + 8) ∧ (x + 8) ≤ (4096 : Int) := ia_add fx (il 8) (by decide) (by decide)
  refine g_iinc C [(4, .inl (x + 8)), (3, .inr (.inr n3)), (2, .inr (.inr n2)), (1, .inr (.inr n1)), (0, .inr (.inr (b + 1)))] 0 rfl (by decide) rfl dL_law_1896 ?_
  refine g_goto C 23 (by decide) dL_law_1899 ?_
  refine GW.sub [0, 1, 2, 3, 4] rfl ?_
  refine GW.widen (by omega : _ ≤ 13 * (x + 8).toNat + 119) (by omega : _ ≤ 806 * (x + 8).toNat + 52115) ?_
  have e28 : Qask h11 n1 = F1 := Eq.trans (show Qask h11 n1 = Qask h n1 from (Qask_fx O F15 tn1 rfl)) e2
  have e30 : Tg h11 n1 = 11 := (fxT F15 tn1)
  have e29 : Qask h21 n1 = F1 := Eq.trans (show Qask h21 n1 = Qask h11 n1 from (Qask_fx O14 F25 e30 rfl)) e28
  have e31 : Qm 82 h11 n2 = F1 := Eq.trans (show Qm 82 h11 n2 = Qm 82 h n2 from (mAI (j := 82) O F15 tn2 rE_12_82 ar_182101 rfl rfl)) e3
  have e32 : Qm 82 h21 n2 = F1 := Eq.trans (show Qm 82 h21 n2 = Qm 82 h11 n2 from (mAI (j := 82) O14 F25 e18 rE_12_82 ar_182101 rfl rfl)) e31
  have p33 := (ASK_fx O14 F25 e30 rfl (ASK_fx O F15 tn1 rfl hT.2))
  have p34 := (XInv_fx O14 F25 e30 rfl p17)
  have p35 := (MInv_fx O14 F25 e18 rfl p19)
  have e36 : Tg h21 n1 = 11 := (fxT F25 e30)
  have e37 : Tg h21 n2 = 12 := (fxT F25 e18)
  have e38 : Tg h21 n3 = 99102 := (fxT F25 (fxT F15 tn3))
  have e39 : Tg h11 n3 = 99102 := (fxT F15 tn3)
  have e40 : Ln h21 n3 = 1 := ((fxL F25 e39).trans ((fxL F15 tn3).trans ln3))
  exact IH _ O24 e36 e37 e38 e40 p34 p35 ⟨(e29.trans (Eq.symm e32)), p33⟩
set_option maxRecDepth 100000 in
set_option maxHeartbeats 8000000 in
theorem law_c23 (l : Launch) (hst : l.stackTraces = false) {p : Program} {e : Env} {s : State} {m : MethodId} {below : List Frame} {meth : Method} {c : Code} {D : va_G} {cy : Nat → ClassId} {w : Nat → Nat} {z0 b L : Nat} {xs : Nat → Int32} {h : Hp} {x : Int} {n1 n2 n3 : Nat} (C : Cx p l room_1 s m #[Value.ref b] meth c D cy z0 7 cL_law "LandSurveyLaw" w) (hr : meth.sig.returnType = ret) (hX : va_X b L xs s s.heap) (hbl : b < s.heap.size) (hbz : b < z0) (hzs : s.heap.size ≤ z0) (hL : L ≤ 4096) (fx : 0 ≤ x ∧ x ≤ 4088) (hq : x ≤ (L : Int) - 8) (O : Okh h) (tn1 : Tg h n1 = 11) (tn2 : Tg h n2 = 12) (tn3 : Tg h n3 = 99102) (ln3 : Ln h n3 = 1) (pX : XInv h n1) (pM : MInv h n2) (hT : Qask h n1 = Qm 82 h n2 ∧ ASK h n1) (IH : ∀ (h1 : Hp), Okh h1 → Tg h1 n1 = 11 → Tg h1 n2 = 12 → Tg h1 n3 = 99102 → Ln h1 n3 = 1 → XInv h1 n1 → MInv h1 n2 → Qask h1 n1 = Qm 82 h1 n2 ∧ ASK h1 n1 → GW p l e room_1 s m #[Value.ref b] below meth c D cy z0 7 (lw_Z below #[Value.ref b] s) 23 [(4, .inl (x + 8)), (3, .inr (.inr n3)), (2, .inr (.inr n2)), (1, .inr (.inr n1)), (0, .inr (.inr (b + 1)))] [] h1 (13 * (x + 8).toNat + 119) (806 * (x + 8).toNat + 52115)) : GW p l e room_1 s m #[Value.ref b] below meth c D cy z0 7 (lw_Z below #[Value.ref b] s) 1408 [(4, .inl x), (3, .inr (.inr n3)), (2, .inr (.inr n2)), (1, .inr (.inr n1)), (0, .inr (.inr (b + 1)))] [] h (13 * x.toNat + 119) (806 * x.toNat + 52115) := by
  obtain ⟨F1, e2⟩ : ∃ z, Qask h n1 = z := ⟨_, rfl⟩
  have e3 : Qm 82 h n2 = F1 := (Eq.symm hT.1).trans e2
  refine g_aload_n C rfl 3 rfl dL_law_1408 ?_
  refine g_aload_n C rfl 4 rfl dL_law_1409 ?_
  refine g_iload C 0 rfl dL_law_1410 ?_
  refine g_iconst C dL_law_1412 ?_
  have f4 : (1 : Int) ≤ (x + 1) ∧ (x + 1) ≤ (4089 : Int) := ia_add fx (il 1) (by decide) (by decide)
  refine g_iadd C dL_law_1413 ?_
  refine g_sld C hX hbl hbz ⟨by omega, by omega⟩ (by omega) dL_law_1414 ?_
  have f5 : (-2147483648 : Int) ≤ (sx xs (x + 1)) ∧ (sx xs (x + 1)) ≤ (2147483647 : Int) := inR_of _
  refine g_aload_n C rfl 4 rfl dL_law_1415 ?_
  refine g_iload C 0 rfl dL_law_1416 ?_
  refine g_iconst C dL_law_1418 ?_
  have f6 : (2 : Int) ≤ (x + 2) ∧ (x + 2) ≤ (4090 : Int) := ia_add fx (il 2) (by decide) (by decide)
  refine g_iadd C dL_law_1419 ?_
  refine g_sld C hX hbl hbz ⟨by omega, by omega⟩ (by omega) dL_law_1420 ?_
  have f7 : (-2147483648 : Int) ≤ (sx xs (x + 2)) ∧ (sx xs (x + 2)) ≤ (2147483647 : Int) := inR_of _
  refine g_aload_n C rfl 4 rfl dL_law_1421 ?_
  refine g_iload C 0 rfl dL_law_1422 ?_
  refine g_iconst C dL_law_1424 ?_
  have f8 : (3 : Int) ≤ (x + 3) ∧ (x + 3) ≤ (4091 : Int) := ia_add fx (il 3) (by decide) (by decide)
  refine g_iadd C dL_law_1425 ?_
  refine g_sld C hX hbl hbz ⟨by omega, by omega⟩ (by omega) dL_law_1426 ?_
  have f9 : (-2147483648 : Int) ≤ (sx xs (x + 3)) ∧ (sx xs (x + 3)) ≤ (2147483647 : Int) := inR_of _
  refine g_callI (st := []) (gc_V C lk_LandSurveyLaw_135 (k_X11_seam l D cy w z0 O tn1 f5 f7 f9 pX) tn1 rfl rfl rfl ⟨by decide, by decide⟩ (Nat.le_of_ble_eq_true rfl) dL_law_1427 ⟨(by show _ ≤ 601024; omega), (by show _ ≤ 7293034; omega)⟩) (fun r10 h11 f13 K12 => ?_)
  obtain ⟨O14, F15, f16, p17⟩ := K12
  refine g_pop C rfl dL_law_1430 ?_
  refine g_aload_n C rfl 2 rfl dL_law_1431 ?_
  refine g_aload_n C rfl 4 rfl dL_law_1432 ?_
  refine g_iload C 0 rfl dL_law_1433 ?_
  refine g_iconst C dL_law_1435 ?_
  refine g_iadd C dL_law_1436 ?_
  refine g_sld C hX hbl hbz ⟨by omega, by omega⟩ (by omega) dL_law_1437 ?_
  refine g_aload_n C rfl 4 rfl dL_law_1438 ?_
  refine g_iload C 0 rfl dL_law_1439 ?_
  refine g_iconst C dL_law_1441 ?_
  refine g_iadd C dL_law_1442 ?_
  refine g_sld C hX hbl hbz ⟨by omega, by omega⟩ (by omega) dL_law_1443 ?_
  refine g_aload_n C rfl 4 rfl dL_law_1444 ?_
  refine g_iload C 0 rfl dL_law_1445 ?_
  refine g_iconst C dL_law_1447 ?_
  refine g_iadd C dL_law_1448 ?_
  refine g_sld C hX hbl hbz ⟨by omega, by omega⟩ (by omega) dL_law_1449 ?_
  have e18 : Tg h11 n2 = 12 := (fxT F15 tn2)
  have p19 := (MInv_fx O F15 tn2 rfl pM)
  refine g_callI (st := []) (gc_V C lk_LandSurveyLaw_138 (k_X12_seam l D cy w z0 O14 e18 f5 f7 f9 p19) e18 rfl rfl rfl ⟨by decide, by decide⟩ (Nat.le_of_ble_eq_true rfl) dL_law_1450 ⟨(by show _ ≤ 601024; omega), (by show _ ≤ 7293034; omega)⟩) (fun r20 h21 f23 K22 => ?_)
  obtain ⟨O24, F25, f26⟩ := K22
  refine g_pop C rfl dL_law_1453 ?_
  refine g_goto C 1896 (by decide) dL_law_1454 ?_
  have f27 : (8 : Int) ≤ (x + 8) ∧ (x + 8) ≤ (4096 : Int) := ia_add fx (il 8) (by decide) (by decide)
  refine g_iinc C [(4, .inl (x + 8)), (3, .inr (.inr n3)), (2, .inr (.inr n2)), (1, .inr (.inr n1)), (0, .inr (.inr (b + 1)))] 0 rfl (by decide) rfl dL_law_1896 ?_
  refine g_goto C 23 (by decide) dL_law_1899 ?_
  refine GW.sub [0, 1, 2, 3, 4] rfl ?_
  refine GW.widen (by omega : _ ≤ 13 * (x + 8).toNat + 119) (by omega : _ ≤ 806 * (x + 8).toNat + 52115) ?_
  have e28 : Qask h11 n1 = F1 := Eq.trans (show Qask h11 n1 = Qask h n1 from (Qask_fx O F15 tn1 rfl)) e2
  have e30 : Tg h11 n1 = 11 := (fxT F15 tn1)
  have e29 : Qask h21 n1 = F1 := Eq.trans (show Qask h21 n1 = Qask h11 n1 from (Qask_fx O14 F25 e30 rfl)) e28
  have e31 : Qm 82 h11 n2 = F1 := Eq.trans (show Qm 82 h11 n2 = Qm 82 h n2 from (mAI (j := 82) O F15 tn2 rE_12_82 ar_182101 rfl rfl)) e3
  have e32 : Qm 82 h21 n2 = F1 := Eq.trans (show Qm 82 h21 n2 = Qm 82 h11 n2 from (mAI (j := 82) O14 F25 e18 rE_12_82 ar_182101 rfl rfl)) e31
  have p33 := (ASK_fx O14 F25 e30 rfl (ASK_fx O F15 tn1 rfl hT.2))
  have p34 := (XInv_fx O14 F25 e30 rfl p17)
  have p35 := (MInv_fx O14 F25 e18 rfl p19)
  have e36 : Tg h21 n1 = 11 := (fxT F25 e30)
  have e37 : Tg h21 n2 = 12 := (fxT F25 e18)
  have e38 : Tg h21 n3 = 99102 := (fxT F25 (fxT F15 tn3))
  have e39 : Tg h11 n3 = 99102 := (fxT F15 tn3)
  have e40 : Ln h21 n3 = 1 := ((fxL F25 e39).trans ((fxL F15 tn3).trans ln3))
  exact IH _ O24 e36 e37 e38 e40 p34 p35 ⟨(e29.trans (Eq.symm e32)), p33⟩
