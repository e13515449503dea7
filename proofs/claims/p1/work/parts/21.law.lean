abbrev cL_law : ByteArray := code
def yL_law : MethodName := ⟨"LandSurveyLaw", "law", "([I)Z"⟩
theorem okL_law : yok yL_law 1 := by decide +kernel
theorem kw_533 : Cond.code yX11_view prog_1_method_3_code 2 (some .boolean) ∈ uu := uu_in (i := 533) (by decide +kernel) (by decide +kernel)
theorem kw_530 : Cond.methodLink "LandSurveyLaw" 34 yX11_view ∈ uu := uu_in (i := 530) (by decide +kernel) (by decide +kernel)
theorem kw_531 : Cond.instanceMethod yX11_view ∈ uu := uu_in (i := 531) (by decide +kernel) (by decide +kernel)
theorem kw_532 : Cond.selects "LandSurvey" yX11_view yX11_view ∈ uu := uu_in (i := 532) (by decide +kernel) (by decide +kernel)
theorem kw_1898 : Cond.code yX12_view prog_14_method_39_code 2 (some .boolean) ∈ uu := uu_in (i := 1898) (by decide +kernel) (by decide +kernel)
theorem kw_1895 : Cond.methodLink "LandSurveyLaw" 38 yX12_view ∈ uu := uu_in (i := 1895) (by decide +kernel) (by decide +kernel)
theorem kw_1896 : Cond.instanceMethod yX12_view ∈ uu := uu_in (i := 1896) (by decide +kernel) (by decide +kernel)
theorem kw_1897 : Cond.selects "LandSurveyModel" yX12_view yX12_view ∈ uu := uu_in (i := 1897) (by decide +kernel) (by decide +kernel)
theorem kw_537 : Cond.code yX11_cell prog_1_method_4_code 6 (some .boolean) ∈ uu := uu_in (i := 537) (by decide +kernel) (by decide +kernel)
theorem kw_534 : Cond.methodLink "LandSurveyLaw" 39 yX11_cell ∈ uu := uu_in (i := 534) (by decide +kernel) (by decide +kernel)
theorem kw_535 : Cond.instanceMethod yX11_cell ∈ uu := uu_in (i := 535) (by decide +kernel) (by decide +kernel)
theorem kw_536 : Cond.selects "LandSurvey" yX11_cell yX11_cell ∈ uu := uu_in (i := 536) (by decide +kernel) (by decide +kernel)
theorem kw_1902 : Cond.code yX12_cell prog_14_method_41_code 5 (some .boolean) ∈ uu := uu_in (i := 1902) (by decide +kernel) (by decide +kernel)
theorem kw_1899 : Cond.methodLink "LandSurveyLaw" 43 yX12_cell ∈ uu := uu_in (i := 1899) (by decide +kernel) (by decide +kernel)
theorem kw_1900 : Cond.instanceMethod yX12_cell ∈ uu := uu_in (i := 1900) (by decide +kernel) (by decide +kernel)
theorem kw_1901 : Cond.selects "LandSurveyModel" yX12_cell yX12_cell ∈ uu := uu_in (i := 1901) (by decide +kernel) (by decide +kernel)
theorem kw_544 : Cond.code yX11_fold prog_1_method_5_code 5 (some .boolean) ∈ uu := uu_in (i := 544) (by decide +kernel) (by decide +kernel)
theorem kw_541 : Cond.methodLink "LandSurveyLaw" 44 yX11_fold ∈ uu := uu_in (i := 541) (by decide +kernel) (by decide +kernel)
theorem kw_542 : Cond.instanceMethod yX11_fold ∈ uu := uu_in (i := 542) (by decide +kernel) (by decide +kernel)
theorem kw_543 : Cond.selects "LandSurvey" yX11_fold yX11_fold ∈ uu := uu_in (i := 543) (by decide +kernel) (by decide +kernel)
theorem kw_1909 : Cond.code yX12_fold prog_14_method_42_code 4 (some .boolean) ∈ uu := uu_in (i := 1909) (by decide +kernel) (by decide +kernel)
theorem kw_1906 : Cond.methodLink "LandSurveyLaw" 48 yX12_fold ∈ uu := uu_in (i := 1906) (by decide +kernel) (by decide +kernel)
theorem kw_1907 : Cond.instanceMethod yX12_fold ∈ uu := uu_in (i := 1907) (by decide +kernel) (by decide +kernel)
theorem kw_1908 : Cond.selects "LandSurveyModel" yX12_fold yX12_fold ∈ uu := uu_in (i := 1908) (by decide +kernel) (by decide +kernel)
theorem kw_548 : Cond.code yX11_own prog_1_method_6_code 5 (some .boolean) ∈ uu := uu_in (i := 548) (by decide +kernel) (by decide +kernel)
theorem kw_545 : Cond.methodLink "LandSurveyLaw" 49 yX11_own ∈ uu := uu_in (i := 545) (by decide +kernel) (by decide +kernel)
theorem kw_546 : Cond.instanceMethod yX11_own ∈ uu := uu_in (i := 546) (by decide +kernel) (by decide +kernel)
theorem kw_547 : Cond.selects "LandSurvey" yX11_own yX11_own ∈ uu := uu_in (i := 547) (by decide +kernel) (by decide +kernel)
theorem kw_1913 : Cond.code yX12_own prog_14_method_43_code 4 (some .boolean) ∈ uu := uu_in (i := 1913) (by decide +kernel) (by decide +kernel)
theorem kw_1910 : Cond.methodLink "LandSurveyLaw" 53 yX12_own ∈ uu := uu_in (i := 1910) (by decide +kernel) (by decide +kernel)
theorem kw_1911 : Cond.instanceMethod yX12_own ∈ uu := uu_in (i := 1911) (by decide +kernel) (by decide +kernel)
theorem kw_1912 : Cond.selects "LandSurveyModel" yX12_own yX12_own ∈ uu := uu_in (i := 1912) (by decide +kernel) (by decide +kernel)
theorem kw_552 : Cond.code yX11_sight prog_1_method_7_code 10 (some .int) ∈ uu := uu_in (i := 552) (by decide +kernel) (by decide +kernel)
theorem kw_549 : Cond.methodLink "LandSurveyLaw" 54 yX11_sight ∈ uu := uu_in (i := 549) (by decide +kernel) (by decide +kernel)
theorem kw_550 : Cond.instanceMethod yX11_sight ∈ uu := uu_in (i := 550) (by decide +kernel) (by decide +kernel)
theorem kw_551 : Cond.selects "LandSurvey" yX11_sight yX11_sight ∈ uu := uu_in (i := 551) (by decide +kernel) (by decide +kernel)
theorem kw_1917 : Cond.code yX12_sight prog_14_method_44_code 8 (some .int) ∈ uu := uu_in (i := 1917) (by decide +kernel) (by decide +kernel)
theorem kw_1914 : Cond.methodLink "LandSurveyLaw" 58 yX12_sight ∈ uu := uu_in (i := 1914) (by decide +kernel) (by decide +kernel)
theorem kw_1915 : Cond.instanceMethod yX12_sight ∈ uu := uu_in (i := 1915) (by decide +kernel) (by decide +kernel)
theorem kw_1916 : Cond.selects "LandSurveyModel" yX12_sight yX12_sight ∈ uu := uu_in (i := 1916) (by decide +kernel) (by decide +kernel)
theorem kw_639 : Cond.code yX11_dip prog_1_method_8_code 5 (some .boolean) ∈ uu := uu_in (i := 639) (by decide +kernel) (by decide +kernel)
theorem kw_636 : Cond.methodLink "LandSurveyLaw" 59 yX11_dip ∈ uu := uu_in (i := 636) (by decide +kernel) (by decide +kernel)
theorem kw_637 : Cond.instanceMethod yX11_dip ∈ uu := uu_in (i := 637) (by decide +kernel) (by decide +kernel)
theorem kw_638 : Cond.selects "LandSurvey" yX11_dip yX11_dip ∈ uu := uu_in (i := 638) (by decide +kernel) (by decide +kernel)
theorem kw_1921 : Cond.code yX12_dip prog_14_method_46_code 5 (some .boolean) ∈ uu := uu_in (i := 1921) (by decide +kernel) (by decide +kernel)
theorem kw_1918 : Cond.methodLink "LandSurveyLaw" 63 yX12_dip ∈ uu := uu_in (i := 1918) (by decide +kernel) (by decide +kernel)
theorem kw_1919 : Cond.instanceMethod yX12_dip ∈ uu := uu_in (i := 1919) (by decide +kernel) (by decide +kernel)
theorem kw_1920 : Cond.selects "LandSurveyModel" yX12_dip yX12_dip ∈ uu := uu_in (i := 1920) (by decide +kernel) (by decide +kernel)
theorem kw_650 : Cond.code yX11_remain prog_1_method_9_code 4 (some .boolean) ∈ uu := uu_in (i := 650) (by decide +kernel) (by decide +kernel)
theorem kw_647 : Cond.methodLink "LandSurveyLaw" 64 yX11_remain ∈ uu := uu_in (i := 647) (by decide +kernel) (by decide +kernel)
theorem kw_648 : Cond.instanceMethod yX11_remain ∈ uu := uu_in (i := 648) (by decide +kernel) (by decide +kernel)
theorem kw_649 : Cond.selects "LandSurvey" yX11_remain yX11_remain ∈ uu := uu_in (i := 649) (by decide +kernel) (by decide +kernel)
theorem kw_1929 : Cond.code yX12_remain prog_14_method_47_code 4 (some .boolean) ∈ uu := uu_in (i := 1929) (by decide +kernel) (by decide +kernel)
theorem kw_1926 : Cond.methodLink "LandSurveyLaw" 67 yX12_remain ∈ uu := uu_in (i := 1926) (by decide +kernel) (by decide +kernel)
theorem kw_1927 : Cond.instanceMethod yX12_remain ∈ uu := uu_in (i := 1927) (by decide +kernel) (by decide +kernel)
theorem kw_1928 : Cond.selects "LandSurveyModel" yX12_remain yX12_remain ∈ uu := uu_in (i := 1928) (by decide +kernel) (by decide +kernel)
theorem kw_654 : Cond.code yX11_withdraw prog_1_method_10_code 2 (some .boolean) ∈ uu := uu_in (i := 654) (by decide +kernel) (by decide +kernel)
theorem kw_651 : Cond.methodLink "LandSurveyLaw" 68 yX11_withdraw ∈ uu := uu_in (i := 651) (by decide +kernel) (by decide +kernel)
theorem kw_652 : Cond.instanceMethod yX11_withdraw ∈ uu := uu_in (i := 652) (by decide +kernel) (by decide +kernel)
theorem kw_653 : Cond.selects "LandSurvey" yX11_withdraw yX11_withdraw ∈ uu := uu_in (i := 653) (by decide +kernel) (by decide +kernel)
theorem kw_1933 : Cond.code yX12_withdraw prog_14_method_48_code 2 (some .boolean) ∈ uu := uu_in (i := 1933) (by decide +kernel) (by decide +kernel)
theorem kw_1930 : Cond.methodLink "LandSurveyLaw" 71 yX12_withdraw ∈ uu := uu_in (i := 1930) (by decide +kernel) (by decide +kernel)
theorem kw_1931 : Cond.instanceMethod yX12_withdraw ∈ uu := uu_in (i := 1931) (by decide +kernel) (by decide +kernel)
theorem kw_1932 : Cond.selects "LandSurveyModel" yX12_withdraw yX12_withdraw ∈ uu := uu_in (i := 1932) (by decide +kernel) (by decide +kernel)
theorem kw_2267 : Cond.constantLong "LandSurveyLaw" 72 (4294967295) ∈ uu := uu_in (i := 2267) (by decide +kernel) (by decide +kernel)
theorem kw_658 : Cond.code yX11_feed prog_1_method_11_code 7 (some .int) ∈ uu := uu_in (i := 658) (by decide +kernel) (by decide +kernel)
theorem kw_655 : Cond.methodLink "LandSurveyLaw" 74 yX11_feed ∈ uu := uu_in (i := 655) (by decide +kernel) (by decide +kernel)
theorem kw_656 : Cond.instanceMethod yX11_feed ∈ uu := uu_in (i := 656) (by decide +kernel) (by decide +kernel)
theorem kw_657 : Cond.selects "LandSurvey" yX11_feed yX11_feed ∈ uu := uu_in (i := 657) (by decide +kernel) (by decide +kernel)
theorem kw_1469 : Cond.code yX12_feed prog_14_method_2_code 7 (some .int) ∈ uu := uu_in (i := 1469) (by decide +kernel) (by decide +kernel)
theorem kw_1466 : Cond.methodLink "LandSurveyLaw" 78 yX12_feed ∈ uu := uu_in (i := 1466) (by decide +kernel) (by decide +kernel)
theorem kw_1467 : Cond.instanceMethod yX12_feed ∈ uu := uu_in (i := 1467) (by decide +kernel) (by decide +kernel)
theorem kw_1468 : Cond.selects "LandSurveyModel" yX12_feed yX12_feed ∈ uu := uu_in (i := 1468) (by decide +kernel) (by decide +kernel)
theorem kw_666 : Cond.code yX11_rules prog_1_method_12_code 2 (some .int) ∈ uu := uu_in (i := 666) (by decide +kernel) (by decide +kernel)
theorem kw_663 : Cond.methodLink "LandSurveyLaw" 79 yX11_rules ∈ uu := uu_in (i := 663) (by decide +kernel) (by decide +kernel)
theorem kw_664 : Cond.instanceMethod yX11_rules ∈ uu := uu_in (i := 664) (by decide +kernel) (by decide +kernel)
theorem kw_665 : Cond.selects "LandSurvey" yX11_rules yX11_rules ∈ uu := uu_in (i := 665) (by decide +kernel) (by decide +kernel)
theorem kw_1775 : Cond.code yX12_rules prog_14_method_18_code 2 (some .int) ∈ uu := uu_in (i := 1775) (by decide +kernel) (by decide +kernel)
theorem kw_1772 : Cond.methodLink "LandSurveyLaw" 83 yX12_rules ∈ uu := uu_in (i := 1772) (by decide +kernel) (by decide +kernel)
theorem kw_1773 : Cond.instanceMethod yX12_rules ∈ uu := uu_in (i := 1773) (by decide +kernel) (by decide +kernel)
theorem kw_1774 : Cond.selects "LandSurveyModel" yX12_rules yX12_rules ∈ uu := uu_in (i := 1774) (by decide +kernel) (by decide +kernel)
theorem kw_913 : Cond.code yX11_fault prog_1_method_13_code 10 (some .int) ∈ uu := uu_in (i := 913) (by decide +kernel) (by decide +kernel)
theorem kw_910 : Cond.methodLink "LandSurveyLaw" 84 yX11_fault ∈ uu := uu_in (i := 910) (by decide +kernel) (by decide +kernel)
theorem kw_911 : Cond.instanceMethod yX11_fault ∈ uu := uu_in (i := 911) (by decide +kernel) (by decide +kernel)
theorem kw_912 : Cond.selects "LandSurvey" yX11_fault yX11_fault ∈ uu := uu_in (i := 912) (by decide +kernel) (by decide +kernel)
theorem kw_1937 : Cond.code yX12_fault prog_14_method_65_code 10 (some .int) ∈ uu := uu_in (i := 1937) (by decide +kernel) (by decide +kernel)
theorem kw_1934 : Cond.methodLink "LandSurveyLaw" 88 yX12_fault ∈ uu := uu_in (i := 1934) (by decide +kernel) (by decide +kernel)
theorem kw_1935 : Cond.instanceMethod yX12_fault ∈ uu := uu_in (i := 1935) (by decide +kernel) (by decide +kernel)
theorem kw_1936 : Cond.selects "LandSurveyModel" yX12_fault yX12_fault ∈ uu := uu_in (i := 1936) (by decide +kernel) (by decide +kernel)
theorem kw_947 : Cond.code yX11_rivalry prog_1_method_14_code 2 (some .boolean) ∈ uu := uu_in (i := 947) (by decide +kernel) (by decide +kernel)
theorem kw_944 : Cond.methodLink "LandSurveyLaw" 89 yX11_rivalry ∈ uu := uu_in (i := 944) (by decide +kernel) (by decide +kernel)
theorem kw_945 : Cond.instanceMethod yX11_rivalry ∈ uu := uu_in (i := 945) (by decide +kernel) (by decide +kernel)
theorem kw_946 : Cond.selects "LandSurvey" yX11_rivalry yX11_rivalry ∈ uu := uu_in (i := 946) (by decide +kernel) (by decide +kernel)
theorem kw_1941 : Cond.code yX12_rivalry prog_14_method_84_code 2 (some .boolean) ∈ uu := uu_in (i := 1941) (by decide +kernel) (by decide +kernel)
theorem kw_1938 : Cond.methodLink "LandSurveyLaw" 92 yX12_rivalry ∈ uu := uu_in (i := 1938) (by decide +kernel) (by decide +kernel)
theorem kw_1939 : Cond.instanceMethod yX12_rivalry ∈ uu := uu_in (i := 1939) (by decide +kernel) (by decide +kernel)
theorem kw_1940 : Cond.selects "LandSurveyModel" yX12_rivalry yX12_rivalry ∈ uu := uu_in (i := 1940) (by decide +kernel) (by decide +kernel)
theorem kw_143 : Cond.initialized "LandSurveyLaw" ∈ uu := uu_in (i := 143) (by decide +kernel) (by decide +kernel)
theorem kw_1363 : Cond.codeWith yL_look method_3_code 5 (some .int) [(0, 10, 13, 13)] ∈ uu := uu_in (i := 1363) (by decide +kernel) (by decide +kernel)
theorem kw_1361 : Cond.methodLink "LandSurveyLaw" 93 yL_look ∈ uu := uu_in (i := 1361) (by decide +kernel) (by decide +kernel)
theorem kw_1362 : Cond.static yL_look ∈ uu := uu_in (i := 1362) (by decide +kernel) (by decide +kernel)
theorem kw_1945 : Cond.code yX12_look prog_14_method_85_code 3 (some .int) ∈ uu := uu_in (i := 1945) (by decide +kernel) (by decide +kernel)
theorem kw_1942 : Cond.methodLink "LandSurveyLaw" 98 yX12_look ∈ uu := uu_in (i := 1942) (by decide +kernel) (by decide +kernel)
theorem kw_1943 : Cond.instanceMethod yX12_look ∈ uu := uu_in (i := 1943) (by decide +kernel) (by decide +kernel)
theorem kw_1944 : Cond.selects "LandSurveyModel" yX12_look yX12_look ∈ uu := uu_in (i := 1944) (by decide +kernel) (by decide +kernel)
theorem kw_1465 : Cond.code yX12_thrown prog_14_method_1_code 1 (some .int) ∈ uu := uu_in (i := 1465) (by decide +kernel) (by decide +kernel)
theorem kw_1462 : Cond.methodLink "LandSurveyLaw" 99 yX12_thrown ∈ uu := uu_in (i := 1462) (by decide +kernel) (by decide +kernel)
theorem kw_1463 : Cond.instanceMethod yX12_thrown ∈ uu := uu_in (i := 1463) (by decide +kernel) (by decide +kernel)
theorem kw_1464 : Cond.selects "LandSurveyModel" yX12_thrown yX12_thrown ∈ uu := uu_in (i := 1464) (by decide +kernel) (by decide +kernel)
theorem kw_951 : Cond.code yX11_cost prog_1_method_16_code 3 (some .int) ∈ uu := uu_in (i := 951) (by decide +kernel) (by decide +kernel)
theorem kw_948 : Cond.methodLink "LandSurveyLaw" 102 yX11_cost ∈ uu := uu_in (i := 948) (by decide +kernel) (by decide +kernel)
theorem kw_949 : Cond.instanceMethod yX11_cost ∈ uu := uu_in (i := 949) (by decide +kernel) (by decide +kernel)
theorem kw_950 : Cond.selects "LandSurvey" yX11_cost yX11_cost ∈ uu := uu_in (i := 950) (by decide +kernel) (by decide +kernel)
theorem kw_2091 : Cond.code yX12_cost prog_14_method_86_code 2 (some .int) ∈ uu := uu_in (i := 2091) (by decide +kernel) (by decide +kernel)
theorem kw_2088 : Cond.methodLink "LandSurveyLaw" 105 yX12_cost ∈ uu := uu_in (i := 2088) (by decide +kernel) (by decide +kernel)
theorem kw_2089 : Cond.instanceMethod yX12_cost ∈ uu := uu_in (i := 2089) (by decide +kernel) (by decide +kernel)
theorem kw_2090 : Cond.selects "LandSurveyModel" yX12_cost yX12_cost ∈ uu := uu_in (i := 2090) (by decide +kernel) (by decide +kernel)
theorem kw_1132 : Cond.code yX11_doubted prog_1_method_17_code 6 (some .int) ∈ uu := uu_in (i := 1132) (by decide +kernel) (by decide +kernel)
theorem kw_1129 : Cond.methodLink "LandSurveyLaw" 106 yX11_doubted ∈ uu := uu_in (i := 1129) (by decide +kernel) (by decide +kernel)
theorem kw_1130 : Cond.instanceMethod yX11_doubted ∈ uu := uu_in (i := 1130) (by decide +kernel) (by decide +kernel)
theorem kw_1131 : Cond.selects "LandSurvey" yX11_doubted yX11_doubted ∈ uu := uu_in (i := 1131) (by decide +kernel) (by decide +kernel)
theorem kw_2099 : Cond.code yX12_doubted prog_14_method_87_code 5 (some .int) ∈ uu := uu_in (i := 2099) (by decide +kernel) (by decide +kernel)
theorem kw_2096 : Cond.methodLink "LandSurveyLaw" 109 yX12_doubted ∈ uu := uu_in (i := 2096) (by decide +kernel) (by decide +kernel)
theorem kw_2097 : Cond.instanceMethod yX12_doubted ∈ uu := uu_in (i := 2097) (by decide +kernel) (by decide +kernel)
theorem kw_2098 : Cond.selects "LandSurveyModel" yX12_doubted yX12_doubted ∈ uu := uu_in (i := 2098) (by decide +kernel) (by decide +kernel)
theorem kw_1140 : Cond.code yX11_best prog_1_method_18_code 2 (some .int) ∈ uu := uu_in (i := 1140) (by decide +kernel) (by decide +kernel)
theorem kw_1137 : Cond.methodLink "LandSurveyLaw" 110 yX11_best ∈ uu := uu_in (i := 1137) (by decide +kernel) (by decide +kernel)
theorem kw_1138 : Cond.instanceMethod yX11_best ∈ uu := uu_in (i := 1138) (by decide +kernel) (by decide +kernel)
theorem kw_1139 : Cond.selects "LandSurvey" yX11_best yX11_best ∈ uu := uu_in (i := 1139) (by decide +kernel) (by decide +kernel)
theorem kw_2103 : Cond.code yX12_best prog_14_method_89_code 2 (some .int) ∈ uu := uu_in (i := 2103) (by decide +kernel) (by decide +kernel)
theorem kw_2100 : Cond.methodLink "LandSurveyLaw" 113 yX12_best ∈ uu := uu_in (i := 2100) (by decide +kernel) (by decide +kernel)
theorem kw_2101 : Cond.instanceMethod yX12_best ∈ uu := uu_in (i := 2101) (by decide +kernel) (by decide +kernel)
theorem kw_2102 : Cond.selects "LandSurveyModel" yX12_best yX12_best ∈ uu := uu_in (i := 2102) (by decide +kernel) (by decide +kernel)
theorem kw_1162 : Cond.code yX11_kept prog_1_method_19_code 2 (some .int) ∈ uu := uu_in (i := 1162) (by decide +kernel) (by decide +kernel)
theorem kw_1159 : Cond.methodLink "LandSurveyLaw" 114 yX11_kept ∈ uu := uu_in (i := 1159) (by decide +kernel) (by decide +kernel)
theorem kw_1160 : Cond.instanceMethod yX11_kept ∈ uu := uu_in (i := 1160) (by decide +kernel) (by decide +kernel)
theorem kw_1161 : Cond.selects "LandSurvey" yX11_kept yX11_kept ∈ uu := uu_in (i := 1161) (by decide +kernel) (by decide +kernel)
theorem kw_2111 : Cond.code yX12_kept prog_14_method_90_code 2 (some .int) ∈ uu := uu_in (i := 2111) (by decide +kernel) (by decide +kernel)
theorem kw_2108 : Cond.methodLink "LandSurveyLaw" 117 yX12_kept ∈ uu := uu_in (i := 2108) (by decide +kernel) (by decide +kernel)
theorem kw_2109 : Cond.instanceMethod yX12_kept ∈ uu := uu_in (i := 2109) (by decide +kernel) (by decide +kernel)
theorem kw_2110 : Cond.selects "LandSurveyModel" yX12_kept yX12_kept ∈ uu := uu_in (i := 2110) (by decide +kernel) (by decide +kernel)
theorem kw_1436 : Cond.codeWith yL_base method_4_code 7 (some .int) [(0, 14, 17, 13)] ∈ uu := uu_in (i := 1436) (by decide +kernel) (by decide +kernel)
theorem kw_1434 : Cond.methodLink "LandSurveyLaw" 118 yL_base ∈ uu := uu_in (i := 1434) (by decide +kernel) (by decide +kernel)
theorem kw_1435 : Cond.static yL_base ∈ uu := uu_in (i := 1435) (by decide +kernel) (by decide +kernel)
theorem kw_2115 : Cond.code yX12_base prog_14_method_91_code 5 (some .int) ∈ uu := uu_in (i := 2115) (by decide +kernel) (by decide +kernel)
theorem kw_2112 : Cond.methodLink "LandSurveyLaw" 121 yX12_base ∈ uu := uu_in (i := 2112) (by decide +kernel) (by decide +kernel)
theorem kw_2113 : Cond.instanceMethod yX12_base ∈ uu := uu_in (i := 2113) (by decide +kernel) (by decide +kernel)
theorem kw_2114 : Cond.selects "LandSurveyModel" yX12_base yX12_base ∈ uu := uu_in (i := 2114) (by decide +kernel) (by decide +kernel)
theorem kw_1166 : Cond.code yX11_lies prog_1_method_21_code 5 (some .int) ∈ uu := uu_in (i := 1166) (by decide +kernel) (by decide +kernel)
theorem kw_1163 : Cond.methodLink "LandSurveyLaw" 122 yX11_lies ∈ uu := uu_in (i := 1163) (by decide +kernel) (by decide +kernel)
theorem kw_1164 : Cond.instanceMethod yX11_lies ∈ uu := uu_in (i := 1164) (by decide +kernel) (by decide +kernel)
theorem kw_1165 : Cond.selects "LandSurvey" yX11_lies yX11_lies ∈ uu := uu_in (i := 1165) (by decide +kernel) (by decide +kernel)
theorem kw_2119 : Cond.code yX12_lies prog_14_method_95_code 4 (some .int) ∈ uu := uu_in (i := 2119) (by decide +kernel) (by decide +kernel)
theorem kw_2116 : Cond.methodLink "LandSurveyLaw" 126 yX12_lies ∈ uu := uu_in (i := 2116) (by decide +kernel) (by decide +kernel)
theorem kw_2117 : Cond.instanceMethod yX12_lies ∈ uu := uu_in (i := 2117) (by decide +kernel) (by decide +kernel)
theorem kw_2118 : Cond.selects "LandSurveyModel" yX12_lies yX12_lies ∈ uu := uu_in (i := 2118) (by decide +kernel) (by decide +kernel)
theorem kw_1191 : Cond.code yX11_line prog_1_method_22_code 7 (some .int) ∈ uu := uu_in (i := 1191) (by decide +kernel) (by decide +kernel)
theorem kw_1188 : Cond.methodLink "LandSurveyLaw" 127 yX11_line ∈ uu := uu_in (i := 1188) (by decide +kernel) (by decide +kernel)
theorem kw_1189 : Cond.instanceMethod yX11_line ∈ uu := uu_in (i := 1189) (by decide +kernel) (by decide +kernel)
theorem kw_1190 : Cond.selects "LandSurvey" yX11_line yX11_line ∈ uu := uu_in (i := 1190) (by decide +kernel) (by decide +kernel)
theorem kw_2135 : Cond.code yX12_line prog_14_method_97_code 10 (some .int) ∈ uu := uu_in (i := 2135) (by decide +kernel) (by decide +kernel)
theorem kw_2132 : Cond.methodLink "LandSurveyLaw" 130 yX12_line ∈ uu := uu_in (i := 2132) (by decide +kernel) (by decide +kernel)
theorem kw_2133 : Cond.instanceMethod yX12_line ∈ uu := uu_in (i := 2133) (by decide +kernel) (by decide +kernel)
theorem kw_2134 : Cond.selects "LandSurveyModel" yX12_line yX12_line ∈ uu := uu_in (i := 2134) (by decide +kernel) (by decide +kernel)
theorem kw_1443 : Cond.codeWith yL_deep method_5_code 7 (some .int) [(0, 14, 17, 13)] ∈ uu := uu_in (i := 1443) (by decide +kernel) (by decide +kernel)
theorem kw_1441 : Cond.methodLink "LandSurveyLaw" 131 yL_deep ∈ uu := uu_in (i := 1441) (by decide +kernel) (by decide +kernel)
theorem kw_1442 : Cond.static yL_deep ∈ uu := uu_in (i := 1442) (by decide +kernel) (by decide +kernel)
theorem kw_2142 : Cond.code yX12_deep prog_14_method_105_code 5 (some .int) ∈ uu := uu_in (i := 2142) (by decide +kernel) (by decide +kernel)
theorem kw_2139 : Cond.methodLink "LandSurveyLaw" 133 yX12_deep ∈ uu := uu_in (i := 2139) (by decide +kernel) (by decide +kernel)
theorem kw_2140 : Cond.instanceMethod yX12_deep ∈ uu := uu_in (i := 2140) (by decide +kernel) (by decide +kernel)
theorem kw_2141 : Cond.selects "LandSurveyModel" yX12_deep yX12_deep ∈ uu := uu_in (i := 2141) (by decide +kernel) (by decide +kernel)
theorem kw_1205 : Cond.code yX11_water prog_1_method_24_code 8 (some .int) ∈ uu := uu_in (i := 1205) (by decide +kernel) (by decide +kernel)
theorem kw_1202 : Cond.methodLink "LandSurveyLaw" 134 yX11_water ∈ uu := uu_in (i := 1202) (by decide +kernel) (by decide +kernel)
theorem kw_1203 : Cond.instanceMethod yX11_water ∈ uu := uu_in (i := 1203) (by decide +kernel) (by decide +kernel)
theorem kw_1204 : Cond.selects "LandSurvey" yX11_water yX11_water ∈ uu := uu_in (i := 1204) (by decide +kernel) (by decide +kernel)
theorem kw_2167 : Cond.code yX12_water prog_14_method_106_code 10 (some .int) ∈ uu := uu_in (i := 2167) (by decide +kernel) (by decide +kernel)
theorem kw_2164 : Cond.methodLink "LandSurveyLaw" 137 yX12_water ∈ uu := uu_in (i := 2164) (by decide +kernel) (by decide +kernel)
theorem kw_2165 : Cond.instanceMethod yX12_water ∈ uu := uu_in (i := 2165) (by decide +kernel) (by decide +kernel)
theorem kw_2166 : Cond.selects "LandSurveyModel" yX12_water yX12_water ∈ uu := uu_in (i := 2166) (by decide +kernel) (by decide +kernel)
theorem kw_1243 : Cond.code yX11_seam prog_1_method_25_code 6 (some .int) ∈ uu := uu_in (i := 1243) (by decide +kernel) (by decide +kernel)
theorem kw_1240 : Cond.methodLink "LandSurveyLaw" 138 yX11_seam ∈ uu := uu_in (i := 1240) (by decide +kernel) (by decide +kernel)
theorem kw_1241 : Cond.instanceMethod yX11_seam ∈ uu := uu_in (i := 1241) (by decide +kernel) (by decide +kernel)
theorem kw_1242 : Cond.selects "LandSurvey" yX11_seam yX11_seam ∈ uu := uu_in (i := 1242) (by decide +kernel) (by decide +kernel)
theorem kw_2179 : Cond.code yX12_seam prog_14_method_107_code 6 (some .int) ∈ uu := uu_in (i := 2179) (by decide +kernel) (by decide +kernel)
theorem kw_2176 : Cond.methodLink "LandSurveyLaw" 141 yX12_seam ∈ uu := uu_in (i := 2176) (by decide +kernel) (by decide +kernel)
theorem kw_2177 : Cond.instanceMethod yX12_seam ∈ uu := uu_in (i := 2177) (by decide +kernel) (by decide +kernel)
theorem kw_2178 : Cond.selects "LandSurveyModel" yX12_seam yX12_seam ∈ uu := uu_in (i := 2178) (by decide +kernel) (by decide +kernel)
theorem kw_1263 : Cond.code yX11_sheet prog_1_method_26_code 11 (some .int) ∈ uu := uu_in (i := 1263) (by decide +kernel) (by decide +kernel)
theorem kw_1260 : Cond.methodLink "LandSurveyLaw" 142 yX11_sheet ∈ uu := uu_in (i := 1260) (by decide +kernel) (by decide +kernel)
theorem kw_1261 : Cond.instanceMethod yX11_sheet ∈ uu := uu_in (i := 1261) (by decide +kernel) (by decide +kernel)
theorem kw_1262 : Cond.selects "LandSurvey" yX11_sheet yX11_sheet ∈ uu := uu_in (i := 1262) (by decide +kernel) (by decide +kernel)
theorem kw_2183 : Cond.code yX12_sheet prog_14_method_108_code 7 (some .int) ∈ uu := uu_in (i := 2183) (by decide +kernel) (by decide +kernel)
theorem kw_2180 : Cond.methodLink "LandSurveyLaw" 145 yX12_sheet ∈ uu := uu_in (i := 2180) (by decide +kernel) (by decide +kernel)
theorem kw_2181 : Cond.instanceMethod yX12_sheet ∈ uu := uu_in (i := 2181) (by decide +kernel) (by decide +kernel)
theorem kw_2182 : Cond.selects "LandSurveyModel" yX12_sheet yX12_sheet ∈ uu := uu_in (i := 2182) (by decide +kernel) (by decide +kernel)
theorem kw_1278 : Cond.code yX11_drawn prog_1_method_27_code 5 (some .int) ∈ uu := uu_in (i := 1278) (by decide +kernel) (by decide +kernel)
theorem kw_1275 : Cond.methodLink "LandSurveyLaw" 146 yX11_drawn ∈ uu := uu_in (i := 1275) (by decide +kernel) (by decide +kernel)
theorem kw_1276 : Cond.instanceMethod yX11_drawn ∈ uu := uu_in (i := 1276) (by decide +kernel) (by decide +kernel)
theorem kw_1277 : Cond.selects "LandSurvey" yX11_drawn yX11_drawn ∈ uu := uu_in (i := 1277) (by decide +kernel) (by decide +kernel)
theorem kw_2187 : Cond.code yX12_drawn prog_14_method_110_code 4 (some .int) ∈ uu := uu_in (i := 2187) (by decide +kernel) (by decide +kernel)
theorem kw_2184 : Cond.methodLink "LandSurveyLaw" 149 yX12_drawn ∈ uu := uu_in (i := 2184) (by decide +kernel) (by decide +kernel)
theorem kw_2185 : Cond.instanceMethod yX12_drawn ∈ uu := uu_in (i := 2185) (by decide +kernel) (by decide +kernel)
theorem kw_2186 : Cond.selects "LandSurveyModel" yX12_drawn yX12_drawn ∈ uu := uu_in (i := 2186) (by decide +kernel) (by decide +kernel)
theorem kw_1286 : Cond.code yX11_quarrel prog_1_method_28_code 7 (some .int) ∈ uu := uu_in (i := 1286) (by decide +kernel) (by decide +kernel)
theorem kw_1283 : Cond.methodLink "LandSurveyLaw" 150 yX11_quarrel ∈ uu := uu_in (i := 1283) (by decide +kernel) (by decide +kernel)
theorem kw_1284 : Cond.instanceMethod yX11_quarrel ∈ uu := uu_in (i := 1284) (by decide +kernel) (by decide +kernel)
theorem kw_1285 : Cond.selects "LandSurvey" yX11_quarrel yX11_quarrel ∈ uu := uu_in (i := 1285) (by decide +kernel) (by decide +kernel)
theorem kw_2195 : Cond.code yX12_quarrel prog_14_method_111_code 7 (some .int) ∈ uu := uu_in (i := 2195) (by decide +kernel) (by decide +kernel)
theorem kw_2192 : Cond.methodLink "LandSurveyLaw" 153 yX12_quarrel ∈ uu := uu_in (i := 2192) (by decide +kernel) (by decide +kernel)
theorem kw_2193 : Cond.instanceMethod yX12_quarrel ∈ uu := uu_in (i := 2193) (by decide +kernel) (by decide +kernel)
theorem kw_2194 : Cond.selects "LandSurveyModel" yX12_quarrel yX12_quarrel ∈ uu := uu_in (i := 2194) (by decide +kernel) (by decide +kernel)
theorem kw_1290 : Cond.code yX11_stale prog_1_method_29_code 5 (some .int) ∈ uu := uu_in (i := 1290) (by decide +kernel) (by decide +kernel)
theorem kw_1287 : Cond.methodLink "LandSurveyLaw" 154 yX11_stale ∈ uu := uu_in (i := 1287) (by decide +kernel) (by decide +kernel)
theorem kw_1288 : Cond.instanceMethod yX11_stale ∈ uu := uu_in (i := 1288) (by decide +kernel) (by decide +kernel)
theorem kw_1289 : Cond.selects "LandSurvey" yX11_stale yX11_stale ∈ uu := uu_in (i := 1289) (by decide +kernel) (by decide +kernel)
theorem kw_2199 : Cond.code yX12_stale prog_14_method_112_code 5 (some .int) ∈ uu := uu_in (i := 2199) (by decide +kernel) (by decide +kernel)
theorem kw_2196 : Cond.methodLink "LandSurveyLaw" 157 yX12_stale ∈ uu := uu_in (i := 2196) (by decide +kernel) (by decide +kernel)
theorem kw_2197 : Cond.instanceMethod yX12_stale ∈ uu := uu_in (i := 2197) (by decide +kernel) (by decide +kernel)
theorem kw_2198 : Cond.selects "LandSurveyModel" yX12_stale yX12_stale ∈ uu := uu_in (i := 2198) (by decide +kernel) (by decide +kernel)
theorem kw_1294 : Cond.code yX11_doubles prog_1_method_30_code 7 (some .int) ∈ uu := uu_in (i := 1294) (by decide +kernel) (by decide +kernel)
theorem kw_1291 : Cond.methodLink "LandSurveyLaw" 158 yX11_doubles ∈ uu := uu_in (i := 1291) (by decide +kernel) (by decide +kernel)
theorem kw_1292 : Cond.instanceMethod yX11_doubles ∈ uu := uu_in (i := 1292) (by decide +kernel) (by decide +kernel)
theorem kw_1293 : Cond.selects "LandSurvey" yX11_doubles yX11_doubles ∈ uu := uu_in (i := 1293) (by decide +kernel) (by decide +kernel)
theorem kw_2203 : Cond.code yX12_doubles prog_14_method_114_code 7 (some .int) ∈ uu := uu_in (i := 2203) (by decide +kernel) (by decide +kernel)
theorem kw_2200 : Cond.methodLink "LandSurveyLaw" 161 yX12_doubles ∈ uu := uu_in (i := 2200) (by decide +kernel) (by decide +kernel)
theorem kw_2201 : Cond.instanceMethod yX12_doubles ∈ uu := uu_in (i := 2201) (by decide +kernel) (by decide +kernel)
theorem kw_2202 : Cond.selects "LandSurveyModel" yX12_doubles yX12_doubles ∈ uu := uu_in (i := 2202) (by decide +kernel) (by decide +kernel)
theorem kw_1454 : Cond.codeWith yL_habit method_6_code 4 (some .int) [(0, 9, 12, 13)] ∈ uu := uu_in (i := 1454) (by decide +kernel) (by decide +kernel)
theorem kw_1452 : Cond.methodLink "LandSurveyLaw" 162 yL_habit ∈ uu := uu_in (i := 1452) (by decide +kernel) (by decide +kernel)
theorem kw_1453 : Cond.static yL_habit ∈ uu := uu_in (i := 1453) (by decide +kernel) (by decide +kernel)
theorem kw_2211 : Cond.code yX12_habit prog_14_method_115_code 6 (some .int) ∈ uu := uu_in (i := 2211) (by decide +kernel) (by decide +kernel)
theorem kw_2208 : Cond.methodLink "LandSurveyLaw" 165 yX12_habit ∈ uu := uu_in (i := 2208) (by decide +kernel) (by decide +kernel)
theorem kw_2209 : Cond.instanceMethod yX12_habit ∈ uu := uu_in (i := 2209) (by decide +kernel) (by decide +kernel)
theorem kw_2210 : Cond.selects "LandSurveyModel" yX12_habit yX12_habit ∈ uu := uu_in (i := 2210) (by decide +kernel) (by decide +kernel)
theorem kw_1304 : Cond.code yX11_question prog_1_method_32_code 5 (some .boolean) ∈ uu := uu_in (i := 1304) (by decide +kernel) (by decide +kernel)
theorem kw_1301 : Cond.methodLink "LandSurveyLaw" 166 yX11_question ∈ uu := uu_in (i := 1301) (by decide +kernel) (by decide +kernel)
theorem kw_1302 : Cond.instanceMethod yX11_question ∈ uu := uu_in (i := 1302) (by decide +kernel) (by decide +kernel)
theorem kw_1303 : Cond.selects "LandSurvey" yX11_question yX11_question ∈ uu := uu_in (i := 1303) (by decide +kernel) (by decide +kernel)
theorem kw_2215 : Cond.code yX12_question prog_14_method_117_code 4 (some .boolean) ∈ uu := uu_in (i := 2215) (by decide +kernel) (by decide +kernel)
theorem kw_2212 : Cond.methodLink "LandSurveyLaw" 169 yX12_question ∈ uu := uu_in (i := 2212) (by decide +kernel) (by decide +kernel)
theorem kw_2213 : Cond.instanceMethod yX12_question ∈ uu := uu_in (i := 2213) (by decide +kernel) (by decide +kernel)
theorem kw_2214 : Cond.selects "LandSurveyModel" yX12_question yX12_question ∈ uu := uu_in (i := 2214) (by decide +kernel) (by decide +kernel)
theorem kw_1308 : Cond.code yX11_place prog_1_method_33_code 5 (some .int) ∈ uu := uu_in (i := 1308) (by decide +kernel) (by decide +kernel)
theorem kw_1305 : Cond.methodLink "LandSurveyLaw" 170 yX11_place ∈ uu := uu_in (i := 1305) (by decide +kernel) (by decide +kernel)
theorem kw_1306 : Cond.instanceMethod yX11_place ∈ uu := uu_in (i := 1306) (by decide +kernel) (by decide +kernel)
theorem kw_1307 : Cond.selects "LandSurvey" yX11_place yX11_place ∈ uu := uu_in (i := 1307) (by decide +kernel) (by decide +kernel)
theorem kw_2223 : Cond.code yX12_place prog_14_method_118_code 4 (some .int) ∈ uu := uu_in (i := 2223) (by decide +kernel) (by decide +kernel)
theorem kw_2220 : Cond.methodLink "LandSurveyLaw" 173 yX12_place ∈ uu := uu_in (i := 2220) (by decide +kernel) (by decide +kernel)
theorem kw_2221 : Cond.instanceMethod yX12_place ∈ uu := uu_in (i := 2221) (by decide +kernel) (by decide +kernel)
theorem kw_2222 : Cond.selects "LandSurveyModel" yX12_place yX12_place ∈ uu := uu_in (i := 2222) (by decide +kernel) (by decide +kernel)
theorem kw_1312 : Cond.code yX11_doubt prog_1_method_34_code 2 (some .int) ∈ uu := uu_in (i := 1312) (by decide +kernel) (by decide +kernel)
theorem kw_1309 : Cond.methodLink "LandSurveyLaw" 174 yX11_doubt ∈ uu := uu_in (i := 1309) (by decide +kernel) (by decide +kernel)
theorem kw_1310 : Cond.instanceMethod yX11_doubt ∈ uu := uu_in (i := 1310) (by decide +kernel) (by decide +kernel)
theorem kw_1311 : Cond.selects "LandSurvey" yX11_doubt yX11_doubt ∈ uu := uu_in (i := 1311) (by decide +kernel) (by decide +kernel)
theorem kw_2227 : Cond.code yX12_doubt prog_14_method_121_code 1 (some .int) ∈ uu := uu_in (i := 2227) (by decide +kernel) (by decide +kernel)
theorem kw_2224 : Cond.methodLink "LandSurveyLaw" 177 yX12_doubt ∈ uu := uu_in (i := 2224) (by decide +kernel) (by decide +kernel)
theorem kw_2225 : Cond.instanceMethod yX12_doubt ∈ uu := uu_in (i := 2225) (by decide +kernel) (by decide +kernel)
theorem kw_2226 : Cond.selects "LandSurveyModel" yX12_doubt yX12_doubt ∈ uu := uu_in (i := 2226) (by decide +kernel) (by decide +kernel)
theorem kw_1324 : Cond.code yX11_left prog_1_method_35_code 3 (some .int) ∈ uu := uu_in (i := 1324) (by decide +kernel) (by decide +kernel)
theorem kw_1321 : Cond.methodLink "LandSurveyLaw" 178 yX11_left ∈ uu := uu_in (i := 1321) (by decide +kernel) (by decide +kernel)
theorem kw_1322 : Cond.instanceMethod yX11_left ∈ uu := uu_in (i := 1322) (by decide +kernel) (by decide +kernel)
theorem kw_1323 : Cond.selects "LandSurvey" yX11_left yX11_left ∈ uu := uu_in (i := 1323) (by decide +kernel) (by decide +kernel)
theorem kw_2239 : Cond.code yX12_left prog_14_method_125_code 2 (some .int) ∈ uu := uu_in (i := 2239) (by decide +kernel) (by decide +kernel)
theorem kw_2236 : Cond.methodLink "LandSurveyLaw" 181 yX12_left ∈ uu := uu_in (i := 2236) (by decide +kernel) (by decide +kernel)
theorem kw_2237 : Cond.instanceMethod yX12_left ∈ uu := uu_in (i := 2237) (by decide +kernel) (by decide +kernel)
theorem kw_2238 : Cond.selects "LandSurveyModel" yX12_left yX12_left ∈ uu := uu_in (i := 2238) (by decide +kernel) (by decide +kernel)
theorem kw_1344 : Cond.code yX11_next prog_1_method_36_code 11 (some .int) ∈ uu := uu_in (i := 1344) (by decide +kernel) (by decide +kernel)
theorem kw_1341 : Cond.methodLink "LandSurveyLaw" 182 yX11_next ∈ uu := uu_in (i := 1341) (by decide +kernel) (by decide +kernel)
theorem kw_1342 : Cond.instanceMethod yX11_next ∈ uu := uu_in (i := 1342) (by decide +kernel) (by decide +kernel)
theorem kw_1343 : Cond.selects "LandSurvey" yX11_next yX11_next ∈ uu := uu_in (i := 1343) (by decide +kernel) (by decide +kernel)
theorem kw_2254 : Cond.code yX12_next prog_14_method_126_code 6 (some .int) ∈ uu := uu_in (i := 2254) (by decide +kernel) (by decide +kernel)
theorem kw_2251 : Cond.methodLink "LandSurveyLaw" 185 yX12_next ∈ uu := uu_in (i := 2251) (by decide +kernel) (by decide +kernel)
theorem kw_2252 : Cond.instanceMethod yX12_next ∈ uu := uu_in (i := 2252) (by decide +kernel) (by decide +kernel)
theorem kw_2253 : Cond.selects "LandSurveyModel" yX12_next yX12_next ∈ uu := uu_in (i := 2253) (by decide +kernel) (by decide +kernel)
theorem kw_1348 : Cond.code yX11_count prog_1_method_37_code 2 (some .int) ∈ uu := uu_in (i := 1348) (by decide +kernel) (by decide +kernel)
theorem kw_1345 : Cond.methodLink "LandSurveyLaw" 186 yX11_count ∈ uu := uu_in (i := 1345) (by decide +kernel) (by decide +kernel)
theorem kw_1346 : Cond.instanceMethod yX11_count ∈ uu := uu_in (i := 1346) (by decide +kernel) (by decide +kernel)
theorem kw_1347 : Cond.selects "LandSurvey" yX11_count yX11_count ∈ uu := uu_in (i := 1347) (by decide +kernel) (by decide +kernel)
theorem kw_2258 : Cond.code yX12_count prog_14_method_129_code 2 (some .int) ∈ uu := uu_in (i := 2258) (by decide +kernel) (by decide +kernel)
theorem kw_2255 : Cond.methodLink "LandSurveyLaw" 189 yX12_count ∈ uu := uu_in (i := 2255) (by decide +kernel) (by decide +kernel)
theorem kw_2256 : Cond.instanceMethod yX12_count ∈ uu := uu_in (i := 2256) (by decide +kernel) (by decide +kernel)
theorem kw_2257 : Cond.selects "LandSurveyModel" yX12_count yX12_count ∈ uu := uu_in (i := 2257) (by decide +kernel) (by decide +kernel)
theorem dL_law_2014 : decode cL_law 2014 = .ok (.iconst 1, 1) := by decide +kernel
theorem dL_law_2015 : decode cL_law 2015 = .ok (.ireturn, 1) := by decide +kernel
theorem dL_law_2008 : decode cL_law 2008 = .ok (.iinc 4 8, 3) := by decide +kernel
theorem dL_law_2011 : decode cL_law 2011 = .ok (.goto (-1988), 3) := by decide +kernel
theorem dL_law_23 : decode cL_law 23 = .ok (.iload 4, 2) := by decide +kernel
theorem dL_law_25 : decode cL_law 25 = .ok (.aload_n 0, 1) := by decide +kernel
theorem dL_law_26 : decode cL_law 26 = .ok (.arraylength, 1) := by decide +kernel
theorem dL_law_27 : decode cL_law 27 = .ok (.bipush 8, 2) := by decide +kernel
theorem dL_law_29 : decode cL_law 29 = .ok (.isub, 1) := by decide +kernel
theorem dL_law_30 : decode cL_law 30 = .ok (.if_icmp .gt 1984, 3) := by decide +kernel
theorem dL_law_225 : decode cL_law 225 = .ok (.aload_n 1, 1) := by decide +kernel
theorem dL_law_226 : decode cL_law 226 = .ok (.aload_n 0, 1) := by decide +kernel
theorem dL_law_227 : decode cL_law 227 = .ok (.iload 4, 2) := by decide +kernel
theorem dL_law_229 : decode cL_law 229 = .ok (.iconst 1, 1) := by decide +kernel
theorem dL_law_230 : decode cL_law 230 = .ok (.iadd, 1) := by decide +kernel
theorem dL_law_231 : decode cL_law 231 = .ok (.iaload, 1) := by decide +kernel
theorem dL_law_232 : decode cL_law 232 = .ok (.invokevirtual 34, 3) := by decide +kernel
theorem dL_law_235 : decode cL_law 235 = .ok (.aload_n 2, 1) := by decide +kernel
theorem dL_law_236 : decode cL_law 236 = .ok (.aload_n 0, 1) := by decide +kernel
theorem dL_law_237 : decode cL_law 237 = .ok (.iload 4, 2) := by decide +kernel
theorem dL_law_239 : decode cL_law 239 = .ok (.iconst 1, 1) := by decide +kernel
theorem dL_law_240 : decode cL_law 240 = .ok (.iadd, 1) := by decide +kernel
theorem dL_law_241 : decode cL_law 241 = .ok (.iaload, 1) := by decide +kernel
theorem dL_law_242 : decode cL_law 242 = .ok (.invokevirtual 38, 3) := by decide +kernel
theorem dL_law_245 : decode cL_law 245 = .ok (.if_icmp .eq 1763, 3) := by decide +kernel
theorem dL_law_250 : decode cL_law 250 = .ok (.aload_n 1, 1) := by decide +kernel
theorem dL_law_251 : decode cL_law 251 = .ok (.aload_n 0, 1) := by decide +kernel
theorem dL_law_252 : decode cL_law 252 = .ok (.iload 4, 2) := by decide +kernel
theorem dL_law_254 : decode cL_law 254 = .ok (.iconst 1, 1) := by decide +kernel
theorem dL_law_255 : decode cL_law 255 = .ok (.iadd, 1) := by decide +kernel
theorem dL_law_256 : decode cL_law 256 = .ok (.iaload, 1) := by decide +kernel
theorem dL_law_257 : decode cL_law 257 = .ok (.aload_n 0, 1) := by decide +kernel
theorem dL_law_258 : decode cL_law 258 = .ok (.iload 4, 2) := by decide +kernel
theorem dL_law_260 : decode cL_law 260 = .ok (.iconst 2, 1) := by decide +kernel
theorem dL_law_261 : decode cL_law 261 = .ok (.iadd, 1) := by decide +kernel
theorem dL_law_262 : decode cL_law 262 = .ok (.iaload, 1) := by decide +kernel
theorem dL_law_263 : decode cL_law 263 = .ok (.aload_n 0, 1) := by decide +kernel
theorem dL_law_264 : decode cL_law 264 = .ok (.iload 4, 2) := by decide +kernel
theorem dL_law_266 : decode cL_law 266 = .ok (.iconst 3, 1) := by decide +kernel
theorem dL_law_267 : decode cL_law 267 = .ok (.iadd, 1) := by decide +kernel
theorem dL_law_268 : decode cL_law 268 = .ok (.iaload, 1) := by decide +kernel
theorem dL_law_269 : decode cL_law 269 = .ok (.aload_n 0, 1) := by decide +kernel
theorem dL_law_270 : decode cL_law 270 = .ok (.iload 4, 2) := by decide +kernel
theorem dL_law_272 : decode cL_law 272 = .ok (.iconst 4, 1) := by decide +kernel
theorem dL_law_273 : decode cL_law 273 = .ok (.iadd, 1) := by decide +kernel
theorem dL_law_274 : decode cL_law 274 = .ok (.iaload, 1) := by decide +kernel
theorem dL_law_275 : decode cL_law 275 = .ok (.ifCond .eq 7, 3) := by decide +kernel
theorem dL_law_282 : decode cL_law 282 = .ok (.iconst 0, 1) := by decide +kernel
theorem dL_law_283 : decode cL_law 283 = .ok (.invokevirtual 39, 3) := by decide +kernel
theorem dL_law_286 : decode cL_law 286 = .ok (.aload_n 2, 1) := by decide +kernel
theorem dL_law_287 : decode cL_law 287 = .ok (.aload_n 0, 1) := by decide +kernel
theorem dL_law_288 : decode cL_law 288 = .ok (.iload 4, 2) := by decide +kernel
theorem dL_law_290 : decode cL_law 290 = .ok (.iconst 1, 1) := by decide +kernel
theorem dL_law_291 : decode cL_law 291 = .ok (.iadd, 1) := by decide +kernel
theorem dL_law_292 : decode cL_law 292 = .ok (.iaload, 1) := by decide +kernel
theorem dL_law_293 : decode cL_law 293 = .ok (.aload_n 0, 1) := by decide +kernel
theorem dL_law_294 : decode cL_law 294 = .ok (.iload 4, 2) := by decide +kernel
theorem dL_law_296 : decode cL_law 296 = .ok (.iconst 2, 1) := by decide +kernel
theorem dL_law_297 : decode cL_law 297 = .ok (.iadd, 1) := by decide +kernel
theorem dL_law_298 : decode cL_law 298 = .ok (.iaload, 1) := by decide +kernel
theorem dL_law_299 : decode cL_law 299 = .ok (.aload_n 0, 1) := by decide +kernel
theorem dL_law_300 : decode cL_law 300 = .ok (.iload 4, 2) := by decide +kernel
theorem dL_law_302 : decode cL_law 302 = .ok (.iconst 3, 1) := by decide +kernel
theorem dL_law_303 : decode cL_law 303 = .ok (.iadd, 1) := by decide +kernel
theorem dL_law_304 : decode cL_law 304 = .ok (.iaload, 1) := by decide +kernel
theorem dL_law_305 : decode cL_law 305 = .ok (.aload_n 0, 1) := by decide +kernel
theorem dL_law_306 : decode cL_law 306 = .ok (.iload 4, 2) := by decide +kernel
theorem dL_law_308 : decode cL_law 308 = .ok (.iconst 4, 1) := by decide +kernel
theorem dL_law_309 : decode cL_law 309 = .ok (.iadd, 1) := by decide +kernel
theorem dL_law_310 : decode cL_law 310 = .ok (.iaload, 1) := by decide +kernel
theorem dL_law_311 : decode cL_law 311 = .ok (.ifCond .eq 7, 3) := by decide +kernel
theorem dL_law_318 : decode cL_law 318 = .ok (.iconst 0, 1) := by decide +kernel
theorem dL_law_319 : decode cL_law 319 = .ok (.invokevirtual 43, 3) := by decide +kernel
theorem dL_law_322 : decode cL_law 322 = .ok (.if_icmp .eq 1686, 3) := by decide +kernel
theorem dL_law_278 : decode cL_law 278 = .ok (.iconst 1, 1) := by decide +kernel
theorem dL_law_279 : decode cL_law 279 = .ok (.goto 4, 3) := by decide +kernel
theorem dL_law_314 : decode cL_law 314 = .ok (.iconst 1, 1) := by decide +kernel
theorem dL_law_315 : decode cL_law 315 = .ok (.goto 4, 3) := by decide +kernel
theorem dL_law_327 : decode cL_law 327 = .ok (.aload_n 1, 1) := by decide +kernel
theorem dL_law_328 : decode cL_law 328 = .ok (.aload_n 0, 1) := by decide +kernel
theorem dL_law_329 : decode cL_law 329 = .ok (.iload 4, 2) := by decide +kernel
theorem dL_law_331 : decode cL_law 331 = .ok (.iconst 1, 1) := by decide +kernel
theorem dL_law_332 : decode cL_law 332 = .ok (.iadd, 1) := by decide +kernel
theorem dL_law_333 : decode cL_law 333 = .ok (.iaload, 1) := by decide +kernel
theorem dL_law_334 : decode cL_law 334 = .ok (.aload_n 0, 1) := by decide +kernel
theorem dL_law_335 : decode cL_law 335 = .ok (.iload 4, 2) := by decide +kernel
theorem dL_law_337 : decode cL_law 337 = .ok (.iconst 2, 1) := by decide +kernel
theorem dL_law_338 : decode cL_law 338 = .ok (.iadd, 1) := by decide +kernel
theorem dL_law_339 : decode cL_law 339 = .ok (.iaload, 1) := by decide +kernel
theorem dL_law_340 : decode cL_law 340 = .ok (.aload_n 0, 1) := by decide +kernel
theorem dL_law_341 : decode cL_law 341 = .ok (.iload 4, 2) := by decide +kernel
theorem dL_law_343 : decode cL_law 343 = .ok (.iconst 3, 1) := by decide +kernel
theorem dL_law_344 : decode cL_law 344 = .ok (.iadd, 1) := by decide +kernel
theorem dL_law_345 : decode cL_law 345 = .ok (.iaload, 1) := by decide +kernel
theorem dL_law_346 : decode cL_law 346 = .ok (.ifCond .eq 7, 3) := by decide +kernel
theorem dL_law_353 : decode cL_law 353 = .ok (.iconst 0, 1) := by decide +kernel
theorem dL_law_354 : decode cL_law 354 = .ok (.invokevirtual 44, 3) := by decide +kernel
theorem dL_law_357 : decode cL_law 357 = .ok (.aload_n 2, 1) := by decide +kernel
theorem dL_law_358 : decode cL_law 358 = .ok (.aload_n 0, 1) := by decide +kernel
theorem dL_law_359 : decode cL_law 359 = .ok (.iload 4, 2) := by decide +kernel
theorem dL_law_361 : decode cL_law 361 = .ok (.iconst 1, 1) := by decide +kernel
theorem dL_law_362 : decode cL_law 362 = .ok (.iadd, 1) := by decide +kernel
theorem dL_law_363 : decode cL_law 363 = .ok (.iaload, 1) := by decide +kernel
theorem dL_law_364 : decode cL_law 364 = .ok (.aload_n 0, 1) := by decide +kernel
theorem dL_law_365 : decode cL_law 365 = .ok (.iload 4, 2) := by decide +kernel
theorem dL_law_367 : decode cL_law 367 = .ok (.iconst 2, 1) := by decide +kernel
theorem dL_law_368 : decode cL_law 368 = .ok (.iadd, 1) := by decide +kernel
theorem dL_law_369 : decode cL_law 369 = .ok (.iaload, 1) := by decide +kernel
theorem dL_law_370 : decode cL_law 370 = .ok (.aload_n 0, 1) := by decide +kernel
theorem dL_law_371 : decode cL_law 371 = .ok (.iload 4, 2) := by decide +kernel
theorem dL_law_373 : decode cL_law 373 = .ok (.iconst 3, 1) := by decide +kernel
theorem dL_law_374 : decode cL_law 374 = .ok (.iadd, 1) := by decide +kernel
theorem dL_law_375 : decode cL_law 375 = .ok (.iaload, 1) := by decide +kernel
theorem dL_law_376 : decode cL_law 376 = .ok (.ifCond .eq 7, 3) := by decide +kernel
theorem dL_law_383 : decode cL_law 383 = .ok (.iconst 0, 1) := by decide +kernel
theorem dL_law_384 : decode cL_law 384 = .ok (.invokevirtual 48, 3) := by decide +kernel
theorem dL_law_387 : decode cL_law 387 = .ok (.if_icmp .eq 1621, 3) := by decide +kernel
theorem dL_law_349 : decode cL_law 349 = .ok (.iconst 1, 1) := by decide +kernel
theorem dL_law_350 : decode cL_law 350 = .ok (.goto 4, 3) := by decide +kernel
theorem dL_law_379 : decode cL_law 379 = .ok (.iconst 1, 1) := by decide +kernel
theorem dL_law_380 : decode cL_law 380 = .ok (.goto 4, 3) := by decide +kernel
theorem dL_law_392 : decode cL_law 392 = .ok (.aload_n 1, 1) := by decide +kernel
theorem dL_law_393 : decode cL_law 393 = .ok (.aload_n 0, 1) := by decide +kernel
theorem dL_law_394 : decode cL_law 394 = .ok (.iload 4, 2) := by decide +kernel
theorem dL_law_396 : decode cL_law 396 = .ok (.iconst 1, 1) := by decide +kernel
theorem dL_law_397 : decode cL_law 397 = .ok (.iadd, 1) := by decide +kernel
theorem dL_law_398 : decode cL_law 398 = .ok (.iaload, 1) := by decide +kernel
theorem dL_law_399 : decode cL_law 399 = .ok (.aload_n 0, 1) := by decide +kernel
theorem dL_law_400 : decode cL_law 400 = .ok (.iload 4, 2) := by decide +kernel
theorem dL_law_402 : decode cL_law 402 = .ok (.iconst 2, 1) := by decide +kernel
theorem dL_law_403 : decode cL_law 403 = .ok (.iadd, 1) := by decide +kernel
theorem dL_law_404 : decode cL_law 404 = .ok (.iaload, 1) := by decide +kernel
theorem dL_law_405 : decode cL_law 405 = .ok (.aload_n 0, 1) := by decide +kernel
theorem dL_law_406 : decode cL_law 406 = .ok (.iload 4, 2) := by decide +kernel
theorem dL_law_408 : decode cL_law 408 = .ok (.iconst 3, 1) := by decide +kernel
theorem dL_law_409 : decode cL_law 409 = .ok (.iadd, 1) := by decide +kernel
theorem dL_law_410 : decode cL_law 410 = .ok (.iaload, 1) := by decide +kernel
theorem dL_law_411 : decode cL_law 411 = .ok (.invokevirtual 49, 3) := by decide +kernel
theorem dL_law_414 : decode cL_law 414 = .ok (.aload_n 2, 1) := by decide +kernel
theorem dL_law_415 : decode cL_law 415 = .ok (.aload_n 0, 1) := by decide +kernel
theorem dL_law_416 : decode cL_law 416 = .ok (.iload 4, 2) := by decide +kernel
theorem dL_law_418 : decode cL_law 418 = .ok (.iconst 1, 1) := by decide +kernel
theorem dL_law_419 : decode cL_law 419 = .ok (.iadd, 1) := by decide +kernel
theorem dL_law_420 : decode cL_law 420 = .ok (.iaload, 1) := by decide +kernel
theorem dL_law_421 : decode cL_law 421 = .ok (.aload_n 0, 1) := by decide +kernel
theorem dL_law_422 : decode cL_law 422 = .ok (.iload 4, 2) := by decide +kernel
theorem dL_law_424 : decode cL_law 424 = .ok (.iconst 2, 1) := by decide +kernel
theorem dL_law_425 : decode cL_law 425 = .ok (.iadd, 1) := by decide +kernel
theorem dL_law_426 : decode cL_law 426 = .ok (.iaload, 1) := by decide +kernel
theorem dL_law_427 : decode cL_law 427 = .ok (.aload_n 0, 1) := by decide +kernel
theorem dL_law_428 : decode cL_law 428 = .ok (.iload 4, 2) := by decide +kernel
theorem dL_law_430 : decode cL_law 430 = .ok (.iconst 3, 1) := by decide +kernel
theorem dL_law_431 : decode cL_law 431 = .ok (.iadd, 1) := by decide +kernel
theorem dL_law_432 : decode cL_law 432 = .ok (.iaload, 1) := by decide +kernel
theorem dL_law_433 : decode cL_law 433 = .ok (.invokevirtual 53, 3) := by decide +kernel
theorem dL_law_436 : decode cL_law 436 = .ok (.if_icmp .eq 1572, 3) := by decide +kernel
theorem dL_law_441 : decode cL_law 441 = .ok (.aload_n 1, 1) := by decide +kernel
theorem dL_law_442 : decode cL_law 442 = .ok (.aload_n 0, 1) := by decide +kernel
theorem dL_law_443 : decode cL_law 443 = .ok (.iload 4, 2) := by decide +kernel
theorem dL_law_445 : decode cL_law 445 = .ok (.iconst 1, 1) := by decide +kernel
theorem dL_law_446 : decode cL_law 446 = .ok (.iadd, 1) := by decide +kernel
theorem dL_law_447 : decode cL_law 447 = .ok (.iaload, 1) := by decide +kernel
theorem dL_law_448 : decode cL_law 448 = .ok (.aload_n 0, 1) := by decide +kernel
theorem dL_law_449 : decode cL_law 449 = .ok (.iload 4, 2) := by decide +kernel
theorem dL_law_451 : decode cL_law 451 = .ok (.iconst 2, 1) := by decide +kernel
theorem dL_law_452 : decode cL_law 452 = .ok (.iadd, 1) := by decide +kernel
theorem dL_law_453 : decode cL_law 453 = .ok (.iaload, 1) := by decide +kernel
theorem dL_law_454 : decode cL_law 454 = .ok (.aload_n 0, 1) := by decide +kernel
theorem dL_law_455 : decode cL_law 455 = .ok (.iload 4, 2) := by decide +kernel
theorem dL_law_457 : decode cL_law 457 = .ok (.iconst 3, 1) := by decide +kernel
theorem dL_law_458 : decode cL_law 458 = .ok (.iadd, 1) := by decide +kernel
theorem dL_law_459 : decode cL_law 459 = .ok (.iaload, 1) := by decide +kernel
theorem dL_law_460 : decode cL_law 460 = .ok (.aload_n 0, 1) := by decide +kernel
theorem dL_law_461 : decode cL_law 461 = .ok (.iload 4, 2) := by decide +kernel
theorem dL_law_463 : decode cL_law 463 = .ok (.iconst 4, 1) := by decide +kernel
theorem dL_law_464 : decode cL_law 464 = .ok (.iadd, 1) := by decide +kernel
theorem dL_law_465 : decode cL_law 465 = .ok (.iaload, 1) := by decide +kernel
theorem dL_law_466 : decode cL_law 466 = .ok (.aload_n 0, 1) := by decide +kernel
theorem dL_law_467 : decode cL_law 467 = .ok (.iload 4, 2) := by decide +kernel
theorem dL_law_469 : decode cL_law 469 = .ok (.iconst 5, 1) := by decide +kernel
theorem dL_law_470 : decode cL_law 470 = .ok (.iadd, 1) := by decide +kernel
theorem dL_law_471 : decode cL_law 471 = .ok (.iaload, 1) := by decide +kernel
theorem dL_law_472 : decode cL_law 472 = .ok (.aload_n 0, 1) := by decide +kernel
theorem dL_law_473 : decode cL_law 473 = .ok (.iload 4, 2) := by decide +kernel
theorem dL_law_475 : decode cL_law 475 = .ok (.bipush 6, 2) := by decide +kernel
theorem dL_law_477 : decode cL_law 477 = .ok (.iadd, 1) := by decide +kernel
theorem dL_law_478 : decode cL_law 478 = .ok (.iaload, 1) := by decide +kernel
theorem dL_law_479 : decode cL_law 479 = .ok (.invokevirtual 54, 3) := by decide +kernel
theorem dL_law_482 : decode cL_law 482 = .ok (.aload_n 2, 1) := by decide +kernel
theorem dL_law_483 : decode cL_law 483 = .ok (.aload_n 0, 1) := by decide +kernel
theorem dL_law_484 : decode cL_law 484 = .ok (.iload 4, 2) := by decide +kernel
theorem dL_law_486 : decode cL_law 486 = .ok (.iconst 1, 1) := by decide +kernel
theorem dL_law_487 : decode cL_law 487 = .ok (.iadd, 1) := by decide +kernel
theorem dL_law_488 : decode cL_law 488 = .ok (.iaload, 1) := by decide +kernel
theorem dL_law_489 : decode cL_law 489 = .ok (.aload_n 0, 1) := by decide +kernel
theorem dL_law_490 : decode cL_law 490 = .ok (.iload 4, 2) := by decide +kernel
theorem dL_law_492 : decode cL_law 492 = .ok (.iconst 2, 1) := by decide +kernel
theorem dL_law_493 : decode cL_law 493 = .ok (.iadd, 1) := by decide +kernel
theorem dL_law_494 : decode cL_law 494 = .ok (.iaload, 1) := by decide +kernel
theorem dL_law_495 : decode cL_law 495 = .ok (.aload_n 0, 1) := by decide +kernel
theorem dL_law_496 : decode cL_law 496 = .ok (.iload 4, 2) := by decide +kernel
theorem dL_law_498 : decode cL_law 498 = .ok (.iconst 3, 1) := by decide +kernel
theorem dL_law_499 : decode cL_law 499 = .ok (.iadd, 1) := by decide +kernel
theorem dL_law_500 : decode cL_law 500 = .ok (.iaload, 1) := by decide +kernel
theorem dL_law_501 : decode cL_law 501 = .ok (.aload_n 0, 1) := by decide +kernel
theorem dL_law_502 : decode cL_law 502 = .ok (.iload 4, 2) := by decide +kernel
theorem dL_law_504 : decode cL_law 504 = .ok (.iconst 4, 1) := by decide +kernel
theorem dL_law_505 : decode cL_law 505 = .ok (.iadd, 1) := by decide +kernel
theorem dL_law_506 : decode cL_law 506 = .ok (.iaload, 1) := by decide +kernel
theorem dL_law_507 : decode cL_law 507 = .ok (.aload_n 0, 1) := by decide +kernel
theorem dL_law_508 : decode cL_law 508 = .ok (.iload 4, 2) := by decide +kernel
theorem dL_law_510 : decode cL_law 510 = .ok (.iconst 5, 1) := by decide +kernel
theorem dL_law_511 : decode cL_law 511 = .ok (.iadd, 1) := by decide +kernel
theorem dL_law_512 : decode cL_law 512 = .ok (.iaload, 1) := by decide +kernel
theorem dL_law_513 : decode cL_law 513 = .ok (.aload_n 0, 1) := by decide +kernel
theorem dL_law_514 : decode cL_law 514 = .ok (.iload 4, 2) := by decide +kernel
theorem dL_law_516 : decode cL_law 516 = .ok (.bipush 6, 2) := by decide +kernel
theorem dL_law_518 : decode cL_law 518 = .ok (.iadd, 1) := by decide +kernel
theorem dL_law_519 : decode cL_law 519 = .ok (.iaload, 1) := by decide +kernel
theorem dL_law_520 : decode cL_law 520 = .ok (.invokevirtual 58, 3) := by decide +kernel
theorem dL_law_523 : decode cL_law 523 = .ok (.if_icmp .eq 1485, 3) := by decide +kernel
theorem dL_law_528 : decode cL_law 528 = .ok (.aload_n 1, 1) := by decide +kernel
theorem dL_law_529 : decode cL_law 529 = .ok (.aload_n 0, 1) := by decide +kernel
theorem dL_law_530 : decode cL_law 530 = .ok (.iload 4, 2) := by decide +kernel
theorem dL_law_532 : decode cL_law 532 = .ok (.iconst 1, 1) := by decide +kernel
theorem dL_law_533 : decode cL_law 533 = .ok (.iadd, 1) := by decide +kernel
theorem dL_law_534 : decode cL_law 534 = .ok (.iaload, 1) := by decide +kernel
theorem dL_law_535 : decode cL_law 535 = .ok (.aload_n 0, 1) := by decide +kernel
theorem dL_law_536 : decode cL_law 536 = .ok (.iload 4, 2) := by decide +kernel
theorem dL_law_538 : decode cL_law 538 = .ok (.iconst 2, 1) := by decide +kernel
theorem dL_law_539 : decode cL_law 539 = .ok (.iadd, 1) := by decide +kernel
theorem dL_law_540 : decode cL_law 540 = .ok (.iaload, 1) := by decide +kernel
theorem dL_law_541 : decode cL_law 541 = .ok (.aload_n 0, 1) := by decide +kernel
theorem dL_law_542 : decode cL_law 542 = .ok (.iload 4, 2) := by decide +kernel
theorem dL_law_544 : decode cL_law 544 = .ok (.iconst 3, 1) := by decide +kernel
theorem dL_law_545 : decode cL_law 545 = .ok (.iadd, 1) := by decide +kernel
theorem dL_law_546 : decode cL_law 546 = .ok (.iaload, 1) := by decide +kernel
theorem dL_law_547 : decode cL_law 547 = .ok (.aload_n 0, 1) := by decide +kernel
theorem dL_law_548 : decode cL_law 548 = .ok (.iload 4, 2) := by decide +kernel
theorem dL_law_550 : decode cL_law 550 = .ok (.iconst 4, 1) := by decide +kernel
theorem dL_law_551 : decode cL_law 551 = .ok (.iadd, 1) := by decide +kernel
theorem dL_law_552 : decode cL_law 552 = .ok (.iaload, 1) := by decide +kernel
theorem dL_law_553 : decode cL_law 553 = .ok (.invokevirtual 59, 3) := by decide +kernel
theorem dL_law_556 : decode cL_law 556 = .ok (.aload_n 2, 1) := by decide +kernel
theorem dL_law_557 : decode cL_law 557 = .ok (.aload_n 0, 1) := by decide +kernel
theorem dL_law_558 : decode cL_law 558 = .ok (.iload 4, 2) := by decide +kernel
theorem dL_law_560 : decode cL_law 560 = .ok (.iconst 1, 1) := by decide +kernel
theorem dL_law_561 : decode cL_law 561 = .ok (.iadd, 1) := by decide +kernel
theorem dL_law_562 : decode cL_law 562 = .ok (.iaload, 1) := by decide +kernel
theorem dL_law_563 : decode cL_law 563 = .ok (.aload_n 0, 1) := by decide +kernel
theorem dL_law_564 : decode cL_law 564 = .ok (.iload 4, 2) := by decide +kernel
theorem dL_law_566 : decode cL_law 566 = .ok (.iconst 2, 1) := by decide +kernel
theorem dL_law_567 : decode cL_law 567 = .ok (.iadd, 1) := by decide +kernel
theorem dL_law_568 : decode cL_law 568 = .ok (.iaload, 1) := by decide +kernel
theorem dL_law_569 : decode cL_law 569 = .ok (.aload_n 0, 1) := by decide +kernel
theorem dL_law_570 : decode cL_law 570 = .ok (.iload 4, 2) := by decide +kernel
theorem dL_law_572 : decode cL_law 572 = .ok (.iconst 3, 1) := by decide +kernel
theorem dL_law_573 : decode cL_law 573 = .ok (.iadd, 1) := by decide +kernel
theorem dL_law_574 : decode cL_law 574 = .ok (.iaload, 1) := by decide +kernel
theorem dL_law_575 : decode cL_law 575 = .ok (.aload_n 0, 1) := by decide +kernel
theorem dL_law_576 : decode cL_law 576 = .ok (.iload 4, 2) := by decide +kernel
theorem dL_law_578 : decode cL_law 578 = .ok (.iconst 4, 1) := by decide +kernel
theorem dL_law_579 : decode cL_law 579 = .ok (.iadd, 1) := by decide +kernel
theorem dL_law_580 : decode cL_law 580 = .ok (.iaload, 1) := by decide +kernel
theorem dL_law_581 : decode cL_law 581 = .ok (.invokevirtual 63, 3) := by decide +kernel
theorem dL_law_584 : decode cL_law 584 = .ok (.if_icmp .eq 1424, 3) := by decide +kernel
theorem dL_law_589 : decode cL_law 589 = .ok (.aload_n 1, 1) := by decide +kernel
theorem dL_law_590 : decode cL_law 590 = .ok (.aload_n 0, 1) := by decide +kernel
theorem dL_law_591 : decode cL_law 591 = .ok (.iload 4, 2) := by decide +kernel
theorem dL_law_593 : decode cL_law 593 = .ok (.iconst 1, 1) := by decide +kernel
theorem dL_law_594 : decode cL_law 594 = .ok (.iadd, 1) := by decide +kernel
theorem dL_law_595 : decode cL_law 595 = .ok (.iaload, 1) := by decide +kernel
theorem dL_law_596 : decode cL_law 596 = .ok (.aload_n 0, 1) := by decide +kernel
theorem dL_law_597 : decode cL_law 597 = .ok (.iload 4, 2) := by decide +kernel
theorem dL_law_599 : decode cL_law 599 = .ok (.iconst 2, 1) := by decide +kernel
theorem dL_law_600 : decode cL_law 600 = .ok (.iadd, 1) := by decide +kernel
theorem dL_law_601 : decode cL_law 601 = .ok (.iaload, 1) := by decide +kernel
theorem dL_law_602 : decode cL_law 602 = .ok (.aload_n 0, 1) := by decide +kernel
theorem dL_law_603 : decode cL_law 603 = .ok (.iload 4, 2) := by decide +kernel
theorem dL_law_605 : decode cL_law 605 = .ok (.iconst 3, 1) := by decide +kernel
theorem dL_law_606 : decode cL_law 606 = .ok (.iadd, 1) := by decide +kernel
theorem dL_law_607 : decode cL_law 607 = .ok (.iaload, 1) := by decide +kernel
theorem dL_law_608 : decode cL_law 608 = .ok (.ifCond .eq 7, 3) := by decide +kernel
theorem dL_law_615 : decode cL_law 615 = .ok (.iconst 0, 1) := by decide +kernel
theorem dL_law_616 : decode cL_law 616 = .ok (.invokevirtual 64, 3) := by decide +kernel
theorem dL_law_619 : decode cL_law 619 = .ok (.aload_n 2, 1) := by decide +kernel
theorem dL_law_620 : decode cL_law 620 = .ok (.aload_n 0, 1) := by decide +kernel
theorem dL_law_621 : decode cL_law 621 = .ok (.iload 4, 2) := by decide +kernel
theorem dL_law_623 : decode cL_law 623 = .ok (.iconst 1, 1) := by decide +kernel
theorem dL_law_624 : decode cL_law 624 = .ok (.iadd, 1) := by decide +kernel
theorem dL_law_625 : decode cL_law 625 = .ok (.iaload, 1) := by decide +kernel
theorem dL_law_626 : decode cL_law 626 = .ok (.aload_n 0, 1) := by decide +kernel
theorem dL_law_627 : decode cL_law 627 = .ok (.iload 4, 2) := by decide +kernel
theorem dL_law_629 : decode cL_law 629 = .ok (.iconst 2, 1) := by decide +kernel
theorem dL_law_630 : decode cL_law 630 = .ok (.iadd, 1) := by decide +kernel
theorem dL_law_631 : decode cL_law 631 = .ok (.iaload, 1) := by decide +kernel
theorem dL_law_632 : decode cL_law 632 = .ok (.aload_n 0, 1) := by decide +kernel
theorem dL_law_633 : decode cL_law 633 = .ok (.iload 4, 2) := by decide +kernel
theorem dL_law_635 : decode cL_law 635 = .ok (.iconst 3, 1) := by decide +kernel
theorem dL_law_636 : decode cL_law 636 = .ok (.iadd, 1) := by decide +kernel
theorem dL_law_637 : decode cL_law 637 = .ok (.iaload, 1) := by decide +kernel
theorem dL_law_638 : decode cL_law 638 = .ok (.ifCond .eq 7, 3) := by decide +kernel
theorem dL_law_645 : decode cL_law 645 = .ok (.iconst 0, 1) := by decide +kernel
theorem dL_law_646 : decode cL_law 646 = .ok (.invokevirtual 67, 3) := by decide +kernel
theorem dL_law_649 : decode cL_law 649 = .ok (.if_icmp .eq 1359, 3) := by decide +kernel
theorem dL_law_611 : decode cL_law 611 = .ok (.iconst 1, 1) := by decide +kernel
theorem dL_law_612 : decode cL_law 612 = .ok (.goto 4, 3) := by decide +kernel
theorem dL_law_641 : decode cL_law 641 = .ok (.iconst 1, 1) := by decide +kernel
theorem dL_law_642 : decode cL_law 642 = .ok (.goto 4, 3) := by decide +kernel
theorem dL_law_654 : decode cL_law 654 = .ok (.aload_n 1, 1) := by decide +kernel
theorem dL_law_655 : decode cL_law 655 = .ok (.aload_n 0, 1) := by decide +kernel
theorem dL_law_656 : decode cL_law 656 = .ok (.iload 4, 2) := by decide +kernel
theorem dL_law_658 : decode cL_law 658 = .ok (.iconst 1, 1) := by decide +kernel
theorem dL_law_659 : decode cL_law 659 = .ok (.iadd, 1) := by decide +kernel
theorem dL_law_660 : decode cL_law 660 = .ok (.iaload, 1) := by decide +kernel
theorem dL_law_661 : decode cL_law 661 = .ok (.invokevirtual 68, 3) := by decide +kernel
theorem dL_law_664 : decode cL_law 664 = .ok (.aload_n 2, 1) := by decide +kernel
theorem dL_law_665 : decode cL_law 665 = .ok (.aload_n 0, 1) := by decide +kernel
theorem dL_law_666 : decode cL_law 666 = .ok (.iload 4, 2) := by decide +kernel
theorem dL_law_668 : decode cL_law 668 = .ok (.iconst 1, 1) := by decide +kernel
theorem dL_law_669 : decode cL_law 669 = .ok (.iadd, 1) := by decide +kernel
theorem dL_law_670 : decode cL_law 670 = .ok (.iaload, 1) := by decide +kernel
theorem dL_law_671 : decode cL_law 671 = .ok (.invokevirtual 71, 3) := by decide +kernel
theorem dL_law_674 : decode cL_law 674 = .ok (.if_icmp .eq 1334, 3) := by decide +kernel
theorem dL_law_679 : decode cL_law 679 = .ok (.aload_n 1, 1) := by decide +kernel
theorem dL_law_680 : decode cL_law 680 = .ok (.aload_n 0, 1) := by decide +kernel
theorem dL_law_681 : decode cL_law 681 = .ok (.iload 4, 2) := by decide +kernel
theorem dL_law_683 : decode cL_law 683 = .ok (.iconst 1, 1) := by decide +kernel
theorem dL_law_684 : decode cL_law 684 = .ok (.iadd, 1) := by decide +kernel
theorem dL_law_685 : decode cL_law 685 = .ok (.iaload, 1) := by decide +kernel
theorem dL_law_686 : decode cL_law 686 = .ok (.i2l, 1) := by decide +kernel
theorem dL_law_687 : decode cL_law 687 = .ok (.bipush 32, 2) := by decide +kernel
theorem dL_law_689 : decode cL_law 689 = .ok (.lshl, 1) := by decide +kernel
theorem dL_law_690 : decode cL_law 690 = .ok (.aload_n 0, 1) := by decide +kernel
theorem dL_law_691 : decode cL_law 691 = .ok (.iload 4, 2) := by decide +kernel
theorem dL_law_693 : decode cL_law 693 = .ok (.iconst 2, 1) := by decide +kernel
theorem dL_law_694 : decode cL_law 694 = .ok (.iadd, 1) := by decide +kernel
theorem dL_law_695 : decode cL_law 695 = .ok (.iaload, 1) := by decide +kernel
theorem dL_law_696 : decode cL_law 696 = .ok (.i2l, 1) := by decide +kernel
theorem dL_law_697 : decode cL_law 697 = .ok (.ldc2_w 72, 3) := by decide +kernel
theorem dL_law_700 : decode cL_law 700 = .ok (.land, 1) := by decide +kernel
theorem dL_law_701 : decode cL_law 701 = .ok (.lor, 1) := by decide +kernel
theorem dL_law_702 : decode cL_law 702 = .ok (.aload_n 0, 1) := by decide +kernel
theorem dL_law_703 : decode cL_law 703 = .ok (.iload 4, 2) := by decide +kernel
theorem dL_law_705 : decode cL_law 705 = .ok (.iconst 3, 1) := by decide +kernel
theorem dL_law_706 : decode cL_law 706 = .ok (.iadd, 1) := by decide +kernel
theorem dL_law_707 : decode cL_law 707 = .ok (.iaload, 1) := by decide +kernel
theorem dL_law_708 : decode cL_law 708 = .ok (.i2l, 1) := by decide +kernel
theorem dL_law_709 : decode cL_law 709 = .ok (.bipush 32, 2) := by decide +kernel
theorem dL_law_711 : decode cL_law 711 = .ok (.lshl, 1) := by decide +kernel
theorem dL_law_712 : decode cL_law 712 = .ok (.aload_n 0, 1) := by decide +kernel
theorem dL_law_713 : decode cL_law 713 = .ok (.iload 4, 2) := by decide +kernel
theorem dL_law_715 : decode cL_law 715 = .ok (.iconst 4, 1) := by decide +kernel
theorem dL_law_716 : decode cL_law 716 = .ok (.iadd, 1) := by decide +kernel
theorem dL_law_717 : decode cL_law 717 = .ok (.iaload, 1) := by decide +kernel
theorem dL_law_718 : decode cL_law 718 = .ok (.i2l, 1) := by decide +kernel
theorem dL_law_719 : decode cL_law 719 = .ok (.ldc2_w 72, 3) := by decide +kernel
theorem dL_law_722 : decode cL_law 722 = .ok (.land, 1) := by decide +kernel
theorem dL_law_723 : decode cL_law 723 = .ok (.lor, 1) := by decide +kernel
theorem dL_law_724 : decode cL_law 724 = .ok (.aload_n 0, 1) := by decide +kernel
theorem dL_law_725 : decode cL_law 725 = .ok (.iload 4, 2) := by decide +kernel
theorem dL_law_727 : decode cL_law 727 = .ok (.iconst 5, 1) := by decide +kernel
theorem dL_law_728 : decode cL_law 728 = .ok (.iadd, 1) := by decide +kernel
theorem dL_law_729 : decode cL_law 729 = .ok (.iaload, 1) := by decide +kernel
theorem dL_law_730 : decode cL_law 730 = .ok (.i2l, 1) := by decide +kernel
theorem dL_law_731 : decode cL_law 731 = .ok (.bipush 32, 2) := by decide +kernel
theorem dL_law_733 : decode cL_law 733 = .ok (.lshl, 1) := by decide +kernel
theorem dL_law_734 : decode cL_law 734 = .ok (.aload_n 0, 1) := by decide +kernel
theorem dL_law_735 : decode cL_law 735 = .ok (.iload 4, 2) := by decide +kernel
theorem dL_law_737 : decode cL_law 737 = .ok (.bipush 6, 2) := by decide +kernel
theorem dL_law_739 : decode cL_law 739 = .ok (.iadd, 1) := by decide +kernel
theorem dL_law_740 : decode cL_law 740 = .ok (.iaload, 1) := by decide +kernel
theorem dL_law_741 : decode cL_law 741 = .ok (.i2l, 1) := by decide +kernel
theorem dL_law_742 : decode cL_law 742 = .ok (.ldc2_w 72, 3) := by decide +kernel
theorem dL_law_745 : decode cL_law 745 = .ok (.land, 1) := by decide +kernel
theorem dL_law_746 : decode cL_law 746 = .ok (.lor, 1) := by decide +kernel
theorem dL_law_747 : decode cL_law 747 = .ok (.invokevirtual 74, 3) := by decide +kernel
theorem dL_law_750 : decode cL_law 750 = .ok (.aload_n 2, 1) := by decide +kernel
theorem dL_law_751 : decode cL_law 751 = .ok (.aload_n 0, 1) := by decide +kernel
theorem dL_law_752 : decode cL_law 752 = .ok (.iload 4, 2) := by decide +kernel
theorem dL_law_754 : decode cL_law 754 = .ok (.iconst 1, 1) := by decide +kernel
theorem dL_law_755 : decode cL_law 755 = .ok (.iadd, 1) := by decide +kernel
theorem dL_law_756 : decode cL_law 756 = .ok (.iaload, 1) := by decide +kernel
theorem dL_law_757 : decode cL_law 757 = .ok (.i2l, 1) := by decide +kernel
theorem dL_law_758 : decode cL_law 758 = .ok (.bipush 32, 2) := by decide +kernel
theorem dL_law_760 : decode cL_law 760 = .ok (.lshl, 1) := by decide +kernel
theorem dL_law_761 : decode cL_law 761 = .ok (.aload_n 0, 1) := by decide +kernel
theorem dL_law_762 : decode cL_law 762 = .ok (.iload 4, 2) := by decide +kernel
theorem dL_law_764 : decode cL_law 764 = .ok (.iconst 2, 1) := by decide +kernel
theorem dL_law_765 : decode cL_law 765 = .ok (.iadd, 1) := by decide +kernel
theorem dL_law_766 : decode cL_law 766 = .ok (.iaload, 1) := by decide +kernel
theorem dL_law_767 : decode cL_law 767 = .ok (.i2l, 1) := by decide +kernel
theorem dL_law_768 : decode cL_law 768 = .ok (.ldc2_w 72, 3) := by decide +kernel
theorem dL_law_771 : decode cL_law 771 = .ok (.land, 1) := by decide +kernel
theorem dL_law_772 : decode cL_law 772 = .ok (.lor, 1) := by decide +kernel
theorem dL_law_773 : decode cL_law 773 = .ok (.aload_n 0, 1) := by decide +kernel
theorem dL_law_774 : decode cL_law 774 = .ok (.iload 4, 2) := by decide +kernel
theorem dL_law_776 : decode cL_law 776 = .ok (.iconst 3, 1) := by decide +kernel
theorem dL_law_777 : decode cL_law 777 = .ok (.iadd, 1) := by decide +kernel
theorem dL_law_778 : decode cL_law 778 = .ok (.iaload, 1) := by decide +kernel
theorem dL_law_779 : decode cL_law 779 = .ok (.i2l, 1) := by decide +kernel
theorem dL_law_780 : decode cL_law 780 = .ok (.bipush 32, 2) := by decide +kernel
theorem dL_law_782 : decode cL_law 782 = .ok (.lshl, 1) := by decide +kernel
theorem dL_law_783 : decode cL_law 783 = .ok (.aload_n 0, 1) := by decide +kernel
theorem dL_law_784 : decode cL_law 784 = .ok (.iload 4, 2) := by decide +kernel
theorem dL_law_786 : decode cL_law 786 = .ok (.iconst 4, 1) := by decide +kernel
theorem dL_law_787 : decode cL_law 787 = .ok (.iadd, 1) := by decide +kernel
theorem dL_law_788 : decode cL_law 788 = .ok (.iaload, 1) := by decide +kernel
theorem dL_law_789 : decode cL_law 789 = .ok (.i2l, 1) := by decide +kernel
theorem dL_law_790 : decode cL_law 790 = .ok (.ldc2_w 72, 3) := by decide +kernel
theorem dL_law_793 : decode cL_law 793 = .ok (.land, 1) := by decide +kernel
theorem dL_law_794 : decode cL_law 794 = .ok (.lor, 1) := by decide +kernel
theorem dL_law_795 : decode cL_law 795 = .ok (.aload_n 0, 1) := by decide +kernel
theorem dL_law_796 : decode cL_law 796 = .ok (.iload 4, 2) := by decide +kernel
theorem dL_law_798 : decode cL_law 798 = .ok (.iconst 5, 1) := by decide +kernel
theorem dL_law_799 : decode cL_law 799 = .ok (.iadd, 1) := by decide +kernel
theorem dL_law_800 : decode cL_law 800 = .ok (.iaload, 1) := by decide +kernel
theorem dL_law_801 : decode cL_law 801 = .ok (.i2l, 1) := by decide +kernel
theorem dL_law_802 : decode cL_law 802 = .ok (.bipush 32, 2) := by decide +kernel
theorem dL_law_804 : decode cL_law 804 = .ok (.lshl, 1) := by decide +kernel
theorem dL_law_805 : decode cL_law 805 = .ok (.aload_n 0, 1) := by decide +kernel
theorem dL_law_806 : decode cL_law 806 = .ok (.iload 4, 2) := by decide +kernel
theorem dL_law_808 : decode cL_law 808 = .ok (.bipush 6, 2) := by decide +kernel
theorem dL_law_810 : decode cL_law 810 = .ok (.iadd, 1) := by decide +kernel
theorem dL_law_811 : decode cL_law 811 = .ok (.iaload, 1) := by decide +kernel
theorem dL_law_812 : decode cL_law 812 = .ok (.i2l, 1) := by decide +kernel
theorem dL_law_813 : decode cL_law 813 = .ok (.ldc2_w 72, 3) := by decide +kernel
theorem dL_law_816 : decode cL_law 816 = .ok (.land, 1) := by decide +kernel
theorem dL_law_817 : decode cL_law 817 = .ok (.lor, 1) := by decide +kernel
theorem dL_law_818 : decode cL_law 818 = .ok (.invokevirtual 78, 3) := by decide +kernel
theorem dL_law_821 : decode cL_law 821 = .ok (.if_icmp .eq 1187, 3) := by decide +kernel
theorem dL_law_826 : decode cL_law 826 = .ok (.aload_n 1, 1) := by decide +kernel
theorem dL_law_827 : decode cL_law 827 = .ok (.invokevirtual 79, 3) := by decide +kernel
theorem dL_law_830 : decode cL_law 830 = .ok (.aload_n 2, 1) := by decide +kernel
theorem dL_law_831 : decode cL_law 831 = .ok (.invokevirtual 83, 3) := by decide +kernel
theorem dL_law_834 : decode cL_law 834 = .ok (.if_icmp .eq 1174, 3) := by decide +kernel
theorem dL_law_839 : decode cL_law 839 = .ok (.aload_n 1, 1) := by decide +kernel
theorem dL_law_840 : decode cL_law 840 = .ok (.aload_n 0, 1) := by decide +kernel
theorem dL_law_841 : decode cL_law 841 = .ok (.iload 4, 2) := by decide +kernel
theorem dL_law_843 : decode cL_law 843 = .ok (.iconst 1, 1) := by decide +kernel
theorem dL_law_844 : decode cL_law 844 = .ok (.iadd, 1) := by decide +kernel
theorem dL_law_845 : decode cL_law 845 = .ok (.iaload, 1) := by decide +kernel
theorem dL_law_846 : decode cL_law 846 = .ok (.aload_n 0, 1) := by decide +kernel
theorem dL_law_847 : decode cL_law 847 = .ok (.iload 4, 2) := by decide +kernel
theorem dL_law_849 : decode cL_law 849 = .ok (.iconst 2, 1) := by decide +kernel
theorem dL_law_850 : decode cL_law 850 = .ok (.iadd, 1) := by decide +kernel
theorem dL_law_851 : decode cL_law 851 = .ok (.iaload, 1) := by decide +kernel
theorem dL_law_852 : decode cL_law 852 = .ok (.aload_n 0, 1) := by decide +kernel
theorem dL_law_853 : decode cL_law 853 = .ok (.iload 4, 2) := by decide +kernel
theorem dL_law_855 : decode cL_law 855 = .ok (.iconst 3, 1) := by decide +kernel
theorem dL_law_856 : decode cL_law 856 = .ok (.iadd, 1) := by decide +kernel
theorem dL_law_857 : decode cL_law 857 = .ok (.iaload, 1) := by decide +kernel
theorem dL_law_858 : decode cL_law 858 = .ok (.ifCond .eq 7, 3) := by decide +kernel
theorem dL_law_865 : decode cL_law 865 = .ok (.iconst 0, 1) := by decide +kernel
theorem dL_law_866 : decode cL_law 866 = .ok (.aload_n 0, 1) := by decide +kernel
theorem dL_law_867 : decode cL_law 867 = .ok (.iload 4, 2) := by decide +kernel
theorem dL_law_869 : decode cL_law 869 = .ok (.iconst 4, 1) := by decide +kernel
theorem dL_law_870 : decode cL_law 870 = .ok (.iadd, 1) := by decide +kernel
theorem dL_law_871 : decode cL_law 871 = .ok (.iaload, 1) := by decide +kernel
theorem dL_law_872 : decode cL_law 872 = .ok (.aload_n 0, 1) := by decide +kernel
theorem dL_law_873 : decode cL_law 873 = .ok (.iload 4, 2) := by decide +kernel
theorem dL_law_875 : decode cL_law 875 = .ok (.iconst 5, 1) := by decide +kernel
theorem dL_law_876 : decode cL_law 876 = .ok (.iadd, 1) := by decide +kernel
theorem dL_law_877 : decode cL_law 877 = .ok (.iaload, 1) := by decide +kernel
theorem dL_law_878 : decode cL_law 878 = .ok (.aload_n 0, 1) := by decide +kernel
theorem dL_law_879 : decode cL_law 879 = .ok (.iload 4, 2) := by decide +kernel
theorem dL_law_881 : decode cL_law 881 = .ok (.bipush 6, 2) := by decide +kernel
theorem dL_law_883 : decode cL_law 883 = .ok (.iadd, 1) := by decide +kernel
theorem dL_law_884 : decode cL_law 884 = .ok (.iaload, 1) := by decide +kernel
theorem dL_law_885 : decode cL_law 885 = .ok (.aload_n 0, 1) := by decide +kernel
theorem dL_law_886 : decode cL_law 886 = .ok (.iload 4, 2) := by decide +kernel
theorem dL_law_888 : decode cL_law 888 = .ok (.bipush 7, 2) := by decide +kernel
theorem dL_law_890 : decode cL_law 890 = .ok (.iadd, 1) := by decide +kernel
theorem dL_law_891 : decode cL_law 891 = .ok (.iaload, 1) := by decide +kernel
theorem dL_law_892 : decode cL_law 892 = .ok (.invokevirtual 84, 3) := by decide +kernel
theorem dL_law_895 : decode cL_law 895 = .ok (.aload_n 2, 1) := by decide +kernel
theorem dL_law_896 : decode cL_law 896 = .ok (.aload_n 0, 1) := by decide +kernel
theorem dL_law_897 : decode cL_law 897 = .ok (.iload 4, 2) := by decide +kernel
theorem dL_law_899 : decode cL_law 899 = .ok (.iconst 1, 1) := by decide +kernel
theorem dL_law_900 : decode cL_law 900 = .ok (.iadd, 1) := by decide +kernel
theorem dL_law_901 : decode cL_law 901 = .ok (.iaload, 1) := by decide +kernel
theorem dL_law_902 : decode cL_law 902 = .ok (.aload_n 0, 1) := by decide +kernel
theorem dL_law_903 : decode cL_law 903 = .ok (.iload 4, 2) := by decide +kernel
theorem dL_law_905 : decode cL_law 905 = .ok (.iconst 2, 1) := by decide +kernel
theorem dL_law_906 : decode cL_law 906 = .ok (.iadd, 1) := by decide +kernel
theorem dL_law_907 : decode cL_law 907 = .ok (.iaload, 1) := by decide +kernel
theorem dL_law_908 : decode cL_law 908 = .ok (.aload_n 0, 1) := by decide +kernel
theorem dL_law_909 : decode cL_law 909 = .ok (.iload 4, 2) := by decide +kernel
theorem dL_law_911 : decode cL_law 911 = .ok (.iconst 3, 1) := by decide +kernel
theorem dL_law_912 : decode cL_law 912 = .ok (.iadd, 1) := by decide +kernel
theorem dL_law_913 : decode cL_law 913 = .ok (.iaload, 1) := by decide +kernel
theorem dL_law_914 : decode cL_law 914 = .ok (.ifCond .eq 7, 3) := by decide +kernel
theorem dL_law_921 : decode cL_law 921 = .ok (.iconst 0, 1) := by decide +kernel
theorem dL_law_922 : decode cL_law 922 = .ok (.aload_n 0, 1) := by decide +kernel
theorem dL_law_923 : decode cL_law 923 = .ok (.iload 4, 2) := by decide +kernel
theorem dL_law_925 : decode cL_law 925 = .ok (.iconst 4, 1) := by decide +kernel
theorem dL_law_926 : decode cL_law 926 = .ok (.iadd, 1) := by decide +kernel
theorem dL_law_927 : decode cL_law 927 = .ok (.iaload, 1) := by decide +kernel
theorem dL_law_928 : decode cL_law 928 = .ok (.aload_n 0, 1) := by decide +kernel
theorem dL_law_929 : decode cL_law 929 = .ok (.iload 4, 2) := by decide +kernel
theorem dL_law_931 : decode cL_law 931 = .ok (.iconst 5, 1) := by decide +kernel
theorem dL_law_932 : decode cL_law 932 = .ok (.iadd, 1) := by decide +kernel
theorem dL_law_933 : decode cL_law 933 = .ok (.iaload, 1) := by decide +kernel
theorem dL_law_934 : decode cL_law 934 = .ok (.aload_n 0, 1) := by decide +kernel
theorem dL_law_935 : decode cL_law 935 = .ok (.iload 4, 2) := by decide +kernel
theorem dL_law_937 : decode cL_law 937 = .ok (.bipush 6, 2) := by decide +kernel
theorem dL_law_939 : decode cL_law 939 = .ok (.iadd, 1) := by decide +kernel
theorem dL_law_940 : decode cL_law 940 = .ok (.iaload, 1) := by decide +kernel
theorem dL_law_941 : decode cL_law 941 = .ok (.aload_n 0, 1) := by decide +kernel
theorem dL_law_942 : decode cL_law 942 = .ok (.iload 4, 2) := by decide +kernel
theorem dL_law_944 : decode cL_law 944 = .ok (.bipush 7, 2) := by decide +kernel
theorem dL_law_946 : decode cL_law 946 = .ok (.iadd, 1) := by decide +kernel
theorem dL_law_947 : decode cL_law 947 = .ok (.iaload, 1) := by decide +kernel
theorem dL_law_948 : decode cL_law 948 = .ok (.invokevirtual 88, 3) := by decide +kernel
theorem dL_law_951 : decode cL_law 951 = .ok (.if_icmp .eq 1057, 3) := by decide +kernel
theorem dL_law_861 : decode cL_law 861 = .ok (.iconst 1, 1) := by decide +kernel
theorem dL_law_862 : decode cL_law 862 = .ok (.goto 4, 3) := by decide +kernel
theorem dL_law_917 : decode cL_law 917 = .ok (.iconst 1, 1) := by decide +kernel
theorem dL_law_918 : decode cL_law 918 = .ok (.goto 4, 3) := by decide +kernel
theorem dL_law_956 : decode cL_law 956 = .ok (.aload_n 1, 1) := by decide +kernel
theorem dL_law_957 : decode cL_law 957 = .ok (.aload_n 0, 1) := by decide +kernel
theorem dL_law_958 : decode cL_law 958 = .ok (.iload 4, 2) := by decide +kernel
theorem dL_law_960 : decode cL_law 960 = .ok (.iconst 1, 1) := by decide +kernel
theorem dL_law_961 : decode cL_law 961 = .ok (.iadd, 1) := by decide +kernel
theorem dL_law_962 : decode cL_law 962 = .ok (.iaload, 1) := by decide +kernel
theorem dL_law_963 : decode cL_law 963 = .ok (.invokevirtual 89, 3) := by decide +kernel
theorem dL_law_966 : decode cL_law 966 = .ok (.aload_n 2, 1) := by decide +kernel
theorem dL_law_967 : decode cL_law 967 = .ok (.aload_n 0, 1) := by decide +kernel
theorem dL_law_968 : decode cL_law 968 = .ok (.iload 4, 2) := by decide +kernel
theorem dL_law_970 : decode cL_law 970 = .ok (.iconst 1, 1) := by decide +kernel
theorem dL_law_971 : decode cL_law 971 = .ok (.iadd, 1) := by decide +kernel
theorem dL_law_972 : decode cL_law 972 = .ok (.iaload, 1) := by decide +kernel
theorem dL_law_973 : decode cL_law 973 = .ok (.invokevirtual 92, 3) := by decide +kernel
theorem dL_law_976 : decode cL_law 976 = .ok (.if_icmp .eq 1032, 3) := by decide +kernel
theorem dL_law_981 : decode cL_law 981 = .ok (.aload_n 1, 1) := by decide +kernel
theorem dL_law_982 : decode cL_law 982 = .ok (.aload_n 0, 1) := by decide +kernel
theorem dL_law_983 : decode cL_law 983 = .ok (.iload 4, 2) := by decide +kernel
theorem dL_law_985 : decode cL_law 985 = .ok (.iconst 1, 1) := by decide +kernel
theorem dL_law_986 : decode cL_law 986 = .ok (.iadd, 1) := by decide +kernel
theorem dL_law_987 : decode cL_law 987 = .ok (.iaload, 1) := by decide +kernel
theorem dL_law_988 : decode cL_law 988 = .ok (.aload_n 0, 1) := by decide +kernel
theorem dL_law_989 : decode cL_law 989 = .ok (.iload 4, 2) := by decide +kernel
theorem dL_law_991 : decode cL_law 991 = .ok (.iconst 2, 1) := by decide +kernel
theorem dL_law_992 : decode cL_law 992 = .ok (.iadd, 1) := by decide +kernel
theorem dL_law_993 : decode cL_law 993 = .ok (.iaload, 1) := by decide +kernel
theorem dL_law_994 : decode cL_law 994 = .ok (.aload_n 3, 1) := by decide +kernel
theorem dL_law_995 : decode cL_law 995 = .ok (.invokestatic 93, 3) := by decide +kernel
theorem dL_law_998 : decode cL_law 998 = .ok (.istore 5, 2) := by decide +kernel
theorem dL_law_1000 : decode cL_law 1000 = .ok (.aload_n 2, 1) := by decide +kernel
theorem dL_law_1001 : decode cL_law 1001 = .ok (.aload_n 0, 1) := by decide +kernel
theorem dL_law_1002 : decode cL_law 1002 = .ok (.iload 4, 2) := by decide +kernel
theorem dL_law_1004 : decode cL_law 1004 = .ok (.iconst 1, 1) := by decide +kernel
theorem dL_law_1005 : decode cL_law 1005 = .ok (.iadd, 1) := by decide +kernel
theorem dL_law_1006 : decode cL_law 1006 = .ok (.iaload, 1) := by decide +kernel
theorem dL_law_1007 : decode cL_law 1007 = .ok (.aload_n 0, 1) := by decide +kernel
theorem dL_law_1008 : decode cL_law 1008 = .ok (.iload 4, 2) := by decide +kernel
theorem dL_law_1010 : decode cL_law 1010 = .ok (.iconst 2, 1) := by decide +kernel
theorem dL_law_1011 : decode cL_law 1011 = .ok (.iadd, 1) := by decide +kernel
theorem dL_law_1012 : decode cL_law 1012 = .ok (.iaload, 1) := by decide +kernel
theorem dL_law_1013 : decode cL_law 1013 = .ok (.invokevirtual 98, 3) := by decide +kernel
theorem dL_law_1016 : decode cL_law 1016 = .ok (.istore 6, 2) := by decide +kernel
theorem dL_law_1018 : decode cL_law 1018 = .ok (.aload_n 2, 1) := by decide +kernel
theorem dL_law_1019 : decode cL_law 1019 = .ok (.invokevirtual 99, 3) := by decide +kernel
theorem dL_law_1022 : decode cL_law 1022 = .ok (.iload 5, 2) := by decide +kernel
theorem dL_law_1024 : decode cL_law 1024 = .ok (.if_icmp .eq 5, 3) := by decide +kernel
theorem dL_law_1029 : decode cL_law 1029 = .ok (.iload 5, 2) := by decide +kernel
theorem dL_law_1031 : decode cL_law 1031 = .ok (.ifCond .ne 15, 3) := by decide +kernel
theorem dL_law_1046 : decode cL_law 1046 = .ok (.goto 962, 3) := by decide +kernel
theorem dL_law_1049 : decode cL_law 1049 = .ok (.aload_n 1, 1) := by decide +kernel
theorem dL_law_1050 : decode cL_law 1050 = .ok (.aload_n 0, 1) := by decide +kernel
theorem dL_law_1051 : decode cL_law 1051 = .ok (.iload 4, 2) := by decide +kernel
theorem dL_law_1053 : decode cL_law 1053 = .ok (.iconst 1, 1) := by decide +kernel
theorem dL_law_1054 : decode cL_law 1054 = .ok (.iadd, 1) := by decide +kernel
theorem dL_law_1055 : decode cL_law 1055 = .ok (.iaload, 1) := by decide +kernel
theorem dL_law_1056 : decode cL_law 1056 = .ok (.invokevirtual 102, 3) := by decide +kernel
theorem dL_law_1059 : decode cL_law 1059 = .ok (.aload_n 2, 1) := by decide +kernel
theorem dL_law_1060 : decode cL_law 1060 = .ok (.aload_n 0, 1) := by decide +kernel
theorem dL_law_1061 : decode cL_law 1061 = .ok (.iload 4, 2) := by decide +kernel
theorem dL_law_1063 : decode cL_law 1063 = .ok (.iconst 1, 1) := by decide +kernel
theorem dL_law_1064 : decode cL_law 1064 = .ok (.iadd, 1) := by decide +kernel
theorem dL_law_1065 : decode cL_law 1065 = .ok (.iaload, 1) := by decide +kernel
theorem dL_law_1066 : decode cL_law 1066 = .ok (.invokevirtual 105, 3) := by decide +kernel
theorem dL_law_1069 : decode cL_law 1069 = .ok (.if_icmp .eq 939, 3) := by decide +kernel
theorem dL_law_1074 : decode cL_law 1074 = .ok (.aload_n 1, 1) := by decide +kernel
theorem dL_law_1075 : decode cL_law 1075 = .ok (.aload_n 0, 1) := by decide +kernel
theorem dL_law_1076 : decode cL_law 1076 = .ok (.iload 4, 2) := by decide +kernel
theorem dL_law_1078 : decode cL_law 1078 = .ok (.iconst 1, 1) := by decide +kernel
theorem dL_law_1079 : decode cL_law 1079 = .ok (.iadd, 1) := by decide +kernel
theorem dL_law_1080 : decode cL_law 1080 = .ok (.iaload, 1) := by decide +kernel
theorem dL_law_1081 : decode cL_law 1081 = .ok (.aload_n 0, 1) := by decide +kernel
theorem dL_law_1082 : decode cL_law 1082 = .ok (.iload 4, 2) := by decide +kernel
theorem dL_law_1084 : decode cL_law 1084 = .ok (.iconst 2, 1) := by decide +kernel
theorem dL_law_1085 : decode cL_law 1085 = .ok (.iadd, 1) := by decide +kernel
theorem dL_law_1086 : decode cL_law 1086 = .ok (.iaload, 1) := by decide +kernel
theorem dL_law_1087 : decode cL_law 1087 = .ok (.invokevirtual 106, 3) := by decide +kernel
theorem dL_law_1090 : decode cL_law 1090 = .ok (.aload_n 2, 1) := by decide +kernel
theorem dL_law_1091 : decode cL_law 1091 = .ok (.aload_n 0, 1) := by decide +kernel
theorem dL_law_1092 : decode cL_law 1092 = .ok (.iload 4, 2) := by decide +kernel
theorem dL_law_1094 : decode cL_law 1094 = .ok (.iconst 1, 1) := by decide +kernel
theorem dL_law_1095 : decode cL_law 1095 = .ok (.iadd, 1) := by decide +kernel
theorem dL_law_1096 : decode cL_law 1096 = .ok (.iaload, 1) := by decide +kernel
theorem dL_law_1097 : decode cL_law 1097 = .ok (.aload_n 0, 1) := by decide +kernel
theorem dL_law_1098 : decode cL_law 1098 = .ok (.iload 4, 2) := by decide +kernel
theorem dL_law_1100 : decode cL_law 1100 = .ok (.iconst 2, 1) := by decide +kernel
theorem dL_law_1101 : decode cL_law 1101 = .ok (.iadd, 1) := by decide +kernel
theorem dL_law_1102 : decode cL_law 1102 = .ok (.iaload, 1) := by decide +kernel
theorem dL_law_1103 : decode cL_law 1103 = .ok (.invokevirtual 109, 3) := by decide +kernel
theorem dL_law_1106 : decode cL_law 1106 = .ok (.if_icmp .eq 902, 3) := by decide +kernel
theorem dL_law_1111 : decode cL_law 1111 = .ok (.aload_n 1, 1) := by decide +kernel
theorem dL_law_1112 : decode cL_law 1112 = .ok (.aload_n 0, 1) := by decide +kernel
theorem dL_law_1113 : decode cL_law 1113 = .ok (.iload 4, 2) := by decide +kernel
theorem dL_law_1115 : decode cL_law 1115 = .ok (.iconst 1, 1) := by decide +kernel
theorem dL_law_1116 : decode cL_law 1116 = .ok (.iadd, 1) := by decide +kernel
theorem dL_law_1117 : decode cL_law 1117 = .ok (.iaload, 1) := by decide +kernel
theorem dL_law_1118 : decode cL_law 1118 = .ok (.invokevirtual 110, 3) := by decide +kernel
theorem dL_law_1121 : decode cL_law 1121 = .ok (.aload_n 2, 1) := by decide +kernel
theorem dL_law_1122 : decode cL_law 1122 = .ok (.aload_n 0, 1) := by decide +kernel
theorem dL_law_1123 : decode cL_law 1123 = .ok (.iload 4, 2) := by decide +kernel
theorem dL_law_1125 : decode cL_law 1125 = .ok (.iconst 1, 1) := by decide +kernel
theorem dL_law_1126 : decode cL_law 1126 = .ok (.iadd, 1) := by decide +kernel
theorem dL_law_1127 : decode cL_law 1127 = .ok (.iaload, 1) := by decide +kernel
theorem dL_law_1128 : decode cL_law 1128 = .ok (.invokevirtual 113, 3) := by decide +kernel
theorem dL_law_1131 : decode cL_law 1131 = .ok (.if_icmp .eq 877, 3) := by decide +kernel
theorem dL_law_1136 : decode cL_law 1136 = .ok (.aload_n 1, 1) := by decide +kernel
theorem dL_law_1137 : decode cL_law 1137 = .ok (.aload_n 0, 1) := by decide +kernel
theorem dL_law_1138 : decode cL_law 1138 = .ok (.iload 4, 2) := by decide +kernel
theorem dL_law_1140 : decode cL_law 1140 = .ok (.iconst 1, 1) := by decide +kernel
theorem dL_law_1141 : decode cL_law 1141 = .ok (.iadd, 1) := by decide +kernel
theorem dL_law_1142 : decode cL_law 1142 = .ok (.iaload, 1) := by decide +kernel
theorem dL_law_1143 : decode cL_law 1143 = .ok (.invokevirtual 114, 3) := by decide +kernel
theorem dL_law_1146 : decode cL_law 1146 = .ok (.aload_n 2, 1) := by decide +kernel
theorem dL_law_1147 : decode cL_law 1147 = .ok (.aload_n 0, 1) := by decide +kernel
theorem dL_law_1148 : decode cL_law 1148 = .ok (.iload 4, 2) := by decide +kernel
theorem dL_law_1150 : decode cL_law 1150 = .ok (.iconst 1, 1) := by decide +kernel
theorem dL_law_1151 : decode cL_law 1151 = .ok (.iadd, 1) := by decide +kernel
theorem dL_law_1152 : decode cL_law 1152 = .ok (.iaload, 1) := by decide +kernel
theorem dL_law_1153 : decode cL_law 1153 = .ok (.invokevirtual 117, 3) := by decide +kernel
theorem dL_law_1156 : decode cL_law 1156 = .ok (.if_icmp .eq 852, 3) := by decide +kernel
theorem dL_law_1161 : decode cL_law 1161 = .ok (.aload_n 1, 1) := by decide +kernel
theorem dL_law_1162 : decode cL_law 1162 = .ok (.aload_n 0, 1) := by decide +kernel
theorem dL_law_1163 : decode cL_law 1163 = .ok (.iload 4, 2) := by decide +kernel
theorem dL_law_1165 : decode cL_law 1165 = .ok (.iconst 1, 1) := by decide +kernel
theorem dL_law_1166 : decode cL_law 1166 = .ok (.iadd, 1) := by decide +kernel
theorem dL_law_1167 : decode cL_law 1167 = .ok (.iaload, 1) := by decide +kernel
theorem dL_law_1168 : decode cL_law 1168 = .ok (.aload_n 0, 1) := by decide +kernel
theorem dL_law_1169 : decode cL_law 1169 = .ok (.iload 4, 2) := by decide +kernel
theorem dL_law_1171 : decode cL_law 1171 = .ok (.iconst 2, 1) := by decide +kernel
theorem dL_law_1172 : decode cL_law 1172 = .ok (.iadd, 1) := by decide +kernel
theorem dL_law_1173 : decode cL_law 1173 = .ok (.iaload, 1) := by decide +kernel
theorem dL_law_1174 : decode cL_law 1174 = .ok (.aload_n 0, 1) := by decide +kernel
theorem dL_law_1175 : decode cL_law 1175 = .ok (.iload 4, 2) := by decide +kernel
theorem dL_law_1177 : decode cL_law 1177 = .ok (.iconst 3, 1) := by decide +kernel
theorem dL_law_1178 : decode cL_law 1178 = .ok (.iadd, 1) := by decide +kernel
theorem dL_law_1179 : decode cL_law 1179 = .ok (.iaload, 1) := by decide +kernel
theorem dL_law_1180 : decode cL_law 1180 = .ok (.aload_n 0, 1) := by decide +kernel
theorem dL_law_1181 : decode cL_law 1181 = .ok (.iload 4, 2) := by decide +kernel
theorem dL_law_1183 : decode cL_law 1183 = .ok (.iconst 4, 1) := by decide +kernel
theorem dL_law_1184 : decode cL_law 1184 = .ok (.iadd, 1) := by decide +kernel
theorem dL_law_1185 : decode cL_law 1185 = .ok (.iaload, 1) := by decide +kernel
theorem dL_law_1186 : decode cL_law 1186 = .ok (.aload_n 3, 1) := by decide +kernel
theorem dL_law_1187 : decode cL_law 1187 = .ok (.invokestatic 118, 3) := by decide +kernel
theorem dL_law_1190 : decode cL_law 1190 = .ok (.istore 5, 2) := by decide +kernel
theorem dL_law_1192 : decode cL_law 1192 = .ok (.aload_n 2, 1) := by decide +kernel
theorem dL_law_1193 : decode cL_law 1193 = .ok (.aload_n 0, 1) := by decide +kernel
theorem dL_law_1194 : decode cL_law 1194 = .ok (.iload 4, 2) := by decide +kernel
theorem dL_law_1196 : decode cL_law 1196 = .ok (.iconst 1, 1) := by decide +kernel
theorem dL_law_1197 : decode cL_law 1197 = .ok (.iadd, 1) := by decide +kernel
theorem dL_law_1198 : decode cL_law 1198 = .ok (.iaload, 1) := by decide +kernel
theorem dL_law_1199 : decode cL_law 1199 = .ok (.aload_n 0, 1) := by decide +kernel
theorem dL_law_1200 : decode cL_law 1200 = .ok (.iload 4, 2) := by decide +kernel
theorem dL_law_1202 : decode cL_law 1202 = .ok (.iconst 2, 1) := by decide +kernel
theorem dL_law_1203 : decode cL_law 1203 = .ok (.iadd, 1) := by decide +kernel
theorem dL_law_1204 : decode cL_law 1204 = .ok (.iaload, 1) := by decide +kernel
theorem dL_law_1205 : decode cL_law 1205 = .ok (.aload_n 0, 1) := by decide +kernel
theorem dL_law_1206 : decode cL_law 1206 = .ok (.iload 4, 2) := by decide +kernel
theorem dL_law_1208 : decode cL_law 1208 = .ok (.iconst 3, 1) := by decide +kernel
theorem dL_law_1209 : decode cL_law 1209 = .ok (.iadd, 1) := by decide +kernel
theorem dL_law_1210 : decode cL_law 1210 = .ok (.iaload, 1) := by decide +kernel
theorem dL_law_1211 : decode cL_law 1211 = .ok (.aload_n 0, 1) := by decide +kernel
theorem dL_law_1212 : decode cL_law 1212 = .ok (.iload 4, 2) := by decide +kernel
theorem dL_law_1214 : decode cL_law 1214 = .ok (.iconst 4, 1) := by decide +kernel
theorem dL_law_1215 : decode cL_law 1215 = .ok (.iadd, 1) := by decide +kernel
theorem dL_law_1216 : decode cL_law 1216 = .ok (.iaload, 1) := by decide +kernel
theorem dL_law_1217 : decode cL_law 1217 = .ok (.invokevirtual 121, 3) := by decide +kernel
theorem dL_law_1220 : decode cL_law 1220 = .ok (.istore 6, 2) := by decide +kernel
theorem dL_law_1222 : decode cL_law 1222 = .ok (.aload_n 2, 1) := by decide +kernel
theorem dL_law_1223 : decode cL_law 1223 = .ok (.invokevirtual 99, 3) := by decide +kernel
theorem dL_law_1226 : decode cL_law 1226 = .ok (.iload 5, 2) := by decide +kernel
theorem dL_law_1228 : decode cL_law 1228 = .ok (.if_icmp .eq 5, 3) := by decide +kernel
theorem dL_law_1233 : decode cL_law 1233 = .ok (.iload 5, 2) := by decide +kernel
theorem dL_law_1235 : decode cL_law 1235 = .ok (.ifCond .ne 15, 3) := by decide +kernel
theorem dL_law_1250 : decode cL_law 1250 = .ok (.goto 758, 3) := by decide +kernel
theorem dL_law_1253 : decode cL_law 1253 = .ok (.aload_n 1, 1) := by decide +kernel
theorem dL_law_1254 : decode cL_law 1254 = .ok (.aload_n 0, 1) := by decide +kernel
theorem dL_law_1255 : decode cL_law 1255 = .ok (.iload 4, 2) := by decide +kernel
theorem dL_law_1257 : decode cL_law 1257 = .ok (.iconst 1, 1) := by decide +kernel
theorem dL_law_1258 : decode cL_law 1258 = .ok (.iadd, 1) := by decide +kernel
theorem dL_law_1259 : decode cL_law 1259 = .ok (.iaload, 1) := by decide +kernel
theorem dL_law_1260 : decode cL_law 1260 = .ok (.aload_n 0, 1) := by decide +kernel
theorem dL_law_1261 : decode cL_law 1261 = .ok (.iload 4, 2) := by decide +kernel
theorem dL_law_1263 : decode cL_law 1263 = .ok (.iconst 2, 1) := by decide +kernel
theorem dL_law_1264 : decode cL_law 1264 = .ok (.iadd, 1) := by decide +kernel
theorem dL_law_1265 : decode cL_law 1265 = .ok (.iaload, 1) := by decide +kernel
theorem dL_law_1266 : decode cL_law 1266 = .ok (.aload_n 0, 1) := by decide +kernel
theorem dL_law_1267 : decode cL_law 1267 = .ok (.iload 4, 2) := by decide +kernel
theorem dL_law_1269 : decode cL_law 1269 = .ok (.iconst 3, 1) := by decide +kernel
theorem dL_law_1270 : decode cL_law 1270 = .ok (.iadd, 1) := by decide +kernel
theorem dL_law_1271 : decode cL_law 1271 = .ok (.iaload, 1) := by decide +kernel
theorem dL_law_1272 : decode cL_law 1272 = .ok (.invokevirtual 122, 3) := by decide +kernel
theorem dL_law_1275 : decode cL_law 1275 = .ok (.aload_n 2, 1) := by decide +kernel
theorem dL_law_1276 : decode cL_law 1276 = .ok (.aload_n 0, 1) := by decide +kernel
theorem dL_law_1277 : decode cL_law 1277 = .ok (.iload 4, 2) := by decide +kernel
theorem dL_law_1279 : decode cL_law 1279 = .ok (.iconst 1, 1) := by decide +kernel
theorem dL_law_1280 : decode cL_law 1280 = .ok (.iadd, 1) := by decide +kernel
theorem dL_law_1281 : decode cL_law 1281 = .ok (.iaload, 1) := by decide +kernel
theorem dL_law_1282 : decode cL_law 1282 = .ok (.aload_n 0, 1) := by decide +kernel
theorem dL_law_1283 : decode cL_law 1283 = .ok (.iload 4, 2) := by decide +kernel
theorem dL_law_1285 : decode cL_law 1285 = .ok (.iconst 2, 1) := by decide +kernel
theorem dL_law_1286 : decode cL_law 1286 = .ok (.iadd, 1) := by decide +kernel
theorem dL_law_1287 : decode cL_law 1287 = .ok (.iaload, 1) := by decide +kernel
theorem dL_law_1288 : decode cL_law 1288 = .ok (.aload_n 0, 1) := by decide +kernel
theorem dL_law_1289 : decode cL_law 1289 = .ok (.iload 4, 2) := by decide +kernel
theorem dL_law_1291 : decode cL_law 1291 = .ok (.iconst 3, 1) := by decide +kernel
theorem dL_law_1292 : decode cL_law 1292 = .ok (.iadd, 1) := by decide +kernel
theorem dL_law_1293 : decode cL_law 1293 = .ok (.iaload, 1) := by decide +kernel
theorem dL_law_1294 : decode cL_law 1294 = .ok (.invokevirtual 126, 3) := by decide +kernel
theorem dL_law_1297 : decode cL_law 1297 = .ok (.if_icmp .eq 711, 3) := by decide +kernel
theorem dL_law_1302 : decode cL_law 1302 = .ok (.aload_n 1, 1) := by decide +kernel
theorem dL_law_1303 : decode cL_law 1303 = .ok (.aload_n 0, 1) := by decide +kernel
theorem dL_law_1304 : decode cL_law 1304 = .ok (.iload 4, 2) := by decide +kernel
theorem dL_law_1306 : decode cL_law 1306 = .ok (.iconst 1, 1) := by decide +kernel
theorem dL_law_1307 : decode cL_law 1307 = .ok (.iadd, 1) := by decide +kernel
theorem dL_law_1308 : decode cL_law 1308 = .ok (.iaload, 1) := by decide +kernel
theorem dL_law_1309 : decode cL_law 1309 = .ok (.aload_n 0, 1) := by decide +kernel
theorem dL_law_1310 : decode cL_law 1310 = .ok (.iload 4, 2) := by decide +kernel
theorem dL_law_1312 : decode cL_law 1312 = .ok (.iconst 2, 1) := by decide +kernel
theorem dL_law_1313 : decode cL_law 1313 = .ok (.iadd, 1) := by decide +kernel
theorem dL_law_1314 : decode cL_law 1314 = .ok (.iaload, 1) := by decide +kernel
theorem dL_law_1315 : decode cL_law 1315 = .ok (.aload_n 0, 1) := by decide +kernel
theorem dL_law_1316 : decode cL_law 1316 = .ok (.iload 4, 2) := by decide +kernel
theorem dL_law_1318 : decode cL_law 1318 = .ok (.iconst 3, 1) := by decide +kernel
theorem dL_law_1319 : decode cL_law 1319 = .ok (.iadd, 1) := by decide +kernel
theorem dL_law_1320 : decode cL_law 1320 = .ok (.iaload, 1) := by decide +kernel
theorem dL_law_1321 : decode cL_law 1321 = .ok (.invokevirtual 127, 3) := by decide +kernel
theorem dL_law_1324 : decode cL_law 1324 = .ok (.aload_n 2, 1) := by decide +kernel
theorem dL_law_1325 : decode cL_law 1325 = .ok (.aload_n 0, 1) := by decide +kernel
theorem dL_law_1326 : decode cL_law 1326 = .ok (.iload 4, 2) := by decide +kernel
theorem dL_law_1328 : decode cL_law 1328 = .ok (.iconst 1, 1) := by decide +kernel
theorem dL_law_1329 : decode cL_law 1329 = .ok (.iadd, 1) := by decide +kernel
theorem dL_law_1330 : decode cL_law 1330 = .ok (.iaload, 1) := by decide +kernel
theorem dL_law_1331 : decode cL_law 1331 = .ok (.aload_n 0, 1) := by decide +kernel
theorem dL_law_1332 : decode cL_law 1332 = .ok (.iload 4, 2) := by decide +kernel
theorem dL_law_1334 : decode cL_law 1334 = .ok (.iconst 2, 1) := by decide +kernel
theorem dL_law_1335 : decode cL_law 1335 = .ok (.iadd, 1) := by decide +kernel
theorem dL_law_1336 : decode cL_law 1336 = .ok (.iaload, 1) := by decide +kernel
theorem dL_law_1337 : decode cL_law 1337 = .ok (.aload_n 0, 1) := by decide +kernel
theorem dL_law_1338 : decode cL_law 1338 = .ok (.iload 4, 2) := by decide +kernel
theorem dL_law_1340 : decode cL_law 1340 = .ok (.iconst 3, 1) := by decide +kernel
theorem dL_law_1341 : decode cL_law 1341 = .ok (.iadd, 1) := by decide +kernel
theorem dL_law_1342 : decode cL_law 1342 = .ok (.iaload, 1) := by decide +kernel
theorem dL_law_1343 : decode cL_law 1343 = .ok (.invokevirtual 130, 3) := by decide +kernel
theorem dL_law_1346 : decode cL_law 1346 = .ok (.if_icmp .eq 662, 3) := by decide +kernel
theorem dL_law_1351 : decode cL_law 1351 = .ok (.aload_n 1, 1) := by decide +kernel
theorem dL_law_1352 : decode cL_law 1352 = .ok (.aload_n 0, 1) := by decide +kernel
theorem dL_law_1353 : decode cL_law 1353 = .ok (.iload 4, 2) := by decide +kernel
theorem dL_law_1355 : decode cL_law 1355 = .ok (.iconst 1, 1) := by decide +kernel
theorem dL_law_1356 : decode cL_law 1356 = .ok (.iadd, 1) := by decide +kernel
theorem dL_law_1357 : decode cL_law 1357 = .ok (.iaload, 1) := by decide +kernel
theorem dL_law_1358 : decode cL_law 1358 = .ok (.aload_n 0, 1) := by decide +kernel
theorem dL_law_1359 : decode cL_law 1359 = .ok (.iload 4, 2) := by decide +kernel
theorem dL_law_1361 : decode cL_law 1361 = .ok (.iconst 2, 1) := by decide +kernel
theorem dL_law_1362 : decode cL_law 1362 = .ok (.iadd, 1) := by decide +kernel
theorem dL_law_1363 : decode cL_law 1363 = .ok (.iaload, 1) := by decide +kernel
theorem dL_law_1364 : decode cL_law 1364 = .ok (.aload_n 0, 1) := by decide +kernel
theorem dL_law_1365 : decode cL_law 1365 = .ok (.iload 4, 2) := by decide +kernel
theorem dL_law_1367 : decode cL_law 1367 = .ok (.iconst 3, 1) := by decide +kernel
theorem dL_law_1368 : decode cL_law 1368 = .ok (.iadd, 1) := by decide +kernel
theorem dL_law_1369 : decode cL_law 1369 = .ok (.iaload, 1) := by decide +kernel
theorem dL_law_1370 : decode cL_law 1370 = .ok (.aload_n 0, 1) := by decide +kernel
theorem dL_law_1371 : decode cL_law 1371 = .ok (.iload 4, 2) := by decide +kernel
theorem dL_law_1373 : decode cL_law 1373 = .ok (.iconst 4, 1) := by decide +kernel
theorem dL_law_1374 : decode cL_law 1374 = .ok (.iadd, 1) := by decide +kernel
theorem dL_law_1375 : decode cL_law 1375 = .ok (.iaload, 1) := by decide +kernel
theorem dL_law_1376 : decode cL_law 1376 = .ok (.aload_n 3, 1) := by decide +kernel
theorem dL_law_1377 : decode cL_law 1377 = .ok (.invokestatic 131, 3) := by decide +kernel
theorem dL_law_1380 : decode cL_law 1380 = .ok (.istore 5, 2) := by decide +kernel
theorem dL_law_1382 : decode cL_law 1382 = .ok (.aload_n 2, 1) := by decide +kernel
theorem dL_law_1383 : decode cL_law 1383 = .ok (.aload_n 0, 1) := by decide +kernel
theorem dL_law_1384 : decode cL_law 1384 = .ok (.iload 4, 2) := by decide +kernel
theorem dL_law_1386 : decode cL_law 1386 = .ok (.iconst 1, 1) := by decide +kernel
theorem dL_law_1387 : decode cL_law 1387 = .ok (.iadd, 1) := by decide +kernel
theorem dL_law_1388 : decode cL_law 1388 = .ok (.iaload, 1) := by decide +kernel
theorem dL_law_1389 : decode cL_law 1389 = .ok (.aload_n 0, 1) := by decide +kernel
theorem dL_law_1390 : decode cL_law 1390 = .ok (.iload 4, 2) := by decide +kernel
theorem dL_law_1392 : decode cL_law 1392 = .ok (.iconst 2, 1) := by decide +kernel
theorem dL_law_1393 : decode cL_law 1393 = .ok (.iadd, 1) := by decide +kernel
theorem dL_law_1394 : decode cL_law 1394 = .ok (.iaload, 1) := by decide +kernel
theorem dL_law_1395 : decode cL_law 1395 = .ok (.aload_n 0, 1) := by decide +kernel
theorem dL_law_1396 : decode cL_law 1396 = .ok (.iload 4, 2) := by decide +kernel
theorem dL_law_1398 : decode cL_law 1398 = .ok (.iconst 3, 1) := by decide +kernel
theorem dL_law_1399 : decode cL_law 1399 = .ok (.iadd, 1) := by decide +kernel
theorem dL_law_1400 : decode cL_law 1400 = .ok (.iaload, 1) := by decide +kernel
theorem dL_law_1401 : decode cL_law 1401 = .ok (.aload_n 0, 1) := by decide +kernel
theorem dL_law_1402 : decode cL_law 1402 = .ok (.iload 4, 2) := by decide +kernel
theorem dL_law_1404 : decode cL_law 1404 = .ok (.iconst 4, 1) := by decide +kernel
theorem dL_law_1405 : decode cL_law 1405 = .ok (.iadd, 1) := by decide +kernel
theorem dL_law_1406 : decode cL_law 1406 = .ok (.iaload, 1) := by decide +kernel
theorem dL_law_1407 : decode cL_law 1407 = .ok (.invokevirtual 133, 3) := by decide +kernel
theorem dL_law_1410 : decode cL_law 1410 = .ok (.istore 6, 2) := by decide +kernel
theorem dL_law_1412 : decode cL_law 1412 = .ok (.aload_n 2, 1) := by decide +kernel
theorem dL_law_1413 : decode cL_law 1413 = .ok (.invokevirtual 99, 3) := by decide +kernel
theorem dL_law_1416 : decode cL_law 1416 = .ok (.iload 5, 2) := by decide +kernel
theorem dL_law_1418 : decode cL_law 1418 = .ok (.if_icmp .eq 5, 3) := by decide +kernel
theorem dL_law_1423 : decode cL_law 1423 = .ok (.iload 5, 2) := by decide +kernel
theorem dL_law_1425 : decode cL_law 1425 = .ok (.ifCond .ne 15, 3) := by decide +kernel
theorem dL_law_1440 : decode cL_law 1440 = .ok (.goto 568, 3) := by decide +kernel
theorem dL_law_1443 : decode cL_law 1443 = .ok (.aload_n 1, 1) := by decide +kernel
theorem dL_law_1444 : decode cL_law 1444 = .ok (.aload_n 0, 1) := by decide +kernel
theorem dL_law_1445 : decode cL_law 1445 = .ok (.iload 4, 2) := by decide +kernel
theorem dL_law_1447 : decode cL_law 1447 = .ok (.iconst 1, 1) := by decide +kernel
theorem dL_law_1448 : decode cL_law 1448 = .ok (.iadd, 1) := by decide +kernel
theorem dL_law_1449 : decode cL_law 1449 = .ok (.iaload, 1) := by decide +kernel
theorem dL_law_1450 : decode cL_law 1450 = .ok (.aload_n 0, 1) := by decide +kernel
theorem dL_law_1451 : decode cL_law 1451 = .ok (.iload 4, 2) := by decide +kernel
theorem dL_law_1453 : decode cL_law 1453 = .ok (.iconst 2, 1) := by decide +kernel
theorem dL_law_1454 : decode cL_law 1454 = .ok (.iadd, 1) := by decide +kernel
theorem dL_law_1455 : decode cL_law 1455 = .ok (.iaload, 1) := by decide +kernel
theorem dL_law_1456 : decode cL_law 1456 = .ok (.aload_n 0, 1) := by decide +kernel
theorem dL_law_1457 : decode cL_law 1457 = .ok (.iload 4, 2) := by decide +kernel
theorem dL_law_1459 : decode cL_law 1459 = .ok (.iconst 3, 1) := by decide +kernel
theorem dL_law_1460 : decode cL_law 1460 = .ok (.iadd, 1) := by decide +kernel
theorem dL_law_1461 : decode cL_law 1461 = .ok (.iaload, 1) := by decide +kernel
theorem dL_law_1462 : decode cL_law 1462 = .ok (.invokevirtual 134, 3) := by decide +kernel
theorem dL_law_1465 : decode cL_law 1465 = .ok (.aload_n 2, 1) := by decide +kernel
theorem dL_law_1466 : decode cL_law 1466 = .ok (.aload_n 0, 1) := by decide +kernel
theorem dL_law_1467 : decode cL_law 1467 = .ok (.iload 4, 2) := by decide +kernel
theorem dL_law_1469 : decode cL_law 1469 = .ok (.iconst 1, 1) := by decide +kernel
theorem dL_law_1470 : decode cL_law 1470 = .ok (.iadd, 1) := by decide +kernel
theorem dL_law_1471 : decode cL_law 1471 = .ok (.iaload, 1) := by decide +kernel
theorem dL_law_1472 : decode cL_law 1472 = .ok (.aload_n 0, 1) := by decide +kernel
theorem dL_law_1473 : decode cL_law 1473 = .ok (.iload 4, 2) := by decide +kernel
theorem dL_law_1475 : decode cL_law 1475 = .ok (.iconst 2, 1) := by decide +kernel
theorem dL_law_1476 : decode cL_law 1476 = .ok (.iadd, 1) := by decide +kernel
theorem dL_law_1477 : decode cL_law 1477 = .ok (.iaload, 1) := by decide +kernel
theorem dL_law_1478 : decode cL_law 1478 = .ok (.aload_n 0, 1) := by decide +kernel
theorem dL_law_1479 : decode cL_law 1479 = .ok (.iload 4, 2) := by decide +kernel
theorem dL_law_1481 : decode cL_law 1481 = .ok (.iconst 3, 1) := by decide +kernel
theorem dL_law_1482 : decode cL_law 1482 = .ok (.iadd, 1) := by decide +kernel
theorem dL_law_1483 : decode cL_law 1483 = .ok (.iaload, 1) := by decide +kernel
theorem dL_law_1484 : decode cL_law 1484 = .ok (.invokevirtual 137, 3) := by decide +kernel
theorem dL_law_1487 : decode cL_law 1487 = .ok (.if_icmp .eq 521, 3) := by decide +kernel
theorem dL_law_1492 : decode cL_law 1492 = .ok (.aload_n 1, 1) := by decide +kernel
theorem dL_law_1493 : decode cL_law 1493 = .ok (.aload_n 0, 1) := by decide +kernel
theorem dL_law_1494 : decode cL_law 1494 = .ok (.iload 4, 2) := by decide +kernel
theorem dL_law_1496 : decode cL_law 1496 = .ok (.iconst 1, 1) := by decide +kernel
theorem dL_law_1497 : decode cL_law 1497 = .ok (.iadd, 1) := by decide +kernel
theorem dL_law_1498 : decode cL_law 1498 = .ok (.iaload, 1) := by decide +kernel
theorem dL_law_1499 : decode cL_law 1499 = .ok (.aload_n 0, 1) := by decide +kernel
theorem dL_law_1500 : decode cL_law 1500 = .ok (.iload 4, 2) := by decide +kernel
theorem dL_law_1502 : decode cL_law 1502 = .ok (.iconst 2, 1) := by decide +kernel
theorem dL_law_1503 : decode cL_law 1503 = .ok (.iadd, 1) := by decide +kernel
theorem dL_law_1504 : decode cL_law 1504 = .ok (.iaload, 1) := by decide +kernel
theorem dL_law_1505 : decode cL_law 1505 = .ok (.aload_n 0, 1) := by decide +kernel
theorem dL_law_1506 : decode cL_law 1506 = .ok (.iload 4, 2) := by decide +kernel
theorem dL_law_1508 : decode cL_law 1508 = .ok (.iconst 3, 1) := by decide +kernel
theorem dL_law_1509 : decode cL_law 1509 = .ok (.iadd, 1) := by decide +kernel
theorem dL_law_1510 : decode cL_law 1510 = .ok (.iaload, 1) := by decide +kernel
theorem dL_law_1511 : decode cL_law 1511 = .ok (.invokevirtual 138, 3) := by decide +kernel
theorem dL_law_1514 : decode cL_law 1514 = .ok (.aload_n 2, 1) := by decide +kernel
theorem dL_law_1515 : decode cL_law 1515 = .ok (.aload_n 0, 1) := by decide +kernel
theorem dL_law_1516 : decode cL_law 1516 = .ok (.iload 4, 2) := by decide +kernel
theorem dL_law_1518 : decode cL_law 1518 = .ok (.iconst 1, 1) := by decide +kernel
theorem dL_law_1519 : decode cL_law 1519 = .ok (.iadd, 1) := by decide +kernel
theorem dL_law_1520 : decode cL_law 1520 = .ok (.iaload, 1) := by decide +kernel
theorem dL_law_1521 : decode cL_law 1521 = .ok (.aload_n 0, 1) := by decide +kernel
theorem dL_law_1522 : decode cL_law 1522 = .ok (.iload 4, 2) := by decide +kernel
theorem dL_law_1524 : decode cL_law 1524 = .ok (.iconst 2, 1) := by decide +kernel
theorem dL_law_1525 : decode cL_law 1525 = .ok (.iadd, 1) := by decide +kernel
theorem dL_law_1526 : decode cL_law 1526 = .ok (.iaload, 1) := by decide +kernel
theorem dL_law_1527 : decode cL_law 1527 = .ok (.aload_n 0, 1) := by decide +kernel
theorem dL_law_1528 : decode cL_law 1528 = .ok (.iload 4, 2) := by decide +kernel
theorem dL_law_1530 : decode cL_law 1530 = .ok (.iconst 3, 1) := by decide +kernel
theorem dL_law_1531 : decode cL_law 1531 = .ok (.iadd, 1) := by decide +kernel
theorem dL_law_1532 : decode cL_law 1532 = .ok (.iaload, 1) := by decide +kernel
theorem dL_law_1533 : decode cL_law 1533 = .ok (.invokevirtual 141, 3) := by decide +kernel
theorem dL_law_1536 : decode cL_law 1536 = .ok (.if_icmp .eq 472, 3) := by decide +kernel
theorem dL_law_1541 : decode cL_law 1541 = .ok (.aload_n 1, 1) := by decide +kernel
theorem dL_law_1542 : decode cL_law 1542 = .ok (.aload_n 0, 1) := by decide +kernel
theorem dL_law_1543 : decode cL_law 1543 = .ok (.iload 4, 2) := by decide +kernel
theorem dL_law_1545 : decode cL_law 1545 = .ok (.iconst 1, 1) := by decide +kernel
theorem dL_law_1546 : decode cL_law 1546 = .ok (.iadd, 1) := by decide +kernel
theorem dL_law_1547 : decode cL_law 1547 = .ok (.iaload, 1) := by decide +kernel
theorem dL_law_1548 : decode cL_law 1548 = .ok (.aload_n 0, 1) := by decide +kernel
theorem dL_law_1549 : decode cL_law 1549 = .ok (.iload 4, 2) := by decide +kernel
theorem dL_law_1551 : decode cL_law 1551 = .ok (.iconst 2, 1) := by decide +kernel
theorem dL_law_1552 : decode cL_law 1552 = .ok (.iadd, 1) := by decide +kernel
theorem dL_law_1553 : decode cL_law 1553 = .ok (.iaload, 1) := by decide +kernel
theorem dL_law_1554 : decode cL_law 1554 = .ok (.aload_n 0, 1) := by decide +kernel
theorem dL_law_1555 : decode cL_law 1555 = .ok (.iload 4, 2) := by decide +kernel
theorem dL_law_1557 : decode cL_law 1557 = .ok (.iconst 3, 1) := by decide +kernel
theorem dL_law_1558 : decode cL_law 1558 = .ok (.iadd, 1) := by decide +kernel
theorem dL_law_1559 : decode cL_law 1559 = .ok (.iaload, 1) := by decide +kernel
theorem dL_law_1560 : decode cL_law 1560 = .ok (.aload_n 0, 1) := by decide +kernel
theorem dL_law_1561 : decode cL_law 1561 = .ok (.iload 4, 2) := by decide +kernel
theorem dL_law_1563 : decode cL_law 1563 = .ok (.iconst 4, 1) := by decide +kernel
theorem dL_law_1564 : decode cL_law 1564 = .ok (.iadd, 1) := by decide +kernel
theorem dL_law_1565 : decode cL_law 1565 = .ok (.iaload, 1) := by decide +kernel
theorem dL_law_1566 : decode cL_law 1566 = .ok (.invokevirtual 142, 3) := by decide +kernel
theorem dL_law_1569 : decode cL_law 1569 = .ok (.aload_n 2, 1) := by decide +kernel
theorem dL_law_1570 : decode cL_law 1570 = .ok (.aload_n 0, 1) := by decide +kernel
theorem dL_law_1571 : decode cL_law 1571 = .ok (.iload 4, 2) := by decide +kernel
theorem dL_law_1573 : decode cL_law 1573 = .ok (.iconst 1, 1) := by decide +kernel
theorem dL_law_1574 : decode cL_law 1574 = .ok (.iadd, 1) := by decide +kernel
theorem dL_law_1575 : decode cL_law 1575 = .ok (.iaload, 1) := by decide +kernel
theorem dL_law_1576 : decode cL_law 1576 = .ok (.aload_n 0, 1) := by decide +kernel
theorem dL_law_1577 : decode cL_law 1577 = .ok (.iload 4, 2) := by decide +kernel
theorem dL_law_1579 : decode cL_law 1579 = .ok (.iconst 2, 1) := by decide +kernel
theorem dL_law_1580 : decode cL_law 1580 = .ok (.iadd, 1) := by decide +kernel
theorem dL_law_1581 : decode cL_law 1581 = .ok (.iaload, 1) := by decide +kernel
theorem dL_law_1582 : decode cL_law 1582 = .ok (.aload_n 0, 1) := by decide +kernel
theorem dL_law_1583 : decode cL_law 1583 = .ok (.iload 4, 2) := by decide +kernel
theorem dL_law_1585 : decode cL_law 1585 = .ok (.iconst 3, 1) := by decide +kernel
theorem dL_law_1586 : decode cL_law 1586 = .ok (.iadd, 1) := by decide +kernel
theorem dL_law_1587 : decode cL_law 1587 = .ok (.iaload, 1) := by decide +kernel
theorem dL_law_1588 : decode cL_law 1588 = .ok (.aload_n 0, 1) := by decide +kernel
theorem dL_law_1589 : decode cL_law 1589 = .ok (.iload 4, 2) := by decide +kernel
theorem dL_law_1591 : decode cL_law 1591 = .ok (.iconst 4, 1) := by decide +kernel
theorem dL_law_1592 : decode cL_law 1592 = .ok (.iadd, 1) := by decide +kernel
theorem dL_law_1593 : decode cL_law 1593 = .ok (.iaload, 1) := by decide +kernel
theorem dL_law_1594 : decode cL_law 1594 = .ok (.invokevirtual 145, 3) := by decide +kernel
theorem dL_law_1597 : decode cL_law 1597 = .ok (.if_icmp .eq 411, 3) := by decide +kernel
theorem dL_law_1602 : decode cL_law 1602 = .ok (.aload_n 1, 1) := by decide +kernel
theorem dL_law_1603 : decode cL_law 1603 = .ok (.aload_n 0, 1) := by decide +kernel
theorem dL_law_1604 : decode cL_law 1604 = .ok (.iload 4, 2) := by decide +kernel
theorem dL_law_1606 : decode cL_law 1606 = .ok (.iconst 1, 1) := by decide +kernel
theorem dL_law_1607 : decode cL_law 1607 = .ok (.iadd, 1) := by decide +kernel
theorem dL_law_1608 : decode cL_law 1608 = .ok (.iaload, 1) := by decide +kernel
theorem dL_law_1609 : decode cL_law 1609 = .ok (.aload_n 0, 1) := by decide +kernel
theorem dL_law_1610 : decode cL_law 1610 = .ok (.iload 4, 2) := by decide +kernel
theorem dL_law_1612 : decode cL_law 1612 = .ok (.iconst 2, 1) := by decide +kernel
theorem dL_law_1613 : decode cL_law 1613 = .ok (.iadd, 1) := by decide +kernel
theorem dL_law_1614 : decode cL_law 1614 = .ok (.iaload, 1) := by decide +kernel
theorem dL_law_1615 : decode cL_law 1615 = .ok (.aload_n 0, 1) := by decide +kernel
theorem dL_law_1616 : decode cL_law 1616 = .ok (.iload 4, 2) := by decide +kernel
theorem dL_law_1618 : decode cL_law 1618 = .ok (.iconst 3, 1) := by decide +kernel
theorem dL_law_1619 : decode cL_law 1619 = .ok (.iadd, 1) := by decide +kernel
theorem dL_law_1620 : decode cL_law 1620 = .ok (.iaload, 1) := by decide +kernel
theorem dL_law_1621 : decode cL_law 1621 = .ok (.invokevirtual 146, 3) := by decide +kernel
theorem dL_law_1624 : decode cL_law 1624 = .ok (.aload_n 2, 1) := by decide +kernel
theorem dL_law_1625 : decode cL_law 1625 = .ok (.aload_n 0, 1) := by decide +kernel
theorem dL_law_1626 : decode cL_law 1626 = .ok (.iload 4, 2) := by decide +kernel
theorem dL_law_1628 : decode cL_law 1628 = .ok (.iconst 1, 1) := by decide +kernel
theorem dL_law_1629 : decode cL_law 1629 = .ok (.iadd, 1) := by decide +kernel
theorem dL_law_1630 : decode cL_law 1630 = .ok (.iaload, 1) := by decide +kernel
theorem dL_law_1631 : decode cL_law 1631 = .ok (.aload_n 0, 1) := by decide +kernel
theorem dL_law_1632 : decode cL_law 1632 = .ok (.iload 4, 2) := by decide +kernel
theorem dL_law_1634 : decode cL_law 1634 = .ok (.iconst 2, 1) := by decide +kernel
theorem dL_law_1635 : decode cL_law 1635 = .ok (.iadd, 1) := by decide +kernel
theorem dL_law_1636 : decode cL_law 1636 = .ok (.iaload, 1) := by decide +kernel
theorem dL_law_1637 : decode cL_law 1637 = .ok (.aload_n 0, 1) := by decide +kernel
theorem dL_law_1638 : decode cL_law 1638 = .ok (.iload 4, 2) := by decide +kernel
theorem dL_law_1640 : decode cL_law 1640 = .ok (.iconst 3, 1) := by decide +kernel
theorem dL_law_1641 : decode cL_law 1641 = .ok (.iadd, 1) := by decide +kernel
theorem dL_law_1642 : decode cL_law 1642 = .ok (.iaload, 1) := by decide +kernel
theorem dL_law_1643 : decode cL_law 1643 = .ok (.invokevirtual 149, 3) := by decide +kernel
theorem dL_law_1646 : decode cL_law 1646 = .ok (.if_icmp .eq 362, 3) := by decide +kernel
theorem dL_law_1651 : decode cL_law 1651 = .ok (.aload_n 1, 1) := by decide +kernel
theorem dL_law_1652 : decode cL_law 1652 = .ok (.aload_n 0, 1) := by decide +kernel
theorem dL_law_1653 : decode cL_law 1653 = .ok (.iload 4, 2) := by decide +kernel
theorem dL_law_1655 : decode cL_law 1655 = .ok (.iconst 1, 1) := by decide +kernel
theorem dL_law_1656 : decode cL_law 1656 = .ok (.iadd, 1) := by decide +kernel
theorem dL_law_1657 : decode cL_law 1657 = .ok (.iaload, 1) := by decide +kernel
theorem dL_law_1658 : decode cL_law 1658 = .ok (.aload_n 0, 1) := by decide +kernel
theorem dL_law_1659 : decode cL_law 1659 = .ok (.iload 4, 2) := by decide +kernel
theorem dL_law_1661 : decode cL_law 1661 = .ok (.iconst 2, 1) := by decide +kernel
theorem dL_law_1662 : decode cL_law 1662 = .ok (.iadd, 1) := by decide +kernel
theorem dL_law_1663 : decode cL_law 1663 = .ok (.iaload, 1) := by decide +kernel
theorem dL_law_1664 : decode cL_law 1664 = .ok (.invokevirtual 150, 3) := by decide +kernel
theorem dL_law_1667 : decode cL_law 1667 = .ok (.aload_n 2, 1) := by decide +kernel
theorem dL_law_1668 : decode cL_law 1668 = .ok (.aload_n 0, 1) := by decide +kernel
theorem dL_law_1669 : decode cL_law 1669 = .ok (.iload 4, 2) := by decide +kernel
theorem dL_law_1671 : decode cL_law 1671 = .ok (.iconst 1, 1) := by decide +kernel
theorem dL_law_1672 : decode cL_law 1672 = .ok (.iadd, 1) := by decide +kernel
theorem dL_law_1673 : decode cL_law 1673 = .ok (.iaload, 1) := by decide +kernel
theorem dL_law_1674 : decode cL_law 1674 = .ok (.aload_n 0, 1) := by decide +kernel
theorem dL_law_1675 : decode cL_law 1675 = .ok (.iload 4, 2) := by decide +kernel
theorem dL_law_1677 : decode cL_law 1677 = .ok (.iconst 2, 1) := by decide +kernel
theorem dL_law_1678 : decode cL_law 1678 = .ok (.iadd, 1) := by decide +kernel
theorem dL_law_1679 : decode cL_law 1679 = .ok (.iaload, 1) := by decide +kernel
theorem dL_law_1680 : decode cL_law 1680 = .ok (.invokevirtual 153, 3) := by decide +kernel
theorem dL_law_1683 : decode cL_law 1683 = .ok (.if_icmp .eq 325, 3) := by decide +kernel
theorem dL_law_1688 : decode cL_law 1688 = .ok (.aload_n 1, 1) := by decide +kernel
theorem dL_law_1689 : decode cL_law 1689 = .ok (.aload_n 0, 1) := by decide +kernel
theorem dL_law_1690 : decode cL_law 1690 = .ok (.iload 4, 2) := by decide +kernel
theorem dL_law_1692 : decode cL_law 1692 = .ok (.iconst 1, 1) := by decide +kernel
theorem dL_law_1693 : decode cL_law 1693 = .ok (.iadd, 1) := by decide +kernel
theorem dL_law_1694 : decode cL_law 1694 = .ok (.iaload, 1) := by decide +kernel
theorem dL_law_1695 : decode cL_law 1695 = .ok (.invokevirtual 154, 3) := by decide +kernel
theorem dL_law_1698 : decode cL_law 1698 = .ok (.aload_n 2, 1) := by decide +kernel
theorem dL_law_1699 : decode cL_law 1699 = .ok (.aload_n 0, 1) := by decide +kernel
theorem dL_law_1700 : decode cL_law 1700 = .ok (.iload 4, 2) := by decide +kernel
theorem dL_law_1702 : decode cL_law 1702 = .ok (.iconst 1, 1) := by decide +kernel
theorem dL_law_1703 : decode cL_law 1703 = .ok (.iadd, 1) := by decide +kernel
theorem dL_law_1704 : decode cL_law 1704 = .ok (.iaload, 1) := by decide +kernel
theorem dL_law_1705 : decode cL_law 1705 = .ok (.invokevirtual 157, 3) := by decide +kernel
theorem dL_law_1708 : decode cL_law 1708 = .ok (.if_icmp .eq 300, 3) := by decide +kernel
theorem dL_law_1713 : decode cL_law 1713 = .ok (.aload_n 1, 1) := by decide +kernel
theorem dL_law_1714 : decode cL_law 1714 = .ok (.aload_n 0, 1) := by decide +kernel
theorem dL_law_1715 : decode cL_law 1715 = .ok (.iload 4, 2) := by decide +kernel
theorem dL_law_1717 : decode cL_law 1717 = .ok (.iconst 1, 1) := by decide +kernel
theorem dL_law_1718 : decode cL_law 1718 = .ok (.iadd, 1) := by decide +kernel
theorem dL_law_1719 : decode cL_law 1719 = .ok (.iaload, 1) := by decide +kernel
theorem dL_law_1720 : decode cL_law 1720 = .ok (.aload_n 0, 1) := by decide +kernel
theorem dL_law_1721 : decode cL_law 1721 = .ok (.iload 4, 2) := by decide +kernel
theorem dL_law_1723 : decode cL_law 1723 = .ok (.iconst 2, 1) := by decide +kernel
theorem dL_law_1724 : decode cL_law 1724 = .ok (.iadd, 1) := by decide +kernel
theorem dL_law_1725 : decode cL_law 1725 = .ok (.iaload, 1) := by decide +kernel
theorem dL_law_1726 : decode cL_law 1726 = .ok (.aload_n 0, 1) := by decide +kernel
theorem dL_law_1727 : decode cL_law 1727 = .ok (.iload 4, 2) := by decide +kernel
theorem dL_law_1729 : decode cL_law 1729 = .ok (.iconst 3, 1) := by decide +kernel
theorem dL_law_1730 : decode cL_law 1730 = .ok (.iadd, 1) := by decide +kernel
theorem dL_law_1731 : decode cL_law 1731 = .ok (.iaload, 1) := by decide +kernel
theorem dL_law_1732 : decode cL_law 1732 = .ok (.invokevirtual 158, 3) := by decide +kernel
theorem dL_law_1735 : decode cL_law 1735 = .ok (.aload_n 2, 1) := by decide +kernel
theorem dL_law_1736 : decode cL_law 1736 = .ok (.aload_n 0, 1) := by decide +kernel
theorem dL_law_1737 : decode cL_law 1737 = .ok (.iload 4, 2) := by decide +kernel
theorem dL_law_1739 : decode cL_law 1739 = .ok (.iconst 1, 1) := by decide +kernel
theorem dL_law_1740 : decode cL_law 1740 = .ok (.iadd, 1) := by decide +kernel
theorem dL_law_1741 : decode cL_law 1741 = .ok (.iaload, 1) := by decide +kernel
theorem dL_law_1742 : decode cL_law 1742 = .ok (.aload_n 0, 1) := by decide +kernel
theorem dL_law_1743 : decode cL_law 1743 = .ok (.iload 4, 2) := by decide +kernel
theorem dL_law_1745 : decode cL_law 1745 = .ok (.iconst 2, 1) := by decide +kernel
theorem dL_law_1746 : decode cL_law 1746 = .ok (.iadd, 1) := by decide +kernel
theorem dL_law_1747 : decode cL_law 1747 = .ok (.iaload, 1) := by decide +kernel
theorem dL_law_1748 : decode cL_law 1748 = .ok (.aload_n 0, 1) := by decide +kernel
theorem dL_law_1749 : decode cL_law 1749 = .ok (.iload 4, 2) := by decide +kernel
theorem dL_law_1751 : decode cL_law 1751 = .ok (.iconst 3, 1) := by decide +kernel
theorem dL_law_1752 : decode cL_law 1752 = .ok (.iadd, 1) := by decide +kernel
theorem dL_law_1753 : decode cL_law 1753 = .ok (.iaload, 1) := by decide +kernel
theorem dL_law_1754 : decode cL_law 1754 = .ok (.invokevirtual 161, 3) := by decide +kernel
theorem dL_law_1757 : decode cL_law 1757 = .ok (.if_icmp .eq 251, 3) := by decide +kernel
theorem dL_law_1762 : decode cL_law 1762 = .ok (.aload_n 1, 1) := by decide +kernel
theorem dL_law_1763 : decode cL_law 1763 = .ok (.aload_n 0, 1) := by decide +kernel
theorem dL_law_1764 : decode cL_law 1764 = .ok (.iload 4, 2) := by decide +kernel
theorem dL_law_1766 : decode cL_law 1766 = .ok (.iconst 1, 1) := by decide +kernel
theorem dL_law_1767 : decode cL_law 1767 = .ok (.iadd, 1) := by decide +kernel
theorem dL_law_1768 : decode cL_law 1768 = .ok (.iaload, 1) := by decide +kernel
theorem dL_law_1769 : decode cL_law 1769 = .ok (.aload_n 3, 1) := by decide +kernel
theorem dL_law_1770 : decode cL_law 1770 = .ok (.invokestatic 162, 3) := by decide +kernel
theorem dL_law_1773 : decode cL_law 1773 = .ok (.istore 5, 2) := by decide +kernel
theorem dL_law_1775 : decode cL_law 1775 = .ok (.aload_n 2, 1) := by decide +kernel
theorem dL_law_1776 : decode cL_law 1776 = .ok (.aload_n 0, 1) := by decide +kernel
theorem dL_law_1777 : decode cL_law 1777 = .ok (.iload 4, 2) := by decide +kernel
theorem dL_law_1779 : decode cL_law 1779 = .ok (.iconst 1, 1) := by decide +kernel
theorem dL_law_1780 : decode cL_law 1780 = .ok (.iadd, 1) := by decide +kernel
theorem dL_law_1781 : decode cL_law 1781 = .ok (.iaload, 1) := by decide +kernel
theorem dL_law_1782 : decode cL_law 1782 = .ok (.invokevirtual 165, 3) := by decide +kernel
theorem dL_law_1785 : decode cL_law 1785 = .ok (.istore 6, 2) := by decide +kernel
theorem dL_law_1787 : decode cL_law 1787 = .ok (.aload_n 2, 1) := by decide +kernel
theorem dL_law_1788 : decode cL_law 1788 = .ok (.invokevirtual 99, 3) := by decide +kernel
theorem dL_law_1791 : decode cL_law 1791 = .ok (.iload 5, 2) := by decide +kernel
theorem dL_law_1793 : decode cL_law 1793 = .ok (.if_icmp .eq 5, 3) := by decide +kernel
theorem dL_law_1798 : decode cL_law 1798 = .ok (.iload 5, 2) := by decide +kernel
theorem dL_law_1800 : decode cL_law 1800 = .ok (.ifCond .ne 15, 3) := by decide +kernel
theorem dL_law_1803 : decode cL_law 1803 = .ok (.aload_n 3, 1) := by decide +kernel
theorem dL_law_1804 : decode cL_law 1804 = .ok (.iconst 0, 1) := by decide +kernel
theorem dL_law_1805 : decode cL_law 1805 = .ok (.laload, 1) := by decide +kernel
theorem dL_law_1806 : decode cL_law 1806 = .ok (.iload 6, 2) := by decide +kernel
theorem dL_law_1808 : decode cL_law 1808 = .ok (.i2l, 1) := by decide +kernel
theorem dL_law_1809 : decode cL_law 1809 = .ok (.lcmp, 1) := by decide +kernel
theorem dL_law_1810 : decode cL_law 1810 = .ok (.ifCond .eq 5, 3) := by decide +kernel
theorem dL_law_1815 : decode cL_law 1815 = .ok (.goto 193, 3) := by decide +kernel
theorem dL_law_1818 : decode cL_law 1818 = .ok (.aload_n 1, 1) := by decide +kernel
theorem dL_law_1819 : decode cL_law 1819 = .ok (.aload_n 0, 1) := by decide +kernel
theorem dL_law_1820 : decode cL_law 1820 = .ok (.iload 4, 2) := by decide +kernel
theorem dL_law_1822 : decode cL_law 1822 = .ok (.iconst 1, 1) := by decide +kernel
theorem dL_law_1823 : decode cL_law 1823 = .ok (.iadd, 1) := by decide +kernel
theorem dL_law_1824 : decode cL_law 1824 = .ok (.iaload, 1) := by decide +kernel
theorem dL_law_1825 : decode cL_law 1825 = .ok (.aload_n 0, 1) := by decide +kernel
theorem dL_law_1826 : decode cL_law 1826 = .ok (.iload 4, 2) := by decide +kernel
theorem dL_law_1828 : decode cL_law 1828 = .ok (.iconst 2, 1) := by decide +kernel
theorem dL_law_1829 : decode cL_law 1829 = .ok (.iadd, 1) := by decide +kernel
theorem dL_law_1830 : decode cL_law 1830 = .ok (.iaload, 1) := by decide +kernel
theorem dL_law_1831 : decode cL_law 1831 = .ok (.aload_n 0, 1) := by decide +kernel
theorem dL_law_1832 : decode cL_law 1832 = .ok (.iload 4, 2) := by decide +kernel
theorem dL_law_1834 : decode cL_law 1834 = .ok (.iconst 3, 1) := by decide +kernel
theorem dL_law_1835 : decode cL_law 1835 = .ok (.iadd, 1) := by decide +kernel
theorem dL_law_1836 : decode cL_law 1836 = .ok (.iaload, 1) := by decide +kernel
theorem dL_law_1837 : decode cL_law 1837 = .ok (.ifCond .eq 7, 3) := by decide +kernel
theorem dL_law_1844 : decode cL_law 1844 = .ok (.iconst 0, 1) := by decide +kernel
theorem dL_law_1845 : decode cL_law 1845 = .ok (.invokevirtual 166, 3) := by decide +kernel
theorem dL_law_1848 : decode cL_law 1848 = .ok (.aload_n 2, 1) := by decide +kernel
theorem dL_law_1849 : decode cL_law 1849 = .ok (.aload_n 0, 1) := by decide +kernel
theorem dL_law_1850 : decode cL_law 1850 = .ok (.iload 4, 2) := by decide +kernel
theorem dL_law_1852 : decode cL_law 1852 = .ok (.iconst 1, 1) := by decide +kernel
theorem dL_law_1853 : decode cL_law 1853 = .ok (.iadd, 1) := by decide +kernel
theorem dL_law_1854 : decode cL_law 1854 = .ok (.iaload, 1) := by decide +kernel
theorem dL_law_1855 : decode cL_law 1855 = .ok (.aload_n 0, 1) := by decide +kernel
theorem dL_law_1856 : decode cL_law 1856 = .ok (.iload 4, 2) := by decide +kernel
theorem dL_law_1858 : decode cL_law 1858 = .ok (.iconst 2, 1) := by decide +kernel
theorem dL_law_1859 : decode cL_law 1859 = .ok (.iadd, 1) := by decide +kernel
theorem dL_law_1860 : decode cL_law 1860 = .ok (.iaload, 1) := by decide +kernel
theorem dL_law_1861 : decode cL_law 1861 = .ok (.aload_n 0, 1) := by decide +kernel
theorem dL_law_1862 : decode cL_law 1862 = .ok (.iload 4, 2) := by decide +kernel
theorem dL_law_1864 : decode cL_law 1864 = .ok (.iconst 3, 1) := by decide +kernel
theorem dL_law_1865 : decode cL_law 1865 = .ok (.iadd, 1) := by decide +kernel
theorem dL_law_1866 : decode cL_law 1866 = .ok (.iaload, 1) := by decide +kernel
theorem dL_law_1867 : decode cL_law 1867 = .ok (.ifCond .eq 7, 3) := by decide +kernel
theorem dL_law_1874 : decode cL_law 1874 = .ok (.iconst 0, 1) := by decide +kernel
theorem dL_law_1875 : decode cL_law 1875 = .ok (.invokevirtual 169, 3) := by decide +kernel
theorem dL_law_1878 : decode cL_law 1878 = .ok (.if_icmp .eq 130, 3) := by decide +kernel
theorem dL_law_1840 : decode cL_law 1840 = .ok (.iconst 1, 1) := by decide +kernel
theorem dL_law_1841 : decode cL_law 1841 = .ok (.goto 4, 3) := by decide +kernel
theorem dL_law_1870 : decode cL_law 1870 = .ok (.iconst 1, 1) := by decide +kernel
theorem dL_law_1871 : decode cL_law 1871 = .ok (.goto 4, 3) := by decide +kernel
theorem dL_law_1883 : decode cL_law 1883 = .ok (.aload_n 1, 1) := by decide +kernel
theorem dL_law_1884 : decode cL_law 1884 = .ok (.aload_n 0, 1) := by decide +kernel
theorem dL_law_1885 : decode cL_law 1885 = .ok (.iload 4, 2) := by decide +kernel
theorem dL_law_1887 : decode cL_law 1887 = .ok (.iconst 1, 1) := by decide +kernel
theorem dL_law_1888 : decode cL_law 1888 = .ok (.iadd, 1) := by decide +kernel
theorem dL_law_1889 : decode cL_law 1889 = .ok (.iaload, 1) := by decide +kernel
theorem dL_law_1890 : decode cL_law 1890 = .ok (.aload_n 0, 1) := by decide +kernel
theorem dL_law_1891 : decode cL_law 1891 = .ok (.iload 4, 2) := by decide +kernel
theorem dL_law_1893 : decode cL_law 1893 = .ok (.iconst 2, 1) := by decide +kernel
theorem dL_law_1894 : decode cL_law 1894 = .ok (.iadd, 1) := by decide +kernel
theorem dL_law_1895 : decode cL_law 1895 = .ok (.iaload, 1) := by decide +kernel
theorem dL_law_1896 : decode cL_law 1896 = .ok (.aload_n 0, 1) := by decide +kernel
theorem dL_law_1897 : decode cL_law 1897 = .ok (.iload 4, 2) := by decide +kernel
theorem dL_law_1899 : decode cL_law 1899 = .ok (.iconst 3, 1) := by decide +kernel
theorem dL_law_1900 : decode cL_law 1900 = .ok (.iadd, 1) := by decide +kernel
theorem dL_law_1901 : decode cL_law 1901 = .ok (.iaload, 1) := by decide +kernel
theorem dL_law_1902 : decode cL_law 1902 = .ok (.invokevirtual 170, 3) := by decide +kernel
theorem dL_law_1905 : decode cL_law 1905 = .ok (.aload_n 2, 1) := by decide +kernel
theorem dL_law_1906 : decode cL_law 1906 = .ok (.aload_n 0, 1) := by decide +kernel
theorem dL_law_1907 : decode cL_law 1907 = .ok (.iload 4, 2) := by decide +kernel
theorem dL_law_1909 : decode cL_law 1909 = .ok (.iconst 1, 1) := by decide +kernel
theorem dL_law_1910 : decode cL_law 1910 = .ok (.iadd, 1) := by decide +kernel
theorem dL_law_1911 : decode cL_law 1911 = .ok (.iaload, 1) := by decide +kernel
theorem dL_law_1912 : decode cL_law 1912 = .ok (.aload_n 0, 1) := by decide +kernel
theorem dL_law_1913 : decode cL_law 1913 = .ok (.iload 4, 2) := by decide +kernel
theorem dL_law_1915 : decode cL_law 1915 = .ok (.iconst 2, 1) := by decide +kernel
theorem dL_law_1916 : decode cL_law 1916 = .ok (.iadd, 1) := by decide +kernel
theorem dL_law_1917 : decode cL_law 1917 = .ok (.iaload, 1) := by decide +kernel
theorem dL_law_1918 : decode cL_law 1918 = .ok (.aload_n 0, 1) := by decide +kernel
theorem dL_law_1919 : decode cL_law 1919 = .ok (.iload 4, 2) := by decide +kernel
theorem dL_law_1921 : decode cL_law 1921 = .ok (.iconst 3, 1) := by decide +kernel
theorem dL_law_1922 : decode cL_law 1922 = .ok (.iadd, 1) := by decide +kernel
theorem dL_law_1923 : decode cL_law 1923 = .ok (.iaload, 1) := by decide +kernel
theorem dL_law_1924 : decode cL_law 1924 = .ok (.invokevirtual 173, 3) := by decide +kernel
theorem dL_law_1927 : decode cL_law 1927 = .ok (.if_icmp .eq 81, 3) := by decide +kernel
theorem dL_law_1932 : decode cL_law 1932 = .ok (.aload_n 1, 1) := by decide +kernel
theorem dL_law_1933 : decode cL_law 1933 = .ok (.invokevirtual 174, 3) := by decide +kernel
theorem dL_law_1936 : decode cL_law 1936 = .ok (.aload_n 2, 1) := by decide +kernel
theorem dL_law_1937 : decode cL_law 1937 = .ok (.invokevirtual 177, 3) := by decide +kernel
theorem dL_law_1940 : decode cL_law 1940 = .ok (.if_icmp .eq 68, 3) := by decide +kernel
theorem dL_law_1945 : decode cL_law 1945 = .ok (.aload_n 1, 1) := by decide +kernel
theorem dL_law_1946 : decode cL_law 1946 = .ok (.aload_n 0, 1) := by decide +kernel
theorem dL_law_1947 : decode cL_law 1947 = .ok (.iload 4, 2) := by decide +kernel
theorem dL_law_1949 : decode cL_law 1949 = .ok (.iconst 1, 1) := by decide +kernel
theorem dL_law_1950 : decode cL_law 1950 = .ok (.iadd, 1) := by decide +kernel
theorem dL_law_1951 : decode cL_law 1951 = .ok (.iaload, 1) := by decide +kernel
theorem dL_law_1952 : decode cL_law 1952 = .ok (.invokevirtual 178, 3) := by decide +kernel
theorem dL_law_1955 : decode cL_law 1955 = .ok (.aload_n 2, 1) := by decide +kernel
theorem dL_law_1956 : decode cL_law 1956 = .ok (.aload_n 0, 1) := by decide +kernel
theorem dL_law_1957 : decode cL_law 1957 = .ok (.iload 4, 2) := by decide +kernel
theorem dL_law_1959 : decode cL_law 1959 = .ok (.iconst 1, 1) := by decide +kernel
theorem dL_law_1960 : decode cL_law 1960 = .ok (.iadd, 1) := by decide +kernel
theorem dL_law_1961 : decode cL_law 1961 = .ok (.iaload, 1) := by decide +kernel
theorem dL_law_1962 : decode cL_law 1962 = .ok (.invokevirtual 181, 3) := by decide +kernel
theorem dL_law_1965 : decode cL_law 1965 = .ok (.if_icmp .eq 43, 3) := by decide +kernel
theorem dL_law_1970 : decode cL_law 1970 = .ok (.aload_n 1, 1) := by decide +kernel
theorem dL_law_1971 : decode cL_law 1971 = .ok (.invokevirtual 182, 3) := by decide +kernel
theorem dL_law_1974 : decode cL_law 1974 = .ok (.aload_n 2, 1) := by decide +kernel
theorem dL_law_1975 : decode cL_law 1975 = .ok (.invokevirtual 185, 3) := by decide +kernel
theorem dL_law_1978 : decode cL_law 1978 = .ok (.if_icmp .eq 30, 3) := by decide +kernel
theorem dL_law_1983 : decode cL_law 1983 = .ok (.aload_n 1, 1) := by decide +kernel
theorem dL_law_1984 : decode cL_law 1984 = .ok (.aload_n 0, 1) := by decide +kernel
theorem dL_law_1985 : decode cL_law 1985 = .ok (.iload 4, 2) := by decide +kernel
theorem dL_law_1987 : decode cL_law 1987 = .ok (.iconst 1, 1) := by decide +kernel
theorem dL_law_1988 : decode cL_law 1988 = .ok (.iadd, 1) := by decide +kernel
theorem dL_law_1989 : decode cL_law 1989 = .ok (.iaload, 1) := by decide +kernel
theorem dL_law_1990 : decode cL_law 1990 = .ok (.invokevirtual 186, 3) := by decide +kernel
theorem dL_law_1993 : decode cL_law 1993 = .ok (.aload_n 2, 1) := by decide +kernel
theorem dL_law_1994 : decode cL_law 1994 = .ok (.aload_n 0, 1) := by decide +kernel
theorem dL_law_1995 : decode cL_law 1995 = .ok (.iload 4, 2) := by decide +kernel
theorem dL_law_1997 : decode cL_law 1997 = .ok (.iconst 1, 1) := by decide +kernel
theorem dL_law_1998 : decode cL_law 1998 = .ok (.iadd, 1) := by decide +kernel
theorem dL_law_1999 : decode cL_law 1999 = .ok (.iaload, 1) := by decide +kernel
theorem dL_law_2000 : decode cL_law 2000 = .ok (.invokevirtual 189, 3) := by decide +kernel
theorem dL_law_2003 : decode cL_law 2003 = .ok (.if_icmp .eq 5, 3) := by decide +kernel
/-! THE CLAIM OUT OF ONE WALK OF THE LAW'S BODY. Your part is whole_start (and what it stands on); all else here is the same for every law, but numbers. -/
def R_law : String := "LandSurveyLaw"
def lw_P (b : Addr) (xs : List Int32) (args : Array Value) (s : State) : Prop := args = #[.ref b] ∧ s.IntsAt b xs ∧ xs.length ≤ 8 ∧ (Jvm.Cond.and given_1 narrow_1).before args s = true
def lw_Q (_ : Array Value) (s : State) (o : Outcome) (t : State) : Prop := o = .returned (some (.int 1)) ∧ Framed s o t [] 600002 7302232
def lw_Z (below : List Frame) (a : Array Value) (s : State) : State → Prop := fun t => ∃ o, t.status = .running ∧ Ended t below o ∧ lw_Q a s o t
/-- the law's own end, with 1 on the stack, nothing written that was there before, its room as the claim has it -/
theorem lw_ret {p : Program} {l : Launch} {e : Env} {s : State} {m : MethodId} {below : List Frame} {meth : Method} {c : Code} {b : Nat} (hx : p.tables.exec = Jvm.exec) (hb : c.code = code) (hr : meth.sig.returnType = ret) (hlocks : meth.locks = false) {pc : Nat} {H : Heap} {ls : Array Slot} (hdg : decode code pc = .ok (.ireturn, 1)) : W p l e room_1 s m #[Value.ref b] below meth c H [] 600002 7302232 (lw_Z below #[Value.ref b] s) (F0 m pc ls [.int 1]) := by
  intro T hT X
  obtain ⟨fs, hret, hrun, hended, hW, hframe⟩ := X.leave (v := some (.int 1)) (hlocks := hlocks) (fun h => by rw [hr] at h; cases h)
  have hmeth' : T.vm.method? m = some meth := X.method'
  refine ⟨T.setFrames fs, ?_, .returned (some (.int 1)), hrun, hended, rfl, ⟨_, rfl⟩, hW, hframe⟩
  jvm_step X.here [X.here.top, hx, hb, hdg, hmeth', hr, ret, narrow_b1]
  (try refine ⟨rfl, ?_⟩); (try refine ⟨rfl, ?_⟩)
  first | (intro acts; rw [hret _ acts rfl rfl rfl]) | rw [hret _ _ rfl rfl rfl]
  exact Steps.refl _
/-- what holds at the law's entry: the machine, the code, the tables' words (any of lw_tbl by 'hts w (by decide +kernel)'), the script of L ints xs at the cell b, what the Statement gives of the start (any of its parts by flat_of_before) -/
def lw_At (p : Program) (s : State) (m : MethodId) (meth : Method) (c : Code) (b L : Nat) (xs : Nat → Int32) : Prop :=
  p.tables.exec = Jvm.exec ∧ c.code = code ∧ meth.sig.returnType = ret ∧ c.maxLocals = 7 ∧ s.vm.findClass R_law = some m.cls ∧ (∀ w ∈ lw_tbl, w.before #[Value.ref b] s = true) ∧ va_X b L xs s s.heap ∧ b < s.heap.size ∧ meth.locks = false ∧ (Jvm.Cond.and given_1 narrow_1).before #[Value.ref b] s = true

section LawRows
variable {p : Program} {l : Launch} {e : Env} {R : Room} {s : State} {m : MethodId} {args : Array Value} {below : List Frame} {meth : Method} {c : Code} {H : Heap} {locs : List Loc} {cells slots : Nat} {Q : State → Prop}
variable {cc : ByteArray} {nL : Nat} {own : String} {pc : Nat} {ls : Array Slot} {A : Nat → Prop} {rest : List Value} {b L : Nat} {xs : Nat → Int32}
theorem r_slen (S : CallFix p m c cc nL s args uu own) (hX : va_X b L xs s s.heap) (hbl : b < s.heap.size) (hbA : ¬ A b) (hS : va_S A s.heap H locs) {v : Int32} (hv : Int32.ofNat L = v) (d : decode cc pc = .ok (.arraylength, 1)) (kk : W p l e R s m args below meth c H locs cells slots Q (F0 m (pc + 1) ls (.int v :: rest))) : W p l e R s m args below meth c H locs cells slots Q (F0 m pc ls (.ref b :: rest)) := by
  subst hv
  exact va_slen S.1 S.2.1 hX hbl hbA hS d kk
theorem r_sld (S : CallFix p m c cc nL s args uu own) (hX : va_X b L xs s s.heap) (hbl : b < s.heap.size) (hbA : ¬ A b) (hS : va_S A s.heap H locs) (j : Nat) {i : Int32} (hn : ¬ i < 0) (hj : i.toNatClampNeg = j) (hjL : j < L) {v : Int32} (hv : xs j = v) (d : decode cc pc = .ok (.iaload, 1)) (kk : W p l e R s m args below meth c H locs cells slots Q (F0 m (pc + 1) ls (.int v :: rest))) : W p l e R s m args below meth c H locs cells slots Q (F0 m pc ls (.int i :: .ref b :: rest)) := by
  subst hj
  subst hv
  exact va_sld S.1 S.2.1 hX hbl hbA hS (fun h => h.elim hn (fun h => absurd hjL (Nat.not_lt.mpr h))) d kk
theorem law_end (S : CallFix p m c cL_law 7 s #[Value.ref b] uu "LandSurveyLaw") (hr : meth.sig.returnType = ret) (hlk : meth.locks = false) (hA2 : ∀ q : Nat, A q → s.heap.size ≤ q) (hS : va_S A s.heap H locs) (hc : cells ≤ 600002) (hs : slots ≤ 7302232) : W p l e room_1 s m #[Value.ref b] below meth c H locs cells slots (lw_Z below #[Value.ref b] s) (F0 m 2014 ls []) := by
  refine lv_iconst (v := 1) S.1 S.2.1 dL_law_2014 (by decide) ?_
  refine va_forget (fun q hq => hA2 _ (hS.2.2 q hq)) ?_
  refine W.widen hc hs ?_
  exact lw_ret S.1 S.2.1 hr hlk dL_law_2015
theorem law_on (S : CallFix p m c cL_law 7 s #[Value.ref b] uu "LandSurveyLaw") (hr : meth.sig.returnType = ret) (hlk : meth.locks = false) (hX : va_X b 8 xs s s.heap) (hbl : b < s.heap.size) (hbA : ¬ A b) (hA2 : ∀ q : Nat, A q → s.heap.size ≤ q) (hS : va_S A s.heap H locs) (hl : lv_has ls 7 [(4, .int 0), (0, .ref b)]) (hc : cells ≤ 600002) (hs : slots ≤ 7302232) : W p l e room_1 s m #[Value.ref b] below meth c H locs cells slots (lw_Z below #[Value.ref b] s) (F0 m 2008 ls []) := by
  refine lv_iinc (v := 8) (lv' := [(4, .int 8), (0, .ref b)]) S.1 S.2.1 dL_law_2008 hl (k := 0) rfl (by decide) (by decide) rfl (fun ls hl => ?_)
  refine lv_goto (tgt := 23) S.1 S.2.1 dL_law_2011 (by decide) ?_
  refine lv_iload S.1 S.2.1 dL_law_23 (lv_at hl 0 rfl) ?_
  refine lv_aload_n S.1 S.2.1 dL_law_25 rfl (lv_at hl 1 rfl) ?_
  refine r_slen S hX hbl hbA hS (v := 8) rfl dL_law_26 ?_
  refine lv_bipush (v := 8) S.1 S.2.1 dL_law_27 (by decide) ?_
  refine r_isub S dL_law_29 (v := 0) (by decide) ?_
  refine r_icmp_gt S 8 0 rfl rfl dL_law_30 (tgt := 2014) (by decide) (fun _ => ?_) (fun c => absurd c (by decide))
  exact law_end S hr hlk hA2 hS hc hs
end LawRows
set_option maxHeartbeats 4000000 in
set_option maxRecDepth 100000 in
theorem law_c1 (l : Launch) (hst : l.stackTraces = false) {p : Program} {e : Env} {s : State} {m : MethodId} {below : List Frame} {meth : Method} {c : Code} {H : Heap} {locs : List Loc} {ls : Array Slot} {D : va_G} {cy : Nat → ClassId} {b : Nat} {xs : Nat → Int32} {A : Nat → Prop} {x q : Nat → Nat} {o : Nat} (S : CallFix p m c cL_law 7 s #[Value.ref b] uu "LandSurveyLaw") (hr : meth.sig.returnType = ret) (hlk : meth.locks = false) (hX : va_X b 8 xs s s.heap) (hbl : b < s.heap.size) (hbA : ¬ A b) (hA : ∀ q : Nat, s.heap.size ≤ q → A q) (hA2 : ∀ q : Nat, A q → s.heap.size ≤ q) (hK : KX D cy s) (hE : Ey s) (hZ : Zs A s s.heap) (hP : va_P D vwCl [((x 0), .inr (10, [.int 0, .int (-1), .ref (x 1), .ref (x 9), .int 0, .ref (x 10), .ref (x 13), .ref (x 16), .ref (x 29), .int 0, .int 0, .ref (x 30), .int 0, .ref (x 31), .ref (x 42), .int 0, .int 0, .null, .ref (x 43)])), ((q 0), .inr (11, (mO q 0 0 0 0 0 0 0 0 (-1) 1 0 0 0 0 0 0 0 0 0)))] H) (hD : va_D A [((x 0), .inr (10, [.int 0, .int (-1), .ref (x 1), .ref (x 9), .int 0, .ref (x 10), .ref (x 13), .ref (x 16), .ref (x 29), .int 0, .int 0, .ref (x 30), .int 0, .ref (x 31), .ref (x 42), .int 0, .int 0, .null, .ref (x 43)])), ((q 0), .inr (11, (mO q 0 0 0 0 0 0 0 0 (-1) 1 0 0 0 0 0 0 0 0 0)))]) (hS : va_S A s.heap H locs) (hl : lv_has ls 7 [(4, .int 0), (3, .ref o), (2, .ref (q 0)), (1, .ref (x 0)), (0, .ref b)]) : W p l e room_1 s m #[Value.ref b] below meth c H locs 114 51906 (lw_Z below #[Value.ref b] s) (F0 m 225 ls []) := by
  obtain ⟨p1, e1⟩ : ∃ y, xs 1 = y := ⟨_, rfl⟩
  obtain ⟨z1, h1⟩ : ∃ z, p1.toInt = z := ⟨_, rfl⟩
  obtain ⟨p2, e2⟩ : ∃ y, xs 2 = y := ⟨_, rfl⟩
  obtain ⟨z2, h2⟩ : ∃ z, p2.toInt = z := ⟨_, rfl⟩
  obtain ⟨p3, e3⟩ : ∃ y, xs 3 = y := ⟨_, rfl⟩
  obtain ⟨z3, h3⟩ : ∃ z, p3.toInt = z := ⟨_, rfl⟩
  obtain ⟨p4, e4⟩ : ∃ y, xs 4 = y := ⟨_, rfl⟩
  obtain ⟨z4, h4⟩ : ∃ z, p4.toInt = z := ⟨_, rfl⟩
  obtain ⟨p5, e5⟩ : ∃ y, xs 5 = y := ⟨_, rfl⟩
  obtain ⟨z5, h5⟩ : ∃ z, p5.toInt = z := ⟨_, rfl⟩
  obtain ⟨p6, e6⟩ : ∃ y, xs 6 = y := ⟨_, rfl⟩
  obtain ⟨z6, h6⟩ : ∃ z, p6.toInt = z := ⟨_, rfl⟩
  obtain ⟨p7, e7⟩ : ∃ y, xs 7 = y := ⟨_, rfl⟩
  obtain ⟨z7, h7⟩ : ∃ z, p7.toInt = z := ⟨_, rfl⟩
  refine lv_aload_n S.1 S.2.1 dL_law_225 rfl (lv_at hl 3 rfl) ?_
  refine lv_aload_n S.1 S.2.1 dL_law_226 rfl (lv_at hl 4 rfl) ?_
  refine lv_iload S.1 S.2.1 dL_law_227 (lv_at hl 0 rfl) ?_
  refine lv_iconst (v := 1) S.1 S.2.1 dL_law_229 (by decide) ?_
  refine r_iadd S dL_law_230 (v := 1) (by decide) ?_
  refine r_sld S hX hbl hbA hS 1 (by decide) (by decide) (by decide) (v := p1) e1 dL_law_231 ?_
  refine call_i (wr := [((q 0), .inr (11, (mO q 0 0 0 0 0 0 0 0 (-1) 1 0 0 0 0 0 0 0 0 0)))]) (runV_C (wc := [((x 0), .inr (10, [.int 0, .int (-1), .ref (x 1), .ref (x 9), .int 0, .ref (x 10), .ref (x 13), .ref (x 16), .ref (x 29), .int 0, .int 0, .ref (x 30), .int 0, .ref (x 31), .ref (x 42), .int 0, .int 0, .null, .ref (x 43)]))]) (As := [.int p1]) (rest := []) S (kX11_view l D cy x p1 z1 h1) hK hP hD [0] (by decide) rfl 0 10 rfl rfl kw_530 kw_531 kw_532 kw_144 kw_533 okX11_view rfl (by decide) hl.1 rfl (Nat.le_of_ble_eq_true rfl) dL_law_232 (by decide)) hP hD hS hA [0] [1] rfl rfl (by decide) (by decide) (fun v232 u232 H locs w232 hP hD hS => ?_)
  have hP : va_P D vwCl [((q 0), .inr (11, (mO q 0 0 0 0 0 0 0 0 (-1) 1 0 0 0 0 0 0 0 0 0)))] H := hP
  have hD : va_D A [((q 0), .inr (11, (mO q 0 0 0 0 0 0 0 0 (-1) 1 0 0 0 0 0 0 0 0 0)))] := hD
  rcases w232 with ⟨rfl, w232_0_0⟩ | ⟨rfl, w232_1_0⟩
  · refine lv_aload_n S.1 S.2.1 dL_law_235 rfl (lv_at hl 2 rfl) ?_
    refine lv_aload_n S.1 S.2.1 dL_law_236 rfl (lv_at hl 4 rfl) ?_
    refine lv_iload S.1 S.2.1 dL_law_237 (lv_at hl 0 rfl) ?_
    refine lv_iconst (v := 1) S.1 S.2.1 dL_law_239 (by decide) ?_
    refine r_iadd S dL_law_240 (v := 1) (by decide) ?_
    refine r_sld S hX hbl hbA hS 1 (by decide) (by decide) (by decide) (v := p1) e1 dL_law_241 ?_
    refine call_i (wr := []) (runV_C (wc := [((q 0), .inr (11, (mO q 0 0 0 0 0 0 0 0 (-1) 1 0 0 0 0 0 0 0 0 0)))]) (As := [.int p1]) (rest := [.int 1]) S (kX12_view l D cy q p1 z1 h1) hK hP hD [0] (by decide) rfl 0 11 rfl rfl kw_1895 kw_1896 kw_1897 kw_152 kw_1898 okX12_view rfl (by decide) hl.1 rfl (Nat.le_of_ble_eq_true rfl) dL_law_242 (by decide)) hP hD hS hA [0] [] rfl rfl (by decide) (by decide) (fun v242 u242 H locs w242 hP hD hS => ?_)
    have hP : va_P D vwCl [] H := hP
    have hD : va_D A [] := hD
    rcases w242 with ⟨rfl, w242_0_0⟩ | ⟨rfl, w242_1_0⟩
    · refine r_icmp_eq S 1 1 rfl rfl dL_law_245 (tgt := 2008) (by decide) (fun _ => ?_) (fun c => absurd c (by decide))
      exact law_on S hr hlk hX hbl hbA hA2 hS (lv_sub hl [0, 4] rfl) (by decide) (by decide)
    · exfalso; omega
  · refine lv_aload_n S.1 S.2.1 dL_law_235 rfl (lv_at hl 2 rfl) ?_
    refine lv_aload_n S.1 S.2.1 dL_law_236 rfl (lv_at hl 4 rfl) ?_
    refine lv_iload S.1 S.2.1 dL_law_237 (lv_at hl 0 rfl) ?_
    refine lv_iconst (v := 1) S.1 S.2.1 dL_law_239 (by decide) ?_
    refine r_iadd S dL_law_240 (v := 1) (by decide) ?_
    refine r_sld S hX hbl hbA hS 1 (by decide) (by decide) (by decide) (v := p1) e1 dL_law_241 ?_
    refine call_i (wr := []) (runV_C (wc := [((q 0), .inr (11, (mO q 0 0 0 0 0 0 0 0 (-1) 1 0 0 0 0 0 0 0 0 0)))]) (As := [.int p1]) (rest := [.int 0]) S (kX12_view l D cy q p1 z1 h1) hK hP hD [0] (by decide) rfl 0 11 rfl rfl kw_1895 kw_1896 kw_1897 kw_152 kw_1898 okX12_view rfl (by decide) hl.1 rfl (Nat.le_of_ble_eq_true rfl) dL_law_242 (by decide)) hP hD hS hA [0] [] rfl rfl (by decide) (by decide) (fun v242 u242 H locs w242 hP hD hS => ?_)
    have hP : va_P D vwCl [] H := hP
    have hD : va_D A [] := hD
    rcases w242 with ⟨rfl, w242_0_0⟩ | ⟨rfl, w242_1_0⟩
    · exfalso; omega
    · refine r_icmp_eq S 0 0 rfl rfl dL_law_245 (tgt := 2008) (by decide) (fun _ => ?_) (fun c => absurd c (by decide))
      exact law_on S hr hlk hX hbl hbA hA2 hS (lv_sub hl [0, 4] rfl) (by decide) (by decide)
set_option maxHeartbeats 4000000 in
set_option maxRecDepth 100000 in
theorem law_c2 (l : Launch) (hst : l.stackTraces = false) {p : Program} {e : Env} {s : State} {m : MethodId} {below : List Frame} {meth : Method} {c : Code} {H : Heap} {locs : List Loc} {ls : Array Slot} {D : va_G} {cy : Nat → ClassId} {b : Nat} {xs : Nat → Int32} {A : Nat → Prop} {x q : Nat → Nat} {o : Nat} (S : CallFix p m c cL_law 7 s #[Value.ref b] uu "LandSurveyLaw") (hr : meth.sig.returnType = ret) (hlk : meth.locks = false) (hX : va_X b 8 xs s s.heap) (hbl : b < s.heap.size) (hbA : ¬ A b) (hA : ∀ q : Nat, s.heap.size ≤ q → A q) (hA2 : ∀ q : Nat, A q → s.heap.size ≤ q) (hK : KX D cy s) (hE : Ey s) (hZ : Zs A s s.heap) (hP : va_P D vwCl [((x 0), .inr (10, [.int 0, .int (-1), .ref (x 1), .ref (x 9), .int 0, .ref (x 10), .ref (x 13), .ref (x 16), .ref (x 29), .int 0, .int 0, .ref (x 30), .int 0, .ref (x 31), .ref (x 42), .int 0, .int 0, .null, .ref (x 43)])), ((x 1), .inr (2, [.ref (x 2), .ref (x 3), .ref (x 4), .ref (x 5), .ref (x 6), .int 0, .ref (x 7), .ref (x 8), .int 0])), ((x 2), .inl (cy 0, 96, .inl (fun _ => 500))), ((x 3), .inl (cy 1, 96, .inl (fun _ => 0))), ((q 0), .inr (11, (mO q 0 0 0 0 0 0 0 0 (-1) 1 0 0 0 0 0 0 0 0 0))), ((q 36), .inl (cy 0, 96, .inl (fun _ => 500))), ((q 37), .inl (cy 1, 96, .inl (fun _ => 1)))] H) (hD : va_D A [((x 0), .inr (10, [.int 0, .int (-1), .ref (x 1), .ref (x 9), .int 0, .ref (x 10), .ref (x 13), .ref (x 16), .ref (x 29), .int 0, .int 0, .ref (x 30), .int 0, .ref (x 31), .ref (x 42), .int 0, .int 0, .null, .ref (x 43)])), ((x 1), .inr (2, [.ref (x 2), .ref (x 3), .ref (x 4), .ref (x 5), .ref (x 6), .int 0, .ref (x 7), .ref (x 8), .int 0])), ((x 2), .inl (cy 0, 96, .inl (fun _ => 500))), ((x 3), .inl (cy 1, 96, .inl (fun _ => 0))), ((q 0), .inr (11, (mO q 0 0 0 0 0 0 0 0 (-1) 1 0 0 0 0 0 0 0 0 0))), ((q 36), .inl (cy 0, 96, .inl (fun _ => 500))), ((q 37), .inl (cy 1, 96, .inl (fun _ => 1)))]) (hS : va_S A s.heap H locs) (hl : lv_has ls 7 [(4, .int 0), (3, .ref o), (2, .ref (q 0)), (1, .ref (x 0)), (0, .ref b)]) : W p l e room_1 s m #[Value.ref b] below meth c H locs 114 51906 (lw_Z below #[Value.ref b] s) (F0 m 250 ls []) := by
  obtain ⟨p1, e1⟩ : ∃ y, xs 1 = y := ⟨_, rfl⟩
  obtain ⟨z1, h1⟩ : ∃ z, p1.toInt = z := ⟨_, rfl⟩
  obtain ⟨p2, e2⟩ : ∃ y, xs 2 = y := ⟨_, rfl⟩
  obtain ⟨z2, h2⟩ : ∃ z, p2.toInt = z := ⟨_, rfl⟩
  obtain ⟨p3, e3⟩ : ∃ y, xs 3 = y := ⟨_, rfl⟩
  obtain ⟨z3, h3⟩ : ∃ z, p3.toInt = z := ⟨_, rfl⟩
  obtain ⟨p4, e4⟩ : ∃ y, xs 4 = y := ⟨_, rfl⟩
  obtain ⟨z4, h4⟩ : ∃ z, p4.toInt = z := ⟨_, rfl⟩
  obtain ⟨p5, e5⟩ : ∃ y, xs 5 = y := ⟨_, rfl⟩
  obtain ⟨z5, h5⟩ : ∃ z, p5.toInt = z := ⟨_, rfl⟩
  obtain ⟨p6, e6⟩ : ∃ y, xs 6 = y := ⟨_, rfl⟩
  obtain ⟨z6, h6⟩ : ∃ z, p6.toInt = z := ⟨_, rfl⟩
  obtain ⟨p7, e7⟩ : ∃ y, xs 7 = y := ⟨_, rfl⟩
  obtain ⟨z7, h7⟩ : ∃ z, p7.toInt = z := ⟨_, rfl⟩
  refine lv_aload_n S.1 S.2.1 dL_law_250 rfl (lv_at hl 3 rfl) ?_
  refine lv_aload_n S.1 S.2.1 dL_law_251 rfl (lv_at hl 4 rfl) ?_
  refine lv_iload S.1 S.2.1 dL_law_252 (lv_at hl 0 rfl) ?_
  refine lv_iconst (v := 1) S.1 S.2.1 dL_law_254 (by decide) ?_
  refine r_iadd S dL_law_255 (v := 1) (by decide) ?_
  refine r_sld S hX hbl hbA hS 1 (by decide) (by decide) (by decide) (v := p1) e1 dL_law_256 ?_
  refine lv_aload_n S.1 S.2.1 dL_law_257 rfl (lv_at hl 4 rfl) ?_
  refine lv_iload S.1 S.2.1 dL_law_258 (lv_at hl 0 rfl) ?_
  refine lv_iconst (v := 2) S.1 S.2.1 dL_law_260 (by decide) ?_
  refine r_iadd S dL_law_261 (v := 2) (by decide) ?_
  refine r_sld S hX hbl hbA hS 2 (by decide) (by decide) (by decide) (v := p2) e2 dL_law_262 ?_
  refine lv_aload_n S.1 S.2.1 dL_law_263 rfl (lv_at hl 4 rfl) ?_
  refine lv_iload S.1 S.2.1 dL_law_264 (lv_at hl 0 rfl) ?_
  refine lv_iconst (v := 3) S.1 S.2.1 dL_law_266 (by decide) ?_
  refine r_iadd S dL_law_267 (v := 3) (by decide) ?_
  refine r_sld S hX hbl hbA hS 3 (by decide) (by decide) (by decide) (v := p3) e3 dL_law_268 ?_
  refine lv_aload_n S.1 S.2.1 dL_law_269 rfl (lv_at hl 4 rfl) ?_
  refine lv_iload S.1 S.2.1 dL_law_270 (lv_at hl 0 rfl) ?_
  refine lv_iconst (v := 4) S.1 S.2.1 dL_law_272 (by decide) ?_
  refine r_iadd S dL_law_273 (v := 4) (by decide) ?_
  refine r_sld S hX hbl hbA hS 4 (by decide) (by decide) (by decide) (v := p4) e4 dL_law_274 ?_
  refine r_if_eq S z4 h4 dL_law_275 (tgt := 282) (by decide) (fun e_275_1 => ?_) (fun e_275_1 => ?_)
  · refine lv_iconst (v := 0) S.1 S.2.1 dL_law_282 (by decide) ?_
    refine call_i (wr := [((q 0), .inr (11, (mO q 0 0 0 0 0 0 0 0 (-1) 1 0 0 0 0 0 0 0 0 0))), ((q 36), .inl (cy 0, 96, .inl (fun _ => 500))), ((q 37), .inl (cy 1, 96, .inl (fun _ => 1)))]) (runV_C (wc := [((x 0), .inr (10, [.int 0, .int (-1), .ref (x 1), .ref (x 9), .int 0, .ref (x 10), .ref (x 13), .ref (x 16), .ref (x 29), .int 0, .int 0, .ref (x 30), .int 0, .ref (x 31), .ref (x 42), .int 0, .int 0, .null, .ref (x 43)])), ((x 1), .inr (2, [.ref (x 2), .ref (x 3), .ref (x 4), .ref (x 5), .ref (x 6), .int 0, .ref (x 7), .ref (x 8), .int 0])), ((x 2), .inl (cy 0, 96, .inl (fun _ => 500))), ((x 3), .inl (cy 1, 96, .inl (fun _ => 0)))]) (As := [.int p1, .int p2, .int p3, .int 0]) (rest := []) S (kX11_cell l D cy x p1 p2 p3 0 z1 h1 z2 h2 z3 h3 0 rfl) hK hP hD [0, 1, 2, 3] (by decide) rfl 0 10 rfl rfl kw_534 kw_535 kw_536 kw_144 kw_537 okX11_cell rfl (by decide) hl.1 rfl (Nat.le_of_ble_eq_true rfl) dL_law_283 (by decide)) hP hD hS hA [0, 1, 2, 3] [4, 5, 6] rfl rfl (by decide) (by decide) (fun v283 u283 H locs w283 hP hD hS => ?_)
    have hP : va_P D vwCl [((q 0), .inr (11, (mO q 0 0 0 0 0 0 0 0 (-1) 1 0 0 0 0 0 0 0 0 0))), ((q 36), .inl (cy 0, 96, .inl (fun _ => 500))), ((q 37), .inl (cy 1, 96, .inl (fun _ => 1)))] H := hP
    have hD : va_D A [((q 0), .inr (11, (mO q 0 0 0 0 0 0 0 0 (-1) 1 0 0 0 0 0 0 0 0 0))), ((q 36), .inl (cy 0, 96, .inl (fun _ => 500))), ((q 37), .inl (cy 1, 96, .inl (fun _ => 1)))] := hD
    rcases w283 with ⟨rfl, w283_0_0⟩ | ⟨rfl, w283_1_0⟩
    · refine lv_aload_n S.1 S.2.1 dL_law_286 rfl (lv_at hl 2 rfl) ?_
      refine lv_aload_n S.1 S.2.1 dL_law_287 rfl (lv_at hl 4 rfl) ?_
      refine lv_iload S.1 S.2.1 dL_law_288 (lv_at hl 0 rfl) ?_
      refine lv_iconst (v := 1) S.1 S.2.1 dL_law_290 (by decide) ?_
      refine r_iadd S dL_law_291 (v := 1) (by decide) ?_
      refine r_sld S hX hbl hbA hS 1 (by decide) (by decide) (by decide) (v := p1) e1 dL_law_292 ?_
      refine lv_aload_n S.1 S.2.1 dL_law_293 rfl (lv_at hl 4 rfl) ?_
      refine lv_iload S.1 S.2.1 dL_law_294 (lv_at hl 0 rfl) ?_
      refine lv_iconst (v := 2) S.1 S.2.1 dL_law_296 (by decide) ?_
      refine r_iadd S dL_law_297 (v := 2) (by decide) ?_
      refine r_sld S hX hbl hbA hS 2 (by decide) (by decide) (by decide) (v := p2) e2 dL_law_298 ?_
      refine lv_aload_n S.1 S.2.1 dL_law_299 rfl (lv_at hl 4 rfl) ?_
      refine lv_iload S.1 S.2.1 dL_law_300 (lv_at hl 0 rfl) ?_
      refine lv_iconst (v := 3) S.1 S.2.1 dL_law_302 (by decide) ?_
      refine r_iadd S dL_law_303 (v := 3) (by decide) ?_
      refine r_sld S hX hbl hbA hS 3 (by decide) (by decide) (by decide) (v := p3) e3 dL_law_304 ?_
      refine lv_aload_n S.1 S.2.1 dL_law_305 rfl (lv_at hl 4 rfl) ?_
      refine lv_iload S.1 S.2.1 dL_law_306 (lv_at hl 0 rfl) ?_
      refine lv_iconst (v := 4) S.1 S.2.1 dL_law_308 (by decide) ?_
      refine r_iadd S dL_law_309 (v := 4) (by decide) ?_
      refine r_sld S hX hbl hbA hS 4 (by decide) (by decide) (by decide) (v := p4) e4 dL_law_310 ?_
      refine r_if_eq S z4 h4 dL_law_311 (tgt := 318) (by decide) (fun _ => ?_) (fun c => absurd c (by omega))
      refine lv_iconst (v := 0) S.1 S.2.1 dL_law_318 (by decide) ?_
      refine call_i (wr := []) (runV_C (wc := [((q 0), .inr (11, (mO q 0 0 0 0 0 0 0 0 (-1) 1 0 0 0 0 0 0 0 0 0))), ((q 36), .inl (cy 0, 96, .inl (fun _ => 500))), ((q 37), .inl (cy 1, 96, .inl (fun _ => 1)))]) (As := [.int p1, .int p2, .int p3, .int 0]) (rest := [.int 1]) S (kX12_cell l D cy q p1 p2 p3 0 z1 h1 z2 h2 z3 h3 0 rfl) hK hP hD [0, 1, 2] (by decide) rfl 0 11 rfl rfl kw_1899 kw_1900 kw_1901 kw_152 kw_1902 okX12_cell rfl (by decide) hl.1 rfl (Nat.le_of_ble_eq_true rfl) dL_law_319 (by decide)) hP hD hS hA [0, 1, 2] [] rfl rfl (by decide) (by decide) (fun v319 u319 H locs w319 hP hD hS => ?_)
      have hP : va_P D vwCl [] H := hP
      have hD : va_D A [] := hD
      rcases w319 with ⟨rfl, w319_0_0⟩ | ⟨rfl, w319_1_0⟩
      · refine r_icmp_eq S 1 1 rfl rfl dL_law_322 (tgt := 2008) (by decide) (fun _ => ?_) (fun c => absurd c (by decide))
        exact law_on S hr hlk hX hbl hbA hA2 hS (lv_sub hl [0, 4] rfl) (by decide) (by decide)
      · exfalso; omega
    · refine lv_aload_n S.1 S.2.1 dL_law_286 rfl (lv_at hl 2 rfl) ?_
      refine lv_aload_n S.1 S.2.1 dL_law_287 rfl (lv_at hl 4 rfl) ?_
      refine lv_iload S.1 S.2.1 dL_law_288 (lv_at hl 0 rfl) ?_
      refine lv_iconst (v := 1) S.1 S.2.1 dL_law_290 (by decide) ?_
      refine r_iadd S dL_law_291 (v := 1) (by decide) ?_
      refine r_sld S hX hbl hbA hS 1 (by decide) (by decide) (by decide) (v := p1) e1 dL_law_292 ?_
      refine lv_aload_n S.1 S.2.1 dL_law_293 rfl (lv_at hl 4 rfl) ?_
      refine lv_iload S.1 S.2.1 dL_law_294 (lv_at hl 0 rfl) ?_
      refine lv_iconst (v := 2) S.1 S.2.1 dL_law_296 (by decide) ?_
      refine r_iadd S dL_law_297 (v := 2) (by decide) ?_
      refine r_sld S hX hbl hbA hS 2 (by decide) (by decide) (by decide) (v := p2) e2 dL_law_298 ?_
      refine lv_aload_n S.1 S.2.1 dL_law_299 rfl (lv_at hl 4 rfl) ?_
      refine lv_iload S.1 S.2.1 dL_law_300 (lv_at hl 0 rfl) ?_
      refine lv_iconst (v := 3) S.1 S.2.1 dL_law_302 (by decide) ?_
      refine r_iadd S dL_law_303 (v := 3) (by decide) ?_
      refine r_sld S hX hbl hbA hS 3 (by decide) (by decide) (by decide) (v := p3) e3 dL_law_304 ?_
      refine lv_aload_n S.1 S.2.1 dL_law_305 rfl (lv_at hl 4 rfl) ?_
      refine lv_iload S.1 S.2.1 dL_law_306 (lv_at hl 0 rfl) ?_
      refine lv_iconst (v := 4) S.1 S.2.1 dL_law_308 (by decide) ?_
      refine r_iadd S dL_law_309 (v := 4) (by decide) ?_
      refine r_sld S hX hbl hbA hS 4 (by decide) (by decide) (by decide) (v := p4) e4 dL_law_310 ?_
      refine r_if_eq S z4 h4 dL_law_311 (tgt := 318) (by decide) (fun _ => ?_) (fun c => absurd c (by omega))
      refine lv_iconst (v := 0) S.1 S.2.1 dL_law_318 (by decide) ?_
      refine call_i (wr := []) (runV_C (wc := [((q 0), .inr (11, (mO q 0 0 0 0 0 0 0 0 (-1) 1 0 0 0 0 0 0 0 0 0))), ((q 36), .inl (cy 0, 96, .inl (fun _ => 500))), ((q 37), .inl (cy 1, 96, .inl (fun _ => 1)))]) (As := [.int p1, .int p2, .int p3, .int 0]) (rest := [.int 0]) S (kX12_cell l D cy q p1 p2 p3 0 z1 h1 z2 h2 z3 h3 0 rfl) hK hP hD [0, 1, 2] (by decide) rfl 0 11 rfl rfl kw_1899 kw_1900 kw_1901 kw_152 kw_1902 okX12_cell rfl (by decide) hl.1 rfl (Nat.le_of_ble_eq_true rfl) dL_law_319 (by decide)) hP hD hS hA [0, 1, 2] [] rfl rfl (by decide) (by decide) (fun v319 u319 H locs w319 hP hD hS => ?_)
      have hP : va_P D vwCl [] H := hP
      have hD : va_D A [] := hD
      rcases w319 with ⟨rfl, w319_0_0⟩ | ⟨rfl, w319_1_0⟩
      · exfalso; omega
      · refine r_icmp_eq S 0 0 rfl rfl dL_law_322 (tgt := 2008) (by decide) (fun _ => ?_) (fun c => absurd c (by decide))
        exact law_on S hr hlk hX hbl hbA hA2 hS (lv_sub hl [0, 4] rfl) (by decide) (by decide)
  · refine lv_iconst (v := 1) S.1 S.2.1 dL_law_278 (by decide) ?_
    refine lv_goto (tgt := 283) S.1 S.2.1 dL_law_279 (by decide) ?_
    refine call_i (wr := [((q 0), .inr (11, (mO q 0 0 0 0 0 0 0 0 (-1) 1 0 0 0 0 0 0 0 0 0))), ((q 36), .inl (cy 0, 96, .inl (fun _ => 500))), ((q 37), .inl (cy 1, 96, .inl (fun _ => 1)))]) (runV_C (wc := [((x 0), .inr (10, [.int 0, .int (-1), .ref (x 1), .ref (x 9), .int 0, .ref (x 10), .ref (x 13), .ref (x 16), .ref (x 29), .int 0, .int 0, .ref (x 30), .int 0, .ref (x 31), .ref (x 42), .int 0, .int 0, .null, .ref (x 43)])), ((x 1), .inr (2, [.ref (x 2), .ref (x 3), .ref (x 4), .ref (x 5), .ref (x 6), .int 0, .ref (x 7), .ref (x 8), .int 0])), ((x 2), .inl (cy 0, 96, .inl (fun _ => 500))), ((x 3), .inl (cy 1, 96, .inl (fun _ => 0)))]) (As := [.int p1, .int p2, .int p3, .int 1]) (rest := []) S (kX11_cell l D cy x p1 p2 p3 1 z1 h1 z2 h2 z3 h3 1 rfl) hK hP hD [0, 1, 2, 3] (by decide) rfl 0 10 rfl rfl kw_534 kw_535 kw_536 kw_144 kw_537 okX11_cell rfl (by decide) hl.1 rfl (Nat.le_of_ble_eq_true rfl) dL_law_283 (by decide)) hP hD hS hA [0, 1, 2, 3] [4, 5, 6] rfl rfl (by decide) (by decide) (fun v283 u283 H locs w283 hP hD hS => ?_)
    have hP : va_P D vwCl [((q 0), .inr (11, (mO q 0 0 0 0 0 0 0 0 (-1) 1 0 0 0 0 0 0 0 0 0))), ((q 36), .inl (cy 0, 96, .inl (fun _ => 500))), ((q 37), .inl (cy 1, 96, .inl (fun _ => 1)))] H := hP
    have hD : va_D A [((q 0), .inr (11, (mO q 0 0 0 0 0 0 0 0 (-1) 1 0 0 0 0 0 0 0 0 0))), ((q 36), .inl (cy 0, 96, .inl (fun _ => 500))), ((q 37), .inl (cy 1, 96, .inl (fun _ => 1)))] := hD
    rcases w283 with ⟨rfl, w283_0_0⟩ | ⟨rfl, w283_1_0⟩
    · refine lv_aload_n S.1 S.2.1 dL_law_286 rfl (lv_at hl 2 rfl) ?_
      refine lv_aload_n S.1 S.2.1 dL_law_287 rfl (lv_at hl 4 rfl) ?_
      refine lv_iload S.1 S.2.1 dL_law_288 (lv_at hl 0 rfl) ?_
      refine lv_iconst (v := 1) S.1 S.2.1 dL_law_290 (by decide) ?_
      refine r_iadd S dL_law_291 (v := 1) (by decide) ?_
      refine r_sld S hX hbl hbA hS 1 (by decide) (by decide) (by decide) (v := p1) e1 dL_law_292 ?_
      refine lv_aload_n S.1 S.2.1 dL_law_293 rfl (lv_at hl 4 rfl) ?_
      refine lv_iload S.1 S.2.1 dL_law_294 (lv_at hl 0 rfl) ?_
      refine lv_iconst (v := 2) S.1 S.2.1 dL_law_296 (by decide) ?_
      refine r_iadd S dL_law_297 (v := 2) (by decide) ?_
      refine r_sld S hX hbl hbA hS 2 (by decide) (by decide) (by decide) (v := p2) e2 dL_law_298 ?_
      refine lv_aload_n S.1 S.2.1 dL_law_299 rfl (lv_at hl 4 rfl) ?_
      refine lv_iload S.1 S.2.1 dL_law_300 (lv_at hl 0 rfl) ?_
      refine lv_iconst (v := 3) S.1 S.2.1 dL_law_302 (by decide) ?_
      refine r_iadd S dL_law_303 (v := 3) (by decide) ?_
      refine r_sld S hX hbl hbA hS 3 (by decide) (by decide) (by decide) (v := p3) e3 dL_law_304 ?_
      refine lv_aload_n S.1 S.2.1 dL_law_305 rfl (lv_at hl 4 rfl) ?_
      refine lv_iload S.1 S.2.1 dL_law_306 (lv_at hl 0 rfl) ?_
      refine lv_iconst (v := 4) S.1 S.2.1 dL_law_308 (by decide) ?_
      refine r_iadd S dL_law_309 (v := 4) (by decide) ?_
      refine r_sld S hX hbl hbA hS 4 (by decide) (by decide) (by decide) (v := p4) e4 dL_law_310 ?_
      refine r_if_eq S z4 h4 dL_law_311 (tgt := 318) (by decide) (fun c => absurd c (by omega)) (fun _ => ?_)
      refine lv_iconst (v := 1) S.1 S.2.1 dL_law_314 (by decide) ?_
      refine lv_goto (tgt := 319) S.1 S.2.1 dL_law_315 (by decide) ?_
      refine call_i (wr := []) (runV_C (wc := [((q 0), .inr (11, (mO q 0 0 0 0 0 0 0 0 (-1) 1 0 0 0 0 0 0 0 0 0))), ((q 36), .inl (cy 0, 96, .inl (fun _ => 500))), ((q 37), .inl (cy 1, 96, .inl (fun _ => 1)))]) (As := [.int p1, .int p2, .int p3, .int 1]) (rest := [.int 1]) S (kX12_cell l D cy q p1 p2 p3 1 z1 h1 z2 h2 z3 h3 1 rfl) hK hP hD [0, 1, 2] (by decide) rfl 0 11 rfl rfl kw_1899 kw_1900 kw_1901 kw_152 kw_1902 okX12_cell rfl (by decide) hl.1 rfl (Nat.le_of_ble_eq_true rfl) dL_law_319 (by decide)) hP hD hS hA [0, 1, 2] [] rfl rfl (by decide) (by decide) (fun v319 u319 H locs w319 hP hD hS => ?_)
      have hP : va_P D vwCl [] H := hP
      have hD : va_D A [] := hD
      rcases w319 with ⟨rfl, w319_0_0⟩ | ⟨rfl, w319_1_0⟩
      · refine r_icmp_eq S 1 1 rfl rfl dL_law_322 (tgt := 2008) (by decide) (fun _ => ?_) (fun c => absurd c (by decide))
        exact law_on S hr hlk hX hbl hbA hA2 hS (lv_sub hl [0, 4] rfl) (by decide) (by decide)
      · exfalso; omega
    · refine lv_aload_n S.1 S.2.1 dL_law_286 rfl (lv_at hl 2 rfl) ?_
      refine lv_aload_n S.1 S.2.1 dL_law_287 rfl (lv_at hl 4 rfl) ?_
      refine lv_iload S.1 S.2.1 dL_law_288 (lv_at hl 0 rfl) ?_
      refine lv_iconst (v := 1) S.1 S.2.1 dL_law_290 (by decide) ?_
      refine r_iadd S dL_law_291 (v := 1) (by decide) ?_
      refine r_sld S hX hbl hbA hS 1 (by decide) (by decide) (by decide) (v := p1) e1 dL_law_292 ?_
      refine lv_aload_n S.1 S.2.1 dL_law_293 rfl (lv_at hl 4 rfl) ?_
      refine lv_iload S.1 S.2.1 dL_law_294 (lv_at hl 0 rfl) ?_
      refine lv_iconst (v := 2) S.1 S.2.1 dL_law_296 (by decide) ?_
      refine r_iadd S dL_law_297 (v := 2) (by decide) ?_
      refine r_sld S hX hbl hbA hS 2 (by decide) (by decide) (by decide) (v := p2) e2 dL_law_298 ?_
      refine lv_aload_n S.1 S.2.1 dL_law_299 rfl (lv_at hl 4 rfl) ?_
      refine lv_iload S.1 S.2.1 dL_law_300 (lv_at hl 0 rfl) ?_
      refine lv_iconst (v := 3) S.1 S.2.1 dL_law_302 (by decide) ?_
      refine r_iadd S dL_law_303 (v := 3) (by decide) ?_
      refine r_sld S hX hbl hbA hS 3 (by decide) (by decide) (by decide) (v := p3) e3 dL_law_304 ?_
      refine lv_aload_n S.1 S.2.1 dL_law_305 rfl (lv_at hl 4 rfl) ?_
      refine lv_iload S.1 S.2.1 dL_law_306 (lv_at hl 0 rfl) ?_
      refine lv_iconst (v := 4) S.1 S.2.1 dL_law_308 (by decide) ?_
      refine r_iadd S dL_law_309 (v := 4) (by decide) ?_
      refine r_sld S hX hbl hbA hS 4 (by decide) (by decide) (by decide) (v := p4) e4 dL_law_310 ?_
      refine r_if_eq S z4 h4 dL_law_311 (tgt := 318) (by decide) (fun c => absurd c (by omega)) (fun _ => ?_)
      refine lv_iconst (v := 1) S.1 S.2.1 dL_law_314 (by decide) ?_
      refine lv_goto (tgt := 319) S.1 S.2.1 dL_law_315 (by decide) ?_
      refine call_i (wr := []) (runV_C (wc := [((q 0), .inr (11, (mO q 0 0 0 0 0 0 0 0 (-1) 1 0 0 0 0 0 0 0 0 0))), ((q 36), .inl (cy 0, 96, .inl (fun _ => 500))), ((q 37), .inl (cy 1, 96, .inl (fun _ => 1)))]) (As := [.int p1, .int p2, .int p3, .int 1]) (rest := [.int 0]) S (kX12_cell l D cy q p1 p2 p3 1 z1 h1 z2 h2 z3 h3 1 rfl) hK hP hD [0, 1, 2] (by decide) rfl 0 11 rfl rfl kw_1899 kw_1900 kw_1901 kw_152 kw_1902 okX12_cell rfl (by decide) hl.1 rfl (Nat.le_of_ble_eq_true rfl) dL_law_319 (by decide)) hP hD hS hA [0, 1, 2] [] rfl rfl (by decide) (by decide) (fun v319 u319 H locs w319 hP hD hS => ?_)
      have hP : va_P D vwCl [] H := hP
      have hD : va_D A [] := hD
      rcases w319 with ⟨rfl, w319_0_0⟩ | ⟨rfl, w319_1_0⟩
      · exfalso; omega
      · refine r_icmp_eq S 0 0 rfl rfl dL_law_322 (tgt := 2008) (by decide) (fun _ => ?_) (fun c => absurd c (by decide))
        exact law_on S hr hlk hX hbl hbA hA2 hS (lv_sub hl [0, 4] rfl) (by decide) (by decide)
set_option maxHeartbeats 4000000 in
set_option maxRecDepth 100000 in
theorem law_c3 (l : Launch) (hst : l.stackTraces = false) {p : Program} {e : Env} {s : State} {m : MethodId} {below : List Frame} {meth : Method} {c : Code} {H : Heap} {locs : List Loc} {ls : Array Slot} {D : va_G} {cy : Nat → ClassId} {b : Nat} {xs : Nat → Int32} {A : Nat → Prop} {x q : Nat → Nat} {o : Nat} (S : CallFix p m c cL_law 7 s #[Value.ref b] uu "LandSurveyLaw") (hr : meth.sig.returnType = ret) (hlk : meth.locks = false) (hX : va_X b 8 xs s s.heap) (hbl : b < s.heap.size) (hbA : ¬ A b) (hA : ∀ q : Nat, s.heap.size ≤ q → A q) (hA2 : ∀ q : Nat, A q → s.heap.size ≤ q) (hK : KX D cy s) (hE : Ey s) (hZ : Zs A s s.heap) (hP : va_P D vwCl [((x 0), .inr (10, [.int 0, .int (-1), .ref (x 1), .ref (x 9), .int 0, .ref (x 10), .ref (x 13), .ref (x 16), .ref (x 29), .int 0, .int 0, .ref (x 30), .int 0, .ref (x 31), .ref (x 42), .int 0, .int 0, .null, .ref (x 43)])), ((x 1), .inr (2, [.ref (x 2), .ref (x 3), .ref (x 4), .ref (x 5), .ref (x 6), .int 0, .ref (x 7), .ref (x 8), .int 0])), ((x 4), .inl (cy 1, 96, .inl (fun _ => 0))), ((q 0), .inr (11, (mO q 0 0 0 0 0 0 0 0 (-1) 1 0 0 0 0 0 0 0 0 0))), ((q 38), .inl (cy 1, 96, .inl (fun _ => 0)))] H) (hD : va_D A [((x 0), .inr (10, [.int 0, .int (-1), .ref (x 1), .ref (x 9), .int 0, .ref (x 10), .ref (x 13), .ref (x 16), .ref (x 29), .int 0, .int 0, .ref (x 30), .int 0, .ref (x 31), .ref (x 42), .int 0, .int 0, .null, .ref (x 43)])), ((x 1), .inr (2, [.ref (x 2), .ref (x 3), .ref (x 4), .ref (x 5), .ref (x 6), .int 0, .ref (x 7), .ref (x 8), .int 0])), ((x 4), .inl (cy 1, 96, .inl (fun _ => 0))), ((q 0), .inr (11, (mO q 0 0 0 0 0 0 0 0 (-1) 1 0 0 0 0 0 0 0 0 0))), ((q 38), .inl (cy 1, 96, .inl (fun _ => 0)))]) (hS : va_S A s.heap H locs) (hl : lv_has ls 7 [(4, .int 0), (3, .ref o), (2, .ref (q 0)), (1, .ref (x 0)), (0, .ref b)]) : W p l e room_1 s m #[Value.ref b] below meth c H locs 114 51906 (lw_Z below #[Value.ref b] s) (F0 m 327 ls []) := by
  obtain ⟨p1, e1⟩ : ∃ y, xs 1 = y := ⟨_, rfl⟩
  obtain ⟨z1, h1⟩ : ∃ z, p1.toInt = z := ⟨_, rfl⟩
  obtain ⟨p2, e2⟩ : ∃ y, xs 2 = y := ⟨_, rfl⟩
  obtain ⟨z2, h2⟩ : ∃ z, p2.toInt = z := ⟨_, rfl⟩
  obtain ⟨p3, e3⟩ : ∃ y, xs 3 = y := ⟨_, rfl⟩
  obtain ⟨z3, h3⟩ : ∃ z, p3.toInt = z := ⟨_, rfl⟩
  obtain ⟨p4, e4⟩ : ∃ y, xs 4 = y := ⟨_, rfl⟩
  obtain ⟨z4, h4⟩ : ∃ z, p4.toInt = z := ⟨_, rfl⟩
  obtain ⟨p5, e5⟩ : ∃ y, xs 5 = y := ⟨_, rfl⟩
  obtain ⟨z5, h5⟩ : ∃ z, p5.toInt = z := ⟨_, rfl⟩
  obtain ⟨p6, e6⟩ : ∃ y, xs 6 = y := ⟨_, rfl⟩
  obtain ⟨z6, h6⟩ : ∃ z, p6.toInt = z := ⟨_, rfl⟩
  obtain ⟨p7, e7⟩ : ∃ y, xs 7 = y := ⟨_, rfl⟩
  obtain ⟨z7, h7⟩ : ∃ z, p7.toInt = z := ⟨_, rfl⟩
  refine lv_aload_n S.1 S.2.1 dL_law_327 rfl (lv_at hl 3 rfl) ?_
  refine lv_aload_n S.1 S.2.1 dL_law_328 rfl (lv_at hl 4 rfl) ?_
  refine lv_iload S.1 S.2.1 dL_law_329 (lv_at hl 0 rfl) ?_
  refine lv_iconst (v := 1) S.1 S.2.1 dL_law_331 (by decide) ?_
  refine r_iadd S dL_law_332 (v := 1) (by decide) ?_
  refine r_sld S hX hbl hbA hS 1 (by decide) (by decide) (by decide) (v := p1) e1 dL_law_333 ?_
  refine lv_aload_n S.1 S.2.1 dL_law_334 rfl (lv_at hl 4 rfl) ?_
  refine lv_iload S.1 S.2.1 dL_law_335 (lv_at hl 0 rfl) ?_
  refine lv_iconst (v := 2) S.1 S.2.1 dL_law_337 (by decide) ?_
  refine r_iadd S dL_law_338 (v := 2) (by decide) ?_
  refine r_sld S hX hbl hbA hS 2 (by decide) (by decide) (by decide) (v := p2) e2 dL_law_339 ?_
  refine lv_aload_n S.1 S.2.1 dL_law_340 rfl (lv_at hl 4 rfl) ?_
  refine lv_iload S.1 S.2.1 dL_law_341 (lv_at hl 0 rfl) ?_
  refine lv_iconst (v := 3) S.1 S.2.1 dL_law_343 (by decide) ?_
  refine r_iadd S dL_law_344 (v := 3) (by decide) ?_
  refine r_sld S hX hbl hbA hS 3 (by decide) (by decide) (by decide) (v := p3) e3 dL_law_345 ?_
  refine r_if_eq S z3 h3 dL_law_346 (tgt := 353) (by decide) (fun e_346_1 => ?_) (fun e_346_1 => ?_)
  · refine lv_iconst (v := 0) S.1 S.2.1 dL_law_353 (by decide) ?_
    refine call_i (wr := [((q 0), .inr (11, (mO q 0 0 0 0 0 0 0 0 (-1) 1 0 0 0 0 0 0 0 0 0))), ((q 38), .inl (cy 1, 96, .inl (fun _ => 0)))]) (runV_C (wc := [((x 0), .inr (10, [.int 0, .int (-1), .ref (x 1), .ref (x 9), .int 0, .ref (x 10), .ref (x 13), .ref (x 16), .ref (x 29), .int 0, .int 0, .ref (x 30), .int 0, .ref (x 31), .ref (x 42), .int 0, .int 0, .null, .ref (x 43)])), ((x 1), .inr (2, [.ref (x 2), .ref (x 3), .ref (x 4), .ref (x 5), .ref (x 6), .int 0, .ref (x 7), .ref (x 8), .int 0])), ((x 4), .inl (cy 1, 96, .inl (fun _ => 0)))]) (As := [.int p1, .int p2, .int 0]) (rest := []) S (kX11_fold l D cy x p1 p2 0 z1 h1 z2 h2 0 rfl) hK hP hD [0, 1, 2] (by decide) rfl 0 10 rfl rfl kw_541 kw_542 kw_543 kw_144 kw_544 okX11_fold rfl (by decide) hl.1 rfl (Nat.le_of_ble_eq_true rfl) dL_law_354 (by decide)) hP hD hS hA [0, 1, 2] [3, 4] rfl rfl (by decide) (by decide) (fun v354 u354 H locs w354 hP hD hS => ?_)
    have hP : va_P D vwCl [((q 0), .inr (11, (mO q 0 0 0 0 0 0 0 0 (-1) 1 0 0 0 0 0 0 0 0 0))), ((q 38), .inl (cy 1, 96, .inl (fun _ => 0)))] H := hP
    have hD : va_D A [((q 0), .inr (11, (mO q 0 0 0 0 0 0 0 0 (-1) 1 0 0 0 0 0 0 0 0 0))), ((q 38), .inl (cy 1, 96, .inl (fun _ => 0)))] := hD
    rcases w354 with ⟨rfl, w354_0_0⟩ | ⟨rfl, w354_1_0⟩
    · refine lv_aload_n S.1 S.2.1 dL_law_357 rfl (lv_at hl 2 rfl) ?_
      refine lv_aload_n S.1 S.2.1 dL_law_358 rfl (lv_at hl 4 rfl) ?_
      refine lv_iload S.1 S.2.1 dL_law_359 (lv_at hl 0 rfl) ?_
      refine lv_iconst (v := 1) S.1 S.2.1 dL_law_361 (by decide) ?_
      refine r_iadd S dL_law_362 (v := 1) (by decide) ?_
      refine r_sld S hX hbl hbA hS 1 (by decide) (by decide) (by decide) (v := p1) e1 dL_law_363 ?_
      refine lv_aload_n S.1 S.2.1 dL_law_364 rfl (lv_at hl 4 rfl) ?_
      refine lv_iload S.1 S.2.1 dL_law_365 (lv_at hl 0 rfl) ?_
      refine lv_iconst (v := 2) S.1 S.2.1 dL_law_367 (by decide) ?_
      refine r_iadd S dL_law_368 (v := 2) (by decide) ?_
      refine r_sld S hX hbl hbA hS 2 (by decide) (by decide) (by decide) (v := p2) e2 dL_law_369 ?_
      refine lv_aload_n S.1 S.2.1 dL_law_370 rfl (lv_at hl 4 rfl) ?_
      refine lv_iload S.1 S.2.1 dL_law_371 (lv_at hl 0 rfl) ?_
      refine lv_iconst (v := 3) S.1 S.2.1 dL_law_373 (by decide) ?_
      refine r_iadd S dL_law_374 (v := 3) (by decide) ?_
      refine r_sld S hX hbl hbA hS 3 (by decide) (by decide) (by decide) (v := p3) e3 dL_law_375 ?_
      refine r_if_eq S z3 h3 dL_law_376 (tgt := 383) (by decide) (fun _ => ?_) (fun c => absurd c (by omega))
      refine lv_iconst (v := 0) S.1 S.2.1 dL_law_383 (by decide) ?_
      refine call_i (wr := []) (runV_C (wc := [((q 0), .inr (11, (mO q 0 0 0 0 0 0 0 0 (-1) 1 0 0 0 0 0 0 0 0 0))), ((q 38), .inl (cy 1, 96, .inl (fun _ => 0)))]) (As := [.int p1, .int p2, .int 0]) (rest := [.int 1]) S (kX12_fold l D cy q p1 p2 0 z1 h1 z2 h2 0 rfl) hK hP hD [0, 1] (by decide) rfl 0 11 rfl rfl kw_1906 kw_1907 kw_1908 kw_152 kw_1909 okX12_fold rfl (by decide) hl.1 rfl (Nat.le_of_ble_eq_true rfl) dL_law_384 (by decide)) hP hD hS hA [0, 1] [] rfl rfl (by decide) (by decide) (fun v384 u384 H locs w384 hP hD hS => ?_)
      have hP : va_P D vwCl [] H := hP
      have hD : va_D A [] := hD
      rcases w384 with ⟨rfl, w384_0_0⟩ | ⟨rfl, w384_1_0⟩
      · refine r_icmp_eq S 1 1 rfl rfl dL_law_387 (tgt := 2008) (by decide) (fun _ => ?_) (fun c => absurd c (by decide))
        exact law_on S hr hlk hX hbl hbA hA2 hS (lv_sub hl [0, 4] rfl) (by decide) (by decide)
      · exfalso; omega
    · refine lv_aload_n S.1 S.2.1 dL_law_357 rfl (lv_at hl 2 rfl) ?_
      refine lv_aload_n S.1 S.2.1 dL_law_358 rfl (lv_at hl 4 rfl) ?_
      refine lv_iload S.1 S.2.1 dL_law_359 (lv_at hl 0 rfl) ?_
      refine lv_iconst (v := 1) S.1 S.2.1 dL_law_361 (by decide) ?_
      refine r_iadd S dL_law_362 (v := 1) (by decide) ?_
      refine r_sld S hX hbl hbA hS 1 (by decide) (by decide) (by decide) (v := p1) e1 dL_law_363 ?_
      refine lv_aload_n S.1 S.2.1 dL_law_364 rfl (lv_at hl 4 rfl) ?_
      refine lv_iload S.1 S.2.1 dL_law_365 (lv_at hl 0 rfl) ?_
      refine lv_iconst (v := 2) S.1 S.2.1 dL_law_367 (by decide) ?_
      refine r_iadd S dL_law_368 (v := 2) (by decide) ?_
      refine r_sld S hX hbl hbA hS 2 (by decide) (by decide) (by decide) (v := p2) e2 dL_law_369 ?_
      refine lv_aload_n S.1 S.2.1 dL_law_370 rfl (lv_at hl 4 rfl) ?_
      refine lv_iload S.1 S.2.1 dL_law_371 (lv_at hl 0 rfl) ?_
      refine lv_iconst (v := 3) S.1 S.2.1 dL_law_373 (by decide) ?_
      refine r_iadd S dL_law_374 (v := 3) (by decide) ?_
      refine r_sld S hX hbl hbA hS 3 (by decide) (by decide) (by decide) (v := p3) e3 dL_law_375 ?_
      refine r_if_eq S z3 h3 dL_law_376 (tgt := 383) (by decide) (fun _ => ?_) (fun c => absurd c (by omega))
      refine lv_iconst (v := 0) S.1 S.2.1 dL_law_383 (by decide) ?_
      refine call_i (wr := []) (runV_C (wc := [((q 0), .inr (11, (mO q 0 0 0 0 0 0 0 0 (-1) 1 0 0 0 0 0 0 0 0 0))), ((q 38), .inl (cy 1, 96, .inl (fun _ => 0)))]) (As := [.int p1, .int p2, .int 0]) (rest := [.int 0]) S (kX12_fold l D cy q p1 p2 0 z1 h1 z2 h2 0 rfl) hK hP hD [0, 1] (by decide) rfl 0 11 rfl rfl kw_1906 kw_1907 kw_1908 kw_152 kw_1909 okX12_fold rfl (by decide) hl.1 rfl (Nat.le_of_ble_eq_true rfl) dL_law_384 (by decide)) hP hD hS hA [0, 1] [] rfl rfl (by decide) (by decide) (fun v384 u384 H locs w384 hP hD hS => ?_)
      have hP : va_P D vwCl [] H := hP
      have hD : va_D A [] := hD
      rcases w384 with ⟨rfl, w384_0_0⟩ | ⟨rfl, w384_1_0⟩
      · exfalso; omega
      · refine r_icmp_eq S 0 0 rfl rfl dL_law_387 (tgt := 2008) (by decide) (fun _ => ?_) (fun c => absurd c (by decide))
        exact law_on S hr hlk hX hbl hbA hA2 hS (lv_sub hl [0, 4] rfl) (by decide) (by decide)
  · refine lv_iconst (v := 1) S.1 S.2.1 dL_law_349 (by decide) ?_
    refine lv_goto (tgt := 354) S.1 S.2.1 dL_law_350 (by decide) ?_
    refine call_i (wr := [((q 0), .inr (11, (mO q 0 0 0 0 0 0 0 0 (-1) 1 0 0 0 0 0 0 0 0 0))), ((q 38), .inl (cy 1, 96, .inl (fun _ => 0)))]) (runV_C (wc := [((x 0), .inr (10, [.int 0, .int (-1), .ref (x 1), .ref (x 9), .int 0, .ref (x 10), .ref (x 13), .ref (x 16), .ref (x 29), .int 0, .int 0, .ref (x 30), .int 0, .ref (x 31), .ref (x 42), .int 0, .int 0, .null, .ref (x 43)])), ((x 1), .inr (2, [.ref (x 2), .ref (x 3), .ref (x 4), .ref (x 5), .ref (x 6), .int 0, .ref (x 7), .ref (x 8), .int 0])), ((x 4), .inl (cy 1, 96, .inl (fun _ => 0)))]) (As := [.int p1, .int p2, .int 1]) (rest := []) S (kX11_fold l D cy x p1 p2 1 z1 h1 z2 h2 1 rfl) hK hP hD [0, 1, 2] (by decide) rfl 0 10 rfl rfl kw_541 kw_542 kw_543 kw_144 kw_544 okX11_fold rfl (by decide) hl.1 rfl (Nat.le_of_ble_eq_true rfl) dL_law_354 (by decide)) hP hD hS hA [0, 1, 2] [3, 4] rfl rfl (by decide) (by decide) (fun v354 u354 H locs w354 hP hD hS => ?_)
    have hP : va_P D vwCl [((q 0), .inr (11, (mO q 0 0 0 0 0 0 0 0 (-1) 1 0 0 0 0 0 0 0 0 0))), ((q 38), .inl (cy 1, 96, .inl (fun _ => 0)))] H := hP
    have hD : va_D A [((q 0), .inr (11, (mO q 0 0 0 0 0 0 0 0 (-1) 1 0 0 0 0 0 0 0 0 0))), ((q 38), .inl (cy 1, 96, .inl (fun _ => 0)))] := hD
    rcases w354 with ⟨rfl, w354_0_0⟩ | ⟨rfl, w354_1_0⟩
    · refine lv_aload_n S.1 S.2.1 dL_law_357 rfl (lv_at hl 2 rfl) ?_
      refine lv_aload_n S.1 S.2.1 dL_law_358 rfl (lv_at hl 4 rfl) ?_
      refine lv_iload S.1 S.2.1 dL_law_359 (lv_at hl 0 rfl) ?_
      refine lv_iconst (v := 1) S.1 S.2.1 dL_law_361 (by decide) ?_
      refine r_iadd S dL_law_362 (v := 1) (by decide) ?_
      refine r_sld S hX hbl hbA hS 1 (by decide) (by decide) (by decide) (v := p1) e1 dL_law_363 ?_
      refine lv_aload_n S.1 S.2.1 dL_law_364 rfl (lv_at hl 4 rfl) ?_
      refine lv_iload S.1 S.2.1 dL_law_365 (lv_at hl 0 rfl) ?_
      refine lv_iconst (v := 2) S.1 S.2.1 dL_law_367 (by decide) ?_
      refine r_iadd S dL_law_368 (v := 2) (by decide) ?_
      refine r_sld S hX hbl hbA hS 2 (by decide) (by decide) (by decide) (v := p2) e2 dL_law_369 ?_
      refine lv_aload_n S.1 S.2.1 dL_law_370 rfl (lv_at hl 4 rfl) ?_
      refine lv_iload S.1 S.2.1 dL_law_371 (lv_at hl 0 rfl) ?_
      refine lv_iconst (v := 3) S.1 S.2.1 dL_law_373 (by decide) ?_
      refine r_iadd S dL_law_374 (v := 3) (by decide) ?_
      refine r_sld S hX hbl hbA hS 3 (by decide) (by decide) (by decide) (v := p3) e3 dL_law_375 ?_
      refine r_if_eq S z3 h3 dL_law_376 (tgt := 383) (by decide) (fun c => absurd c (by omega)) (fun _ => ?_)
      refine lv_iconst (v := 1) S.1 S.2.1 dL_law_379 (by decide) ?_
      refine lv_goto (tgt := 384) S.1 S.2.1 dL_law_380 (by decide) ?_
      refine call_i (wr := []) (runV_C (wc := [((q 0), .inr (11, (mO q 0 0 0 0 0 0 0 0 (-1) 1 0 0 0 0 0 0 0 0 0))), ((q 38), .inl (cy 1, 96, .inl (fun _ => 0)))]) (As := [.int p1, .int p2, .int 1]) (rest := [.int 1]) S (kX12_fold l D cy q p1 p2 1 z1 h1 z2 h2 1 rfl) hK hP hD [0, 1] (by decide) rfl 0 11 rfl rfl kw_1906 kw_1907 kw_1908 kw_152 kw_1909 okX12_fold rfl (by decide) hl.1 rfl (Nat.le_of_ble_eq_true rfl) dL_law_384 (by decide)) hP hD hS hA [0, 1] [] rfl rfl (by decide) (by decide) (fun v384 u384 H locs w384 hP hD hS => ?_)
      have hP : va_P D vwCl [] H := hP
      have hD : va_D A [] := hD
      rcases w384 with ⟨rfl, w384_0_0⟩ | ⟨rfl, w384_1_0⟩
      · refine r_icmp_eq S 1 1 rfl rfl dL_law_387 (tgt := 2008) (by decide) (fun _ => ?_) (fun c => absurd c (by decide))
        exact law_on S hr hlk hX hbl hbA hA2 hS (lv_sub hl [0, 4] rfl) (by decide) (by decide)
      · exfalso; omega
    · refine lv_aload_n S.1 S.2.1 dL_law_357 rfl (lv_at hl 2 rfl) ?_
      refine lv_aload_n S.1 S.2.1 dL_law_358 rfl (lv_at hl 4 rfl) ?_
      refine lv_iload S.1 S.2.1 dL_law_359 (lv_at hl 0 rfl) ?_
      refine lv_iconst (v := 1) S.1 S.2.1 dL_law_361 (by decide) ?_
      refine r_iadd S dL_law_362 (v := 1) (by decide) ?_
      refine r_sld S hX hbl hbA hS 1 (by decide) (by decide) (by decide) (v := p1) e1 dL_law_363 ?_
      refine lv_aload_n S.1 S.2.1 dL_law_364 rfl (lv_at hl 4 rfl) ?_
      refine lv_iload S.1 S.2.1 dL_law_365 (lv_at hl 0 rfl) ?_
      refine lv_iconst (v := 2) S.1 S.2.1 dL_law_367 (by decide) ?_
      refine r_iadd S dL_law_368 (v := 2) (by decide) ?_
      refine r_sld S hX hbl hbA hS 2 (by decide) (by decide) (by decide) (v := p2) e2 dL_law_369 ?_
      refine lv_aload_n S.1 S.2.1 dL_law_370 rfl (lv_at hl 4 rfl) ?_
      refine lv_iload S.1 S.2.1 dL_law_371 (lv_at hl 0 rfl) ?_
      refine lv_iconst (v := 3) S.1 S.2.1 dL_law_373 (by decide) ?_
      refine r_iadd S dL_law_374 (v := 3) (by decide) ?_
      refine r_sld S hX hbl hbA hS 3 (by decide) (by decide) (by decide) (v := p3) e3 dL_law_375 ?_
      refine r_if_eq S z3 h3 dL_law_376 (tgt := 383) (by decide) (fun c => absurd c (by omega)) (fun _ => ?_)
      refine lv_iconst (v := 1) S.1 S.2.1 dL_law_379 (by decide) ?_
      refine lv_goto (tgt := 384) S.1 S.2.1 dL_law_380 (by decide) ?_
      refine call_i (wr := []) (runV_C (wc := [((q 0), .inr (11, (mO q 0 0 0 0 0 0 0 0 (-1) 1 0 0 0 0 0 0 0 0 0))), ((q 38), .inl (cy 1, 96, .inl (fun _ => 0)))]) (As := [.int p1, .int p2, .int 1]) (rest := [.int 0]) S (kX12_fold l D cy q p1 p2 1 z1 h1 z2 h2 1 rfl) hK hP hD [0, 1] (by decide) rfl 0 11 rfl rfl kw_1906 kw_1907 kw_1908 kw_152 kw_1909 okX12_fold rfl (by decide) hl.1 rfl (Nat.le_of_ble_eq_true rfl) dL_law_384 (by decide)) hP hD hS hA [0, 1] [] rfl rfl (by decide) (by decide) (fun v384 u384 H locs w384 hP hD hS => ?_)
      have hP : va_P D vwCl [] H := hP
      have hD : va_D A [] := hD
      rcases w384 with ⟨rfl, w384_0_0⟩ | ⟨rfl, w384_1_0⟩
      · exfalso; omega
      · refine r_icmp_eq S 0 0 rfl rfl dL_law_387 (tgt := 2008) (by decide) (fun _ => ?_) (fun c => absurd c (by decide))
        exact law_on S hr hlk hX hbl hbA hA2 hS (lv_sub hl [0, 4] rfl) (by decide) (by decide)
set_option maxHeartbeats 4000000 in
set_option maxRecDepth 100000 in
theorem law_c4 (l : Launch) (hst : l.stackTraces = false) {p : Program} {e : Env} {s : State} {m : MethodId} {below : List Frame} {meth : Method} {c : Code} {H : Heap} {locs : List Loc} {ls : Array Slot} {D : va_G} {cy : Nat → ClassId} {b : Nat} {xs : Nat → Int32} {A : Nat → Prop} {x q : Nat → Nat} {o : Nat} (S : CallFix p m c cL_law 7 s #[Value.ref b] uu "LandSurveyLaw") (hr : meth.sig.returnType = ret) (hlk : meth.locks = false) (hX : va_X b 8 xs s s.heap) (hbl : b < s.heap.size) (hbA : ¬ A b) (hA : ∀ q : Nat, s.heap.size ≤ q → A q) (hA2 : ∀ q : Nat, A q → s.heap.size ≤ q) (hK : KX D cy s) (hE : Ey s) (hZ : Zs A s s.heap) (hP : va_P D vwCl [((x 0), .inr (10, [.int 0, .int (-1), .ref (x 1), .ref (x 9), .int 0, .ref (x 10), .ref (x 13), .ref (x 16), .ref (x 29), .int 0, .int 0, .ref (x 30), .int 0, .ref (x 31), .ref (x 42), .int 0, .int 0, .null, .ref (x 43)])), ((x 1), .inr (2, [.ref (x 2), .ref (x 3), .ref (x 4), .ref (x 5), .ref (x 6), .int 0, .ref (x 7), .ref (x 8), .int 0])), ((x 5), .inl (cy 0, 96, .inl (fun _ => (-1)))), ((q 0), .inr (11, (mO q 0 0 0 0 0 0 0 0 (-1) 1 0 0 0 0 0 0 0 0 0))), ((q 39), .inl (cy 0, 96, .inl (fun _ => (-1))))] H) (hD : va_D A [((x 0), .inr (10, [.int 0, .int (-1), .ref (x 1), .ref (x 9), .int 0, .ref (x 10), .ref (x 13), .ref (x 16), .ref (x 29), .int 0, .int 0, .ref (x 30), .int 0, .ref (x 31), .ref (x 42), .int 0, .int 0, .null, .ref (x 43)])), ((x 1), .inr (2, [.ref (x 2), .ref (x 3), .ref (x 4), .ref (x 5), .ref (x 6), .int 0, .ref (x 7), .ref (x 8), .int 0])), ((x 5), .inl (cy 0, 96, .inl (fun _ => (-1)))), ((q 0), .inr (11, (mO q 0 0 0 0 0 0 0 0 (-1) 1 0 0 0 0 0 0 0 0 0))), ((q 39), .inl (cy 0, 96, .inl (fun _ => (-1))))]) (hS : va_S A s.heap H locs) (hl : lv_has ls 7 [(4, .int 0), (3, .ref o), (2, .ref (q 0)), (1, .ref (x 0)), (0, .ref b)]) : W p l e room_1 s m #[Value.ref b] below meth c H locs 114 51906 (lw_Z below #[Value.ref b] s) (F0 m 392 ls []) := by
  obtain ⟨p1, e1⟩ : ∃ y, xs 1 = y := ⟨_, rfl⟩
  obtain ⟨z1, h1⟩ : ∃ z, p1.toInt = z := ⟨_, rfl⟩
  obtain ⟨p2, e2⟩ : ∃ y, xs 2 = y := ⟨_, rfl⟩
  obtain ⟨z2, h2⟩ : ∃ z, p2.toInt = z := ⟨_, rfl⟩
  obtain ⟨p3, e3⟩ : ∃ y, xs 3 = y := ⟨_, rfl⟩
  obtain ⟨z3, h3⟩ : ∃ z, p3.toInt = z := ⟨_, rfl⟩
  obtain ⟨p4, e4⟩ : ∃ y, xs 4 = y := ⟨_, rfl⟩
  obtain ⟨z4, h4⟩ : ∃ z, p4.toInt = z := ⟨_, rfl⟩
  obtain ⟨p5, e5⟩ : ∃ y, xs 5 = y := ⟨_, rfl⟩
  obtain ⟨z5, h5⟩ : ∃ z, p5.toInt = z := ⟨_, rfl⟩
  obtain ⟨p6, e6⟩ : ∃ y, xs 6 = y := ⟨_, rfl⟩
  obtain ⟨z6, h6⟩ : ∃ z, p6.toInt = z := ⟨_, rfl⟩
  obtain ⟨p7, e7⟩ : ∃ y, xs 7 = y := ⟨_, rfl⟩
  obtain ⟨z7, h7⟩ : ∃ z, p7.toInt = z := ⟨_, rfl⟩
  refine lv_aload_n S.1 S.2.1 dL_law_392 rfl (lv_at hl 3 rfl) ?_
  refine lv_aload_n S.1 S.2.1 dL_law_393 rfl (lv_at hl 4 rfl) ?_
  refine lv_iload S.1 S.2.1 dL_law_394 (lv_at hl 0 rfl) ?_
  refine lv_iconst (v := 1) S.1 S.2.1 dL_law_396 (by decide) ?_
  refine r_iadd S dL_law_397 (v := 1) (by decide) ?_
  refine r_sld S hX hbl hbA hS 1 (by decide) (by decide) (by decide) (v := p1) e1 dL_law_398 ?_
  refine lv_aload_n S.1 S.2.1 dL_law_399 rfl (lv_at hl 4 rfl) ?_
  refine lv_iload S.1 S.2.1 dL_law_400 (lv_at hl 0 rfl) ?_
  refine lv_iconst (v := 2) S.1 S.2.1 dL_law_402 (by decide) ?_
  refine r_iadd S dL_law_403 (v := 2) (by decide) ?_
  refine r_sld S hX hbl hbA hS 2 (by decide) (by decide) (by decide) (v := p2) e2 dL_law_404 ?_
  refine lv_aload_n S.1 S.2.1 dL_law_405 rfl (lv_at hl 4 rfl) ?_
  refine lv_iload S.1 S.2.1 dL_law_406 (lv_at hl 0 rfl) ?_
  refine lv_iconst (v := 3) S.1 S.2.1 dL_law_408 (by decide) ?_
  refine r_iadd S dL_law_409 (v := 3) (by decide) ?_
  refine r_sld S hX hbl hbA hS 3 (by decide) (by decide) (by decide) (v := p3) e3 dL_law_410 ?_
  refine call_i (wr := [((q 0), .inr (11, (mO q 0 0 0 0 0 0 0 0 (-1) 1 0 0 0 0 0 0 0 0 0))), ((q 39), .inl (cy 0, 96, .inl (fun _ => (-1))))]) (runV_C (wc := [((x 0), .inr (10, [.int 0, .int (-1), .ref (x 1), .ref (x 9), .int 0, .ref (x 10), .ref (x 13), .ref (x 16), .ref (x 29), .int 0, .int 0, .ref (x 30), .int 0, .ref (x 31), .ref (x 42), .int 0, .int 0, .null, .ref (x 43)])), ((x 1), .inr (2, [.ref (x 2), .ref (x 3), .ref (x 4), .ref (x 5), .ref (x 6), .int 0, .ref (x 7), .ref (x 8), .int 0])), ((x 5), .inl (cy 0, 96, .inl (fun _ => (-1))))]) (As := [.int p1, .int p2, .int p3]) (rest := []) S (kX11_own l D cy x p1 p2 p3 z1 h1 z2 h2 z3 h3) hK hP hD [0, 1, 2] (by decide) rfl 0 10 rfl rfl kw_545 kw_546 kw_547 kw_144 kw_548 okX11_own rfl (by decide) hl.1 rfl (Nat.le_of_ble_eq_true rfl) dL_law_411 (by decide)) hP hD hS hA [0, 1, 2] [3, 4] rfl rfl (by decide) (by decide) (fun v411 u411 H locs w411 hP hD hS => ?_)
  have hP : va_P D vwCl [((q 0), .inr (11, (mO q 0 0 0 0 0 0 0 0 (-1) 1 0 0 0 0 0 0 0 0 0))), ((q 39), .inl (cy 0, 96, .inl (fun _ => (-1))))] H := hP
  have hD : va_D A [((q 0), .inr (11, (mO q 0 0 0 0 0 0 0 0 (-1) 1 0 0 0 0 0 0 0 0 0))), ((q 39), .inl (cy 0, 96, .inl (fun _ => (-1))))] := hD
  rcases w411 with ⟨rfl, w411_0_0⟩ | ⟨rfl, w411_1_0⟩
  · refine lv_aload_n S.1 S.2.1 dL_law_414 rfl (lv_at hl 2 rfl) ?_
    refine lv_aload_n S.1 S.2.1 dL_law_415 rfl (lv_at hl 4 rfl) ?_
    refine lv_iload S.1 S.2.1 dL_law_416 (lv_at hl 0 rfl) ?_
    refine lv_iconst (v := 1) S.1 S.2.1 dL_law_418 (by decide) ?_
    refine r_iadd S dL_law_419 (v := 1) (by decide) ?_
    refine r_sld S hX hbl hbA hS 1 (by decide) (by decide) (by decide) (v := p1) e1 dL_law_420 ?_
    refine lv_aload_n S.1 S.2.1 dL_law_421 rfl (lv_at hl 4 rfl) ?_
    refine lv_iload S.1 S.2.1 dL_law_422 (lv_at hl 0 rfl) ?_
    refine lv_iconst (v := 2) S.1 S.2.1 dL_law_424 (by decide) ?_
    refine r_iadd S dL_law_425 (v := 2) (by decide) ?_
    refine r_sld S hX hbl hbA hS 2 (by decide) (by decide) (by decide) (v := p2) e2 dL_law_426 ?_
    refine lv_aload_n S.1 S.2.1 dL_law_427 rfl (lv_at hl 4 rfl) ?_
    refine lv_iload S.1 S.2.1 dL_law_428 (lv_at hl 0 rfl) ?_
    refine lv_iconst (v := 3) S.1 S.2.1 dL_law_430 (by decide) ?_
    refine r_iadd S dL_law_431 (v := 3) (by decide) ?_
    refine r_sld S hX hbl hbA hS 3 (by decide) (by decide) (by decide) (v := p3) e3 dL_law_432 ?_
    refine call_i (wr := []) (runV_C (wc := [((q 0), .inr (11, (mO q 0 0 0 0 0 0 0 0 (-1) 1 0 0 0 0 0 0 0 0 0))), ((q 39), .inl (cy 0, 96, .inl (fun _ => (-1))))]) (As := [.int p1, .int p2, .int p3]) (rest := [.int 1]) S (kX12_own l D cy q p1 p2 p3 z1 h1 z2 h2 z3 h3) hK hP hD [0, 1] (by decide) rfl 0 11 rfl rfl kw_1910 kw_1911 kw_1912 kw_152 kw_1913 okX12_own rfl (by decide) hl.1 rfl (Nat.le_of_ble_eq_true rfl) dL_law_433 (by decide)) hP hD hS hA [0, 1] [] rfl rfl (by decide) (by decide) (fun v433 u433 H locs w433 hP hD hS => ?_)
    have hP : va_P D vwCl [] H := hP
    have hD : va_D A [] := hD
    rcases w433 with ⟨rfl, w433_0_0⟩ | ⟨rfl, w433_1_0⟩
    · refine r_icmp_eq S 1 1 rfl rfl dL_law_436 (tgt := 2008) (by decide) (fun _ => ?_) (fun c => absurd c (by decide))
      exact law_on S hr hlk hX hbl hbA hA2 hS (lv_sub hl [0, 4] rfl) (by decide) (by decide)
    · exfalso; omega
  · refine lv_aload_n S.1 S.2.1 dL_law_414 rfl (lv_at hl 2 rfl) ?_
    refine lv_aload_n S.1 S.2.1 dL_law_415 rfl (lv_at hl 4 rfl) ?_
    refine lv_iload S.1 S.2.1 dL_law_416 (lv_at hl 0 rfl) ?_
    refine lv_iconst (v := 1) S.1 S.2.1 dL_law_418 (by decide) ?_
    refine r_iadd S dL_law_419 (v := 1) (by decide) ?_
    refine r_sld S hX hbl hbA hS 1 (by decide) (by decide) (by decide) (v := p1) e1 dL_law_420 ?_
    refine lv_aload_n S.1 S.2.1 dL_law_421 rfl (lv_at hl 4 rfl) ?_
    refine lv_iload S.1 S.2.1 dL_law_422 (lv_at hl 0 rfl) ?_
    refine lv_iconst (v := 2) S.1 S.2.1 dL_law_424 (by decide) ?_
    refine r_iadd S dL_law_425 (v := 2) (by decide) ?_
    refine r_sld S hX hbl hbA hS 2 (by decide) (by decide) (by decide) (v := p2) e2 dL_law_426 ?_
    refine lv_aload_n S.1 S.2.1 dL_law_427 rfl (lv_at hl 4 rfl) ?_
    refine lv_iload S.1 S.2.1 dL_law_428 (lv_at hl 0 rfl) ?_
    refine lv_iconst (v := 3) S.1 S.2.1 dL_law_430 (by decide) ?_
    refine r_iadd S dL_law_431 (v := 3) (by decide) ?_
    refine r_sld S hX hbl hbA hS 3 (by decide) (by decide) (by decide) (v := p3) e3 dL_law_432 ?_
    refine call_i (wr := []) (runV_C (wc := [((q 0), .inr (11, (mO q 0 0 0 0 0 0 0 0 (-1) 1 0 0 0 0 0 0 0 0 0))), ((q 39), .inl (cy 0, 96, .inl (fun _ => (-1))))]) (As := [.int p1, .int p2, .int p3]) (rest := [.int 0]) S (kX12_own l D cy q p1 p2 p3 z1 h1 z2 h2 z3 h3) hK hP hD [0, 1] (by decide) rfl 0 11 rfl rfl kw_1910 kw_1911 kw_1912 kw_152 kw_1913 okX12_own rfl (by decide) hl.1 rfl (Nat.le_of_ble_eq_true rfl) dL_law_433 (by decide)) hP hD hS hA [0, 1] [] rfl rfl (by decide) (by decide) (fun v433 u433 H locs w433 hP hD hS => ?_)
    have hP : va_P D vwCl [] H := hP
    have hD : va_D A [] := hD
    rcases w433 with ⟨rfl, w433_0_0⟩ | ⟨rfl, w433_1_0⟩
    · exfalso; omega
    · refine r_icmp_eq S 0 0 rfl rfl dL_law_436 (tgt := 2008) (by decide) (fun _ => ?_) (fun c => absurd c (by decide))
      exact law_on S hr hlk hX hbl hbA hA2 hS (lv_sub hl [0, 4] rfl) (by decide) (by decide)
set_option maxHeartbeats 4000000 in
set_option maxRecDepth 100000 in
theorem law_c5 (l : Launch) (hst : l.stackTraces = false) {p : Program} {e : Env} {s : State} {m : MethodId} {below : List Frame} {meth : Method} {c : Code} {H : Heap} {locs : List Loc} {ls : Array Slot} {D : va_G} {cy : Nat → ClassId} {b : Nat} {xs : Nat → Int32} {A : Nat → Prop} {x q : Nat → Nat} {o : Nat} (S : CallFix p m c cL_law 7 s #[Value.ref b] uu "LandSurveyLaw") (hr : meth.sig.returnType = ret) (hlk : meth.locks = false) (hX : va_X b 8 xs s s.heap) (hbl : b < s.heap.size) (hbA : ¬ A b) (hA : ∀ q : Nat, s.heap.size ≤ q → A q) (hA2 : ∀ q : Nat, A q → s.heap.size ≤ q) (hK : KX D cy s) (hE : Ey s) (hZ : Zs A s s.heap) (hP : va_P D vwCl [((x 0), .inr (10, [.int 0, .int (-1), .ref (x 1), .ref (x 9), .int 0, .ref (x 10), .ref (x 13), .ref (x 16), .ref (x 29), .int 0, .int 0, .ref (x 30), .int 0, .ref (x 31), .ref (x 42), .int 0, .int 0, .null, .ref (x 43)])), ((x 1), .inr (2, [.ref (x 2), .ref (x 3), .ref (x 4), .ref (x 5), .ref (x 6), .int 0, .ref (x 7), .ref (x 8), .int 0])), ((x 3), .inl (cy 1, 96, .inl (fun _ => 0))), ((x 9), .inl (cy 4, 40, .inr (.inr (.inr (.inr (fun _ => none)))))), ((q 0), .inr (11, (mO q 0 0 0 0 0 0 0 0 (-1) 1 0 0 0 0 0 0 0 0 0))), ((q 37), .inl (cy 1, 96, .inl (fun _ => 1))), ((q 41), .inl (cy 0, 40, .inl (fun _ => 0))), ((q 42), .inl (cy 0, 40, .inl (fun _ => 0))), ((q 43), .inl (cy 0, 40, .inl (fun _ => 0))), ((q 44), .inl (cy 0, 40, .inl (fun _ => 0))), ((q 45), .inl (cy 0, 40, .inl (fun _ => 0))), ((q 46), .inl (cy 0, 40, .inl (fun _ => 0))), ((q 47), .inl (cy 0, 40, .inl (fun _ => 0))), ((q 48), .inl (cy 0, 40, .inl (fun _ => 0))), ((q 51), .inl (cy 0, 40, .inl (fun _ => 0)))] H) (hD : va_D A [((x 0), .inr (10, [.int 0, .int (-1), .ref (x 1), .ref (x 9), .int 0, .ref (x 10), .ref (x 13), .ref (x 16), .ref (x 29), .int 0, .int 0, .ref (x 30), .int 0, .ref (x 31), .ref (x 42), .int 0, .int 0, .null, .ref (x 43)])), ((x 1), .inr (2, [.ref (x 2), .ref (x 3), .ref (x 4), .ref (x 5), .ref (x 6), .int 0, .ref (x 7), .ref (x 8), .int 0])), ((x 3), .inl (cy 1, 96, .inl (fun _ => 0))), ((x 9), .inl (cy 4, 40, .inr (.inr (.inr (.inr (fun _ => none)))))), ((q 0), .inr (11, (mO q 0 0 0 0 0 0 0 0 (-1) 1 0 0 0 0 0 0 0 0 0))), ((q 37), .inl (cy 1, 96, .inl (fun _ => 1))), ((q 41), .inl (cy 0, 40, .inl (fun _ => 0))), ((q 42), .inl (cy 0, 40, .inl (fun _ => 0))), ((q 43), .inl (cy 0, 40, .inl (fun _ => 0))), ((q 44), .inl (cy 0, 40, .inl (fun _ => 0))), ((q 45), .inl (cy 0, 40, .inl (fun _ => 0))), ((q 46), .inl (cy 0, 40, .inl (fun _ => 0))), ((q 47), .inl (cy 0, 40, .inl (fun _ => 0))), ((q 48), .inl (cy 0, 40, .inl (fun _ => 0))), ((q 51), .inl (cy 0, 40, .inl (fun _ => 0)))]) (hS : va_S A s.heap H locs) (hl : lv_has ls 7 [(4, .int 0), (3, .ref o), (2, .ref (q 0)), (1, .ref (x 0)), (0, .ref b)]) : W p l e room_1 s m #[Value.ref b] below meth c H locs 114 51906 (lw_Z below #[Value.ref b] s) (F0 m 441 ls []) := by
  obtain ⟨p1, e1⟩ : ∃ y, xs 1 = y := ⟨_, rfl⟩
  obtain ⟨z1, h1⟩ : ∃ z, p1.toInt = z := ⟨_, rfl⟩
  obtain ⟨p2, e2⟩ : ∃ y, xs 2 = y := ⟨_, rfl⟩
  obtain ⟨z2, h2⟩ : ∃ z, p2.toInt = z := ⟨_, rfl⟩
  obtain ⟨p3, e3⟩ : ∃ y, xs 3 = y := ⟨_, rfl⟩
  obtain ⟨z3, h3⟩ : ∃ z, p3.toInt = z := ⟨_, rfl⟩
  obtain ⟨p4, e4⟩ : ∃ y, xs 4 = y := ⟨_, rfl⟩
  obtain ⟨z4, h4⟩ : ∃ z, p4.toInt = z := ⟨_, rfl⟩
  obtain ⟨p5, e5⟩ : ∃ y, xs 5 = y := ⟨_, rfl⟩
  obtain ⟨z5, h5⟩ : ∃ z, p5.toInt = z := ⟨_, rfl⟩
  obtain ⟨p6, e6⟩ : ∃ y, xs 6 = y := ⟨_, rfl⟩
  obtain ⟨z6, h6⟩ : ∃ z, p6.toInt = z := ⟨_, rfl⟩
  obtain ⟨p7, e7⟩ : ∃ y, xs 7 = y := ⟨_, rfl⟩
  obtain ⟨z7, h7⟩ : ∃ z, p7.toInt = z := ⟨_, rfl⟩
  refine lv_aload_n S.1 S.2.1 dL_law_441 rfl (lv_at hl 3 rfl) ?_
  refine lv_aload_n S.1 S.2.1 dL_law_442 rfl (lv_at hl 4 rfl) ?_
  refine lv_iload S.1 S.2.1 dL_law_443 (lv_at hl 0 rfl) ?_
  refine lv_iconst (v := 1) S.1 S.2.1 dL_law_445 (by decide) ?_
  refine r_iadd S dL_law_446 (v := 1) (by decide) ?_
  refine r_sld S hX hbl hbA hS 1 (by decide) (by decide) (by decide) (v := p1) e1 dL_law_447 ?_
  refine lv_aload_n S.1 S.2.1 dL_law_448 rfl (lv_at hl 4 rfl) ?_
  refine lv_iload S.1 S.2.1 dL_law_449 (lv_at hl 0 rfl) ?_
  refine lv_iconst (v := 2) S.1 S.2.1 dL_law_451 (by decide) ?_
  refine r_iadd S dL_law_452 (v := 2) (by decide) ?_
  refine r_sld S hX hbl hbA hS 2 (by decide) (by decide) (by decide) (v := p2) e2 dL_law_453 ?_
  refine lv_aload_n S.1 S.2.1 dL_law_454 rfl (lv_at hl 4 rfl) ?_
  refine lv_iload S.1 S.2.1 dL_law_455 (lv_at hl 0 rfl) ?_
  refine lv_iconst (v := 3) S.1 S.2.1 dL_law_457 (by decide) ?_
  refine r_iadd S dL_law_458 (v := 3) (by decide) ?_
  refine r_sld S hX hbl hbA hS 3 (by decide) (by decide) (by decide) (v := p3) e3 dL_law_459 ?_
  refine lv_aload_n S.1 S.2.1 dL_law_460 rfl (lv_at hl 4 rfl) ?_
  refine lv_iload S.1 S.2.1 dL_law_461 (lv_at hl 0 rfl) ?_
  refine lv_iconst (v := 4) S.1 S.2.1 dL_law_463 (by decide) ?_
  refine r_iadd S dL_law_464 (v := 4) (by decide) ?_
  refine r_sld S hX hbl hbA hS 4 (by decide) (by decide) (by decide) (v := p4) e4 dL_law_465 ?_
  refine lv_aload_n S.1 S.2.1 dL_law_466 rfl (lv_at hl 4 rfl) ?_
  refine lv_iload S.1 S.2.1 dL_law_467 (lv_at hl 0 rfl) ?_
  refine lv_iconst (v := 5) S.1 S.2.1 dL_law_469 (by decide) ?_
  refine r_iadd S dL_law_470 (v := 5) (by decide) ?_
  refine r_sld S hX hbl hbA hS 5 (by decide) (by decide) (by decide) (v := p5) e5 dL_law_471 ?_
  refine lv_aload_n S.1 S.2.1 dL_law_472 rfl (lv_at hl 4 rfl) ?_
  refine lv_iload S.1 S.2.1 dL_law_473 (lv_at hl 0 rfl) ?_
  refine lv_bipush (v := 6) S.1 S.2.1 dL_law_475 (by decide) ?_
  refine r_iadd S dL_law_477 (v := 6) (by decide) ?_
  refine r_sld S hX hbl hbA hS 6 (by decide) (by decide) (by decide) (v := p6) e6 dL_law_478 ?_
  refine call_i (wr := [((q 0), .inr (11, (mO q 0 0 0 0 0 0 0 0 (-1) 1 0 0 0 0 0 0 0 0 0))), ((q 37), .inl (cy 1, 96, .inl (fun _ => 1))), ((q 41), .inl (cy 0, 40, .inl (fun _ => 0))), ((q 42), .inl (cy 0, 40, .inl (fun _ => 0))), ((q 43), .inl (cy 0, 40, .inl (fun _ => 0))), ((q 44), .inl (cy 0, 40, .inl (fun _ => 0))), ((q 45), .inl (cy 0, 40, .inl (fun _ => 0))), ((q 46), .inl (cy 0, 40, .inl (fun _ => 0))), ((q 47), .inl (cy 0, 40, .inl (fun _ => 0))), ((q 48), .inl (cy 0, 40, .inl (fun _ => 0))), ((q 51), .inl (cy 0, 40, .inl (fun _ => 0)))]) (runV_C (wc := [((x 0), .inr (10, [.int 0, .int (-1), .ref (x 1), .ref (x 9), .int 0, .ref (x 10), .ref (x 13), .ref (x 16), .ref (x 29), .int 0, .int 0, .ref (x 30), .int 0, .ref (x 31), .ref (x 42), .int 0, .int 0, .null, .ref (x 43)])), ((x 1), .inr (2, [.ref (x 2), .ref (x 3), .ref (x 4), .ref (x 5), .ref (x 6), .int 0, .ref (x 7), .ref (x 8), .int 0])), ((x 3), .inl (cy 1, 96, .inl (fun _ => 0))), ((x 9), .inl (cy 4, 40, .inr (.inr (.inr (.inr (fun _ => none))))))]) (As := [.int p1, .int p2, .int p3, .int p4, .int p5, .int p6]) (rest := []) S (kX11_sight l D cy x p1 p2 p3 p4 p5 p6 z1 h1 z2 h2 z3 h3 z4 h4 z5 h5 z6 h6) hK hP hD [0, 1, 2, 3] (by decide) rfl 0 10 rfl rfl kw_549 kw_550 kw_551 kw_144 kw_552 okX11_sight rfl (by decide) hl.1 rfl (Nat.le_of_ble_eq_true rfl) dL_law_479 (by decide)) hP hD hS hA [0, 1, 2, 3] [4, 5, 6, 7, 8, 9, 10, 11, 12, 13, 14] rfl rfl (by decide) (by decide) (fun v479 u479 H locs w479 hP hD hS => ?_)
  have hP : va_P D vwCl [((q 0), .inr (11, (mO q 0 0 0 0 0 0 0 0 (-1) 1 0 0 0 0 0 0 0 0 0))), ((q 37), .inl (cy 1, 96, .inl (fun _ => 1))), ((q 41), .inl (cy 0, 40, .inl (fun _ => 0))), ((q 42), .inl (cy 0, 40, .inl (fun _ => 0))), ((q 43), .inl (cy 0, 40, .inl (fun _ => 0))), ((q 44), .inl (cy 0, 40, .inl (fun _ => 0))), ((q 45), .inl (cy 0, 40, .inl (fun _ => 0))), ((q 46), .inl (cy 0, 40, .inl (fun _ => 0))), ((q 47), .inl (cy 0, 40, .inl (fun _ => 0))), ((q 48), .inl (cy 0, 40, .inl (fun _ => 0))), ((q 51), .inl (cy 0, 40, .inl (fun _ => 0)))] H := hP
  have hD : va_D A [((q 0), .inr (11, (mO q 0 0 0 0 0 0 0 0 (-1) 1 0 0 0 0 0 0 0 0 0))), ((q 37), .inl (cy 1, 96, .inl (fun _ => 1))), ((q 41), .inl (cy 0, 40, .inl (fun _ => 0))), ((q 42), .inl (cy 0, 40, .inl (fun _ => 0))), ((q 43), .inl (cy 0, 40, .inl (fun _ => 0))), ((q 44), .inl (cy 0, 40, .inl (fun _ => 0))), ((q 45), .inl (cy 0, 40, .inl (fun _ => 0))), ((q 46), .inl (cy 0, 40, .inl (fun _ => 0))), ((q 47), .inl (cy 0, 40, .inl (fun _ => 0))), ((q 48), .inl (cy 0, 40, .inl (fun _ => 0))), ((q 51), .inl (cy 0, 40, .inl (fun _ => 0)))] := hD
  rcases w479 with ⟨rfl, w479_0_0⟩ | ⟨rfl, w479_1_0⟩
  · refine lv_aload_n S.1 S.2.1 dL_law_482 rfl (lv_at hl 2 rfl) ?_
    refine lv_aload_n S.1 S.2.1 dL_law_483 rfl (lv_at hl 4 rfl) ?_
    refine lv_iload S.1 S.2.1 dL_law_484 (lv_at hl 0 rfl) ?_
    refine lv_iconst (v := 1) S.1 S.2.1 dL_law_486 (by decide) ?_
    refine r_iadd S dL_law_487 (v := 1) (by decide) ?_
    refine r_sld S hX hbl hbA hS 1 (by decide) (by decide) (by decide) (v := p1) e1 dL_law_488 ?_
    refine lv_aload_n S.1 S.2.1 dL_law_489 rfl (lv_at hl 4 rfl) ?_
    refine lv_iload S.1 S.2.1 dL_law_490 (lv_at hl 0 rfl) ?_
    refine lv_iconst (v := 2) S.1 S.2.1 dL_law_492 (by decide) ?_
    refine r_iadd S dL_law_493 (v := 2) (by decide) ?_
    refine r_sld S hX hbl hbA hS 2 (by decide) (by decide) (by decide) (v := p2) e2 dL_law_494 ?_
    refine lv_aload_n S.1 S.2.1 dL_law_495 rfl (lv_at hl 4 rfl) ?_
    refine lv_iload S.1 S.2.1 dL_law_496 (lv_at hl 0 rfl) ?_
    refine lv_iconst (v := 3) S.1 S.2.1 dL_law_498 (by decide) ?_
    refine r_iadd S dL_law_499 (v := 3) (by decide) ?_
    refine r_sld S hX hbl hbA hS 3 (by decide) (by decide) (by decide) (v := p3) e3 dL_law_500 ?_
    refine lv_aload_n S.1 S.2.1 dL_law_501 rfl (lv_at hl 4 rfl) ?_
    refine lv_iload S.1 S.2.1 dL_law_502 (lv_at hl 0 rfl) ?_
    refine lv_iconst (v := 4) S.1 S.2.1 dL_law_504 (by decide) ?_
    refine r_iadd S dL_law_505 (v := 4) (by decide) ?_
    refine r_sld S hX hbl hbA hS 4 (by decide) (by decide) (by decide) (v := p4) e4 dL_law_506 ?_
    refine lv_aload_n S.1 S.2.1 dL_law_507 rfl (lv_at hl 4 rfl) ?_
    refine lv_iload S.1 S.2.1 dL_law_508 (lv_at hl 0 rfl) ?_
    refine lv_iconst (v := 5) S.1 S.2.1 dL_law_510 (by decide) ?_
    refine r_iadd S dL_law_511 (v := 5) (by decide) ?_
    refine r_sld S hX hbl hbA hS 5 (by decide) (by decide) (by decide) (v := p5) e5 dL_law_512 ?_
    refine lv_aload_n S.1 S.2.1 dL_law_513 rfl (lv_at hl 4 rfl) ?_
    refine lv_iload S.1 S.2.1 dL_law_514 (lv_at hl 0 rfl) ?_
    refine lv_bipush (v := 6) S.1 S.2.1 dL_law_516 (by decide) ?_
    refine r_iadd S dL_law_518 (v := 6) (by decide) ?_
    refine r_sld S hX hbl hbA hS 6 (by decide) (by decide) (by decide) (v := p6) e6 dL_law_519 ?_
    refine call_i (wr := []) (runV_C (wc := [((q 0), .inr (11, (mO q 0 0 0 0 0 0 0 0 (-1) 1 0 0 0 0 0 0 0 0 0))), ((q 37), .inl (cy 1, 96, .inl (fun _ => 1))), ((q 41), .inl (cy 0, 40, .inl (fun _ => 0))), ((q 42), .inl (cy 0, 40, .inl (fun _ => 0))), ((q 43), .inl (cy 0, 40, .inl (fun _ => 0))), ((q 44), .inl (cy 0, 40, .inl (fun _ => 0))), ((q 45), .inl (cy 0, 40, .inl (fun _ => 0))), ((q 46), .inl (cy 0, 40, .inl (fun _ => 0))), ((q 47), .inl (cy 0, 40, .inl (fun _ => 0))), ((q 48), .inl (cy 0, 40, .inl (fun _ => 0))), ((q 51), .inl (cy 0, 40, .inl (fun _ => 0)))]) (As := [.int p1, .int p2, .int p3, .int p4, .int p5, .int p6]) (rest := [.int 0]) S (kX12_sight l D cy q p1 p2 p3 p4 p5 p6 z1 h1 z2 h2 z3 h3 z4 h4 z5 h5 z6 h6) hK hP hD [0, 1, 2, 3, 4, 5, 6, 7, 8, 9, 10] (by decide) rfl 0 11 rfl rfl kw_1914 kw_1915 kw_1916 kw_152 kw_1917 okX12_sight rfl (by decide) hl.1 rfl (Nat.le_of_ble_eq_true rfl) dL_law_520 (by decide)) hP hD hS hA [0, 1, 2, 3, 4, 5, 6, 7, 8, 9, 10] [] rfl rfl (by decide) (by decide) (fun v520 u520 H locs w520 hP hD hS => ?_)
    have hP : va_P D vwCl [] H := hP
    have hD : va_D A [] := hD
    rcases w520 with ⟨rfl, w520_0_0⟩ | ⟨rfl, w520_1_0⟩
    · refine r_icmp_eq S 0 0 rfl rfl dL_law_523 (tgt := 2008) (by decide) (fun _ => ?_) (fun c => absurd c (by decide))
      exact law_on S hr hlk hX hbl hbA hA2 hS (lv_sub hl [0, 4] rfl) (by decide) (by decide)
    · exfalso; omega
  · refine lv_aload_n S.1 S.2.1 dL_law_482 rfl (lv_at hl 2 rfl) ?_
    refine lv_aload_n S.1 S.2.1 dL_law_483 rfl (lv_at hl 4 rfl) ?_
    refine lv_iload S.1 S.2.1 dL_law_484 (lv_at hl 0 rfl) ?_
    refine lv_iconst (v := 1) S.1 S.2.1 dL_law_486 (by decide) ?_
    refine r_iadd S dL_law_487 (v := 1) (by decide) ?_
    refine r_sld S hX hbl hbA hS 1 (by decide) (by decide) (by decide) (v := p1) e1 dL_law_488 ?_
    refine lv_aload_n S.1 S.2.1 dL_law_489 rfl (lv_at hl 4 rfl) ?_
    refine lv_iload S.1 S.2.1 dL_law_490 (lv_at hl 0 rfl) ?_
    refine lv_iconst (v := 2) S.1 S.2.1 dL_law_492 (by decide) ?_
    refine r_iadd S dL_law_493 (v := 2) (by decide) ?_
    refine r_sld S hX hbl hbA hS 2 (by decide) (by decide) (by decide) (v := p2) e2 dL_law_494 ?_
    refine lv_aload_n S.1 S.2.1 dL_law_495 rfl (lv_at hl 4 rfl) ?_
    refine lv_iload S.1 S.2.1 dL_law_496 (lv_at hl 0 rfl) ?_
    refine lv_iconst (v := 3) S.1 S.2.1 dL_law_498 (by decide) ?_
    refine r_iadd S dL_law_499 (v := 3) (by decide) ?_
    refine r_sld S hX hbl hbA hS 3 (by decide) (by decide) (by decide) (v := p3) e3 dL_law_500 ?_
    refine lv_aload_n S.1 S.2.1 dL_law_501 rfl (lv_at hl 4 rfl) ?_
    refine lv_iload S.1 S.2.1 dL_law_502 (lv_at hl 0 rfl) ?_
    refine lv_iconst (v := 4) S.1 S.2.1 dL_law_504 (by decide) ?_
    refine r_iadd S dL_law_505 (v := 4) (by decide) ?_
    refine r_sld S hX hbl hbA hS 4 (by decide) (by decide) (by decide) (v := p4) e4 dL_law_506 ?_
    refine lv_aload_n S.1 S.2.1 dL_law_507 rfl (lv_at hl 4 rfl) ?_
    refine lv_iload S.1 S.2.1 dL_law_508 (lv_at hl 0 rfl) ?_
    refine lv_iconst (v := 5) S.1 S.2.1 dL_law_510 (by decide) ?_
    refine r_iadd S dL_law_511 (v := 5) (by decide) ?_
    refine r_sld S hX hbl hbA hS 5 (by decide) (by decide) (by decide) (v := p5) e5 dL_law_512 ?_
    refine lv_aload_n S.1 S.2.1 dL_law_513 rfl (lv_at hl 4 rfl) ?_
    refine lv_iload S.1 S.2.1 dL_law_514 (lv_at hl 0 rfl) ?_
    refine lv_bipush (v := 6) S.1 S.2.1 dL_law_516 (by decide) ?_
    refine r_iadd S dL_law_518 (v := 6) (by decide) ?_
    refine r_sld S hX hbl hbA hS 6 (by decide) (by decide) (by decide) (v := p6) e6 dL_law_519 ?_
    refine call_i (wr := []) (runV_C (wc := [((q 0), .inr (11, (mO q 0 0 0 0 0 0 0 0 (-1) 1 0 0 0 0 0 0 0 0 0))), ((q 37), .inl (cy 1, 96, .inl (fun _ => 1))), ((q 41), .inl (cy 0, 40, .inl (fun _ => 0))), ((q 42), .inl (cy 0, 40, .inl (fun _ => 0))), ((q 43), .inl (cy 0, 40, .inl (fun _ => 0))), ((q 44), .inl (cy 0, 40, .inl (fun _ => 0))), ((q 45), .inl (cy 0, 40, .inl (fun _ => 0))), ((q 46), .inl (cy 0, 40, .inl (fun _ => 0))), ((q 47), .inl (cy 0, 40, .inl (fun _ => 0))), ((q 48), .inl (cy 0, 40, .inl (fun _ => 0))), ((q 51), .inl (cy 0, 40, .inl (fun _ => 0)))]) (As := [.int p1, .int p2, .int p3, .int p4, .int p5, .int p6]) (rest := [.int (-1)]) S (kX12_sight l D cy q p1 p2 p3 p4 p5 p6 z1 h1 z2 h2 z3 h3 z4 h4 z5 h5 z6 h6) hK hP hD [0, 1, 2, 3, 4, 5, 6, 7, 8, 9, 10] (by decide) rfl 0 11 rfl rfl kw_1914 kw_1915 kw_1916 kw_152 kw_1917 okX12_sight rfl (by decide) hl.1 rfl (Nat.le_of_ble_eq_true rfl) dL_law_520 (by decide)) hP hD hS hA [0, 1, 2, 3, 4, 5, 6, 7, 8, 9, 10] [] rfl rfl (by decide) (by decide) (fun v520 u520 H locs w520 hP hD hS => ?_)
    have hP : va_P D vwCl [] H := hP
    have hD : va_D A [] := hD
    rcases w520 with ⟨rfl, w520_0_0⟩ | ⟨rfl, w520_1_0⟩
    · exfalso; omega
    · refine r_icmp_eq S (-1) (-1) rfl rfl dL_law_523 (tgt := 2008) (by decide) (fun _ => ?_) (fun c => absurd c (by decide))
      exact law_on S hr hlk hX hbl hbA hA2 hS (lv_sub hl [0, 4] rfl) (by decide) (by decide)
set_option maxHeartbeats 4000000 in
set_option maxRecDepth 100000 in
theorem law_c6 (l : Launch) (hst : l.stackTraces = false) {p : Program} {e : Env} {s : State} {m : MethodId} {below : List Frame} {meth : Method} {c : Code} {H : Heap} {locs : List Loc} {ls : Array Slot} {D : va_G} {cy : Nat → ClassId} {b : Nat} {xs : Nat → Int32} {A : Nat → Prop} {x q : Nat → Nat} {o : Nat} (S : CallFix p m c cL_law 7 s #[Value.ref b] uu "LandSurveyLaw") (hr : meth.sig.returnType = ret) (hlk : meth.locks = false) (hX : va_X b 8 xs s s.heap) (hbl : b < s.heap.size) (hbA : ¬ A b) (hA : ∀ q : Nat, s.heap.size ≤ q → A q) (hA2 : ∀ q : Nat, A q → s.heap.size ≤ q) (hK : KX D cy s) (hE : Ey s) (hZ : Zs A s s.heap) (hP : va_P D vwCl [((x 0), .inr (10, [.int 0, .int (-1), .ref (x 1), .ref (x 9), .int 0, .ref (x 10), .ref (x 13), .ref (x 16), .ref (x 29), .int 0, .int 0, .ref (x 30), .int 0, .ref (x 31), .ref (x 42), .int 0, .int 0, .null, .ref (x 43)])), ((q 0), .inr (11, (mO q 0 0 0 0 0 0 0 0 (-1) 1 0 0 0 0 0 0 0 0 0)))] H) (hD : va_D A [((x 0), .inr (10, [.int 0, .int (-1), .ref (x 1), .ref (x 9), .int 0, .ref (x 10), .ref (x 13), .ref (x 16), .ref (x 29), .int 0, .int 0, .ref (x 30), .int 0, .ref (x 31), .ref (x 42), .int 0, .int 0, .null, .ref (x 43)])), ((q 0), .inr (11, (mO q 0 0 0 0 0 0 0 0 (-1) 1 0 0 0 0 0 0 0 0 0)))]) (hS : va_S A s.heap H locs) (hl : lv_has ls 7 [(4, .int 0), (3, .ref o), (2, .ref (q 0)), (1, .ref (x 0)), (0, .ref b)]) : W p l e room_1 s m #[Value.ref b] below meth c H locs 114 51906 (lw_Z below #[Value.ref b] s) (F0 m 528 ls []) := by
  obtain ⟨p1, e1⟩ : ∃ y, xs 1 = y := ⟨_, rfl⟩
  obtain ⟨z1, h1⟩ : ∃ z, p1.toInt = z := ⟨_, rfl⟩
  obtain ⟨p2, e2⟩ : ∃ y, xs 2 = y := ⟨_, rfl⟩
  obtain ⟨z2, h2⟩ : ∃ z, p2.toInt = z := ⟨_, rfl⟩
  obtain ⟨p3, e3⟩ : ∃ y, xs 3 = y := ⟨_, rfl⟩
  obtain ⟨z3, h3⟩ : ∃ z, p3.toInt = z := ⟨_, rfl⟩
  obtain ⟨p4, e4⟩ : ∃ y, xs 4 = y := ⟨_, rfl⟩
  obtain ⟨z4, h4⟩ : ∃ z, p4.toInt = z := ⟨_, rfl⟩
  obtain ⟨p5, e5⟩ : ∃ y, xs 5 = y := ⟨_, rfl⟩
  obtain ⟨z5, h5⟩ : ∃ z, p5.toInt = z := ⟨_, rfl⟩
  obtain ⟨p6, e6⟩ : ∃ y, xs 6 = y := ⟨_, rfl⟩
  obtain ⟨z6, h6⟩ : ∃ z, p6.toInt = z := ⟨_, rfl⟩
  obtain ⟨p7, e7⟩ : ∃ y, xs 7 = y := ⟨_, rfl⟩
  obtain ⟨z7, h7⟩ : ∃ z, p7.toInt = z := ⟨_, rfl⟩
  refine lv_aload_n S.1 S.2.1 dL_law_528 rfl (lv_at hl 3 rfl) ?_
  refine lv_aload_n S.1 S.2.1 dL_law_529 rfl (lv_at hl 4 rfl) ?_
  refine lv_iload S.1 S.2.1 dL_law_530 (lv_at hl 0 rfl) ?_
  refine lv_iconst (v := 1) S.1 S.2.1 dL_law_532 (by decide) ?_
  refine r_iadd S dL_law_533 (v := 1) (by decide) ?_
  refine r_sld S hX hbl hbA hS 1 (by decide) (by decide) (by decide) (v := p1) e1 dL_law_534 ?_
  refine lv_aload_n S.1 S.2.1 dL_law_535 rfl (lv_at hl 4 rfl) ?_
  refine lv_iload S.1 S.2.1 dL_law_536 (lv_at hl 0 rfl) ?_
  refine lv_iconst (v := 2) S.1 S.2.1 dL_law_538 (by decide) ?_
  refine r_iadd S dL_law_539 (v := 2) (by decide) ?_
  refine r_sld S hX hbl hbA hS 2 (by decide) (by decide) (by decide) (v := p2) e2 dL_law_540 ?_
  refine lv_aload_n S.1 S.2.1 dL_law_541 rfl (lv_at hl 4 rfl) ?_
  refine lv_iload S.1 S.2.1 dL_law_542 (lv_at hl 0 rfl) ?_
  refine lv_iconst (v := 3) S.1 S.2.1 dL_law_544 (by decide) ?_
  refine r_iadd S dL_law_545 (v := 3) (by decide) ?_
  refine r_sld S hX hbl hbA hS 3 (by decide) (by decide) (by decide) (v := p3) e3 dL_law_546 ?_
  refine lv_aload_n S.1 S.2.1 dL_law_547 rfl (lv_at hl 4 rfl) ?_
  refine lv_iload S.1 S.2.1 dL_law_548 (lv_at hl 0 rfl) ?_
  refine lv_iconst (v := 4) S.1 S.2.1 dL_law_550 (by decide) ?_
  refine r_iadd S dL_law_551 (v := 4) (by decide) ?_
  refine r_sld S hX hbl hbA hS 4 (by decide) (by decide) (by decide) (v := p4) e4 dL_law_552 ?_
  refine call_i (wr := [((q 0), .inr (11, (mO q 0 0 0 0 0 0 0 0 (-1) 1 0 0 0 0 0 0 0 0 0)))]) (runV_C (wc := [((x 0), .inr (10, [.int 0, .int (-1), .ref (x 1), .ref (x 9), .int 0, .ref (x 10), .ref (x 13), .ref (x 16), .ref (x 29), .int 0, .int 0, .ref (x 30), .int 0, .ref (x 31), .ref (x 42), .int 0, .int 0, .null, .ref (x 43)]))]) (As := [.int p1, .int p2, .int p3, .int p4]) (rest := []) S (kX11_dip l D cy x p1 p2 p3 p4 z1 h1 z2 h2 z3 h3 z4 h4) hK hP hD [0] (by decide) rfl 0 10 rfl rfl kw_636 kw_637 kw_638 kw_144 kw_639 okX11_dip rfl (by decide) hl.1 rfl (Nat.le_of_ble_eq_true rfl) dL_law_553 (by decide)) hP hD hS hA [0] [1] rfl rfl (by decide) (by decide) (fun v553 u553 H locs w553 hP hD hS => ?_)
  have hP : va_P D vwCl [((q 0), .inr (11, (mO q 0 0 0 0 0 0 0 0 (-1) 1 0 0 0 0 0 0 0 0 0)))] H := hP
  have hD : va_D A [((q 0), .inr (11, (mO q 0 0 0 0 0 0 0 0 (-1) 1 0 0 0 0 0 0 0 0 0)))] := hD
  subst w553
  refine lv_aload_n S.1 S.2.1 dL_law_556 rfl (lv_at hl 2 rfl) ?_
  refine lv_aload_n S.1 S.2.1 dL_law_557 rfl (lv_at hl 4 rfl) ?_
  refine lv_iload S.1 S.2.1 dL_law_558 (lv_at hl 0 rfl) ?_
  refine lv_iconst (v := 1) S.1 S.2.1 dL_law_560 (by decide) ?_
  refine r_iadd S dL_law_561 (v := 1) (by decide) ?_
  refine r_sld S hX hbl hbA hS 1 (by decide) (by decide) (by decide) (v := p1) e1 dL_law_562 ?_
  refine lv_aload_n S.1 S.2.1 dL_law_563 rfl (lv_at hl 4 rfl) ?_
  refine lv_iload S.1 S.2.1 dL_law_564 (lv_at hl 0 rfl) ?_
  refine lv_iconst (v := 2) S.1 S.2.1 dL_law_566 (by decide) ?_
  refine r_iadd S dL_law_567 (v := 2) (by decide) ?_
  refine r_sld S hX hbl hbA hS 2 (by decide) (by decide) (by decide) (v := p2) e2 dL_law_568 ?_
  refine lv_aload_n S.1 S.2.1 dL_law_569 rfl (lv_at hl 4 rfl) ?_
  refine lv_iload S.1 S.2.1 dL_law_570 (lv_at hl 0 rfl) ?_
  refine lv_iconst (v := 3) S.1 S.2.1 dL_law_572 (by decide) ?_
  refine r_iadd S dL_law_573 (v := 3) (by decide) ?_
  refine r_sld S hX hbl hbA hS 3 (by decide) (by decide) (by decide) (v := p3) e3 dL_law_574 ?_
  refine lv_aload_n S.1 S.2.1 dL_law_575 rfl (lv_at hl 4 rfl) ?_
  refine lv_iload S.1 S.2.1 dL_law_576 (lv_at hl 0 rfl) ?_
  refine lv_iconst (v := 4) S.1 S.2.1 dL_law_578 (by decide) ?_
  refine r_iadd S dL_law_579 (v := 4) (by decide) ?_
  refine r_sld S hX hbl hbA hS 4 (by decide) (by decide) (by decide) (v := p4) e4 dL_law_580 ?_
  refine call_i (wr := []) (runV_C (wc := [((q 0), .inr (11, (mO q 0 0 0 0 0 0 0 0 (-1) 1 0 0 0 0 0 0 0 0 0)))]) (As := [.int p1, .int p2, .int p3, .int p4]) (rest := [.int 0]) S (kX12_dip l D cy q p1 p2 p3 p4 z1 h1 z2 h2 z3 h3 z4 h4) hK hP hD [0] (by decide) rfl 0 11 rfl rfl kw_1918 kw_1919 kw_1920 kw_152 kw_1921 okX12_dip rfl (by decide) hl.1 rfl (Nat.le_of_ble_eq_true rfl) dL_law_581 (by decide)) hP hD hS hA [0] [] rfl rfl (by decide) (by decide) (fun v581 u581 H locs w581 hP hD hS => ?_)
  have hP : va_P D vwCl [] H := hP
  have hD : va_D A [] := hD
  subst w581
  refine r_icmp_eq S 0 0 rfl rfl dL_law_584 (tgt := 2008) (by decide) (fun _ => ?_) (fun c => absurd c (by decide))
  exact law_on S hr hlk hX hbl hbA hA2 hS (lv_sub hl [0, 4] rfl) (by decide) (by decide)
set_option maxHeartbeats 4000000 in
set_option maxRecDepth 100000 in
theorem law_c7 (l : Launch) (hst : l.stackTraces = false) {p : Program} {e : Env} {s : State} {m : MethodId} {below : List Frame} {meth : Method} {c : Code} {H : Heap} {locs : List Loc} {ls : Array Slot} {D : va_G} {cy : Nat → ClassId} {b : Nat} {xs : Nat → Int32} {A : Nat → Prop} {x q : Nat → Nat} {o : Nat} (S : CallFix p m c cL_law 7 s #[Value.ref b] uu "LandSurveyLaw") (hr : meth.sig.returnType = ret) (hlk : meth.locks = false) (hX : va_X b 8 xs s s.heap) (hbl : b < s.heap.size) (hbA : ¬ A b) (hA : ∀ q : Nat, s.heap.size ≤ q → A q) (hA2 : ∀ q : Nat, A q → s.heap.size ≤ q) (hK : KX D cy s) (hE : Ey s) (hZ : Zs A s s.heap) (hP : va_P D vwCl [((x 0), .inr (10, [.int 0, .int (-1), .ref (x 1), .ref (x 9), .int 0, .ref (x 10), .ref (x 13), .ref (x 16), .ref (x 29), .int 0, .int 0, .ref (x 30), .int 0, .ref (x 31), .ref (x 42), .int 0, .int 0, .null, .ref (x 43)])), ((q 0), .inr (11, (mO q 0 0 0 0 0 0 0 0 (-1) 1 0 0 0 0 0 0 0 0 0)))] H) (hD : va_D A [((x 0), .inr (10, [.int 0, .int (-1), .ref (x 1), .ref (x 9), .int 0, .ref (x 10), .ref (x 13), .ref (x 16), .ref (x 29), .int 0, .int 0, .ref (x 30), .int 0, .ref (x 31), .ref (x 42), .int 0, .int 0, .null, .ref (x 43)])), ((q 0), .inr (11, (mO q 0 0 0 0 0 0 0 0 (-1) 1 0 0 0 0 0 0 0 0 0)))]) (hS : va_S A s.heap H locs) (hl : lv_has ls 7 [(4, .int 0), (3, .ref o), (2, .ref (q 0)), (1, .ref (x 0)), (0, .ref b)]) : W p l e room_1 s m #[Value.ref b] below meth c H locs 114 51906 (lw_Z below #[Value.ref b] s) (F0 m 589 ls []) := by
  obtain ⟨p1, e1⟩ : ∃ y, xs 1 = y := ⟨_, rfl⟩
  obtain ⟨z1, h1⟩ : ∃ z, p1.toInt = z := ⟨_, rfl⟩
  obtain ⟨p2, e2⟩ : ∃ y, xs 2 = y := ⟨_, rfl⟩
  obtain ⟨z2, h2⟩ : ∃ z, p2.toInt = z := ⟨_, rfl⟩
  obtain ⟨p3, e3⟩ : ∃ y, xs 3 = y := ⟨_, rfl⟩
  obtain ⟨z3, h3⟩ : ∃ z, p3.toInt = z := ⟨_, rfl⟩
  obtain ⟨p4, e4⟩ : ∃ y, xs 4 = y := ⟨_, rfl⟩
  obtain ⟨z4, h4⟩ : ∃ z, p4.toInt = z := ⟨_, rfl⟩
  obtain ⟨p5, e5⟩ : ∃ y, xs 5 = y := ⟨_, rfl⟩
  obtain ⟨z5, h5⟩ : ∃ z, p5.toInt = z := ⟨_, rfl⟩
  obtain ⟨p6, e6⟩ : ∃ y, xs 6 = y := ⟨_, rfl⟩
  obtain ⟨z6, h6⟩ : ∃ z, p6.toInt = z := ⟨_, rfl⟩
  obtain ⟨p7, e7⟩ : ∃ y, xs 7 = y := ⟨_, rfl⟩
  obtain ⟨z7, h7⟩ : ∃ z, p7.toInt = z := ⟨_, rfl⟩
  refine lv_aload_n S.1 S.2.1 dL_law_589 rfl (lv_at hl 3 rfl) ?_
  refine lv_aload_n S.1 S.2.1 dL_law_590 rfl (lv_at hl 4 rfl) ?_
  refine lv_iload S.1 S.2.1 dL_law_591 (lv_at hl 0 rfl) ?_
  refine lv_iconst (v := 1) S.1 S.2.1 dL_law_593 (by decide) ?_
  refine r_iadd S dL_law_594 (v := 1) (by decide) ?_
  refine r_sld S hX hbl hbA hS 1 (by decide) (by decide) (by decide) (v := p1) e1 dL_law_595 ?_
  refine lv_aload_n S.1 S.2.1 dL_law_596 rfl (lv_at hl 4 rfl) ?_
  refine lv_iload S.1 S.2.1 dL_law_597 (lv_at hl 0 rfl) ?_
  refine lv_iconst (v := 2) S.1 S.2.1 dL_law_599 (by decide) ?_
  refine r_iadd S dL_law_600 (v := 2) (by decide) ?_
  refine r_sld S hX hbl hbA hS 2 (by decide) (by decide) (by decide) (v := p2) e2 dL_law_601 ?_
  refine lv_aload_n S.1 S.2.1 dL_law_602 rfl (lv_at hl 4 rfl) ?_
  refine lv_iload S.1 S.2.1 dL_law_603 (lv_at hl 0 rfl) ?_
  refine lv_iconst (v := 3) S.1 S.2.1 dL_law_605 (by decide) ?_
  refine r_iadd S dL_law_606 (v := 3) (by decide) ?_
  refine r_sld S hX hbl hbA hS 3 (by decide) (by decide) (by decide) (v := p3) e3 dL_law_607 ?_
  refine r_if_eq S z3 h3 dL_law_608 (tgt := 615) (by decide) (fun e_608_1 => ?_) (fun e_608_1 => ?_)
  · refine lv_iconst (v := 0) S.1 S.2.1 dL_law_615 (by decide) ?_
    refine call_i (wr := [((q 0), .inr (11, (mO q 0 0 0 0 0 0 0 0 (-1) 1 0 0 0 0 0 0 0 0 0)))]) (runV_C (wc := [((x 0), .inr (10, [.int 0, .int (-1), .ref (x 1), .ref (x 9), .int 0, .ref (x 10), .ref (x 13), .ref (x 16), .ref (x 29), .int 0, .int 0, .ref (x 30), .int 0, .ref (x 31), .ref (x 42), .int 0, .int 0, .null, .ref (x 43)]))]) (As := [.int p1, .int p2, .int 0]) (rest := []) S (kX11_remain l D cy x p1 p2 0 z1 h1 z2 h2 0 rfl) hK hP hD [0] (by decide) rfl 0 10 rfl rfl kw_647 kw_648 kw_649 kw_144 kw_650 okX11_remain rfl (by decide) hl.1 rfl (Nat.le_of_ble_eq_true rfl) dL_law_616 (by decide)) hP hD hS hA [0] [1] rfl rfl (by decide) (by decide) (fun v616 u616 H locs w616 hP hD hS => ?_)
    have hP : va_P D vwCl [((q 0), .inr (11, (mO q 0 0 0 0 0 0 0 0 (-1) 1 0 0 0 0 0 0 0 0 0)))] H := hP
    have hD : va_D A [((q 0), .inr (11, (mO q 0 0 0 0 0 0 0 0 (-1) 1 0 0 0 0 0 0 0 0 0)))] := hD
    subst w616
    refine lv_aload_n S.1 S.2.1 dL_law_619 rfl (lv_at hl 2 rfl) ?_
    refine lv_aload_n S.1 S.2.1 dL_law_620 rfl (lv_at hl 4 rfl) ?_
    refine lv_iload S.1 S.2.1 dL_law_621 (lv_at hl 0 rfl) ?_
    refine lv_iconst (v := 1) S.1 S.2.1 dL_law_623 (by decide) ?_
    refine r_iadd S dL_law_624 (v := 1) (by decide) ?_
    refine r_sld S hX hbl hbA hS 1 (by decide) (by decide) (by decide) (v := p1) e1 dL_law_625 ?_
    refine lv_aload_n S.1 S.2.1 dL_law_626 rfl (lv_at hl 4 rfl) ?_
    refine lv_iload S.1 S.2.1 dL_law_627 (lv_at hl 0 rfl) ?_
    refine lv_iconst (v := 2) S.1 S.2.1 dL_law_629 (by decide) ?_
    refine r_iadd S dL_law_630 (v := 2) (by decide) ?_
    refine r_sld S hX hbl hbA hS 2 (by decide) (by decide) (by decide) (v := p2) e2 dL_law_631 ?_
    refine lv_aload_n S.1 S.2.1 dL_law_632 rfl (lv_at hl 4 rfl) ?_
    refine lv_iload S.1 S.2.1 dL_law_633 (lv_at hl 0 rfl) ?_
    refine lv_iconst (v := 3) S.1 S.2.1 dL_law_635 (by decide) ?_
    refine r_iadd S dL_law_636 (v := 3) (by decide) ?_
    refine r_sld S hX hbl hbA hS 3 (by decide) (by decide) (by decide) (v := p3) e3 dL_law_637 ?_
    refine r_if_eq S z3 h3 dL_law_638 (tgt := 645) (by decide) (fun _ => ?_) (fun c => absurd c (by omega))
    refine lv_iconst (v := 0) S.1 S.2.1 dL_law_645 (by decide) ?_
    refine call_i (wr := []) (runV_C (wc := [((q 0), .inr (11, (mO q 0 0 0 0 0 0 0 0 (-1) 1 0 0 0 0 0 0 0 0 0)))]) (As := [.int p1, .int p2, .int 0]) (rest := [.int 0]) S (kX12_remain l D cy q p1 p2 0 z1 h1 z2 h2 0 rfl) hK hP hD [0] (by decide) rfl 0 11 rfl rfl kw_1926 kw_1927 kw_1928 kw_152 kw_1929 okX12_remain rfl (by decide) hl.1 rfl (Nat.le_of_ble_eq_true rfl) dL_law_646 (by decide)) hP hD hS hA [0] [] rfl rfl (by decide) (by decide) (fun v646 u646 H locs w646 hP hD hS => ?_)
    have hP : va_P D vwCl [] H := hP
    have hD : va_D A [] := hD
    subst w646
    refine r_icmp_eq S 0 0 rfl rfl dL_law_649 (tgt := 2008) (by decide) (fun _ => ?_) (fun c => absurd c (by decide))
    exact law_on S hr hlk hX hbl hbA hA2 hS (lv_sub hl [0, 4] rfl) (by decide) (by decide)
  · refine lv_iconst (v := 1) S.1 S.2.1 dL_law_611 (by decide) ?_
    refine lv_goto (tgt := 616) S.1 S.2.1 dL_law_612 (by decide) ?_
    refine call_i (wr := [((q 0), .inr (11, (mO q 0 0 0 0 0 0 0 0 (-1) 1 0 0 0 0 0 0 0 0 0)))]) (runV_C (wc := [((x 0), .inr (10, [.int 0, .int (-1), .ref (x 1), .ref (x 9), .int 0, .ref (x 10), .ref (x 13), .ref (x 16), .ref (x 29), .int 0, .int 0, .ref (x 30), .int 0, .ref (x 31), .ref (x 42), .int 0, .int 0, .null, .ref (x 43)]))]) (As := [.int p1, .int p2, .int 1]) (rest := []) S (kX11_remain l D cy x p1 p2 1 z1 h1 z2 h2 1 rfl) hK hP hD [0] (by decide) rfl 0 10 rfl rfl kw_647 kw_648 kw_649 kw_144 kw_650 okX11_remain rfl (by decide) hl.1 rfl (Nat.le_of_ble_eq_true rfl) dL_law_616 (by decide)) hP hD hS hA [0] [1] rfl rfl (by decide) (by decide) (fun v616 u616 H locs w616 hP hD hS => ?_)
    have hP : va_P D vwCl [((q 0), .inr (11, (mO q 0 0 0 0 0 0 0 0 (-1) 1 0 0 0 0 0 0 0 0 0)))] H := hP
    have hD : va_D A [((q 0), .inr (11, (mO q 0 0 0 0 0 0 0 0 (-1) 1 0 0 0 0 0 0 0 0 0)))] := hD
    subst w616
    refine lv_aload_n S.1 S.2.1 dL_law_619 rfl (lv_at hl 2 rfl) ?_
    refine lv_aload_n S.1 S.2.1 dL_law_620 rfl (lv_at hl 4 rfl) ?_
    refine lv_iload S.1 S.2.1 dL_law_621 (lv_at hl 0 rfl) ?_
    refine lv_iconst (v := 1) S.1 S.2.1 dL_law_623 (by decide) ?_
    refine r_iadd S dL_law_624 (v := 1) (by decide) ?_
    refine r_sld S hX hbl hbA hS 1 (by decide) (by decide) (by decide) (v := p1) e1 dL_law_625 ?_
    refine lv_aload_n S.1 S.2.1 dL_law_626 rfl (lv_at hl 4 rfl) ?_
    refine lv_iload S.1 S.2.1 dL_law_627 (lv_at hl 0 rfl) ?_
    refine lv_iconst (v := 2) S.1 S.2.1 dL_law_629 (by decide) ?_
    refine r_iadd S dL_law_630 (v := 2) (by decide) ?_
    refine r_sld S hX hbl hbA hS 2 (by decide) (by decide) (by decide) (v := p2) e2 dL_law_631 ?_
    refine lv_aload_n S.1 S.2.1 dL_law_632 rfl (lv_at hl 4 rfl) ?_
    refine lv_iload S.1 S.2.1 dL_law_633 (lv_at hl 0 rfl) ?_
    refine lv_iconst (v := 3) S.1 S.2.1 dL_law_635 (by decide) ?_
    refine r_iadd S dL_law_636 (v := 3) (by decide) ?_
    refine r_sld S hX hbl hbA hS 3 (by decide) (by decide) (by decide) (v := p3) e3 dL_law_637 ?_
    refine r_if_eq S z3 h3 dL_law_638 (tgt := 645) (by decide) (fun c => absurd c (by omega)) (fun _ => ?_)
    refine lv_iconst (v := 1) S.1 S.2.1 dL_law_641 (by decide) ?_
    refine lv_goto (tgt := 646) S.1 S.2.1 dL_law_642 (by decide) ?_
    refine call_i (wr := []) (runV_C (wc := [((q 0), .inr (11, (mO q 0 0 0 0 0 0 0 0 (-1) 1 0 0 0 0 0 0 0 0 0)))]) (As := [.int p1, .int p2, .int 1]) (rest := [.int 0]) S (kX12_remain l D cy q p1 p2 1 z1 h1 z2 h2 1 rfl) hK hP hD [0] (by decide) rfl 0 11 rfl rfl kw_1926 kw_1927 kw_1928 kw_152 kw_1929 okX12_remain rfl (by decide) hl.1 rfl (Nat.le_of_ble_eq_true rfl) dL_law_646 (by decide)) hP hD hS hA [0] [] rfl rfl (by decide) (by decide) (fun v646 u646 H locs w646 hP hD hS => ?_)
    have hP : va_P D vwCl [] H := hP
    have hD : va_D A [] := hD
    subst w646
    refine r_icmp_eq S 0 0 rfl rfl dL_law_649 (tgt := 2008) (by decide) (fun _ => ?_) (fun c => absurd c (by decide))
    exact law_on S hr hlk hX hbl hbA hA2 hS (lv_sub hl [0, 4] rfl) (by decide) (by decide)
set_option maxHeartbeats 4000000 in
set_option maxRecDepth 100000 in
theorem law_c8 (l : Launch) (hst : l.stackTraces = false) {p : Program} {e : Env} {s : State} {m : MethodId} {below : List Frame} {meth : Method} {c : Code} {H : Heap} {locs : List Loc} {ls : Array Slot} {D : va_G} {cy : Nat → ClassId} {b : Nat} {xs : Nat → Int32} {A : Nat → Prop} {x q : Nat → Nat} {o : Nat} (S : CallFix p m c cL_law 7 s #[Value.ref b] uu "LandSurveyLaw") (hr : meth.sig.returnType = ret) (hlk : meth.locks = false) (hX : va_X b 8 xs s s.heap) (hbl : b < s.heap.size) (hbA : ¬ A b) (hA : ∀ q : Nat, s.heap.size ≤ q → A q) (hA2 : ∀ q : Nat, A q → s.heap.size ≤ q) (hK : KX D cy s) (hE : Ey s) (hZ : Zs A s s.heap) (hP : va_P D vwCl [((x 0), .inr (10, [.int 0, .int (-1), .ref (x 1), .ref (x 9), .int 0, .ref (x 10), .ref (x 13), .ref (x 16), .ref (x 29), .int 0, .int 0, .ref (x 30), .int 0, .ref (x 31), .ref (x 42), .int 0, .int 0, .null, .ref (x 43)])), ((q 0), .inr (11, (mO q 0 0 0 0 0 0 0 0 (-1) 1 0 0 0 0 0 0 0 0 0)))] H) (hD : va_D A [((x 0), .inr (10, [.int 0, .int (-1), .ref (x 1), .ref (x 9), .int 0, .ref (x 10), .ref (x 13), .ref (x 16), .ref (x 29), .int 0, .int 0, .ref (x 30), .int 0, .ref (x 31), .ref (x 42), .int 0, .int 0, .null, .ref (x 43)])), ((q 0), .inr (11, (mO q 0 0 0 0 0 0 0 0 (-1) 1 0 0 0 0 0 0 0 0 0)))]) (hS : va_S A s.heap H locs) (hl : lv_has ls 7 [(4, .int 0), (3, .ref o), (2, .ref (q 0)), (1, .ref (x 0)), (0, .ref b)]) : W p l e room_1 s m #[Value.ref b] below meth c H locs 114 51906 (lw_Z below #[Value.ref b] s) (F0 m 654 ls []) := by
  obtain ⟨p1, e1⟩ : ∃ y, xs 1 = y := ⟨_, rfl⟩
  obtain ⟨z1, h1⟩ : ∃ z, p1.toInt = z := ⟨_, rfl⟩
  obtain ⟨p2, e2⟩ : ∃ y, xs 2 = y := ⟨_, rfl⟩
  obtain ⟨z2, h2⟩ : ∃ z, p2.toInt = z := ⟨_, rfl⟩
  obtain ⟨p3, e3⟩ : ∃ y, xs 3 = y := ⟨_, rfl⟩
  obtain ⟨z3, h3⟩ : ∃ z, p3.toInt = z := ⟨_, rfl⟩
  obtain ⟨p4, e4⟩ : ∃ y, xs 4 = y := ⟨_, rfl⟩
  obtain ⟨z4, h4⟩ : ∃ z, p4.toInt = z := ⟨_, rfl⟩
  obtain ⟨p5, e5⟩ : ∃ y, xs 5 = y := ⟨_, rfl⟩
  obtain ⟨z5, h5⟩ : ∃ z, p5.toInt = z := ⟨_, rfl⟩
  obtain ⟨p6, e6⟩ : ∃ y, xs 6 = y := ⟨_, rfl⟩
  obtain ⟨z6, h6⟩ : ∃ z, p6.toInt = z := ⟨_, rfl⟩
  obtain ⟨p7, e7⟩ : ∃ y, xs 7 = y := ⟨_, rfl⟩
  obtain ⟨z7, h7⟩ : ∃ z, p7.toInt = z := ⟨_, rfl⟩
  refine lv_aload_n S.1 S.2.1 dL_law_654 rfl (lv_at hl 3 rfl) ?_
  refine lv_aload_n S.1 S.2.1 dL_law_655 rfl (lv_at hl 4 rfl) ?_
  refine lv_iload S.1 S.2.1 dL_law_656 (lv_at hl 0 rfl) ?_
  refine lv_iconst (v := 1) S.1 S.2.1 dL_law_658 (by decide) ?_
  refine r_iadd S dL_law_659 (v := 1) (by decide) ?_
  refine r_sld S hX hbl hbA hS 1 (by decide) (by decide) (by decide) (v := p1) e1 dL_law_660 ?_
  refine call_i (wr := [((q 0), .inr (11, (mO q 0 0 0 0 0 0 0 0 (-1) 1 0 0 0 0 0 0 0 0 0)))]) (runV_C (wc := [((x 0), .inr (10, [.int 0, .int (-1), .ref (x 1), .ref (x 9), .int 0, .ref (x 10), .ref (x 13), .ref (x 16), .ref (x 29), .int 0, .int 0, .ref (x 30), .int 0, .ref (x 31), .ref (x 42), .int 0, .int 0, .null, .ref (x 43)]))]) (As := [.int p1]) (rest := []) S (kX11_withdraw l D cy x p1 z1 h1) hK hP hD [0] (by decide) rfl 0 10 rfl rfl kw_651 kw_652 kw_653 kw_144 kw_654 okX11_withdraw rfl (by decide) hl.1 rfl (Nat.le_of_ble_eq_true rfl) dL_law_661 (by decide)) hP hD hS hA [0] [1] rfl rfl (by decide) (by decide) (fun v661 u661 H locs w661 hP hD hS => ?_)
  have hP : va_P D vwCl [((q 0), .inr (11, (mO q 0 0 0 0 0 0 0 0 (-1) 1 0 0 0 0 0 0 0 0 0)))] H := hP
  have hD : va_D A [((q 0), .inr (11, (mO q 0 0 0 0 0 0 0 0 (-1) 1 0 0 0 0 0 0 0 0 0)))] := hD
  subst w661
  refine lv_aload_n S.1 S.2.1 dL_law_664 rfl (lv_at hl 2 rfl) ?_
  refine lv_aload_n S.1 S.2.1 dL_law_665 rfl (lv_at hl 4 rfl) ?_
  refine lv_iload S.1 S.2.1 dL_law_666 (lv_at hl 0 rfl) ?_
  refine lv_iconst (v := 1) S.1 S.2.1 dL_law_668 (by decide) ?_
  refine r_iadd S dL_law_669 (v := 1) (by decide) ?_
  refine r_sld S hX hbl hbA hS 1 (by decide) (by decide) (by decide) (v := p1) e1 dL_law_670 ?_
  refine call_i (wr := []) (runV_C (wc := [((q 0), .inr (11, (mO q 0 0 0 0 0 0 0 0 (-1) 1 0 0 0 0 0 0 0 0 0)))]) (As := [.int p1]) (rest := [.int 0]) S (kX12_withdraw l D cy q p1 z1 h1) hK hP hD [0] (by decide) rfl 0 11 rfl rfl kw_1930 kw_1931 kw_1932 kw_152 kw_1933 okX12_withdraw rfl (by decide) hl.1 rfl (Nat.le_of_ble_eq_true rfl) dL_law_671 (by decide)) hP hD hS hA [0] [] rfl rfl (by decide) (by decide) (fun v671 u671 H locs w671 hP hD hS => ?_)
  have hP : va_P D vwCl [] H := hP
  have hD : va_D A [] := hD
  subst w671
  refine r_icmp_eq S 0 0 rfl rfl dL_law_674 (tgt := 2008) (by decide) (fun _ => ?_) (fun c => absurd c (by decide))
  exact law_on S hr hlk hX hbl hbA hA2 hS (lv_sub hl [0, 4] rfl) (by decide) (by decide)
set_option maxHeartbeats 4000000 in
set_option maxRecDepth 100000 in
theorem law_c9 (l : Launch) (hst : l.stackTraces = false) {p : Program} {e : Env} {s : State} {m : MethodId} {below : List Frame} {meth : Method} {c : Code} {H : Heap} {locs : List Loc} {ls : Array Slot} {D : va_G} {cy : Nat → ClassId} {b : Nat} {xs : Nat → Int32} {A : Nat → Prop} {x q : Nat → Nat} {o : Nat} (S : CallFix p m c cL_law 7 s #[Value.ref b] uu "LandSurveyLaw") (hr : meth.sig.returnType = ret) (hlk : meth.locks = false) (hX : va_X b 8 xs s s.heap) (hbl : b < s.heap.size) (hbA : ¬ A b) (hA : ∀ q : Nat, s.heap.size ≤ q → A q) (hA2 : ∀ q : Nat, A q → s.heap.size ≤ q) (hK : KX D cy s) (hE : Ey s) (hZ : Zs A s s.heap) (hP : va_P D vwCl [((x 0), .inr (10, [.int 0, .int (-1), .ref (x 1), .ref (x 9), .int 0, .ref (x 10), .ref (x 13), .ref (x 16), .ref (x 29), .int 0, .int 0, .ref (x 30), .int 0, .ref (x 31), .ref (x 42), .int 0, .int 0, .null, .ref (x 43)])), ((x 10), .inr (3, [.ref (x 11), .int 0, .int 0, .int 0, .int 0, .long 0, .null, .int 0, .int 0, .int 0, .int 0, .ref (x 12), .int 0, .null])), ((x 11), .inl (cy 3, 1500, .inl (fun _ => 0))), ((q 0), .inr (11, (mO q 0 0 0 0 0 0 0 0 (-1) 1 0 0 0 0 0 0 0 0 0))), ((q 1), .inl (cy 0, 1500, .inl (fun _ => 0)))] H) (hD : va_D A [((x 0), .inr (10, [.int 0, .int (-1), .ref (x 1), .ref (x 9), .int 0, .ref (x 10), .ref (x 13), .ref (x 16), .ref (x 29), .int 0, .int 0, .ref (x 30), .int 0, .ref (x 31), .ref (x 42), .int 0, .int 0, .null, .ref (x 43)])), ((x 10), .inr (3, [.ref (x 11), .int 0, .int 0, .int 0, .int 0, .long 0, .null, .int 0, .int 0, .int 0, .int 0, .ref (x 12), .int 0, .null])), ((x 11), .inl (cy 3, 1500, .inl (fun _ => 0))), ((q 0), .inr (11, (mO q 0 0 0 0 0 0 0 0 (-1) 1 0 0 0 0 0 0 0 0 0))), ((q 1), .inl (cy 0, 1500, .inl (fun _ => 0)))]) (hS : va_S A s.heap H locs) (hl : lv_has ls 7 [(4, .int 0), (3, .ref o), (2, .ref (q 0)), (1, .ref (x 0)), (0, .ref b)]) : W p l e room_1 s m #[Value.ref b] below meth c H locs 114 51906 (lw_Z below #[Value.ref b] s) (F0 m 679 ls []) := by
  obtain ⟨p1, e1⟩ : ∃ y, xs 1 = y := ⟨_, rfl⟩
  obtain ⟨z1, h1⟩ : ∃ z, p1.toInt = z := ⟨_, rfl⟩
  obtain ⟨p2, e2⟩ : ∃ y, xs 2 = y := ⟨_, rfl⟩
  obtain ⟨z2, h2⟩ : ∃ z, p2.toInt = z := ⟨_, rfl⟩
  obtain ⟨p3, e3⟩ : ∃ y, xs 3 = y := ⟨_, rfl⟩
  obtain ⟨z3, h3⟩ : ∃ z, p3.toInt = z := ⟨_, rfl⟩
  obtain ⟨p4, e4⟩ : ∃ y, xs 4 = y := ⟨_, rfl⟩
  obtain ⟨z4, h4⟩ : ∃ z, p4.toInt = z := ⟨_, rfl⟩
  obtain ⟨p5, e5⟩ : ∃ y, xs 5 = y := ⟨_, rfl⟩
  obtain ⟨z5, h5⟩ : ∃ z, p5.toInt = z := ⟨_, rfl⟩
  obtain ⟨p6, e6⟩ : ∃ y, xs 6 = y := ⟨_, rfl⟩
  obtain ⟨z6, h6⟩ : ∃ z, p6.toInt = z := ⟨_, rfl⟩
  obtain ⟨p7, e7⟩ : ∃ y, xs 7 = y := ⟨_, rfl⟩
  obtain ⟨z7, h7⟩ : ∃ z, p7.toInt = z := ⟨_, rfl⟩
  refine lv_aload_n S.1 S.2.1 dL_law_679 rfl (lv_at hl 3 rfl) ?_
  refine lv_aload_n S.1 S.2.1 dL_law_680 rfl (lv_at hl 4 rfl) ?_
  refine lv_iload S.1 S.2.1 dL_law_681 (lv_at hl 0 rfl) ?_
  refine lv_iconst (v := 1) S.1 S.2.1 dL_law_683 (by decide) ?_
  refine r_iadd S dL_law_684 (v := 1) (by decide) ?_
  refine r_sld S hX hbl hbA hS 1 (by decide) (by decide) (by decide) (v := p1) e1 dL_law_685 ?_
  refine lv_i2l (v := (p1).toInt64) S.1 S.2.1 dL_law_686 rfl ?_
  refine lv_bipush (v := 32) S.1 S.2.1 dL_law_687 (by decide) ?_
  refine r_lshl S dL_law_689 (v := ((p1).toInt64 <<< ((32 : Int32).toInt64 &&& 63))) rfl ?_
  refine lv_aload_n S.1 S.2.1 dL_law_690 rfl (lv_at hl 4 rfl) ?_
  refine lv_iload S.1 S.2.1 dL_law_691 (lv_at hl 0 rfl) ?_
  refine lv_iconst (v := 2) S.1 S.2.1 dL_law_693 (by decide) ?_
  refine r_iadd S dL_law_694 (v := 2) (by decide) ?_
  refine r_sld S hX hbl hbA hS 2 (by decide) (by decide) (by decide) (v := p2) e2 dL_law_695 ?_
  refine lv_i2l (v := (p2).toInt64) S.1 S.2.1 dL_law_696 rfl ?_
  refine lv_ldc2 (v := 4294967295) S.1 S.2.1 S.2.2.2.1 (S.2.2.2.2 _ kw_2267) dL_law_697 ?_
  refine r_land S dL_law_700 (v := ((p2).toInt64 &&& 4294967295)) rfl ?_
  refine r_lor S dL_law_701 (v := (((p1).toInt64 <<< ((32 : Int32).toInt64 &&& 63)) ||| ((p2).toInt64 &&& 4294967295))) rfl ?_
  refine lv_aload_n S.1 S.2.1 dL_law_702 rfl (lv_at hl 4 rfl) ?_
  refine lv_iload S.1 S.2.1 dL_law_703 (lv_at hl 0 rfl) ?_
  refine lv_iconst (v := 3) S.1 S.2.1 dL_law_705 (by decide) ?_
  refine r_iadd S dL_law_706 (v := 3) (by decide) ?_
  refine r_sld S hX hbl hbA hS 3 (by decide) (by decide) (by decide) (v := p3) e3 dL_law_707 ?_
  refine lv_i2l (v := (p3).toInt64) S.1 S.2.1 dL_law_708 rfl ?_
  refine lv_bipush (v := 32) S.1 S.2.1 dL_law_709 (by decide) ?_
  refine r_lshl S dL_law_711 (v := ((p3).toInt64 <<< ((32 : Int32).toInt64 &&& 63))) rfl ?_
  refine lv_aload_n S.1 S.2.1 dL_law_712 rfl (lv_at hl 4 rfl) ?_
  refine lv_iload S.1 S.2.1 dL_law_713 (lv_at hl 0 rfl) ?_
  refine lv_iconst (v := 4) S.1 S.2.1 dL_law_715 (by decide) ?_
  refine r_iadd S dL_law_716 (v := 4) (by decide) ?_
  refine r_sld S hX hbl hbA hS 4 (by decide) (by decide) (by decide) (v := p4) e4 dL_law_717 ?_
  refine lv_i2l (v := (p4).toInt64) S.1 S.2.1 dL_law_718 rfl ?_
  refine lv_ldc2 (v := 4294967295) S.1 S.2.1 S.2.2.2.1 (S.2.2.2.2 _ kw_2267) dL_law_719 ?_
  refine r_land S dL_law_722 (v := ((p4).toInt64 &&& 4294967295)) rfl ?_
  refine r_lor S dL_law_723 (v := (((p3).toInt64 <<< ((32 : Int32).toInt64 &&& 63)) ||| ((p4).toInt64 &&& 4294967295))) rfl ?_
  refine lv_aload_n S.1 S.2.1 dL_law_724 rfl (lv_at hl 4 rfl) ?_
  refine lv_iload S.1 S.2.1 dL_law_725 (lv_at hl 0 rfl) ?_
  refine lv_iconst (v := 5) S.1 S.2.1 dL_law_727 (by decide) ?_
  refine r_iadd S dL_law_728 (v := 5) (by decide) ?_
  refine r_sld S hX hbl hbA hS 5 (by decide) (by decide) (by decide) (v := p5) e5 dL_law_729 ?_
  refine lv_i2l (v := (p5).toInt64) S.1 S.2.1 dL_law_730 rfl ?_
  refine lv_bipush (v := 32) S.1 S.2.1 dL_law_731 (by decide) ?_
  refine r_lshl S dL_law_733 (v := ((p5).toInt64 <<< ((32 : Int32).toInt64 &&& 63))) rfl ?_
  refine lv_aload_n S.1 S.2.1 dL_law_734 rfl (lv_at hl 4 rfl) ?_
  refine lv_iload S.1 S.2.1 dL_law_735 (lv_at hl 0 rfl) ?_
  refine lv_bipush (v := 6) S.1 S.2.1 dL_law_737 (by decide) ?_
  refine r_iadd S dL_law_739 (v := 6) (by decide) ?_
  refine r_sld S hX hbl hbA hS 6 (by decide) (by decide) (by decide) (v := p6) e6 dL_law_740 ?_
  refine lv_i2l (v := (p6).toInt64) S.1 S.2.1 dL_law_741 rfl ?_
  refine lv_ldc2 (v := 4294967295) S.1 S.2.1 S.2.2.2.1 (S.2.2.2.2 _ kw_2267) dL_law_742 ?_
  refine r_land S dL_law_745 (v := ((p6).toInt64 &&& 4294967295)) rfl ?_
  refine r_lor S dL_law_746 (v := (((p5).toInt64 <<< ((32 : Int32).toInt64 &&& 63)) ||| ((p6).toInt64 &&& 4294967295))) rfl ?_
  refine call_i (wr := [((q 0), .inr (11, (mO q 0 0 0 0 0 0 0 0 (-1) 1 0 0 0 0 0 0 0 0 0))), ((q 1), .inl (cy 0, 1500, .inl (fun _ => 0)))]) (runV_C (wc := [((x 0), .inr (10, [.int 0, .int (-1), .ref (x 1), .ref (x 9), .int 0, .ref (x 10), .ref (x 13), .ref (x 16), .ref (x 29), .int 0, .int 0, .ref (x 30), .int 0, .ref (x 31), .ref (x 42), .int 0, .int 0, .null, .ref (x 43)])), ((x 10), .inr (3, [.ref (x 11), .int 0, .int 0, .int 0, .int 0, .long 0, .null, .int 0, .int 0, .int 0, .int 0, .ref (x 12), .int 0, .null])), ((x 11), .inl (cy 3, 1500, .inl (fun _ => 0)))]) (As := [.long (((p1).toInt64 <<< ((32 : Int32).toInt64 &&& 63)) ||| ((p2).toInt64 &&& 4294967295)), .long (((p3).toInt64 <<< ((32 : Int32).toInt64 &&& 63)) ||| ((p4).toInt64 &&& 4294967295)), .long (((p5).toInt64 <<< ((32 : Int32).toInt64 &&& 63)) ||| ((p6).toInt64 &&& 4294967295))]) (rest := []) S (kX11_feed l D cy x (((p1).toInt64 <<< ((32 : Int32).toInt64 &&& 63)) ||| ((p2).toInt64 &&& 4294967295)) (((p3).toInt64 <<< ((32 : Int32).toInt64 &&& 63)) ||| ((p4).toInt64 &&& 4294967295)) (((p5).toInt64 <<< ((32 : Int32).toInt64 &&& 63)) ||| ((p6).toInt64 &&& 4294967295))) hK hP hD [0, 1, 2] (by decide) rfl 0 10 rfl rfl kw_655 kw_656 kw_657 kw_144 kw_658 okX11_feed rfl (by decide) hl.1 rfl (Nat.le_of_ble_eq_true rfl) dL_law_747 (by decide)) hP hD hS hA [0, 1, 2] [3, 4] rfl rfl (by decide) (by decide) (fun v747 u747 H locs w747 hP hD hS => ?_)
  have hP : va_P D vwCl [((q 0), .inr (11, (mO q 0 0 0 0 0 0 0 0 (-1) 1 0 0 0 0 0 0 0 0 0))), ((q 1), .inl (cy 0, 1500, .inl (fun _ => 0)))] H := hP
  have hD : va_D A [((q 0), .inr (11, (mO q 0 0 0 0 0 0 0 0 (-1) 1 0 0 0 0 0 0 0 0 0))), ((q 1), .inl (cy 0, 1500, .inl (fun _ => 0)))] := hD
  subst w747
  refine lv_aload_n S.1 S.2.1 dL_law_750 rfl (lv_at hl 2 rfl) ?_
  refine lv_aload_n S.1 S.2.1 dL_law_751 rfl (lv_at hl 4 rfl) ?_
  refine lv_iload S.1 S.2.1 dL_law_752 (lv_at hl 0 rfl) ?_
  refine lv_iconst (v := 1) S.1 S.2.1 dL_law_754 (by decide) ?_
  refine r_iadd S dL_law_755 (v := 1) (by decide) ?_
  refine r_sld S hX hbl hbA hS 1 (by decide) (by decide) (by decide) (v := p1) e1 dL_law_756 ?_
  refine lv_i2l (v := (p1).toInt64) S.1 S.2.1 dL_law_757 rfl ?_
  refine lv_bipush (v := 32) S.1 S.2.1 dL_law_758 (by decide) ?_
  refine r_lshl S dL_law_760 (v := ((p1).toInt64 <<< ((32 : Int32).toInt64 &&& 63))) rfl ?_
  refine lv_aload_n S.1 S.2.1 dL_law_761 rfl (lv_at hl 4 rfl) ?_
  refine lv_iload S.1 S.2.1 dL_law_762 (lv_at hl 0 rfl) ?_
  refine lv_iconst (v := 2) S.1 S.2.1 dL_law_764 (by decide) ?_
  refine r_iadd S dL_law_765 (v := 2) (by decide) ?_
  refine r_sld S hX hbl hbA hS 2 (by decide) (by decide) (by decide) (v := p2) e2 dL_law_766 ?_
  refine lv_i2l (v := (p2).toInt64) S.1 S.2.1 dL_law_767 rfl ?_
  refine lv_ldc2 (v := 4294967295) S.1 S.2.1 S.2.2.2.1 (S.2.2.2.2 _ kw_2267) dL_law_768 ?_
  refine r_land S dL_law_771 (v := ((p2).toInt64 &&& 4294967295)) rfl ?_
  refine r_lor S dL_law_772 (v := (((p1).toInt64 <<< ((32 : Int32).toInt64 &&& 63)) ||| ((p2).toInt64 &&& 4294967295))) rfl ?_
  refine lv_aload_n S.1 S.2.1 dL_law_773 rfl (lv_at hl 4 rfl) ?_
  refine lv_iload S.1 S.2.1 dL_law_774 (lv_at hl 0 rfl) ?_
  refine lv_iconst (v := 3) S.1 S.2.1 dL_law_776 (by decide) ?_
  refine r_iadd S dL_law_777 (v := 3) (by decide) ?_
  refine r_sld S hX hbl hbA hS 3 (by decide) (by decide) (by decide) (v := p3) e3 dL_law_778 ?_
  refine lv_i2l (v := (p3).toInt64) S.1 S.2.1 dL_law_779 rfl ?_
  refine lv_bipush (v := 32) S.1 S.2.1 dL_law_780 (by decide) ?_
  refine r_lshl S dL_law_782 (v := ((p3).toInt64 <<< ((32 : Int32).toInt64 &&& 63))) rfl ?_
  refine lv_aload_n S.1 S.2.1 dL_law_783 rfl (lv_at hl 4 rfl) ?_
  refine lv_iload S.1 S.2.1 dL_law_784 (lv_at hl 0 rfl) ?_
  refine lv_iconst (v := 4) S.1 S.2.1 dL_law_786 (by decide) ?_
  refine r_iadd S dL_law_787 (v := 4) (by decide) ?_
  refine r_sld S hX hbl hbA hS 4 (by decide) (by decide) (by decide) (v := p4) e4 dL_law_788 ?_
  refine lv_i2l (v := (p4).toInt64) S.1 S.2.1 dL_law_789 rfl ?_
  refine lv_ldc2 (v := 4294967295) S.1 S.2.1 S.2.2.2.1 (S.2.2.2.2 _ kw_2267) dL_law_790 ?_
  refine r_land S dL_law_793 (v := ((p4).toInt64 &&& 4294967295)) rfl ?_
  refine r_lor S dL_law_794 (v := (((p3).toInt64 <<< ((32 : Int32).toInt64 &&& 63)) ||| ((p4).toInt64 &&& 4294967295))) rfl ?_
  refine lv_aload_n S.1 S.2.1 dL_law_795 rfl (lv_at hl 4 rfl) ?_
  refine lv_iload S.1 S.2.1 dL_law_796 (lv_at hl 0 rfl) ?_
  refine lv_iconst (v := 5) S.1 S.2.1 dL_law_798 (by decide) ?_
  refine r_iadd S dL_law_799 (v := 5) (by decide) ?_
  refine r_sld S hX hbl hbA hS 5 (by decide) (by decide) (by decide) (v := p5) e5 dL_law_800 ?_
  refine lv_i2l (v := (p5).toInt64) S.1 S.2.1 dL_law_801 rfl ?_
  refine lv_bipush (v := 32) S.1 S.2.1 dL_law_802 (by decide) ?_
  refine r_lshl S dL_law_804 (v := ((p5).toInt64 <<< ((32 : Int32).toInt64 &&& 63))) rfl ?_
  refine lv_aload_n S.1 S.2.1 dL_law_805 rfl (lv_at hl 4 rfl) ?_
  refine lv_iload S.1 S.2.1 dL_law_806 (lv_at hl 0 rfl) ?_
  refine lv_bipush (v := 6) S.1 S.2.1 dL_law_808 (by decide) ?_
  refine r_iadd S dL_law_810 (v := 6) (by decide) ?_
  refine r_sld S hX hbl hbA hS 6 (by decide) (by decide) (by decide) (v := p6) e6 dL_law_811 ?_
  refine lv_i2l (v := (p6).toInt64) S.1 S.2.1 dL_law_812 rfl ?_
  refine lv_ldc2 (v := 4294967295) S.1 S.2.1 S.2.2.2.1 (S.2.2.2.2 _ kw_2267) dL_law_813 ?_
  refine r_land S dL_law_816 (v := ((p6).toInt64 &&& 4294967295)) rfl ?_
  refine r_lor S dL_law_817 (v := (((p5).toInt64 <<< ((32 : Int32).toInt64 &&& 63)) ||| ((p6).toInt64 &&& 4294967295))) rfl ?_
  refine call_i (wr := []) (runV_C (wc := [((q 0), .inr (11, (mO q 0 0 0 0 0 0 0 0 (-1) 1 0 0 0 0 0 0 0 0 0))), ((q 1), .inl (cy 0, 1500, .inl (fun _ => 0)))]) (As := [.long (((p1).toInt64 <<< ((32 : Int32).toInt64 &&& 63)) ||| ((p2).toInt64 &&& 4294967295)), .long (((p3).toInt64 <<< ((32 : Int32).toInt64 &&& 63)) ||| ((p4).toInt64 &&& 4294967295)), .long (((p5).toInt64 <<< ((32 : Int32).toInt64 &&& 63)) ||| ((p6).toInt64 &&& 4294967295))]) (rest := [.int (nI (((0 + cnt8 (((p1).toInt64 <<< ((32 : Int32).toInt64 &&& 63)) ||| ((p2).toInt64 &&& 4294967295)) 8) + cnt8 (((p3).toInt64 <<< ((32 : Int32).toInt64 &&& 63)) ||| ((p4).toInt64 &&& 4294967295)) 8) + cnt8 (((p5).toInt64 <<< ((32 : Int32).toInt64 &&& 63)) ||| ((p6).toInt64 &&& 4294967295)) 8))]) S (kX12_feed l D cy q (((p1).toInt64 <<< ((32 : Int32).toInt64 &&& 63)) ||| ((p2).toInt64 &&& 4294967295)) (((p3).toInt64 <<< ((32 : Int32).toInt64 &&& 63)) ||| ((p4).toInt64 &&& 4294967295)) (((p5).toInt64 <<< ((32 : Int32).toInt64 &&& 63)) ||| ((p6).toInt64 &&& 4294967295))) hK hP hD [0, 1] (by decide) rfl 0 11 rfl rfl kw_1466 kw_1467 kw_1468 kw_152 kw_1469 okX12_feed rfl (by decide) hl.1 rfl (Nat.le_of_ble_eq_true rfl) dL_law_818 (by decide)) hP hD hS hA [0, 1] [] rfl rfl (by decide) (by decide) (fun v818 u818 H locs w818 hP hD hS => ?_)
  have hP : va_P D vwCl [] H := hP
  have hD : va_D A [] := hD
  subst w818
  have hc_0 := cnt8_le (((p1).toInt64 <<< ((32 : Int32).toInt64 &&& 63)) ||| ((p2).toInt64 &&& 4294967295)) 8
  have hc_1 := cnt8_le (((p3).toInt64 <<< ((32 : Int32).toInt64 &&& 63)) ||| ((p4).toInt64 &&& 4294967295)) 8
  have hc_2 := cnt8_le (((p5).toInt64 <<< ((32 : Int32).toInt64 &&& 63)) ||| ((p6).toInt64 &&& 4294967295)) 8
  refine r_icmp_eq S ((((0 + cnt8 (((p1).toInt64 <<< ((32 : Int32).toInt64 &&& 63)) ||| ((p2).toInt64 &&& 4294967295)) 8) + cnt8 (((p3).toInt64 <<< ((32 : Int32).toInt64 &&& 63)) ||| ((p4).toInt64 &&& 4294967295)) 8) + cnt8 (((p5).toInt64 <<< ((32 : Int32).toInt64 &&& 63)) ||| ((p6).toInt64 &&& 4294967295)) 8 : Nat) : Int) ((((0 + cnt8 (((p1).toInt64 <<< ((32 : Int32).toInt64 &&& 63)) ||| ((p2).toInt64 &&& 4294967295)) 8) + cnt8 (((p3).toInt64 <<< ((32 : Int32).toInt64 &&& 63)) ||| ((p4).toInt64 &&& 4294967295)) 8) + cnt8 (((p5).toInt64 <<< ((32 : Int32).toInt64 &&& 63)) ||| ((p6).toInt64 &&& 4294967295)) 8 : Nat) : Int) (nI_toInt (by omega)) (nI_toInt (by omega)) dL_law_821 (tgt := 2008) (by decide) (fun _ => ?_) (fun c => absurd c (by omega))
  exact law_on S hr hlk hX hbl hbA hA2 hS (lv_sub hl [0, 4] rfl) (by decide) (by decide)
set_option maxHeartbeats 4000000 in
set_option maxRecDepth 100000 in
theorem law_c10 (l : Launch) (hst : l.stackTraces = false) {p : Program} {e : Env} {s : State} {m : MethodId} {below : List Frame} {meth : Method} {c : Code} {H : Heap} {locs : List Loc} {ls : Array Slot} {D : va_G} {cy : Nat → ClassId} {b : Nat} {xs : Nat → Int32} {A : Nat → Prop} {x q : Nat → Nat} {o : Nat} (S : CallFix p m c cL_law 7 s #[Value.ref b] uu "LandSurveyLaw") (hr : meth.sig.returnType = ret) (hlk : meth.locks = false) (hX : va_X b 8 xs s s.heap) (hbl : b < s.heap.size) (hbA : ¬ A b) (hA : ∀ q : Nat, s.heap.size ≤ q → A q) (hA2 : ∀ q : Nat, A q → s.heap.size ≤ q) (hK : KX D cy s) (hE : Ey s) (hZ : Zs A s s.heap) (hP : va_P D vwCl [((x 0), .inr (10, [.int 0, .int (-1), .ref (x 1), .ref (x 9), .int 0, .ref (x 10), .ref (x 13), .ref (x 16), .ref (x 29), .int 0, .int 0, .ref (x 30), .int 0, .ref (x 31), .ref (x 42), .int 0, .int 0, .null, .ref (x 43)])), ((x 10), .inr (3, [.ref (x 11), .int 0, .int 0, .int 0, .int 0, .long 0, .null, .int 0, .int 0, .int 0, .int 0, .ref (x 12), .int 0, .null])), ((x 12), .inl (cy 0, 1500, .inl (fun _ => 0))), ((x 13), .inr (4, [.ref (x 14), .ref (x 15), .int 0, .ref (x 16)])), ((x 14), .inl (cy 0, 8, .inl (fun _ => 0))), ((x 15), .inl (cy 8, 8, .inr (.inr (.inr (.inr (fun _ => none)))))), ((q 0), .inr (11, (mO q 0 0 0 0 0 0 0 0 (-1) 1 0 0 0 0 0 0 0 0 0))), ((q 12), .inl (cy 0, 9, .inl (fun _ => 0))), ((q 18), .inl (cy 1, 9, .inl (fun _ => 0))), ((q 19), .inl (cy 0, 9, .inl (fun _ => 0))), ((q 20), .inl (cy 1, 9, .inl (fun _ => 0))), ((q 21), .inl (cy 0, 9, .inl (fun _ => 0))), ((q 24), .inl (cy 0, 9, .inl (fun _ => 0))), ((q 22), .inl (cy 0, 90, .inl (fun _ => 0))), ((q 16), .inl (cy 1, 90, .inl (fun _ => 0))), ((q 17), .inl (cy 1, 90, .inl (fun _ => 0))), ((q 11), .inl (cy 0, 9, .inl (fun _ => 0))), ((q 14), .inl (cy 0, 90, .inl (fun _ => 0))), ((q 15), .inl (cy 0, 90, .inl (fun _ => 0))), ((q 23), .inl (cy 0, 90, .inl (fun _ => 0))), ((q 25), .inl (cy 0, 216, .inl (fun _ => 0))), ((q 26), .inl (cy 0, 216, .inl (fun _ => 0))), ((q 27), .inl (cy 0, 216, .inl (fun _ => 0))), ((q 4), .inl (cy 0, 1502, .inl (fun _ => 0))), ((q 5), .inl (cy 0, 1502, .inl (fun _ => 0)))] H) (hD : va_D A [((x 0), .inr (10, [.int 0, .int (-1), .ref (x 1), .ref (x 9), .int 0, .ref (x 10), .ref (x 13), .ref (x 16), .ref (x 29), .int 0, .int 0, .ref (x 30), .int 0, .ref (x 31), .ref (x 42), .int 0, .int 0, .null, .ref (x 43)])), ((x 10), .inr (3, [.ref (x 11), .int 0, .int 0, .int 0, .int 0, .long 0, .null, .int 0, .int 0, .int 0, .int 0, .ref (x 12), .int 0, .null])), ((x 12), .inl (cy 0, 1500, .inl (fun _ => 0))), ((x 13), .inr (4, [.ref (x 14), .ref (x 15), .int 0, .ref (x 16)])), ((x 14), .inl (cy 0, 8, .inl (fun _ => 0))), ((x 15), .inl (cy 8, 8, .inr (.inr (.inr (.inr (fun _ => none)))))), ((q 0), .inr (11, (mO q 0 0 0 0 0 0 0 0 (-1) 1 0 0 0 0 0 0 0 0 0))), ((q 12), .inl (cy 0, 9, .inl (fun _ => 0))), ((q 18), .inl (cy 1, 9, .inl (fun _ => 0))), ((q 19), .inl (cy 0, 9, .inl (fun _ => 0))), ((q 20), .inl (cy 1, 9, .inl (fun _ => 0))), ((q 21), .inl (cy 0, 9, .inl (fun _ => 0))), ((q 24), .inl (cy 0, 9, .inl (fun _ => 0))), ((q 22), .inl (cy 0, 90, .inl (fun _ => 0))), ((q 16), .inl (cy 1, 90, .inl (fun _ => 0))), ((q 17), .inl (cy 1, 90, .inl (fun _ => 0))), ((q 11), .inl (cy 0, 9, .inl (fun _ => 0))), ((q 14), .inl (cy 0, 90, .inl (fun _ => 0))), ((q 15), .inl (cy 0, 90, .inl (fun _ => 0))), ((q 23), .inl (cy 0, 90, .inl (fun _ => 0))), ((q 25), .inl (cy 0, 216, .inl (fun _ => 0))), ((q 26), .inl (cy 0, 216, .inl (fun _ => 0))), ((q 27), .inl (cy 0, 216, .inl (fun _ => 0))), ((q 4), .inl (cy 0, 1502, .inl (fun _ => 0))), ((q 5), .inl (cy 0, 1502, .inl (fun _ => 0)))]) (hS : va_S A s.heap H locs) (hl : lv_has ls 7 [(4, .int 0), (3, .ref o), (2, .ref (q 0)), (1, .ref (x 0)), (0, .ref b)]) : W p l e room_1 s m #[Value.ref b] below meth c H locs 114 51906 (lw_Z below #[Value.ref b] s) (F0 m 826 ls []) := by
  obtain ⟨p1, e1⟩ : ∃ y, xs 1 = y := ⟨_, rfl⟩
  obtain ⟨z1, h1⟩ : ∃ z, p1.toInt = z := ⟨_, rfl⟩
  obtain ⟨p2, e2⟩ : ∃ y, xs 2 = y := ⟨_, rfl⟩
  obtain ⟨z2, h2⟩ : ∃ z, p2.toInt = z := ⟨_, rfl⟩
  obtain ⟨p3, e3⟩ : ∃ y, xs 3 = y := ⟨_, rfl⟩
  obtain ⟨z3, h3⟩ : ∃ z, p3.toInt = z := ⟨_, rfl⟩
  obtain ⟨p4, e4⟩ : ∃ y, xs 4 = y := ⟨_, rfl⟩
  obtain ⟨z4, h4⟩ : ∃ z, p4.toInt = z := ⟨_, rfl⟩
  obtain ⟨p5, e5⟩ : ∃ y, xs 5 = y := ⟨_, rfl⟩
  obtain ⟨z5, h5⟩ : ∃ z, p5.toInt = z := ⟨_, rfl⟩
  obtain ⟨p6, e6⟩ : ∃ y, xs 6 = y := ⟨_, rfl⟩
  obtain ⟨z6, h6⟩ : ∃ z, p6.toInt = z := ⟨_, rfl⟩
  obtain ⟨p7, e7⟩ : ∃ y, xs 7 = y := ⟨_, rfl⟩
  obtain ⟨z7, h7⟩ : ∃ z, p7.toInt = z := ⟨_, rfl⟩
  refine lv_aload_n S.1 S.2.1 dL_law_826 rfl (lv_at hl 3 rfl) ?_
  refine call_i (wr := [((q 0), .inr (11, (mO q 0 0 0 0 0 0 0 0 (-1) 1 0 0 0 0 0 0 0 0 0))), ((q 12), .inl (cy 0, 9, .inl (fun _ => 0))), ((q 18), .inl (cy 1, 9, .inl (fun _ => 0))), ((q 19), .inl (cy 0, 9, .inl (fun _ => 0))), ((q 20), .inl (cy 1, 9, .inl (fun _ => 0))), ((q 21), .inl (cy 0, 9, .inl (fun _ => 0))), ((q 24), .inl (cy 0, 9, .inl (fun _ => 0))), ((q 22), .inl (cy 0, 90, .inl (fun _ => 0))), ((q 16), .inl (cy 1, 90, .inl (fun _ => 0))), ((q 17), .inl (cy 1, 90, .inl (fun _ => 0))), ((q 11), .inl (cy 0, 9, .inl (fun _ => 0))), ((q 14), .inl (cy 0, 90, .inl (fun _ => 0))), ((q 15), .inl (cy 0, 90, .inl (fun _ => 0))), ((q 23), .inl (cy 0, 90, .inl (fun _ => 0))), ((q 25), .inl (cy 0, 216, .inl (fun _ => 0))), ((q 26), .inl (cy 0, 216, .inl (fun _ => 0))), ((q 27), .inl (cy 0, 216, .inl (fun _ => 0))), ((q 4), .inl (cy 0, 1502, .inl (fun _ => 0))), ((q 5), .inl (cy 0, 1502, .inl (fun _ => 0)))]) (runV_C (wc := [((x 0), .inr (10, [.int 0, .int (-1), .ref (x 1), .ref (x 9), .int 0, .ref (x 10), .ref (x 13), .ref (x 16), .ref (x 29), .int 0, .int 0, .ref (x 30), .int 0, .ref (x 31), .ref (x 42), .int 0, .int 0, .null, .ref (x 43)])), ((x 10), .inr (3, [.ref (x 11), .int 0, .int 0, .int 0, .int 0, .long 0, .null, .int 0, .int 0, .int 0, .int 0, .ref (x 12), .int 0, .null])), ((x 12), .inl (cy 0, 1500, .inl (fun _ => 0))), ((x 13), .inr (4, [.ref (x 14), .ref (x 15), .int 0, .ref (x 16)])), ((x 14), .inl (cy 0, 8, .inl (fun _ => 0))), ((x 15), .inl (cy 8, 8, .inr (.inr (.inr (.inr (fun _ => none))))))]) (As := []) (rest := []) S (kX11_rules l D cy x) hK hP hD [0, 1, 2, 3, 4, 5] (by decide) rfl 0 10 rfl rfl kw_663 kw_664 kw_665 kw_144 kw_666 okX11_rules rfl (by decide) hl.1 rfl (Nat.le_of_ble_eq_true rfl) dL_law_827 (by decide)) hP hD hS hA [0, 1, 2, 3, 4, 5] [6, 7, 8, 9, 10, 11, 12, 13, 14, 15, 16, 17, 18, 19, 20, 21, 22, 23, 24] rfl rfl (by decide) (by decide) (fun v827 u827 H locs w827 hP hD hS => ?_)
  have hP : va_P D vwCl [((q 0), .inr (11, (mO q 0 0 0 0 0 0 0 0 (-1) 1 0 0 0 0 0 0 0 0 0))), ((q 12), .inl (cy 0, 9, .inl (fun _ => 0))), ((q 18), .inl (cy 1, 9, .inl (fun _ => 0))), ((q 19), .inl (cy 0, 9, .inl (fun _ => 0))), ((q 20), .inl (cy 1, 9, .inl (fun _ => 0))), ((q 21), .inl (cy 0, 9, .inl (fun _ => 0))), ((q 24), .inl (cy 0, 9, .inl (fun _ => 0))), ((q 22), .inl (cy 0, 90, .inl (fun _ => 0))), ((q 16), .inl (cy 1, 90, .inl (fun _ => 0))), ((q 17), .inl (cy 1, 90, .inl (fun _ => 0))), ((q 11), .inl (cy 0, 9, .inl (fun _ => 0))), ((q 14), .inl (cy 0, 90, .inl (fun _ => 0))), ((q 15), .inl (cy 0, 90, .inl (fun _ => 0))), ((q 23), .inl (cy 0, 90, .inl (fun _ => 0))), ((q 25), .inl (cy 0, 216, .inl (fun _ => 0))), ((q 26), .inl (cy 0, 216, .inl (fun _ => 0))), ((q 27), .inl (cy 0, 216, .inl (fun _ => 0))), ((q 4), .inl (cy 0, 1502, .inl (fun _ => 0))), ((q 5), .inl (cy 0, 1502, .inl (fun _ => 0)))] H := hP
  have hD : va_D A [((q 0), .inr (11, (mO q 0 0 0 0 0 0 0 0 (-1) 1 0 0 0 0 0 0 0 0 0))), ((q 12), .inl (cy 0, 9, .inl (fun _ => 0))), ((q 18), .inl (cy 1, 9, .inl (fun _ => 0))), ((q 19), .inl (cy 0, 9, .inl (fun _ => 0))), ((q 20), .inl (cy 1, 9, .inl (fun _ => 0))), ((q 21), .inl (cy 0, 9, .inl (fun _ => 0))), ((q 24), .inl (cy 0, 9, .inl (fun _ => 0))), ((q 22), .inl (cy 0, 90, .inl (fun _ => 0))), ((q 16), .inl (cy 1, 90, .inl (fun _ => 0))), ((q 17), .inl (cy 1, 90, .inl (fun _ => 0))), ((q 11), .inl (cy 0, 9, .inl (fun _ => 0))), ((q 14), .inl (cy 0, 90, .inl (fun _ => 0))), ((q 15), .inl (cy 0, 90, .inl (fun _ => 0))), ((q 23), .inl (cy 0, 90, .inl (fun _ => 0))), ((q 25), .inl (cy 0, 216, .inl (fun _ => 0))), ((q 26), .inl (cy 0, 216, .inl (fun _ => 0))), ((q 27), .inl (cy 0, 216, .inl (fun _ => 0))), ((q 4), .inl (cy 0, 1502, .inl (fun _ => 0))), ((q 5), .inl (cy 0, 1502, .inl (fun _ => 0)))] := hD
  subst w827
  refine lv_aload_n S.1 S.2.1 dL_law_830 rfl (lv_at hl 2 rfl) ?_
  refine call_i (wr := []) (runV_C (wc := [((q 0), .inr (11, (mO q 0 0 0 0 0 0 0 0 (-1) 1 0 0 0 0 0 0 0 0 0))), ((q 12), .inl (cy 0, 9, .inl (fun _ => 0))), ((q 18), .inl (cy 1, 9, .inl (fun _ => 0))), ((q 19), .inl (cy 0, 9, .inl (fun _ => 0))), ((q 20), .inl (cy 1, 9, .inl (fun _ => 0))), ((q 21), .inl (cy 0, 9, .inl (fun _ => 0))), ((q 24), .inl (cy 0, 9, .inl (fun _ => 0))), ((q 22), .inl (cy 0, 90, .inl (fun _ => 0))), ((q 16), .inl (cy 1, 90, .inl (fun _ => 0))), ((q 17), .inl (cy 1, 90, .inl (fun _ => 0))), ((q 11), .inl (cy 0, 9, .inl (fun _ => 0))), ((q 14), .inl (cy 0, 90, .inl (fun _ => 0))), ((q 15), .inl (cy 0, 90, .inl (fun _ => 0))), ((q 23), .inl (cy 0, 90, .inl (fun _ => 0))), ((q 25), .inl (cy 0, 216, .inl (fun _ => 0))), ((q 26), .inl (cy 0, 216, .inl (fun _ => 0))), ((q 27), .inl (cy 0, 216, .inl (fun _ => 0))), ((q 4), .inl (cy 0, 1502, .inl (fun _ => 0))), ((q 5), .inl (cy 0, 1502, .inl (fun _ => 0)))]) (As := []) (rest := [.int 0]) S (kX12_rules l D cy q) hK hP hD [0, 1, 2, 3, 4, 5, 6, 7, 8, 9, 10, 11, 12, 13, 14, 15, 16, 17, 18] (by decide) rfl 0 11 rfl rfl kw_1772 kw_1773 kw_1774 kw_152 kw_1775 okX12_rules rfl (by decide) hl.1 rfl (Nat.le_of_ble_eq_true rfl) dL_law_831 (by decide)) hP hD hS hA [0, 1, 2, 3, 4, 5, 6, 7, 8, 9, 10, 11, 12, 13, 14, 15, 16, 17, 18] [] rfl rfl (by decide) (by decide) (fun v831 u831 H locs w831 hP hD hS => ?_)
  have hP : va_P D vwCl [] H := hP
  have hD : va_D A [] := hD
  subst w831
  refine r_icmp_eq S 0 0 rfl rfl dL_law_834 (tgt := 2008) (by decide) (fun _ => ?_) (fun c => absurd c (by decide))
  exact law_on S hr hlk hX hbl hbA hA2 hS (lv_sub hl [0, 4] rfl) (by decide) (by decide)
set_option maxHeartbeats 4000000 in
set_option maxRecDepth 100000 in
theorem law_c11 (l : Launch) (hst : l.stackTraces = false) {p : Program} {e : Env} {s : State} {m : MethodId} {below : List Frame} {meth : Method} {c : Code} {H : Heap} {locs : List Loc} {ls : Array Slot} {D : va_G} {cy : Nat → ClassId} {b : Nat} {xs : Nat → Int32} {A : Nat → Prop} {x q : Nat → Nat} {o : Nat} (S : CallFix p m c cL_law 7 s #[Value.ref b] uu "LandSurveyLaw") (hr : meth.sig.returnType = ret) (hlk : meth.locks = false) (hX : va_X b 8 xs s s.heap) (hbl : b < s.heap.size) (hbA : ¬ A b) (hA : ∀ q : Nat, s.heap.size ≤ q → A q) (hA2 : ∀ q : Nat, A q → s.heap.size ≤ q) (hK : KX D cy s) (hE : Ey s) (hZ : Zs A s s.heap) (hP : va_P D vwCl [((x 0), .inr (10, [.int 0, .int (-1), .ref (x 1), .ref (x 9), .int 0, .ref (x 10), .ref (x 13), .ref (x 16), .ref (x 29), .int 0, .int 0, .ref (x 30), .int 0, .ref (x 31), .ref (x 42), .int 0, .int 0, .null, .ref (x 43)])), ((x 29), .inl (cy 5, 4, .inr (.inr (.inr (.inr (fun _ => none)))))), ((q 0), .inr (11, (mO q 0 0 0 0 0 0 0 0 (-1) 1 0 0 0 0 0 0 0 0 0))), ((q 58), .inl (cy 1, 768, .inl (fun _ => 0))), ((q 59), .inl (cy 0, 4, .inl (fun _ => 0))), ((q 60), .inl (cy 0, 4, .inl (fun _ => 0))), ((q 61), .inl (cy 0, 4, .inl (fun _ => 0)))] H) (hD : va_D A [((x 0), .inr (10, [.int 0, .int (-1), .ref (x 1), .ref (x 9), .int 0, .ref (x 10), .ref (x 13), .ref (x 16), .ref (x 29), .int 0, .int 0, .ref (x 30), .int 0, .ref (x 31), .ref (x 42), .int 0, .int 0, .null, .ref (x 43)])), ((x 29), .inl (cy 5, 4, .inr (.inr (.inr (.inr (fun _ => none)))))), ((q 0), .inr (11, (mO q 0 0 0 0 0 0 0 0 (-1) 1 0 0 0 0 0 0 0 0 0))), ((q 58), .inl (cy 1, 768, .inl (fun _ => 0))), ((q 59), .inl (cy 0, 4, .inl (fun _ => 0))), ((q 60), .inl (cy 0, 4, .inl (fun _ => 0))), ((q 61), .inl (cy 0, 4, .inl (fun _ => 0)))]) (hS : va_S A s.heap H locs) (hl : lv_has ls 7 [(4, .int 0), (3, .ref o), (2, .ref (q 0)), (1, .ref (x 0)), (0, .ref b)]) : W p l e room_1 s m #[Value.ref b] below meth c H locs 114 51906 (lw_Z below #[Value.ref b] s) (F0 m 839 ls []) := by
  obtain ⟨p1, e1⟩ : ∃ y, xs 1 = y := ⟨_, rfl⟩
  obtain ⟨z1, h1⟩ : ∃ z, p1.toInt = z := ⟨_, rfl⟩
  obtain ⟨p2, e2⟩ : ∃ y, xs 2 = y := ⟨_, rfl⟩
  obtain ⟨z2, h2⟩ : ∃ z, p2.toInt = z := ⟨_, rfl⟩
  obtain ⟨p3, e3⟩ : ∃ y, xs 3 = y := ⟨_, rfl⟩
  obtain ⟨z3, h3⟩ : ∃ z, p3.toInt = z := ⟨_, rfl⟩
  obtain ⟨p4, e4⟩ : ∃ y, xs 4 = y := ⟨_, rfl⟩
  obtain ⟨z4, h4⟩ : ∃ z, p4.toInt = z := ⟨_, rfl⟩
  obtain ⟨p5, e5⟩ : ∃ y, xs 5 = y := ⟨_, rfl⟩
  obtain ⟨z5, h5⟩ : ∃ z, p5.toInt = z := ⟨_, rfl⟩
  obtain ⟨p6, e6⟩ : ∃ y, xs 6 = y := ⟨_, rfl⟩
  obtain ⟨z6, h6⟩ : ∃ z, p6.toInt = z := ⟨_, rfl⟩
  obtain ⟨p7, e7⟩ : ∃ y, xs 7 = y := ⟨_, rfl⟩
  obtain ⟨z7, h7⟩ : ∃ z, p7.toInt = z := ⟨_, rfl⟩
  refine lv_aload_n S.1 S.2.1 dL_law_839 rfl (lv_at hl 3 rfl) ?_
  refine lv_aload_n S.1 S.2.1 dL_law_840 rfl (lv_at hl 4 rfl) ?_
  refine lv_iload S.1 S.2.1 dL_law_841 (lv_at hl 0 rfl) ?_
  refine lv_iconst (v := 1) S.1 S.2.1 dL_law_843 (by decide) ?_
  refine r_iadd S dL_law_844 (v := 1) (by decide) ?_
  refine r_sld S hX hbl hbA hS 1 (by decide) (by decide) (by decide) (v := p1) e1 dL_law_845 ?_
  refine lv_aload_n S.1 S.2.1 dL_law_846 rfl (lv_at hl 4 rfl) ?_
  refine lv_iload S.1 S.2.1 dL_law_847 (lv_at hl 0 rfl) ?_
  refine lv_iconst (v := 2) S.1 S.2.1 dL_law_849 (by decide) ?_
  refine r_iadd S dL_law_850 (v := 2) (by decide) ?_
  refine r_sld S hX hbl hbA hS 2 (by decide) (by decide) (by decide) (v := p2) e2 dL_law_851 ?_
  refine lv_aload_n S.1 S.2.1 dL_law_852 rfl (lv_at hl 4 rfl) ?_
  refine lv_iload S.1 S.2.1 dL_law_853 (lv_at hl 0 rfl) ?_
  refine lv_iconst (v := 3) S.1 S.2.1 dL_law_855 (by decide) ?_
  refine r_iadd S dL_law_856 (v := 3) (by decide) ?_
  refine r_sld S hX hbl hbA hS 3 (by decide) (by decide) (by decide) (v := p3) e3 dL_law_857 ?_
  refine r_if_eq S z3 h3 dL_law_858 (tgt := 865) (by decide) (fun e_858_1 => ?_) (fun e_858_1 => ?_)
  · refine lv_iconst (v := 0) S.1 S.2.1 dL_law_865 (by decide) ?_
    refine lv_aload_n S.1 S.2.1 dL_law_866 rfl (lv_at hl 4 rfl) ?_
    refine lv_iload S.1 S.2.1 dL_law_867 (lv_at hl 0 rfl) ?_
    refine lv_iconst (v := 4) S.1 S.2.1 dL_law_869 (by decide) ?_
    refine r_iadd S dL_law_870 (v := 4) (by decide) ?_
    refine r_sld S hX hbl hbA hS 4 (by decide) (by decide) (by decide) (v := p4) e4 dL_law_871 ?_
    refine lv_aload_n S.1 S.2.1 dL_law_872 rfl (lv_at hl 4 rfl) ?_
    refine lv_iload S.1 S.2.1 dL_law_873 (lv_at hl 0 rfl) ?_
    refine lv_iconst (v := 5) S.1 S.2.1 dL_law_875 (by decide) ?_
    refine r_iadd S dL_law_876 (v := 5) (by decide) ?_
    refine r_sld S hX hbl hbA hS 5 (by decide) (by decide) (by decide) (v := p5) e5 dL_law_877 ?_
    refine lv_aload_n S.1 S.2.1 dL_law_878 rfl (lv_at hl 4 rfl) ?_
    refine lv_iload S.1 S.2.1 dL_law_879 (lv_at hl 0 rfl) ?_
    refine lv_bipush (v := 6) S.1 S.2.1 dL_law_881 (by decide) ?_
    refine r_iadd S dL_law_883 (v := 6) (by decide) ?_
    refine r_sld S hX hbl hbA hS 6 (by decide) (by decide) (by decide) (v := p6) e6 dL_law_884 ?_
    refine lv_aload_n S.1 S.2.1 dL_law_885 rfl (lv_at hl 4 rfl) ?_
    refine lv_iload S.1 S.2.1 dL_law_886 (lv_at hl 0 rfl) ?_
    refine lv_bipush (v := 7) S.1 S.2.1 dL_law_888 (by decide) ?_
    refine r_iadd S dL_law_890 (v := 7) (by decide) ?_
    refine r_sld S hX hbl hbA hS 7 (by decide) (by decide) (by decide) (v := p7) e7 dL_law_891 ?_
    refine call_i (wr := [((q 0), .inr (11, (mO q 0 0 0 0 0 0 0 0 (-1) 1 0 0 0 0 0 0 0 0 0))), ((q 58), .inl (cy 1, 768, .inl (fun _ => 0))), ((q 59), .inl (cy 0, 4, .inl (fun _ => 0))), ((q 60), .inl (cy 0, 4, .inl (fun _ => 0))), ((q 61), .inl (cy 0, 4, .inl (fun _ => 0)))]) (runV_C (wc := [((x 0), .inr (10, [.int 0, .int (-1), .ref (x 1), .ref (x 9), .int 0, .ref (x 10), .ref (x 13), .ref (x 16), .ref (x 29), .int 0, .int 0, .ref (x 30), .int 0, .ref (x 31), .ref (x 42), .int 0, .int 0, .null, .ref (x 43)])), ((x 29), .inl (cy 5, 4, .inr (.inr (.inr (.inr (fun _ => none))))))]) (As := [.int p1, .int p2, .int 0, .int p4, .int p5, .int p6, .int p7]) (rest := []) S (kX11_fault l D cy x p1 p2 0 p4 p5 p6 p7 z1 h1 z2 h2 0 rfl z4 h4 z5 h5 z6 h6 z7 h7 (by omega)) hK hP hD [0, 1] (by decide) rfl 0 10 rfl rfl kw_910 kw_911 kw_912 kw_144 kw_913 okX11_fault rfl (by decide) hl.1 rfl (Nat.le_of_ble_eq_true rfl) dL_law_892 (by decide)) hP hD hS hA [0, 1] [2, 3, 4, 5, 6] rfl rfl (by decide) (by decide) (fun v892 u892 H locs w892 hP hD hS => ?_)
    have hP : va_P D vwCl [((q 0), .inr (11, (mO q 0 0 0 0 0 0 0 0 (-1) 1 0 0 0 0 0 0 0 0 0))), ((q 58), .inl (cy 1, 768, .inl (fun _ => 0))), ((q 59), .inl (cy 0, 4, .inl (fun _ => 0))), ((q 60), .inl (cy 0, 4, .inl (fun _ => 0))), ((q 61), .inl (cy 0, 4, .inl (fun _ => 0)))] H := hP
    have hD : va_D A [((q 0), .inr (11, (mO q 0 0 0 0 0 0 0 0 (-1) 1 0 0 0 0 0 0 0 0 0))), ((q 58), .inl (cy 1, 768, .inl (fun _ => 0))), ((q 59), .inl (cy 0, 4, .inl (fun _ => 0))), ((q 60), .inl (cy 0, 4, .inl (fun _ => 0))), ((q 61), .inl (cy 0, 4, .inl (fun _ => 0)))] := hD
    rcases w892 with ⟨rfl, w892_0_0⟩ | ⟨rfl, w892_1_0⟩
    · refine lv_aload_n S.1 S.2.1 dL_law_895 rfl (lv_at hl 2 rfl) ?_
      refine lv_aload_n S.1 S.2.1 dL_law_896 rfl (lv_at hl 4 rfl) ?_
      refine lv_iload S.1 S.2.1 dL_law_897 (lv_at hl 0 rfl) ?_
      refine lv_iconst (v := 1) S.1 S.2.1 dL_law_899 (by decide) ?_
      refine r_iadd S dL_law_900 (v := 1) (by decide) ?_
      refine r_sld S hX hbl hbA hS 1 (by decide) (by decide) (by decide) (v := p1) e1 dL_law_901 ?_
      refine lv_aload_n S.1 S.2.1 dL_law_902 rfl (lv_at hl 4 rfl) ?_
      refine lv_iload S.1 S.2.1 dL_law_903 (lv_at hl 0 rfl) ?_
      refine lv_iconst (v := 2) S.1 S.2.1 dL_law_905 (by decide) ?_
      refine r_iadd S dL_law_906 (v := 2) (by decide) ?_
      refine r_sld S hX hbl hbA hS 2 (by decide) (by decide) (by decide) (v := p2) e2 dL_law_907 ?_
      refine lv_aload_n S.1 S.2.1 dL_law_908 rfl (lv_at hl 4 rfl) ?_
      refine lv_iload S.1 S.2.1 dL_law_909 (lv_at hl 0 rfl) ?_
      refine lv_iconst (v := 3) S.1 S.2.1 dL_law_911 (by decide) ?_
      refine r_iadd S dL_law_912 (v := 3) (by decide) ?_
      refine r_sld S hX hbl hbA hS 3 (by decide) (by decide) (by decide) (v := p3) e3 dL_law_913 ?_
      refine r_if_eq S z3 h3 dL_law_914 (tgt := 921) (by decide) (fun _ => ?_) (fun c => absurd c (by omega))
      refine lv_iconst (v := 0) S.1 S.2.1 dL_law_921 (by decide) ?_
      refine lv_aload_n S.1 S.2.1 dL_law_922 rfl (lv_at hl 4 rfl) ?_
      refine lv_iload S.1 S.2.1 dL_law_923 (lv_at hl 0 rfl) ?_
      refine lv_iconst (v := 4) S.1 S.2.1 dL_law_925 (by decide) ?_
      refine r_iadd S dL_law_926 (v := 4) (by decide) ?_
      refine r_sld S hX hbl hbA hS 4 (by decide) (by decide) (by decide) (v := p4) e4 dL_law_927 ?_
      refine lv_aload_n S.1 S.2.1 dL_law_928 rfl (lv_at hl 4 rfl) ?_
      refine lv_iload S.1 S.2.1 dL_law_929 (lv_at hl 0 rfl) ?_
      refine lv_iconst (v := 5) S.1 S.2.1 dL_law_931 (by decide) ?_
      refine r_iadd S dL_law_932 (v := 5) (by decide) ?_
      refine r_sld S hX hbl hbA hS 5 (by decide) (by decide) (by decide) (v := p5) e5 dL_law_933 ?_
      refine lv_aload_n S.1 S.2.1 dL_law_934 rfl (lv_at hl 4 rfl) ?_
      refine lv_iload S.1 S.2.1 dL_law_935 (lv_at hl 0 rfl) ?_
      refine lv_bipush (v := 6) S.1 S.2.1 dL_law_937 (by decide) ?_
      refine r_iadd S dL_law_939 (v := 6) (by decide) ?_
      refine r_sld S hX hbl hbA hS 6 (by decide) (by decide) (by decide) (v := p6) e6 dL_law_940 ?_
      refine lv_aload_n S.1 S.2.1 dL_law_941 rfl (lv_at hl 4 rfl) ?_
      refine lv_iload S.1 S.2.1 dL_law_942 (lv_at hl 0 rfl) ?_
      refine lv_bipush (v := 7) S.1 S.2.1 dL_law_944 (by decide) ?_
      refine r_iadd S dL_law_946 (v := 7) (by decide) ?_
      refine r_sld S hX hbl hbA hS 7 (by decide) (by decide) (by decide) (v := p7) e7 dL_law_947 ?_
      refine call_i (wr := []) (runV_C (wc := [((q 0), .inr (11, (mO q 0 0 0 0 0 0 0 0 (-1) 1 0 0 0 0 0 0 0 0 0))), ((q 58), .inl (cy 1, 768, .inl (fun _ => 0))), ((q 59), .inl (cy 0, 4, .inl (fun _ => 0))), ((q 60), .inl (cy 0, 4, .inl (fun _ => 0))), ((q 61), .inl (cy 0, 4, .inl (fun _ => 0)))]) (As := [.int p1, .int p2, .int 0, .int p4, .int p5, .int p6, .int p7]) (rest := [.int 0]) S (kX12_fault l D cy q p1 p2 0 p4 p5 p6 p7 z1 h1 z2 h2 0 rfl z4 h4 z5 h5 z6 h6 z7 h7) hK hP hD [0, 1, 2, 3, 4] (by decide) rfl 0 11 rfl rfl kw_1934 kw_1935 kw_1936 kw_152 kw_1937 okX12_fault rfl (by decide) hl.1 rfl (Nat.le_of_ble_eq_true rfl) dL_law_948 (by decide)) hP hD hS hA [0, 1, 2, 3, 4] [] rfl rfl (by decide) (by decide) (fun v948 u948 H locs w948 hP hD hS => ?_)
      have hP : va_P D vwCl [] H := hP
      have hD : va_D A [] := hD
      rcases w948 with ⟨rfl, w948_0_0⟩ | ⟨rfl, w948_1_0⟩
      · refine r_icmp_eq S 0 0 rfl rfl dL_law_951 (tgt := 2008) (by decide) (fun _ => ?_) (fun c => absurd c (by decide))
        exact law_on S hr hlk hX hbl hbA hA2 hS (lv_sub hl [0, 4] rfl) (by decide) (by decide)
      · exfalso; omega
    · refine lv_aload_n S.1 S.2.1 dL_law_895 rfl (lv_at hl 2 rfl) ?_
      refine lv_aload_n S.1 S.2.1 dL_law_896 rfl (lv_at hl 4 rfl) ?_
      refine lv_iload S.1 S.2.1 dL_law_897 (lv_at hl 0 rfl) ?_
      refine lv_iconst (v := 1) S.1 S.2.1 dL_law_899 (by decide) ?_
      refine r_iadd S dL_law_900 (v := 1) (by decide) ?_
      refine r_sld S hX hbl hbA hS 1 (by decide) (by decide) (by decide) (v := p1) e1 dL_law_901 ?_
      refine lv_aload_n S.1 S.2.1 dL_law_902 rfl (lv_at hl 4 rfl) ?_
      refine lv_iload S.1 S.2.1 dL_law_903 (lv_at hl 0 rfl) ?_
      refine lv_iconst (v := 2) S.1 S.2.1 dL_law_905 (by decide) ?_
      refine r_iadd S dL_law_906 (v := 2) (by decide) ?_
      refine r_sld S hX hbl hbA hS 2 (by decide) (by decide) (by decide) (v := p2) e2 dL_law_907 ?_
      refine lv_aload_n S.1 S.2.1 dL_law_908 rfl (lv_at hl 4 rfl) ?_
      refine lv_iload S.1 S.2.1 dL_law_909 (lv_at hl 0 rfl) ?_
      refine lv_iconst (v := 3) S.1 S.2.1 dL_law_911 (by decide) ?_
      refine r_iadd S dL_law_912 (v := 3) (by decide) ?_
      refine r_sld S hX hbl hbA hS 3 (by decide) (by decide) (by decide) (v := p3) e3 dL_law_913 ?_
      refine r_if_eq S z3 h3 dL_law_914 (tgt := 921) (by decide) (fun _ => ?_) (fun c => absurd c (by omega))
      refine lv_iconst (v := 0) S.1 S.2.1 dL_law_921 (by decide) ?_
      refine lv_aload_n S.1 S.2.1 dL_law_922 rfl (lv_at hl 4 rfl) ?_
      refine lv_iload S.1 S.2.1 dL_law_923 (lv_at hl 0 rfl) ?_
      refine lv_iconst (v := 4) S.1 S.2.1 dL_law_925 (by decide) ?_
      refine r_iadd S dL_law_926 (v := 4) (by decide) ?_
      refine r_sld S hX hbl hbA hS 4 (by decide) (by decide) (by decide) (v := p4) e4 dL_law_927 ?_
      refine lv_aload_n S.1 S.2.1 dL_law_928 rfl (lv_at hl 4 rfl) ?_
      refine lv_iload S.1 S.2.1 dL_law_929 (lv_at hl 0 rfl) ?_
      refine lv_iconst (v := 5) S.1 S.2.1 dL_law_931 (by decide) ?_
      refine r_iadd S dL_law_932 (v := 5) (by decide) ?_
      refine r_sld S hX hbl hbA hS 5 (by decide) (by decide) (by decide) (v := p5) e5 dL_law_933 ?_
      refine lv_aload_n S.1 S.2.1 dL_law_934 rfl (lv_at hl 4 rfl) ?_
      refine lv_iload S.1 S.2.1 dL_law_935 (lv_at hl 0 rfl) ?_
      refine lv_bipush (v := 6) S.1 S.2.1 dL_law_937 (by decide) ?_
      refine r_iadd S dL_law_939 (v := 6) (by decide) ?_
      refine r_sld S hX hbl hbA hS 6 (by decide) (by decide) (by decide) (v := p6) e6 dL_law_940 ?_
      refine lv_aload_n S.1 S.2.1 dL_law_941 rfl (lv_at hl 4 rfl) ?_
      refine lv_iload S.1 S.2.1 dL_law_942 (lv_at hl 0 rfl) ?_
      refine lv_bipush (v := 7) S.1 S.2.1 dL_law_944 (by decide) ?_
      refine r_iadd S dL_law_946 (v := 7) (by decide) ?_
      refine r_sld S hX hbl hbA hS 7 (by decide) (by decide) (by decide) (v := p7) e7 dL_law_947 ?_
      refine call_i (wr := []) (runV_C (wc := [((q 0), .inr (11, (mO q 0 0 0 0 0 0 0 0 (-1) 1 0 0 0 0 0 0 0 0 0))), ((q 58), .inl (cy 1, 768, .inl (fun _ => 0))), ((q 59), .inl (cy 0, 4, .inl (fun _ => 0))), ((q 60), .inl (cy 0, 4, .inl (fun _ => 0))), ((q 61), .inl (cy 0, 4, .inl (fun _ => 0)))]) (As := [.int p1, .int p2, .int 0, .int p4, .int p5, .int p6, .int p7]) (rest := [.int (-1)]) S (kX12_fault l D cy q p1 p2 0 p4 p5 p6 p7 z1 h1 z2 h2 0 rfl z4 h4 z5 h5 z6 h6 z7 h7) hK hP hD [0, 1, 2, 3, 4] (by decide) rfl 0 11 rfl rfl kw_1934 kw_1935 kw_1936 kw_152 kw_1937 okX12_fault rfl (by decide) hl.1 rfl (Nat.le_of_ble_eq_true rfl) dL_law_948 (by decide)) hP hD hS hA [0, 1, 2, 3, 4] [] rfl rfl (by decide) (by decide) (fun v948 u948 H locs w948 hP hD hS => ?_)
      have hP : va_P D vwCl [] H := hP
      have hD : va_D A [] := hD
      rcases w948 with ⟨rfl, w948_0_0⟩ | ⟨rfl, w948_1_0⟩
      · exfalso; omega
      · refine r_icmp_eq S (-1) (-1) rfl rfl dL_law_951 (tgt := 2008) (by decide) (fun _ => ?_) (fun c => absurd c (by decide))
        exact law_on S hr hlk hX hbl hbA hA2 hS (lv_sub hl [0, 4] rfl) (by decide) (by decide)
  · refine lv_iconst (v := 1) S.1 S.2.1 dL_law_861 (by decide) ?_
    refine lv_goto (tgt := 866) S.1 S.2.1 dL_law_862 (by decide) ?_
    refine lv_aload_n S.1 S.2.1 dL_law_866 rfl (lv_at hl 4 rfl) ?_
    refine lv_iload S.1 S.2.1 dL_law_867 (lv_at hl 0 rfl) ?_
    refine lv_iconst (v := 4) S.1 S.2.1 dL_law_869 (by decide) ?_
    refine r_iadd S dL_law_870 (v := 4) (by decide) ?_
    refine r_sld S hX hbl hbA hS 4 (by decide) (by decide) (by decide) (v := p4) e4 dL_law_871 ?_
    refine lv_aload_n S.1 S.2.1 dL_law_872 rfl (lv_at hl 4 rfl) ?_
    refine lv_iload S.1 S.2.1 dL_law_873 (lv_at hl 0 rfl) ?_
    refine lv_iconst (v := 5) S.1 S.2.1 dL_law_875 (by decide) ?_
    refine r_iadd S dL_law_876 (v := 5) (by decide) ?_
    refine r_sld S hX hbl hbA hS 5 (by decide) (by decide) (by decide) (v := p5) e5 dL_law_877 ?_
    refine lv_aload_n S.1 S.2.1 dL_law_878 rfl (lv_at hl 4 rfl) ?_
    refine lv_iload S.1 S.2.1 dL_law_879 (lv_at hl 0 rfl) ?_
    refine lv_bipush (v := 6) S.1 S.2.1 dL_law_881 (by decide) ?_
    refine r_iadd S dL_law_883 (v := 6) (by decide) ?_
    refine r_sld S hX hbl hbA hS 6 (by decide) (by decide) (by decide) (v := p6) e6 dL_law_884 ?_
    refine lv_aload_n S.1 S.2.1 dL_law_885 rfl (lv_at hl 4 rfl) ?_
    refine lv_iload S.1 S.2.1 dL_law_886 (lv_at hl 0 rfl) ?_
    refine lv_bipush (v := 7) S.1 S.2.1 dL_law_888 (by decide) ?_
    refine r_iadd S dL_law_890 (v := 7) (by decide) ?_
    refine r_sld S hX hbl hbA hS 7 (by decide) (by decide) (by decide) (v := p7) e7 dL_law_891 ?_
    refine call_i (wr := [((q 0), .inr (11, (mO q 0 0 0 0 0 0 0 0 (-1) 1 0 0 0 0 0 0 0 0 0))), ((q 58), .inl (cy 1, 768, .inl (fun _ => 0))), ((q 59), .inl (cy 0, 4, .inl (fun _ => 0))), ((q 60), .inl (cy 0, 4, .inl (fun _ => 0))), ((q 61), .inl (cy 0, 4, .inl (fun _ => 0)))]) (runV_C (wc := [((x 0), .inr (10, [.int 0, .int (-1), .ref (x 1), .ref (x 9), .int 0, .ref (x 10), .ref (x 13), .ref (x 16), .ref (x 29), .int 0, .int 0, .ref (x 30), .int 0, .ref (x 31), .ref (x 42), .int 0, .int 0, .null, .ref (x 43)])), ((x 29), .inl (cy 5, 4, .inr (.inr (.inr (.inr (fun _ => none))))))]) (As := [.int p1, .int p2, .int 1, .int p4, .int p5, .int p6, .int p7]) (rest := []) S (kX11_fault l D cy x p1 p2 1 p4 p5 p6 p7 z1 h1 z2 h2 1 rfl z4 h4 z5 h5 z6 h6 z7 h7 (by omega)) hK hP hD [0, 1] (by decide) rfl 0 10 rfl rfl kw_910 kw_911 kw_912 kw_144 kw_913 okX11_fault rfl (by decide) hl.1 rfl (Nat.le_of_ble_eq_true rfl) dL_law_892 (by decide)) hP hD hS hA [0, 1] [2, 3, 4, 5, 6] rfl rfl (by decide) (by decide) (fun v892 u892 H locs w892 hP hD hS => ?_)
    have hP : va_P D vwCl [((q 0), .inr (11, (mO q 0 0 0 0 0 0 0 0 (-1) 1 0 0 0 0 0 0 0 0 0))), ((q 58), .inl (cy 1, 768, .inl (fun _ => 0))), ((q 59), .inl (cy 0, 4, .inl (fun _ => 0))), ((q 60), .inl (cy 0, 4, .inl (fun _ => 0))), ((q 61), .inl (cy 0, 4, .inl (fun _ => 0)))] H := hP
    have hD : va_D A [((q 0), .inr (11, (mO q 0 0 0 0 0 0 0 0 (-1) 1 0 0 0 0 0 0 0 0 0))), ((q 58), .inl (cy 1, 768, .inl (fun _ => 0))), ((q 59), .inl (cy 0, 4, .inl (fun _ => 0))), ((q 60), .inl (cy 0, 4, .inl (fun _ => 0))), ((q 61), .inl (cy 0, 4, .inl (fun _ => 0)))] := hD
    rcases w892 with ⟨rfl, w892_0_0⟩ | ⟨rfl, w892_1_0⟩
    · refine lv_aload_n S.1 S.2.1 dL_law_895 rfl (lv_at hl 2 rfl) ?_
      refine lv_aload_n S.1 S.2.1 dL_law_896 rfl (lv_at hl 4 rfl) ?_
      refine lv_iload S.1 S.2.1 dL_law_897 (lv_at hl 0 rfl) ?_
      refine lv_iconst (v := 1) S.1 S.2.1 dL_law_899 (by decide) ?_
      refine r_iadd S dL_law_900 (v := 1) (by decide) ?_
      refine r_sld S hX hbl hbA hS 1 (by decide) (by decide) (by decide) (v := p1) e1 dL_law_901 ?_
      refine lv_aload_n S.1 S.2.1 dL_law_902 rfl (lv_at hl 4 rfl) ?_
      refine lv_iload S.1 S.2.1 dL_law_903 (lv_at hl 0 rfl) ?_
      refine lv_iconst (v := 2) S.1 S.2.1 dL_law_905 (by decide) ?_
      refine r_iadd S dL_law_906 (v := 2) (by decide) ?_
      refine r_sld S hX hbl hbA hS 2 (by decide) (by decide) (by decide) (v := p2) e2 dL_law_907 ?_
      refine lv_aload_n S.1 S.2.1 dL_law_908 rfl (lv_at hl 4 rfl) ?_
      refine lv_iload S.1 S.2.1 dL_law_909 (lv_at hl 0 rfl) ?_
      refine lv_iconst (v := 3) S.1 S.2.1 dL_law_911 (by decide) ?_
      refine r_iadd S dL_law_912 (v := 3) (by decide) ?_
      refine r_sld S hX hbl hbA hS 3 (by decide) (by decide) (by decide) (v := p3) e3 dL_law_913 ?_
      refine r_if_eq S z3 h3 dL_law_914 (tgt := 921) (by decide) (fun c => absurd c (by omega)) (fun _ => ?_)
      refine lv_iconst (v := 1) S.1 S.2.1 dL_law_917 (by decide) ?_
      refine lv_goto (tgt := 922) S.1 S.2.1 dL_law_918 (by decide) ?_
      refine lv_aload_n S.1 S.2.1 dL_law_922 rfl (lv_at hl 4 rfl) ?_
      refine lv_iload S.1 S.2.1 dL_law_923 (lv_at hl 0 rfl) ?_
      refine lv_iconst (v := 4) S.1 S.2.1 dL_law_925 (by decide) ?_
      refine r_iadd S dL_law_926 (v := 4) (by decide) ?_
      refine r_sld S hX hbl hbA hS 4 (by decide) (by decide) (by decide) (v := p4) e4 dL_law_927 ?_
      refine lv_aload_n S.1 S.2.1 dL_law_928 rfl (lv_at hl 4 rfl) ?_
      refine lv_iload S.1 S.2.1 dL_law_929 (lv_at hl 0 rfl) ?_
      refine lv_iconst (v := 5) S.1 S.2.1 dL_law_931 (by decide) ?_
      refine r_iadd S dL_law_932 (v := 5) (by decide) ?_
      refine r_sld S hX hbl hbA hS 5 (by decide) (by decide) (by decide) (v := p5) e5 dL_law_933 ?_
      refine lv_aload_n S.1 S.2.1 dL_law_934 rfl (lv_at hl 4 rfl) ?_
      refine lv_iload S.1 S.2.1 dL_law_935 (lv_at hl 0 rfl) ?_
      refine lv_bipush (v := 6) S.1 S.2.1 dL_law_937 (by decide) ?_
      refine r_iadd S dL_law_939 (v := 6) (by decide) ?_
      refine r_sld S hX hbl hbA hS 6 (by decide) (by decide) (by decide) (v := p6) e6 dL_law_940 ?_
      refine lv_aload_n S.1 S.2.1 dL_law_941 rfl (lv_at hl 4 rfl) ?_
      refine lv_iload S.1 S.2.1 dL_law_942 (lv_at hl 0 rfl) ?_
      refine lv_bipush (v := 7) S.1 S.2.1 dL_law_944 (by decide) ?_
      refine r_iadd S dL_law_946 (v := 7) (by decide) ?_
      refine r_sld S hX hbl hbA hS 7 (by decide) (by decide) (by decide) (v := p7) e7 dL_law_947 ?_
      refine call_i (wr := []) (runV_C (wc := [((q 0), .inr (11, (mO q 0 0 0 0 0 0 0 0 (-1) 1 0 0 0 0 0 0 0 0 0))), ((q 58), .inl (cy 1, 768, .inl (fun _ => 0))), ((q 59), .inl (cy 0, 4, .inl (fun _ => 0))), ((q 60), .inl (cy 0, 4, .inl (fun _ => 0))), ((q 61), .inl (cy 0, 4, .inl (fun _ => 0)))]) (As := [.int p1, .int p2, .int 1, .int p4, .int p5, .int p6, .int p7]) (rest := [.int 0]) S (kX12_fault l D cy q p1 p2 1 p4 p5 p6 p7 z1 h1 z2 h2 1 rfl z4 h4 z5 h5 z6 h6 z7 h7) hK hP hD [0, 1, 2, 3, 4] (by decide) rfl 0 11 rfl rfl kw_1934 kw_1935 kw_1936 kw_152 kw_1937 okX12_fault rfl (by decide) hl.1 rfl (Nat.le_of_ble_eq_true rfl) dL_law_948 (by decide)) hP hD hS hA [0, 1, 2, 3, 4] [] rfl rfl (by decide) (by decide) (fun v948 u948 H locs w948 hP hD hS => ?_)
      have hP : va_P D vwCl [] H := hP
      have hD : va_D A [] := hD
      rcases w948 with ⟨rfl, w948_0_0⟩ | ⟨rfl, w948_1_0⟩
      · refine r_icmp_eq S 0 0 rfl rfl dL_law_951 (tgt := 2008) (by decide) (fun _ => ?_) (fun c => absurd c (by decide))
        exact law_on S hr hlk hX hbl hbA hA2 hS (lv_sub hl [0, 4] rfl) (by decide) (by decide)
      · exfalso; omega
    · refine lv_aload_n S.1 S.2.1 dL_law_895 rfl (lv_at hl 2 rfl) ?_
      refine lv_aload_n S.1 S.2.1 dL_law_896 rfl (lv_at hl 4 rfl) ?_
      refine lv_iload S.1 S.2.1 dL_law_897 (lv_at hl 0 rfl) ?_
      refine lv_iconst (v := 1) S.1 S.2.1 dL_law_899 (by decide) ?_
      refine r_iadd S dL_law_900 (v := 1) (by decide) ?_
      refine r_sld S hX hbl hbA hS 1 (by decide) (by decide) (by decide) (v := p1) e1 dL_law_901 ?_
      refine lv_aload_n S.1 S.2.1 dL_law_902 rfl (lv_at hl 4 rfl) ?_
      refine lv_iload S.1 S.2.1 dL_law_903 (lv_at hl 0 rfl) ?_
      refine lv_iconst (v := 2) S.1 S.2.1 dL_law_905 (by decide) ?_
      refine r_iadd S dL_law_906 (v := 2) (by decide) ?_
      refine r_sld S hX hbl hbA hS 2 (by decide) (by decide) (by decide) (v := p2) e2 dL_law_907 ?_
      refine lv_aload_n S.1 S.2.1 dL_law_908 rfl (lv_at hl 4 rfl) ?_
      refine lv_iload S.1 S.2.1 dL_law_909 (lv_at hl 0 rfl) ?_
      refine lv_iconst (v := 3) S.1 S.2.1 dL_law_911 (by decide) ?_
      refine r_iadd S dL_law_912 (v := 3) (by decide) ?_
      refine r_sld S hX hbl hbA hS 3 (by decide) (by decide) (by decide) (v := p3) e3 dL_law_913 ?_
      refine r_if_eq S z3 h3 dL_law_914 (tgt := 921) (by decide) (fun c => absurd c (by omega)) (fun _ => ?_)
      refine lv_iconst (v := 1) S.1 S.2.1 dL_law_917 (by decide) ?_
      refine lv_goto (tgt := 922) S.1 S.2.1 dL_law_918 (by decide) ?_
      refine lv_aload_n S.1 S.2.1 dL_law_922 rfl (lv_at hl 4 rfl) ?_
      refine lv_iload S.1 S.2.1 dL_law_923 (lv_at hl 0 rfl) ?_
      refine lv_iconst (v := 4) S.1 S.2.1 dL_law_925 (by decide) ?_
      refine r_iadd S dL_law_926 (v := 4) (by decide) ?_
      refine r_sld S hX hbl hbA hS 4 (by decide) (by decide) (by decide) (v := p4) e4 dL_law_927 ?_
      refine lv_aload_n S.1 S.2.1 dL_law_928 rfl (lv_at hl 4 rfl) ?_
      refine lv_iload S.1 S.2.1 dL_law_929 (lv_at hl 0 rfl) ?_
      refine lv_iconst (v := 5) S.1 S.2.1 dL_law_931 (by decide) ?_
      refine r_iadd S dL_law_932 (v := 5) (by decide) ?_
      refine r_sld S hX hbl hbA hS 5 (by decide) (by decide) (by decide) (v := p5) e5 dL_law_933 ?_
      refine lv_aload_n S.1 S.2.1 dL_law_934 rfl (lv_at hl 4 rfl) ?_
      refine lv_iload S.1 S.2.1 dL_law_935 (lv_at hl 0 rfl) ?_
      refine lv_bipush (v := 6) S.1 S.2.1 dL_law_937 (by decide) ?_
      refine r_iadd S dL_law_939 (v := 6) (by decide) ?_
      refine r_sld S hX hbl hbA hS 6 (by decide) (by decide) (by decide) (v := p6) e6 dL_law_940 ?_
      refine lv_aload_n S.1 S.2.1 dL_law_941 rfl (lv_at hl 4 rfl) ?_
      refine lv_iload S.1 S.2.1 dL_law_942 (lv_at hl 0 rfl) ?_
      refine lv_bipush (v := 7) S.1 S.2.1 dL_law_944 (by decide) ?_
      refine r_iadd S dL_law_946 (v := 7) (by decide) ?_
      refine r_sld S hX hbl hbA hS 7 (by decide) (by decide) (by decide) (v := p7) e7 dL_law_947 ?_
      refine call_i (wr := []) (runV_C (wc := [((q 0), .inr (11, (mO q 0 0 0 0 0 0 0 0 (-1) 1 0 0 0 0 0 0 0 0 0))), ((q 58), .inl (cy 1, 768, .inl (fun _ => 0))), ((q 59), .inl (cy 0, 4, .inl (fun _ => 0))), ((q 60), .inl (cy 0, 4, .inl (fun _ => 0))), ((q 61), .inl (cy 0, 4, .inl (fun _ => 0)))]) (As := [.int p1, .int p2, .int 1, .int p4, .int p5, .int p6, .int p7]) (rest := [.int (-1)]) S (kX12_fault l D cy q p1 p2 1 p4 p5 p6 p7 z1 h1 z2 h2 1 rfl z4 h4 z5 h5 z6 h6 z7 h7) hK hP hD [0, 1, 2, 3, 4] (by decide) rfl 0 11 rfl rfl kw_1934 kw_1935 kw_1936 kw_152 kw_1937 okX12_fault rfl (by decide) hl.1 rfl (Nat.le_of_ble_eq_true rfl) dL_law_948 (by decide)) hP hD hS hA [0, 1, 2, 3, 4] [] rfl rfl (by decide) (by decide) (fun v948 u948 H locs w948 hP hD hS => ?_)
      have hP : va_P D vwCl [] H := hP
      have hD : va_D A [] := hD
      rcases w948 with ⟨rfl, w948_0_0⟩ | ⟨rfl, w948_1_0⟩
      · exfalso; omega
      · refine r_icmp_eq S (-1) (-1) rfl rfl dL_law_951 (tgt := 2008) (by decide) (fun _ => ?_) (fun c => absurd c (by decide))
        exact law_on S hr hlk hX hbl hbA hA2 hS (lv_sub hl [0, 4] rfl) (by decide) (by decide)
set_option maxHeartbeats 4000000 in
set_option maxRecDepth 100000 in
theorem law_c12 (l : Launch) (hst : l.stackTraces = false) {p : Program} {e : Env} {s : State} {m : MethodId} {below : List Frame} {meth : Method} {c : Code} {H : Heap} {locs : List Loc} {ls : Array Slot} {D : va_G} {cy : Nat → ClassId} {b : Nat} {xs : Nat → Int32} {A : Nat → Prop} {x q : Nat → Nat} {o : Nat} (S : CallFix p m c cL_law 7 s #[Value.ref b] uu "LandSurveyLaw") (hr : meth.sig.returnType = ret) (hlk : meth.locks = false) (hX : va_X b 8 xs s s.heap) (hbl : b < s.heap.size) (hbA : ¬ A b) (hA : ∀ q : Nat, s.heap.size ≤ q → A q) (hA2 : ∀ q : Nat, A q → s.heap.size ≤ q) (hK : KX D cy s) (hE : Ey s) (hZ : Zs A s s.heap) (hP : va_P D vwCl [((x 0), .inr (10, [.int 0, .int (-1), .ref (x 1), .ref (x 9), .int 0, .ref (x 10), .ref (x 13), .ref (x 16), .ref (x 29), .int 0, .int 0, .ref (x 30), .int 0, .ref (x 31), .ref (x 42), .int 0, .int 0, .null, .ref (x 43)])), ((q 0), .inr (11, (mO q 0 0 0 0 0 0 0 0 (-1) 1 0 0 0 0 0 0 0 0 0)))] H) (hD : va_D A [((x 0), .inr (10, [.int 0, .int (-1), .ref (x 1), .ref (x 9), .int 0, .ref (x 10), .ref (x 13), .ref (x 16), .ref (x 29), .int 0, .int 0, .ref (x 30), .int 0, .ref (x 31), .ref (x 42), .int 0, .int 0, .null, .ref (x 43)])), ((q 0), .inr (11, (mO q 0 0 0 0 0 0 0 0 (-1) 1 0 0 0 0 0 0 0 0 0)))]) (hS : va_S A s.heap H locs) (hl : lv_has ls 7 [(4, .int 0), (3, .ref o), (2, .ref (q 0)), (1, .ref (x 0)), (0, .ref b)]) : W p l e room_1 s m #[Value.ref b] below meth c H locs 114 51906 (lw_Z below #[Value.ref b] s) (F0 m 956 ls []) := by
  obtain ⟨p1, e1⟩ : ∃ y, xs 1 = y := ⟨_, rfl⟩
  obtain ⟨z1, h1⟩ : ∃ z, p1.toInt = z := ⟨_, rfl⟩
  obtain ⟨p2, e2⟩ : ∃ y, xs 2 = y := ⟨_, rfl⟩
  obtain ⟨z2, h2⟩ : ∃ z, p2.toInt = z := ⟨_, rfl⟩
  obtain ⟨p3, e3⟩ : ∃ y, xs 3 = y := ⟨_, rfl⟩
  obtain ⟨z3, h3⟩ : ∃ z, p3.toInt = z := ⟨_, rfl⟩
  obtain ⟨p4, e4⟩ : ∃ y, xs 4 = y := ⟨_, rfl⟩
  obtain ⟨z4, h4⟩ : ∃ z, p4.toInt = z := ⟨_, rfl⟩
  obtain ⟨p5, e5⟩ : ∃ y, xs 5 = y := ⟨_, rfl⟩
  obtain ⟨z5, h5⟩ : ∃ z, p5.toInt = z := ⟨_, rfl⟩
  obtain ⟨p6, e6⟩ : ∃ y, xs 6 = y := ⟨_, rfl⟩
  obtain ⟨z6, h6⟩ : ∃ z, p6.toInt = z := ⟨_, rfl⟩
  obtain ⟨p7, e7⟩ : ∃ y, xs 7 = y := ⟨_, rfl⟩
  obtain ⟨z7, h7⟩ : ∃ z, p7.toInt = z := ⟨_, rfl⟩
  refine lv_aload_n S.1 S.2.1 dL_law_956 rfl (lv_at hl 3 rfl) ?_
  refine lv_aload_n S.1 S.2.1 dL_law_957 rfl (lv_at hl 4 rfl) ?_
  refine lv_iload S.1 S.2.1 dL_law_958 (lv_at hl 0 rfl) ?_
  refine lv_iconst (v := 1) S.1 S.2.1 dL_law_960 (by decide) ?_
  refine r_iadd S dL_law_961 (v := 1) (by decide) ?_
  refine r_sld S hX hbl hbA hS 1 (by decide) (by decide) (by decide) (v := p1) e1 dL_law_962 ?_
  refine call_i (wr := [((q 0), .inr (11, (mO q 0 0 0 0 0 0 0 0 (-1) 1 0 0 0 0 0 0 0 0 0)))]) (runV_C (wc := [((x 0), .inr (10, [.int 0, .int (-1), .ref (x 1), .ref (x 9), .int 0, .ref (x 10), .ref (x 13), .ref (x 16), .ref (x 29), .int 0, .int 0, .ref (x 30), .int 0, .ref (x 31), .ref (x 42), .int 0, .int 0, .null, .ref (x 43)]))]) (As := [.int p1]) (rest := []) S (kX11_rivalry l D cy x p1 z1 h1) hK hP hD [0] (by decide) rfl 0 10 rfl rfl kw_944 kw_945 kw_946 kw_144 kw_947 okX11_rivalry rfl (by decide) hl.1 rfl (Nat.le_of_ble_eq_true rfl) dL_law_963 (by decide)) hP hD hS hA [0] [1] rfl rfl (by decide) (by decide) (fun v963 u963 H locs w963 hP hD hS => ?_)
  have hP : va_P D vwCl [((q 0), .inr (11, (mO q 0 0 0 0 0 0 0 0 (-1) 1 0 0 0 0 0 0 0 0 0)))] H := hP
  have hD : va_D A [((q 0), .inr (11, (mO q 0 0 0 0 0 0 0 0 (-1) 1 0 0 0 0 0 0 0 0 0)))] := hD
  rcases w963 with ⟨rfl, w963_0_0⟩ | ⟨rfl, w963_1_0⟩
  · refine lv_aload_n S.1 S.2.1 dL_law_966 rfl (lv_at hl 2 rfl) ?_
    refine lv_aload_n S.1 S.2.1 dL_law_967 rfl (lv_at hl 4 rfl) ?_
    refine lv_iload S.1 S.2.1 dL_law_968 (lv_at hl 0 rfl) ?_
    refine lv_iconst (v := 1) S.1 S.2.1 dL_law_970 (by decide) ?_
    refine r_iadd S dL_law_971 (v := 1) (by decide) ?_
    refine r_sld S hX hbl hbA hS 1 (by decide) (by decide) (by decide) (v := p1) e1 dL_law_972 ?_
    refine call_i (wr := []) (runV_C (wc := [((q 0), .inr (11, (mO q 0 0 0 0 0 0 0 0 (-1) 1 0 0 0 0 0 0 0 0 0)))]) (As := [.int p1]) (rest := [.int 1]) S (kX12_rivalry l D cy q p1 z1 h1) hK hP hD [0] (by decide) rfl 0 11 rfl rfl kw_1938 kw_1939 kw_1940 kw_152 kw_1941 okX12_rivalry rfl (by decide) hl.1 rfl (Nat.le_of_ble_eq_true rfl) dL_law_973 (by decide)) hP hD hS hA [0] [] rfl rfl (by decide) (by decide) (fun v973 u973 H locs w973 hP hD hS => ?_)
    have hP : va_P D vwCl [] H := hP
    have hD : va_D A [] := hD
    rcases w973 with ⟨rfl, w973_0_0⟩ | ⟨rfl, w973_1_0⟩
    · refine r_icmp_eq S 1 1 rfl rfl dL_law_976 (tgt := 2008) (by decide) (fun _ => ?_) (fun c => absurd c (by decide))
      exact law_on S hr hlk hX hbl hbA hA2 hS (lv_sub hl [0, 4] rfl) (by decide) (by decide)
    · exfalso; omega
  · refine lv_aload_n S.1 S.2.1 dL_law_966 rfl (lv_at hl 2 rfl) ?_
    refine lv_aload_n S.1 S.2.1 dL_law_967 rfl (lv_at hl 4 rfl) ?_
    refine lv_iload S.1 S.2.1 dL_law_968 (lv_at hl 0 rfl) ?_
    refine lv_iconst (v := 1) S.1 S.2.1 dL_law_970 (by decide) ?_
    refine r_iadd S dL_law_971 (v := 1) (by decide) ?_
    refine r_sld S hX hbl hbA hS 1 (by decide) (by decide) (by decide) (v := p1) e1 dL_law_972 ?_
    refine call_i (wr := []) (runV_C (wc := [((q 0), .inr (11, (mO q 0 0 0 0 0 0 0 0 (-1) 1 0 0 0 0 0 0 0 0 0)))]) (As := [.int p1]) (rest := [.int 0]) S (kX12_rivalry l D cy q p1 z1 h1) hK hP hD [0] (by decide) rfl 0 11 rfl rfl kw_1938 kw_1939 kw_1940 kw_152 kw_1941 okX12_rivalry rfl (by decide) hl.1 rfl (Nat.le_of_ble_eq_true rfl) dL_law_973 (by decide)) hP hD hS hA [0] [] rfl rfl (by decide) (by decide) (fun v973 u973 H locs w973 hP hD hS => ?_)
    have hP : va_P D vwCl [] H := hP
    have hD : va_D A [] := hD
    rcases w973 with ⟨rfl, w973_0_0⟩ | ⟨rfl, w973_1_0⟩
    · exfalso; omega
    · refine r_icmp_eq S 0 0 rfl rfl dL_law_976 (tgt := 2008) (by decide) (fun _ => ?_) (fun c => absurd c (by decide))
      exact law_on S hr hlk hX hbl hbA hA2 hS (lv_sub hl [0, 4] rfl) (by decide) (by decide)
set_option maxHeartbeats 4000000 in
set_option maxRecDepth 100000 in
theorem law_c13 (l : Launch) (hst : l.stackTraces = false) {p : Program} {e : Env} {s : State} {m : MethodId} {below : List Frame} {meth : Method} {c : Code} {H : Heap} {locs : List Loc} {ls : Array Slot} {D : va_G} {cy : Nat → ClassId} {b : Nat} {xs : Nat → Int32} {A : Nat → Prop} {x q : Nat → Nat} {o : Nat} (S : CallFix p m c cL_law 7 s #[Value.ref b] uu "LandSurveyLaw") (hr : meth.sig.returnType = ret) (hlk : meth.locks = false) (hX : va_X b 8 xs s s.heap) (hbl : b < s.heap.size) (hbA : ¬ A b) (hA : ∀ q : Nat, s.heap.size ≤ q → A q) (hA2 : ∀ q : Nat, A q → s.heap.size ≤ q) (hK : KX D cy s) (hE : Ey s) (hZ : Zs A s s.heap) (hP : va_P D vwCl [((x 0), .inr (10, [.int 0, .int (-1), .ref (x 1), .ref (x 9), .int 0, .ref (x 10), .ref (x 13), .ref (x 16), .ref (x 29), .int 0, .int 0, .ref (x 30), .int 0, .ref (x 31), .ref (x 42), .int 0, .int 0, .null, .ref (x 43)])), (o, .inl (cy 2, 1, .inr (.inl (fun _ => 0)))), ((q 0), .inr (11, (mO q 0 0 0 0 0 0 0 0 (-1) 1 0 0 0 0 0 0 0 0 0)))] H) (hD : va_D A [((x 0), .inr (10, [.int 0, .int (-1), .ref (x 1), .ref (x 9), .int 0, .ref (x 10), .ref (x 13), .ref (x 16), .ref (x 29), .int 0, .int 0, .ref (x 30), .int 0, .ref (x 31), .ref (x 42), .int 0, .int 0, .null, .ref (x 43)])), (o, .inl (cy 2, 1, .inr (.inl (fun _ => 0)))), ((q 0), .inr (11, (mO q 0 0 0 0 0 0 0 0 (-1) 1 0 0 0 0 0 0 0 0 0)))]) (hS : va_S A s.heap H locs) (hl : lv_has ls 7 [(4, .int 0), (3, .ref o), (2, .ref (q 0)), (1, .ref (x 0)), (0, .ref b)]) : W p l e room_1 s m #[Value.ref b] below meth c H locs 114 51906 (lw_Z below #[Value.ref b] s) (F0 m 981 ls []) := by
  obtain ⟨p1, e1⟩ : ∃ y, xs 1 = y := ⟨_, rfl⟩
  obtain ⟨z1, h1⟩ : ∃ z, p1.toInt = z := ⟨_, rfl⟩
  obtain ⟨p2, e2⟩ : ∃ y, xs 2 = y := ⟨_, rfl⟩
  obtain ⟨z2, h2⟩ : ∃ z, p2.toInt = z := ⟨_, rfl⟩
  obtain ⟨p3, e3⟩ : ∃ y, xs 3 = y := ⟨_, rfl⟩
  obtain ⟨z3, h3⟩ : ∃ z, p3.toInt = z := ⟨_, rfl⟩
  obtain ⟨p4, e4⟩ : ∃ y, xs 4 = y := ⟨_, rfl⟩
  obtain ⟨z4, h4⟩ : ∃ z, p4.toInt = z := ⟨_, rfl⟩
  obtain ⟨p5, e5⟩ : ∃ y, xs 5 = y := ⟨_, rfl⟩
  obtain ⟨z5, h5⟩ : ∃ z, p5.toInt = z := ⟨_, rfl⟩
  obtain ⟨p6, e6⟩ : ∃ y, xs 6 = y := ⟨_, rfl⟩
  obtain ⟨z6, h6⟩ : ∃ z, p6.toInt = z := ⟨_, rfl⟩
  obtain ⟨p7, e7⟩ : ∃ y, xs 7 = y := ⟨_, rfl⟩
  obtain ⟨z7, h7⟩ : ∃ z, p7.toInt = z := ⟨_, rfl⟩
  refine lv_aload_n S.1 S.2.1 dL_law_981 rfl (lv_at hl 3 rfl) ?_
  refine lv_aload_n S.1 S.2.1 dL_law_982 rfl (lv_at hl 4 rfl) ?_
  refine lv_iload S.1 S.2.1 dL_law_983 (lv_at hl 0 rfl) ?_
  refine lv_iconst (v := 1) S.1 S.2.1 dL_law_985 (by decide) ?_
  refine r_iadd S dL_law_986 (v := 1) (by decide) ?_
  refine r_sld S hX hbl hbA hS 1 (by decide) (by decide) (by decide) (v := p1) e1 dL_law_987 ?_
  refine lv_aload_n S.1 S.2.1 dL_law_988 rfl (lv_at hl 4 rfl) ?_
  refine lv_iload S.1 S.2.1 dL_law_989 (lv_at hl 0 rfl) ?_
  refine lv_iconst (v := 2) S.1 S.2.1 dL_law_991 (by decide) ?_
  refine r_iadd S dL_law_992 (v := 2) (by decide) ?_
  refine r_sld S hX hbl hbA hS 2 (by decide) (by decide) (by decide) (v := p2) e2 dL_law_993 ?_
  refine lv_aload_n S.1 S.2.1 dL_law_994 rfl (lv_at hl 1 rfl) ?_
  refine call_i (wr := [((q 0), .inr (11, (mO q 0 0 0 0 0 0 0 0 (-1) 1 0 0 0 0 0 0 0 0 0)))]) (runS_W (wc := [((x 0), .inr (10, [.int 0, .int (-1), .ref (x 1), .ref (x 9), .int 0, .ref (x 10), .ref (x 13), .ref (x 16), .ref (x 29), .int 0, .int 0, .ref (x 30), .int 0, .ref (x 31), .ref (x 42), .int 0, .int 0, .null, .ref (x 43)])), (o, .inl (cy 2, 1, .inr (.inl (fun _ => 0))))]) (As := [.ref (x 0), .int p1, .int p2, .ref o]) (rest := []) S (kL_look l D cy x o p1 p2 z1 h1 z2 h2 hst) hK hP hD hS hA hE hZ [0, 1] (by decide) rfl kw_1361 kw_1362 kw_143 kw_1363 okL_look rfl (by decide) hl.1 rfl (Nat.le_of_ble_eq_true rfl) dL_law_995 (by decide)) hP hD hS hA [0, 1] [2] rfl rfl (by decide) (by decide) (fun v995 u995 H locs w995 hP hD hS => ?_)
  have hP : va_P D vwCl [((q 0), .inr (11, (mO q 0 0 0 0 0 0 0 0 (-1) 1 0 0 0 0 0 0 0 0 0)))] H := hP
  have hD : va_D A [((q 0), .inr (11, (mO q 0 0 0 0 0 0 0 0 (-1) 1 0 0 0 0 0 0 0 0 0)))] := hD
  subst w995
  refine lv_istore (lv' := [(5, .int 1), (4, .int 0), (3, .ref o), (2, .ref (q 0)), (1, .ref (x 0)), (0, .ref b)]) S.1 S.2.1 dL_law_998 hl (by decide) rfl (fun ls hl => ?_)
  refine lv_aload_n S.1 S.2.1 dL_law_1000 rfl (lv_at hl 3 rfl) ?_
  refine lv_aload_n S.1 S.2.1 dL_law_1001 rfl (lv_at hl 5 rfl) ?_
  refine lv_iload S.1 S.2.1 dL_law_1002 (lv_at hl 1 rfl) ?_
  refine lv_iconst (v := 1) S.1 S.2.1 dL_law_1004 (by decide) ?_
  refine r_iadd S dL_law_1005 (v := 1) (by decide) ?_
  refine r_sld S hX hbl hbA hS 1 (by decide) (by decide) (by decide) (v := p1) e1 dL_law_1006 ?_
  refine lv_aload_n S.1 S.2.1 dL_law_1007 rfl (lv_at hl 5 rfl) ?_
  refine lv_iload S.1 S.2.1 dL_law_1008 (lv_at hl 1 rfl) ?_
  refine lv_iconst (v := 2) S.1 S.2.1 dL_law_1010 (by decide) ?_
  refine r_iadd S dL_law_1011 (v := 2) (by decide) ?_
  refine r_sld S hX hbl hbA hS 2 (by decide) (by decide) (by decide) (v := p2) e2 dL_law_1012 ?_
  refine call_i (wr := []) (runV_C (wc := [((q 0), .inr (11, (mO q 0 0 0 0 0 0 0 0 (-1) 1 0 0 0 0 0 0 0 0 0)))]) (As := [.int p1, .int p2]) (rest := []) S (kX12_look l D cy q p1 p2 z1 h1 z2 h2) hK hP hD [0] (by decide) rfl 0 11 rfl rfl kw_1942 kw_1943 kw_1944 kw_152 kw_1945 okX12_look rfl (by decide) hl.1 rfl (Nat.le_of_ble_eq_true rfl) dL_law_1013 (by decide)) hP hD hS hA [0] [] rfl rfl (by decide) (by decide) (fun v1013 u1013 H locs w1013 hP hD hS => ?_)
  obtain ⟨tl_1013, rfl⟩ : ∃ z, z = u1013 := ⟨_, rfl⟩
  have hP : va_P D vwCl [((q 0), .inr (11, (.int 1 :: tl_1013)))] H := hP
  have hD : va_D A [((q 0), .inr (11, (.int 1 :: tl_1013)))] := hD
  subst w1013
  refine lv_istore (lv' := [(6, .int 0), (5, .int 1), (4, .int 0), (3, .ref o), (2, .ref (q 0)), (1, .ref (x 0)), (0, .ref b)]) S.1 S.2.1 dL_law_1016 hl (by decide) rfl (fun ls hl => ?_)
  refine lv_aload_n S.1 S.2.1 dL_law_1018 rfl (lv_at hl 4 rfl) ?_
  refine call_ri (runV_R (wc := [((q 0), .inr (11, (.int 1 :: tl_1013)))]) (As := []) (rest := []) S (kX12_thrown l D cy q 1 tl_1013) hK hP [0] rfl 0 11 rfl rfl kw_1462 kw_1463 kw_1464 kw_152 kw_1465 okX12_thrown rfl (by decide) hl.1 rfl (Nat.le_of_ble_eq_true rfl) dL_law_1019 (by decide)) (fun v1019 w1019 => ?_)
  subst w1019
  refine lv_iload S.1 S.2.1 dL_law_1022 (lv_at hl 1 rfl) ?_
  refine r_icmp_eq S 1 1 rfl rfl dL_law_1024 (tgt := 1029) (by decide) (fun _ => ?_) (fun c => absurd c (by decide))
  refine lv_iload S.1 S.2.1 dL_law_1029 (lv_at hl 1 rfl) ?_
  refine r_if_ne S 1 rfl dL_law_1031 (tgt := 1046) (by decide) (fun _ => ?_) (fun c => absurd c (by decide))
  refine lv_goto (tgt := 2008) S.1 S.2.1 dL_law_1046 (by decide) ?_
  exact law_on S hr hlk hX hbl hbA hA2 hS (lv_sub hl [2, 6] rfl) (by decide) (by decide)
set_option maxHeartbeats 4000000 in
set_option maxRecDepth 100000 in
theorem law_c14 (l : Launch) (hst : l.stackTraces = false) {p : Program} {e : Env} {s : State} {m : MethodId} {below : List Frame} {meth : Method} {c : Code} {H : Heap} {locs : List Loc} {ls : Array Slot} {D : va_G} {cy : Nat → ClassId} {b : Nat} {xs : Nat → Int32} {A : Nat → Prop} {x q : Nat → Nat} {o : Nat} (S : CallFix p m c cL_law 7 s #[Value.ref b] uu "LandSurveyLaw") (hr : meth.sig.returnType = ret) (hlk : meth.locks = false) (hX : va_X b 8 xs s s.heap) (hbl : b < s.heap.size) (hbA : ¬ A b) (hA : ∀ q : Nat, s.heap.size ≤ q → A q) (hA2 : ∀ q : Nat, A q → s.heap.size ≤ q) (hK : KX D cy s) (hE : Ey s) (hZ : Zs A s s.heap) (hP : va_P D vwCl [((x 0), .inr (10, [.int 0, .int (-1), .ref (x 1), .ref (x 9), .int 0, .ref (x 10), .ref (x 13), .ref (x 16), .ref (x 29), .int 0, .int 0, .ref (x 30), .int 0, .ref (x 31), .ref (x 42), .int 0, .int 0, .null, .ref (x 43)])), ((x 13), .inr (4, [.ref (x 14), .ref (x 15), .int 0, .ref (x 16)])), ((x 16), .inr (5, [.int 0, .ref (x 17), .ref (x 18), .ref (x 19), .ref (x 20), .ref (x 21), .int 0, .int 10, .int 20, .int 0, .int 0, .ref (x 22), .ref (x 23), .int 0, .ref (x 24), .ref (x 25), .ref (x 26), .ref (x 27), .ref (x 28)])), ((x 42), .inl (cy 7, 16, .inr (.inr (.inr (.inr (fun _ => none)))))), ((x 31), .inr (6, [.ref (x 32), .ref (x 9), .ref (x 29), .int 0, .int 0, .int 0, .ref (x 36), .ref (x 37), .ref (x 38), .ref (x 39), .ref (x 40), .ref (x 41), .int 0])), ((x 32), .inr (9, [.ref (x 33), .ref (x 34), .ref (x 35), .int 0])), ((x 33), .inl (cy 0, 384, .inl (fun _ => 0))), ((x 34), .inl (cy 2, 384, .inr (.inl (fun _ => 0)))), ((x 35), .inl (cy 0, 96, .inl (fun _ => 0))), ((x 36), .inl (cy 0, 96, .inl (fun _ => 0))), ((x 38), .inl (cy 0, 96, .inl (fun _ => 0))), ((q 0), .inr (11, (mO q 0 0 0 0 0 0 0 0 (-1) 1 0 0 0 0 0 0 0 0 0))), ((q 63), .inl (cy 0, 600, .inl (fun _ => 0))), ((q 64), .inl (cy 0, 600, .inl (fun _ => 0))), ((q 65), .inl (cy 0, 600, .inl (fun _ => 0))), ((q 66), .inl (cy 0, 600, .inl (fun _ => 0))), ((q 67), .inl (cy 0, 97, .inl (fun _ => 0))), ((q 68), .inl (cy 0, 97, .inl (fun _ => 0))), ((q 70), .inl (cy 1, 16, .inl (fun _ => 0))), ((q 71), .inl (cy 0, 16, .inl (fun _ => 0))), ((q 72), .inl (cy 2, 16, .inr (.inl (fun _ => 0)))), ((q 73), .inl (cy 1, 16, .inl (fun _ => 0))), ((q 74), .inl (cy 1, 16, .inl (fun _ => 0)))] H) (hD : va_D A [((x 0), .inr (10, [.int 0, .int (-1), .ref (x 1), .ref (x 9), .int 0, .ref (x 10), .ref (x 13), .ref (x 16), .ref (x 29), .int 0, .int 0, .ref (x 30), .int 0, .ref (x 31), .ref (x 42), .int 0, .int 0, .null, .ref (x 43)])), ((x 13), .inr (4, [.ref (x 14), .ref (x 15), .int 0, .ref (x 16)])), ((x 16), .inr (5, [.int 0, .ref (x 17), .ref (x 18), .ref (x 19), .ref (x 20), .ref (x 21), .int 0, .int 10, .int 20, .int 0, .int 0, .ref (x 22), .ref (x 23), .int 0, .ref (x 24), .ref (x 25), .ref (x 26), .ref (x 27), .ref (x 28)])), ((x 42), .inl (cy 7, 16, .inr (.inr (.inr (.inr (fun _ => none)))))), ((x 31), .inr (6, [.ref (x 32), .ref (x 9), .ref (x 29), .int 0, .int 0, .int 0, .ref (x 36), .ref (x 37), .ref (x 38), .ref (x 39), .ref (x 40), .ref (x 41), .int 0])), ((x 32), .inr (9, [.ref (x 33), .ref (x 34), .ref (x 35), .int 0])), ((x 33), .inl (cy 0, 384, .inl (fun _ => 0))), ((x 34), .inl (cy 2, 384, .inr (.inl (fun _ => 0)))), ((x 35), .inl (cy 0, 96, .inl (fun _ => 0))), ((x 36), .inl (cy 0, 96, .inl (fun _ => 0))), ((x 38), .inl (cy 0, 96, .inl (fun _ => 0))), ((q 0), .inr (11, (mO q 0 0 0 0 0 0 0 0 (-1) 1 0 0 0 0 0 0 0 0 0))), ((q 63), .inl (cy 0, 600, .inl (fun _ => 0))), ((q 64), .inl (cy 0, 600, .inl (fun _ => 0))), ((q 65), .inl (cy 0, 600, .inl (fun _ => 0))), ((q 66), .inl (cy 0, 600, .inl (fun _ => 0))), ((q 67), .inl (cy 0, 97, .inl (fun _ => 0))), ((q 68), .inl (cy 0, 97, .inl (fun _ => 0))), ((q 70), .inl (cy 1, 16, .inl (fun _ => 0))), ((q 71), .inl (cy 0, 16, .inl (fun _ => 0))), ((q 72), .inl (cy 2, 16, .inr (.inl (fun _ => 0)))), ((q 73), .inl (cy 1, 16, .inl (fun _ => 0))), ((q 74), .inl (cy 1, 16, .inl (fun _ => 0)))]) (hS : va_S A s.heap H locs) (hl : lv_has ls 7 [(4, .int 0), (3, .ref o), (2, .ref (q 0)), (1, .ref (x 0)), (0, .ref b)]) : W p l e room_1 s m #[Value.ref b] below meth c H locs 114 51906 (lw_Z below #[Value.ref b] s) (F0 m 1049 ls []) := by
  obtain ⟨p1, e1⟩ : ∃ y, xs 1 = y := ⟨_, rfl⟩
  obtain ⟨z1, h1⟩ : ∃ z, p1.toInt = z := ⟨_, rfl⟩
  obtain ⟨p2, e2⟩ : ∃ y, xs 2 = y := ⟨_, rfl⟩
  obtain ⟨z2, h2⟩ : ∃ z, p2.toInt = z := ⟨_, rfl⟩
  obtain ⟨p3, e3⟩ : ∃ y, xs 3 = y := ⟨_, rfl⟩
  obtain ⟨z3, h3⟩ : ∃ z, p3.toInt = z := ⟨_, rfl⟩
  obtain ⟨p4, e4⟩ : ∃ y, xs 4 = y := ⟨_, rfl⟩
  obtain ⟨z4, h4⟩ : ∃ z, p4.toInt = z := ⟨_, rfl⟩
  obtain ⟨p5, e5⟩ : ∃ y, xs 5 = y := ⟨_, rfl⟩
  obtain ⟨z5, h5⟩ : ∃ z, p5.toInt = z := ⟨_, rfl⟩
  obtain ⟨p6, e6⟩ : ∃ y, xs 6 = y := ⟨_, rfl⟩
  obtain ⟨z6, h6⟩ : ∃ z, p6.toInt = z := ⟨_, rfl⟩
  obtain ⟨p7, e7⟩ : ∃ y, xs 7 = y := ⟨_, rfl⟩
  obtain ⟨z7, h7⟩ : ∃ z, p7.toInt = z := ⟨_, rfl⟩
  refine lv_aload_n S.1 S.2.1 dL_law_1049 rfl (lv_at hl 3 rfl) ?_
  refine lv_aload_n S.1 S.2.1 dL_law_1050 rfl (lv_at hl 4 rfl) ?_
  refine lv_iload S.1 S.2.1 dL_law_1051 (lv_at hl 0 rfl) ?_
  refine lv_iconst (v := 1) S.1 S.2.1 dL_law_1053 (by decide) ?_
  refine r_iadd S dL_law_1054 (v := 1) (by decide) ?_
  refine r_sld S hX hbl hbA hS 1 (by decide) (by decide) (by decide) (v := p1) e1 dL_law_1055 ?_
  refine call_i (wr := [((q 0), .inr (11, (mO q 0 0 0 0 0 0 0 0 (-1) 1 0 0 0 0 0 0 0 0 0))), ((q 63), .inl (cy 0, 600, .inl (fun _ => 0))), ((q 64), .inl (cy 0, 600, .inl (fun _ => 0))), ((q 65), .inl (cy 0, 600, .inl (fun _ => 0))), ((q 66), .inl (cy 0, 600, .inl (fun _ => 0))), ((q 67), .inl (cy 0, 97, .inl (fun _ => 0))), ((q 68), .inl (cy 0, 97, .inl (fun _ => 0))), ((q 70), .inl (cy 1, 16, .inl (fun _ => 0))), ((q 71), .inl (cy 0, 16, .inl (fun _ => 0))), ((q 72), .inl (cy 2, 16, .inr (.inl (fun _ => 0)))), ((q 73), .inl (cy 1, 16, .inl (fun _ => 0))), ((q 74), .inl (cy 1, 16, .inl (fun _ => 0)))]) (runV_C (wc := [((x 0), .inr (10, [.int 0, .int (-1), .ref (x 1), .ref (x 9), .int 0, .ref (x 10), .ref (x 13), .ref (x 16), .ref (x 29), .int 0, .int 0, .ref (x 30), .int 0, .ref (x 31), .ref (x 42), .int 0, .int 0, .null, .ref (x 43)])), ((x 13), .inr (4, [.ref (x 14), .ref (x 15), .int 0, .ref (x 16)])), ((x 16), .inr (5, [.int 0, .ref (x 17), .ref (x 18), .ref (x 19), .ref (x 20), .ref (x 21), .int 0, .int 10, .int 20, .int 0, .int 0, .ref (x 22), .ref (x 23), .int 0, .ref (x 24), .ref (x 25), .ref (x 26), .ref (x 27), .ref (x 28)])), ((x 42), .inl (cy 7, 16, .inr (.inr (.inr (.inr (fun _ => none)))))), ((x 31), .inr (6, [.ref (x 32), .ref (x 9), .ref (x 29), .int 0, .int 0, .int 0, .ref (x 36), .ref (x 37), .ref (x 38), .ref (x 39), .ref (x 40), .ref (x 41), .int 0])), ((x 32), .inr (9, [.ref (x 33), .ref (x 34), .ref (x 35), .int 0])), ((x 33), .inl (cy 0, 384, .inl (fun _ => 0))), ((x 34), .inl (cy 2, 384, .inr (.inl (fun _ => 0)))), ((x 35), .inl (cy 0, 96, .inl (fun _ => 0))), ((x 36), .inl (cy 0, 96, .inl (fun _ => 0))), ((x 38), .inl (cy 0, 96, .inl (fun _ => 0)))]) (As := [.int p1]) (rest := []) S (kX11_cost l D cy x p1 z1 h1) hK hP hD [0, 1, 2, 3, 4, 5, 6, 7, 8, 9, 10] (by decide) rfl 0 10 rfl rfl kw_948 kw_949 kw_950 kw_144 kw_951 okX11_cost rfl (by decide) hl.1 rfl (Nat.le_of_ble_eq_true rfl) dL_law_1056 (by decide)) hP hD hS hA [0, 1, 2, 3, 4, 5, 6, 7, 8, 9, 10] [11, 12, 13, 14, 15, 16, 17, 18, 19, 20, 21, 22] rfl rfl (by decide) (by decide) (fun v1056 u1056 H locs w1056 hP hD hS => ?_)
  have hP : va_P D vwCl [((q 0), .inr (11, (mO q 0 0 0 0 0 0 0 0 (-1) 1 0 0 0 0 0 0 0 0 0))), ((q 63), .inl (cy 0, 600, .inl (fun _ => 0))), ((q 64), .inl (cy 0, 600, .inl (fun _ => 0))), ((q 65), .inl (cy 0, 600, .inl (fun _ => 0))), ((q 66), .inl (cy 0, 600, .inl (fun _ => 0))), ((q 67), .inl (cy 0, 97, .inl (fun _ => 0))), ((q 68), .inl (cy 0, 97, .inl (fun _ => 0))), ((q 70), .inl (cy 1, 16, .inl (fun _ => 0))), ((q 71), .inl (cy 0, 16, .inl (fun _ => 0))), ((q 72), .inl (cy 2, 16, .inr (.inl (fun _ => 0)))), ((q 73), .inl (cy 1, 16, .inl (fun _ => 0))), ((q 74), .inl (cy 1, 16, .inl (fun _ => 0)))] H := hP
  have hD : va_D A [((q 0), .inr (11, (mO q 0 0 0 0 0 0 0 0 (-1) 1 0 0 0 0 0 0 0 0 0))), ((q 63), .inl (cy 0, 600, .inl (fun _ => 0))), ((q 64), .inl (cy 0, 600, .inl (fun _ => 0))), ((q 65), .inl (cy 0, 600, .inl (fun _ => 0))), ((q 66), .inl (cy 0, 600, .inl (fun _ => 0))), ((q 67), .inl (cy 0, 97, .inl (fun _ => 0))), ((q 68), .inl (cy 0, 97, .inl (fun _ => 0))), ((q 70), .inl (cy 1, 16, .inl (fun _ => 0))), ((q 71), .inl (cy 0, 16, .inl (fun _ => 0))), ((q 72), .inl (cy 2, 16, .inr (.inl (fun _ => 0)))), ((q 73), .inl (cy 1, 16, .inl (fun _ => 0))), ((q 74), .inl (cy 1, 16, .inl (fun _ => 0)))] := hD
  rcases w1056 with ⟨rfl, w1056_0_0⟩ | ⟨rfl, w1056_1_0⟩
  · refine lv_aload_n S.1 S.2.1 dL_law_1059 rfl (lv_at hl 2 rfl) ?_
    refine lv_aload_n S.1 S.2.1 dL_law_1060 rfl (lv_at hl 4 rfl) ?_
    refine lv_iload S.1 S.2.1 dL_law_1061 (lv_at hl 0 rfl) ?_
    refine lv_iconst (v := 1) S.1 S.2.1 dL_law_1063 (by decide) ?_
    refine r_iadd S dL_law_1064 (v := 1) (by decide) ?_
    refine r_sld S hX hbl hbA hS 1 (by decide) (by decide) (by decide) (v := p1) e1 dL_law_1065 ?_
    refine call_i (wr := []) (runV_C (wc := [((q 0), .inr (11, (mO q 0 0 0 0 0 0 0 0 (-1) 1 0 0 0 0 0 0 0 0 0))), ((q 63), .inl (cy 0, 600, .inl (fun _ => 0))), ((q 64), .inl (cy 0, 600, .inl (fun _ => 0))), ((q 65), .inl (cy 0, 600, .inl (fun _ => 0))), ((q 66), .inl (cy 0, 600, .inl (fun _ => 0))), ((q 67), .inl (cy 0, 97, .inl (fun _ => 0))), ((q 68), .inl (cy 0, 97, .inl (fun _ => 0))), ((q 70), .inl (cy 1, 16, .inl (fun _ => 0))), ((q 71), .inl (cy 0, 16, .inl (fun _ => 0))), ((q 72), .inl (cy 2, 16, .inr (.inl (fun _ => 0)))), ((q 73), .inl (cy 1, 16, .inl (fun _ => 0))), ((q 74), .inl (cy 1, 16, .inl (fun _ => 0)))]) (As := [.int p1]) (rest := [.int 0]) S (kX12_cost l D cy q p1 z1 h1) hK hP hD [0, 1, 2, 3, 4, 5, 6, 7, 8, 9, 10, 11] (by decide) rfl 0 11 rfl rfl kw_2088 kw_2089 kw_2090 kw_152 kw_2091 okX12_cost rfl (by decide) hl.1 rfl (Nat.le_of_ble_eq_true rfl) dL_law_1066 (by decide)) hP hD hS hA [0, 1, 2, 3, 4, 5, 6, 7, 8, 9, 10, 11] [] rfl rfl (by decide) (by decide) (fun v1066 u1066 H locs w1066 hP hD hS => ?_)
    have hP : va_P D vwCl [] H := hP
    have hD : va_D A [] := hD
    rcases w1066 with ⟨rfl, w1066_0_0⟩ | ⟨rfl, w1066_1_0⟩
    · refine r_icmp_eq S 0 0 rfl rfl dL_law_1069 (tgt := 2008) (by decide) (fun _ => ?_) (fun c => absurd c (by decide))
      exact law_on S hr hlk hX hbl hbA hA2 hS (lv_sub hl [0, 4] rfl) (by decide) (by decide)
    · exfalso; omega
  · refine lv_aload_n S.1 S.2.1 dL_law_1059 rfl (lv_at hl 2 rfl) ?_
    refine lv_aload_n S.1 S.2.1 dL_law_1060 rfl (lv_at hl 4 rfl) ?_
    refine lv_iload S.1 S.2.1 dL_law_1061 (lv_at hl 0 rfl) ?_
    refine lv_iconst (v := 1) S.1 S.2.1 dL_law_1063 (by decide) ?_
    refine r_iadd S dL_law_1064 (v := 1) (by decide) ?_
    refine r_sld S hX hbl hbA hS 1 (by decide) (by decide) (by decide) (v := p1) e1 dL_law_1065 ?_
    refine call_i (wr := []) (runV_C (wc := [((q 0), .inr (11, (mO q 0 0 0 0 0 0 0 0 (-1) 1 0 0 0 0 0 0 0 0 0))), ((q 63), .inl (cy 0, 600, .inl (fun _ => 0))), ((q 64), .inl (cy 0, 600, .inl (fun _ => 0))), ((q 65), .inl (cy 0, 600, .inl (fun _ => 0))), ((q 66), .inl (cy 0, 600, .inl (fun _ => 0))), ((q 67), .inl (cy 0, 97, .inl (fun _ => 0))), ((q 68), .inl (cy 0, 97, .inl (fun _ => 0))), ((q 70), .inl (cy 1, 16, .inl (fun _ => 0))), ((q 71), .inl (cy 0, 16, .inl (fun _ => 0))), ((q 72), .inl (cy 2, 16, .inr (.inl (fun _ => 0)))), ((q 73), .inl (cy 1, 16, .inl (fun _ => 0))), ((q 74), .inl (cy 1, 16, .inl (fun _ => 0)))]) (As := [.int p1]) (rest := [.int (-1)]) S (kX12_cost l D cy q p1 z1 h1) hK hP hD [0, 1, 2, 3, 4, 5, 6, 7, 8, 9, 10, 11] (by decide) rfl 0 11 rfl rfl kw_2088 kw_2089 kw_2090 kw_152 kw_2091 okX12_cost rfl (by decide) hl.1 rfl (Nat.le_of_ble_eq_true rfl) dL_law_1066 (by decide)) hP hD hS hA [0, 1, 2, 3, 4, 5, 6, 7, 8, 9, 10, 11] [] rfl rfl (by decide) (by decide) (fun v1066 u1066 H locs w1066 hP hD hS => ?_)
    have hP : va_P D vwCl [] H := hP
    have hD : va_D A [] := hD
    rcases w1066 with ⟨rfl, w1066_0_0⟩ | ⟨rfl, w1066_1_0⟩
    · exfalso; omega
    · refine r_icmp_eq S (-1) (-1) rfl rfl dL_law_1069 (tgt := 2008) (by decide) (fun _ => ?_) (fun c => absurd c (by decide))
      exact law_on S hr hlk hX hbl hbA hA2 hS (lv_sub hl [0, 4] rfl) (by decide) (by decide)
set_option maxHeartbeats 4000000 in
set_option maxRecDepth 100000 in
theorem law_c15 (l : Launch) (hst : l.stackTraces = false) {p : Program} {e : Env} {s : State} {m : MethodId} {below : List Frame} {meth : Method} {c : Code} {H : Heap} {locs : List Loc} {ls : Array Slot} {D : va_G} {cy : Nat → ClassId} {b : Nat} {xs : Nat → Int32} {A : Nat → Prop} {x q : Nat → Nat} {o : Nat} (S : CallFix p m c cL_law 7 s #[Value.ref b] uu "LandSurveyLaw") (hr : meth.sig.returnType = ret) (hlk : meth.locks = false) (hX : va_X b 8 xs s s.heap) (hbl : b < s.heap.size) (hbA : ¬ A b) (hA : ∀ q : Nat, s.heap.size ≤ q → A q) (hA2 : ∀ q : Nat, A q → s.heap.size ≤ q) (hK : KX D cy s) (hE : Ey s) (hZ : Zs A s s.heap) (hP : va_P D vwCl [((x 0), .inr (10, [.int 0, .int (-1), .ref (x 1), .ref (x 9), .int 0, .ref (x 10), .ref (x 13), .ref (x 16), .ref (x 29), .int 0, .int 0, .ref (x 30), .int 0, .ref (x 31), .ref (x 42), .int 0, .int 0, .null, .ref (x 43)])), ((x 13), .inr (4, [.ref (x 14), .ref (x 15), .int 0, .ref (x 16)])), ((x 16), .inr (5, [.int 0, .ref (x 17), .ref (x 18), .ref (x 19), .ref (x 20), .ref (x 21), .int 0, .int 10, .int 20, .int 0, .int 0, .ref (x 22), .ref (x 23), .int 0, .ref (x 24), .ref (x 25), .ref (x 26), .ref (x 27), .ref (x 28)])), ((x 42), .inl (cy 7, 16, .inr (.inr (.inr (.inr (fun _ => none)))))), ((x 31), .inr (6, [.ref (x 32), .ref (x 9), .ref (x 29), .int 0, .int 0, .int 0, .ref (x 36), .ref (x 37), .ref (x 38), .ref (x 39), .ref (x 40), .ref (x 41), .int 0])), ((x 32), .inr (9, [.ref (x 33), .ref (x 34), .ref (x 35), .int 0])), ((x 33), .inl (cy 0, 384, .inl (fun _ => 0))), ((x 34), .inl (cy 2, 384, .inr (.inl (fun _ => 0)))), ((x 35), .inl (cy 0, 96, .inl (fun _ => 0))), ((x 36), .inl (cy 0, 96, .inl (fun _ => 0))), ((x 38), .inl (cy 0, 96, .inl (fun _ => 0))), ((q 0), .inr (11, (mO q 0 0 0 0 0 0 0 0 (-1) 1 0 0 0 0 0 0 0 0 0))), ((q 63), .inl (cy 0, 600, .inl (fun _ => 0))), ((q 64), .inl (cy 0, 600, .inl (fun _ => 0))), ((q 65), .inl (cy 0, 600, .inl (fun _ => 0))), ((q 66), .inl (cy 0, 600, .inl (fun _ => 0))), ((q 67), .inl (cy 0, 97, .inl (fun _ => 0))), ((q 68), .inl (cy 0, 97, .inl (fun _ => 0))), ((q 70), .inl (cy 1, 16, .inl (fun _ => 0))), ((q 71), .inl (cy 0, 16, .inl (fun _ => 0))), ((q 72), .inl (cy 2, 16, .inr (.inl (fun _ => 0)))), ((q 73), .inl (cy 1, 16, .inl (fun _ => 0))), ((q 74), .inl (cy 1, 16, .inl (fun _ => 0)))] H) (hD : va_D A [((x 0), .inr (10, [.int 0, .int (-1), .ref (x 1), .ref (x 9), .int 0, .ref (x 10), .ref (x 13), .ref (x 16), .ref (x 29), .int 0, .int 0, .ref (x 30), .int 0, .ref (x 31), .ref (x 42), .int 0, .int 0, .null, .ref (x 43)])), ((x 13), .inr (4, [.ref (x 14), .ref (x 15), .int 0, .ref (x 16)])), ((x 16), .inr (5, [.int 0, .ref (x 17), .ref (x 18), .ref (x 19), .ref (x 20), .ref (x 21), .int 0, .int 10, .int 20, .int 0, .int 0, .ref (x 22), .ref (x 23), .int 0, .ref (x 24), .ref (x 25), .ref (x 26), .ref (x 27), .ref (x 28)])), ((x 42), .inl (cy 7, 16, .inr (.inr (.inr (.inr (fun _ => none)))))), ((x 31), .inr (6, [.ref (x 32), .ref (x 9), .ref (x 29), .int 0, .int 0, .int 0, .ref (x 36), .ref (x 37), .ref (x 38), .ref (x 39), .ref (x 40), .ref (x 41), .int 0])), ((x 32), .inr (9, [.ref (x 33), .ref (x 34), .ref (x 35), .int 0])), ((x 33), .inl (cy 0, 384, .inl (fun _ => 0))), ((x 34), .inl (cy 2, 384, .inr (.inl (fun _ => 0)))), ((x 35), .inl (cy 0, 96, .inl (fun _ => 0))), ((x 36), .inl (cy 0, 96, .inl (fun _ => 0))), ((x 38), .inl (cy 0, 96, .inl (fun _ => 0))), ((q 0), .inr (11, (mO q 0 0 0 0 0 0 0 0 (-1) 1 0 0 0 0 0 0 0 0 0))), ((q 63), .inl (cy 0, 600, .inl (fun _ => 0))), ((q 64), .inl (cy 0, 600, .inl (fun _ => 0))), ((q 65), .inl (cy 0, 600, .inl (fun _ => 0))), ((q 66), .inl (cy 0, 600, .inl (fun _ => 0))), ((q 67), .inl (cy 0, 97, .inl (fun _ => 0))), ((q 68), .inl (cy 0, 97, .inl (fun _ => 0))), ((q 70), .inl (cy 1, 16, .inl (fun _ => 0))), ((q 71), .inl (cy 0, 16, .inl (fun _ => 0))), ((q 72), .inl (cy 2, 16, .inr (.inl (fun _ => 0)))), ((q 73), .inl (cy 1, 16, .inl (fun _ => 0))), ((q 74), .inl (cy 1, 16, .inl (fun _ => 0)))]) (hS : va_S A s.heap H locs) (hl : lv_has ls 7 [(4, .int 0), (3, .ref o), (2, .ref (q 0)), (1, .ref (x 0)), (0, .ref b)]) : W p l e room_1 s m #[Value.ref b] below meth c H locs 114 51906 (lw_Z below #[Value.ref b] s) (F0 m 1074 ls []) := by
  obtain ⟨p1, e1⟩ : ∃ y, xs 1 = y := ⟨_, rfl⟩
  obtain ⟨z1, h1⟩ : ∃ z, p1.toInt = z := ⟨_, rfl⟩
  obtain ⟨p2, e2⟩ : ∃ y, xs 2 = y := ⟨_, rfl⟩
  obtain ⟨z2, h2⟩ : ∃ z, p2.toInt = z := ⟨_, rfl⟩
  obtain ⟨p3, e3⟩ : ∃ y, xs 3 = y := ⟨_, rfl⟩
  obtain ⟨z3, h3⟩ : ∃ z, p3.toInt = z := ⟨_, rfl⟩
  obtain ⟨p4, e4⟩ : ∃ y, xs 4 = y := ⟨_, rfl⟩
  obtain ⟨z4, h4⟩ : ∃ z, p4.toInt = z := ⟨_, rfl⟩
  obtain ⟨p5, e5⟩ : ∃ y, xs 5 = y := ⟨_, rfl⟩
  obtain ⟨z5, h5⟩ : ∃ z, p5.toInt = z := ⟨_, rfl⟩
  obtain ⟨p6, e6⟩ : ∃ y, xs 6 = y := ⟨_, rfl⟩
  obtain ⟨z6, h6⟩ : ∃ z, p6.toInt = z := ⟨_, rfl⟩
  obtain ⟨p7, e7⟩ : ∃ y, xs 7 = y := ⟨_, rfl⟩
  obtain ⟨z7, h7⟩ : ∃ z, p7.toInt = z := ⟨_, rfl⟩
  refine lv_aload_n S.1 S.2.1 dL_law_1074 rfl (lv_at hl 3 rfl) ?_
  refine lv_aload_n S.1 S.2.1 dL_law_1075 rfl (lv_at hl 4 rfl) ?_
  refine lv_iload S.1 S.2.1 dL_law_1076 (lv_at hl 0 rfl) ?_
  refine lv_iconst (v := 1) S.1 S.2.1 dL_law_1078 (by decide) ?_
  refine r_iadd S dL_law_1079 (v := 1) (by decide) ?_
  refine r_sld S hX hbl hbA hS 1 (by decide) (by decide) (by decide) (v := p1) e1 dL_law_1080 ?_
  refine lv_aload_n S.1 S.2.1 dL_law_1081 rfl (lv_at hl 4 rfl) ?_
  refine lv_iload S.1 S.2.1 dL_law_1082 (lv_at hl 0 rfl) ?_
  refine lv_iconst (v := 2) S.1 S.2.1 dL_law_1084 (by decide) ?_
  refine r_iadd S dL_law_1085 (v := 2) (by decide) ?_
  refine r_sld S hX hbl hbA hS 2 (by decide) (by decide) (by decide) (v := p2) e2 dL_law_1086 ?_
  refine call_i (wr := [((q 0), .inr (11, (mO q 0 0 0 0 0 0 0 0 (-1) 1 0 0 0 0 0 0 0 0 0))), ((q 63), .inl (cy 0, 600, .inl (fun _ => 0))), ((q 64), .inl (cy 0, 600, .inl (fun _ => 0))), ((q 65), .inl (cy 0, 600, .inl (fun _ => 0))), ((q 66), .inl (cy 0, 600, .inl (fun _ => 0))), ((q 67), .inl (cy 0, 97, .inl (fun _ => 0))), ((q 68), .inl (cy 0, 97, .inl (fun _ => 0))), ((q 70), .inl (cy 1, 16, .inl (fun _ => 0))), ((q 71), .inl (cy 0, 16, .inl (fun _ => 0))), ((q 72), .inl (cy 2, 16, .inr (.inl (fun _ => 0)))), ((q 73), .inl (cy 1, 16, .inl (fun _ => 0))), ((q 74), .inl (cy 1, 16, .inl (fun _ => 0)))]) (runV_C (wc := [((x 0), .inr (10, [.int 0, .int (-1), .ref (x 1), .ref (x 9), .int 0, .ref (x 10), .ref (x 13), .ref (x 16), .ref (x 29), .int 0, .int 0, .ref (x 30), .int 0, .ref (x 31), .ref (x 42), .int 0, .int 0, .null, .ref (x 43)])), ((x 13), .inr (4, [.ref (x 14), .ref (x 15), .int 0, .ref (x 16)])), ((x 16), .inr (5, [.int 0, .ref (x 17), .ref (x 18), .ref (x 19), .ref (x 20), .ref (x 21), .int 0, .int 10, .int 20, .int 0, .int 0, .ref (x 22), .ref (x 23), .int 0, .ref (x 24), .ref (x 25), .ref (x 26), .ref (x 27), .ref (x 28)])), ((x 42), .inl (cy 7, 16, .inr (.inr (.inr (.inr (fun _ => none)))))), ((x 31), .inr (6, [.ref (x 32), .ref (x 9), .ref (x 29), .int 0, .int 0, .int 0, .ref (x 36), .ref (x 37), .ref (x 38), .ref (x 39), .ref (x 40), .ref (x 41), .int 0])), ((x 32), .inr (9, [.ref (x 33), .ref (x 34), .ref (x 35), .int 0])), ((x 33), .inl (cy 0, 384, .inl (fun _ => 0))), ((x 34), .inl (cy 2, 384, .inr (.inl (fun _ => 0)))), ((x 35), .inl (cy 0, 96, .inl (fun _ => 0))), ((x 36), .inl (cy 0, 96, .inl (fun _ => 0))), ((x 38), .inl (cy 0, 96, .inl (fun _ => 0)))]) (As := [.int p1, .int p2]) (rest := []) S (kX11_doubted l D cy x p1 p2 z1 h1 z2 h2) hK hP hD [0, 1, 2, 3, 4, 5, 6, 7, 8, 9, 10] (by decide) rfl 0 10 rfl rfl kw_1129 kw_1130 kw_1131 kw_144 kw_1132 okX11_doubted rfl (by decide) hl.1 rfl (Nat.le_of_ble_eq_true rfl) dL_law_1087 (by decide)) hP hD hS hA [0, 1, 2, 3, 4, 5, 6, 7, 8, 9, 10] [11, 12, 13, 14, 15, 16, 17, 18, 19, 20, 21, 22] rfl rfl (by decide) (by decide) (fun v1087 u1087 H locs w1087 hP hD hS => ?_)
  have hP : va_P D vwCl [((q 0), .inr (11, (mO q 0 0 0 0 0 0 0 0 (-1) 1 0 0 0 0 0 0 0 0 0))), ((q 63), .inl (cy 0, 600, .inl (fun _ => 0))), ((q 64), .inl (cy 0, 600, .inl (fun _ => 0))), ((q 65), .inl (cy 0, 600, .inl (fun _ => 0))), ((q 66), .inl (cy 0, 600, .inl (fun _ => 0))), ((q 67), .inl (cy 0, 97, .inl (fun _ => 0))), ((q 68), .inl (cy 0, 97, .inl (fun _ => 0))), ((q 70), .inl (cy 1, 16, .inl (fun _ => 0))), ((q 71), .inl (cy 0, 16, .inl (fun _ => 0))), ((q 72), .inl (cy 2, 16, .inr (.inl (fun _ => 0)))), ((q 73), .inl (cy 1, 16, .inl (fun _ => 0))), ((q 74), .inl (cy 1, 16, .inl (fun _ => 0)))] H := hP
  have hD : va_D A [((q 0), .inr (11, (mO q 0 0 0 0 0 0 0 0 (-1) 1 0 0 0 0 0 0 0 0 0))), ((q 63), .inl (cy 0, 600, .inl (fun _ => 0))), ((q 64), .inl (cy 0, 600, .inl (fun _ => 0))), ((q 65), .inl (cy 0, 600, .inl (fun _ => 0))), ((q 66), .inl (cy 0, 600, .inl (fun _ => 0))), ((q 67), .inl (cy 0, 97, .inl (fun _ => 0))), ((q 68), .inl (cy 0, 97, .inl (fun _ => 0))), ((q 70), .inl (cy 1, 16, .inl (fun _ => 0))), ((q 71), .inl (cy 0, 16, .inl (fun _ => 0))), ((q 72), .inl (cy 2, 16, .inr (.inl (fun _ => 0)))), ((q 73), .inl (cy 1, 16, .inl (fun _ => 0))), ((q 74), .inl (cy 1, 16, .inl (fun _ => 0)))] := hD
  subst w1087
  refine lv_aload_n S.1 S.2.1 dL_law_1090 rfl (lv_at hl 2 rfl) ?_
  refine lv_aload_n S.1 S.2.1 dL_law_1091 rfl (lv_at hl 4 rfl) ?_
  refine lv_iload S.1 S.2.1 dL_law_1092 (lv_at hl 0 rfl) ?_
  refine lv_iconst (v := 1) S.1 S.2.1 dL_law_1094 (by decide) ?_
  refine r_iadd S dL_law_1095 (v := 1) (by decide) ?_
  refine r_sld S hX hbl hbA hS 1 (by decide) (by decide) (by decide) (v := p1) e1 dL_law_1096 ?_
  refine lv_aload_n S.1 S.2.1 dL_law_1097 rfl (lv_at hl 4 rfl) ?_
  refine lv_iload S.1 S.2.1 dL_law_1098 (lv_at hl 0 rfl) ?_
  refine lv_iconst (v := 2) S.1 S.2.1 dL_law_1100 (by decide) ?_
  refine r_iadd S dL_law_1101 (v := 2) (by decide) ?_
  refine r_sld S hX hbl hbA hS 2 (by decide) (by decide) (by decide) (v := p2) e2 dL_law_1102 ?_
  refine call_i (wr := []) (runV_C (wc := [((q 0), .inr (11, (mO q 0 0 0 0 0 0 0 0 (-1) 1 0 0 0 0 0 0 0 0 0))), ((q 63), .inl (cy 0, 600, .inl (fun _ => 0))), ((q 64), .inl (cy 0, 600, .inl (fun _ => 0))), ((q 65), .inl (cy 0, 600, .inl (fun _ => 0))), ((q 66), .inl (cy 0, 600, .inl (fun _ => 0))), ((q 67), .inl (cy 0, 97, .inl (fun _ => 0))), ((q 68), .inl (cy 0, 97, .inl (fun _ => 0))), ((q 70), .inl (cy 1, 16, .inl (fun _ => 0))), ((q 71), .inl (cy 0, 16, .inl (fun _ => 0))), ((q 72), .inl (cy 2, 16, .inr (.inl (fun _ => 0)))), ((q 73), .inl (cy 1, 16, .inl (fun _ => 0))), ((q 74), .inl (cy 1, 16, .inl (fun _ => 0)))]) (As := [.int p1, .int p2]) (rest := [.int (-1)]) S (kX12_doubted l D cy q p1 p2 z1 h1 z2 h2) hK hP hD [0, 1, 2, 3, 4, 5, 6, 7, 8, 9, 10, 11] (by decide) rfl 0 11 rfl rfl kw_2096 kw_2097 kw_2098 kw_152 kw_2099 okX12_doubted rfl (by decide) hl.1 rfl (Nat.le_of_ble_eq_true rfl) dL_law_1103 (by decide)) hP hD hS hA [0, 1, 2, 3, 4, 5, 6, 7, 8, 9, 10, 11] [] rfl rfl (by decide) (by decide) (fun v1103 u1103 H locs w1103 hP hD hS => ?_)
  have hP : va_P D vwCl [] H := hP
  have hD : va_D A [] := hD
  subst w1103
  refine r_icmp_eq S (-1) (-1) rfl rfl dL_law_1106 (tgt := 2008) (by decide) (fun _ => ?_) (fun c => absurd c (by decide))
  exact law_on S hr hlk hX hbl hbA hA2 hS (lv_sub hl [0, 4] rfl) (by decide) (by decide)
set_option maxHeartbeats 4000000 in
set_option maxRecDepth 100000 in
theorem law_c16 (l : Launch) (hst : l.stackTraces = false) {p : Program} {e : Env} {s : State} {m : MethodId} {below : List Frame} {meth : Method} {c : Code} {H : Heap} {locs : List Loc} {ls : Array Slot} {D : va_G} {cy : Nat → ClassId} {b : Nat} {xs : Nat → Int32} {A : Nat → Prop} {x q : Nat → Nat} {o : Nat} (S : CallFix p m c cL_law 7 s #[Value.ref b] uu "LandSurveyLaw") (hr : meth.sig.returnType = ret) (hlk : meth.locks = false) (hX : va_X b 8 xs s s.heap) (hbl : b < s.heap.size) (hbA : ¬ A b) (hA : ∀ q : Nat, s.heap.size ≤ q → A q) (hA2 : ∀ q : Nat, A q → s.heap.size ≤ q) (hK : KX D cy s) (hE : Ey s) (hZ : Zs A s s.heap) (hP : va_P D vwCl [((x 0), .inr (10, [.int 0, .int (-1), .ref (x 1), .ref (x 9), .int 0, .ref (x 10), .ref (x 13), .ref (x 16), .ref (x 29), .int 0, .int 0, .ref (x 30), .int 0, .ref (x 31), .ref (x 42), .int 0, .int 0, .null, .ref (x 43)])), ((x 13), .inr (4, [.ref (x 14), .ref (x 15), .int 0, .ref (x 16)])), ((x 16), .inr (5, [.int 0, .ref (x 17), .ref (x 18), .ref (x 19), .ref (x 20), .ref (x 21), .int 0, .int 10, .int 20, .int 0, .int 0, .ref (x 22), .ref (x 23), .int 0, .ref (x 24), .ref (x 25), .ref (x 26), .ref (x 27), .ref (x 28)])), ((x 42), .inl (cy 7, 16, .inr (.inr (.inr (.inr (fun _ => none)))))), ((x 31), .inr (6, [.ref (x 32), .ref (x 9), .ref (x 29), .int 0, .int 0, .int 0, .ref (x 36), .ref (x 37), .ref (x 38), .ref (x 39), .ref (x 40), .ref (x 41), .int 0])), ((x 32), .inr (9, [.ref (x 33), .ref (x 34), .ref (x 35), .int 0])), ((x 33), .inl (cy 0, 384, .inl (fun _ => 0))), ((x 34), .inl (cy 2, 384, .inr (.inl (fun _ => 0)))), ((x 35), .inl (cy 0, 96, .inl (fun _ => 0))), ((x 36), .inl (cy 0, 96, .inl (fun _ => 0))), ((x 38), .inl (cy 0, 96, .inl (fun _ => 0))), ((q 0), .inr (11, (mO q 0 0 0 0 0 0 0 0 (-1) 1 0 0 0 0 0 0 0 0 0))), ((q 63), .inl (cy 0, 600, .inl (fun _ => 0))), ((q 64), .inl (cy 0, 600, .inl (fun _ => 0))), ((q 65), .inl (cy 0, 600, .inl (fun _ => 0))), ((q 66), .inl (cy 0, 600, .inl (fun _ => 0))), ((q 67), .inl (cy 0, 97, .inl (fun _ => 0))), ((q 68), .inl (cy 0, 97, .inl (fun _ => 0))), ((q 70), .inl (cy 1, 16, .inl (fun _ => 0))), ((q 71), .inl (cy 0, 16, .inl (fun _ => 0))), ((q 72), .inl (cy 2, 16, .inr (.inl (fun _ => 0)))), ((q 73), .inl (cy 1, 16, .inl (fun _ => 0))), ((q 74), .inl (cy 1, 16, .inl (fun _ => 0)))] H) (hD : va_D A [((x 0), .inr (10, [.int 0, .int (-1), .ref (x 1), .ref (x 9), .int 0, .ref (x 10), .ref (x 13), .ref (x 16), .ref (x 29), .int 0, .int 0, .ref (x 30), .int 0, .ref (x 31), .ref (x 42), .int 0, .int 0, .null, .ref (x 43)])), ((x 13), .inr (4, [.ref (x 14), .ref (x 15), .int 0, .ref (x 16)])), ((x 16), .inr (5, [.int 0, .ref (x 17), .ref (x 18), .ref (x 19), .ref (x 20), .ref (x 21), .int 0, .int 10, .int 20, .int 0, .int 0, .ref (x 22), .ref (x 23), .int 0, .ref (x 24), .ref (x 25), .ref (x 26), .ref (x 27), .ref (x 28)])), ((x 42), .inl (cy 7, 16, .inr (.inr (.inr (.inr (fun _ => none)))))), ((x 31), .inr (6, [.ref (x 32), .ref (x 9), .ref (x 29), .int 0, .int 0, .int 0, .ref (x 36), .ref (x 37), .ref (x 38), .ref (x 39), .ref (x 40), .ref (x 41), .int 0])), ((x 32), .inr (9, [.ref (x 33), .ref (x 34), .ref (x 35), .int 0])), ((x 33), .inl (cy 0, 384, .inl (fun _ => 0))), ((x 34), .inl (cy 2, 384, .inr (.inl (fun _ => 0)))), ((x 35), .inl (cy 0, 96, .inl (fun _ => 0))), ((x 36), .inl (cy 0, 96, .inl (fun _ => 0))), ((x 38), .inl (cy 0, 96, .inl (fun _ => 0))), ((q 0), .inr (11, (mO q 0 0 0 0 0 0 0 0 (-1) 1 0 0 0 0 0 0 0 0 0))), ((q 63), .inl (cy 0, 600, .inl (fun _ => 0))), ((q 64), .inl (cy 0, 600, .inl (fun _ => 0))), ((q 65), .inl (cy 0, 600, .inl (fun _ => 0))), ((q 66), .inl (cy 0, 600, .inl (fun _ => 0))), ((q 67), .inl (cy 0, 97, .inl (fun _ => 0))), ((q 68), .inl (cy 0, 97, .inl (fun _ => 0))), ((q 70), .inl (cy 1, 16, .inl (fun _ => 0))), ((q 71), .inl (cy 0, 16, .inl (fun _ => 0))), ((q 72), .inl (cy 2, 16, .inr (.inl (fun _ => 0)))), ((q 73), .inl (cy 1, 16, .inl (fun _ => 0))), ((q 74), .inl (cy 1, 16, .inl (fun _ => 0)))]) (hS : va_S A s.heap H locs) (hl : lv_has ls 7 [(4, .int 0), (3, .ref o), (2, .ref (q 0)), (1, .ref (x 0)), (0, .ref b)]) : W p l e room_1 s m #[Value.ref b] below meth c H locs 114 51906 (lw_Z below #[Value.ref b] s) (F0 m 1111 ls []) := by
  obtain ⟨p1, e1⟩ : ∃ y, xs 1 = y := ⟨_, rfl⟩
  obtain ⟨z1, h1⟩ : ∃ z, p1.toInt = z := ⟨_, rfl⟩
  obtain ⟨p2, e2⟩ : ∃ y, xs 2 = y := ⟨_, rfl⟩
  obtain ⟨z2, h2⟩ : ∃ z, p2.toInt = z := ⟨_, rfl⟩
  obtain ⟨p3, e3⟩ : ∃ y, xs 3 = y := ⟨_, rfl⟩
  obtain ⟨z3, h3⟩ : ∃ z, p3.toInt = z := ⟨_, rfl⟩
  obtain ⟨p4, e4⟩ : ∃ y, xs 4 = y := ⟨_, rfl⟩
  obtain ⟨z4, h4⟩ : ∃ z, p4.toInt = z := ⟨_, rfl⟩
  obtain ⟨p5, e5⟩ : ∃ y, xs 5 = y := ⟨_, rfl⟩
  obtain ⟨z5, h5⟩ : ∃ z, p5.toInt = z := ⟨_, rfl⟩
  obtain ⟨p6, e6⟩ : ∃ y, xs 6 = y := ⟨_, rfl⟩
  obtain ⟨z6, h6⟩ : ∃ z, p6.toInt = z := ⟨_, rfl⟩
  obtain ⟨p7, e7⟩ : ∃ y, xs 7 = y := ⟨_, rfl⟩
  obtain ⟨z7, h7⟩ : ∃ z, p7.toInt = z := ⟨_, rfl⟩
  refine lv_aload_n S.1 S.2.1 dL_law_1111 rfl (lv_at hl 3 rfl) ?_
  refine lv_aload_n S.1 S.2.1 dL_law_1112 rfl (lv_at hl 4 rfl) ?_
  refine lv_iload S.1 S.2.1 dL_law_1113 (lv_at hl 0 rfl) ?_
  refine lv_iconst (v := 1) S.1 S.2.1 dL_law_1115 (by decide) ?_
  refine r_iadd S dL_law_1116 (v := 1) (by decide) ?_
  refine r_sld S hX hbl hbA hS 1 (by decide) (by decide) (by decide) (v := p1) e1 dL_law_1117 ?_
  refine call_i (wr := [((q 0), .inr (11, (mO q 0 0 0 0 0 0 0 0 (-1) 1 0 0 0 0 0 0 0 0 0))), ((q 63), .inl (cy 0, 600, .inl (fun _ => 0))), ((q 64), .inl (cy 0, 600, .inl (fun _ => 0))), ((q 65), .inl (cy 0, 600, .inl (fun _ => 0))), ((q 66), .inl (cy 0, 600, .inl (fun _ => 0))), ((q 67), .inl (cy 0, 97, .inl (fun _ => 0))), ((q 68), .inl (cy 0, 97, .inl (fun _ => 0))), ((q 70), .inl (cy 1, 16, .inl (fun _ => 0))), ((q 71), .inl (cy 0, 16, .inl (fun _ => 0))), ((q 72), .inl (cy 2, 16, .inr (.inl (fun _ => 0)))), ((q 73), .inl (cy 1, 16, .inl (fun _ => 0))), ((q 74), .inl (cy 1, 16, .inl (fun _ => 0)))]) (runV_C (wc := [((x 0), .inr (10, [.int 0, .int (-1), .ref (x 1), .ref (x 9), .int 0, .ref (x 10), .ref (x 13), .ref (x 16), .ref (x 29), .int 0, .int 0, .ref (x 30), .int 0, .ref (x 31), .ref (x 42), .int 0, .int 0, .null, .ref (x 43)])), ((x 13), .inr (4, [.ref (x 14), .ref (x 15), .int 0, .ref (x 16)])), ((x 16), .inr (5, [.int 0, .ref (x 17), .ref (x 18), .ref (x 19), .ref (x 20), .ref (x 21), .int 0, .int 10, .int 20, .int 0, .int 0, .ref (x 22), .ref (x 23), .int 0, .ref (x 24), .ref (x 25), .ref (x 26), .ref (x 27), .ref (x 28)])), ((x 42), .inl (cy 7, 16, .inr (.inr (.inr (.inr (fun _ => none)))))), ((x 31), .inr (6, [.ref (x 32), .ref (x 9), .ref (x 29), .int 0, .int 0, .int 0, .ref (x 36), .ref (x 37), .ref (x 38), .ref (x 39), .ref (x 40), .ref (x 41), .int 0])), ((x 32), .inr (9, [.ref (x 33), .ref (x 34), .ref (x 35), .int 0])), ((x 33), .inl (cy 0, 384, .inl (fun _ => 0))), ((x 34), .inl (cy 2, 384, .inr (.inl (fun _ => 0)))), ((x 35), .inl (cy 0, 96, .inl (fun _ => 0))), ((x 36), .inl (cy 0, 96, .inl (fun _ => 0))), ((x 38), .inl (cy 0, 96, .inl (fun _ => 0)))]) (As := [.int p1]) (rest := []) S (kX11_best l D cy x p1 z1 h1) hK hP hD [0, 1, 2, 3, 4, 5, 6, 7, 8, 9, 10] (by decide) rfl 0 10 rfl rfl kw_1137 kw_1138 kw_1139 kw_144 kw_1140 okX11_best rfl (by decide) hl.1 rfl (Nat.le_of_ble_eq_true rfl) dL_law_1118 (by decide)) hP hD hS hA [0, 1, 2, 3, 4, 5, 6, 7, 8, 9, 10] [11, 12, 13, 14, 15, 16, 17, 18, 19, 20, 21, 22] rfl rfl (by decide) (by decide) (fun v1118 u1118 H locs w1118 hP hD hS => ?_)
  have hP : va_P D vwCl [((q 0), .inr (11, (mO q 0 0 0 0 0 0 0 0 (-1) 1 0 0 0 0 0 0 0 0 0))), ((q 63), .inl (cy 0, 600, .inl (fun _ => 0))), ((q 64), .inl (cy 0, 600, .inl (fun _ => 0))), ((q 65), .inl (cy 0, 600, .inl (fun _ => 0))), ((q 66), .inl (cy 0, 600, .inl (fun _ => 0))), ((q 67), .inl (cy 0, 97, .inl (fun _ => 0))), ((q 68), .inl (cy 0, 97, .inl (fun _ => 0))), ((q 70), .inl (cy 1, 16, .inl (fun _ => 0))), ((q 71), .inl (cy 0, 16, .inl (fun _ => 0))), ((q 72), .inl (cy 2, 16, .inr (.inl (fun _ => 0)))), ((q 73), .inl (cy 1, 16, .inl (fun _ => 0))), ((q 74), .inl (cy 1, 16, .inl (fun _ => 0)))] H := hP
  have hD : va_D A [((q 0), .inr (11, (mO q 0 0 0 0 0 0 0 0 (-1) 1 0 0 0 0 0 0 0 0 0))), ((q 63), .inl (cy 0, 600, .inl (fun _ => 0))), ((q 64), .inl (cy 0, 600, .inl (fun _ => 0))), ((q 65), .inl (cy 0, 600, .inl (fun _ => 0))), ((q 66), .inl (cy 0, 600, .inl (fun _ => 0))), ((q 67), .inl (cy 0, 97, .inl (fun _ => 0))), ((q 68), .inl (cy 0, 97, .inl (fun _ => 0))), ((q 70), .inl (cy 1, 16, .inl (fun _ => 0))), ((q 71), .inl (cy 0, 16, .inl (fun _ => 0))), ((q 72), .inl (cy 2, 16, .inr (.inl (fun _ => 0)))), ((q 73), .inl (cy 1, 16, .inl (fun _ => 0))), ((q 74), .inl (cy 1, 16, .inl (fun _ => 0)))] := hD
  rcases w1118 with ⟨rfl, w1118_0_0⟩ | ⟨rfl, w1118_1_0⟩ | ⟨rfl, w1118_2_0⟩
  · refine lv_aload_n S.1 S.2.1 dL_law_1121 rfl (lv_at hl 2 rfl) ?_
    refine lv_aload_n S.1 S.2.1 dL_law_1122 rfl (lv_at hl 4 rfl) ?_
    refine lv_iload S.1 S.2.1 dL_law_1123 (lv_at hl 0 rfl) ?_
    refine lv_iconst (v := 1) S.1 S.2.1 dL_law_1125 (by decide) ?_
    refine r_iadd S dL_law_1126 (v := 1) (by decide) ?_
    refine r_sld S hX hbl hbA hS 1 (by decide) (by decide) (by decide) (v := p1) e1 dL_law_1127 ?_
    refine call_i (wr := []) (runV_C (wc := [((q 0), .inr (11, (mO q 0 0 0 0 0 0 0 0 (-1) 1 0 0 0 0 0 0 0 0 0))), ((q 63), .inl (cy 0, 600, .inl (fun _ => 0))), ((q 64), .inl (cy 0, 600, .inl (fun _ => 0))), ((q 65), .inl (cy 0, 600, .inl (fun _ => 0))), ((q 66), .inl (cy 0, 600, .inl (fun _ => 0))), ((q 67), .inl (cy 0, 97, .inl (fun _ => 0))), ((q 68), .inl (cy 0, 97, .inl (fun _ => 0))), ((q 70), .inl (cy 1, 16, .inl (fun _ => 0))), ((q 71), .inl (cy 0, 16, .inl (fun _ => 0))), ((q 72), .inl (cy 2, 16, .inr (.inl (fun _ => 0)))), ((q 73), .inl (cy 1, 16, .inl (fun _ => 0))), ((q 74), .inl (cy 1, 16, .inl (fun _ => 0)))]) (As := [.int p1]) (rest := [.int 1]) S (kX12_best l D cy q p1 z1 h1) hK hP hD [0, 1, 2, 3, 4, 5, 6, 7, 8, 9, 10, 11] (by decide) rfl 0 11 rfl rfl kw_2100 kw_2101 kw_2102 kw_152 kw_2103 okX12_best rfl (by decide) hl.1 rfl (Nat.le_of_ble_eq_true rfl) dL_law_1128 (by decide)) hP hD hS hA [0, 1, 2, 3, 4, 5, 6, 7, 8, 9, 10, 11] [] rfl rfl (by decide) (by decide) (fun v1128 u1128 H locs w1128 hP hD hS => ?_)
    have hP : va_P D vwCl [] H := hP
    have hD : va_D A [] := hD
    rcases w1128 with ⟨rfl, w1128_0_0⟩ | ⟨rfl, w1128_1_0⟩ | ⟨rfl, w1128_2_0⟩
    · refine r_icmp_eq S 1 1 rfl rfl dL_law_1131 (tgt := 2008) (by decide) (fun _ => ?_) (fun c => absurd c (by decide))
      exact law_on S hr hlk hX hbl hbA hA2 hS (lv_sub hl [0, 4] rfl) (by decide) (by decide)
    · exfalso; omega
    · exfalso; omega
  · refine lv_aload_n S.1 S.2.1 dL_law_1121 rfl (lv_at hl 2 rfl) ?_
    refine lv_aload_n S.1 S.2.1 dL_law_1122 rfl (lv_at hl 4 rfl) ?_
    refine lv_iload S.1 S.2.1 dL_law_1123 (lv_at hl 0 rfl) ?_
    refine lv_iconst (v := 1) S.1 S.2.1 dL_law_1125 (by decide) ?_
    refine r_iadd S dL_law_1126 (v := 1) (by decide) ?_
    refine r_sld S hX hbl hbA hS 1 (by decide) (by decide) (by decide) (v := p1) e1 dL_law_1127 ?_
    refine call_i (wr := []) (runV_C (wc := [((q 0), .inr (11, (mO q 0 0 0 0 0 0 0 0 (-1) 1 0 0 0 0 0 0 0 0 0))), ((q 63), .inl (cy 0, 600, .inl (fun _ => 0))), ((q 64), .inl (cy 0, 600, .inl (fun _ => 0))), ((q 65), .inl (cy 0, 600, .inl (fun _ => 0))), ((q 66), .inl (cy 0, 600, .inl (fun _ => 0))), ((q 67), .inl (cy 0, 97, .inl (fun _ => 0))), ((q 68), .inl (cy 0, 97, .inl (fun _ => 0))), ((q 70), .inl (cy 1, 16, .inl (fun _ => 0))), ((q 71), .inl (cy 0, 16, .inl (fun _ => 0))), ((q 72), .inl (cy 2, 16, .inr (.inl (fun _ => 0)))), ((q 73), .inl (cy 1, 16, .inl (fun _ => 0))), ((q 74), .inl (cy 1, 16, .inl (fun _ => 0)))]) (As := [.int p1]) (rest := [.int 0]) S (kX12_best l D cy q p1 z1 h1) hK hP hD [0, 1, 2, 3, 4, 5, 6, 7, 8, 9, 10, 11] (by decide) rfl 0 11 rfl rfl kw_2100 kw_2101 kw_2102 kw_152 kw_2103 okX12_best rfl (by decide) hl.1 rfl (Nat.le_of_ble_eq_true rfl) dL_law_1128 (by decide)) hP hD hS hA [0, 1, 2, 3, 4, 5, 6, 7, 8, 9, 10, 11] [] rfl rfl (by decide) (by decide) (fun v1128 u1128 H locs w1128 hP hD hS => ?_)
    have hP : va_P D vwCl [] H := hP
    have hD : va_D A [] := hD
    rcases w1128 with ⟨rfl, w1128_0_0⟩ | ⟨rfl, w1128_1_0⟩ | ⟨rfl, w1128_2_0⟩
    · exfalso; omega
    · refine r_icmp_eq S 0 0 rfl rfl dL_law_1131 (tgt := 2008) (by decide) (fun _ => ?_) (fun c => absurd c (by decide))
      exact law_on S hr hlk hX hbl hbA hA2 hS (lv_sub hl [0, 4] rfl) (by decide) (by decide)
    · exfalso; omega
  · refine lv_aload_n S.1 S.2.1 dL_law_1121 rfl (lv_at hl 2 rfl) ?_
    refine lv_aload_n S.1 S.2.1 dL_law_1122 rfl (lv_at hl 4 rfl) ?_
    refine lv_iload S.1 S.2.1 dL_law_1123 (lv_at hl 0 rfl) ?_
    refine lv_iconst (v := 1) S.1 S.2.1 dL_law_1125 (by decide) ?_
    refine r_iadd S dL_law_1126 (v := 1) (by decide) ?_
    refine r_sld S hX hbl hbA hS 1 (by decide) (by decide) (by decide) (v := p1) e1 dL_law_1127 ?_
    refine call_i (wr := []) (runV_C (wc := [((q 0), .inr (11, (mO q 0 0 0 0 0 0 0 0 (-1) 1 0 0 0 0 0 0 0 0 0))), ((q 63), .inl (cy 0, 600, .inl (fun _ => 0))), ((q 64), .inl (cy 0, 600, .inl (fun _ => 0))), ((q 65), .inl (cy 0, 600, .inl (fun _ => 0))), ((q 66), .inl (cy 0, 600, .inl (fun _ => 0))), ((q 67), .inl (cy 0, 97, .inl (fun _ => 0))), ((q 68), .inl (cy 0, 97, .inl (fun _ => 0))), ((q 70), .inl (cy 1, 16, .inl (fun _ => 0))), ((q 71), .inl (cy 0, 16, .inl (fun _ => 0))), ((q 72), .inl (cy 2, 16, .inr (.inl (fun _ => 0)))), ((q 73), .inl (cy 1, 16, .inl (fun _ => 0))), ((q 74), .inl (cy 1, 16, .inl (fun _ => 0)))]) (As := [.int p1]) (rest := [.int (-1)]) S (kX12_best l D cy q p1 z1 h1) hK hP hD [0, 1, 2, 3, 4, 5, 6, 7, 8, 9, 10, 11] (by decide) rfl 0 11 rfl rfl kw_2100 kw_2101 kw_2102 kw_152 kw_2103 okX12_best rfl (by decide) hl.1 rfl (Nat.le_of_ble_eq_true rfl) dL_law_1128 (by decide)) hP hD hS hA [0, 1, 2, 3, 4, 5, 6, 7, 8, 9, 10, 11] [] rfl rfl (by decide) (by decide) (fun v1128 u1128 H locs w1128 hP hD hS => ?_)
    have hP : va_P D vwCl [] H := hP
    have hD : va_D A [] := hD
    rcases w1128 with ⟨rfl, w1128_0_0⟩ | ⟨rfl, w1128_1_0⟩ | ⟨rfl, w1128_2_0⟩
    · exfalso; omega
    · exfalso; omega
    · refine r_icmp_eq S (-1) (-1) rfl rfl dL_law_1131 (tgt := 2008) (by decide) (fun _ => ?_) (fun c => absurd c (by decide))
      exact law_on S hr hlk hX hbl hbA hA2 hS (lv_sub hl [0, 4] rfl) (by decide) (by decide)
set_option maxHeartbeats 4000000 in
set_option maxRecDepth 100000 in
theorem law_c17 (l : Launch) (hst : l.stackTraces = false) {p : Program} {e : Env} {s : State} {m : MethodId} {below : List Frame} {meth : Method} {c : Code} {H : Heap} {locs : List Loc} {ls : Array Slot} {D : va_G} {cy : Nat → ClassId} {b : Nat} {xs : Nat → Int32} {A : Nat → Prop} {x q : Nat → Nat} {o : Nat} (S : CallFix p m c cL_law 7 s #[Value.ref b] uu "LandSurveyLaw") (hr : meth.sig.returnType = ret) (hlk : meth.locks = false) (hX : va_X b 8 xs s s.heap) (hbl : b < s.heap.size) (hbA : ¬ A b) (hA : ∀ q : Nat, s.heap.size ≤ q → A q) (hA2 : ∀ q : Nat, A q → s.heap.size ≤ q) (hK : KX D cy s) (hE : Ey s) (hZ : Zs A s s.heap) (hP : va_P D vwCl [((x 0), .inr (10, [.int 0, .int (-1), .ref (x 1), .ref (x 9), .int 0, .ref (x 10), .ref (x 13), .ref (x 16), .ref (x 29), .int 0, .int 0, .ref (x 30), .int 0, .ref (x 31), .ref (x 42), .int 0, .int 0, .null, .ref (x 43)])), ((x 13), .inr (4, [.ref (x 14), .ref (x 15), .int 0, .ref (x 16)])), ((x 16), .inr (5, [.int 0, .ref (x 17), .ref (x 18), .ref (x 19), .ref (x 20), .ref (x 21), .int 0, .int 10, .int 20, .int 0, .int 0, .ref (x 22), .ref (x 23), .int 0, .ref (x 24), .ref (x 25), .ref (x 26), .ref (x 27), .ref (x 28)])), ((x 42), .inl (cy 7, 16, .inr (.inr (.inr (.inr (fun _ => none)))))), ((x 31), .inr (6, [.ref (x 32), .ref (x 9), .ref (x 29), .int 0, .int 0, .int 0, .ref (x 36), .ref (x 37), .ref (x 38), .ref (x 39), .ref (x 40), .ref (x 41), .int 0])), ((x 32), .inr (9, [.ref (x 33), .ref (x 34), .ref (x 35), .int 0])), ((x 33), .inl (cy 0, 384, .inl (fun _ => 0))), ((x 34), .inl (cy 2, 384, .inr (.inl (fun _ => 0)))), ((x 35), .inl (cy 0, 96, .inl (fun _ => 0))), ((x 36), .inl (cy 0, 96, .inl (fun _ => 0))), ((x 38), .inl (cy 0, 96, .inl (fun _ => 0))), ((q 0), .inr (11, (mO q 0 0 0 0 0 0 0 0 (-1) 1 0 0 0 0 0 0 0 0 0))), ((q 63), .inl (cy 0, 600, .inl (fun _ => 0))), ((q 64), .inl (cy 0, 600, .inl (fun _ => 0))), ((q 65), .inl (cy 0, 600, .inl (fun _ => 0))), ((q 66), .inl (cy 0, 600, .inl (fun _ => 0))), ((q 67), .inl (cy 0, 97, .inl (fun _ => 0))), ((q 68), .inl (cy 0, 97, .inl (fun _ => 0))), ((q 70), .inl (cy 1, 16, .inl (fun _ => 0))), ((q 71), .inl (cy 0, 16, .inl (fun _ => 0))), ((q 72), .inl (cy 2, 16, .inr (.inl (fun _ => 0)))), ((q 73), .inl (cy 1, 16, .inl (fun _ => 0))), ((q 74), .inl (cy 1, 16, .inl (fun _ => 0)))] H) (hD : va_D A [((x 0), .inr (10, [.int 0, .int (-1), .ref (x 1), .ref (x 9), .int 0, .ref (x 10), .ref (x 13), .ref (x 16), .ref (x 29), .int 0, .int 0, .ref (x 30), .int 0, .ref (x 31), .ref (x 42), .int 0, .int 0, .null, .ref (x 43)])), ((x 13), .inr (4, [.ref (x 14), .ref (x 15), .int 0, .ref (x 16)])), ((x 16), .inr (5, [.int 0, .ref (x 17), .ref (x 18), .ref (x 19), .ref (x 20), .ref (x 21), .int 0, .int 10, .int 20, .int 0, .int 0, .ref (x 22), .ref (x 23), .int 0, .ref (x 24), .ref (x 25), .ref (x 26), .ref (x 27), .ref (x 28)])), ((x 42), .inl (cy 7, 16, .inr (.inr (.inr (.inr (fun _ => none)))))), ((x 31), .inr (6, [.ref (x 32), .ref (x 9), .ref (x 29), .int 0, .int 0, .int 0, .ref (x 36), .ref (x 37), .ref (x 38), .ref (x 39), .ref (x 40), .ref (x 41), .int 0])), ((x 32), .inr (9, [.ref (x 33), .ref (x 34), .ref (x 35), .int 0])), ((x 33), .inl (cy 0, 384, .inl (fun _ => 0))), ((x 34), .inl (cy 2, 384, .inr (.inl (fun _ => 0)))), ((x 35), .inl (cy 0, 96, .inl (fun _ => 0))), ((x 36), .inl (cy 0, 96, .inl (fun _ => 0))), ((x 38), .inl (cy 0, 96, .inl (fun _ => 0))), ((q 0), .inr (11, (mO q 0 0 0 0 0 0 0 0 (-1) 1 0 0 0 0 0 0 0 0 0))), ((q 63), .inl (cy 0, 600, .inl (fun _ => 0))), ((q 64), .inl (cy 0, 600, .inl (fun _ => 0))), ((q 65), .inl (cy 0, 600, .inl (fun _ => 0))), ((q 66), .inl (cy 0, 600, .inl (fun _ => 0))), ((q 67), .inl (cy 0, 97, .inl (fun _ => 0))), ((q 68), .inl (cy 0, 97, .inl (fun _ => 0))), ((q 70), .inl (cy 1, 16, .inl (fun _ => 0))), ((q 71), .inl (cy 0, 16, .inl (fun _ => 0))), ((q 72), .inl (cy 2, 16, .inr (.inl (fun _ => 0)))), ((q 73), .inl (cy 1, 16, .inl (fun _ => 0))), ((q 74), .inl (cy 1, 16, .inl (fun _ => 0)))]) (hS : va_S A s.heap H locs) (hl : lv_has ls 7 [(4, .int 0), (3, .ref o), (2, .ref (q 0)), (1, .ref (x 0)), (0, .ref b)]) : W p l e room_1 s m #[Value.ref b] below meth c H locs 114 51906 (lw_Z below #[Value.ref b] s) (F0 m 1136 ls []) := by
  obtain ⟨p1, e1⟩ : ∃ y, xs 1 = y := ⟨_, rfl⟩
  obtain ⟨z1, h1⟩ : ∃ z, p1.toInt = z := ⟨_, rfl⟩
  obtain ⟨p2, e2⟩ : ∃ y, xs 2 = y := ⟨_, rfl⟩
  obtain ⟨z2, h2⟩ : ∃ z, p2.toInt = z := ⟨_, rfl⟩
  obtain ⟨p3, e3⟩ : ∃ y, xs 3 = y := ⟨_, rfl⟩
  obtain ⟨z3, h3⟩ : ∃ z, p3.toInt = z := ⟨_, rfl⟩
  obtain ⟨p4, e4⟩ : ∃ y, xs 4 = y := ⟨_, rfl⟩
  obtain ⟨z4, h4⟩ : ∃ z, p4.toInt = z := ⟨_, rfl⟩
  obtain ⟨p5, e5⟩ : ∃ y, xs 5 = y := ⟨_, rfl⟩
  obtain ⟨z5, h5⟩ : ∃ z, p5.toInt = z := ⟨_, rfl⟩
  obtain ⟨p6, e6⟩ : ∃ y, xs 6 = y := ⟨_, rfl⟩
  obtain ⟨z6, h6⟩ : ∃ z, p6.toInt = z := ⟨_, rfl⟩
  obtain ⟨p7, e7⟩ : ∃ y, xs 7 = y := ⟨_, rfl⟩
  obtain ⟨z7, h7⟩ : ∃ z, p7.toInt = z := ⟨_, rfl⟩
  refine lv_aload_n S.1 S.2.1 dL_law_1136 rfl (lv_at hl 3 rfl) ?_
  refine lv_aload_n S.1 S.2.1 dL_law_1137 rfl (lv_at hl 4 rfl) ?_
  refine lv_iload S.1 S.2.1 dL_law_1138 (lv_at hl 0 rfl) ?_
  refine lv_iconst (v := 1) S.1 S.2.1 dL_law_1140 (by decide) ?_
  refine r_iadd S dL_law_1141 (v := 1) (by decide) ?_
  refine r_sld S hX hbl hbA hS 1 (by decide) (by decide) (by decide) (v := p1) e1 dL_law_1142 ?_
  refine call_i (wr := [((q 0), .inr (11, (mO q 0 0 0 0 0 0 0 0 (-1) 1 0 0 0 0 0 0 0 0 0))), ((q 63), .inl (cy 0, 600, .inl (fun _ => 0))), ((q 64), .inl (cy 0, 600, .inl (fun _ => 0))), ((q 65), .inl (cy 0, 600, .inl (fun _ => 0))), ((q 66), .inl (cy 0, 600, .inl (fun _ => 0))), ((q 67), .inl (cy 0, 97, .inl (fun _ => 0))), ((q 68), .inl (cy 0, 97, .inl (fun _ => 0))), ((q 70), .inl (cy 1, 16, .inl (fun _ => 0))), ((q 71), .inl (cy 0, 16, .inl (fun _ => 0))), ((q 72), .inl (cy 2, 16, .inr (.inl (fun _ => 0)))), ((q 73), .inl (cy 1, 16, .inl (fun _ => 0))), ((q 74), .inl (cy 1, 16, .inl (fun _ => 0)))]) (runV_C (wc := [((x 0), .inr (10, [.int 0, .int (-1), .ref (x 1), .ref (x 9), .int 0, .ref (x 10), .ref (x 13), .ref (x 16), .ref (x 29), .int 0, .int 0, .ref (x 30), .int 0, .ref (x 31), .ref (x 42), .int 0, .int 0, .null, .ref (x 43)])), ((x 13), .inr (4, [.ref (x 14), .ref (x 15), .int 0, .ref (x 16)])), ((x 16), .inr (5, [.int 0, .ref (x 17), .ref (x 18), .ref (x 19), .ref (x 20), .ref (x 21), .int 0, .int 10, .int 20, .int 0, .int 0, .ref (x 22), .ref (x 23), .int 0, .ref (x 24), .ref (x 25), .ref (x 26), .ref (x 27), .ref (x 28)])), ((x 42), .inl (cy 7, 16, .inr (.inr (.inr (.inr (fun _ => none)))))), ((x 31), .inr (6, [.ref (x 32), .ref (x 9), .ref (x 29), .int 0, .int 0, .int 0, .ref (x 36), .ref (x 37), .ref (x 38), .ref (x 39), .ref (x 40), .ref (x 41), .int 0])), ((x 32), .inr (9, [.ref (x 33), .ref (x 34), .ref (x 35), .int 0])), ((x 33), .inl (cy 0, 384, .inl (fun _ => 0))), ((x 34), .inl (cy 2, 384, .inr (.inl (fun _ => 0)))), ((x 35), .inl (cy 0, 96, .inl (fun _ => 0))), ((x 36), .inl (cy 0, 96, .inl (fun _ => 0))), ((x 38), .inl (cy 0, 96, .inl (fun _ => 0)))]) (As := [.int p1]) (rest := []) S (kX11_kept l D cy x p1 z1 h1) hK hP hD [0, 1, 2, 3, 4, 5, 6, 7, 8, 9, 10] (by decide) rfl 0 10 rfl rfl kw_1159 kw_1160 kw_1161 kw_144 kw_1162 okX11_kept rfl (by decide) hl.1 rfl (Nat.le_of_ble_eq_true rfl) dL_law_1143 (by decide)) hP hD hS hA [0, 1, 2, 3, 4, 5, 6, 7, 8, 9, 10] [11, 12, 13, 14, 15, 16, 17, 18, 19, 20, 21, 22] rfl rfl (by decide) (by decide) (fun v1143 u1143 H locs w1143 hP hD hS => ?_)
  have hP : va_P D vwCl [((q 0), .inr (11, (mO q 0 0 0 0 0 0 0 0 (-1) 1 0 0 0 0 0 0 0 0 0))), ((q 63), .inl (cy 0, 600, .inl (fun _ => 0))), ((q 64), .inl (cy 0, 600, .inl (fun _ => 0))), ((q 65), .inl (cy 0, 600, .inl (fun _ => 0))), ((q 66), .inl (cy 0, 600, .inl (fun _ => 0))), ((q 67), .inl (cy 0, 97, .inl (fun _ => 0))), ((q 68), .inl (cy 0, 97, .inl (fun _ => 0))), ((q 70), .inl (cy 1, 16, .inl (fun _ => 0))), ((q 71), .inl (cy 0, 16, .inl (fun _ => 0))), ((q 72), .inl (cy 2, 16, .inr (.inl (fun _ => 0)))), ((q 73), .inl (cy 1, 16, .inl (fun _ => 0))), ((q 74), .inl (cy 1, 16, .inl (fun _ => 0)))] H := hP
  have hD : va_D A [((q 0), .inr (11, (mO q 0 0 0 0 0 0 0 0 (-1) 1 0 0 0 0 0 0 0 0 0))), ((q 63), .inl (cy 0, 600, .inl (fun _ => 0))), ((q 64), .inl (cy 0, 600, .inl (fun _ => 0))), ((q 65), .inl (cy 0, 600, .inl (fun _ => 0))), ((q 66), .inl (cy 0, 600, .inl (fun _ => 0))), ((q 67), .inl (cy 0, 97, .inl (fun _ => 0))), ((q 68), .inl (cy 0, 97, .inl (fun _ => 0))), ((q 70), .inl (cy 1, 16, .inl (fun _ => 0))), ((q 71), .inl (cy 0, 16, .inl (fun _ => 0))), ((q 72), .inl (cy 2, 16, .inr (.inl (fun _ => 0)))), ((q 73), .inl (cy 1, 16, .inl (fun _ => 0))), ((q 74), .inl (cy 1, 16, .inl (fun _ => 0)))] := hD
  rcases w1143 with ⟨rfl, w1143_0_0⟩ | ⟨rfl, w1143_1_0⟩
  · refine lv_aload_n S.1 S.2.1 dL_law_1146 rfl (lv_at hl 2 rfl) ?_
    refine lv_aload_n S.1 S.2.1 dL_law_1147 rfl (lv_at hl 4 rfl) ?_
    refine lv_iload S.1 S.2.1 dL_law_1148 (lv_at hl 0 rfl) ?_
    refine lv_iconst (v := 1) S.1 S.2.1 dL_law_1150 (by decide) ?_
    refine r_iadd S dL_law_1151 (v := 1) (by decide) ?_
    refine r_sld S hX hbl hbA hS 1 (by decide) (by decide) (by decide) (v := p1) e1 dL_law_1152 ?_
    refine call_i (wr := []) (runV_C (wc := [((q 0), .inr (11, (mO q 0 0 0 0 0 0 0 0 (-1) 1 0 0 0 0 0 0 0 0 0))), ((q 63), .inl (cy 0, 600, .inl (fun _ => 0))), ((q 64), .inl (cy 0, 600, .inl (fun _ => 0))), ((q 65), .inl (cy 0, 600, .inl (fun _ => 0))), ((q 66), .inl (cy 0, 600, .inl (fun _ => 0))), ((q 67), .inl (cy 0, 97, .inl (fun _ => 0))), ((q 68), .inl (cy 0, 97, .inl (fun _ => 0))), ((q 70), .inl (cy 1, 16, .inl (fun _ => 0))), ((q 71), .inl (cy 0, 16, .inl (fun _ => 0))), ((q 72), .inl (cy 2, 16, .inr (.inl (fun _ => 0)))), ((q 73), .inl (cy 1, 16, .inl (fun _ => 0))), ((q 74), .inl (cy 1, 16, .inl (fun _ => 0)))]) (As := [.int p1]) (rest := [.int 1]) S (kX12_kept l D cy q p1 z1 h1) hK hP hD [0, 1, 2, 3, 4, 5, 6, 7, 8, 9, 10, 11] (by decide) rfl 0 11 rfl rfl kw_2108 kw_2109 kw_2110 kw_152 kw_2111 okX12_kept rfl (by decide) hl.1 rfl (Nat.le_of_ble_eq_true rfl) dL_law_1153 (by decide)) hP hD hS hA [0, 1, 2, 3, 4, 5, 6, 7, 8, 9, 10, 11] [] rfl rfl (by decide) (by decide) (fun v1153 u1153 H locs w1153 hP hD hS => ?_)
    have hP : va_P D vwCl [] H := hP
    have hD : va_D A [] := hD
    rcases w1153 with ⟨rfl, w1153_0_0⟩ | ⟨rfl, w1153_1_0⟩
    · refine r_icmp_eq S 1 1 rfl rfl dL_law_1156 (tgt := 2008) (by decide) (fun _ => ?_) (fun c => absurd c (by decide))
      exact law_on S hr hlk hX hbl hbA hA2 hS (lv_sub hl [0, 4] rfl) (by decide) (by decide)
    · exfalso; omega
  · refine lv_aload_n S.1 S.2.1 dL_law_1146 rfl (lv_at hl 2 rfl) ?_
    refine lv_aload_n S.1 S.2.1 dL_law_1147 rfl (lv_at hl 4 rfl) ?_
    refine lv_iload S.1 S.2.1 dL_law_1148 (lv_at hl 0 rfl) ?_
    refine lv_iconst (v := 1) S.1 S.2.1 dL_law_1150 (by decide) ?_
    refine r_iadd S dL_law_1151 (v := 1) (by decide) ?_
    refine r_sld S hX hbl hbA hS 1 (by decide) (by decide) (by decide) (v := p1) e1 dL_law_1152 ?_
    refine call_i (wr := []) (runV_C (wc := [((q 0), .inr (11, (mO q 0 0 0 0 0 0 0 0 (-1) 1 0 0 0 0 0 0 0 0 0))), ((q 63), .inl (cy 0, 600, .inl (fun _ => 0))), ((q 64), .inl (cy 0, 600, .inl (fun _ => 0))), ((q 65), .inl (cy 0, 600, .inl (fun _ => 0))), ((q 66), .inl (cy 0, 600, .inl (fun _ => 0))), ((q 67), .inl (cy 0, 97, .inl (fun _ => 0))), ((q 68), .inl (cy 0, 97, .inl (fun _ => 0))), ((q 70), .inl (cy 1, 16, .inl (fun _ => 0))), ((q 71), .inl (cy 0, 16, .inl (fun _ => 0))), ((q 72), .inl (cy 2, 16, .inr (.inl (fun _ => 0)))), ((q 73), .inl (cy 1, 16, .inl (fun _ => 0))), ((q 74), .inl (cy 1, 16, .inl (fun _ => 0)))]) (As := [.int p1]) (rest := [.int (-1)]) S (kX12_kept l D cy q p1 z1 h1) hK hP hD [0, 1, 2, 3, 4, 5, 6, 7, 8, 9, 10, 11] (by decide) rfl 0 11 rfl rfl kw_2108 kw_2109 kw_2110 kw_152 kw_2111 okX12_kept rfl (by decide) hl.1 rfl (Nat.le_of_ble_eq_true rfl) dL_law_1153 (by decide)) hP hD hS hA [0, 1, 2, 3, 4, 5, 6, 7, 8, 9, 10, 11] [] rfl rfl (by decide) (by decide) (fun v1153 u1153 H locs w1153 hP hD hS => ?_)
    have hP : va_P D vwCl [] H := hP
    have hD : va_D A [] := hD
    rcases w1153 with ⟨rfl, w1153_0_0⟩ | ⟨rfl, w1153_1_0⟩
    · exfalso; omega
    · refine r_icmp_eq S (-1) (-1) rfl rfl dL_law_1156 (tgt := 2008) (by decide) (fun _ => ?_) (fun c => absurd c (by decide))
      exact law_on S hr hlk hX hbl hbA hA2 hS (lv_sub hl [0, 4] rfl) (by decide) (by decide)
set_option maxHeartbeats 4000000 in
set_option maxRecDepth 100000 in
theorem law_c18 (l : Launch) (hst : l.stackTraces = false) {p : Program} {e : Env} {s : State} {m : MethodId} {below : List Frame} {meth : Method} {c : Code} {H : Heap} {locs : List Loc} {ls : Array Slot} {D : va_G} {cy : Nat → ClassId} {b : Nat} {xs : Nat → Int32} {A : Nat → Prop} {x q : Nat → Nat} {o : Nat} (S : CallFix p m c cL_law 7 s #[Value.ref b] uu "LandSurveyLaw") (hr : meth.sig.returnType = ret) (hlk : meth.locks = false) (hX : va_X b 8 xs s s.heap) (hbl : b < s.heap.size) (hbA : ¬ A b) (hA : ∀ q : Nat, s.heap.size ≤ q → A q) (hA2 : ∀ q : Nat, A q → s.heap.size ≤ q) (hK : KX D cy s) (hE : Ey s) (hZ : Zs A s s.heap) (hP : va_P D vwCl [((x 0), .inr (10, [.int 0, .int (-1), .ref (x 1), .ref (x 9), .int 0, .ref (x 10), .ref (x 13), .ref (x 16), .ref (x 29), .int 0, .int 0, .ref (x 30), .int 0, .ref (x 31), .ref (x 42), .int 0, .int 0, .null, .ref (x 43)])), ((x 13), .inr (4, [.ref (x 14), .ref (x 15), .int 0, .ref (x 16)])), ((x 16), .inr (5, [.int 0, .ref (x 17), .ref (x 18), .ref (x 19), .ref (x 20), .ref (x 21), .int 0, .int 10, .int 20, .int 0, .int 0, .ref (x 22), .ref (x 23), .int 0, .ref (x 24), .ref (x 25), .ref (x 26), .ref (x 27), .ref (x 28)])), ((x 42), .inl (cy 7, 16, .inr (.inr (.inr (.inr (fun _ => none)))))), ((x 31), .inr (6, [.ref (x 32), .ref (x 9), .ref (x 29), .int 0, .int 0, .int 0, .ref (x 36), .ref (x 37), .ref (x 38), .ref (x 39), .ref (x 40), .ref (x 41), .int 0])), ((x 32), .inr (9, [.ref (x 33), .ref (x 34), .ref (x 35), .int 0])), ((x 33), .inl (cy 0, 384, .inl (fun _ => 0))), ((x 34), .inl (cy 2, 384, .inr (.inl (fun _ => 0)))), ((x 35), .inl (cy 0, 96, .inl (fun _ => 0))), ((x 36), .inl (cy 0, 96, .inl (fun _ => 0))), ((x 38), .inl (cy 0, 96, .inl (fun _ => 0))), (o, .inl (cy 2, 1, .inr (.inl (fun _ => 0)))), ((q 0), .inr (11, (mO q 0 0 0 0 0 0 0 0 (-1) 1 0 0 0 0 0 0 0 0 0))), ((q 63), .inl (cy 0, 600, .inl (fun _ => 0))), ((q 64), .inl (cy 0, 600, .inl (fun _ => 0))), ((q 65), .inl (cy 0, 600, .inl (fun _ => 0))), ((q 66), .inl (cy 0, 600, .inl (fun _ => 0))), ((q 67), .inl (cy 0, 97, .inl (fun _ => 0))), ((q 68), .inl (cy 0, 97, .inl (fun _ => 0))), ((q 70), .inl (cy 1, 16, .inl (fun _ => 0))), ((q 71), .inl (cy 0, 16, .inl (fun _ => 0))), ((q 72), .inl (cy 2, 16, .inr (.inl (fun _ => 0)))), ((q 73), .inl (cy 1, 16, .inl (fun _ => 0))), ((q 74), .inl (cy 1, 16, .inl (fun _ => 0)))] H) (hD : va_D A [((x 0), .inr (10, [.int 0, .int (-1), .ref (x 1), .ref (x 9), .int 0, .ref (x 10), .ref (x 13), .ref (x 16), .ref (x 29), .int 0, .int 0, .ref (x 30), .int 0, .ref (x 31), .ref (x 42), .int 0, .int 0, .null, .ref (x 43)])), ((x 13), .inr (4, [.ref (x 14), .ref (x 15), .int 0, .ref (x 16)])), ((x 16), .inr (5, [.int 0, .ref (x 17), .ref (x 18), .ref (x 19), .ref (x 20), .ref (x 21), .int 0, .int 10, .int 20, .int 0, .int 0, .ref (x 22), .ref (x 23), .int 0, .ref (x 24), .ref (x 25), .ref (x 26), .ref (x 27), .ref (x 28)])), ((x 42), .inl (cy 7, 16, .inr (.inr (.inr (.inr (fun _ => none)))))), ((x 31), .inr (6, [.ref (x 32), .ref (x 9), .ref (x 29), .int 0, .int 0, .int 0, .ref (x 36), .ref (x 37), .ref (x 38), .ref (x 39), .ref (x 40), .ref (x 41), .int 0])), ((x 32), .inr (9, [.ref (x 33), .ref (x 34), .ref (x 35), .int 0])), ((x 33), .inl (cy 0, 384, .inl (fun _ => 0))), ((x 34), .inl (cy 2, 384, .inr (.inl (fun _ => 0)))), ((x 35), .inl (cy 0, 96, .inl (fun _ => 0))), ((x 36), .inl (cy 0, 96, .inl (fun _ => 0))), ((x 38), .inl (cy 0, 96, .inl (fun _ => 0))), (o, .inl (cy 2, 1, .inr (.inl (fun _ => 0)))), ((q 0), .inr (11, (mO q 0 0 0 0 0 0 0 0 (-1) 1 0 0 0 0 0 0 0 0 0))), ((q 63), .inl (cy 0, 600, .inl (fun _ => 0))), ((q 64), .inl (cy 0, 600, .inl (fun _ => 0))), ((q 65), .inl (cy 0, 600, .inl (fun _ => 0))), ((q 66), .inl (cy 0, 600, .inl (fun _ => 0))), ((q 67), .inl (cy 0, 97, .inl (fun _ => 0))), ((q 68), .inl (cy 0, 97, .inl (fun _ => 0))), ((q 70), .inl (cy 1, 16, .inl (fun _ => 0))), ((q 71), .inl (cy 0, 16, .inl (fun _ => 0))), ((q 72), .inl (cy 2, 16, .inr (.inl (fun _ => 0)))), ((q 73), .inl (cy 1, 16, .inl (fun _ => 0))), ((q 74), .inl (cy 1, 16, .inl (fun _ => 0)))]) (hS : va_S A s.heap H locs) (hl : lv_has ls 7 [(4, .int 0), (3, .ref o), (2, .ref (q 0)), (1, .ref (x 0)), (0, .ref b)]) : W p l e room_1 s m #[Value.ref b] below meth c H locs 114 51906 (lw_Z below #[Value.ref b] s) (F0 m 1161 ls []) := by
  obtain ⟨p1, e1⟩ : ∃ y, xs 1 = y := ⟨_, rfl⟩
  obtain ⟨z1, h1⟩ : ∃ z, p1.toInt = z := ⟨_, rfl⟩
  obtain ⟨p2, e2⟩ : ∃ y, xs 2 = y := ⟨_, rfl⟩
  obtain ⟨z2, h2⟩ : ∃ z, p2.toInt = z := ⟨_, rfl⟩
  obtain ⟨p3, e3⟩ : ∃ y, xs 3 = y := ⟨_, rfl⟩
  obtain ⟨z3, h3⟩ : ∃ z, p3.toInt = z := ⟨_, rfl⟩
  obtain ⟨p4, e4⟩ : ∃ y, xs 4 = y := ⟨_, rfl⟩
  obtain ⟨z4, h4⟩ : ∃ z, p4.toInt = z := ⟨_, rfl⟩
  obtain ⟨p5, e5⟩ : ∃ y, xs 5 = y := ⟨_, rfl⟩
  obtain ⟨z5, h5⟩ : ∃ z, p5.toInt = z := ⟨_, rfl⟩
  obtain ⟨p6, e6⟩ : ∃ y, xs 6 = y := ⟨_, rfl⟩
  obtain ⟨z6, h6⟩ : ∃ z, p6.toInt = z := ⟨_, rfl⟩
  obtain ⟨p7, e7⟩ : ∃ y, xs 7 = y := ⟨_, rfl⟩
  obtain ⟨z7, h7⟩ : ∃ z, p7.toInt = z := ⟨_, rfl⟩
  refine lv_aload_n S.1 S.2.1 dL_law_1161 rfl (lv_at hl 3 rfl) ?_
  refine lv_aload_n S.1 S.2.1 dL_law_1162 rfl (lv_at hl 4 rfl) ?_
  refine lv_iload S.1 S.2.1 dL_law_1163 (lv_at hl 0 rfl) ?_
  refine lv_iconst (v := 1) S.1 S.2.1 dL_law_1165 (by decide) ?_
  refine r_iadd S dL_law_1166 (v := 1) (by decide) ?_
  refine r_sld S hX hbl hbA hS 1 (by decide) (by decide) (by decide) (v := p1) e1 dL_law_1167 ?_
  refine lv_aload_n S.1 S.2.1 dL_law_1168 rfl (lv_at hl 4 rfl) ?_
  refine lv_iload S.1 S.2.1 dL_law_1169 (lv_at hl 0 rfl) ?_
  refine lv_iconst (v := 2) S.1 S.2.1 dL_law_1171 (by decide) ?_
  refine r_iadd S dL_law_1172 (v := 2) (by decide) ?_
  refine r_sld S hX hbl hbA hS 2 (by decide) (by decide) (by decide) (v := p2) e2 dL_law_1173 ?_
  refine lv_aload_n S.1 S.2.1 dL_law_1174 rfl (lv_at hl 4 rfl) ?_
  refine lv_iload S.1 S.2.1 dL_law_1175 (lv_at hl 0 rfl) ?_
  refine lv_iconst (v := 3) S.1 S.2.1 dL_law_1177 (by decide) ?_
  refine r_iadd S dL_law_1178 (v := 3) (by decide) ?_
  refine r_sld S hX hbl hbA hS 3 (by decide) (by decide) (by decide) (v := p3) e3 dL_law_1179 ?_
  refine lv_aload_n S.1 S.2.1 dL_law_1180 rfl (lv_at hl 4 rfl) ?_
  refine lv_iload S.1 S.2.1 dL_law_1181 (lv_at hl 0 rfl) ?_
  refine lv_iconst (v := 4) S.1 S.2.1 dL_law_1183 (by decide) ?_
  refine r_iadd S dL_law_1184 (v := 4) (by decide) ?_
  refine r_sld S hX hbl hbA hS 4 (by decide) (by decide) (by decide) (v := p4) e4 dL_law_1185 ?_
  refine lv_aload_n S.1 S.2.1 dL_law_1186 rfl (lv_at hl 1 rfl) ?_
  refine call_i (wr := [((q 0), .inr (11, (mO q 0 0 0 0 0 0 0 0 (-1) 1 0 0 0 0 0 0 0 0 0))), ((q 63), .inl (cy 0, 600, .inl (fun _ => 0))), ((q 64), .inl (cy 0, 600, .inl (fun _ => 0))), ((q 65), .inl (cy 0, 600, .inl (fun _ => 0))), ((q 66), .inl (cy 0, 600, .inl (fun _ => 0))), ((q 67), .inl (cy 0, 97, .inl (fun _ => 0))), ((q 68), .inl (cy 0, 97, .inl (fun _ => 0))), ((q 70), .inl (cy 1, 16, .inl (fun _ => 0))), ((q 71), .inl (cy 0, 16, .inl (fun _ => 0))), ((q 72), .inl (cy 2, 16, .inr (.inl (fun _ => 0)))), ((q 73), .inl (cy 1, 16, .inl (fun _ => 0))), ((q 74), .inl (cy 1, 16, .inl (fun _ => 0)))]) (runS_W (wc := [((x 0), .inr (10, [.int 0, .int (-1), .ref (x 1), .ref (x 9), .int 0, .ref (x 10), .ref (x 13), .ref (x 16), .ref (x 29), .int 0, .int 0, .ref (x 30), .int 0, .ref (x 31), .ref (x 42), .int 0, .int 0, .null, .ref (x 43)])), ((x 13), .inr (4, [.ref (x 14), .ref (x 15), .int 0, .ref (x 16)])), ((x 16), .inr (5, [.int 0, .ref (x 17), .ref (x 18), .ref (x 19), .ref (x 20), .ref (x 21), .int 0, .int 10, .int 20, .int 0, .int 0, .ref (x 22), .ref (x 23), .int 0, .ref (x 24), .ref (x 25), .ref (x 26), .ref (x 27), .ref (x 28)])), ((x 42), .inl (cy 7, 16, .inr (.inr (.inr (.inr (fun _ => none)))))), ((x 31), .inr (6, [.ref (x 32), .ref (x 9), .ref (x 29), .int 0, .int 0, .int 0, .ref (x 36), .ref (x 37), .ref (x 38), .ref (x 39), .ref (x 40), .ref (x 41), .int 0])), ((x 32), .inr (9, [.ref (x 33), .ref (x 34), .ref (x 35), .int 0])), ((x 33), .inl (cy 0, 384, .inl (fun _ => 0))), ((x 34), .inl (cy 2, 384, .inr (.inl (fun _ => 0)))), ((x 35), .inl (cy 0, 96, .inl (fun _ => 0))), ((x 36), .inl (cy 0, 96, .inl (fun _ => 0))), ((x 38), .inl (cy 0, 96, .inl (fun _ => 0))), (o, .inl (cy 2, 1, .inr (.inl (fun _ => 0))))]) (As := [.ref (x 0), .int p1, .int p2, .int p3, .int p4, .ref o]) (rest := []) S (kL_base l D cy x o p1 p2 p3 p4 z1 h1 z2 h2 z3 h3 z4 h4 hst) hK hP hD hS hA hE hZ [0, 1, 2, 3, 4, 5, 6, 7, 8, 9, 10, 11] (by decide) rfl kw_1434 kw_1435 kw_143 kw_1436 okL_base rfl (by decide) hl.1 rfl (Nat.le_of_ble_eq_true rfl) dL_law_1187 (by decide)) hP hD hS hA [0, 1, 2, 3, 4, 5, 6, 7, 8, 9, 10, 11] [12, 13, 14, 15, 16, 17, 18, 19, 20, 21, 22, 23] rfl rfl (by decide) (by decide) (fun v1187 u1187 H locs w1187 hP hD hS => ?_)
  have hP : va_P D vwCl [((q 0), .inr (11, (mO q 0 0 0 0 0 0 0 0 (-1) 1 0 0 0 0 0 0 0 0 0))), ((q 63), .inl (cy 0, 600, .inl (fun _ => 0))), ((q 64), .inl (cy 0, 600, .inl (fun _ => 0))), ((q 65), .inl (cy 0, 600, .inl (fun _ => 0))), ((q 66), .inl (cy 0, 600, .inl (fun _ => 0))), ((q 67), .inl (cy 0, 97, .inl (fun _ => 0))), ((q 68), .inl (cy 0, 97, .inl (fun _ => 0))), ((q 70), .inl (cy 1, 16, .inl (fun _ => 0))), ((q 71), .inl (cy 0, 16, .inl (fun _ => 0))), ((q 72), .inl (cy 2, 16, .inr (.inl (fun _ => 0)))), ((q 73), .inl (cy 1, 16, .inl (fun _ => 0))), ((q 74), .inl (cy 1, 16, .inl (fun _ => 0)))] H := hP
  have hD : va_D A [((q 0), .inr (11, (mO q 0 0 0 0 0 0 0 0 (-1) 1 0 0 0 0 0 0 0 0 0))), ((q 63), .inl (cy 0, 600, .inl (fun _ => 0))), ((q 64), .inl (cy 0, 600, .inl (fun _ => 0))), ((q 65), .inl (cy 0, 600, .inl (fun _ => 0))), ((q 66), .inl (cy 0, 600, .inl (fun _ => 0))), ((q 67), .inl (cy 0, 97, .inl (fun _ => 0))), ((q 68), .inl (cy 0, 97, .inl (fun _ => 0))), ((q 70), .inl (cy 1, 16, .inl (fun _ => 0))), ((q 71), .inl (cy 0, 16, .inl (fun _ => 0))), ((q 72), .inl (cy 2, 16, .inr (.inl (fun _ => 0)))), ((q 73), .inl (cy 1, 16, .inl (fun _ => 0))), ((q 74), .inl (cy 1, 16, .inl (fun _ => 0)))] := hD
  subst w1187
  refine lv_istore (lv' := [(5, .int 1), (4, .int 0), (3, .ref o), (2, .ref (q 0)), (1, .ref (x 0)), (0, .ref b)]) S.1 S.2.1 dL_law_1190 hl (by decide) rfl (fun ls hl => ?_)
  refine lv_aload_n S.1 S.2.1 dL_law_1192 rfl (lv_at hl 3 rfl) ?_
  refine lv_aload_n S.1 S.2.1 dL_law_1193 rfl (lv_at hl 5 rfl) ?_
  refine lv_iload S.1 S.2.1 dL_law_1194 (lv_at hl 1 rfl) ?_
  refine lv_iconst (v := 1) S.1 S.2.1 dL_law_1196 (by decide) ?_
  refine r_iadd S dL_law_1197 (v := 1) (by decide) ?_
  refine r_sld S hX hbl hbA hS 1 (by decide) (by decide) (by decide) (v := p1) e1 dL_law_1198 ?_
  refine lv_aload_n S.1 S.2.1 dL_law_1199 rfl (lv_at hl 5 rfl) ?_
  refine lv_iload S.1 S.2.1 dL_law_1200 (lv_at hl 1 rfl) ?_
  refine lv_iconst (v := 2) S.1 S.2.1 dL_law_1202 (by decide) ?_
  refine r_iadd S dL_law_1203 (v := 2) (by decide) ?_
  refine r_sld S hX hbl hbA hS 2 (by decide) (by decide) (by decide) (v := p2) e2 dL_law_1204 ?_
  refine lv_aload_n S.1 S.2.1 dL_law_1205 rfl (lv_at hl 5 rfl) ?_
  refine lv_iload S.1 S.2.1 dL_law_1206 (lv_at hl 1 rfl) ?_
  refine lv_iconst (v := 3) S.1 S.2.1 dL_law_1208 (by decide) ?_
  refine r_iadd S dL_law_1209 (v := 3) (by decide) ?_
  refine r_sld S hX hbl hbA hS 3 (by decide) (by decide) (by decide) (v := p3) e3 dL_law_1210 ?_
  refine lv_aload_n S.1 S.2.1 dL_law_1211 rfl (lv_at hl 5 rfl) ?_
  refine lv_iload S.1 S.2.1 dL_law_1212 (lv_at hl 1 rfl) ?_
  refine lv_iconst (v := 4) S.1 S.2.1 dL_law_1214 (by decide) ?_
  refine r_iadd S dL_law_1215 (v := 4) (by decide) ?_
  refine r_sld S hX hbl hbA hS 4 (by decide) (by decide) (by decide) (v := p4) e4 dL_law_1216 ?_
  refine call_i (wr := []) (runV_C (wc := [((q 0), .inr (11, (mO q 0 0 0 0 0 0 0 0 (-1) 1 0 0 0 0 0 0 0 0 0))), ((q 63), .inl (cy 0, 600, .inl (fun _ => 0))), ((q 64), .inl (cy 0, 600, .inl (fun _ => 0))), ((q 65), .inl (cy 0, 600, .inl (fun _ => 0))), ((q 66), .inl (cy 0, 600, .inl (fun _ => 0))), ((q 67), .inl (cy 0, 97, .inl (fun _ => 0))), ((q 68), .inl (cy 0, 97, .inl (fun _ => 0))), ((q 70), .inl (cy 1, 16, .inl (fun _ => 0))), ((q 71), .inl (cy 0, 16, .inl (fun _ => 0))), ((q 72), .inl (cy 2, 16, .inr (.inl (fun _ => 0)))), ((q 73), .inl (cy 1, 16, .inl (fun _ => 0))), ((q 74), .inl (cy 1, 16, .inl (fun _ => 0)))]) (As := [.int p1, .int p2, .int p3, .int p4]) (rest := []) S (kX12_base l D cy q p1 p2 p3 p4 z1 h1 z2 h2 z3 h3 z4 h4) hK hP hD [0, 1, 2, 3, 4, 5, 6, 7, 8, 9, 10, 11] (by decide) rfl 0 11 rfl rfl kw_2112 kw_2113 kw_2114 kw_152 kw_2115 okX12_base rfl (by decide) hl.1 rfl (Nat.le_of_ble_eq_true rfl) dL_law_1217 (by decide)) hP hD hS hA [0, 1, 2, 3, 4, 5, 6, 7, 8, 9, 10, 11] [] rfl rfl (by decide) (by decide) (fun v1217 u1217 H locs w1217 hP hD hS => ?_)
  obtain ⟨tl_1217, rfl⟩ : ∃ z, z = u1217 := ⟨_, rfl⟩
  have hP : va_P D vwCl [((q 0), .inr (11, (.int 1 :: tl_1217)))] H := hP
  have hD : va_D A [((q 0), .inr (11, (.int 1 :: tl_1217)))] := hD
  subst w1217
  refine lv_istore (lv' := [(6, .int 0), (5, .int 1), (4, .int 0), (3, .ref o), (2, .ref (q 0)), (1, .ref (x 0)), (0, .ref b)]) S.1 S.2.1 dL_law_1220 hl (by decide) rfl (fun ls hl => ?_)
  refine lv_aload_n S.1 S.2.1 dL_law_1222 rfl (lv_at hl 4 rfl) ?_
  refine call_ri (runV_R (wc := [((q 0), .inr (11, (.int 1 :: tl_1217)))]) (As := []) (rest := []) S (kX12_thrown l D cy q 1 tl_1217) hK hP [0] rfl 0 11 rfl rfl kw_1462 kw_1463 kw_1464 kw_152 kw_1465 okX12_thrown rfl (by decide) hl.1 rfl (Nat.le_of_ble_eq_true rfl) dL_law_1223 (by decide)) (fun v1223 w1223 => ?_)
  subst w1223
  refine lv_iload S.1 S.2.1 dL_law_1226 (lv_at hl 1 rfl) ?_
  refine r_icmp_eq S 1 1 rfl rfl dL_law_1228 (tgt := 1233) (by decide) (fun _ => ?_) (fun c => absurd c (by decide))
  refine lv_iload S.1 S.2.1 dL_law_1233 (lv_at hl 1 rfl) ?_
  refine r_if_ne S 1 rfl dL_law_1235 (tgt := 1250) (by decide) (fun _ => ?_) (fun c => absurd c (by decide))
  refine lv_goto (tgt := 2008) S.1 S.2.1 dL_law_1250 (by decide) ?_
  exact law_on S hr hlk hX hbl hbA hA2 hS (lv_sub hl [2, 6] rfl) (by decide) (by decide)
set_option maxHeartbeats 4000000 in
set_option maxRecDepth 100000 in
theorem law_c19 (l : Launch) (hst : l.stackTraces = false) {p : Program} {e : Env} {s : State} {m : MethodId} {below : List Frame} {meth : Method} {c : Code} {H : Heap} {locs : List Loc} {ls : Array Slot} {D : va_G} {cy : Nat → ClassId} {b : Nat} {xs : Nat → Int32} {A : Nat → Prop} {x q : Nat → Nat} {o : Nat} (S : CallFix p m c cL_law 7 s #[Value.ref b] uu "LandSurveyLaw") (hr : meth.sig.returnType = ret) (hlk : meth.locks = false) (hX : va_X b 8 xs s s.heap) (hbl : b < s.heap.size) (hbA : ¬ A b) (hA : ∀ q : Nat, s.heap.size ≤ q → A q) (hA2 : ∀ q : Nat, A q → s.heap.size ≤ q) (hK : KX D cy s) (hE : Ey s) (hZ : Zs A s s.heap) (hP : va_P D vwCl [((x 0), .inr (10, [.int 0, .int (-1), .ref (x 1), .ref (x 9), .int 0, .ref (x 10), .ref (x 13), .ref (x 16), .ref (x 29), .int 0, .int 0, .ref (x 30), .int 0, .ref (x 31), .ref (x 42), .int 0, .int 0, .null, .ref (x 43)])), ((x 13), .inr (4, [.ref (x 14), .ref (x 15), .int 0, .ref (x 16)])), ((x 16), .inr (5, [.int 0, .ref (x 17), .ref (x 18), .ref (x 19), .ref (x 20), .ref (x 21), .int 0, .int 10, .int 20, .int 0, .int 0, .ref (x 22), .ref (x 23), .int 0, .ref (x 24), .ref (x 25), .ref (x 26), .ref (x 27), .ref (x 28)])), ((x 42), .inl (cy 7, 16, .inr (.inr (.inr (.inr (fun _ => none)))))), ((x 31), .inr (6, [.ref (x 32), .ref (x 9), .ref (x 29), .int 0, .int 0, .int 0, .ref (x 36), .ref (x 37), .ref (x 38), .ref (x 39), .ref (x 40), .ref (x 41), .int 0])), ((x 32), .inr (9, [.ref (x 33), .ref (x 34), .ref (x 35), .int 0])), ((x 33), .inl (cy 0, 384, .inl (fun _ => 0))), ((x 34), .inl (cy 2, 384, .inr (.inl (fun _ => 0)))), ((x 35), .inl (cy 0, 96, .inl (fun _ => 0))), ((x 36), .inl (cy 0, 96, .inl (fun _ => 0))), ((x 38), .inl (cy 0, 96, .inl (fun _ => 0))), ((q 0), .inr (11, (mO q 0 0 0 0 0 0 0 0 (-1) 1 0 0 0 0 0 0 0 0 0))), ((q 63), .inl (cy 0, 600, .inl (fun _ => 0))), ((q 64), .inl (cy 0, 600, .inl (fun _ => 0))), ((q 65), .inl (cy 0, 600, .inl (fun _ => 0))), ((q 66), .inl (cy 0, 600, .inl (fun _ => 0))), ((q 67), .inl (cy 0, 97, .inl (fun _ => 0))), ((q 68), .inl (cy 0, 97, .inl (fun _ => 0))), ((q 70), .inl (cy 1, 16, .inl (fun _ => 0))), ((q 71), .inl (cy 0, 16, .inl (fun _ => 0))), ((q 72), .inl (cy 2, 16, .inr (.inl (fun _ => 0)))), ((q 73), .inl (cy 1, 16, .inl (fun _ => 0))), ((q 74), .inl (cy 1, 16, .inl (fun _ => 0)))] H) (hD : va_D A [((x 0), .inr (10, [.int 0, .int (-1), .ref (x 1), .ref (x 9), .int 0, .ref (x 10), .ref (x 13), .ref (x 16), .ref (x 29), .int 0, .int 0, .ref (x 30), .int 0, .ref (x 31), .ref (x 42), .int 0, .int 0, .null, .ref (x 43)])), ((x 13), .inr (4, [.ref (x 14), .ref (x 15), .int 0, .ref (x 16)])), ((x 16), .inr (5, [.int 0, .ref (x 17), .ref (x 18), .ref (x 19), .ref (x 20), .ref (x 21), .int 0, .int 10, .int 20, .int 0, .int 0, .ref (x 22), .ref (x 23), .int 0, .ref (x 24), .ref (x 25), .ref (x 26), .ref (x 27), .ref (x 28)])), ((x 42), .inl (cy 7, 16, .inr (.inr (.inr (.inr (fun _ => none)))))), ((x 31), .inr (6, [.ref (x 32), .ref (x 9), .ref (x 29), .int 0, .int 0, .int 0, .ref (x 36), .ref (x 37), .ref (x 38), .ref (x 39), .ref (x 40), .ref (x 41), .int 0])), ((x 32), .inr (9, [.ref (x 33), .ref (x 34), .ref (x 35), .int 0])), ((x 33), .inl (cy 0, 384, .inl (fun _ => 0))), ((x 34), .inl (cy 2, 384, .inr (.inl (fun _ => 0)))), ((x 35), .inl (cy 0, 96, .inl (fun _ => 0))), ((x 36), .inl (cy 0, 96, .inl (fun _ => 0))), ((x 38), .inl (cy 0, 96, .inl (fun _ => 0))), ((q 0), .inr (11, (mO q 0 0 0 0 0 0 0 0 (-1) 1 0 0 0 0 0 0 0 0 0))), ((q 63), .inl (cy 0, 600, .inl (fun _ => 0))), ((q 64), .inl (cy 0, 600, .inl (fun _ => 0))), ((q 65), .inl (cy 0, 600, .inl (fun _ => 0))), ((q 66), .inl (cy 0, 600, .inl (fun _ => 0))), ((q 67), .inl (cy 0, 97, .inl (fun _ => 0))), ((q 68), .inl (cy 0, 97, .inl (fun _ => 0))), ((q 70), .inl (cy 1, 16, .inl (fun _ => 0))), ((q 71), .inl (cy 0, 16, .inl (fun _ => 0))), ((q 72), .inl (cy 2, 16, .inr (.inl (fun _ => 0)))), ((q 73), .inl (cy 1, 16, .inl (fun _ => 0))), ((q 74), .inl (cy 1, 16, .inl (fun _ => 0)))]) (hS : va_S A s.heap H locs) (hl : lv_has ls 7 [(4, .int 0), (3, .ref o), (2, .ref (q 0)), (1, .ref (x 0)), (0, .ref b)]) : W p l e room_1 s m #[Value.ref b] below meth c H locs 114 51906 (lw_Z below #[Value.ref b] s) (F0 m 1253 ls []) := by
  obtain ⟨p1, e1⟩ : ∃ y, xs 1 = y := ⟨_, rfl⟩
  obtain ⟨z1, h1⟩ : ∃ z, p1.toInt = z := ⟨_, rfl⟩
  obtain ⟨p2, e2⟩ : ∃ y, xs 2 = y := ⟨_, rfl⟩
  obtain ⟨z2, h2⟩ : ∃ z, p2.toInt = z := ⟨_, rfl⟩
  obtain ⟨p3, e3⟩ : ∃ y, xs 3 = y := ⟨_, rfl⟩
  obtain ⟨z3, h3⟩ : ∃ z, p3.toInt = z := ⟨_, rfl⟩
  obtain ⟨p4, e4⟩ : ∃ y, xs 4 = y := ⟨_, rfl⟩
  obtain ⟨z4, h4⟩ : ∃ z, p4.toInt = z := ⟨_, rfl⟩
  obtain ⟨p5, e5⟩ : ∃ y, xs 5 = y := ⟨_, rfl⟩
  obtain ⟨z5, h5⟩ : ∃ z, p5.toInt = z := ⟨_, rfl⟩
  obtain ⟨p6, e6⟩ : ∃ y, xs 6 = y := ⟨_, rfl⟩
  obtain ⟨z6, h6⟩ : ∃ z, p6.toInt = z := ⟨_, rfl⟩
  obtain ⟨p7, e7⟩ : ∃ y, xs 7 = y := ⟨_, rfl⟩
  obtain ⟨z7, h7⟩ : ∃ z, p7.toInt = z := ⟨_, rfl⟩
  refine lv_aload_n S.1 S.2.1 dL_law_1253 rfl (lv_at hl 3 rfl) ?_
  refine lv_aload_n S.1 S.2.1 dL_law_1254 rfl (lv_at hl 4 rfl) ?_
  refine lv_iload S.1 S.2.1 dL_law_1255 (lv_at hl 0 rfl) ?_
  refine lv_iconst (v := 1) S.1 S.2.1 dL_law_1257 (by decide) ?_
  refine r_iadd S dL_law_1258 (v := 1) (by decide) ?_
  refine r_sld S hX hbl hbA hS 1 (by decide) (by decide) (by decide) (v := p1) e1 dL_law_1259 ?_
  refine lv_aload_n S.1 S.2.1 dL_law_1260 rfl (lv_at hl 4 rfl) ?_
  refine lv_iload S.1 S.2.1 dL_law_1261 (lv_at hl 0 rfl) ?_
  refine lv_iconst (v := 2) S.1 S.2.1 dL_law_1263 (by decide) ?_
  refine r_iadd S dL_law_1264 (v := 2) (by decide) ?_
  refine r_sld S hX hbl hbA hS 2 (by decide) (by decide) (by decide) (v := p2) e2 dL_law_1265 ?_
  refine lv_aload_n S.1 S.2.1 dL_law_1266 rfl (lv_at hl 4 rfl) ?_
  refine lv_iload S.1 S.2.1 dL_law_1267 (lv_at hl 0 rfl) ?_
  refine lv_iconst (v := 3) S.1 S.2.1 dL_law_1269 (by decide) ?_
  refine r_iadd S dL_law_1270 (v := 3) (by decide) ?_
  refine r_sld S hX hbl hbA hS 3 (by decide) (by decide) (by decide) (v := p3) e3 dL_law_1271 ?_
  refine call_i (wr := [((q 0), .inr (11, (mO q 0 0 0 0 0 0 0 0 (-1) 1 0 0 0 0 0 0 0 0 0))), ((q 63), .inl (cy 0, 600, .inl (fun _ => 0))), ((q 64), .inl (cy 0, 600, .inl (fun _ => 0))), ((q 65), .inl (cy 0, 600, .inl (fun _ => 0))), ((q 66), .inl (cy 0, 600, .inl (fun _ => 0))), ((q 67), .inl (cy 0, 97, .inl (fun _ => 0))), ((q 68), .inl (cy 0, 97, .inl (fun _ => 0))), ((q 70), .inl (cy 1, 16, .inl (fun _ => 0))), ((q 71), .inl (cy 0, 16, .inl (fun _ => 0))), ((q 72), .inl (cy 2, 16, .inr (.inl (fun _ => 0)))), ((q 73), .inl (cy 1, 16, .inl (fun _ => 0))), ((q 74), .inl (cy 1, 16, .inl (fun _ => 0)))]) (runV_C (wc := [((x 0), .inr (10, [.int 0, .int (-1), .ref (x 1), .ref (x 9), .int 0, .ref (x 10), .ref (x 13), .ref (x 16), .ref (x 29), .int 0, .int 0, .ref (x 30), .int 0, .ref (x 31), .ref (x 42), .int 0, .int 0, .null, .ref (x 43)])), ((x 13), .inr (4, [.ref (x 14), .ref (x 15), .int 0, .ref (x 16)])), ((x 16), .inr (5, [.int 0, .ref (x 17), .ref (x 18), .ref (x 19), .ref (x 20), .ref (x 21), .int 0, .int 10, .int 20, .int 0, .int 0, .ref (x 22), .ref (x 23), .int 0, .ref (x 24), .ref (x 25), .ref (x 26), .ref (x 27), .ref (x 28)])), ((x 42), .inl (cy 7, 16, .inr (.inr (.inr (.inr (fun _ => none)))))), ((x 31), .inr (6, [.ref (x 32), .ref (x 9), .ref (x 29), .int 0, .int 0, .int 0, .ref (x 36), .ref (x 37), .ref (x 38), .ref (x 39), .ref (x 40), .ref (x 41), .int 0])), ((x 32), .inr (9, [.ref (x 33), .ref (x 34), .ref (x 35), .int 0])), ((x 33), .inl (cy 0, 384, .inl (fun _ => 0))), ((x 34), .inl (cy 2, 384, .inr (.inl (fun _ => 0)))), ((x 35), .inl (cy 0, 96, .inl (fun _ => 0))), ((x 36), .inl (cy 0, 96, .inl (fun _ => 0))), ((x 38), .inl (cy 0, 96, .inl (fun _ => 0)))]) (As := [.int p1, .int p2, .int p3]) (rest := []) S (kX11_lies l D cy x p1 p2 p3 z1 h1 z2 h2 z3 h3) hK hP hD [0, 1, 2, 3, 4, 5, 6, 7, 8, 9, 10] (by decide) rfl 0 10 rfl rfl kw_1163 kw_1164 kw_1165 kw_144 kw_1166 okX11_lies rfl (by decide) hl.1 rfl (Nat.le_of_ble_eq_true rfl) dL_law_1272 (by decide)) hP hD hS hA [0, 1, 2, 3, 4, 5, 6, 7, 8, 9, 10] [11, 12, 13, 14, 15, 16, 17, 18, 19, 20, 21, 22] rfl rfl (by decide) (by decide) (fun v1272 u1272 H locs w1272 hP hD hS => ?_)
  have hP : va_P D vwCl [((q 0), .inr (11, (mO q 0 0 0 0 0 0 0 0 (-1) 1 0 0 0 0 0 0 0 0 0))), ((q 63), .inl (cy 0, 600, .inl (fun _ => 0))), ((q 64), .inl (cy 0, 600, .inl (fun _ => 0))), ((q 65), .inl (cy 0, 600, .inl (fun _ => 0))), ((q 66), .inl (cy 0, 600, .inl (fun _ => 0))), ((q 67), .inl (cy 0, 97, .inl (fun _ => 0))), ((q 68), .inl (cy 0, 97, .inl (fun _ => 0))), ((q 70), .inl (cy 1, 16, .inl (fun _ => 0))), ((q 71), .inl (cy 0, 16, .inl (fun _ => 0))), ((q 72), .inl (cy 2, 16, .inr (.inl (fun _ => 0)))), ((q 73), .inl (cy 1, 16, .inl (fun _ => 0))), ((q 74), .inl (cy 1, 16, .inl (fun _ => 0)))] H := hP
  have hD : va_D A [((q 0), .inr (11, (mO q 0 0 0 0 0 0 0 0 (-1) 1 0 0 0 0 0 0 0 0 0))), ((q 63), .inl (cy 0, 600, .inl (fun _ => 0))), ((q 64), .inl (cy 0, 600, .inl (fun _ => 0))), ((q 65), .inl (cy 0, 600, .inl (fun _ => 0))), ((q 66), .inl (cy 0, 600, .inl (fun _ => 0))), ((q 67), .inl (cy 0, 97, .inl (fun _ => 0))), ((q 68), .inl (cy 0, 97, .inl (fun _ => 0))), ((q 70), .inl (cy 1, 16, .inl (fun _ => 0))), ((q 71), .inl (cy 0, 16, .inl (fun _ => 0))), ((q 72), .inl (cy 2, 16, .inr (.inl (fun _ => 0)))), ((q 73), .inl (cy 1, 16, .inl (fun _ => 0))), ((q 74), .inl (cy 1, 16, .inl (fun _ => 0)))] := hD
  rcases w1272 with ⟨rfl, w1272_0_0⟩ | ⟨rfl, w1272_1_0⟩
  · refine lv_aload_n S.1 S.2.1 dL_law_1275 rfl (lv_at hl 2 rfl) ?_
    refine lv_aload_n S.1 S.2.1 dL_law_1276 rfl (lv_at hl 4 rfl) ?_
    refine lv_iload S.1 S.2.1 dL_law_1277 (lv_at hl 0 rfl) ?_
    refine lv_iconst (v := 1) S.1 S.2.1 dL_law_1279 (by decide) ?_
    refine r_iadd S dL_law_1280 (v := 1) (by decide) ?_
    refine r_sld S hX hbl hbA hS 1 (by decide) (by decide) (by decide) (v := p1) e1 dL_law_1281 ?_
    refine lv_aload_n S.1 S.2.1 dL_law_1282 rfl (lv_at hl 4 rfl) ?_
    refine lv_iload S.1 S.2.1 dL_law_1283 (lv_at hl 0 rfl) ?_
    refine lv_iconst (v := 2) S.1 S.2.1 dL_law_1285 (by decide) ?_
    refine r_iadd S dL_law_1286 (v := 2) (by decide) ?_
    refine r_sld S hX hbl hbA hS 2 (by decide) (by decide) (by decide) (v := p2) e2 dL_law_1287 ?_
    refine lv_aload_n S.1 S.2.1 dL_law_1288 rfl (lv_at hl 4 rfl) ?_
    refine lv_iload S.1 S.2.1 dL_law_1289 (lv_at hl 0 rfl) ?_
    refine lv_iconst (v := 3) S.1 S.2.1 dL_law_1291 (by decide) ?_
    refine r_iadd S dL_law_1292 (v := 3) (by decide) ?_
    refine r_sld S hX hbl hbA hS 3 (by decide) (by decide) (by decide) (v := p3) e3 dL_law_1293 ?_
    refine call_i (wr := []) (runV_C (wc := [((q 0), .inr (11, (mO q 0 0 0 0 0 0 0 0 (-1) 1 0 0 0 0 0 0 0 0 0))), ((q 63), .inl (cy 0, 600, .inl (fun _ => 0))), ((q 64), .inl (cy 0, 600, .inl (fun _ => 0))), ((q 65), .inl (cy 0, 600, .inl (fun _ => 0))), ((q 66), .inl (cy 0, 600, .inl (fun _ => 0))), ((q 67), .inl (cy 0, 97, .inl (fun _ => 0))), ((q 68), .inl (cy 0, 97, .inl (fun _ => 0))), ((q 70), .inl (cy 1, 16, .inl (fun _ => 0))), ((q 71), .inl (cy 0, 16, .inl (fun _ => 0))), ((q 72), .inl (cy 2, 16, .inr (.inl (fun _ => 0)))), ((q 73), .inl (cy 1, 16, .inl (fun _ => 0))), ((q 74), .inl (cy 1, 16, .inl (fun _ => 0)))]) (As := [.int p1, .int p2, .int p3]) (rest := [.int 3072]) S (kX12_lies l D cy q p1 p2 p3 z1 h1 z2 h2 z3 h3) hK hP hD [0, 1, 2, 3, 4, 5, 6, 7, 8, 9, 10, 11] (by decide) rfl 0 11 rfl rfl kw_2116 kw_2117 kw_2118 kw_152 kw_2119 okX12_lies rfl (by decide) hl.1 rfl (Nat.le_of_ble_eq_true rfl) dL_law_1294 (by decide)) hP hD hS hA [0, 1, 2, 3, 4, 5, 6, 7, 8, 9, 10, 11] [] rfl rfl (by decide) (by decide) (fun v1294 u1294 H locs w1294 hP hD hS => ?_)
    have hP : va_P D vwCl [] H := hP
    have hD : va_D A [] := hD
    rcases w1294 with ⟨rfl, w1294_0_0⟩ | ⟨rfl, w1294_1_0⟩
    · refine r_icmp_eq S 3072 3072 rfl rfl dL_law_1297 (tgt := 2008) (by decide) (fun _ => ?_) (fun c => absurd c (by decide))
      exact law_on S hr hlk hX hbl hbA hA2 hS (lv_sub hl [0, 4] rfl) (by decide) (by decide)
    · exfalso; omega
  · refine lv_aload_n S.1 S.2.1 dL_law_1275 rfl (lv_at hl 2 rfl) ?_
    refine lv_aload_n S.1 S.2.1 dL_law_1276 rfl (lv_at hl 4 rfl) ?_
    refine lv_iload S.1 S.2.1 dL_law_1277 (lv_at hl 0 rfl) ?_
    refine lv_iconst (v := 1) S.1 S.2.1 dL_law_1279 (by decide) ?_
    refine r_iadd S dL_law_1280 (v := 1) (by decide) ?_
    refine r_sld S hX hbl hbA hS 1 (by decide) (by decide) (by decide) (v := p1) e1 dL_law_1281 ?_
    refine lv_aload_n S.1 S.2.1 dL_law_1282 rfl (lv_at hl 4 rfl) ?_
    refine lv_iload S.1 S.2.1 dL_law_1283 (lv_at hl 0 rfl) ?_
    refine lv_iconst (v := 2) S.1 S.2.1 dL_law_1285 (by decide) ?_
    refine r_iadd S dL_law_1286 (v := 2) (by decide) ?_
    refine r_sld S hX hbl hbA hS 2 (by decide) (by decide) (by decide) (v := p2) e2 dL_law_1287 ?_
    refine lv_aload_n S.1 S.2.1 dL_law_1288 rfl (lv_at hl 4 rfl) ?_
    refine lv_iload S.1 S.2.1 dL_law_1289 (lv_at hl 0 rfl) ?_
    refine lv_iconst (v := 3) S.1 S.2.1 dL_law_1291 (by decide) ?_
    refine r_iadd S dL_law_1292 (v := 3) (by decide) ?_
    refine r_sld S hX hbl hbA hS 3 (by decide) (by decide) (by decide) (v := p3) e3 dL_law_1293 ?_
    refine call_i (wr := []) (runV_C (wc := [((q 0), .inr (11, (mO q 0 0 0 0 0 0 0 0 (-1) 1 0 0 0 0 0 0 0 0 0))), ((q 63), .inl (cy 0, 600, .inl (fun _ => 0))), ((q 64), .inl (cy 0, 600, .inl (fun _ => 0))), ((q 65), .inl (cy 0, 600, .inl (fun _ => 0))), ((q 66), .inl (cy 0, 600, .inl (fun _ => 0))), ((q 67), .inl (cy 0, 97, .inl (fun _ => 0))), ((q 68), .inl (cy 0, 97, .inl (fun _ => 0))), ((q 70), .inl (cy 1, 16, .inl (fun _ => 0))), ((q 71), .inl (cy 0, 16, .inl (fun _ => 0))), ((q 72), .inl (cy 2, 16, .inr (.inl (fun _ => 0)))), ((q 73), .inl (cy 1, 16, .inl (fun _ => 0))), ((q 74), .inl (cy 1, 16, .inl (fun _ => 0)))]) (As := [.int p1, .int p2, .int p3]) (rest := [.int (-1)]) S (kX12_lies l D cy q p1 p2 p3 z1 h1 z2 h2 z3 h3) hK hP hD [0, 1, 2, 3, 4, 5, 6, 7, 8, 9, 10, 11] (by decide) rfl 0 11 rfl rfl kw_2116 kw_2117 kw_2118 kw_152 kw_2119 okX12_lies rfl (by decide) hl.1 rfl (Nat.le_of_ble_eq_true rfl) dL_law_1294 (by decide)) hP hD hS hA [0, 1, 2, 3, 4, 5, 6, 7, 8, 9, 10, 11] [] rfl rfl (by decide) (by decide) (fun v1294 u1294 H locs w1294 hP hD hS => ?_)
    have hP : va_P D vwCl [] H := hP
    have hD : va_D A [] := hD
    rcases w1294 with ⟨rfl, w1294_0_0⟩ | ⟨rfl, w1294_1_0⟩
    · exfalso; omega
    · refine r_icmp_eq S (-1) (-1) rfl rfl dL_law_1297 (tgt := 2008) (by decide) (fun _ => ?_) (fun c => absurd c (by decide))
      exact law_on S hr hlk hX hbl hbA hA2 hS (lv_sub hl [0, 4] rfl) (by decide) (by decide)
set_option maxHeartbeats 4000000 in
set_option maxRecDepth 100000 in
theorem law_c20 (l : Launch) (hst : l.stackTraces = false) {p : Program} {e : Env} {s : State} {m : MethodId} {below : List Frame} {meth : Method} {c : Code} {H : Heap} {locs : List Loc} {ls : Array Slot} {D : va_G} {cy : Nat → ClassId} {b : Nat} {xs : Nat → Int32} {A : Nat → Prop} {x q : Nat → Nat} {o : Nat} (S : CallFix p m c cL_law 7 s #[Value.ref b] uu "LandSurveyLaw") (hr : meth.sig.returnType = ret) (hlk : meth.locks = false) (hX : va_X b 8 xs s s.heap) (hbl : b < s.heap.size) (hbA : ¬ A b) (hA : ∀ q : Nat, s.heap.size ≤ q → A q) (hA2 : ∀ q : Nat, A q → s.heap.size ≤ q) (hK : KX D cy s) (hE : Ey s) (hZ : Zs A s s.heap) (hP : va_P D vwCl [((x 0), .inr (10, [.int 0, .int (-1), .ref (x 1), .ref (x 9), .int 0, .ref (x 10), .ref (x 13), .ref (x 16), .ref (x 29), .int 0, .int 0, .ref (x 30), .int 0, .ref (x 31), .ref (x 42), .int 0, .int 0, .null, .ref (x 43)])), ((x 13), .inr (4, [.ref (x 14), .ref (x 15), .int 0, .ref (x 16)])), ((x 16), .inr (5, [.int 0, .ref (x 17), .ref (x 18), .ref (x 19), .ref (x 20), .ref (x 21), .int 0, .int 10, .int 20, .int 0, .int 0, .ref (x 22), .ref (x 23), .int 0, .ref (x 24), .ref (x 25), .ref (x 26), .ref (x 27), .ref (x 28)])), ((x 42), .inl (cy 7, 16, .inr (.inr (.inr (.inr (fun _ => none)))))), ((x 31), .inr (6, [.ref (x 32), .ref (x 9), .ref (x 29), .int 0, .int 0, .int 0, .ref (x 36), .ref (x 37), .ref (x 38), .ref (x 39), .ref (x 40), .ref (x 41), .int 0])), ((x 32), .inr (9, [.ref (x 33), .ref (x 34), .ref (x 35), .int 0])), ((x 33), .inl (cy 0, 384, .inl (fun _ => 0))), ((x 34), .inl (cy 2, 384, .inr (.inl (fun _ => 0)))), ((x 35), .inl (cy 0, 96, .inl (fun _ => 0))), ((x 36), .inl (cy 0, 96, .inl (fun _ => 0))), ((x 38), .inl (cy 0, 96, .inl (fun _ => 0))), ((x 43), .inl (cy 0, 12, .inl (fun _ => 0))), ((q 0), .inr (11, (mO q 0 0 0 0 0 0 0 0 (-1) 1 0 0 0 0 0 0 0 0 0))), ((q 63), .inl (cy 0, 600, .inl (fun _ => 0))), ((q 64), .inl (cy 0, 600, .inl (fun _ => 0))), ((q 65), .inl (cy 0, 600, .inl (fun _ => 0))), ((q 66), .inl (cy 0, 600, .inl (fun _ => 0))), ((q 67), .inl (cy 0, 97, .inl (fun _ => 0))), ((q 68), .inl (cy 0, 97, .inl (fun _ => 0))), ((q 70), .inl (cy 1, 16, .inl (fun _ => 0))), ((q 71), .inl (cy 0, 16, .inl (fun _ => 0))), ((q 72), .inl (cy 2, 16, .inr (.inl (fun _ => 0)))), ((q 73), .inl (cy 1, 16, .inl (fun _ => 0))), ((q 74), .inl (cy 1, 16, .inl (fun _ => 0))), ((q 31), .inl (cy 0, 12, .inl (fun _ => 0)))] H) (hD : va_D A [((x 0), .inr (10, [.int 0, .int (-1), .ref (x 1), .ref (x 9), .int 0, .ref (x 10), .ref (x 13), .ref (x 16), .ref (x 29), .int 0, .int 0, .ref (x 30), .int 0, .ref (x 31), .ref (x 42), .int 0, .int 0, .null, .ref (x 43)])), ((x 13), .inr (4, [.ref (x 14), .ref (x 15), .int 0, .ref (x 16)])), ((x 16), .inr (5, [.int 0, .ref (x 17), .ref (x 18), .ref (x 19), .ref (x 20), .ref (x 21), .int 0, .int 10, .int 20, .int 0, .int 0, .ref (x 22), .ref (x 23), .int 0, .ref (x 24), .ref (x 25), .ref (x 26), .ref (x 27), .ref (x 28)])), ((x 42), .inl (cy 7, 16, .inr (.inr (.inr (.inr (fun _ => none)))))), ((x 31), .inr (6, [.ref (x 32), .ref (x 9), .ref (x 29), .int 0, .int 0, .int 0, .ref (x 36), .ref (x 37), .ref (x 38), .ref (x 39), .ref (x 40), .ref (x 41), .int 0])), ((x 32), .inr (9, [.ref (x 33), .ref (x 34), .ref (x 35), .int 0])), ((x 33), .inl (cy 0, 384, .inl (fun _ => 0))), ((x 34), .inl (cy 2, 384, .inr (.inl (fun _ => 0)))), ((x 35), .inl (cy 0, 96, .inl (fun _ => 0))), ((x 36), .inl (cy 0, 96, .inl (fun _ => 0))), ((x 38), .inl (cy 0, 96, .inl (fun _ => 0))), ((x 43), .inl (cy 0, 12, .inl (fun _ => 0))), ((q 0), .inr (11, (mO q 0 0 0 0 0 0 0 0 (-1) 1 0 0 0 0 0 0 0 0 0))), ((q 63), .inl (cy 0, 600, .inl (fun _ => 0))), ((q 64), .inl (cy 0, 600, .inl (fun _ => 0))), ((q 65), .inl (cy 0, 600, .inl (fun _ => 0))), ((q 66), .inl (cy 0, 600, .inl (fun _ => 0))), ((q 67), .inl (cy 0, 97, .inl (fun _ => 0))), ((q 68), .inl (cy 0, 97, .inl (fun _ => 0))), ((q 70), .inl (cy 1, 16, .inl (fun _ => 0))), ((q 71), .inl (cy 0, 16, .inl (fun _ => 0))), ((q 72), .inl (cy 2, 16, .inr (.inl (fun _ => 0)))), ((q 73), .inl (cy 1, 16, .inl (fun _ => 0))), ((q 74), .inl (cy 1, 16, .inl (fun _ => 0))), ((q 31), .inl (cy 0, 12, .inl (fun _ => 0)))]) (hS : va_S A s.heap H locs) (hl : lv_has ls 7 [(4, .int 0), (3, .ref o), (2, .ref (q 0)), (1, .ref (x 0)), (0, .ref b)]) : W p l e room_1 s m #[Value.ref b] below meth c H locs 114 51906 (lw_Z below #[Value.ref b] s) (F0 m 1302 ls []) := by
  obtain ⟨p1, e1⟩ : ∃ y, xs 1 = y := ⟨_, rfl⟩
  obtain ⟨z1, h1⟩ : ∃ z, p1.toInt = z := ⟨_, rfl⟩
  obtain ⟨p2, e2⟩ : ∃ y, xs 2 = y := ⟨_, rfl⟩
  obtain ⟨z2, h2⟩ : ∃ z, p2.toInt = z := ⟨_, rfl⟩
  obtain ⟨p3, e3⟩ : ∃ y, xs 3 = y := ⟨_, rfl⟩
  obtain ⟨z3, h3⟩ : ∃ z, p3.toInt = z := ⟨_, rfl⟩
  obtain ⟨p4, e4⟩ : ∃ y, xs 4 = y := ⟨_, rfl⟩
  obtain ⟨z4, h4⟩ : ∃ z, p4.toInt = z := ⟨_, rfl⟩
  obtain ⟨p5, e5⟩ : ∃ y, xs 5 = y := ⟨_, rfl⟩
  obtain ⟨z5, h5⟩ : ∃ z, p5.toInt = z := ⟨_, rfl⟩
  obtain ⟨p6, e6⟩ : ∃ y, xs 6 = y := ⟨_, rfl⟩
  obtain ⟨z6, h6⟩ : ∃ z, p6.toInt = z := ⟨_, rfl⟩
  obtain ⟨p7, e7⟩ : ∃ y, xs 7 = y := ⟨_, rfl⟩
  obtain ⟨z7, h7⟩ : ∃ z, p7.toInt = z := ⟨_, rfl⟩
  refine lv_aload_n S.1 S.2.1 dL_law_1302 rfl (lv_at hl 3 rfl) ?_
  refine lv_aload_n S.1 S.2.1 dL_law_1303 rfl (lv_at hl 4 rfl) ?_
  refine lv_iload S.1 S.2.1 dL_law_1304 (lv_at hl 0 rfl) ?_
  refine lv_iconst (v := 1) S.1 S.2.1 dL_law_1306 (by decide) ?_
  refine r_iadd S dL_law_1307 (v := 1) (by decide) ?_
  refine r_sld S hX hbl hbA hS 1 (by decide) (by decide) (by decide) (v := p1) e1 dL_law_1308 ?_
  refine lv_aload_n S.1 S.2.1 dL_law_1309 rfl (lv_at hl 4 rfl) ?_
  refine lv_iload S.1 S.2.1 dL_law_1310 (lv_at hl 0 rfl) ?_
  refine lv_iconst (v := 2) S.1 S.2.1 dL_law_1312 (by decide) ?_
  refine r_iadd S dL_law_1313 (v := 2) (by decide) ?_
  refine r_sld S hX hbl hbA hS 2 (by decide) (by decide) (by decide) (v := p2) e2 dL_law_1314 ?_
  refine lv_aload_n S.1 S.2.1 dL_law_1315 rfl (lv_at hl 4 rfl) ?_
  refine lv_iload S.1 S.2.1 dL_law_1316 (lv_at hl 0 rfl) ?_
  refine lv_iconst (v := 3) S.1 S.2.1 dL_law_1318 (by decide) ?_
  refine r_iadd S dL_law_1319 (v := 3) (by decide) ?_
  refine r_sld S hX hbl hbA hS 3 (by decide) (by decide) (by decide) (v := p3) e3 dL_law_1320 ?_
  refine call_i (wr := [((q 0), .inr (11, (mO q 0 0 0 0 0 0 0 0 (-1) 1 0 0 0 0 0 0 0 0 0))), ((q 63), .inl (cy 0, 600, .inl (fun _ => 0))), ((q 64), .inl (cy 0, 600, .inl (fun _ => 0))), ((q 65), .inl (cy 0, 600, .inl (fun _ => 0))), ((q 66), .inl (cy 0, 600, .inl (fun _ => 0))), ((q 67), .inl (cy 0, 97, .inl (fun _ => 0))), ((q 68), .inl (cy 0, 97, .inl (fun _ => 0))), ((q 70), .inl (cy 1, 16, .inl (fun _ => 0))), ((q 71), .inl (cy 0, 16, .inl (fun _ => 0))), ((q 72), .inl (cy 2, 16, .inr (.inl (fun _ => 0)))), ((q 73), .inl (cy 1, 16, .inl (fun _ => 0))), ((q 74), .inl (cy 1, 16, .inl (fun _ => 0))), ((q 31), .inl (cy 0, 12, .inl (fun _ => 0)))]) (runV_C (wc := [((x 0), .inr (10, [.int 0, .int (-1), .ref (x 1), .ref (x 9), .int 0, .ref (x 10), .ref (x 13), .ref (x 16), .ref (x 29), .int 0, .int 0, .ref (x 30), .int 0, .ref (x 31), .ref (x 42), .int 0, .int 0, .null, .ref (x 43)])), ((x 13), .inr (4, [.ref (x 14), .ref (x 15), .int 0, .ref (x 16)])), ((x 16), .inr (5, [.int 0, .ref (x 17), .ref (x 18), .ref (x 19), .ref (x 20), .ref (x 21), .int 0, .int 10, .int 20, .int 0, .int 0, .ref (x 22), .ref (x 23), .int 0, .ref (x 24), .ref (x 25), .ref (x 26), .ref (x 27), .ref (x 28)])), ((x 42), .inl (cy 7, 16, .inr (.inr (.inr (.inr (fun _ => none)))))), ((x 31), .inr (6, [.ref (x 32), .ref (x 9), .ref (x 29), .int 0, .int 0, .int 0, .ref (x 36), .ref (x 37), .ref (x 38), .ref (x 39), .ref (x 40), .ref (x 41), .int 0])), ((x 32), .inr (9, [.ref (x 33), .ref (x 34), .ref (x 35), .int 0])), ((x 33), .inl (cy 0, 384, .inl (fun _ => 0))), ((x 34), .inl (cy 2, 384, .inr (.inl (fun _ => 0)))), ((x 35), .inl (cy 0, 96, .inl (fun _ => 0))), ((x 36), .inl (cy 0, 96, .inl (fun _ => 0))), ((x 38), .inl (cy 0, 96, .inl (fun _ => 0))), ((x 43), .inl (cy 0, 12, .inl (fun _ => 0)))]) (As := [.int p1, .int p2, .int p3]) (rest := []) S (kX11_line l D cy x p1 p2 p3 z1 h1 z2 h2 z3 h3) hK hP hD [0, 1, 2, 3, 4, 5, 6, 7, 8, 9, 10, 11] (by decide) rfl 0 10 rfl rfl kw_1188 kw_1189 kw_1190 kw_144 kw_1191 okX11_line rfl (by decide) hl.1 rfl (Nat.le_of_ble_eq_true rfl) dL_law_1321 (by decide)) hP hD hS hA [0, 1, 2, 3, 4, 5, 6, 7, 8, 9, 10, 11] [12, 13, 14, 15, 16, 17, 18, 19, 20, 21, 22, 23, 24] rfl rfl (by decide) (by decide) (fun v1321 u1321 H locs w1321 hP hD hS => ?_)
  have hP : va_P D vwCl [((q 0), .inr (11, (mO q 0 0 0 0 0 0 0 0 (-1) 1 0 0 0 0 0 0 0 0 0))), ((q 63), .inl (cy 0, 600, .inl (fun _ => 0))), ((q 64), .inl (cy 0, 600, .inl (fun _ => 0))), ((q 65), .inl (cy 0, 600, .inl (fun _ => 0))), ((q 66), .inl (cy 0, 600, .inl (fun _ => 0))), ((q 67), .inl (cy 0, 97, .inl (fun _ => 0))), ((q 68), .inl (cy 0, 97, .inl (fun _ => 0))), ((q 70), .inl (cy 1, 16, .inl (fun _ => 0))), ((q 71), .inl (cy 0, 16, .inl (fun _ => 0))), ((q 72), .inl (cy 2, 16, .inr (.inl (fun _ => 0)))), ((q 73), .inl (cy 1, 16, .inl (fun _ => 0))), ((q 74), .inl (cy 1, 16, .inl (fun _ => 0))), ((q 31), .inl (cy 0, 12, .inl (fun _ => 0)))] H := hP
  have hD : va_D A [((q 0), .inr (11, (mO q 0 0 0 0 0 0 0 0 (-1) 1 0 0 0 0 0 0 0 0 0))), ((q 63), .inl (cy 0, 600, .inl (fun _ => 0))), ((q 64), .inl (cy 0, 600, .inl (fun _ => 0))), ((q 65), .inl (cy 0, 600, .inl (fun _ => 0))), ((q 66), .inl (cy 0, 600, .inl (fun _ => 0))), ((q 67), .inl (cy 0, 97, .inl (fun _ => 0))), ((q 68), .inl (cy 0, 97, .inl (fun _ => 0))), ((q 70), .inl (cy 1, 16, .inl (fun _ => 0))), ((q 71), .inl (cy 0, 16, .inl (fun _ => 0))), ((q 72), .inl (cy 2, 16, .inr (.inl (fun _ => 0)))), ((q 73), .inl (cy 1, 16, .inl (fun _ => 0))), ((q 74), .inl (cy 1, 16, .inl (fun _ => 0))), ((q 31), .inl (cy 0, 12, .inl (fun _ => 0)))] := hD
  rcases w1321 with ⟨rfl, w1321_0_0⟩ | ⟨rfl, w1321_1_0⟩
  · refine lv_aload_n S.1 S.2.1 dL_law_1324 rfl (lv_at hl 2 rfl) ?_
    refine lv_aload_n S.1 S.2.1 dL_law_1325 rfl (lv_at hl 4 rfl) ?_
    refine lv_iload S.1 S.2.1 dL_law_1326 (lv_at hl 0 rfl) ?_
    refine lv_iconst (v := 1) S.1 S.2.1 dL_law_1328 (by decide) ?_
    refine r_iadd S dL_law_1329 (v := 1) (by decide) ?_
    refine r_sld S hX hbl hbA hS 1 (by decide) (by decide) (by decide) (v := p1) e1 dL_law_1330 ?_
    refine lv_aload_n S.1 S.2.1 dL_law_1331 rfl (lv_at hl 4 rfl) ?_
    refine lv_iload S.1 S.2.1 dL_law_1332 (lv_at hl 0 rfl) ?_
    refine lv_iconst (v := 2) S.1 S.2.1 dL_law_1334 (by decide) ?_
    refine r_iadd S dL_law_1335 (v := 2) (by decide) ?_
    refine r_sld S hX hbl hbA hS 2 (by decide) (by decide) (by decide) (v := p2) e2 dL_law_1336 ?_
    refine lv_aload_n S.1 S.2.1 dL_law_1337 rfl (lv_at hl 4 rfl) ?_
    refine lv_iload S.1 S.2.1 dL_law_1338 (lv_at hl 0 rfl) ?_
    refine lv_iconst (v := 3) S.1 S.2.1 dL_law_1340 (by decide) ?_
    refine r_iadd S dL_law_1341 (v := 3) (by decide) ?_
    refine r_sld S hX hbl hbA hS 3 (by decide) (by decide) (by decide) (v := p3) e3 dL_law_1342 ?_
    refine call_i (wr := []) (runV_C (wc := [((q 0), .inr (11, (mO q 0 0 0 0 0 0 0 0 (-1) 1 0 0 0 0 0 0 0 0 0))), ((q 63), .inl (cy 0, 600, .inl (fun _ => 0))), ((q 64), .inl (cy 0, 600, .inl (fun _ => 0))), ((q 65), .inl (cy 0, 600, .inl (fun _ => 0))), ((q 66), .inl (cy 0, 600, .inl (fun _ => 0))), ((q 67), .inl (cy 0, 97, .inl (fun _ => 0))), ((q 68), .inl (cy 0, 97, .inl (fun _ => 0))), ((q 70), .inl (cy 1, 16, .inl (fun _ => 0))), ((q 71), .inl (cy 0, 16, .inl (fun _ => 0))), ((q 72), .inl (cy 2, 16, .inr (.inl (fun _ => 0)))), ((q 73), .inl (cy 1, 16, .inl (fun _ => 0))), ((q 74), .inl (cy 1, 16, .inl (fun _ => 0))), ((q 31), .inl (cy 0, 12, .inl (fun _ => 0)))]) (As := [.int p1, .int p2, .int p3]) (rest := [.int 1]) S (kX12_line l D cy q p1 p2 p3 z1 h1 z2 h2 z3 h3) hK hP hD [0, 1, 2, 3, 4, 5, 6, 7, 8, 9, 10, 11, 12] (by decide) rfl 0 11 rfl rfl kw_2132 kw_2133 kw_2134 kw_152 kw_2135 okX12_line rfl (by decide) hl.1 rfl (Nat.le_of_ble_eq_true rfl) dL_law_1343 (by decide)) hP hD hS hA [0, 1, 2, 3, 4, 5, 6, 7, 8, 9, 10, 11, 12] [] rfl rfl (by decide) (by decide) (fun v1343 u1343 H locs w1343 hP hD hS => ?_)
    have hP : va_P D vwCl [] H := hP
    have hD : va_D A [] := hD
    rcases w1343 with ⟨rfl, w1343_0_0⟩ | ⟨rfl, w1343_1_0⟩
    · refine r_icmp_eq S 1 1 rfl rfl dL_law_1346 (tgt := 2008) (by decide) (fun _ => ?_) (fun c => absurd c (by decide))
      exact law_on S hr hlk hX hbl hbA hA2 hS (lv_sub hl [0, 4] rfl) (by decide) (by decide)
    · exfalso; omega
  · refine lv_aload_n S.1 S.2.1 dL_law_1324 rfl (lv_at hl 2 rfl) ?_
    refine lv_aload_n S.1 S.2.1 dL_law_1325 rfl (lv_at hl 4 rfl) ?_
    refine lv_iload S.1 S.2.1 dL_law_1326 (lv_at hl 0 rfl) ?_
    refine lv_iconst (v := 1) S.1 S.2.1 dL_law_1328 (by decide) ?_
    refine r_iadd S dL_law_1329 (v := 1) (by decide) ?_
    refine r_sld S hX hbl hbA hS 1 (by decide) (by decide) (by decide) (v := p1) e1 dL_law_1330 ?_
    refine lv_aload_n S.1 S.2.1 dL_law_1331 rfl (lv_at hl 4 rfl) ?_
    refine lv_iload S.1 S.2.1 dL_law_1332 (lv_at hl 0 rfl) ?_
    refine lv_iconst (v := 2) S.1 S.2.1 dL_law_1334 (by decide) ?_
    refine r_iadd S dL_law_1335 (v := 2) (by decide) ?_
    refine r_sld S hX hbl hbA hS 2 (by decide) (by decide) (by decide) (v := p2) e2 dL_law_1336 ?_
    refine lv_aload_n S.1 S.2.1 dL_law_1337 rfl (lv_at hl 4 rfl) ?_
    refine lv_iload S.1 S.2.1 dL_law_1338 (lv_at hl 0 rfl) ?_
    refine lv_iconst (v := 3) S.1 S.2.1 dL_law_1340 (by decide) ?_
    refine r_iadd S dL_law_1341 (v := 3) (by decide) ?_
    refine r_sld S hX hbl hbA hS 3 (by decide) (by decide) (by decide) (v := p3) e3 dL_law_1342 ?_
    refine call_i (wr := []) (runV_C (wc := [((q 0), .inr (11, (mO q 0 0 0 0 0 0 0 0 (-1) 1 0 0 0 0 0 0 0 0 0))), ((q 63), .inl (cy 0, 600, .inl (fun _ => 0))), ((q 64), .inl (cy 0, 600, .inl (fun _ => 0))), ((q 65), .inl (cy 0, 600, .inl (fun _ => 0))), ((q 66), .inl (cy 0, 600, .inl (fun _ => 0))), ((q 67), .inl (cy 0, 97, .inl (fun _ => 0))), ((q 68), .inl (cy 0, 97, .inl (fun _ => 0))), ((q 70), .inl (cy 1, 16, .inl (fun _ => 0))), ((q 71), .inl (cy 0, 16, .inl (fun _ => 0))), ((q 72), .inl (cy 2, 16, .inr (.inl (fun _ => 0)))), ((q 73), .inl (cy 1, 16, .inl (fun _ => 0))), ((q 74), .inl (cy 1, 16, .inl (fun _ => 0))), ((q 31), .inl (cy 0, 12, .inl (fun _ => 0)))]) (As := [.int p1, .int p2, .int p3]) (rest := [.int (-1)]) S (kX12_line l D cy q p1 p2 p3 z1 h1 z2 h2 z3 h3) hK hP hD [0, 1, 2, 3, 4, 5, 6, 7, 8, 9, 10, 11, 12] (by decide) rfl 0 11 rfl rfl kw_2132 kw_2133 kw_2134 kw_152 kw_2135 okX12_line rfl (by decide) hl.1 rfl (Nat.le_of_ble_eq_true rfl) dL_law_1343 (by decide)) hP hD hS hA [0, 1, 2, 3, 4, 5, 6, 7, 8, 9, 10, 11, 12] [] rfl rfl (by decide) (by decide) (fun v1343 u1343 H locs w1343 hP hD hS => ?_)
    have hP : va_P D vwCl [] H := hP
    have hD : va_D A [] := hD
    rcases w1343 with ⟨rfl, w1343_0_0⟩ | ⟨rfl, w1343_1_0⟩
    · exfalso; omega
    · refine r_icmp_eq S (-1) (-1) rfl rfl dL_law_1346 (tgt := 2008) (by decide) (fun _ => ?_) (fun c => absurd c (by decide))
      exact law_on S hr hlk hX hbl hbA hA2 hS (lv_sub hl [0, 4] rfl) (by decide) (by decide)
set_option maxHeartbeats 4000000 in
set_option maxRecDepth 100000 in
theorem law_c21 (l : Launch) (hst : l.stackTraces = false) {p : Program} {e : Env} {s : State} {m : MethodId} {below : List Frame} {meth : Method} {c : Code} {H : Heap} {locs : List Loc} {ls : Array Slot} {D : va_G} {cy : Nat → ClassId} {b : Nat} {xs : Nat → Int32} {A : Nat → Prop} {x q : Nat → Nat} {o : Nat} (S : CallFix p m c cL_law 7 s #[Value.ref b] uu "LandSurveyLaw") (hr : meth.sig.returnType = ret) (hlk : meth.locks = false) (hX : va_X b 8 xs s s.heap) (hbl : b < s.heap.size) (hbA : ¬ A b) (hA : ∀ q : Nat, s.heap.size ≤ q → A q) (hA2 : ∀ q : Nat, A q → s.heap.size ≤ q) (hK : KX D cy s) (hE : Ey s) (hZ : Zs A s s.heap) (hP : va_P D vwCl [((x 0), .inr (10, [.int 0, .int (-1), .ref (x 1), .ref (x 9), .int 0, .ref (x 10), .ref (x 13), .ref (x 16), .ref (x 29), .int 0, .int 0, .ref (x 30), .int 0, .ref (x 31), .ref (x 42), .int 0, .int 0, .null, .ref (x 43)])), ((x 13), .inr (4, [.ref (x 14), .ref (x 15), .int 0, .ref (x 16)])), ((x 16), .inr (5, [.int 0, .ref (x 17), .ref (x 18), .ref (x 19), .ref (x 20), .ref (x 21), .int 0, .int 10, .int 20, .int 0, .int 0, .ref (x 22), .ref (x 23), .int 0, .ref (x 24), .ref (x 25), .ref (x 26), .ref (x 27), .ref (x 28)])), ((x 42), .inl (cy 7, 16, .inr (.inr (.inr (.inr (fun _ => none)))))), ((x 31), .inr (6, [.ref (x 32), .ref (x 9), .ref (x 29), .int 0, .int 0, .int 0, .ref (x 36), .ref (x 37), .ref (x 38), .ref (x 39), .ref (x 40), .ref (x 41), .int 0])), ((x 32), .inr (9, [.ref (x 33), .ref (x 34), .ref (x 35), .int 0])), ((x 33), .inl (cy 0, 384, .inl (fun _ => 0))), ((x 34), .inl (cy 2, 384, .inr (.inl (fun _ => 0)))), ((x 35), .inl (cy 0, 96, .inl (fun _ => 0))), ((x 36), .inl (cy 0, 96, .inl (fun _ => 0))), ((x 38), .inl (cy 0, 96, .inl (fun _ => 0))), (o, .inl (cy 2, 1, .inr (.inl (fun _ => 0)))), ((q 0), .inr (11, (mO q 0 0 0 0 0 0 0 0 (-1) 1 0 0 0 0 0 0 0 0 0))), ((q 63), .inl (cy 0, 600, .inl (fun _ => 0))), ((q 64), .inl (cy 0, 600, .inl (fun _ => 0))), ((q 65), .inl (cy 0, 600, .inl (fun _ => 0))), ((q 66), .inl (cy 0, 600, .inl (fun _ => 0))), ((q 67), .inl (cy 0, 97, .inl (fun _ => 0))), ((q 68), .inl (cy 0, 97, .inl (fun _ => 0))), ((q 70), .inl (cy 1, 16, .inl (fun _ => 0))), ((q 71), .inl (cy 0, 16, .inl (fun _ => 0))), ((q 72), .inl (cy 2, 16, .inr (.inl (fun _ => 0)))), ((q 73), .inl (cy 1, 16, .inl (fun _ => 0))), ((q 74), .inl (cy 1, 16, .inl (fun _ => 0)))] H) (hD : va_D A [((x 0), .inr (10, [.int 0, .int (-1), .ref (x 1), .ref (x 9), .int 0, .ref (x 10), .ref (x 13), .ref (x 16), .ref (x 29), .int 0, .int 0, .ref (x 30), .int 0, .ref (x 31), .ref (x 42), .int 0, .int 0, .null, .ref (x 43)])), ((x 13), .inr (4, [.ref (x 14), .ref (x 15), .int 0, .ref (x 16)])), ((x 16), .inr (5, [.int 0, .ref (x 17), .ref (x 18), .ref (x 19), .ref (x 20), .ref (x 21), .int 0, .int 10, .int 20, .int 0, .int 0, .ref (x 22), .ref (x 23), .int 0, .ref (x 24), .ref (x 25), .ref (x 26), .ref (x 27), .ref (x 28)])), ((x 42), .inl (cy 7, 16, .inr (.inr (.inr (.inr (fun _ => none)))))), ((x 31), .inr (6, [.ref (x 32), .ref (x 9), .ref (x 29), .int 0, .int 0, .int 0, .ref (x 36), .ref (x 37), .ref (x 38), .ref (x 39), .ref (x 40), .ref (x 41), .int 0])), ((x 32), .inr (9, [.ref (x 33), .ref (x 34), .ref (x 35), .int 0])), ((x 33), .inl (cy 0, 384, .inl (fun _ => 0))), ((x 34), .inl (cy 2, 384, .inr (.inl (fun _ => 0)))), ((x 35), .inl (cy 0, 96, .inl (fun _ => 0))), ((x 36), .inl (cy 0, 96, .inl (fun _ => 0))), ((x 38), .inl (cy 0, 96, .inl (fun _ => 0))), (o, .inl (cy 2, 1, .inr (.inl (fun _ => 0)))), ((q 0), .inr (11, (mO q 0 0 0 0 0 0 0 0 (-1) 1 0 0 0 0 0 0 0 0 0))), ((q 63), .inl (cy 0, 600, .inl (fun _ => 0))), ((q 64), .inl (cy 0, 600, .inl (fun _ => 0))), ((q 65), .inl (cy 0, 600, .inl (fun _ => 0))), ((q 66), .inl (cy 0, 600, .inl (fun _ => 0))), ((q 67), .inl (cy 0, 97, .inl (fun _ => 0))), ((q 68), .inl (cy 0, 97, .inl (fun _ => 0))), ((q 70), .inl (cy 1, 16, .inl (fun _ => 0))), ((q 71), .inl (cy 0, 16, .inl (fun _ => 0))), ((q 72), .inl (cy 2, 16, .inr (.inl (fun _ => 0)))), ((q 73), .inl (cy 1, 16, .inl (fun _ => 0))), ((q 74), .inl (cy 1, 16, .inl (fun _ => 0)))]) (hS : va_S A s.heap H locs) (hl : lv_has ls 7 [(4, .int 0), (3, .ref o), (2, .ref (q 0)), (1, .ref (x 0)), (0, .ref b)]) : W p l e room_1 s m #[Value.ref b] below meth c H locs 114 51906 (lw_Z below #[Value.ref b] s) (F0 m 1351 ls []) := by
  obtain ⟨p1, e1⟩ : ∃ y, xs 1 = y := ⟨_, rfl⟩
  obtain ⟨z1, h1⟩ : ∃ z, p1.toInt = z := ⟨_, rfl⟩
  obtain ⟨p2, e2⟩ : ∃ y, xs 2 = y := ⟨_, rfl⟩
  obtain ⟨z2, h2⟩ : ∃ z, p2.toInt = z := ⟨_, rfl⟩
  obtain ⟨p3, e3⟩ : ∃ y, xs 3 = y := ⟨_, rfl⟩
  obtain ⟨z3, h3⟩ : ∃ z, p3.toInt = z := ⟨_, rfl⟩
  obtain ⟨p4, e4⟩ : ∃ y, xs 4 = y := ⟨_, rfl⟩
  obtain ⟨z4, h4⟩ : ∃ z, p4.toInt = z := ⟨_, rfl⟩
  obtain ⟨p5, e5⟩ : ∃ y, xs 5 = y := ⟨_, rfl⟩
  obtain ⟨z5, h5⟩ : ∃ z, p5.toInt = z := ⟨_, rfl⟩
  obtain ⟨p6, e6⟩ : ∃ y, xs 6 = y := ⟨_, rfl⟩
  obtain ⟨z6, h6⟩ : ∃ z, p6.toInt = z := ⟨_, rfl⟩
  obtain ⟨p7, e7⟩ : ∃ y, xs 7 = y := ⟨_, rfl⟩
  obtain ⟨z7, h7⟩ : ∃ z, p7.toInt = z := ⟨_, rfl⟩
  refine lv_aload_n S.1 S.2.1 dL_law_1351 rfl (lv_at hl 3 rfl) ?_
  refine lv_aload_n S.1 S.2.1 dL_law_1352 rfl (lv_at hl 4 rfl) ?_
  refine lv_iload S.1 S.2.1 dL_law_1353 (lv_at hl 0 rfl) ?_
  refine lv_iconst (v := 1) S.1 S.2.1 dL_law_1355 (by decide) ?_
  refine r_iadd S dL_law_1356 (v := 1) (by decide) ?_
  refine r_sld S hX hbl hbA hS 1 (by decide) (by decide) (by decide) (v := p1) e1 dL_law_1357 ?_
  refine lv_aload_n S.1 S.2.1 dL_law_1358 rfl (lv_at hl 4 rfl) ?_
  refine lv_iload S.1 S.2.1 dL_law_1359 (lv_at hl 0 rfl) ?_
  refine lv_iconst (v := 2) S.1 S.2.1 dL_law_1361 (by decide) ?_
  refine r_iadd S dL_law_1362 (v := 2) (by decide) ?_
  refine r_sld S hX hbl hbA hS 2 (by decide) (by decide) (by decide) (v := p2) e2 dL_law_1363 ?_
  refine lv_aload_n S.1 S.2.1 dL_law_1364 rfl (lv_at hl 4 rfl) ?_
  refine lv_iload S.1 S.2.1 dL_law_1365 (lv_at hl 0 rfl) ?_
  refine lv_iconst (v := 3) S.1 S.2.1 dL_law_1367 (by decide) ?_
  refine r_iadd S dL_law_1368 (v := 3) (by decide) ?_
  refine r_sld S hX hbl hbA hS 3 (by decide) (by decide) (by decide) (v := p3) e3 dL_law_1369 ?_
  refine lv_aload_n S.1 S.2.1 dL_law_1370 rfl (lv_at hl 4 rfl) ?_
  refine lv_iload S.1 S.2.1 dL_law_1371 (lv_at hl 0 rfl) ?_
  refine lv_iconst (v := 4) S.1 S.2.1 dL_law_1373 (by decide) ?_
  refine r_iadd S dL_law_1374 (v := 4) (by decide) ?_
  refine r_sld S hX hbl hbA hS 4 (by decide) (by decide) (by decide) (v := p4) e4 dL_law_1375 ?_
  refine lv_aload_n S.1 S.2.1 dL_law_1376 rfl (lv_at hl 1 rfl) ?_
  refine call_i (wr := [((q 0), .inr (11, (mO q 0 0 0 0 0 0 0 0 (-1) 1 0 0 0 0 0 0 0 0 0))), ((q 63), .inl (cy 0, 600, .inl (fun _ => 0))), ((q 64), .inl (cy 0, 600, .inl (fun _ => 0))), ((q 65), .inl (cy 0, 600, .inl (fun _ => 0))), ((q 66), .inl (cy 0, 600, .inl (fun _ => 0))), ((q 67), .inl (cy 0, 97, .inl (fun _ => 0))), ((q 68), .inl (cy 0, 97, .inl (fun _ => 0))), ((q 70), .inl (cy 1, 16, .inl (fun _ => 0))), ((q 71), .inl (cy 0, 16, .inl (fun _ => 0))), ((q 72), .inl (cy 2, 16, .inr (.inl (fun _ => 0)))), ((q 73), .inl (cy 1, 16, .inl (fun _ => 0))), ((q 74), .inl (cy 1, 16, .inl (fun _ => 0)))]) (runS_W (wc := [((x 0), .inr (10, [.int 0, .int (-1), .ref (x 1), .ref (x 9), .int 0, .ref (x 10), .ref (x 13), .ref (x 16), .ref (x 29), .int 0, .int 0, .ref (x 30), .int 0, .ref (x 31), .ref (x 42), .int 0, .int 0, .null, .ref (x 43)])), ((x 13), .inr (4, [.ref (x 14), .ref (x 15), .int 0, .ref (x 16)])), ((x 16), .inr (5, [.int 0, .ref (x 17), .ref (x 18), .ref (x 19), .ref (x 20), .ref (x 21), .int 0, .int 10, .int 20, .int 0, .int 0, .ref (x 22), .ref (x 23), .int 0, .ref (x 24), .ref (x 25), .ref (x 26), .ref (x 27), .ref (x 28)])), ((x 42), .inl (cy 7, 16, .inr (.inr (.inr (.inr (fun _ => none)))))), ((x 31), .inr (6, [.ref (x 32), .ref (x 9), .ref (x 29), .int 0, .int 0, .int 0, .ref (x 36), .ref (x 37), .ref (x 38), .ref (x 39), .ref (x 40), .ref (x 41), .int 0])), ((x 32), .inr (9, [.ref (x 33), .ref (x 34), .ref (x 35), .int 0])), ((x 33), .inl (cy 0, 384, .inl (fun _ => 0))), ((x 34), .inl (cy 2, 384, .inr (.inl (fun _ => 0)))), ((x 35), .inl (cy 0, 96, .inl (fun _ => 0))), ((x 36), .inl (cy 0, 96, .inl (fun _ => 0))), ((x 38), .inl (cy 0, 96, .inl (fun _ => 0))), (o, .inl (cy 2, 1, .inr (.inl (fun _ => 0))))]) (As := [.ref (x 0), .int p1, .int p2, .int p3, .int p4, .ref o]) (rest := []) S (kL_deep l D cy x o p1 p2 p3 p4 z1 h1 z2 h2 z3 h3 z4 h4 hst) hK hP hD hS hA hE hZ [0, 1, 2, 3, 4, 5, 6, 7, 8, 9, 10, 11] (by decide) rfl kw_1441 kw_1442 kw_143 kw_1443 okL_deep rfl (by decide) hl.1 rfl (Nat.le_of_ble_eq_true rfl) dL_law_1377 (by decide)) hP hD hS hA [0, 1, 2, 3, 4, 5, 6, 7, 8, 9, 10, 11] [12, 13, 14, 15, 16, 17, 18, 19, 20, 21, 22, 23] rfl rfl (by decide) (by decide) (fun v1377 u1377 H locs w1377 hP hD hS => ?_)
  have hP : va_P D vwCl [((q 0), .inr (11, (mO q 0 0 0 0 0 0 0 0 (-1) 1 0 0 0 0 0 0 0 0 0))), ((q 63), .inl (cy 0, 600, .inl (fun _ => 0))), ((q 64), .inl (cy 0, 600, .inl (fun _ => 0))), ((q 65), .inl (cy 0, 600, .inl (fun _ => 0))), ((q 66), .inl (cy 0, 600, .inl (fun _ => 0))), ((q 67), .inl (cy 0, 97, .inl (fun _ => 0))), ((q 68), .inl (cy 0, 97, .inl (fun _ => 0))), ((q 70), .inl (cy 1, 16, .inl (fun _ => 0))), ((q 71), .inl (cy 0, 16, .inl (fun _ => 0))), ((q 72), .inl (cy 2, 16, .inr (.inl (fun _ => 0)))), ((q 73), .inl (cy 1, 16, .inl (fun _ => 0))), ((q 74), .inl (cy 1, 16, .inl (fun _ => 0)))] H := hP
  have hD : va_D A [((q 0), .inr (11, (mO q 0 0 0 0 0 0 0 0 (-1) 1 0 0 0 0 0 0 0 0 0))), ((q 63), .inl (cy 0, 600, .inl (fun _ => 0))), ((q 64), .inl (cy 0, 600, .inl (fun _ => 0))), ((q 65), .inl (cy 0, 600, .inl (fun _ => 0))), ((q 66), .inl (cy 0, 600, .inl (fun _ => 0))), ((q 67), .inl (cy 0, 97, .inl (fun _ => 0))), ((q 68), .inl (cy 0, 97, .inl (fun _ => 0))), ((q 70), .inl (cy 1, 16, .inl (fun _ => 0))), ((q 71), .inl (cy 0, 16, .inl (fun _ => 0))), ((q 72), .inl (cy 2, 16, .inr (.inl (fun _ => 0)))), ((q 73), .inl (cy 1, 16, .inl (fun _ => 0))), ((q 74), .inl (cy 1, 16, .inl (fun _ => 0)))] := hD
  subst w1377
  refine lv_istore (lv' := [(5, .int 1), (4, .int 0), (3, .ref o), (2, .ref (q 0)), (1, .ref (x 0)), (0, .ref b)]) S.1 S.2.1 dL_law_1380 hl (by decide) rfl (fun ls hl => ?_)
  refine lv_aload_n S.1 S.2.1 dL_law_1382 rfl (lv_at hl 3 rfl) ?_
  refine lv_aload_n S.1 S.2.1 dL_law_1383 rfl (lv_at hl 5 rfl) ?_
  refine lv_iload S.1 S.2.1 dL_law_1384 (lv_at hl 1 rfl) ?_
  refine lv_iconst (v := 1) S.1 S.2.1 dL_law_1386 (by decide) ?_
  refine r_iadd S dL_law_1387 (v := 1) (by decide) ?_
  refine r_sld S hX hbl hbA hS 1 (by decide) (by decide) (by decide) (v := p1) e1 dL_law_1388 ?_
  refine lv_aload_n S.1 S.2.1 dL_law_1389 rfl (lv_at hl 5 rfl) ?_
  refine lv_iload S.1 S.2.1 dL_law_1390 (lv_at hl 1 rfl) ?_
  refine lv_iconst (v := 2) S.1 S.2.1 dL_law_1392 (by decide) ?_
  refine r_iadd S dL_law_1393 (v := 2) (by decide) ?_
  refine r_sld S hX hbl hbA hS 2 (by decide) (by decide) (by decide) (v := p2) e2 dL_law_1394 ?_
  refine lv_aload_n S.1 S.2.1 dL_law_1395 rfl (lv_at hl 5 rfl) ?_
  refine lv_iload S.1 S.2.1 dL_law_1396 (lv_at hl 1 rfl) ?_
  refine lv_iconst (v := 3) S.1 S.2.1 dL_law_1398 (by decide) ?_
  refine r_iadd S dL_law_1399 (v := 3) (by decide) ?_
  refine r_sld S hX hbl hbA hS 3 (by decide) (by decide) (by decide) (v := p3) e3 dL_law_1400 ?_
  refine lv_aload_n S.1 S.2.1 dL_law_1401 rfl (lv_at hl 5 rfl) ?_
  refine lv_iload S.1 S.2.1 dL_law_1402 (lv_at hl 1 rfl) ?_
  refine lv_iconst (v := 4) S.1 S.2.1 dL_law_1404 (by decide) ?_
  refine r_iadd S dL_law_1405 (v := 4) (by decide) ?_
  refine r_sld S hX hbl hbA hS 4 (by decide) (by decide) (by decide) (v := p4) e4 dL_law_1406 ?_
  refine call_i (wr := []) (runV_C (wc := [((q 0), .inr (11, (mO q 0 0 0 0 0 0 0 0 (-1) 1 0 0 0 0 0 0 0 0 0))), ((q 63), .inl (cy 0, 600, .inl (fun _ => 0))), ((q 64), .inl (cy 0, 600, .inl (fun _ => 0))), ((q 65), .inl (cy 0, 600, .inl (fun _ => 0))), ((q 66), .inl (cy 0, 600, .inl (fun _ => 0))), ((q 67), .inl (cy 0, 97, .inl (fun _ => 0))), ((q 68), .inl (cy 0, 97, .inl (fun _ => 0))), ((q 70), .inl (cy 1, 16, .inl (fun _ => 0))), ((q 71), .inl (cy 0, 16, .inl (fun _ => 0))), ((q 72), .inl (cy 2, 16, .inr (.inl (fun _ => 0)))), ((q 73), .inl (cy 1, 16, .inl (fun _ => 0))), ((q 74), .inl (cy 1, 16, .inl (fun _ => 0)))]) (As := [.int p1, .int p2, .int p3, .int p4]) (rest := []) S (kX12_deep l D cy q p1 p2 p3 p4 z1 h1 z2 h2 z3 h3 z4 h4) hK hP hD [0, 1, 2, 3, 4, 5, 6, 7, 8, 9, 10, 11] (by decide) rfl 0 11 rfl rfl kw_2139 kw_2140 kw_2141 kw_152 kw_2142 okX12_deep rfl (by decide) hl.1 rfl (Nat.le_of_ble_eq_true rfl) dL_law_1407 (by decide)) hP hD hS hA [0, 1, 2, 3, 4, 5, 6, 7, 8, 9, 10, 11] [] rfl rfl (by decide) (by decide) (fun v1407 u1407 H locs w1407 hP hD hS => ?_)
  obtain ⟨tl_1407, rfl⟩ : ∃ z, z = u1407 := ⟨_, rfl⟩
  have hP : va_P D vwCl [((q 0), .inr (11, (.int 1 :: tl_1407)))] H := hP
  have hD : va_D A [((q 0), .inr (11, (.int 1 :: tl_1407)))] := hD
  subst w1407
  refine lv_istore (lv' := [(6, .int 0), (5, .int 1), (4, .int 0), (3, .ref o), (2, .ref (q 0)), (1, .ref (x 0)), (0, .ref b)]) S.1 S.2.1 dL_law_1410 hl (by decide) rfl (fun ls hl => ?_)
  refine lv_aload_n S.1 S.2.1 dL_law_1412 rfl (lv_at hl 4 rfl) ?_
  refine call_ri (runV_R (wc := [((q 0), .inr (11, (.int 1 :: tl_1407)))]) (As := []) (rest := []) S (kX12_thrown l D cy q 1 tl_1407) hK hP [0] rfl 0 11 rfl rfl kw_1462 kw_1463 kw_1464 kw_152 kw_1465 okX12_thrown rfl (by decide) hl.1 rfl (Nat.le_of_ble_eq_true rfl) dL_law_1413 (by decide)) (fun v1413 w1413 => ?_)
  subst w1413
  refine lv_iload S.1 S.2.1 dL_law_1416 (lv_at hl 1 rfl) ?_
  refine r_icmp_eq S 1 1 rfl rfl dL_law_1418 (tgt := 1423) (by decide) (fun _ => ?_) (fun c => absurd c (by decide))
  refine lv_iload S.1 S.2.1 dL_law_1423 (lv_at hl 1 rfl) ?_
  refine r_if_ne S 1 rfl dL_law_1425 (tgt := 1440) (by decide) (fun _ => ?_) (fun c => absurd c (by decide))
  refine lv_goto (tgt := 2008) S.1 S.2.1 dL_law_1440 (by decide) ?_
  exact law_on S hr hlk hX hbl hbA hA2 hS (lv_sub hl [2, 6] rfl) (by decide) (by decide)
set_option maxHeartbeats 4000000 in
set_option maxRecDepth 100000 in
theorem law_c22 (l : Launch) (hst : l.stackTraces = false) {p : Program} {e : Env} {s : State} {m : MethodId} {below : List Frame} {meth : Method} {c : Code} {H : Heap} {locs : List Loc} {ls : Array Slot} {D : va_G} {cy : Nat → ClassId} {b : Nat} {xs : Nat → Int32} {A : Nat → Prop} {x q : Nat → Nat} {o : Nat} (S : CallFix p m c cL_law 7 s #[Value.ref b] uu "LandSurveyLaw") (hr : meth.sig.returnType = ret) (hlk : meth.locks = false) (hX : va_X b 8 xs s s.heap) (hbl : b < s.heap.size) (hbA : ¬ A b) (hA : ∀ q : Nat, s.heap.size ≤ q → A q) (hA2 : ∀ q : Nat, A q → s.heap.size ≤ q) (hK : KX D cy s) (hE : Ey s) (hZ : Zs A s s.heap) (hP : va_P D vwCl [((x 0), .inr (10, [.int 0, .int (-1), .ref (x 1), .ref (x 9), .int 0, .ref (x 10), .ref (x 13), .ref (x 16), .ref (x 29), .int 0, .int 0, .ref (x 30), .int 0, .ref (x 31), .ref (x 42), .int 0, .int 0, .null, .ref (x 43)])), ((x 13), .inr (4, [.ref (x 14), .ref (x 15), .int 0, .ref (x 16)])), ((x 16), .inr (5, [.int 0, .ref (x 17), .ref (x 18), .ref (x 19), .ref (x 20), .ref (x 21), .int 0, .int 10, .int 20, .int 0, .int 0, .ref (x 22), .ref (x 23), .int 0, .ref (x 24), .ref (x 25), .ref (x 26), .ref (x 27), .ref (x 28)])), ((x 42), .inl (cy 7, 16, .inr (.inr (.inr (.inr (fun _ => none)))))), ((x 31), .inr (6, [.ref (x 32), .ref (x 9), .ref (x 29), .int 0, .int 0, .int 0, .ref (x 36), .ref (x 37), .ref (x 38), .ref (x 39), .ref (x 40), .ref (x 41), .int 0])), ((x 32), .inr (9, [.ref (x 33), .ref (x 34), .ref (x 35), .int 0])), ((x 33), .inl (cy 0, 384, .inl (fun _ => 0))), ((x 34), .inl (cy 2, 384, .inr (.inl (fun _ => 0)))), ((x 35), .inl (cy 0, 96, .inl (fun _ => 0))), ((x 36), .inl (cy 0, 96, .inl (fun _ => 0))), ((x 38), .inl (cy 0, 96, .inl (fun _ => 0))), ((q 0), .inr (11, (mO q 0 0 0 0 0 0 0 0 (-1) 1 0 0 0 0 0 0 0 0 0))), ((q 63), .inl (cy 0, 600, .inl (fun _ => 0))), ((q 64), .inl (cy 0, 600, .inl (fun _ => 0))), ((q 65), .inl (cy 0, 600, .inl (fun _ => 0))), ((q 66), .inl (cy 0, 600, .inl (fun _ => 0))), ((q 67), .inl (cy 0, 97, .inl (fun _ => 0))), ((q 68), .inl (cy 0, 97, .inl (fun _ => 0))), ((q 70), .inl (cy 1, 16, .inl (fun _ => 0))), ((q 71), .inl (cy 0, 16, .inl (fun _ => 0))), ((q 72), .inl (cy 2, 16, .inr (.inl (fun _ => 0)))), ((q 73), .inl (cy 1, 16, .inl (fun _ => 0))), ((q 74), .inl (cy 1, 16, .inl (fun _ => 0)))] H) (hD : va_D A [((x 0), .inr (10, [.int 0, .int (-1), .ref (x 1), .ref (x 9), .int 0, .ref (x 10), .ref (x 13), .ref (x 16), .ref (x 29), .int 0, .int 0, .ref (x 30), .int 0, .ref (x 31), .ref (x 42), .int 0, .int 0, .null, .ref (x 43)])), ((x 13), .inr (4, [.ref (x 14), .ref (x 15), .int 0, .ref (x 16)])), ((x 16), .inr (5, [.int 0, .ref (x 17), .ref (x 18), .ref (x 19), .ref (x 20), .ref (x 21), .int 0, .int 10, .int 20, .int 0, .int 0, .ref (x 22), .ref (x 23), .int 0, .ref (x 24), .ref (x 25), .ref (x 26), .ref (x 27), .ref (x 28)])), ((x 42), .inl (cy 7, 16, .inr (.inr (.inr (.inr (fun _ => none)))))), ((x 31), .inr (6, [.ref (x 32), .ref (x 9), .ref (x 29), .int 0, .int 0, .int 0, .ref (x 36), .ref (x 37), .ref (x 38), .ref (x 39), .ref (x 40), .ref (x 41), .int 0])), ((x 32), .inr (9, [.ref (x 33), .ref (x 34), .ref (x 35), .int 0])), ((x 33), .inl (cy 0, 384, .inl (fun _ => 0))), ((x 34), .inl (cy 2, 384, .inr (.inl (fun _ => 0)))), ((x 35), .inl (cy 0, 96, .inl (fun _ => 0))), ((x 36), .inl (cy 0, 96, .inl (fun _ => 0))), ((x 38), .inl (cy 0, 96, .inl (fun _ => 0))), ((q 0), .inr (11, (mO q 0 0 0 0 0 0 0 0 (-1) 1 0 0 0 0 0 0 0 0 0))), ((q 63), .inl (cy 0, 600, .inl (fun _ => 0))), ((q 64), .inl (cy 0, 600, .inl (fun _ => 0))), ((q 65), .inl (cy 0, 600, .inl (fun _ => 0))), ((q 66), .inl (cy 0, 600, .inl (fun _ => 0))), ((q 67), .inl (cy 0, 97, .inl (fun _ => 0))), ((q 68), .inl (cy 0, 97, .inl (fun _ => 0))), ((q 70), .inl (cy 1, 16, .inl (fun _ => 0))), ((q 71), .inl (cy 0, 16, .inl (fun _ => 0))), ((q 72), .inl (cy 2, 16, .inr (.inl (fun _ => 0)))), ((q 73), .inl (cy 1, 16, .inl (fun _ => 0))), ((q 74), .inl (cy 1, 16, .inl (fun _ => 0)))]) (hS : va_S A s.heap H locs) (hl : lv_has ls 7 [(4, .int 0), (3, .ref o), (2, .ref (q 0)), (1, .ref (x 0)), (0, .ref b)]) : W p l e room_1 s m #[Value.ref b] below meth c H locs 114 51906 (lw_Z below #[Value.ref b] s) (F0 m 1443 ls []) := by
  obtain ⟨p1, e1⟩ : ∃ y, xs 1 = y := ⟨_, rfl⟩
  obtain ⟨z1, h1⟩ : ∃ z, p1.toInt = z := ⟨_, rfl⟩
  obtain ⟨p2, e2⟩ : ∃ y, xs 2 = y := ⟨_, rfl⟩
  obtain ⟨z2, h2⟩ : ∃ z, p2.toInt = z := ⟨_, rfl⟩
  obtain ⟨p3, e3⟩ : ∃ y, xs 3 = y := ⟨_, rfl⟩
  obtain ⟨z3, h3⟩ : ∃ z, p3.toInt = z := ⟨_, rfl⟩
  obtain ⟨p4, e4⟩ : ∃ y, xs 4 = y := ⟨_, rfl⟩
  obtain ⟨z4, h4⟩ : ∃ z, p4.toInt = z := ⟨_, rfl⟩
  obtain ⟨p5, e5⟩ : ∃ y, xs 5 = y := ⟨_, rfl⟩
  obtain ⟨z5, h5⟩ : ∃ z, p5.toInt = z := ⟨_, rfl⟩
  obtain ⟨p6, e6⟩ : ∃ y, xs 6 = y := ⟨_, rfl⟩
  obtain ⟨z6, h6⟩ : ∃ z, p6.toInt = z := ⟨_, rfl⟩
  obtain ⟨p7, e7⟩ : ∃ y, xs 7 = y := ⟨_, rfl⟩
  obtain ⟨z7, h7⟩ : ∃ z, p7.toInt = z := ⟨_, rfl⟩
  refine lv_aload_n S.1 S.2.1 dL_law_1443 rfl (lv_at hl 3 rfl) ?_
  refine lv_aload_n S.1 S.2.1 dL_law_1444 rfl (lv_at hl 4 rfl) ?_
  refine lv_iload S.1 S.2.1 dL_law_1445 (lv_at hl 0 rfl) ?_
  refine lv_iconst (v := 1) S.1 S.2.1 dL_law_1447 (by decide) ?_
  refine r_iadd S dL_law_1448 (v := 1) (by decide) ?_
  refine r_sld S hX hbl hbA hS 1 (by decide) (by decide) (by decide) (v := p1) e1 dL_law_1449 ?_
  refine lv_aload_n S.1 S.2.1 dL_law_1450 rfl (lv_at hl 4 rfl) ?_
  refine lv_iload S.1 S.2.1 dL_law_1451 (lv_at hl 0 rfl) ?_
  refine lv_iconst (v := 2) S.1 S.2.1 dL_law_1453 (by decide) ?_
  refine r_iadd S dL_law_1454 (v := 2) (by decide) ?_
  refine r_sld S hX hbl hbA hS 2 (by decide) (by decide) (by decide) (v := p2) e2 dL_law_1455 ?_
  refine lv_aload_n S.1 S.2.1 dL_law_1456 rfl (lv_at hl 4 rfl) ?_
  refine lv_iload S.1 S.2.1 dL_law_1457 (lv_at hl 0 rfl) ?_
  refine lv_iconst (v := 3) S.1 S.2.1 dL_law_1459 (by decide) ?_
  refine r_iadd S dL_law_1460 (v := 3) (by decide) ?_
  refine r_sld S hX hbl hbA hS 3 (by decide) (by decide) (by decide) (v := p3) e3 dL_law_1461 ?_
  refine call_i (wr := [((q 0), .inr (11, (mO q 0 0 0 0 0 0 0 0 (-1) 1 0 0 0 0 0 0 0 0 0))), ((q 63), .inl (cy 0, 600, .inl (fun _ => 0))), ((q 64), .inl (cy 0, 600, .inl (fun _ => 0))), ((q 65), .inl (cy 0, 600, .inl (fun _ => 0))), ((q 66), .inl (cy 0, 600, .inl (fun _ => 0))), ((q 67), .inl (cy 0, 97, .inl (fun _ => 0))), ((q 68), .inl (cy 0, 97, .inl (fun _ => 0))), ((q 70), .inl (cy 1, 16, .inl (fun _ => 0))), ((q 71), .inl (cy 0, 16, .inl (fun _ => 0))), ((q 72), .inl (cy 2, 16, .inr (.inl (fun _ => 0)))), ((q 73), .inl (cy 1, 16, .inl (fun _ => 0))), ((q 74), .inl (cy 1, 16, .inl (fun _ => 0)))]) (runV_C (wc := [((x 0), .inr (10, [.int 0, .int (-1), .ref (x 1), .ref (x 9), .int 0, .ref (x 10), .ref (x 13), .ref (x 16), .ref (x 29), .int 0, .int 0, .ref (x 30), .int 0, .ref (x 31), .ref (x 42), .int 0, .int 0, .null, .ref (x 43)])), ((x 13), .inr (4, [.ref (x 14), .ref (x 15), .int 0, .ref (x 16)])), ((x 16), .inr (5, [.int 0, .ref (x 17), .ref (x 18), .ref (x 19), .ref (x 20), .ref (x 21), .int 0, .int 10, .int 20, .int 0, .int 0, .ref (x 22), .ref (x 23), .int 0, .ref (x 24), .ref (x 25), .ref (x 26), .ref (x 27), .ref (x 28)])), ((x 42), .inl (cy 7, 16, .inr (.inr (.inr (.inr (fun _ => none)))))), ((x 31), .inr (6, [.ref (x 32), .ref (x 9), .ref (x 29), .int 0, .int 0, .int 0, .ref (x 36), .ref (x 37), .ref (x 38), .ref (x 39), .ref (x 40), .ref (x 41), .int 0])), ((x 32), .inr (9, [.ref (x 33), .ref (x 34), .ref (x 35), .int 0])), ((x 33), .inl (cy 0, 384, .inl (fun _ => 0))), ((x 34), .inl (cy 2, 384, .inr (.inl (fun _ => 0)))), ((x 35), .inl (cy 0, 96, .inl (fun _ => 0))), ((x 36), .inl (cy 0, 96, .inl (fun _ => 0))), ((x 38), .inl (cy 0, 96, .inl (fun _ => 0)))]) (As := [.int p1, .int p2, .int p3]) (rest := []) S (kX11_water l D cy x p1 p2 p3 z1 h1 z2 h2 z3 h3) hK hP hD [0, 1, 2, 3, 4, 5, 6, 7, 8, 9, 10] (by decide) rfl 0 10 rfl rfl kw_1202 kw_1203 kw_1204 kw_144 kw_1205 okX11_water rfl (by decide) hl.1 rfl (Nat.le_of_ble_eq_true rfl) dL_law_1462 (by decide)) hP hD hS hA [0, 1, 2, 3, 4, 5, 6, 7, 8, 9, 10] [11, 12, 13, 14, 15, 16, 17, 18, 19, 20, 21, 22] rfl rfl (by decide) (by decide) (fun v1462 u1462 H locs w1462 hP hD hS => ?_)
  have hP : va_P D vwCl [((q 0), .inr (11, (mO q 0 0 0 0 0 0 0 0 (-1) 1 0 0 0 0 0 0 0 0 0))), ((q 63), .inl (cy 0, 600, .inl (fun _ => 0))), ((q 64), .inl (cy 0, 600, .inl (fun _ => 0))), ((q 65), .inl (cy 0, 600, .inl (fun _ => 0))), ((q 66), .inl (cy 0, 600, .inl (fun _ => 0))), ((q 67), .inl (cy 0, 97, .inl (fun _ => 0))), ((q 68), .inl (cy 0, 97, .inl (fun _ => 0))), ((q 70), .inl (cy 1, 16, .inl (fun _ => 0))), ((q 71), .inl (cy 0, 16, .inl (fun _ => 0))), ((q 72), .inl (cy 2, 16, .inr (.inl (fun _ => 0)))), ((q 73), .inl (cy 1, 16, .inl (fun _ => 0))), ((q 74), .inl (cy 1, 16, .inl (fun _ => 0)))] H := hP
  have hD : va_D A [((q 0), .inr (11, (mO q 0 0 0 0 0 0 0 0 (-1) 1 0 0 0 0 0 0 0 0 0))), ((q 63), .inl (cy 0, 600, .inl (fun _ => 0))), ((q 64), .inl (cy 0, 600, .inl (fun _ => 0))), ((q 65), .inl (cy 0, 600, .inl (fun _ => 0))), ((q 66), .inl (cy 0, 600, .inl (fun _ => 0))), ((q 67), .inl (cy 0, 97, .inl (fun _ => 0))), ((q 68), .inl (cy 0, 97, .inl (fun _ => 0))), ((q 70), .inl (cy 1, 16, .inl (fun _ => 0))), ((q 71), .inl (cy 0, 16, .inl (fun _ => 0))), ((q 72), .inl (cy 2, 16, .inr (.inl (fun _ => 0)))), ((q 73), .inl (cy 1, 16, .inl (fun _ => 0))), ((q 74), .inl (cy 1, 16, .inl (fun _ => 0)))] := hD
  subst w1462
  refine lv_aload_n S.1 S.2.1 dL_law_1465 rfl (lv_at hl 2 rfl) ?_
  refine lv_aload_n S.1 S.2.1 dL_law_1466 rfl (lv_at hl 4 rfl) ?_
  refine lv_iload S.1 S.2.1 dL_law_1467 (lv_at hl 0 rfl) ?_
  refine lv_iconst (v := 1) S.1 S.2.1 dL_law_1469 (by decide) ?_
  refine r_iadd S dL_law_1470 (v := 1) (by decide) ?_
  refine r_sld S hX hbl hbA hS 1 (by decide) (by decide) (by decide) (v := p1) e1 dL_law_1471 ?_
  refine lv_aload_n S.1 S.2.1 dL_law_1472 rfl (lv_at hl 4 rfl) ?_
  refine lv_iload S.1 S.2.1 dL_law_1473 (lv_at hl 0 rfl) ?_
  refine lv_iconst (v := 2) S.1 S.2.1 dL_law_1475 (by decide) ?_
  refine r_iadd S dL_law_1476 (v := 2) (by decide) ?_
  refine r_sld S hX hbl hbA hS 2 (by decide) (by decide) (by decide) (v := p2) e2 dL_law_1477 ?_
  refine lv_aload_n S.1 S.2.1 dL_law_1478 rfl (lv_at hl 4 rfl) ?_
  refine lv_iload S.1 S.2.1 dL_law_1479 (lv_at hl 0 rfl) ?_
  refine lv_iconst (v := 3) S.1 S.2.1 dL_law_1481 (by decide) ?_
  refine r_iadd S dL_law_1482 (v := 3) (by decide) ?_
  refine r_sld S hX hbl hbA hS 3 (by decide) (by decide) (by decide) (v := p3) e3 dL_law_1483 ?_
  refine call_i (wr := []) (runV_C (wc := [((q 0), .inr (11, (mO q 0 0 0 0 0 0 0 0 (-1) 1 0 0 0 0 0 0 0 0 0))), ((q 63), .inl (cy 0, 600, .inl (fun _ => 0))), ((q 64), .inl (cy 0, 600, .inl (fun _ => 0))), ((q 65), .inl (cy 0, 600, .inl (fun _ => 0))), ((q 66), .inl (cy 0, 600, .inl (fun _ => 0))), ((q 67), .inl (cy 0, 97, .inl (fun _ => 0))), ((q 68), .inl (cy 0, 97, .inl (fun _ => 0))), ((q 70), .inl (cy 1, 16, .inl (fun _ => 0))), ((q 71), .inl (cy 0, 16, .inl (fun _ => 0))), ((q 72), .inl (cy 2, 16, .inr (.inl (fun _ => 0)))), ((q 73), .inl (cy 1, 16, .inl (fun _ => 0))), ((q 74), .inl (cy 1, 16, .inl (fun _ => 0)))]) (As := [.int p1, .int p2, .int p3]) (rest := [.int (-1)]) S (kX12_water l D cy q p1 p2 p3 z1 h1 z2 h2 z3 h3) hK hP hD [0, 1, 2, 3, 4, 5, 6, 7, 8, 9, 10, 11] (by decide) rfl 0 11 rfl rfl kw_2164 kw_2165 kw_2166 kw_152 kw_2167 okX12_water rfl (by decide) hl.1 rfl (Nat.le_of_ble_eq_true rfl) dL_law_1484 (by decide)) hP hD hS hA [0, 1, 2, 3, 4, 5, 6, 7, 8, 9, 10, 11] [] rfl rfl (by decide) (by decide) (fun v1484 u1484 H locs w1484 hP hD hS => ?_)
  have hP : va_P D vwCl [] H := hP
  have hD : va_D A [] := hD
  subst w1484
  refine r_icmp_eq S (-1) (-1) rfl rfl dL_law_1487 (tgt := 2008) (by decide) (fun _ => ?_) (fun c => absurd c (by decide))
  exact law_on S hr hlk hX hbl hbA hA2 hS (lv_sub hl [0, 4] rfl) (by decide) (by decide)
set_option maxHeartbeats 4000000 in
set_option maxRecDepth 100000 in
theorem law_c23 (l : Launch) (hst : l.stackTraces = false) {p : Program} {e : Env} {s : State} {m : MethodId} {below : List Frame} {meth : Method} {c : Code} {H : Heap} {locs : List Loc} {ls : Array Slot} {D : va_G} {cy : Nat → ClassId} {b : Nat} {xs : Nat → Int32} {A : Nat → Prop} {x q : Nat → Nat} {o : Nat} (S : CallFix p m c cL_law 7 s #[Value.ref b] uu "LandSurveyLaw") (hr : meth.sig.returnType = ret) (hlk : meth.locks = false) (hX : va_X b 8 xs s s.heap) (hbl : b < s.heap.size) (hbA : ¬ A b) (hA : ∀ q : Nat, s.heap.size ≤ q → A q) (hA2 : ∀ q : Nat, A q → s.heap.size ≤ q) (hK : KX D cy s) (hE : Ey s) (hZ : Zs A s s.heap) (hP : va_P D vwCl [((x 0), .inr (10, [.int 0, .int (-1), .ref (x 1), .ref (x 9), .int 0, .ref (x 10), .ref (x 13), .ref (x 16), .ref (x 29), .int 0, .int 0, .ref (x 30), .int 0, .ref (x 31), .ref (x 42), .int 0, .int 0, .null, .ref (x 43)])), ((x 13), .inr (4, [.ref (x 14), .ref (x 15), .int 0, .ref (x 16)])), ((x 16), .inr (5, [.int 0, .ref (x 17), .ref (x 18), .ref (x 19), .ref (x 20), .ref (x 21), .int 0, .int 10, .int 20, .int 0, .int 0, .ref (x 22), .ref (x 23), .int 0, .ref (x 24), .ref (x 25), .ref (x 26), .ref (x 27), .ref (x 28)])), ((x 42), .inl (cy 7, 16, .inr (.inr (.inr (.inr (fun _ => none)))))), ((x 31), .inr (6, [.ref (x 32), .ref (x 9), .ref (x 29), .int 0, .int 0, .int 0, .ref (x 36), .ref (x 37), .ref (x 38), .ref (x 39), .ref (x 40), .ref (x 41), .int 0])), ((x 32), .inr (9, [.ref (x 33), .ref (x 34), .ref (x 35), .int 0])), ((x 33), .inl (cy 0, 384, .inl (fun _ => 0))), ((x 34), .inl (cy 2, 384, .inr (.inl (fun _ => 0)))), ((x 35), .inl (cy 0, 96, .inl (fun _ => 0))), ((x 36), .inl (cy 0, 96, .inl (fun _ => 0))), ((x 38), .inl (cy 0, 96, .inl (fun _ => 0))), ((q 0), .inr (11, (mO q 0 0 0 0 0 0 0 0 (-1) 1 0 0 0 0 0 0 0 0 0))), ((q 63), .inl (cy 0, 600, .inl (fun _ => 0))), ((q 64), .inl (cy 0, 600, .inl (fun _ => 0))), ((q 65), .inl (cy 0, 600, .inl (fun _ => 0))), ((q 66), .inl (cy 0, 600, .inl (fun _ => 0))), ((q 67), .inl (cy 0, 97, .inl (fun _ => 0))), ((q 68), .inl (cy 0, 97, .inl (fun _ => 0))), ((q 70), .inl (cy 1, 16, .inl (fun _ => 0))), ((q 71), .inl (cy 0, 16, .inl (fun _ => 0))), ((q 72), .inl (cy 2, 16, .inr (.inl (fun _ => 0)))), ((q 73), .inl (cy 1, 16, .inl (fun _ => 0))), ((q 74), .inl (cy 1, 16, .inl (fun _ => 0)))] H) (hD : va_D A [((x 0), .inr (10, [.int 0, .int (-1), .ref (x 1), .ref (x 9), .int 0, .ref (x 10), .ref (x 13), .ref (x 16), .ref (x 29), .int 0, .int 0, .ref (x 30), .int 0, .ref (x 31), .ref (x 42), .int 0, .int 0, .null, .ref (x 43)])), ((x 13), .inr (4, [.ref (x 14), .ref (x 15), .int 0, .ref (x 16)])), ((x 16), .inr (5, [.int 0, .ref (x 17), .ref (x 18), .ref (x 19), .ref (x 20), .ref (x 21), .int 0, .int 10, .int 20, .int 0, .int 0, .ref (x 22), .ref (x 23), .int 0, .ref (x 24), .ref (x 25), .ref (x 26), .ref (x 27), .ref (x 28)])), ((x 42), .inl (cy 7, 16, .inr (.inr (.inr (.inr (fun _ => none)))))), ((x 31), .inr (6, [.ref (x 32), .ref (x 9), .ref (x 29), .int 0, .int 0, .int 0, .ref (x 36), .ref (x 37), .ref (x 38), .ref (x 39), .ref (x 40), .ref (x 41), .int 0])), ((x 32), .inr (9, [.ref (x 33), .ref (x 34), .ref (x 35), .int 0])), ((x 33), .inl (cy 0, 384, .inl (fun _ => 0))), ((x 34), .inl (cy 2, 384, .inr (.inl (fun _ => 0)))), ((x 35), .inl (cy 0, 96, .inl (fun _ => 0))), ((x 36), .inl (cy 0, 96, .inl (fun _ => 0))), ((x 38), .inl (cy 0, 96, .inl (fun _ => 0))), ((q 0), .inr (11, (mO q 0 0 0 0 0 0 0 0 (-1) 1 0 0 0 0 0 0 0 0 0))), ((q 63), .inl (cy 0, 600, .inl (fun _ => 0))), ((q 64), .inl (cy 0, 600, .inl (fun _ => 0))), ((q 65), .inl (cy 0, 600, .inl (fun _ => 0))), ((q 66), .inl (cy 0, 600, .inl (fun _ => 0))), ((q 67), .inl (cy 0, 97, .inl (fun _ => 0))), ((q 68), .inl (cy 0, 97, .inl (fun _ => 0))), ((q 70), .inl (cy 1, 16, .inl (fun _ => 0))), ((q 71), .inl (cy 0, 16, .inl (fun _ => 0))), ((q 72), .inl (cy 2, 16, .inr (.inl (fun _ => 0)))), ((q 73), .inl (cy 1, 16, .inl (fun _ => 0))), ((q 74), .inl (cy 1, 16, .inl (fun _ => 0)))]) (hS : va_S A s.heap H locs) (hl : lv_has ls 7 [(4, .int 0), (3, .ref o), (2, .ref (q 0)), (1, .ref (x 0)), (0, .ref b)]) : W p l e room_1 s m #[Value.ref b] below meth c H locs 114 51906 (lw_Z below #[Value.ref b] s) (F0 m 1492 ls []) := by
  obtain ⟨p1, e1⟩ : ∃ y, xs 1 = y := ⟨_, rfl⟩
  obtain ⟨z1, h1⟩ : ∃ z, p1.toInt = z := ⟨_, rfl⟩
  obtain ⟨p2, e2⟩ : ∃ y, xs 2 = y := ⟨_, rfl⟩
  obtain ⟨z2, h2⟩ : ∃ z, p2.toInt = z := ⟨_, rfl⟩
  obtain ⟨p3, e3⟩ : ∃ y, xs 3 = y := ⟨_, rfl⟩
  obtain ⟨z3, h3⟩ : ∃ z, p3.toInt = z := ⟨_, rfl⟩
  obtain ⟨p4, e4⟩ : ∃ y, xs 4 = y := ⟨_, rfl⟩
  obtain ⟨z4, h4⟩ : ∃ z, p4.toInt = z := ⟨_, rfl⟩
  obtain ⟨p5, e5⟩ : ∃ y, xs 5 = y := ⟨_, rfl⟩
  obtain ⟨z5, h5⟩ : ∃ z, p5.toInt = z := ⟨_, rfl⟩
  obtain ⟨p6, e6⟩ : ∃ y, xs 6 = y := ⟨_, rfl⟩
  obtain ⟨z6, h6⟩ : ∃ z, p6.toInt = z := ⟨_, rfl⟩
  obtain ⟨p7, e7⟩ : ∃ y, xs 7 = y := ⟨_, rfl⟩
  obtain ⟨z7, h7⟩ : ∃ z, p7.toInt = z := ⟨_, rfl⟩
  refine lv_aload_n S.1 S.2.1 dL_law_1492 rfl (lv_at hl 3 rfl) ?_
  refine lv_aload_n S.1 S.2.1 dL_law_1493 rfl (lv_at hl 4 rfl) ?_
  refine lv_iload S.1 S.2.1 dL_law_1494 (lv_at hl 0 rfl) ?_
  refine lv_iconst (v := 1) S.1 S.2.1 dL_law_1496 (by decide) ?_
  refine r_iadd S dL_law_1497 (v := 1) (by decide) ?_
  refine r_sld S hX hbl hbA hS 1 (by decide) (by decide) (by decide) (v := p1) e1 dL_law_1498 ?_
  refine lv_aload_n S.1 S.2.1 dL_law_1499 rfl (lv_at hl 4 rfl) ?_
  refine lv_iload S.1 S.2.1 dL_law_1500 (lv_at hl 0 rfl) ?_
  refine lv_iconst (v := 2) S.1 S.2.1 dL_law_1502 (by decide) ?_
  refine r_iadd S dL_law_1503 (v := 2) (by decide) ?_
  refine r_sld S hX hbl hbA hS 2 (by decide) (by decide) (by decide) (v := p2) e2 dL_law_1504 ?_
  refine lv_aload_n S.1 S.2.1 dL_law_1505 rfl (lv_at hl 4 rfl) ?_
  refine lv_iload S.1 S.2.1 dL_law_1506 (lv_at hl 0 rfl) ?_
  refine lv_iconst (v := 3) S.1 S.2.1 dL_law_1508 (by decide) ?_
  refine r_iadd S dL_law_1509 (v := 3) (by decide) ?_
  refine r_sld S hX hbl hbA hS 3 (by decide) (by decide) (by decide) (v := p3) e3 dL_law_1510 ?_
  refine call_i (wr := [((q 0), .inr (11, (mO q 0 0 0 0 0 0 0 0 (-1) 1 0 0 0 0 0 0 0 0 0))), ((q 63), .inl (cy 0, 600, .inl (fun _ => 0))), ((q 64), .inl (cy 0, 600, .inl (fun _ => 0))), ((q 65), .inl (cy 0, 600, .inl (fun _ => 0))), ((q 66), .inl (cy 0, 600, .inl (fun _ => 0))), ((q 67), .inl (cy 0, 97, .inl (fun _ => 0))), ((q 68), .inl (cy 0, 97, .inl (fun _ => 0))), ((q 70), .inl (cy 1, 16, .inl (fun _ => 0))), ((q 71), .inl (cy 0, 16, .inl (fun _ => 0))), ((q 72), .inl (cy 2, 16, .inr (.inl (fun _ => 0)))), ((q 73), .inl (cy 1, 16, .inl (fun _ => 0))), ((q 74), .inl (cy 1, 16, .inl (fun _ => 0)))]) (runV_C (wc := [((x 0), .inr (10, [.int 0, .int (-1), .ref (x 1), .ref (x 9), .int 0, .ref (x 10), .ref (x 13), .ref (x 16), .ref (x 29), .int 0, .int 0, .ref (x 30), .int 0, .ref (x 31), .ref (x 42), .int 0, .int 0, .null, .ref (x 43)])), ((x 13), .inr (4, [.ref (x 14), .ref (x 15), .int 0, .ref (x 16)])), ((x 16), .inr (5, [.int 0, .ref (x 17), .ref (x 18), .ref (x 19), .ref (x 20), .ref (x 21), .int 0, .int 10, .int 20, .int 0, .int 0, .ref (x 22), .ref (x 23), .int 0, .ref (x 24), .ref (x 25), .ref (x 26), .ref (x 27), .ref (x 28)])), ((x 42), .inl (cy 7, 16, .inr (.inr (.inr (.inr (fun _ => none)))))), ((x 31), .inr (6, [.ref (x 32), .ref (x 9), .ref (x 29), .int 0, .int 0, .int 0, .ref (x 36), .ref (x 37), .ref (x 38), .ref (x 39), .ref (x 40), .ref (x 41), .int 0])), ((x 32), .inr (9, [.ref (x 33), .ref (x 34), .ref (x 35), .int 0])), ((x 33), .inl (cy 0, 384, .inl (fun _ => 0))), ((x 34), .inl (cy 2, 384, .inr (.inl (fun _ => 0)))), ((x 35), .inl (cy 0, 96, .inl (fun _ => 0))), ((x 36), .inl (cy 0, 96, .inl (fun _ => 0))), ((x 38), .inl (cy 0, 96, .inl (fun _ => 0)))]) (As := [.int p1, .int p2, .int p3]) (rest := []) S (kX11_seam l D cy x p1 p2 p3 z1 h1 z2 h2 z3 h3) hK hP hD [0, 1, 2, 3, 4, 5, 6, 7, 8, 9, 10] (by decide) rfl 0 10 rfl rfl kw_1240 kw_1241 kw_1242 kw_144 kw_1243 okX11_seam rfl (by decide) hl.1 rfl (Nat.le_of_ble_eq_true rfl) dL_law_1511 (by decide)) hP hD hS hA [0, 1, 2, 3, 4, 5, 6, 7, 8, 9, 10] [11, 12, 13, 14, 15, 16, 17, 18, 19, 20, 21, 22] rfl rfl (by decide) (by decide) (fun v1511 u1511 H locs w1511 hP hD hS => ?_)
  have hP : va_P D vwCl [((q 0), .inr (11, (mO q 0 0 0 0 0 0 0 0 (-1) 1 0 0 0 0 0 0 0 0 0))), ((q 63), .inl (cy 0, 600, .inl (fun _ => 0))), ((q 64), .inl (cy 0, 600, .inl (fun _ => 0))), ((q 65), .inl (cy 0, 600, .inl (fun _ => 0))), ((q 66), .inl (cy 0, 600, .inl (fun _ => 0))), ((q 67), .inl (cy 0, 97, .inl (fun _ => 0))), ((q 68), .inl (cy 0, 97, .inl (fun _ => 0))), ((q 70), .inl (cy 1, 16, .inl (fun _ => 0))), ((q 71), .inl (cy 0, 16, .inl (fun _ => 0))), ((q 72), .inl (cy 2, 16, .inr (.inl (fun _ => 0)))), ((q 73), .inl (cy 1, 16, .inl (fun _ => 0))), ((q 74), .inl (cy 1, 16, .inl (fun _ => 0)))] H := hP
  have hD : va_D A [((q 0), .inr (11, (mO q 0 0 0 0 0 0 0 0 (-1) 1 0 0 0 0 0 0 0 0 0))), ((q 63), .inl (cy 0, 600, .inl (fun _ => 0))), ((q 64), .inl (cy 0, 600, .inl (fun _ => 0))), ((q 65), .inl (cy 0, 600, .inl (fun _ => 0))), ((q 66), .inl (cy 0, 600, .inl (fun _ => 0))), ((q 67), .inl (cy 0, 97, .inl (fun _ => 0))), ((q 68), .inl (cy 0, 97, .inl (fun _ => 0))), ((q 70), .inl (cy 1, 16, .inl (fun _ => 0))), ((q 71), .inl (cy 0, 16, .inl (fun _ => 0))), ((q 72), .inl (cy 2, 16, .inr (.inl (fun _ => 0)))), ((q 73), .inl (cy 1, 16, .inl (fun _ => 0))), ((q 74), .inl (cy 1, 16, .inl (fun _ => 0)))] := hD
  subst w1511
  refine lv_aload_n S.1 S.2.1 dL_law_1514 rfl (lv_at hl 2 rfl) ?_
  refine lv_aload_n S.1 S.2.1 dL_law_1515 rfl (lv_at hl 4 rfl) ?_
  refine lv_iload S.1 S.2.1 dL_law_1516 (lv_at hl 0 rfl) ?_
  refine lv_iconst (v := 1) S.1 S.2.1 dL_law_1518 (by decide) ?_
  refine r_iadd S dL_law_1519 (v := 1) (by decide) ?_
  refine r_sld S hX hbl hbA hS 1 (by decide) (by decide) (by decide) (v := p1) e1 dL_law_1520 ?_
  refine lv_aload_n S.1 S.2.1 dL_law_1521 rfl (lv_at hl 4 rfl) ?_
  refine lv_iload S.1 S.2.1 dL_law_1522 (lv_at hl 0 rfl) ?_
  refine lv_iconst (v := 2) S.1 S.2.1 dL_law_1524 (by decide) ?_
  refine r_iadd S dL_law_1525 (v := 2) (by decide) ?_
  refine r_sld S hX hbl hbA hS 2 (by decide) (by decide) (by decide) (v := p2) e2 dL_law_1526 ?_
  refine lv_aload_n S.1 S.2.1 dL_law_1527 rfl (lv_at hl 4 rfl) ?_
  refine lv_iload S.1 S.2.1 dL_law_1528 (lv_at hl 0 rfl) ?_
  refine lv_iconst (v := 3) S.1 S.2.1 dL_law_1530 (by decide) ?_
  refine r_iadd S dL_law_1531 (v := 3) (by decide) ?_
  refine r_sld S hX hbl hbA hS 3 (by decide) (by decide) (by decide) (v := p3) e3 dL_law_1532 ?_
  refine call_i (wr := []) (runV_C (wc := [((q 0), .inr (11, (mO q 0 0 0 0 0 0 0 0 (-1) 1 0 0 0 0 0 0 0 0 0))), ((q 63), .inl (cy 0, 600, .inl (fun _ => 0))), ((q 64), .inl (cy 0, 600, .inl (fun _ => 0))), ((q 65), .inl (cy 0, 600, .inl (fun _ => 0))), ((q 66), .inl (cy 0, 600, .inl (fun _ => 0))), ((q 67), .inl (cy 0, 97, .inl (fun _ => 0))), ((q 68), .inl (cy 0, 97, .inl (fun _ => 0))), ((q 70), .inl (cy 1, 16, .inl (fun _ => 0))), ((q 71), .inl (cy 0, 16, .inl (fun _ => 0))), ((q 72), .inl (cy 2, 16, .inr (.inl (fun _ => 0)))), ((q 73), .inl (cy 1, 16, .inl (fun _ => 0))), ((q 74), .inl (cy 1, 16, .inl (fun _ => 0)))]) (As := [.int p1, .int p2, .int p3]) (rest := [.int (-1)]) S (kX12_seam l D cy q p1 p2 p3 z1 h1 z2 h2 z3 h3) hK hP hD [0, 1, 2, 3, 4, 5, 6, 7, 8, 9, 10, 11] (by decide) rfl 0 11 rfl rfl kw_2176 kw_2177 kw_2178 kw_152 kw_2179 okX12_seam rfl (by decide) hl.1 rfl (Nat.le_of_ble_eq_true rfl) dL_law_1533 (by decide)) hP hD hS hA [0, 1, 2, 3, 4, 5, 6, 7, 8, 9, 10, 11] [] rfl rfl (by decide) (by decide) (fun v1533 u1533 H locs w1533 hP hD hS => ?_)
  have hP : va_P D vwCl [] H := hP
  have hD : va_D A [] := hD
  subst w1533
  refine r_icmp_eq S (-1) (-1) rfl rfl dL_law_1536 (tgt := 2008) (by decide) (fun _ => ?_) (fun c => absurd c (by decide))
  exact law_on S hr hlk hX hbl hbA hA2 hS (lv_sub hl [0, 4] rfl) (by decide) (by decide)
set_option maxHeartbeats 4000000 in
set_option maxRecDepth 100000 in
theorem law_c24 (l : Launch) (hst : l.stackTraces = false) {p : Program} {e : Env} {s : State} {m : MethodId} {below : List Frame} {meth : Method} {c : Code} {H : Heap} {locs : List Loc} {ls : Array Slot} {D : va_G} {cy : Nat → ClassId} {b : Nat} {xs : Nat → Int32} {A : Nat → Prop} {x q : Nat → Nat} {o : Nat} (S : CallFix p m c cL_law 7 s #[Value.ref b] uu "LandSurveyLaw") (hr : meth.sig.returnType = ret) (hlk : meth.locks = false) (hX : va_X b 8 xs s s.heap) (hbl : b < s.heap.size) (hbA : ¬ A b) (hA : ∀ q : Nat, s.heap.size ≤ q → A q) (hA2 : ∀ q : Nat, A q → s.heap.size ≤ q) (hK : KX D cy s) (hE : Ey s) (hZ : Zs A s s.heap) (hP : va_P D vwCl [((x 0), .inr (10, [.int 0, .int (-1), .ref (x 1), .ref (x 9), .int 0, .ref (x 10), .ref (x 13), .ref (x 16), .ref (x 29), .int 0, .int 0, .ref (x 30), .int 0, .ref (x 31), .ref (x 42), .int 0, .int 0, .null, .ref (x 43)])), ((x 13), .inr (4, [.ref (x 14), .ref (x 15), .int 0, .ref (x 16)])), ((x 16), .inr (5, [.int 0, .ref (x 17), .ref (x 18), .ref (x 19), .ref (x 20), .ref (x 21), .int 0, .int 10, .int 20, .int 0, .int 0, .ref (x 22), .ref (x 23), .int 0, .ref (x 24), .ref (x 25), .ref (x 26), .ref (x 27), .ref (x 28)])), ((x 42), .inl (cy 7, 16, .inr (.inr (.inr (.inr (fun _ => none)))))), ((x 31), .inr (6, [.ref (x 32), .ref (x 9), .ref (x 29), .int 0, .int 0, .int 0, .ref (x 36), .ref (x 37), .ref (x 38), .ref (x 39), .ref (x 40), .ref (x 41), .int 0])), ((x 32), .inr (9, [.ref (x 33), .ref (x 34), .ref (x 35), .int 0])), ((x 33), .inl (cy 0, 384, .inl (fun _ => 0))), ((x 34), .inl (cy 2, 384, .inr (.inl (fun _ => 0)))), ((x 35), .inl (cy 0, 96, .inl (fun _ => 0))), ((x 36), .inl (cy 0, 96, .inl (fun _ => 0))), ((x 38), .inl (cy 0, 96, .inl (fun _ => 0))), ((x 30), .inl (cy 6, 10, .inr (.inr (.inr (.inr (fun _ => none)))))), ((q 0), .inr (11, (mO q 0 0 0 0 0 0 0 0 (-1) 1 0 0 0 0 0 0 0 0 0))), ((q 63), .inl (cy 0, 600, .inl (fun _ => 0))), ((q 64), .inl (cy 0, 600, .inl (fun _ => 0))), ((q 65), .inl (cy 0, 600, .inl (fun _ => 0))), ((q 66), .inl (cy 0, 600, .inl (fun _ => 0))), ((q 67), .inl (cy 0, 97, .inl (fun _ => 0))), ((q 68), .inl (cy 0, 97, .inl (fun _ => 0))), ((q 70), .inl (cy 1, 16, .inl (fun _ => 0))), ((q 71), .inl (cy 0, 16, .inl (fun _ => 0))), ((q 72), .inl (cy 2, 16, .inr (.inl (fun _ => 0)))), ((q 73), .inl (cy 1, 16, .inl (fun _ => 0))), ((q 74), .inl (cy 1, 16, .inl (fun _ => 0))), ((q 81), .inl (cy 0, 960, .inl (fun _ => 0)))] H) (hD : va_D A [((x 0), .inr (10, [.int 0, .int (-1), .ref (x 1), .ref (x 9), .int 0, .ref (x 10), .ref (x 13), .ref (x 16), .ref (x 29), .int 0, .int 0, .ref (x 30), .int 0, .ref (x 31), .ref (x 42), .int 0, .int 0, .null, .ref (x 43)])), ((x 13), .inr (4, [.ref (x 14), .ref (x 15), .int 0, .ref (x 16)])), ((x 16), .inr (5, [.int 0, .ref (x 17), .ref (x 18), .ref (x 19), .ref (x 20), .ref (x 21), .int 0, .int 10, .int 20, .int 0, .int 0, .ref (x 22), .ref (x 23), .int 0, .ref (x 24), .ref (x 25), .ref (x 26), .ref (x 27), .ref (x 28)])), ((x 42), .inl (cy 7, 16, .inr (.inr (.inr (.inr (fun _ => none)))))), ((x 31), .inr (6, [.ref (x 32), .ref (x 9), .ref (x 29), .int 0, .int 0, .int 0, .ref (x 36), .ref (x 37), .ref (x 38), .ref (x 39), .ref (x 40), .ref (x 41), .int 0])), ((x 32), .inr (9, [.ref (x 33), .ref (x 34), .ref (x 35), .int 0])), ((x 33), .inl (cy 0, 384, .inl (fun _ => 0))), ((x 34), .inl (cy 2, 384, .inr (.inl (fun _ => 0)))), ((x 35), .inl (cy 0, 96, .inl (fun _ => 0))), ((x 36), .inl (cy 0, 96, .inl (fun _ => 0))), ((x 38), .inl (cy 0, 96, .inl (fun _ => 0))), ((x 30), .inl (cy 6, 10, .inr (.inr (.inr (.inr (fun _ => none)))))), ((q 0), .inr (11, (mO q 0 0 0 0 0 0 0 0 (-1) 1 0 0 0 0 0 0 0 0 0))), ((q 63), .inl (cy 0, 600, .inl (fun _ => 0))), ((q 64), .inl (cy 0, 600, .inl (fun _ => 0))), ((q 65), .inl (cy 0, 600, .inl (fun _ => 0))), ((q 66), .inl (cy 0, 600, .inl (fun _ => 0))), ((q 67), .inl (cy 0, 97, .inl (fun _ => 0))), ((q 68), .inl (cy 0, 97, .inl (fun _ => 0))), ((q 70), .inl (cy 1, 16, .inl (fun _ => 0))), ((q 71), .inl (cy 0, 16, .inl (fun _ => 0))), ((q 72), .inl (cy 2, 16, .inr (.inl (fun _ => 0)))), ((q 73), .inl (cy 1, 16, .inl (fun _ => 0))), ((q 74), .inl (cy 1, 16, .inl (fun _ => 0))), ((q 81), .inl (cy 0, 960, .inl (fun _ => 0)))]) (hS : va_S A s.heap H locs) (hl : lv_has ls 7 [(4, .int 0), (3, .ref o), (2, .ref (q 0)), (1, .ref (x 0)), (0, .ref b)]) : W p l e room_1 s m #[Value.ref b] below meth c H locs 114 51906 (lw_Z below #[Value.ref b] s) (F0 m 1541 ls []) := by
  obtain ⟨p1, e1⟩ : ∃ y, xs 1 = y := ⟨_, rfl⟩
  obtain ⟨z1, h1⟩ : ∃ z, p1.toInt = z := ⟨_, rfl⟩
  obtain ⟨p2, e2⟩ : ∃ y, xs 2 = y := ⟨_, rfl⟩
  obtain ⟨z2, h2⟩ : ∃ z, p2.toInt = z := ⟨_, rfl⟩
  obtain ⟨p3, e3⟩ : ∃ y, xs 3 = y := ⟨_, rfl⟩
  obtain ⟨z3, h3⟩ : ∃ z, p3.toInt = z := ⟨_, rfl⟩
  obtain ⟨p4, e4⟩ : ∃ y, xs 4 = y := ⟨_, rfl⟩
  obtain ⟨z4, h4⟩ : ∃ z, p4.toInt = z := ⟨_, rfl⟩
  obtain ⟨p5, e5⟩ : ∃ y, xs 5 = y := ⟨_, rfl⟩
  obtain ⟨z5, h5⟩ : ∃ z, p5.toInt = z := ⟨_, rfl⟩
  obtain ⟨p6, e6⟩ : ∃ y, xs 6 = y := ⟨_, rfl⟩
  obtain ⟨z6, h6⟩ : ∃ z, p6.toInt = z := ⟨_, rfl⟩
  obtain ⟨p7, e7⟩ : ∃ y, xs 7 = y := ⟨_, rfl⟩
  obtain ⟨z7, h7⟩ : ∃ z, p7.toInt = z := ⟨_, rfl⟩
  refine lv_aload_n S.1 S.2.1 dL_law_1541 rfl (lv_at hl 3 rfl) ?_
  refine lv_aload_n S.1 S.2.1 dL_law_1542 rfl (lv_at hl 4 rfl) ?_
  refine lv_iload S.1 S.2.1 dL_law_1543 (lv_at hl 0 rfl) ?_
  refine lv_iconst (v := 1) S.1 S.2.1 dL_law_1545 (by decide) ?_
  refine r_iadd S dL_law_1546 (v := 1) (by decide) ?_
  refine r_sld S hX hbl hbA hS 1 (by decide) (by decide) (by decide) (v := p1) e1 dL_law_1547 ?_
  refine lv_aload_n S.1 S.2.1 dL_law_1548 rfl (lv_at hl 4 rfl) ?_
  refine lv_iload S.1 S.2.1 dL_law_1549 (lv_at hl 0 rfl) ?_
  refine lv_iconst (v := 2) S.1 S.2.1 dL_law_1551 (by decide) ?_
  refine r_iadd S dL_law_1552 (v := 2) (by decide) ?_
  refine r_sld S hX hbl hbA hS 2 (by decide) (by decide) (by decide) (v := p2) e2 dL_law_1553 ?_
  refine lv_aload_n S.1 S.2.1 dL_law_1554 rfl (lv_at hl 4 rfl) ?_
  refine lv_iload S.1 S.2.1 dL_law_1555 (lv_at hl 0 rfl) ?_
  refine lv_iconst (v := 3) S.1 S.2.1 dL_law_1557 (by decide) ?_
  refine r_iadd S dL_law_1558 (v := 3) (by decide) ?_
  refine r_sld S hX hbl hbA hS 3 (by decide) (by decide) (by decide) (v := p3) e3 dL_law_1559 ?_
  refine lv_aload_n S.1 S.2.1 dL_law_1560 rfl (lv_at hl 4 rfl) ?_
  refine lv_iload S.1 S.2.1 dL_law_1561 (lv_at hl 0 rfl) ?_
  refine lv_iconst (v := 4) S.1 S.2.1 dL_law_1563 (by decide) ?_
  refine r_iadd S dL_law_1564 (v := 4) (by decide) ?_
  refine r_sld S hX hbl hbA hS 4 (by decide) (by decide) (by decide) (v := p4) e4 dL_law_1565 ?_
  refine call_i (wr := [((q 0), .inr (11, (mO q 0 0 0 0 0 0 0 0 (-1) 1 0 0 0 0 0 0 0 0 0))), ((q 63), .inl (cy 0, 600, .inl (fun _ => 0))), ((q 64), .inl (cy 0, 600, .inl (fun _ => 0))), ((q 65), .inl (cy 0, 600, .inl (fun _ => 0))), ((q 66), .inl (cy 0, 600, .inl (fun _ => 0))), ((q 67), .inl (cy 0, 97, .inl (fun _ => 0))), ((q 68), .inl (cy 0, 97, .inl (fun _ => 0))), ((q 70), .inl (cy 1, 16, .inl (fun _ => 0))), ((q 71), .inl (cy 0, 16, .inl (fun _ => 0))), ((q 72), .inl (cy 2, 16, .inr (.inl (fun _ => 0)))), ((q 73), .inl (cy 1, 16, .inl (fun _ => 0))), ((q 74), .inl (cy 1, 16, .inl (fun _ => 0))), ((q 81), .inl (cy 0, 960, .inl (fun _ => 0)))]) (runV_C (wc := [((x 0), .inr (10, [.int 0, .int (-1), .ref (x 1), .ref (x 9), .int 0, .ref (x 10), .ref (x 13), .ref (x 16), .ref (x 29), .int 0, .int 0, .ref (x 30), .int 0, .ref (x 31), .ref (x 42), .int 0, .int 0, .null, .ref (x 43)])), ((x 13), .inr (4, [.ref (x 14), .ref (x 15), .int 0, .ref (x 16)])), ((x 16), .inr (5, [.int 0, .ref (x 17), .ref (x 18), .ref (x 19), .ref (x 20), .ref (x 21), .int 0, .int 10, .int 20, .int 0, .int 0, .ref (x 22), .ref (x 23), .int 0, .ref (x 24), .ref (x 25), .ref (x 26), .ref (x 27), .ref (x 28)])), ((x 42), .inl (cy 7, 16, .inr (.inr (.inr (.inr (fun _ => none)))))), ((x 31), .inr (6, [.ref (x 32), .ref (x 9), .ref (x 29), .int 0, .int 0, .int 0, .ref (x 36), .ref (x 37), .ref (x 38), .ref (x 39), .ref (x 40), .ref (x 41), .int 0])), ((x 32), .inr (9, [.ref (x 33), .ref (x 34), .ref (x 35), .int 0])), ((x 33), .inl (cy 0, 384, .inl (fun _ => 0))), ((x 34), .inl (cy 2, 384, .inr (.inl (fun _ => 0)))), ((x 35), .inl (cy 0, 96, .inl (fun _ => 0))), ((x 36), .inl (cy 0, 96, .inl (fun _ => 0))), ((x 38), .inl (cy 0, 96, .inl (fun _ => 0))), ((x 30), .inl (cy 6, 10, .inr (.inr (.inr (.inr (fun _ => none))))))]) (As := [.int p1, .int p2, .int p3, .int p4]) (rest := []) S (kX11_sheet l D cy x p1 p2 p3 p4 z1 h1 z2 h2 z3 h3 z4 h4) hK hP hD [0, 1, 2, 3, 4, 5, 6, 7, 8, 9, 10, 11] (by decide) rfl 0 10 rfl rfl kw_1260 kw_1261 kw_1262 kw_144 kw_1263 okX11_sheet rfl (by decide) hl.1 rfl (Nat.le_of_ble_eq_true rfl) dL_law_1566 (by decide)) hP hD hS hA [0, 1, 2, 3, 4, 5, 6, 7, 8, 9, 10, 11] [12, 13, 14, 15, 16, 17, 18, 19, 20, 21, 22, 23, 24] rfl rfl (by decide) (by decide) (fun v1566 u1566 H locs w1566 hP hD hS => ?_)
  have hP : va_P D vwCl [((q 0), .inr (11, (mO q 0 0 0 0 0 0 0 0 (-1) 1 0 0 0 0 0 0 0 0 0))), ((q 63), .inl (cy 0, 600, .inl (fun _ => 0))), ((q 64), .inl (cy 0, 600, .inl (fun _ => 0))), ((q 65), .inl (cy 0, 600, .inl (fun _ => 0))), ((q 66), .inl (cy 0, 600, .inl (fun _ => 0))), ((q 67), .inl (cy 0, 97, .inl (fun _ => 0))), ((q 68), .inl (cy 0, 97, .inl (fun _ => 0))), ((q 70), .inl (cy 1, 16, .inl (fun _ => 0))), ((q 71), .inl (cy 0, 16, .inl (fun _ => 0))), ((q 72), .inl (cy 2, 16, .inr (.inl (fun _ => 0)))), ((q 73), .inl (cy 1, 16, .inl (fun _ => 0))), ((q 74), .inl (cy 1, 16, .inl (fun _ => 0))), ((q 81), .inl (cy 0, 960, .inl (fun _ => 0)))] H := hP
  have hD : va_D A [((q 0), .inr (11, (mO q 0 0 0 0 0 0 0 0 (-1) 1 0 0 0 0 0 0 0 0 0))), ((q 63), .inl (cy 0, 600, .inl (fun _ => 0))), ((q 64), .inl (cy 0, 600, .inl (fun _ => 0))), ((q 65), .inl (cy 0, 600, .inl (fun _ => 0))), ((q 66), .inl (cy 0, 600, .inl (fun _ => 0))), ((q 67), .inl (cy 0, 97, .inl (fun _ => 0))), ((q 68), .inl (cy 0, 97, .inl (fun _ => 0))), ((q 70), .inl (cy 1, 16, .inl (fun _ => 0))), ((q 71), .inl (cy 0, 16, .inl (fun _ => 0))), ((q 72), .inl (cy 2, 16, .inr (.inl (fun _ => 0)))), ((q 73), .inl (cy 1, 16, .inl (fun _ => 0))), ((q 74), .inl (cy 1, 16, .inl (fun _ => 0))), ((q 81), .inl (cy 0, 960, .inl (fun _ => 0)))] := hD
  rcases w1566 with ⟨rfl, w1566_0_0⟩ | ⟨rfl, w1566_1_0⟩
  · refine lv_aload_n S.1 S.2.1 dL_law_1569 rfl (lv_at hl 2 rfl) ?_
    refine lv_aload_n S.1 S.2.1 dL_law_1570 rfl (lv_at hl 4 rfl) ?_
    refine lv_iload S.1 S.2.1 dL_law_1571 (lv_at hl 0 rfl) ?_
    refine lv_iconst (v := 1) S.1 S.2.1 dL_law_1573 (by decide) ?_
    refine r_iadd S dL_law_1574 (v := 1) (by decide) ?_
    refine r_sld S hX hbl hbA hS 1 (by decide) (by decide) (by decide) (v := p1) e1 dL_law_1575 ?_
    refine lv_aload_n S.1 S.2.1 dL_law_1576 rfl (lv_at hl 4 rfl) ?_
    refine lv_iload S.1 S.2.1 dL_law_1577 (lv_at hl 0 rfl) ?_
    refine lv_iconst (v := 2) S.1 S.2.1 dL_law_1579 (by decide) ?_
    refine r_iadd S dL_law_1580 (v := 2) (by decide) ?_
    refine r_sld S hX hbl hbA hS 2 (by decide) (by decide) (by decide) (v := p2) e2 dL_law_1581 ?_
    refine lv_aload_n S.1 S.2.1 dL_law_1582 rfl (lv_at hl 4 rfl) ?_
    refine lv_iload S.1 S.2.1 dL_law_1583 (lv_at hl 0 rfl) ?_
    refine lv_iconst (v := 3) S.1 S.2.1 dL_law_1585 (by decide) ?_
    refine r_iadd S dL_law_1586 (v := 3) (by decide) ?_
    refine r_sld S hX hbl hbA hS 3 (by decide) (by decide) (by decide) (v := p3) e3 dL_law_1587 ?_
    refine lv_aload_n S.1 S.2.1 dL_law_1588 rfl (lv_at hl 4 rfl) ?_
    refine lv_iload S.1 S.2.1 dL_law_1589 (lv_at hl 0 rfl) ?_
    refine lv_iconst (v := 4) S.1 S.2.1 dL_law_1591 (by decide) ?_
    refine r_iadd S dL_law_1592 (v := 4) (by decide) ?_
    refine r_sld S hX hbl hbA hS 4 (by decide) (by decide) (by decide) (v := p4) e4 dL_law_1593 ?_
    refine call_i (wr := []) (runV_C (wc := [((q 0), .inr (11, (mO q 0 0 0 0 0 0 0 0 (-1) 1 0 0 0 0 0 0 0 0 0))), ((q 63), .inl (cy 0, 600, .inl (fun _ => 0))), ((q 64), .inl (cy 0, 600, .inl (fun _ => 0))), ((q 65), .inl (cy 0, 600, .inl (fun _ => 0))), ((q 66), .inl (cy 0, 600, .inl (fun _ => 0))), ((q 67), .inl (cy 0, 97, .inl (fun _ => 0))), ((q 68), .inl (cy 0, 97, .inl (fun _ => 0))), ((q 70), .inl (cy 1, 16, .inl (fun _ => 0))), ((q 71), .inl (cy 0, 16, .inl (fun _ => 0))), ((q 72), .inl (cy 2, 16, .inr (.inl (fun _ => 0)))), ((q 73), .inl (cy 1, 16, .inl (fun _ => 0))), ((q 74), .inl (cy 1, 16, .inl (fun _ => 0))), ((q 81), .inl (cy 0, 960, .inl (fun _ => 0)))]) (As := [.int p1, .int p2, .int p3, .int p4]) (rest := [.int 0]) S (kX12_sheet l D cy q p1 p2 p3 p4 z1 h1 z2 h2 z3 h3 z4 h4) hK hP hD [0, 1, 2, 3, 4, 5, 6, 7, 8, 9, 10, 11, 12] (by decide) rfl 0 11 rfl rfl kw_2180 kw_2181 kw_2182 kw_152 kw_2183 okX12_sheet rfl (by decide) hl.1 rfl (Nat.le_of_ble_eq_true rfl) dL_law_1594 (by decide)) hP hD hS hA [0, 1, 2, 3, 4, 5, 6, 7, 8, 9, 10, 11, 12] [] rfl rfl (by decide) (by decide) (fun v1594 u1594 H locs w1594 hP hD hS => ?_)
    have hP : va_P D vwCl [] H := hP
    have hD : va_D A [] := hD
    rcases w1594 with ⟨rfl, w1594_0_0⟩ | ⟨rfl, w1594_1_0⟩
    · refine r_icmp_eq S 0 0 rfl rfl dL_law_1597 (tgt := 2008) (by decide) (fun _ => ?_) (fun c => absurd c (by decide))
      exact law_on S hr hlk hX hbl hbA hA2 hS (lv_sub hl [0, 4] rfl) (by decide) (by decide)
    · exfalso; omega
  · refine lv_aload_n S.1 S.2.1 dL_law_1569 rfl (lv_at hl 2 rfl) ?_
    refine lv_aload_n S.1 S.2.1 dL_law_1570 rfl (lv_at hl 4 rfl) ?_
    refine lv_iload S.1 S.2.1 dL_law_1571 (lv_at hl 0 rfl) ?_
    refine lv_iconst (v := 1) S.1 S.2.1 dL_law_1573 (by decide) ?_
    refine r_iadd S dL_law_1574 (v := 1) (by decide) ?_
    refine r_sld S hX hbl hbA hS 1 (by decide) (by decide) (by decide) (v := p1) e1 dL_law_1575 ?_
    refine lv_aload_n S.1 S.2.1 dL_law_1576 rfl (lv_at hl 4 rfl) ?_
    refine lv_iload S.1 S.2.1 dL_law_1577 (lv_at hl 0 rfl) ?_
    refine lv_iconst (v := 2) S.1 S.2.1 dL_law_1579 (by decide) ?_
    refine r_iadd S dL_law_1580 (v := 2) (by decide) ?_
    refine r_sld S hX hbl hbA hS 2 (by decide) (by decide) (by decide) (v := p2) e2 dL_law_1581 ?_
    refine lv_aload_n S.1 S.2.1 dL_law_1582 rfl (lv_at hl 4 rfl) ?_
    refine lv_iload S.1 S.2.1 dL_law_1583 (lv_at hl 0 rfl) ?_
    refine lv_iconst (v := 3) S.1 S.2.1 dL_law_1585 (by decide) ?_
    refine r_iadd S dL_law_1586 (v := 3) (by decide) ?_
    refine r_sld S hX hbl hbA hS 3 (by decide) (by decide) (by decide) (v := p3) e3 dL_law_1587 ?_
    refine lv_aload_n S.1 S.2.1 dL_law_1588 rfl (lv_at hl 4 rfl) ?_
    refine lv_iload S.1 S.2.1 dL_law_1589 (lv_at hl 0 rfl) ?_
    refine lv_iconst (v := 4) S.1 S.2.1 dL_law_1591 (by decide) ?_
    refine r_iadd S dL_law_1592 (v := 4) (by decide) ?_
    refine r_sld S hX hbl hbA hS 4 (by decide) (by decide) (by decide) (v := p4) e4 dL_law_1593 ?_
    refine call_i (wr := []) (runV_C (wc := [((q 0), .inr (11, (mO q 0 0 0 0 0 0 0 0 (-1) 1 0 0 0 0 0 0 0 0 0))), ((q 63), .inl (cy 0, 600, .inl (fun _ => 0))), ((q 64), .inl (cy 0, 600, .inl (fun _ => 0))), ((q 65), .inl (cy 0, 600, .inl (fun _ => 0))), ((q 66), .inl (cy 0, 600, .inl (fun _ => 0))), ((q 67), .inl (cy 0, 97, .inl (fun _ => 0))), ((q 68), .inl (cy 0, 97, .inl (fun _ => 0))), ((q 70), .inl (cy 1, 16, .inl (fun _ => 0))), ((q 71), .inl (cy 0, 16, .inl (fun _ => 0))), ((q 72), .inl (cy 2, 16, .inr (.inl (fun _ => 0)))), ((q 73), .inl (cy 1, 16, .inl (fun _ => 0))), ((q 74), .inl (cy 1, 16, .inl (fun _ => 0))), ((q 81), .inl (cy 0, 960, .inl (fun _ => 0)))]) (As := [.int p1, .int p2, .int p3, .int p4]) (rest := [.int (-1)]) S (kX12_sheet l D cy q p1 p2 p3 p4 z1 h1 z2 h2 z3 h3 z4 h4) hK hP hD [0, 1, 2, 3, 4, 5, 6, 7, 8, 9, 10, 11, 12] (by decide) rfl 0 11 rfl rfl kw_2180 kw_2181 kw_2182 kw_152 kw_2183 okX12_sheet rfl (by decide) hl.1 rfl (Nat.le_of_ble_eq_true rfl) dL_law_1594 (by decide)) hP hD hS hA [0, 1, 2, 3, 4, 5, 6, 7, 8, 9, 10, 11, 12] [] rfl rfl (by decide) (by decide) (fun v1594 u1594 H locs w1594 hP hD hS => ?_)
    have hP : va_P D vwCl [] H := hP
    have hD : va_D A [] := hD
    rcases w1594 with ⟨rfl, w1594_0_0⟩ | ⟨rfl, w1594_1_0⟩
    · exfalso; omega
    · refine r_icmp_eq S (-1) (-1) rfl rfl dL_law_1597 (tgt := 2008) (by decide) (fun _ => ?_) (fun c => absurd c (by decide))
      exact law_on S hr hlk hX hbl hbA hA2 hS (lv_sub hl [0, 4] rfl) (by decide) (by decide)
set_option maxHeartbeats 4000000 in
set_option maxRecDepth 100000 in
theorem law_c25 (l : Launch) (hst : l.stackTraces = false) {p : Program} {e : Env} {s : State} {m : MethodId} {below : List Frame} {meth : Method} {c : Code} {H : Heap} {locs : List Loc} {ls : Array Slot} {D : va_G} {cy : Nat → ClassId} {b : Nat} {xs : Nat → Int32} {A : Nat → Prop} {x q : Nat → Nat} {o : Nat} (S : CallFix p m c cL_law 7 s #[Value.ref b] uu "LandSurveyLaw") (hr : meth.sig.returnType = ret) (hlk : meth.locks = false) (hX : va_X b 8 xs s s.heap) (hbl : b < s.heap.size) (hbA : ¬ A b) (hA : ∀ q : Nat, s.heap.size ≤ q → A q) (hA2 : ∀ q : Nat, A q → s.heap.size ≤ q) (hK : KX D cy s) (hE : Ey s) (hZ : Zs A s s.heap) (hP : va_P D vwCl [((x 0), .inr (10, [.int 0, .int (-1), .ref (x 1), .ref (x 9), .int 0, .ref (x 10), .ref (x 13), .ref (x 16), .ref (x 29), .int 0, .int 0, .ref (x 30), .int 0, .ref (x 31), .ref (x 42), .int 0, .int 0, .null, .ref (x 43)])), ((q 0), .inr (11, (mO q 0 0 0 0 0 0 0 0 (-1) 1 0 0 0 0 0 0 0 0 0)))] H) (hD : va_D A [((x 0), .inr (10, [.int 0, .int (-1), .ref (x 1), .ref (x 9), .int 0, .ref (x 10), .ref (x 13), .ref (x 16), .ref (x 29), .int 0, .int 0, .ref (x 30), .int 0, .ref (x 31), .ref (x 42), .int 0, .int 0, .null, .ref (x 43)])), ((q 0), .inr (11, (mO q 0 0 0 0 0 0 0 0 (-1) 1 0 0 0 0 0 0 0 0 0)))]) (hS : va_S A s.heap H locs) (hl : lv_has ls 7 [(4, .int 0), (3, .ref o), (2, .ref (q 0)), (1, .ref (x 0)), (0, .ref b)]) : W p l e room_1 s m #[Value.ref b] below meth c H locs 114 51906 (lw_Z below #[Value.ref b] s) (F0 m 1602 ls []) := by
  obtain ⟨p1, e1⟩ : ∃ y, xs 1 = y := ⟨_, rfl⟩
  obtain ⟨z1, h1⟩ : ∃ z, p1.toInt = z := ⟨_, rfl⟩
  obtain ⟨p2, e2⟩ : ∃ y, xs 2 = y := ⟨_, rfl⟩
  obtain ⟨z2, h2⟩ : ∃ z, p2.toInt = z := ⟨_, rfl⟩
  obtain ⟨p3, e3⟩ : ∃ y, xs 3 = y := ⟨_, rfl⟩
  obtain ⟨z3, h3⟩ : ∃ z, p3.toInt = z := ⟨_, rfl⟩
  obtain ⟨p4, e4⟩ : ∃ y, xs 4 = y := ⟨_, rfl⟩
  obtain ⟨z4, h4⟩ : ∃ z, p4.toInt = z := ⟨_, rfl⟩
  obtain ⟨p5, e5⟩ : ∃ y, xs 5 = y := ⟨_, rfl⟩
  obtain ⟨z5, h5⟩ : ∃ z, p5.toInt = z := ⟨_, rfl⟩
  obtain ⟨p6, e6⟩ : ∃ y, xs 6 = y := ⟨_, rfl⟩
  obtain ⟨z6, h6⟩ : ∃ z, p6.toInt = z := ⟨_, rfl⟩
  obtain ⟨p7, e7⟩ : ∃ y, xs 7 = y := ⟨_, rfl⟩
  obtain ⟨z7, h7⟩ : ∃ z, p7.toInt = z := ⟨_, rfl⟩
  refine lv_aload_n S.1 S.2.1 dL_law_1602 rfl (lv_at hl 3 rfl) ?_
  refine lv_aload_n S.1 S.2.1 dL_law_1603 rfl (lv_at hl 4 rfl) ?_
  refine lv_iload S.1 S.2.1 dL_law_1604 (lv_at hl 0 rfl) ?_
  refine lv_iconst (v := 1) S.1 S.2.1 dL_law_1606 (by decide) ?_
  refine r_iadd S dL_law_1607 (v := 1) (by decide) ?_
  refine r_sld S hX hbl hbA hS 1 (by decide) (by decide) (by decide) (v := p1) e1 dL_law_1608 ?_
  refine lv_aload_n S.1 S.2.1 dL_law_1609 rfl (lv_at hl 4 rfl) ?_
  refine lv_iload S.1 S.2.1 dL_law_1610 (lv_at hl 0 rfl) ?_
  refine lv_iconst (v := 2) S.1 S.2.1 dL_law_1612 (by decide) ?_
  refine r_iadd S dL_law_1613 (v := 2) (by decide) ?_
  refine r_sld S hX hbl hbA hS 2 (by decide) (by decide) (by decide) (v := p2) e2 dL_law_1614 ?_
  refine lv_aload_n S.1 S.2.1 dL_law_1615 rfl (lv_at hl 4 rfl) ?_
  refine lv_iload S.1 S.2.1 dL_law_1616 (lv_at hl 0 rfl) ?_
  refine lv_iconst (v := 3) S.1 S.2.1 dL_law_1618 (by decide) ?_
  refine r_iadd S dL_law_1619 (v := 3) (by decide) ?_
  refine r_sld S hX hbl hbA hS 3 (by decide) (by decide) (by decide) (v := p3) e3 dL_law_1620 ?_
  refine call_i (wr := [((q 0), .inr (11, (mO q 0 0 0 0 0 0 0 0 (-1) 1 0 0 0 0 0 0 0 0 0)))]) (runV_C (wc := [((x 0), .inr (10, [.int 0, .int (-1), .ref (x 1), .ref (x 9), .int 0, .ref (x 10), .ref (x 13), .ref (x 16), .ref (x 29), .int 0, .int 0, .ref (x 30), .int 0, .ref (x 31), .ref (x 42), .int 0, .int 0, .null, .ref (x 43)]))]) (As := [.int p1, .int p2, .int p3]) (rest := []) S (kX11_drawn l D cy x p1 p2 p3 z1 h1 z2 h2 z3 h3) hK hP hD [0] (by decide) rfl 0 10 rfl rfl kw_1275 kw_1276 kw_1277 kw_144 kw_1278 okX11_drawn rfl (by decide) hl.1 rfl (Nat.le_of_ble_eq_true rfl) dL_law_1621 (by decide)) hP hD hS hA [0] [1] rfl rfl (by decide) (by decide) (fun v1621 u1621 H locs w1621 hP hD hS => ?_)
  have hP : va_P D vwCl [((q 0), .inr (11, (mO q 0 0 0 0 0 0 0 0 (-1) 1 0 0 0 0 0 0 0 0 0)))] H := hP
  have hD : va_D A [((q 0), .inr (11, (mO q 0 0 0 0 0 0 0 0 (-1) 1 0 0 0 0 0 0 0 0 0)))] := hD
  subst w1621
  refine lv_aload_n S.1 S.2.1 dL_law_1624 rfl (lv_at hl 2 rfl) ?_
  refine lv_aload_n S.1 S.2.1 dL_law_1625 rfl (lv_at hl 4 rfl) ?_
  refine lv_iload S.1 S.2.1 dL_law_1626 (lv_at hl 0 rfl) ?_
  refine lv_iconst (v := 1) S.1 S.2.1 dL_law_1628 (by decide) ?_
  refine r_iadd S dL_law_1629 (v := 1) (by decide) ?_
  refine r_sld S hX hbl hbA hS 1 (by decide) (by decide) (by decide) (v := p1) e1 dL_law_1630 ?_
  refine lv_aload_n S.1 S.2.1 dL_law_1631 rfl (lv_at hl 4 rfl) ?_
  refine lv_iload S.1 S.2.1 dL_law_1632 (lv_at hl 0 rfl) ?_
  refine lv_iconst (v := 2) S.1 S.2.1 dL_law_1634 (by decide) ?_
  refine r_iadd S dL_law_1635 (v := 2) (by decide) ?_
  refine r_sld S hX hbl hbA hS 2 (by decide) (by decide) (by decide) (v := p2) e2 dL_law_1636 ?_
  refine lv_aload_n S.1 S.2.1 dL_law_1637 rfl (lv_at hl 4 rfl) ?_
  refine lv_iload S.1 S.2.1 dL_law_1638 (lv_at hl 0 rfl) ?_
  refine lv_iconst (v := 3) S.1 S.2.1 dL_law_1640 (by decide) ?_
  refine r_iadd S dL_law_1641 (v := 3) (by decide) ?_
  refine r_sld S hX hbl hbA hS 3 (by decide) (by decide) (by decide) (v := p3) e3 dL_law_1642 ?_
  refine call_i (wr := []) (runV_C (wc := [((q 0), .inr (11, (mO q 0 0 0 0 0 0 0 0 (-1) 1 0 0 0 0 0 0 0 0 0)))]) (As := [.int p1, .int p2, .int p3]) (rest := [.int (-1)]) S (kX12_drawn l D cy q p1 p2 p3 z1 h1 z2 h2 z3 h3) hK hP hD [0] (by decide) rfl 0 11 rfl rfl kw_2184 kw_2185 kw_2186 kw_152 kw_2187 okX12_drawn rfl (by decide) hl.1 rfl (Nat.le_of_ble_eq_true rfl) dL_law_1643 (by decide)) hP hD hS hA [0] [] rfl rfl (by decide) (by decide) (fun v1643 u1643 H locs w1643 hP hD hS => ?_)
  have hP : va_P D vwCl [] H := hP
  have hD : va_D A [] := hD
  subst w1643
  refine r_icmp_eq S (-1) (-1) rfl rfl dL_law_1646 (tgt := 2008) (by decide) (fun _ => ?_) (fun c => absurd c (by decide))
  exact law_on S hr hlk hX hbl hbA hA2 hS (lv_sub hl [0, 4] rfl) (by decide) (by decide)
set_option maxHeartbeats 4000000 in
set_option maxRecDepth 100000 in
theorem law_c26 (l : Launch) (hst : l.stackTraces = false) {p : Program} {e : Env} {s : State} {m : MethodId} {below : List Frame} {meth : Method} {c : Code} {H : Heap} {locs : List Loc} {ls : Array Slot} {D : va_G} {cy : Nat → ClassId} {b : Nat} {xs : Nat → Int32} {A : Nat → Prop} {x q : Nat → Nat} {o : Nat} (S : CallFix p m c cL_law 7 s #[Value.ref b] uu "LandSurveyLaw") (hr : meth.sig.returnType = ret) (hlk : meth.locks = false) (hX : va_X b 8 xs s s.heap) (hbl : b < s.heap.size) (hbA : ¬ A b) (hA : ∀ q : Nat, s.heap.size ≤ q → A q) (hA2 : ∀ q : Nat, A q → s.heap.size ≤ q) (hK : KX D cy s) (hE : Ey s) (hZ : Zs A s s.heap) (hP : va_P D vwCl [((x 0), .inr (10, [.int 0, .int (-1), .ref (x 1), .ref (x 9), .int 0, .ref (x 10), .ref (x 13), .ref (x 16), .ref (x 29), .int 0, .int 0, .ref (x 30), .int 0, .ref (x 31), .ref (x 42), .int 0, .int 0, .null, .ref (x 43)])), ((q 0), .inr (11, (mO q 0 0 0 0 0 0 0 0 (-1) 1 0 0 0 0 0 0 0 0 0)))] H) (hD : va_D A [((x 0), .inr (10, [.int 0, .int (-1), .ref (x 1), .ref (x 9), .int 0, .ref (x 10), .ref (x 13), .ref (x 16), .ref (x 29), .int 0, .int 0, .ref (x 30), .int 0, .ref (x 31), .ref (x 42), .int 0, .int 0, .null, .ref (x 43)])), ((q 0), .inr (11, (mO q 0 0 0 0 0 0 0 0 (-1) 1 0 0 0 0 0 0 0 0 0)))]) (hS : va_S A s.heap H locs) (hl : lv_has ls 7 [(4, .int 0), (3, .ref o), (2, .ref (q 0)), (1, .ref (x 0)), (0, .ref b)]) : W p l e room_1 s m #[Value.ref b] below meth c H locs 114 51906 (lw_Z below #[Value.ref b] s) (F0 m 1651 ls []) := by
  obtain ⟨p1, e1⟩ : ∃ y, xs 1 = y := ⟨_, rfl⟩
  obtain ⟨z1, h1⟩ : ∃ z, p1.toInt = z := ⟨_, rfl⟩
  obtain ⟨p2, e2⟩ : ∃ y, xs 2 = y := ⟨_, rfl⟩
  obtain ⟨z2, h2⟩ : ∃ z, p2.toInt = z := ⟨_, rfl⟩
  obtain ⟨p3, e3⟩ : ∃ y, xs 3 = y := ⟨_, rfl⟩
  obtain ⟨z3, h3⟩ : ∃ z, p3.toInt = z := ⟨_, rfl⟩
  obtain ⟨p4, e4⟩ : ∃ y, xs 4 = y := ⟨_, rfl⟩
  obtain ⟨z4, h4⟩ : ∃ z, p4.toInt = z := ⟨_, rfl⟩
  obtain ⟨p5, e5⟩ : ∃ y, xs 5 = y := ⟨_, rfl⟩
  obtain ⟨z5, h5⟩ : ∃ z, p5.toInt = z := ⟨_, rfl⟩
  obtain ⟨p6, e6⟩ : ∃ y, xs 6 = y := ⟨_, rfl⟩
  obtain ⟨z6, h6⟩ : ∃ z, p6.toInt = z := ⟨_, rfl⟩
  obtain ⟨p7, e7⟩ : ∃ y, xs 7 = y := ⟨_, rfl⟩
  obtain ⟨z7, h7⟩ : ∃ z, p7.toInt = z := ⟨_, rfl⟩
  refine lv_aload_n S.1 S.2.1 dL_law_1651 rfl (lv_at hl 3 rfl) ?_
  refine lv_aload_n S.1 S.2.1 dL_law_1652 rfl (lv_at hl 4 rfl) ?_
  refine lv_iload S.1 S.2.1 dL_law_1653 (lv_at hl 0 rfl) ?_
  refine lv_iconst (v := 1) S.1 S.2.1 dL_law_1655 (by decide) ?_
  refine r_iadd S dL_law_1656 (v := 1) (by decide) ?_
  refine r_sld S hX hbl hbA hS 1 (by decide) (by decide) (by decide) (v := p1) e1 dL_law_1657 ?_
  refine lv_aload_n S.1 S.2.1 dL_law_1658 rfl (lv_at hl 4 rfl) ?_
  refine lv_iload S.1 S.2.1 dL_law_1659 (lv_at hl 0 rfl) ?_
  refine lv_iconst (v := 2) S.1 S.2.1 dL_law_1661 (by decide) ?_
  refine r_iadd S dL_law_1662 (v := 2) (by decide) ?_
  refine r_sld S hX hbl hbA hS 2 (by decide) (by decide) (by decide) (v := p2) e2 dL_law_1663 ?_
  refine call_i (wr := [((q 0), .inr (11, (mO q 0 0 0 0 0 0 0 0 (-1) 1 0 0 0 0 0 0 0 0 0)))]) (runV_C (wc := [((x 0), .inr (10, [.int 0, .int (-1), .ref (x 1), .ref (x 9), .int 0, .ref (x 10), .ref (x 13), .ref (x 16), .ref (x 29), .int 0, .int 0, .ref (x 30), .int 0, .ref (x 31), .ref (x 42), .int 0, .int 0, .null, .ref (x 43)]))]) (As := [.int p1, .int p2]) (rest := []) S (kX11_quarrel l D cy x p1 p2 z1 h1 z2 h2) hK hP hD [0] (by decide) rfl 0 10 rfl rfl kw_1283 kw_1284 kw_1285 kw_144 kw_1286 okX11_quarrel rfl (by decide) hl.1 rfl (Nat.le_of_ble_eq_true rfl) dL_law_1664 (by decide)) hP hD hS hA [0] [1] rfl rfl (by decide) (by decide) (fun v1664 u1664 H locs w1664 hP hD hS => ?_)
  have hP : va_P D vwCl [((q 0), .inr (11, (mO q 0 0 0 0 0 0 0 0 (-1) 1 0 0 0 0 0 0 0 0 0)))] H := hP
  have hD : va_D A [((q 0), .inr (11, (mO q 0 0 0 0 0 0 0 0 (-1) 1 0 0 0 0 0 0 0 0 0)))] := hD
  subst w1664
  refine lv_aload_n S.1 S.2.1 dL_law_1667 rfl (lv_at hl 2 rfl) ?_
  refine lv_aload_n S.1 S.2.1 dL_law_1668 rfl (lv_at hl 4 rfl) ?_
  refine lv_iload S.1 S.2.1 dL_law_1669 (lv_at hl 0 rfl) ?_
  refine lv_iconst (v := 1) S.1 S.2.1 dL_law_1671 (by decide) ?_
  refine r_iadd S dL_law_1672 (v := 1) (by decide) ?_
  refine r_sld S hX hbl hbA hS 1 (by decide) (by decide) (by decide) (v := p1) e1 dL_law_1673 ?_
  refine lv_aload_n S.1 S.2.1 dL_law_1674 rfl (lv_at hl 4 rfl) ?_
  refine lv_iload S.1 S.2.1 dL_law_1675 (lv_at hl 0 rfl) ?_
  refine lv_iconst (v := 2) S.1 S.2.1 dL_law_1677 (by decide) ?_
  refine r_iadd S dL_law_1678 (v := 2) (by decide) ?_
  refine r_sld S hX hbl hbA hS 2 (by decide) (by decide) (by decide) (v := p2) e2 dL_law_1679 ?_
  refine call_i (wr := []) (runV_C (wc := [((q 0), .inr (11, (mO q 0 0 0 0 0 0 0 0 (-1) 1 0 0 0 0 0 0 0 0 0)))]) (As := [.int p1, .int p2]) (rest := [.int (-1)]) S (kX12_quarrel l D cy q p1 p2 z1 h1 z2 h2) hK hP hD [0] (by decide) rfl 0 11 rfl rfl kw_2192 kw_2193 kw_2194 kw_152 kw_2195 okX12_quarrel rfl (by decide) hl.1 rfl (Nat.le_of_ble_eq_true rfl) dL_law_1680 (by decide)) hP hD hS hA [0] [] rfl rfl (by decide) (by decide) (fun v1680 u1680 H locs w1680 hP hD hS => ?_)
  have hP : va_P D vwCl [] H := hP
  have hD : va_D A [] := hD
  subst w1680
  refine r_icmp_eq S (-1) (-1) rfl rfl dL_law_1683 (tgt := 2008) (by decide) (fun _ => ?_) (fun c => absurd c (by decide))
  exact law_on S hr hlk hX hbl hbA hA2 hS (lv_sub hl [0, 4] rfl) (by decide) (by decide)
set_option maxHeartbeats 4000000 in
set_option maxRecDepth 100000 in
theorem law_c27 (l : Launch) (hst : l.stackTraces = false) {p : Program} {e : Env} {s : State} {m : MethodId} {below : List Frame} {meth : Method} {c : Code} {H : Heap} {locs : List Loc} {ls : Array Slot} {D : va_G} {cy : Nat → ClassId} {b : Nat} {xs : Nat → Int32} {A : Nat → Prop} {x q : Nat → Nat} {o : Nat} (S : CallFix p m c cL_law 7 s #[Value.ref b] uu "LandSurveyLaw") (hr : meth.sig.returnType = ret) (hlk : meth.locks = false) (hX : va_X b 8 xs s s.heap) (hbl : b < s.heap.size) (hbA : ¬ A b) (hA : ∀ q : Nat, s.heap.size ≤ q → A q) (hA2 : ∀ q : Nat, A q → s.heap.size ≤ q) (hK : KX D cy s) (hE : Ey s) (hZ : Zs A s s.heap) (hP : va_P D vwCl [((x 0), .inr (10, [.int 0, .int (-1), .ref (x 1), .ref (x 9), .int 0, .ref (x 10), .ref (x 13), .ref (x 16), .ref (x 29), .int 0, .int 0, .ref (x 30), .int 0, .ref (x 31), .ref (x 42), .int 0, .int 0, .null, .ref (x 43)])), ((q 0), .inr (11, (mO q 0 0 0 0 0 0 0 0 (-1) 1 0 0 0 0 0 0 0 0 0))), ((q 63), .inl (cy 0, 600, .inl (fun _ => 0))), ((q 64), .inl (cy 0, 600, .inl (fun _ => 0))), ((q 65), .inl (cy 0, 600, .inl (fun _ => 0))), ((q 66), .inl (cy 0, 600, .inl (fun _ => 0))), ((q 67), .inl (cy 0, 97, .inl (fun _ => 0))), ((q 68), .inl (cy 0, 97, .inl (fun _ => 0))), ((q 70), .inl (cy 1, 16, .inl (fun _ => 0))), ((q 71), .inl (cy 0, 16, .inl (fun _ => 0))), ((q 72), .inl (cy 2, 16, .inr (.inl (fun _ => 0)))), ((q 73), .inl (cy 1, 16, .inl (fun _ => 0))), ((q 74), .inl (cy 1, 16, .inl (fun _ => 0)))] H) (hD : va_D A [((x 0), .inr (10, [.int 0, .int (-1), .ref (x 1), .ref (x 9), .int 0, .ref (x 10), .ref (x 13), .ref (x 16), .ref (x 29), .int 0, .int 0, .ref (x 30), .int 0, .ref (x 31), .ref (x 42), .int 0, .int 0, .null, .ref (x 43)])), ((q 0), .inr (11, (mO q 0 0 0 0 0 0 0 0 (-1) 1 0 0 0 0 0 0 0 0 0))), ((q 63), .inl (cy 0, 600, .inl (fun _ => 0))), ((q 64), .inl (cy 0, 600, .inl (fun _ => 0))), ((q 65), .inl (cy 0, 600, .inl (fun _ => 0))), ((q 66), .inl (cy 0, 600, .inl (fun _ => 0))), ((q 67), .inl (cy 0, 97, .inl (fun _ => 0))), ((q 68), .inl (cy 0, 97, .inl (fun _ => 0))), ((q 70), .inl (cy 1, 16, .inl (fun _ => 0))), ((q 71), .inl (cy 0, 16, .inl (fun _ => 0))), ((q 72), .inl (cy 2, 16, .inr (.inl (fun _ => 0)))), ((q 73), .inl (cy 1, 16, .inl (fun _ => 0))), ((q 74), .inl (cy 1, 16, .inl (fun _ => 0)))]) (hS : va_S A s.heap H locs) (hl : lv_has ls 7 [(4, .int 0), (3, .ref o), (2, .ref (q 0)), (1, .ref (x 0)), (0, .ref b)]) : W p l e room_1 s m #[Value.ref b] below meth c H locs 114 51906 (lw_Z below #[Value.ref b] s) (F0 m 1688 ls []) := by
  obtain ⟨p1, e1⟩ : ∃ y, xs 1 = y := ⟨_, rfl⟩
  obtain ⟨z1, h1⟩ : ∃ z, p1.toInt = z := ⟨_, rfl⟩
  obtain ⟨p2, e2⟩ : ∃ y, xs 2 = y := ⟨_, rfl⟩
  obtain ⟨z2, h2⟩ : ∃ z, p2.toInt = z := ⟨_, rfl⟩
  obtain ⟨p3, e3⟩ : ∃ y, xs 3 = y := ⟨_, rfl⟩
  obtain ⟨z3, h3⟩ : ∃ z, p3.toInt = z := ⟨_, rfl⟩
  obtain ⟨p4, e4⟩ : ∃ y, xs 4 = y := ⟨_, rfl⟩
  obtain ⟨z4, h4⟩ : ∃ z, p4.toInt = z := ⟨_, rfl⟩
  obtain ⟨p5, e5⟩ : ∃ y, xs 5 = y := ⟨_, rfl⟩
  obtain ⟨z5, h5⟩ : ∃ z, p5.toInt = z := ⟨_, rfl⟩
  obtain ⟨p6, e6⟩ : ∃ y, xs 6 = y := ⟨_, rfl⟩
  obtain ⟨z6, h6⟩ : ∃ z, p6.toInt = z := ⟨_, rfl⟩
  obtain ⟨p7, e7⟩ : ∃ y, xs 7 = y := ⟨_, rfl⟩
  obtain ⟨z7, h7⟩ : ∃ z, p7.toInt = z := ⟨_, rfl⟩
  refine lv_aload_n S.1 S.2.1 dL_law_1688 rfl (lv_at hl 3 rfl) ?_
  refine lv_aload_n S.1 S.2.1 dL_law_1689 rfl (lv_at hl 4 rfl) ?_
  refine lv_iload S.1 S.2.1 dL_law_1690 (lv_at hl 0 rfl) ?_
  refine lv_iconst (v := 1) S.1 S.2.1 dL_law_1692 (by decide) ?_
  refine r_iadd S dL_law_1693 (v := 1) (by decide) ?_
  refine r_sld S hX hbl hbA hS 1 (by decide) (by decide) (by decide) (v := p1) e1 dL_law_1694 ?_
  refine call_i (wr := [((q 0), .inr (11, (mO q 0 0 0 0 0 0 0 0 (-1) 1 0 0 0 0 0 0 0 0 0))), ((q 63), .inl (cy 0, 600, .inl (fun _ => 0))), ((q 64), .inl (cy 0, 600, .inl (fun _ => 0))), ((q 65), .inl (cy 0, 600, .inl (fun _ => 0))), ((q 66), .inl (cy 0, 600, .inl (fun _ => 0))), ((q 67), .inl (cy 0, 97, .inl (fun _ => 0))), ((q 68), .inl (cy 0, 97, .inl (fun _ => 0))), ((q 70), .inl (cy 1, 16, .inl (fun _ => 0))), ((q 71), .inl (cy 0, 16, .inl (fun _ => 0))), ((q 72), .inl (cy 2, 16, .inr (.inl (fun _ => 0)))), ((q 73), .inl (cy 1, 16, .inl (fun _ => 0))), ((q 74), .inl (cy 1, 16, .inl (fun _ => 0)))]) (runV_C (wc := [((x 0), .inr (10, [.int 0, .int (-1), .ref (x 1), .ref (x 9), .int 0, .ref (x 10), .ref (x 13), .ref (x 16), .ref (x 29), .int 0, .int 0, .ref (x 30), .int 0, .ref (x 31), .ref (x 42), .int 0, .int 0, .null, .ref (x 43)]))]) (As := [.int p1]) (rest := []) S (kX11_stale l D cy x p1 z1 h1) hK hP hD [0] (by decide) rfl 0 10 rfl rfl kw_1287 kw_1288 kw_1289 kw_144 kw_1290 okX11_stale rfl (by decide) hl.1 rfl (Nat.le_of_ble_eq_true rfl) dL_law_1695 (by decide)) hP hD hS hA [0] [1, 2, 3, 4, 5, 6, 7, 8, 9, 10, 11, 12] rfl rfl (by decide) (by decide) (fun v1695 u1695 H locs w1695 hP hD hS => ?_)
  have hP : va_P D vwCl [((q 0), .inr (11, (mO q 0 0 0 0 0 0 0 0 (-1) 1 0 0 0 0 0 0 0 0 0))), ((q 63), .inl (cy 0, 600, .inl (fun _ => 0))), ((q 64), .inl (cy 0, 600, .inl (fun _ => 0))), ((q 65), .inl (cy 0, 600, .inl (fun _ => 0))), ((q 66), .inl (cy 0, 600, .inl (fun _ => 0))), ((q 67), .inl (cy 0, 97, .inl (fun _ => 0))), ((q 68), .inl (cy 0, 97, .inl (fun _ => 0))), ((q 70), .inl (cy 1, 16, .inl (fun _ => 0))), ((q 71), .inl (cy 0, 16, .inl (fun _ => 0))), ((q 72), .inl (cy 2, 16, .inr (.inl (fun _ => 0)))), ((q 73), .inl (cy 1, 16, .inl (fun _ => 0))), ((q 74), .inl (cy 1, 16, .inl (fun _ => 0)))] H := hP
  have hD : va_D A [((q 0), .inr (11, (mO q 0 0 0 0 0 0 0 0 (-1) 1 0 0 0 0 0 0 0 0 0))), ((q 63), .inl (cy 0, 600, .inl (fun _ => 0))), ((q 64), .inl (cy 0, 600, .inl (fun _ => 0))), ((q 65), .inl (cy 0, 600, .inl (fun _ => 0))), ((q 66), .inl (cy 0, 600, .inl (fun _ => 0))), ((q 67), .inl (cy 0, 97, .inl (fun _ => 0))), ((q 68), .inl (cy 0, 97, .inl (fun _ => 0))), ((q 70), .inl (cy 1, 16, .inl (fun _ => 0))), ((q 71), .inl (cy 0, 16, .inl (fun _ => 0))), ((q 72), .inl (cy 2, 16, .inr (.inl (fun _ => 0)))), ((q 73), .inl (cy 1, 16, .inl (fun _ => 0))), ((q 74), .inl (cy 1, 16, .inl (fun _ => 0)))] := hD
  subst w1695
  refine lv_aload_n S.1 S.2.1 dL_law_1698 rfl (lv_at hl 2 rfl) ?_
  refine lv_aload_n S.1 S.2.1 dL_law_1699 rfl (lv_at hl 4 rfl) ?_
  refine lv_iload S.1 S.2.1 dL_law_1700 (lv_at hl 0 rfl) ?_
  refine lv_iconst (v := 1) S.1 S.2.1 dL_law_1702 (by decide) ?_
  refine r_iadd S dL_law_1703 (v := 1) (by decide) ?_
  refine r_sld S hX hbl hbA hS 1 (by decide) (by decide) (by decide) (v := p1) e1 dL_law_1704 ?_
  refine call_i (wr := []) (runV_C (wc := [((q 0), .inr (11, (mO q 0 0 0 0 0 0 0 0 (-1) 1 0 0 0 0 0 0 0 0 0))), ((q 63), .inl (cy 0, 600, .inl (fun _ => 0))), ((q 64), .inl (cy 0, 600, .inl (fun _ => 0))), ((q 65), .inl (cy 0, 600, .inl (fun _ => 0))), ((q 66), .inl (cy 0, 600, .inl (fun _ => 0))), ((q 67), .inl (cy 0, 97, .inl (fun _ => 0))), ((q 68), .inl (cy 0, 97, .inl (fun _ => 0))), ((q 70), .inl (cy 1, 16, .inl (fun _ => 0))), ((q 71), .inl (cy 0, 16, .inl (fun _ => 0))), ((q 72), .inl (cy 2, 16, .inr (.inl (fun _ => 0)))), ((q 73), .inl (cy 1, 16, .inl (fun _ => 0))), ((q 74), .inl (cy 1, 16, .inl (fun _ => 0)))]) (As := [.int p1]) (rest := [.int (-1)]) S (kX12_stale l D cy q p1 z1 h1) hK hP hD [0, 1, 2, 3, 4, 5, 6, 7, 8, 9, 10, 11] (by decide) rfl 0 11 rfl rfl kw_2196 kw_2197 kw_2198 kw_152 kw_2199 okX12_stale rfl (by decide) hl.1 rfl (Nat.le_of_ble_eq_true rfl) dL_law_1705 (by decide)) hP hD hS hA [0, 1, 2, 3, 4, 5, 6, 7, 8, 9, 10, 11] [] rfl rfl (by decide) (by decide) (fun v1705 u1705 H locs w1705 hP hD hS => ?_)
  have hP : va_P D vwCl [] H := hP
  have hD : va_D A [] := hD
  subst w1705
  refine r_icmp_eq S (-1) (-1) rfl rfl dL_law_1708 (tgt := 2008) (by decide) (fun _ => ?_) (fun c => absurd c (by decide))
  exact law_on S hr hlk hX hbl hbA hA2 hS (lv_sub hl [0, 4] rfl) (by decide) (by decide)
set_option maxHeartbeats 4000000 in
set_option maxRecDepth 100000 in
theorem law_c28 (l : Launch) (hst : l.stackTraces = false) {p : Program} {e : Env} {s : State} {m : MethodId} {below : List Frame} {meth : Method} {c : Code} {H : Heap} {locs : List Loc} {ls : Array Slot} {D : va_G} {cy : Nat → ClassId} {b : Nat} {xs : Nat → Int32} {A : Nat → Prop} {x q : Nat → Nat} {o : Nat} (S : CallFix p m c cL_law 7 s #[Value.ref b] uu "LandSurveyLaw") (hr : meth.sig.returnType = ret) (hlk : meth.locks = false) (hX : va_X b 8 xs s s.heap) (hbl : b < s.heap.size) (hbA : ¬ A b) (hA : ∀ q : Nat, s.heap.size ≤ q → A q) (hA2 : ∀ q : Nat, A q → s.heap.size ≤ q) (hK : KX D cy s) (hE : Ey s) (hZ : Zs A s s.heap) (hP : va_P D vwCl [((x 0), .inr (10, [.int 0, .int (-1), .ref (x 1), .ref (x 9), .int 0, .ref (x 10), .ref (x 13), .ref (x 16), .ref (x 29), .int 0, .int 0, .ref (x 30), .int 0, .ref (x 31), .ref (x 42), .int 0, .int 0, .null, .ref (x 43)])), ((x 13), .inr (4, [.ref (x 14), .ref (x 15), .int 0, .ref (x 16)])), ((x 16), .inr (5, [.int 0, .ref (x 17), .ref (x 18), .ref (x 19), .ref (x 20), .ref (x 21), .int 0, .int 10, .int 20, .int 0, .int 0, .ref (x 22), .ref (x 23), .int 0, .ref (x 24), .ref (x 25), .ref (x 26), .ref (x 27), .ref (x 28)])), ((x 42), .inl (cy 7, 16, .inr (.inr (.inr (.inr (fun _ => none)))))), ((x 31), .inr (6, [.ref (x 32), .ref (x 9), .ref (x 29), .int 0, .int 0, .int 0, .ref (x 36), .ref (x 37), .ref (x 38), .ref (x 39), .ref (x 40), .ref (x 41), .int 0])), ((q 0), .inr (11, (mO q 0 0 0 0 0 0 0 0 (-1) 1 0 0 0 0 0 0 0 0 0))), ((q 63), .inl (cy 0, 600, .inl (fun _ => 0))), ((q 64), .inl (cy 0, 600, .inl (fun _ => 0))), ((q 65), .inl (cy 0, 600, .inl (fun _ => 0))), ((q 66), .inl (cy 0, 600, .inl (fun _ => 0))), ((q 67), .inl (cy 0, 97, .inl (fun _ => 0))), ((q 68), .inl (cy 0, 97, .inl (fun _ => 0))), ((q 70), .inl (cy 1, 16, .inl (fun _ => 0))), ((q 71), .inl (cy 0, 16, .inl (fun _ => 0))), ((q 72), .inl (cy 2, 16, .inr (.inl (fun _ => 0)))), ((q 73), .inl (cy 1, 16, .inl (fun _ => 0))), ((q 74), .inl (cy 1, 16, .inl (fun _ => 0)))] H) (hD : va_D A [((x 0), .inr (10, [.int 0, .int (-1), .ref (x 1), .ref (x 9), .int 0, .ref (x 10), .ref (x 13), .ref (x 16), .ref (x 29), .int 0, .int 0, .ref (x 30), .int 0, .ref (x 31), .ref (x 42), .int 0, .int 0, .null, .ref (x 43)])), ((x 13), .inr (4, [.ref (x 14), .ref (x 15), .int 0, .ref (x 16)])), ((x 16), .inr (5, [.int 0, .ref (x 17), .ref (x 18), .ref (x 19), .ref (x 20), .ref (x 21), .int 0, .int 10, .int 20, .int 0, .int 0, .ref (x 22), .ref (x 23), .int 0, .ref (x 24), .ref (x 25), .ref (x 26), .ref (x 27), .ref (x 28)])), ((x 42), .inl (cy 7, 16, .inr (.inr (.inr (.inr (fun _ => none)))))), ((x 31), .inr (6, [.ref (x 32), .ref (x 9), .ref (x 29), .int 0, .int 0, .int 0, .ref (x 36), .ref (x 37), .ref (x 38), .ref (x 39), .ref (x 40), .ref (x 41), .int 0])), ((q 0), .inr (11, (mO q 0 0 0 0 0 0 0 0 (-1) 1 0 0 0 0 0 0 0 0 0))), ((q 63), .inl (cy 0, 600, .inl (fun _ => 0))), ((q 64), .inl (cy 0, 600, .inl (fun _ => 0))), ((q 65), .inl (cy 0, 600, .inl (fun _ => 0))), ((q 66), .inl (cy 0, 600, .inl (fun _ => 0))), ((q 67), .inl (cy 0, 97, .inl (fun _ => 0))), ((q 68), .inl (cy 0, 97, .inl (fun _ => 0))), ((q 70), .inl (cy 1, 16, .inl (fun _ => 0))), ((q 71), .inl (cy 0, 16, .inl (fun _ => 0))), ((q 72), .inl (cy 2, 16, .inr (.inl (fun _ => 0)))), ((q 73), .inl (cy 1, 16, .inl (fun _ => 0))), ((q 74), .inl (cy 1, 16, .inl (fun _ => 0)))]) (hS : va_S A s.heap H locs) (hl : lv_has ls 7 [(4, .int 0), (3, .ref o), (2, .ref (q 0)), (1, .ref (x 0)), (0, .ref b)]) : W p l e room_1 s m #[Value.ref b] below meth c H locs 114 51906 (lw_Z below #[Value.ref b] s) (F0 m 1713 ls []) := by
  obtain ⟨p1, e1⟩ : ∃ y, xs 1 = y := ⟨_, rfl⟩
  obtain ⟨z1, h1⟩ : ∃ z, p1.toInt = z := ⟨_, rfl⟩
  obtain ⟨p2, e2⟩ : ∃ y, xs 2 = y := ⟨_, rfl⟩
  obtain ⟨z2, h2⟩ : ∃ z, p2.toInt = z := ⟨_, rfl⟩
  obtain ⟨p3, e3⟩ : ∃ y, xs 3 = y := ⟨_, rfl⟩
  obtain ⟨z3, h3⟩ : ∃ z, p3.toInt = z := ⟨_, rfl⟩
  obtain ⟨p4, e4⟩ : ∃ y, xs 4 = y := ⟨_, rfl⟩
  obtain ⟨z4, h4⟩ : ∃ z, p4.toInt = z := ⟨_, rfl⟩
  obtain ⟨p5, e5⟩ : ∃ y, xs 5 = y := ⟨_, rfl⟩
  obtain ⟨z5, h5⟩ : ∃ z, p5.toInt = z := ⟨_, rfl⟩
  obtain ⟨p6, e6⟩ : ∃ y, xs 6 = y := ⟨_, rfl⟩
  obtain ⟨z6, h6⟩ : ∃ z, p6.toInt = z := ⟨_, rfl⟩
  obtain ⟨p7, e7⟩ : ∃ y, xs 7 = y := ⟨_, rfl⟩
  obtain ⟨z7, h7⟩ : ∃ z, p7.toInt = z := ⟨_, rfl⟩
  refine lv_aload_n S.1 S.2.1 dL_law_1713 rfl (lv_at hl 3 rfl) ?_
  refine lv_aload_n S.1 S.2.1 dL_law_1714 rfl (lv_at hl 4 rfl) ?_
  refine lv_iload S.1 S.2.1 dL_law_1715 (lv_at hl 0 rfl) ?_
  refine lv_iconst (v := 1) S.1 S.2.1 dL_law_1717 (by decide) ?_
  refine r_iadd S dL_law_1718 (v := 1) (by decide) ?_
  refine r_sld S hX hbl hbA hS 1 (by decide) (by decide) (by decide) (v := p1) e1 dL_law_1719 ?_
  refine lv_aload_n S.1 S.2.1 dL_law_1720 rfl (lv_at hl 4 rfl) ?_
  refine lv_iload S.1 S.2.1 dL_law_1721 (lv_at hl 0 rfl) ?_
  refine lv_iconst (v := 2) S.1 S.2.1 dL_law_1723 (by decide) ?_
  refine r_iadd S dL_law_1724 (v := 2) (by decide) ?_
  refine r_sld S hX hbl hbA hS 2 (by decide) (by decide) (by decide) (v := p2) e2 dL_law_1725 ?_
  refine lv_aload_n S.1 S.2.1 dL_law_1726 rfl (lv_at hl 4 rfl) ?_
  refine lv_iload S.1 S.2.1 dL_law_1727 (lv_at hl 0 rfl) ?_
  refine lv_iconst (v := 3) S.1 S.2.1 dL_law_1729 (by decide) ?_
  refine r_iadd S dL_law_1730 (v := 3) (by decide) ?_
  refine r_sld S hX hbl hbA hS 3 (by decide) (by decide) (by decide) (v := p3) e3 dL_law_1731 ?_
  refine call_i (wr := [((q 0), .inr (11, (mO q 0 0 0 0 0 0 0 0 (-1) 1 0 0 0 0 0 0 0 0 0))), ((q 63), .inl (cy 0, 600, .inl (fun _ => 0))), ((q 64), .inl (cy 0, 600, .inl (fun _ => 0))), ((q 65), .inl (cy 0, 600, .inl (fun _ => 0))), ((q 66), .inl (cy 0, 600, .inl (fun _ => 0))), ((q 67), .inl (cy 0, 97, .inl (fun _ => 0))), ((q 68), .inl (cy 0, 97, .inl (fun _ => 0))), ((q 70), .inl (cy 1, 16, .inl (fun _ => 0))), ((q 71), .inl (cy 0, 16, .inl (fun _ => 0))), ((q 72), .inl (cy 2, 16, .inr (.inl (fun _ => 0)))), ((q 73), .inl (cy 1, 16, .inl (fun _ => 0))), ((q 74), .inl (cy 1, 16, .inl (fun _ => 0)))]) (runV_C (wc := [((x 0), .inr (10, [.int 0, .int (-1), .ref (x 1), .ref (x 9), .int 0, .ref (x 10), .ref (x 13), .ref (x 16), .ref (x 29), .int 0, .int 0, .ref (x 30), .int 0, .ref (x 31), .ref (x 42), .int 0, .int 0, .null, .ref (x 43)])), ((x 13), .inr (4, [.ref (x 14), .ref (x 15), .int 0, .ref (x 16)])), ((x 16), .inr (5, [.int 0, .ref (x 17), .ref (x 18), .ref (x 19), .ref (x 20), .ref (x 21), .int 0, .int 10, .int 20, .int 0, .int 0, .ref (x 22), .ref (x 23), .int 0, .ref (x 24), .ref (x 25), .ref (x 26), .ref (x 27), .ref (x 28)])), ((x 42), .inl (cy 7, 16, .inr (.inr (.inr (.inr (fun _ => none)))))), ((x 31), .inr (6, [.ref (x 32), .ref (x 9), .ref (x 29), .int 0, .int 0, .int 0, .ref (x 36), .ref (x 37), .ref (x 38), .ref (x 39), .ref (x 40), .ref (x 41), .int 0]))]) (As := [.int p1, .int p2, .int p3]) (rest := []) S (kX11_doubles l D cy x p1 p2 p3 z1 h1 z2 h2 z3 h3) hK hP hD [0, 1, 2, 3, 4] (by decide) rfl 0 10 rfl rfl kw_1291 kw_1292 kw_1293 kw_144 kw_1294 okX11_doubles rfl (by decide) hl.1 rfl (Nat.le_of_ble_eq_true rfl) dL_law_1732 (by decide)) hP hD hS hA [0, 1, 2, 3, 4] [5, 6, 7, 8, 9, 10, 11, 12, 13, 14, 15, 16] rfl rfl (by decide) (by decide) (fun v1732 u1732 H locs w1732 hP hD hS => ?_)
  have hP : va_P D vwCl [((q 0), .inr (11, (mO q 0 0 0 0 0 0 0 0 (-1) 1 0 0 0 0 0 0 0 0 0))), ((q 63), .inl (cy 0, 600, .inl (fun _ => 0))), ((q 64), .inl (cy 0, 600, .inl (fun _ => 0))), ((q 65), .inl (cy 0, 600, .inl (fun _ => 0))), ((q 66), .inl (cy 0, 600, .inl (fun _ => 0))), ((q 67), .inl (cy 0, 97, .inl (fun _ => 0))), ((q 68), .inl (cy 0, 97, .inl (fun _ => 0))), ((q 70), .inl (cy 1, 16, .inl (fun _ => 0))), ((q 71), .inl (cy 0, 16, .inl (fun _ => 0))), ((q 72), .inl (cy 2, 16, .inr (.inl (fun _ => 0)))), ((q 73), .inl (cy 1, 16, .inl (fun _ => 0))), ((q 74), .inl (cy 1, 16, .inl (fun _ => 0)))] H := hP
  have hD : va_D A [((q 0), .inr (11, (mO q 0 0 0 0 0 0 0 0 (-1) 1 0 0 0 0 0 0 0 0 0))), ((q 63), .inl (cy 0, 600, .inl (fun _ => 0))), ((q 64), .inl (cy 0, 600, .inl (fun _ => 0))), ((q 65), .inl (cy 0, 600, .inl (fun _ => 0))), ((q 66), .inl (cy 0, 600, .inl (fun _ => 0))), ((q 67), .inl (cy 0, 97, .inl (fun _ => 0))), ((q 68), .inl (cy 0, 97, .inl (fun _ => 0))), ((q 70), .inl (cy 1, 16, .inl (fun _ => 0))), ((q 71), .inl (cy 0, 16, .inl (fun _ => 0))), ((q 72), .inl (cy 2, 16, .inr (.inl (fun _ => 0)))), ((q 73), .inl (cy 1, 16, .inl (fun _ => 0))), ((q 74), .inl (cy 1, 16, .inl (fun _ => 0)))] := hD
  rcases w1732 with ⟨rfl, w1732_0_0⟩ | ⟨rfl, w1732_1_0⟩
  · refine lv_aload_n S.1 S.2.1 dL_law_1735 rfl (lv_at hl 2 rfl) ?_
    refine lv_aload_n S.1 S.2.1 dL_law_1736 rfl (lv_at hl 4 rfl) ?_
    refine lv_iload S.1 S.2.1 dL_law_1737 (lv_at hl 0 rfl) ?_
    refine lv_iconst (v := 1) S.1 S.2.1 dL_law_1739 (by decide) ?_
    refine r_iadd S dL_law_1740 (v := 1) (by decide) ?_
    refine r_sld S hX hbl hbA hS 1 (by decide) (by decide) (by decide) (v := p1) e1 dL_law_1741 ?_
    refine lv_aload_n S.1 S.2.1 dL_law_1742 rfl (lv_at hl 4 rfl) ?_
    refine lv_iload S.1 S.2.1 dL_law_1743 (lv_at hl 0 rfl) ?_
    refine lv_iconst (v := 2) S.1 S.2.1 dL_law_1745 (by decide) ?_
    refine r_iadd S dL_law_1746 (v := 2) (by decide) ?_
    refine r_sld S hX hbl hbA hS 2 (by decide) (by decide) (by decide) (v := p2) e2 dL_law_1747 ?_
    refine lv_aload_n S.1 S.2.1 dL_law_1748 rfl (lv_at hl 4 rfl) ?_
    refine lv_iload S.1 S.2.1 dL_law_1749 (lv_at hl 0 rfl) ?_
    refine lv_iconst (v := 3) S.1 S.2.1 dL_law_1751 (by decide) ?_
    refine r_iadd S dL_law_1752 (v := 3) (by decide) ?_
    refine r_sld S hX hbl hbA hS 3 (by decide) (by decide) (by decide) (v := p3) e3 dL_law_1753 ?_
    refine call_i (wr := []) (runV_C (wc := [((q 0), .inr (11, (mO q 0 0 0 0 0 0 0 0 (-1) 1 0 0 0 0 0 0 0 0 0))), ((q 63), .inl (cy 0, 600, .inl (fun _ => 0))), ((q 64), .inl (cy 0, 600, .inl (fun _ => 0))), ((q 65), .inl (cy 0, 600, .inl (fun _ => 0))), ((q 66), .inl (cy 0, 600, .inl (fun _ => 0))), ((q 67), .inl (cy 0, 97, .inl (fun _ => 0))), ((q 68), .inl (cy 0, 97, .inl (fun _ => 0))), ((q 70), .inl (cy 1, 16, .inl (fun _ => 0))), ((q 71), .inl (cy 0, 16, .inl (fun _ => 0))), ((q 72), .inl (cy 2, 16, .inr (.inl (fun _ => 0)))), ((q 73), .inl (cy 1, 16, .inl (fun _ => 0))), ((q 74), .inl (cy 1, 16, .inl (fun _ => 0)))]) (As := [.int p1, .int p2, .int p3]) (rest := [.int 0]) S (kX12_doubles l D cy q p1 p2 p3 z1 h1 z2 h2 z3 h3) hK hP hD [0, 1, 2, 3, 4, 5, 6, 7, 8, 9, 10, 11] (by decide) rfl 0 11 rfl rfl kw_2200 kw_2201 kw_2202 kw_152 kw_2203 okX12_doubles rfl (by decide) hl.1 rfl (Nat.le_of_ble_eq_true rfl) dL_law_1754 (by decide)) hP hD hS hA [0, 1, 2, 3, 4, 5, 6, 7, 8, 9, 10, 11] [] rfl rfl (by decide) (by decide) (fun v1754 u1754 H locs w1754 hP hD hS => ?_)
    have hP : va_P D vwCl [] H := hP
    have hD : va_D A [] := hD
    rcases w1754 with ⟨rfl, w1754_0_0⟩ | ⟨rfl, w1754_1_0⟩
    · refine r_icmp_eq S 0 0 rfl rfl dL_law_1757 (tgt := 2008) (by decide) (fun _ => ?_) (fun c => absurd c (by decide))
      exact law_on S hr hlk hX hbl hbA hA2 hS (lv_sub hl [0, 4] rfl) (by decide) (by decide)
    · exfalso; omega
  · refine lv_aload_n S.1 S.2.1 dL_law_1735 rfl (lv_at hl 2 rfl) ?_
    refine lv_aload_n S.1 S.2.1 dL_law_1736 rfl (lv_at hl 4 rfl) ?_
    refine lv_iload S.1 S.2.1 dL_law_1737 (lv_at hl 0 rfl) ?_
    refine lv_iconst (v := 1) S.1 S.2.1 dL_law_1739 (by decide) ?_
    refine r_iadd S dL_law_1740 (v := 1) (by decide) ?_
    refine r_sld S hX hbl hbA hS 1 (by decide) (by decide) (by decide) (v := p1) e1 dL_law_1741 ?_
    refine lv_aload_n S.1 S.2.1 dL_law_1742 rfl (lv_at hl 4 rfl) ?_
    refine lv_iload S.1 S.2.1 dL_law_1743 (lv_at hl 0 rfl) ?_
    refine lv_iconst (v := 2) S.1 S.2.1 dL_law_1745 (by decide) ?_
    refine r_iadd S dL_law_1746 (v := 2) (by decide) ?_
    refine r_sld S hX hbl hbA hS 2 (by decide) (by decide) (by decide) (v := p2) e2 dL_law_1747 ?_
    refine lv_aload_n S.1 S.2.1 dL_law_1748 rfl (lv_at hl 4 rfl) ?_
    refine lv_iload S.1 S.2.1 dL_law_1749 (lv_at hl 0 rfl) ?_
    refine lv_iconst (v := 3) S.1 S.2.1 dL_law_1751 (by decide) ?_
    refine r_iadd S dL_law_1752 (v := 3) (by decide) ?_
    refine r_sld S hX hbl hbA hS 3 (by decide) (by decide) (by decide) (v := p3) e3 dL_law_1753 ?_
    refine call_i (wr := []) (runV_C (wc := [((q 0), .inr (11, (mO q 0 0 0 0 0 0 0 0 (-1) 1 0 0 0 0 0 0 0 0 0))), ((q 63), .inl (cy 0, 600, .inl (fun _ => 0))), ((q 64), .inl (cy 0, 600, .inl (fun _ => 0))), ((q 65), .inl (cy 0, 600, .inl (fun _ => 0))), ((q 66), .inl (cy 0, 600, .inl (fun _ => 0))), ((q 67), .inl (cy 0, 97, .inl (fun _ => 0))), ((q 68), .inl (cy 0, 97, .inl (fun _ => 0))), ((q 70), .inl (cy 1, 16, .inl (fun _ => 0))), ((q 71), .inl (cy 0, 16, .inl (fun _ => 0))), ((q 72), .inl (cy 2, 16, .inr (.inl (fun _ => 0)))), ((q 73), .inl (cy 1, 16, .inl (fun _ => 0))), ((q 74), .inl (cy 1, 16, .inl (fun _ => 0)))]) (As := [.int p1, .int p2, .int p3]) (rest := [.int (-1)]) S (kX12_doubles l D cy q p1 p2 p3 z1 h1 z2 h2 z3 h3) hK hP hD [0, 1, 2, 3, 4, 5, 6, 7, 8, 9, 10, 11] (by decide) rfl 0 11 rfl rfl kw_2200 kw_2201 kw_2202 kw_152 kw_2203 okX12_doubles rfl (by decide) hl.1 rfl (Nat.le_of_ble_eq_true rfl) dL_law_1754 (by decide)) hP hD hS hA [0, 1, 2, 3, 4, 5, 6, 7, 8, 9, 10, 11] [] rfl rfl (by decide) (by decide) (fun v1754 u1754 H locs w1754 hP hD hS => ?_)
    have hP : va_P D vwCl [] H := hP
    have hD : va_D A [] := hD
    rcases w1754 with ⟨rfl, w1754_0_0⟩ | ⟨rfl, w1754_1_0⟩
    · exfalso; omega
    · refine r_icmp_eq S (-1) (-1) rfl rfl dL_law_1757 (tgt := 2008) (by decide) (fun _ => ?_) (fun c => absurd c (by decide))
      exact law_on S hr hlk hX hbl hbA hA2 hS (lv_sub hl [0, 4] rfl) (by decide) (by decide)
set_option maxHeartbeats 4000000 in
set_option maxRecDepth 100000 in
theorem law_c29 (l : Launch) (hst : l.stackTraces = false) {p : Program} {e : Env} {s : State} {m : MethodId} {below : List Frame} {meth : Method} {c : Code} {H : Heap} {locs : List Loc} {ls : Array Slot} {D : va_G} {cy : Nat → ClassId} {b : Nat} {xs : Nat → Int32} {A : Nat → Prop} {x q : Nat → Nat} {o : Nat} (S : CallFix p m c cL_law 7 s #[Value.ref b] uu "LandSurveyLaw") (hr : meth.sig.returnType = ret) (hlk : meth.locks = false) (hX : va_X b 8 xs s s.heap) (hbl : b < s.heap.size) (hbA : ¬ A b) (hA : ∀ q : Nat, s.heap.size ≤ q → A q) (hA2 : ∀ q : Nat, A q → s.heap.size ≤ q) (hK : KX D cy s) (hE : Ey s) (hZ : Zs A s s.heap) (hP : va_P D vwCl [((x 0), .inr (10, [.int 0, .int (-1), .ref (x 1), .ref (x 9), .int 0, .ref (x 10), .ref (x 13), .ref (x 16), .ref (x 29), .int 0, .int 0, .ref (x 30), .int 0, .ref (x 31), .ref (x 42), .int 0, .int 0, .null, .ref (x 43)])), ((x 13), .inr (4, [.ref (x 14), .ref (x 15), .int 0, .ref (x 16)])), ((x 16), .inr (5, [.int 0, .ref (x 17), .ref (x 18), .ref (x 19), .ref (x 20), .ref (x 21), .int 0, .int 10, .int 20, .int 0, .int 0, .ref (x 22), .ref (x 23), .int 0, .ref (x 24), .ref (x 25), .ref (x 26), .ref (x 27), .ref (x 28)])), ((x 42), .inl (cy 7, 16, .inr (.inr (.inr (.inr (fun _ => none)))))), ((x 31), .inr (6, [.ref (x 32), .ref (x 9), .ref (x 29), .int 0, .int 0, .int 0, .ref (x 36), .ref (x 37), .ref (x 38), .ref (x 39), .ref (x 40), .ref (x 41), .int 0])), (o, .inl (cy 2, 1, .inr (.inl (fun _ => 0)))), ((q 0), .inr (11, (mO q 0 0 0 0 0 0 0 0 (-1) 1 0 0 0 0 0 0 0 0 0))), ((q 63), .inl (cy 0, 600, .inl (fun _ => 0))), ((q 64), .inl (cy 0, 600, .inl (fun _ => 0))), ((q 65), .inl (cy 0, 600, .inl (fun _ => 0))), ((q 66), .inl (cy 0, 600, .inl (fun _ => 0))), ((q 67), .inl (cy 0, 97, .inl (fun _ => 0))), ((q 68), .inl (cy 0, 97, .inl (fun _ => 0))), ((q 70), .inl (cy 1, 16, .inl (fun _ => 0))), ((q 71), .inl (cy 0, 16, .inl (fun _ => 0))), ((q 72), .inl (cy 2, 16, .inr (.inl (fun _ => 0)))), ((q 73), .inl (cy 1, 16, .inl (fun _ => 0))), ((q 74), .inl (cy 1, 16, .inl (fun _ => 0)))] H) (hD : va_D A [((x 0), .inr (10, [.int 0, .int (-1), .ref (x 1), .ref (x 9), .int 0, .ref (x 10), .ref (x 13), .ref (x 16), .ref (x 29), .int 0, .int 0, .ref (x 30), .int 0, .ref (x 31), .ref (x 42), .int 0, .int 0, .null, .ref (x 43)])), ((x 13), .inr (4, [.ref (x 14), .ref (x 15), .int 0, .ref (x 16)])), ((x 16), .inr (5, [.int 0, .ref (x 17), .ref (x 18), .ref (x 19), .ref (x 20), .ref (x 21), .int 0, .int 10, .int 20, .int 0, .int 0, .ref (x 22), .ref (x 23), .int 0, .ref (x 24), .ref (x 25), .ref (x 26), .ref (x 27), .ref (x 28)])), ((x 42), .inl (cy 7, 16, .inr (.inr (.inr (.inr (fun _ => none)))))), ((x 31), .inr (6, [.ref (x 32), .ref (x 9), .ref (x 29), .int 0, .int 0, .int 0, .ref (x 36), .ref (x 37), .ref (x 38), .ref (x 39), .ref (x 40), .ref (x 41), .int 0])), (o, .inl (cy 2, 1, .inr (.inl (fun _ => 0)))), ((q 0), .inr (11, (mO q 0 0 0 0 0 0 0 0 (-1) 1 0 0 0 0 0 0 0 0 0))), ((q 63), .inl (cy 0, 600, .inl (fun _ => 0))), ((q 64), .inl (cy 0, 600, .inl (fun _ => 0))), ((q 65), .inl (cy 0, 600, .inl (fun _ => 0))), ((q 66), .inl (cy 0, 600, .inl (fun _ => 0))), ((q 67), .inl (cy 0, 97, .inl (fun _ => 0))), ((q 68), .inl (cy 0, 97, .inl (fun _ => 0))), ((q 70), .inl (cy 1, 16, .inl (fun _ => 0))), ((q 71), .inl (cy 0, 16, .inl (fun _ => 0))), ((q 72), .inl (cy 2, 16, .inr (.inl (fun _ => 0)))), ((q 73), .inl (cy 1, 16, .inl (fun _ => 0))), ((q 74), .inl (cy 1, 16, .inl (fun _ => 0)))]) (hS : va_S A s.heap H locs) (hl : lv_has ls 7 [(4, .int 0), (3, .ref o), (2, .ref (q 0)), (1, .ref (x 0)), (0, .ref b)]) : W p l e room_1 s m #[Value.ref b] below meth c H locs 114 51906 (lw_Z below #[Value.ref b] s) (F0 m 1762 ls []) := by
  obtain ⟨p1, e1⟩ : ∃ y, xs 1 = y := ⟨_, rfl⟩
  obtain ⟨z1, h1⟩ : ∃ z, p1.toInt = z := ⟨_, rfl⟩
  obtain ⟨p2, e2⟩ : ∃ y, xs 2 = y := ⟨_, rfl⟩
  obtain ⟨z2, h2⟩ : ∃ z, p2.toInt = z := ⟨_, rfl⟩
  obtain ⟨p3, e3⟩ : ∃ y, xs 3 = y := ⟨_, rfl⟩
  obtain ⟨z3, h3⟩ : ∃ z, p3.toInt = z := ⟨_, rfl⟩
  obtain ⟨p4, e4⟩ : ∃ y, xs 4 = y := ⟨_, rfl⟩
  obtain ⟨z4, h4⟩ : ∃ z, p4.toInt = z := ⟨_, rfl⟩
  obtain ⟨p5, e5⟩ : ∃ y, xs 5 = y := ⟨_, rfl⟩
  obtain ⟨z5, h5⟩ : ∃ z, p5.toInt = z := ⟨_, rfl⟩
  obtain ⟨p6, e6⟩ : ∃ y, xs 6 = y := ⟨_, rfl⟩
  obtain ⟨z6, h6⟩ : ∃ z, p6.toInt = z := ⟨_, rfl⟩
  obtain ⟨p7, e7⟩ : ∃ y, xs 7 = y := ⟨_, rfl⟩
  obtain ⟨z7, h7⟩ : ∃ z, p7.toInt = z := ⟨_, rfl⟩
  refine lv_aload_n S.1 S.2.1 dL_law_1762 rfl (lv_at hl 3 rfl) ?_
  refine lv_aload_n S.1 S.2.1 dL_law_1763 rfl (lv_at hl 4 rfl) ?_
  refine lv_iload S.1 S.2.1 dL_law_1764 (lv_at hl 0 rfl) ?_
  refine lv_iconst (v := 1) S.1 S.2.1 dL_law_1766 (by decide) ?_
  refine r_iadd S dL_law_1767 (v := 1) (by decide) ?_
  refine r_sld S hX hbl hbA hS 1 (by decide) (by decide) (by decide) (v := p1) e1 dL_law_1768 ?_
  refine lv_aload_n S.1 S.2.1 dL_law_1769 rfl (lv_at hl 1 rfl) ?_
  refine call_i (wr := [((q 0), .inr (11, (mO q 0 0 0 0 0 0 0 0 (-1) 1 0 0 0 0 0 0 0 0 0))), ((q 63), .inl (cy 0, 600, .inl (fun _ => 0))), ((q 64), .inl (cy 0, 600, .inl (fun _ => 0))), ((q 65), .inl (cy 0, 600, .inl (fun _ => 0))), ((q 66), .inl (cy 0, 600, .inl (fun _ => 0))), ((q 67), .inl (cy 0, 97, .inl (fun _ => 0))), ((q 68), .inl (cy 0, 97, .inl (fun _ => 0))), ((q 70), .inl (cy 1, 16, .inl (fun _ => 0))), ((q 71), .inl (cy 0, 16, .inl (fun _ => 0))), ((q 72), .inl (cy 2, 16, .inr (.inl (fun _ => 0)))), ((q 73), .inl (cy 1, 16, .inl (fun _ => 0))), ((q 74), .inl (cy 1, 16, .inl (fun _ => 0)))]) (runS_W (wc := [((x 0), .inr (10, [.int 0, .int (-1), .ref (x 1), .ref (x 9), .int 0, .ref (x 10), .ref (x 13), .ref (x 16), .ref (x 29), .int 0, .int 0, .ref (x 30), .int 0, .ref (x 31), .ref (x 42), .int 0, .int 0, .null, .ref (x 43)])), ((x 13), .inr (4, [.ref (x 14), .ref (x 15), .int 0, .ref (x 16)])), ((x 16), .inr (5, [.int 0, .ref (x 17), .ref (x 18), .ref (x 19), .ref (x 20), .ref (x 21), .int 0, .int 10, .int 20, .int 0, .int 0, .ref (x 22), .ref (x 23), .int 0, .ref (x 24), .ref (x 25), .ref (x 26), .ref (x 27), .ref (x 28)])), ((x 42), .inl (cy 7, 16, .inr (.inr (.inr (.inr (fun _ => none)))))), ((x 31), .inr (6, [.ref (x 32), .ref (x 9), .ref (x 29), .int 0, .int 0, .int 0, .ref (x 36), .ref (x 37), .ref (x 38), .ref (x 39), .ref (x 40), .ref (x 41), .int 0])), (o, .inl (cy 2, 1, .inr (.inl (fun _ => 0))))]) (As := [.ref (x 0), .int p1, .ref o]) (rest := []) S (kL_habit l D cy x o p1 z1 h1 hst) hK hP hD hS hA hE hZ [0, 1, 2, 3, 4, 5] (by decide) rfl kw_1452 kw_1453 kw_143 kw_1454 okL_habit rfl (by decide) hl.1 rfl (Nat.le_of_ble_eq_true rfl) dL_law_1770 (by decide)) hP hD hS hA [0, 1, 2, 3, 4, 5] [6, 7, 8, 9, 10, 11, 12, 13, 14, 15, 16, 17] rfl rfl (by decide) (by decide) (fun v1770 u1770 H locs w1770 hP hD hS => ?_)
  obtain ⟨g_1770, rfl⟩ : ∃ z, z = u1770 := ⟨_, rfl⟩
  have hP : va_P D vwCl [((q 0), .inr (11, (mO q 0 0 0 0 0 0 0 0 (-1) 1 0 0 0 0 0 0 0 0 0))), ((q 63), .inl (cy 0, 600, .inl (fun _ => 0))), ((q 64), .inl (cy 0, 600, .inl (fun _ => 0))), ((q 65), .inl (cy 0, 600, .inl (fun _ => 0))), ((q 66), .inl (cy 0, 600, .inl (fun _ => 0))), ((q 67), .inl (cy 0, 97, .inl (fun _ => 0))), ((q 68), .inl (cy 0, 97, .inl (fun _ => 0))), ((q 70), .inl (cy 1, 16, .inl (fun _ => 0))), ((q 71), .inl (cy 0, 16, .inl (fun _ => 0))), ((q 72), .inl (cy 2, 16, .inr (.inl (fun _ => 0)))), ((q 73), .inl (cy 1, 16, .inl (fun _ => 0))), ((q 74), .inl (cy 1, 16, .inl (fun _ => 0))), (o, .inl (cy 2, 1, .inr (.inl g_1770)))] H := hP
  have hD : va_D A [((q 0), .inr (11, (mO q 0 0 0 0 0 0 0 0 (-1) 1 0 0 0 0 0 0 0 0 0))), ((q 63), .inl (cy 0, 600, .inl (fun _ => 0))), ((q 64), .inl (cy 0, 600, .inl (fun _ => 0))), ((q 65), .inl (cy 0, 600, .inl (fun _ => 0))), ((q 66), .inl (cy 0, 600, .inl (fun _ => 0))), ((q 67), .inl (cy 0, 97, .inl (fun _ => 0))), ((q 68), .inl (cy 0, 97, .inl (fun _ => 0))), ((q 70), .inl (cy 1, 16, .inl (fun _ => 0))), ((q 71), .inl (cy 0, 16, .inl (fun _ => 0))), ((q 72), .inl (cy 2, 16, .inr (.inl (fun _ => 0)))), ((q 73), .inl (cy 1, 16, .inl (fun _ => 0))), ((q 74), .inl (cy 1, 16, .inl (fun _ => 0))), (o, .inl (cy 2, 1, .inr (.inl g_1770)))] := hD
  rcases w1770 with ⟨rfl, hg0, hPr⟩ | ⟨rfl, hPr⟩
  · refine lv_istore (lv' := [(5, .int 0), (4, .int 0), (3, .ref o), (2, .ref (q 0)), (1, .ref (x 0)), (0, .ref b)]) S.1 S.2.1 dL_law_1773 hl (by decide) rfl (fun ls hl => ?_)
    refine lv_aload_n S.1 S.2.1 dL_law_1775 rfl (lv_at hl 3 rfl) ?_
    refine lv_aload_n S.1 S.2.1 dL_law_1776 rfl (lv_at hl 5 rfl) ?_
    refine lv_iload S.1 S.2.1 dL_law_1777 (lv_at hl 1 rfl) ?_
    refine lv_iconst (v := 1) S.1 S.2.1 dL_law_1779 (by decide) ?_
    refine r_iadd S dL_law_1780 (v := 1) (by decide) ?_
    refine r_sld S hX hbl hbA hS 1 (by decide) (by decide) (by decide) (v := p1) e1 dL_law_1781 ?_
    refine call_i (wr := [(o, .inl (cy 2, 1, .inr (.inl g_1770)))]) (runV_C (wc := [((q 0), .inr (11, (mO q 0 0 0 0 0 0 0 0 (-1) 1 0 0 0 0 0 0 0 0 0))), ((q 63), .inl (cy 0, 600, .inl (fun _ => 0))), ((q 64), .inl (cy 0, 600, .inl (fun _ => 0))), ((q 65), .inl (cy 0, 600, .inl (fun _ => 0))), ((q 66), .inl (cy 0, 600, .inl (fun _ => 0))), ((q 67), .inl (cy 0, 97, .inl (fun _ => 0))), ((q 68), .inl (cy 0, 97, .inl (fun _ => 0))), ((q 70), .inl (cy 1, 16, .inl (fun _ => 0))), ((q 71), .inl (cy 0, 16, .inl (fun _ => 0))), ((q 72), .inl (cy 2, 16, .inr (.inl (fun _ => 0)))), ((q 73), .inl (cy 1, 16, .inl (fun _ => 0))), ((q 74), .inl (cy 1, 16, .inl (fun _ => 0)))]) (As := [.int p1]) (rest := []) S (kX12_habit l D cy q p1 z1 h1) hK hP hD [0, 1, 2, 3, 4, 5, 6, 7, 8, 9, 10, 11] (by decide) rfl 0 11 rfl rfl kw_2208 kw_2209 kw_2210 kw_152 kw_2211 okX12_habit rfl (by decide) hl.1 rfl (Nat.le_of_ble_eq_true rfl) dL_law_1782 (by decide)) hP hD hS hA [0, 1, 2, 3, 4, 5, 6, 7, 8, 9, 10, 11] [12] rfl rfl (by decide) (by decide) (fun v1782 u1782 H locs w1782 hP hD hS => ?_)
    obtain ⟨th_1782, tl_1782⟩ := u1782
    have hP : va_P D vwCl [(o, .inl (cy 2, 1, .inr (.inl g_1770))), ((q 0), .inr (11, (.int th_1782 :: tl_1782)))] H := hP
    have hD : va_D A [(o, .inl (cy 2, 1, .inr (.inl g_1770))), ((q 0), .inr (11, (.int th_1782 :: tl_1782)))] := hD
    rcases w1782 with ⟨rfl, rfl, hPm⟩ | ⟨rfl, rfl, hPm⟩
    · refine lv_istore (lv' := [(6, .int 0), (5, .int 0), (4, .int 0), (3, .ref o), (2, .ref (q 0)), (1, .ref (x 0)), (0, .ref b)]) S.1 S.2.1 dL_law_1785 hl (by decide) rfl (fun ls hl => ?_)
      refine lv_aload_n S.1 S.2.1 dL_law_1787 rfl (lv_at hl 4 rfl) ?_
      refine call_ri (runV_R (wc := [((q 0), .inr (11, (.int 0 :: tl_1782)))]) (As := []) (rest := []) S (kX12_thrown l D cy q 0 tl_1782) hK hP [1] rfl 0 11 rfl rfl kw_1462 kw_1463 kw_1464 kw_152 kw_1465 okX12_thrown rfl (by decide) hl.1 rfl (Nat.le_of_ble_eq_true rfl) dL_law_1788 (by decide)) (fun v1788 w1788 => ?_)
      subst w1788
      refine lv_iload S.1 S.2.1 dL_law_1791 (lv_at hl 1 rfl) ?_
      refine r_icmp_eq S 0 0 rfl rfl dL_law_1793 (tgt := 1798) (by decide) (fun _ => ?_) (fun c => absurd c (by decide))
      refine lv_iload S.1 S.2.1 dL_law_1798 (lv_at hl 1 rfl) ?_
      refine r_if_ne S 0 rfl dL_law_1800 (tgt := 1815) (by decide) (fun c => absurd c (by decide)) (fun _ => ?_)
      refine lv_aload_n S.1 S.2.1 dL_law_1803 rfl (lv_at hl 3 rfl) ?_
      refine lv_iconst (v := 0) S.1 S.2.1 dL_law_1804 (by decide) ?_
      refine r_lald S hK hP 0 2 rfl rfl (0) rfl (by decide) (by decide) (v := 0) hg0 dL_law_1805 ?_
      refine lv_iload S.1 S.2.1 dL_law_1806 (lv_at hl 0 rfl) ?_
      refine lv_i2l (v := 0) S.1 S.2.1 dL_law_1808 (by decide) ?_
      refine r_lcmp S dL_law_1809 (v := 0) (by decide) ?_
      refine r_if_eq S 0 rfl dL_law_1810 (tgt := 1815) (by decide) (fun _ => ?_) (fun c => absurd c (by decide))
      refine lv_goto (tgt := 2008) S.1 S.2.1 dL_law_1815 (by decide) ?_
      exact law_on S hr hlk hX hbl hbA hA2 hS (lv_sub hl [2, 6] rfl) (by decide) (by decide)
    · exfalso; omega
  · refine lv_istore (lv' := [(5, .int 1), (4, .int 0), (3, .ref o), (2, .ref (q 0)), (1, .ref (x 0)), (0, .ref b)]) S.1 S.2.1 dL_law_1773 hl (by decide) rfl (fun ls hl => ?_)
    refine lv_aload_n S.1 S.2.1 dL_law_1775 rfl (lv_at hl 3 rfl) ?_
    refine lv_aload_n S.1 S.2.1 dL_law_1776 rfl (lv_at hl 5 rfl) ?_
    refine lv_iload S.1 S.2.1 dL_law_1777 (lv_at hl 1 rfl) ?_
    refine lv_iconst (v := 1) S.1 S.2.1 dL_law_1779 (by decide) ?_
    refine r_iadd S dL_law_1780 (v := 1) (by decide) ?_
    refine r_sld S hX hbl hbA hS 1 (by decide) (by decide) (by decide) (v := p1) e1 dL_law_1781 ?_
    refine call_i (wr := [(o, .inl (cy 2, 1, .inr (.inl g_1770)))]) (runV_C (wc := [((q 0), .inr (11, (mO q 0 0 0 0 0 0 0 0 (-1) 1 0 0 0 0 0 0 0 0 0))), ((q 63), .inl (cy 0, 600, .inl (fun _ => 0))), ((q 64), .inl (cy 0, 600, .inl (fun _ => 0))), ((q 65), .inl (cy 0, 600, .inl (fun _ => 0))), ((q 66), .inl (cy 0, 600, .inl (fun _ => 0))), ((q 67), .inl (cy 0, 97, .inl (fun _ => 0))), ((q 68), .inl (cy 0, 97, .inl (fun _ => 0))), ((q 70), .inl (cy 1, 16, .inl (fun _ => 0))), ((q 71), .inl (cy 0, 16, .inl (fun _ => 0))), ((q 72), .inl (cy 2, 16, .inr (.inl (fun _ => 0)))), ((q 73), .inl (cy 1, 16, .inl (fun _ => 0))), ((q 74), .inl (cy 1, 16, .inl (fun _ => 0)))]) (As := [.int p1]) (rest := []) S (kX12_habit l D cy q p1 z1 h1) hK hP hD [0, 1, 2, 3, 4, 5, 6, 7, 8, 9, 10, 11] (by decide) rfl 0 11 rfl rfl kw_2208 kw_2209 kw_2210 kw_152 kw_2211 okX12_habit rfl (by decide) hl.1 rfl (Nat.le_of_ble_eq_true rfl) dL_law_1782 (by decide)) hP hD hS hA [0, 1, 2, 3, 4, 5, 6, 7, 8, 9, 10, 11] [12] rfl rfl (by decide) (by decide) (fun v1782 u1782 H locs w1782 hP hD hS => ?_)
    obtain ⟨th_1782, tl_1782⟩ := u1782
    have hP : va_P D vwCl [(o, .inl (cy 2, 1, .inr (.inl g_1770))), ((q 0), .inr (11, (.int th_1782 :: tl_1782)))] H := hP
    have hD : va_D A [(o, .inl (cy 2, 1, .inr (.inl g_1770))), ((q 0), .inr (11, (.int th_1782 :: tl_1782)))] := hD
    rcases w1782 with ⟨rfl, rfl, hPm⟩ | ⟨rfl, rfl, hPm⟩
    · exfalso; omega
    · refine lv_istore (lv' := [(6, .int 0), (5, .int 1), (4, .int 0), (3, .ref o), (2, .ref (q 0)), (1, .ref (x 0)), (0, .ref b)]) S.1 S.2.1 dL_law_1785 hl (by decide) rfl (fun ls hl => ?_)
      refine lv_aload_n S.1 S.2.1 dL_law_1787 rfl (lv_at hl 4 rfl) ?_
      refine call_ri (runV_R (wc := [((q 0), .inr (11, (.int 1 :: tl_1782)))]) (As := []) (rest := []) S (kX12_thrown l D cy q 1 tl_1782) hK hP [1] rfl 0 11 rfl rfl kw_1462 kw_1463 kw_1464 kw_152 kw_1465 okX12_thrown rfl (by decide) hl.1 rfl (Nat.le_of_ble_eq_true rfl) dL_law_1788 (by decide)) (fun v1788 w1788 => ?_)
      subst w1788
      refine lv_iload S.1 S.2.1 dL_law_1791 (lv_at hl 1 rfl) ?_
      refine r_icmp_eq S 1 1 rfl rfl dL_law_1793 (tgt := 1798) (by decide) (fun _ => ?_) (fun c => absurd c (by decide))
      refine lv_iload S.1 S.2.1 dL_law_1798 (lv_at hl 1 rfl) ?_
      refine r_if_ne S 1 rfl dL_law_1800 (tgt := 1815) (by decide) (fun _ => ?_) (fun c => absurd c (by decide))
      refine lv_goto (tgt := 2008) S.1 S.2.1 dL_law_1815 (by decide) ?_
      exact law_on S hr hlk hX hbl hbA hA2 hS (lv_sub hl [2, 6] rfl) (by decide) (by decide)
set_option maxHeartbeats 4000000 in
set_option maxRecDepth 100000 in
theorem law_c30 (l : Launch) (hst : l.stackTraces = false) {p : Program} {e : Env} {s : State} {m : MethodId} {below : List Frame} {meth : Method} {c : Code} {H : Heap} {locs : List Loc} {ls : Array Slot} {D : va_G} {cy : Nat → ClassId} {b : Nat} {xs : Nat → Int32} {A : Nat → Prop} {x q : Nat → Nat} {o : Nat} (S : CallFix p m c cL_law 7 s #[Value.ref b] uu "LandSurveyLaw") (hr : meth.sig.returnType = ret) (hlk : meth.locks = false) (hX : va_X b 8 xs s s.heap) (hbl : b < s.heap.size) (hbA : ¬ A b) (hA : ∀ q : Nat, s.heap.size ≤ q → A q) (hA2 : ∀ q : Nat, A q → s.heap.size ≤ q) (hK : KX D cy s) (hE : Ey s) (hZ : Zs A s s.heap) (hP : va_P D vwCl [((x 0), .inr (10, [.int 0, .int (-1), .ref (x 1), .ref (x 9), .int 0, .ref (x 10), .ref (x 13), .ref (x 16), .ref (x 29), .int 0, .int 0, .ref (x 30), .int 0, .ref (x 31), .ref (x 42), .int 0, .int 0, .null, .ref (x 43)])), ((x 1), .inr (2, [.ref (x 2), .ref (x 3), .ref (x 4), .ref (x 5), .ref (x 6), .int 0, .ref (x 7), .ref (x 8), .int 0])), ((x 6), .inl (cy 1, 96, .inl (fun _ => 0))), ((q 0), .inr (11, (mO q 0 0 0 0 0 0 0 0 (-1) 1 0 0 0 0 0 0 0 0 0))), ((q 82), .inl (cy 1, 96, .inl (fun _ => 0)))] H) (hD : va_D A [((x 0), .inr (10, [.int 0, .int (-1), .ref (x 1), .ref (x 9), .int 0, .ref (x 10), .ref (x 13), .ref (x 16), .ref (x 29), .int 0, .int 0, .ref (x 30), .int 0, .ref (x 31), .ref (x 42), .int 0, .int 0, .null, .ref (x 43)])), ((x 1), .inr (2, [.ref (x 2), .ref (x 3), .ref (x 4), .ref (x 5), .ref (x 6), .int 0, .ref (x 7), .ref (x 8), .int 0])), ((x 6), .inl (cy 1, 96, .inl (fun _ => 0))), ((q 0), .inr (11, (mO q 0 0 0 0 0 0 0 0 (-1) 1 0 0 0 0 0 0 0 0 0))), ((q 82), .inl (cy 1, 96, .inl (fun _ => 0)))]) (hS : va_S A s.heap H locs) (hl : lv_has ls 7 [(4, .int 0), (3, .ref o), (2, .ref (q 0)), (1, .ref (x 0)), (0, .ref b)]) : W p l e room_1 s m #[Value.ref b] below meth c H locs 114 51906 (lw_Z below #[Value.ref b] s) (F0 m 1818 ls []) := by
  obtain ⟨p1, e1⟩ : ∃ y, xs 1 = y := ⟨_, rfl⟩
  obtain ⟨z1, h1⟩ : ∃ z, p1.toInt = z := ⟨_, rfl⟩
  obtain ⟨p2, e2⟩ : ∃ y, xs 2 = y := ⟨_, rfl⟩
  obtain ⟨z2, h2⟩ : ∃ z, p2.toInt = z := ⟨_, rfl⟩
  obtain ⟨p3, e3⟩ : ∃ y, xs 3 = y := ⟨_, rfl⟩
  obtain ⟨z3, h3⟩ : ∃ z, p3.toInt = z := ⟨_, rfl⟩
  obtain ⟨p4, e4⟩ : ∃ y, xs 4 = y := ⟨_, rfl⟩
  obtain ⟨z4, h4⟩ : ∃ z, p4.toInt = z := ⟨_, rfl⟩
  obtain ⟨p5, e5⟩ : ∃ y, xs 5 = y := ⟨_, rfl⟩
  obtain ⟨z5, h5⟩ : ∃ z, p5.toInt = z := ⟨_, rfl⟩
  obtain ⟨p6, e6⟩ : ∃ y, xs 6 = y := ⟨_, rfl⟩
  obtain ⟨z6, h6⟩ : ∃ z, p6.toInt = z := ⟨_, rfl⟩
  obtain ⟨p7, e7⟩ : ∃ y, xs 7 = y := ⟨_, rfl⟩
  obtain ⟨z7, h7⟩ : ∃ z, p7.toInt = z := ⟨_, rfl⟩
  refine lv_aload_n S.1 S.2.1 dL_law_1818 rfl (lv_at hl 3 rfl) ?_
  refine lv_aload_n S.1 S.2.1 dL_law_1819 rfl (lv_at hl 4 rfl) ?_
  refine lv_iload S.1 S.2.1 dL_law_1820 (lv_at hl 0 rfl) ?_
  refine lv_iconst (v := 1) S.1 S.2.1 dL_law_1822 (by decide) ?_
  refine r_iadd S dL_law_1823 (v := 1) (by decide) ?_
  refine r_sld S hX hbl hbA hS 1 (by decide) (by decide) (by decide) (v := p1) e1 dL_law_1824 ?_
  refine lv_aload_n S.1 S.2.1 dL_law_1825 rfl (lv_at hl 4 rfl) ?_
  refine lv_iload S.1 S.2.1 dL_law_1826 (lv_at hl 0 rfl) ?_
  refine lv_iconst (v := 2) S.1 S.2.1 dL_law_1828 (by decide) ?_
  refine r_iadd S dL_law_1829 (v := 2) (by decide) ?_
  refine r_sld S hX hbl hbA hS 2 (by decide) (by decide) (by decide) (v := p2) e2 dL_law_1830 ?_
  refine lv_aload_n S.1 S.2.1 dL_law_1831 rfl (lv_at hl 4 rfl) ?_
  refine lv_iload S.1 S.2.1 dL_law_1832 (lv_at hl 0 rfl) ?_
  refine lv_iconst (v := 3) S.1 S.2.1 dL_law_1834 (by decide) ?_
  refine r_iadd S dL_law_1835 (v := 3) (by decide) ?_
  refine r_sld S hX hbl hbA hS 3 (by decide) (by decide) (by decide) (v := p3) e3 dL_law_1836 ?_
  refine r_if_eq S z3 h3 dL_law_1837 (tgt := 1844) (by decide) (fun e_1837_1 => ?_) (fun e_1837_1 => ?_)
  · refine lv_iconst (v := 0) S.1 S.2.1 dL_law_1844 (by decide) ?_
    refine call_i (wr := [((q 0), .inr (11, (mO q 0 0 0 0 0 0 0 0 (-1) 1 0 0 0 0 0 0 0 0 0))), ((q 82), .inl (cy 1, 96, .inl (fun _ => 0)))]) (runV_C (wc := [((x 0), .inr (10, [.int 0, .int (-1), .ref (x 1), .ref (x 9), .int 0, .ref (x 10), .ref (x 13), .ref (x 16), .ref (x 29), .int 0, .int 0, .ref (x 30), .int 0, .ref (x 31), .ref (x 42), .int 0, .int 0, .null, .ref (x 43)])), ((x 1), .inr (2, [.ref (x 2), .ref (x 3), .ref (x 4), .ref (x 5), .ref (x 6), .int 0, .ref (x 7), .ref (x 8), .int 0])), ((x 6), .inl (cy 1, 96, .inl (fun _ => 0)))]) (As := [.int p1, .int p2, .int 0]) (rest := []) S (kX11_question l D cy x p1 p2 0 z1 h1 z2 h2 0 rfl) hK hP hD [0, 1, 2] (by decide) rfl 0 10 rfl rfl kw_1301 kw_1302 kw_1303 kw_144 kw_1304 okX11_question rfl (by decide) hl.1 rfl (Nat.le_of_ble_eq_true rfl) dL_law_1845 (by decide)) hP hD hS hA [0, 1, 2] [3, 4] rfl rfl (by decide) (by decide) (fun v1845 u1845 H locs w1845 hP hD hS => ?_)
    have hP : va_P D vwCl [((q 0), .inr (11, (mO q 0 0 0 0 0 0 0 0 (-1) 1 0 0 0 0 0 0 0 0 0))), ((q 82), .inl (cy 1, 96, .inl (fun _ => 0)))] H := hP
    have hD : va_D A [((q 0), .inr (11, (mO q 0 0 0 0 0 0 0 0 (-1) 1 0 0 0 0 0 0 0 0 0))), ((q 82), .inl (cy 1, 96, .inl (fun _ => 0)))] := hD
    rcases w1845 with ⟨rfl, w1845_0_0⟩ | ⟨rfl, w1845_1_0⟩
    · refine lv_aload_n S.1 S.2.1 dL_law_1848 rfl (lv_at hl 2 rfl) ?_
      refine lv_aload_n S.1 S.2.1 dL_law_1849 rfl (lv_at hl 4 rfl) ?_
      refine lv_iload S.1 S.2.1 dL_law_1850 (lv_at hl 0 rfl) ?_
      refine lv_iconst (v := 1) S.1 S.2.1 dL_law_1852 (by decide) ?_
      refine r_iadd S dL_law_1853 (v := 1) (by decide) ?_
      refine r_sld S hX hbl hbA hS 1 (by decide) (by decide) (by decide) (v := p1) e1 dL_law_1854 ?_
      refine lv_aload_n S.1 S.2.1 dL_law_1855 rfl (lv_at hl 4 rfl) ?_
      refine lv_iload S.1 S.2.1 dL_law_1856 (lv_at hl 0 rfl) ?_
      refine lv_iconst (v := 2) S.1 S.2.1 dL_law_1858 (by decide) ?_
      refine r_iadd S dL_law_1859 (v := 2) (by decide) ?_
      refine r_sld S hX hbl hbA hS 2 (by decide) (by decide) (by decide) (v := p2) e2 dL_law_1860 ?_
      refine lv_aload_n S.1 S.2.1 dL_law_1861 rfl (lv_at hl 4 rfl) ?_
      refine lv_iload S.1 S.2.1 dL_law_1862 (lv_at hl 0 rfl) ?_
      refine lv_iconst (v := 3) S.1 S.2.1 dL_law_1864 (by decide) ?_
      refine r_iadd S dL_law_1865 (v := 3) (by decide) ?_
      refine r_sld S hX hbl hbA hS 3 (by decide) (by decide) (by decide) (v := p3) e3 dL_law_1866 ?_
      refine r_if_eq S z3 h3 dL_law_1867 (tgt := 1874) (by decide) (fun _ => ?_) (fun c => absurd c (by omega))
      refine lv_iconst (v := 0) S.1 S.2.1 dL_law_1874 (by decide) ?_
      refine call_i (wr := []) (runV_C (wc := [((q 0), .inr (11, (mO q 0 0 0 0 0 0 0 0 (-1) 1 0 0 0 0 0 0 0 0 0))), ((q 82), .inl (cy 1, 96, .inl (fun _ => 0)))]) (As := [.int p1, .int p2, .int 0]) (rest := [.int 1]) S (kX12_question l D cy q p1 p2 0 z1 h1 z2 h2 0 rfl) hK hP hD [0, 1] (by decide) rfl 0 11 rfl rfl kw_2212 kw_2213 kw_2214 kw_152 kw_2215 okX12_question rfl (by decide) hl.1 rfl (Nat.le_of_ble_eq_true rfl) dL_law_1875 (by decide)) hP hD hS hA [0, 1] [] rfl rfl (by decide) (by decide) (fun v1875 u1875 H locs w1875 hP hD hS => ?_)
      have hP : va_P D vwCl [] H := hP
      have hD : va_D A [] := hD
      rcases w1875 with ⟨rfl, w1875_0_0⟩ | ⟨rfl, w1875_1_0⟩
      · refine r_icmp_eq S 1 1 rfl rfl dL_law_1878 (tgt := 2008) (by decide) (fun _ => ?_) (fun c => absurd c (by decide))
        exact law_on S hr hlk hX hbl hbA hA2 hS (lv_sub hl [0, 4] rfl) (by decide) (by decide)
      · exfalso; omega
    · refine lv_aload_n S.1 S.2.1 dL_law_1848 rfl (lv_at hl 2 rfl) ?_
      refine lv_aload_n S.1 S.2.1 dL_law_1849 rfl (lv_at hl 4 rfl) ?_
      refine lv_iload S.1 S.2.1 dL_law_1850 (lv_at hl 0 rfl) ?_
      refine lv_iconst (v := 1) S.1 S.2.1 dL_law_1852 (by decide) ?_
      refine r_iadd S dL_law_1853 (v := 1) (by decide) ?_
      refine r_sld S hX hbl hbA hS 1 (by decide) (by decide) (by decide) (v := p1) e1 dL_law_1854 ?_
      refine lv_aload_n S.1 S.2.1 dL_law_1855 rfl (lv_at hl 4 rfl) ?_
      refine lv_iload S.1 S.2.1 dL_law_1856 (lv_at hl 0 rfl) ?_
      refine lv_iconst (v := 2) S.1 S.2.1 dL_law_1858 (by decide) ?_
      refine r_iadd S dL_law_1859 (v := 2) (by decide) ?_
      refine r_sld S hX hbl hbA hS 2 (by decide) (by decide) (by decide) (v := p2) e2 dL_law_1860 ?_
      refine lv_aload_n S.1 S.2.1 dL_law_1861 rfl (lv_at hl 4 rfl) ?_
      refine lv_iload S.1 S.2.1 dL_law_1862 (lv_at hl 0 rfl) ?_
      refine lv_iconst (v := 3) S.1 S.2.1 dL_law_1864 (by decide) ?_
      refine r_iadd S dL_law_1865 (v := 3) (by decide) ?_
      refine r_sld S hX hbl hbA hS 3 (by decide) (by decide) (by decide) (v := p3) e3 dL_law_1866 ?_
      refine r_if_eq S z3 h3 dL_law_1867 (tgt := 1874) (by decide) (fun _ => ?_) (fun c => absurd c (by omega))
      refine lv_iconst (v := 0) S.1 S.2.1 dL_law_1874 (by decide) ?_
      refine call_i (wr := []) (runV_C (wc := [((q 0), .inr (11, (mO q 0 0 0 0 0 0 0 0 (-1) 1 0 0 0 0 0 0 0 0 0))), ((q 82), .inl (cy 1, 96, .inl (fun _ => 0)))]) (As := [.int p1, .int p2, .int 0]) (rest := [.int 0]) S (kX12_question l D cy q p1 p2 0 z1 h1 z2 h2 0 rfl) hK hP hD [0, 1] (by decide) rfl 0 11 rfl rfl kw_2212 kw_2213 kw_2214 kw_152 kw_2215 okX12_question rfl (by decide) hl.1 rfl (Nat.le_of_ble_eq_true rfl) dL_law_1875 (by decide)) hP hD hS hA [0, 1] [] rfl rfl (by decide) (by decide) (fun v1875 u1875 H locs w1875 hP hD hS => ?_)
      have hP : va_P D vwCl [] H := hP
      have hD : va_D A [] := hD
      rcases w1875 with ⟨rfl, w1875_0_0⟩ | ⟨rfl, w1875_1_0⟩
      · exfalso; omega
      · refine r_icmp_eq S 0 0 rfl rfl dL_law_1878 (tgt := 2008) (by decide) (fun _ => ?_) (fun c => absurd c (by decide))
        exact law_on S hr hlk hX hbl hbA hA2 hS (lv_sub hl [0, 4] rfl) (by decide) (by decide)
  · refine lv_iconst (v := 1) S.1 S.2.1 dL_law_1840 (by decide) ?_
    refine lv_goto (tgt := 1845) S.1 S.2.1 dL_law_1841 (by decide) ?_
    refine call_i (wr := [((q 0), .inr (11, (mO q 0 0 0 0 0 0 0 0 (-1) 1 0 0 0 0 0 0 0 0 0))), ((q 82), .inl (cy 1, 96, .inl (fun _ => 0)))]) (runV_C (wc := [((x 0), .inr (10, [.int 0, .int (-1), .ref (x 1), .ref (x 9), .int 0, .ref (x 10), .ref (x 13), .ref (x 16), .ref (x 29), .int 0, .int 0, .ref (x 30), .int 0, .ref (x 31), .ref (x 42), .int 0, .int 0, .null, .ref (x 43)])), ((x 1), .inr (2, [.ref (x 2), .ref (x 3), .ref (x 4), .ref (x 5), .ref (x 6), .int 0, .ref (x 7), .ref (x 8), .int 0])), ((x 6), .inl (cy 1, 96, .inl (fun _ => 0)))]) (As := [.int p1, .int p2, .int 1]) (rest := []) S (kX11_question l D cy x p1 p2 1 z1 h1 z2 h2 1 rfl) hK hP hD [0, 1, 2] (by decide) rfl 0 10 rfl rfl kw_1301 kw_1302 kw_1303 kw_144 kw_1304 okX11_question rfl (by decide) hl.1 rfl (Nat.le_of_ble_eq_true rfl) dL_law_1845 (by decide)) hP hD hS hA [0, 1, 2] [3, 4] rfl rfl (by decide) (by decide) (fun v1845 u1845 H locs w1845 hP hD hS => ?_)
    have hP : va_P D vwCl [((q 0), .inr (11, (mO q 0 0 0 0 0 0 0 0 (-1) 1 0 0 0 0 0 0 0 0 0))), ((q 82), .inl (cy 1, 96, .inl (fun _ => 0)))] H := hP
    have hD : va_D A [((q 0), .inr (11, (mO q 0 0 0 0 0 0 0 0 (-1) 1 0 0 0 0 0 0 0 0 0))), ((q 82), .inl (cy 1, 96, .inl (fun _ => 0)))] := hD
    rcases w1845 with ⟨rfl, w1845_0_0⟩ | ⟨rfl, w1845_1_0⟩
    · refine lv_aload_n S.1 S.2.1 dL_law_1848 rfl (lv_at hl 2 rfl) ?_
      refine lv_aload_n S.1 S.2.1 dL_law_1849 rfl (lv_at hl 4 rfl) ?_
      refine lv_iload S.1 S.2.1 dL_law_1850 (lv_at hl 0 rfl) ?_
      refine lv_iconst (v := 1) S.1 S.2.1 dL_law_1852 (by decide) ?_
      refine r_iadd S dL_law_1853 (v := 1) (by decide) ?_
      refine r_sld S hX hbl hbA hS 1 (by decide) (by decide) (by decide) (v := p1) e1 dL_law_1854 ?_
      refine lv_aload_n S.1 S.2.1 dL_law_1855 rfl (lv_at hl 4 rfl) ?_
      refine lv_iload S.1 S.2.1 dL_law_1856 (lv_at hl 0 rfl) ?_
      refine lv_iconst (v := 2) S.1 S.2.1 dL_law_1858 (by decide) ?_
      refine r_iadd S dL_law_1859 (v := 2) (by decide) ?_
      refine r_sld S hX hbl hbA hS 2 (by decide) (by decide) (by decide) (v := p2) e2 dL_law_1860 ?_
      refine lv_aload_n S.1 S.2.1 dL_law_1861 rfl (lv_at hl 4 rfl) ?_
      refine lv_iload S.1 S.2.1 dL_law_1862 (lv_at hl 0 rfl) ?_
      refine lv_iconst (v := 3) S.1 S.2.1 dL_law_1864 (by decide) ?_
      refine r_iadd S dL_law_1865 (v := 3) (by decide) ?_
      refine r_sld S hX hbl hbA hS 3 (by decide) (by decide) (by decide) (v := p3) e3 dL_law_1866 ?_
      refine r_if_eq S z3 h3 dL_law_1867 (tgt := 1874) (by decide) (fun c => absurd c (by omega)) (fun _ => ?_)
      refine lv_iconst (v := 1) S.1 S.2.1 dL_law_1870 (by decide) ?_
      refine lv_goto (tgt := 1875) S.1 S.2.1 dL_law_1871 (by decide) ?_
      refine call_i (wr := []) (runV_C (wc := [((q 0), .inr (11, (mO q 0 0 0 0 0 0 0 0 (-1) 1 0 0 0 0 0 0 0 0 0))), ((q 82), .inl (cy 1, 96, .inl (fun _ => 0)))]) (As := [.int p1, .int p2, .int 1]) (rest := [.int 1]) S (kX12_question l D cy q p1 p2 1 z1 h1 z2 h2 1 rfl) hK hP hD [0, 1] (by decide) rfl 0 11 rfl rfl kw_2212 kw_2213 kw_2214 kw_152 kw_2215 okX12_question rfl (by decide) hl.1 rfl (Nat.le_of_ble_eq_true rfl) dL_law_1875 (by decide)) hP hD hS hA [0, 1] [] rfl rfl (by decide) (by decide) (fun v1875 u1875 H locs w1875 hP hD hS => ?_)
      have hP : va_P D vwCl [] H := hP
      have hD : va_D A [] := hD
      rcases w1875 with ⟨rfl, w1875_0_0⟩ | ⟨rfl, w1875_1_0⟩
      · refine r_icmp_eq S 1 1 rfl rfl dL_law_1878 (tgt := 2008) (by decide) (fun _ => ?_) (fun c => absurd c (by decide))
        exact law_on S hr hlk hX hbl hbA hA2 hS (lv_sub hl [0, 4] rfl) (by decide) (by decide)
      · exfalso; omega
    · refine lv_aload_n S.1 S.2.1 dL_law_1848 rfl (lv_at hl 2 rfl) ?_
      refine lv_aload_n S.1 S.2.1 dL_law_1849 rfl (lv_at hl 4 rfl) ?_
      refine lv_iload S.1 S.2.1 dL_law_1850 (lv_at hl 0 rfl) ?_
      refine lv_iconst (v := 1) S.1 S.2.1 dL_law_1852 (by decide) ?_
      refine r_iadd S dL_law_1853 (v := 1) (by decide) ?_
      refine r_sld S hX hbl hbA hS 1 (by decide) (by decide) (by decide) (v := p1) e1 dL_law_1854 ?_
      refine lv_aload_n S.1 S.2.1 dL_law_1855 rfl (lv_at hl 4 rfl) ?_
      refine lv_iload S.1 S.2.1 dL_law_1856 (lv_at hl 0 rfl) ?_
      refine lv_iconst (v := 2) S.1 S.2.1 dL_law_1858 (by decide) ?_
      refine r_iadd S dL_law_1859 (v := 2) (by decide) ?_
      refine r_sld S hX hbl hbA hS 2 (by decide) (by decide) (by decide) (v := p2) e2 dL_law_1860 ?_
      refine lv_aload_n S.1 S.2.1 dL_law_1861 rfl (lv_at hl 4 rfl) ?_
      refine lv_iload S.1 S.2.1 dL_law_1862 (lv_at hl 0 rfl) ?_
      refine lv_iconst (v := 3) S.1 S.2.1 dL_law_1864 (by decide) ?_
      refine r_iadd S dL_law_1865 (v := 3) (by decide) ?_
      refine r_sld S hX hbl hbA hS 3 (by decide) (by decide) (by decide) (v := p3) e3 dL_law_1866 ?_
      refine r_if_eq S z3 h3 dL_law_1867 (tgt := 1874) (by decide) (fun c => absurd c (by omega)) (fun _ => ?_)
      refine lv_iconst (v := 1) S.1 S.2.1 dL_law_1870 (by decide) ?_
      refine lv_goto (tgt := 1875) S.1 S.2.1 dL_law_1871 (by decide) ?_
      refine call_i (wr := []) (runV_C (wc := [((q 0), .inr (11, (mO q 0 0 0 0 0 0 0 0 (-1) 1 0 0 0 0 0 0 0 0 0))), ((q 82), .inl (cy 1, 96, .inl (fun _ => 0)))]) (As := [.int p1, .int p2, .int 1]) (rest := [.int 0]) S (kX12_question l D cy q p1 p2 1 z1 h1 z2 h2 1 rfl) hK hP hD [0, 1] (by decide) rfl 0 11 rfl rfl kw_2212 kw_2213 kw_2214 kw_152 kw_2215 okX12_question rfl (by decide) hl.1 rfl (Nat.le_of_ble_eq_true rfl) dL_law_1875 (by decide)) hP hD hS hA [0, 1] [] rfl rfl (by decide) (by decide) (fun v1875 u1875 H locs w1875 hP hD hS => ?_)
      have hP : va_P D vwCl [] H := hP
      have hD : va_D A [] := hD
      rcases w1875 with ⟨rfl, w1875_0_0⟩ | ⟨rfl, w1875_1_0⟩
      · exfalso; omega
      · refine r_icmp_eq S 0 0 rfl rfl dL_law_1878 (tgt := 2008) (by decide) (fun _ => ?_) (fun c => absurd c (by decide))
        exact law_on S hr hlk hX hbl hbA hA2 hS (lv_sub hl [0, 4] rfl) (by decide) (by decide)
set_option maxHeartbeats 4000000 in
set_option maxRecDepth 100000 in
theorem law_c31 (l : Launch) (hst : l.stackTraces = false) {p : Program} {e : Env} {s : State} {m : MethodId} {below : List Frame} {meth : Method} {c : Code} {H : Heap} {locs : List Loc} {ls : Array Slot} {D : va_G} {cy : Nat → ClassId} {b : Nat} {xs : Nat → Int32} {A : Nat → Prop} {x q : Nat → Nat} {o : Nat} (S : CallFix p m c cL_law 7 s #[Value.ref b] uu "LandSurveyLaw") (hr : meth.sig.returnType = ret) (hlk : meth.locks = false) (hX : va_X b 8 xs s s.heap) (hbl : b < s.heap.size) (hbA : ¬ A b) (hA : ∀ q : Nat, s.heap.size ≤ q → A q) (hA2 : ∀ q : Nat, A q → s.heap.size ≤ q) (hK : KX D cy s) (hE : Ey s) (hZ : Zs A s s.heap) (hP : va_P D vwCl [((x 0), .inr (10, [.int 0, .int (-1), .ref (x 1), .ref (x 9), .int 0, .ref (x 10), .ref (x 13), .ref (x 16), .ref (x 29), .int 0, .int 0, .ref (x 30), .int 0, .ref (x 31), .ref (x 42), .int 0, .int 0, .null, .ref (x 43)])), ((x 1), .inr (2, [.ref (x 2), .ref (x 3), .ref (x 4), .ref (x 5), .ref (x 6), .int 0, .ref (x 7), .ref (x 8), .int 0])), ((x 7), .inl (cy 0, 8, .inl (fun _ => 0))), ((x 8), .inl (cy 0, 8, .inl (fun _ => 0))), ((q 0), .inr (11, (mO q 0 0 0 0 0 0 0 0 (-1) 1 0 0 0 0 0 0 0 0 0))), ((q 84), .inl (cy 0, 8, .inl (fun _ => 0))), ((q 85), .inl (cy 0, 8, .inl (fun _ => 0)))] H) (hD : va_D A [((x 0), .inr (10, [.int 0, .int (-1), .ref (x 1), .ref (x 9), .int 0, .ref (x 10), .ref (x 13), .ref (x 16), .ref (x 29), .int 0, .int 0, .ref (x 30), .int 0, .ref (x 31), .ref (x 42), .int 0, .int 0, .null, .ref (x 43)])), ((x 1), .inr (2, [.ref (x 2), .ref (x 3), .ref (x 4), .ref (x 5), .ref (x 6), .int 0, .ref (x 7), .ref (x 8), .int 0])), ((x 7), .inl (cy 0, 8, .inl (fun _ => 0))), ((x 8), .inl (cy 0, 8, .inl (fun _ => 0))), ((q 0), .inr (11, (mO q 0 0 0 0 0 0 0 0 (-1) 1 0 0 0 0 0 0 0 0 0))), ((q 84), .inl (cy 0, 8, .inl (fun _ => 0))), ((q 85), .inl (cy 0, 8, .inl (fun _ => 0)))]) (hS : va_S A s.heap H locs) (hl : lv_has ls 7 [(4, .int 0), (3, .ref o), (2, .ref (q 0)), (1, .ref (x 0)), (0, .ref b)]) : W p l e room_1 s m #[Value.ref b] below meth c H locs 114 51906 (lw_Z below #[Value.ref b] s) (F0 m 1883 ls []) := by
  obtain ⟨p1, e1⟩ : ∃ y, xs 1 = y := ⟨_, rfl⟩
  obtain ⟨z1, h1⟩ : ∃ z, p1.toInt = z := ⟨_, rfl⟩
  obtain ⟨p2, e2⟩ : ∃ y, xs 2 = y := ⟨_, rfl⟩
  obtain ⟨z2, h2⟩ : ∃ z, p2.toInt = z := ⟨_, rfl⟩
  obtain ⟨p3, e3⟩ : ∃ y, xs 3 = y := ⟨_, rfl⟩
  obtain ⟨z3, h3⟩ : ∃ z, p3.toInt = z := ⟨_, rfl⟩
  obtain ⟨p4, e4⟩ : ∃ y, xs 4 = y := ⟨_, rfl⟩
  obtain ⟨z4, h4⟩ : ∃ z, p4.toInt = z := ⟨_, rfl⟩
  obtain ⟨p5, e5⟩ : ∃ y, xs 5 = y := ⟨_, rfl⟩
  obtain ⟨z5, h5⟩ : ∃ z, p5.toInt = z := ⟨_, rfl⟩
  obtain ⟨p6, e6⟩ : ∃ y, xs 6 = y := ⟨_, rfl⟩
  obtain ⟨z6, h6⟩ : ∃ z, p6.toInt = z := ⟨_, rfl⟩
  obtain ⟨p7, e7⟩ : ∃ y, xs 7 = y := ⟨_, rfl⟩
  obtain ⟨z7, h7⟩ : ∃ z, p7.toInt = z := ⟨_, rfl⟩
  refine lv_aload_n S.1 S.2.1 dL_law_1883 rfl (lv_at hl 3 rfl) ?_
  refine lv_aload_n S.1 S.2.1 dL_law_1884 rfl (lv_at hl 4 rfl) ?_
  refine lv_iload S.1 S.2.1 dL_law_1885 (lv_at hl 0 rfl) ?_
  refine lv_iconst (v := 1) S.1 S.2.1 dL_law_1887 (by decide) ?_
  refine r_iadd S dL_law_1888 (v := 1) (by decide) ?_
  refine r_sld S hX hbl hbA hS 1 (by decide) (by decide) (by decide) (v := p1) e1 dL_law_1889 ?_
  refine lv_aload_n S.1 S.2.1 dL_law_1890 rfl (lv_at hl 4 rfl) ?_
  refine lv_iload S.1 S.2.1 dL_law_1891 (lv_at hl 0 rfl) ?_
  refine lv_iconst (v := 2) S.1 S.2.1 dL_law_1893 (by decide) ?_
  refine r_iadd S dL_law_1894 (v := 2) (by decide) ?_
  refine r_sld S hX hbl hbA hS 2 (by decide) (by decide) (by decide) (v := p2) e2 dL_law_1895 ?_
  refine lv_aload_n S.1 S.2.1 dL_law_1896 rfl (lv_at hl 4 rfl) ?_
  refine lv_iload S.1 S.2.1 dL_law_1897 (lv_at hl 0 rfl) ?_
  refine lv_iconst (v := 3) S.1 S.2.1 dL_law_1899 (by decide) ?_
  refine r_iadd S dL_law_1900 (v := 3) (by decide) ?_
  refine r_sld S hX hbl hbA hS 3 (by decide) (by decide) (by decide) (v := p3) e3 dL_law_1901 ?_
  refine call_i (wr := [((q 0), .inr (11, (mO q 0 0 0 0 0 0 0 0 (-1) 1 0 0 0 0 0 0 0 0 0))), ((q 84), .inl (cy 0, 8, .inl (fun _ => 0))), ((q 85), .inl (cy 0, 8, .inl (fun _ => 0)))]) (runV_C (wc := [((x 0), .inr (10, [.int 0, .int (-1), .ref (x 1), .ref (x 9), .int 0, .ref (x 10), .ref (x 13), .ref (x 16), .ref (x 29), .int 0, .int 0, .ref (x 30), .int 0, .ref (x 31), .ref (x 42), .int 0, .int 0, .null, .ref (x 43)])), ((x 1), .inr (2, [.ref (x 2), .ref (x 3), .ref (x 4), .ref (x 5), .ref (x 6), .int 0, .ref (x 7), .ref (x 8), .int 0])), ((x 7), .inl (cy 0, 8, .inl (fun _ => 0))), ((x 8), .inl (cy 0, 8, .inl (fun _ => 0)))]) (As := [.int p1, .int p2, .int p3]) (rest := []) S (kX11_place l D cy x p1 p2 p3 z1 h1 z2 h2 z3 h3) hK hP hD [0, 1, 2, 3] (by decide) rfl 0 10 rfl rfl kw_1305 kw_1306 kw_1307 kw_144 kw_1308 okX11_place rfl (by decide) hl.1 rfl (Nat.le_of_ble_eq_true rfl) dL_law_1902 (by decide)) hP hD hS hA [0, 1, 2, 3] [4, 5, 6] rfl rfl (by decide) (by decide) (fun v1902 u1902 H locs w1902 hP hD hS => ?_)
  have hP : va_P D vwCl [((q 0), .inr (11, (mO q 0 0 0 0 0 0 0 0 (-1) 1 0 0 0 0 0 0 0 0 0))), ((q 84), .inl (cy 0, 8, .inl (fun _ => 0))), ((q 85), .inl (cy 0, 8, .inl (fun _ => 0)))] H := hP
  have hD : va_D A [((q 0), .inr (11, (mO q 0 0 0 0 0 0 0 0 (-1) 1 0 0 0 0 0 0 0 0 0))), ((q 84), .inl (cy 0, 8, .inl (fun _ => 0))), ((q 85), .inl (cy 0, 8, .inl (fun _ => 0)))] := hD
  rcases w1902 with ⟨rfl, w1902_0_0⟩ | ⟨rfl, w1902_1_0⟩
  · refine lv_aload_n S.1 S.2.1 dL_law_1905 rfl (lv_at hl 2 rfl) ?_
    refine lv_aload_n S.1 S.2.1 dL_law_1906 rfl (lv_at hl 4 rfl) ?_
    refine lv_iload S.1 S.2.1 dL_law_1907 (lv_at hl 0 rfl) ?_
    refine lv_iconst (v := 1) S.1 S.2.1 dL_law_1909 (by decide) ?_
    refine r_iadd S dL_law_1910 (v := 1) (by decide) ?_
    refine r_sld S hX hbl hbA hS 1 (by decide) (by decide) (by decide) (v := p1) e1 dL_law_1911 ?_
    refine lv_aload_n S.1 S.2.1 dL_law_1912 rfl (lv_at hl 4 rfl) ?_
    refine lv_iload S.1 S.2.1 dL_law_1913 (lv_at hl 0 rfl) ?_
    refine lv_iconst (v := 2) S.1 S.2.1 dL_law_1915 (by decide) ?_
    refine r_iadd S dL_law_1916 (v := 2) (by decide) ?_
    refine r_sld S hX hbl hbA hS 2 (by decide) (by decide) (by decide) (v := p2) e2 dL_law_1917 ?_
    refine lv_aload_n S.1 S.2.1 dL_law_1918 rfl (lv_at hl 4 rfl) ?_
    refine lv_iload S.1 S.2.1 dL_law_1919 (lv_at hl 0 rfl) ?_
    refine lv_iconst (v := 3) S.1 S.2.1 dL_law_1921 (by decide) ?_
    refine r_iadd S dL_law_1922 (v := 3) (by decide) ?_
    refine r_sld S hX hbl hbA hS 3 (by decide) (by decide) (by decide) (v := p3) e3 dL_law_1923 ?_
    refine call_i (wr := []) (runV_C (wc := [((q 0), .inr (11, (mO q 0 0 0 0 0 0 0 0 (-1) 1 0 0 0 0 0 0 0 0 0))), ((q 84), .inl (cy 0, 8, .inl (fun _ => 0))), ((q 85), .inl (cy 0, 8, .inl (fun _ => 0)))]) (As := [.int p1, .int p2, .int p3]) (rest := [.int 0]) S (kX12_place l D cy q p1 p2 p3 z1 h1 z2 h2 z3 h3) hK hP hD [0, 1, 2] (by decide) rfl 0 11 rfl rfl kw_2220 kw_2221 kw_2222 kw_152 kw_2223 okX12_place rfl (by decide) hl.1 rfl (Nat.le_of_ble_eq_true rfl) dL_law_1924 (by decide)) hP hD hS hA [0, 1, 2] [] rfl rfl (by decide) (by decide) (fun v1924 u1924 H locs w1924 hP hD hS => ?_)
    have hP : va_P D vwCl [] H := hP
    have hD : va_D A [] := hD
    rcases w1924 with ⟨rfl, w1924_0_0⟩ | ⟨rfl, w1924_1_0⟩
    · refine r_icmp_eq S 0 0 rfl rfl dL_law_1927 (tgt := 2008) (by decide) (fun _ => ?_) (fun c => absurd c (by decide))
      exact law_on S hr hlk hX hbl hbA hA2 hS (lv_sub hl [0, 4] rfl) (by decide) (by decide)
    · exfalso; omega
  · refine lv_aload_n S.1 S.2.1 dL_law_1905 rfl (lv_at hl 2 rfl) ?_
    refine lv_aload_n S.1 S.2.1 dL_law_1906 rfl (lv_at hl 4 rfl) ?_
    refine lv_iload S.1 S.2.1 dL_law_1907 (lv_at hl 0 rfl) ?_
    refine lv_iconst (v := 1) S.1 S.2.1 dL_law_1909 (by decide) ?_
    refine r_iadd S dL_law_1910 (v := 1) (by decide) ?_
    refine r_sld S hX hbl hbA hS 1 (by decide) (by decide) (by decide) (v := p1) e1 dL_law_1911 ?_
    refine lv_aload_n S.1 S.2.1 dL_law_1912 rfl (lv_at hl 4 rfl) ?_
    refine lv_iload S.1 S.2.1 dL_law_1913 (lv_at hl 0 rfl) ?_
    refine lv_iconst (v := 2) S.1 S.2.1 dL_law_1915 (by decide) ?_
    refine r_iadd S dL_law_1916 (v := 2) (by decide) ?_
    refine r_sld S hX hbl hbA hS 2 (by decide) (by decide) (by decide) (v := p2) e2 dL_law_1917 ?_
    refine lv_aload_n S.1 S.2.1 dL_law_1918 rfl (lv_at hl 4 rfl) ?_
    refine lv_iload S.1 S.2.1 dL_law_1919 (lv_at hl 0 rfl) ?_
    refine lv_iconst (v := 3) S.1 S.2.1 dL_law_1921 (by decide) ?_
    refine r_iadd S dL_law_1922 (v := 3) (by decide) ?_
    refine r_sld S hX hbl hbA hS 3 (by decide) (by decide) (by decide) (v := p3) e3 dL_law_1923 ?_
    refine call_i (wr := []) (runV_C (wc := [((q 0), .inr (11, (mO q 0 0 0 0 0 0 0 0 (-1) 1 0 0 0 0 0 0 0 0 0))), ((q 84), .inl (cy 0, 8, .inl (fun _ => 0))), ((q 85), .inl (cy 0, 8, .inl (fun _ => 0)))]) (As := [.int p1, .int p2, .int p3]) (rest := [.int (-1)]) S (kX12_place l D cy q p1 p2 p3 z1 h1 z2 h2 z3 h3) hK hP hD [0, 1, 2] (by decide) rfl 0 11 rfl rfl kw_2220 kw_2221 kw_2222 kw_152 kw_2223 okX12_place rfl (by decide) hl.1 rfl (Nat.le_of_ble_eq_true rfl) dL_law_1924 (by decide)) hP hD hS hA [0, 1, 2] [] rfl rfl (by decide) (by decide) (fun v1924 u1924 H locs w1924 hP hD hS => ?_)
    have hP : va_P D vwCl [] H := hP
    have hD : va_D A [] := hD
    rcases w1924 with ⟨rfl, w1924_0_0⟩ | ⟨rfl, w1924_1_0⟩
    · exfalso; omega
    · refine r_icmp_eq S (-1) (-1) rfl rfl dL_law_1927 (tgt := 2008) (by decide) (fun _ => ?_) (fun c => absurd c (by decide))
      exact law_on S hr hlk hX hbl hbA hA2 hS (lv_sub hl [0, 4] rfl) (by decide) (by decide)
set_option maxHeartbeats 4000000 in
set_option maxRecDepth 100000 in
theorem law_c32 (l : Launch) (hst : l.stackTraces = false) {p : Program} {e : Env} {s : State} {m : MethodId} {below : List Frame} {meth : Method} {c : Code} {H : Heap} {locs : List Loc} {ls : Array Slot} {D : va_G} {cy : Nat → ClassId} {b : Nat} {xs : Nat → Int32} {A : Nat → Prop} {x q : Nat → Nat} {o : Nat} (S : CallFix p m c cL_law 7 s #[Value.ref b] uu "LandSurveyLaw") (hr : meth.sig.returnType = ret) (hlk : meth.locks = false) (hX : va_X b 8 xs s s.heap) (hbl : b < s.heap.size) (hbA : ¬ A b) (hA : ∀ q : Nat, s.heap.size ≤ q → A q) (hA2 : ∀ q : Nat, A q → s.heap.size ≤ q) (hK : KX D cy s) (hE : Ey s) (hZ : Zs A s s.heap) (hP : va_P D vwCl [((x 0), .inr (10, [.int 0, .int (-1), .ref (x 1), .ref (x 9), .int 0, .ref (x 10), .ref (x 13), .ref (x 16), .ref (x 29), .int 0, .int 0, .ref (x 30), .int 0, .ref (x 31), .ref (x 42), .int 0, .int 0, .null, .ref (x 43)])), ((x 13), .inr (4, [.ref (x 14), .ref (x 15), .int 0, .ref (x 16)])), ((x 16), .inr (5, [.int 0, .ref (x 17), .ref (x 18), .ref (x 19), .ref (x 20), .ref (x 21), .int 0, .int 10, .int 20, .int 0, .int 0, .ref (x 22), .ref (x 23), .int 0, .ref (x 24), .ref (x 25), .ref (x 26), .ref (x 27), .ref (x 28)])), ((x 42), .inl (cy 7, 16, .inr (.inr (.inr (.inr (fun _ => none)))))), ((x 31), .inr (6, [.ref (x 32), .ref (x 9), .ref (x 29), .int 0, .int 0, .int 0, .ref (x 36), .ref (x 37), .ref (x 38), .ref (x 39), .ref (x 40), .ref (x 41), .int 0])), ((x 32), .inr (9, [.ref (x 33), .ref (x 34), .ref (x 35), .int 0])), ((x 33), .inl (cy 0, 384, .inl (fun _ => 0))), ((x 34), .inl (cy 2, 384, .inr (.inl (fun _ => 0)))), ((x 35), .inl (cy 0, 96, .inl (fun _ => 0))), ((x 36), .inl (cy 0, 96, .inl (fun _ => 0))), ((x 38), .inl (cy 0, 96, .inl (fun _ => 0))), ((q 0), .inr (11, (mO q 0 0 0 0 0 0 0 0 (-1) 1 0 0 0 0 0 0 0 0 0))), ((q 63), .inl (cy 0, 600, .inl (fun _ => 0))), ((q 64), .inl (cy 0, 600, .inl (fun _ => 0))), ((q 65), .inl (cy 0, 600, .inl (fun _ => 0))), ((q 66), .inl (cy 0, 600, .inl (fun _ => 0))), ((q 67), .inl (cy 0, 97, .inl (fun _ => 0))), ((q 68), .inl (cy 0, 97, .inl (fun _ => 0))), ((q 70), .inl (cy 1, 16, .inl (fun _ => 0))), ((q 71), .inl (cy 0, 16, .inl (fun _ => 0))), ((q 72), .inl (cy 2, 16, .inr (.inl (fun _ => 0)))), ((q 73), .inl (cy 1, 16, .inl (fun _ => 0))), ((q 74), .inl (cy 1, 16, .inl (fun _ => 0)))] H) (hD : va_D A [((x 0), .inr (10, [.int 0, .int (-1), .ref (x 1), .ref (x 9), .int 0, .ref (x 10), .ref (x 13), .ref (x 16), .ref (x 29), .int 0, .int 0, .ref (x 30), .int 0, .ref (x 31), .ref (x 42), .int 0, .int 0, .null, .ref (x 43)])), ((x 13), .inr (4, [.ref (x 14), .ref (x 15), .int 0, .ref (x 16)])), ((x 16), .inr (5, [.int 0, .ref (x 17), .ref (x 18), .ref (x 19), .ref (x 20), .ref (x 21), .int 0, .int 10, .int 20, .int 0, .int 0, .ref (x 22), .ref (x 23), .int 0, .ref (x 24), .ref (x 25), .ref (x 26), .ref (x 27), .ref (x 28)])), ((x 42), .inl (cy 7, 16, .inr (.inr (.inr (.inr (fun _ => none)))))), ((x 31), .inr (6, [.ref (x 32), .ref (x 9), .ref (x 29), .int 0, .int 0, .int 0, .ref (x 36), .ref (x 37), .ref (x 38), .ref (x 39), .ref (x 40), .ref (x 41), .int 0])), ((x 32), .inr (9, [.ref (x 33), .ref (x 34), .ref (x 35), .int 0])), ((x 33), .inl (cy 0, 384, .inl (fun _ => 0))), ((x 34), .inl (cy 2, 384, .inr (.inl (fun _ => 0)))), ((x 35), .inl (cy 0, 96, .inl (fun _ => 0))), ((x 36), .inl (cy 0, 96, .inl (fun _ => 0))), ((x 38), .inl (cy 0, 96, .inl (fun _ => 0))), ((q 0), .inr (11, (mO q 0 0 0 0 0 0 0 0 (-1) 1 0 0 0 0 0 0 0 0 0))), ((q 63), .inl (cy 0, 600, .inl (fun _ => 0))), ((q 64), .inl (cy 0, 600, .inl (fun _ => 0))), ((q 65), .inl (cy 0, 600, .inl (fun _ => 0))), ((q 66), .inl (cy 0, 600, .inl (fun _ => 0))), ((q 67), .inl (cy 0, 97, .inl (fun _ => 0))), ((q 68), .inl (cy 0, 97, .inl (fun _ => 0))), ((q 70), .inl (cy 1, 16, .inl (fun _ => 0))), ((q 71), .inl (cy 0, 16, .inl (fun _ => 0))), ((q 72), .inl (cy 2, 16, .inr (.inl (fun _ => 0)))), ((q 73), .inl (cy 1, 16, .inl (fun _ => 0))), ((q 74), .inl (cy 1, 16, .inl (fun _ => 0)))]) (hS : va_S A s.heap H locs) (hl : lv_has ls 7 [(4, .int 0), (3, .ref o), (2, .ref (q 0)), (1, .ref (x 0)), (0, .ref b)]) : W p l e room_1 s m #[Value.ref b] below meth c H locs 114 51906 (lw_Z below #[Value.ref b] s) (F0 m 1932 ls []) := by
  obtain ⟨p1, e1⟩ : ∃ y, xs 1 = y := ⟨_, rfl⟩
  obtain ⟨z1, h1⟩ : ∃ z, p1.toInt = z := ⟨_, rfl⟩
  obtain ⟨p2, e2⟩ : ∃ y, xs 2 = y := ⟨_, rfl⟩
  obtain ⟨z2, h2⟩ : ∃ z, p2.toInt = z := ⟨_, rfl⟩
  obtain ⟨p3, e3⟩ : ∃ y, xs 3 = y := ⟨_, rfl⟩
  obtain ⟨z3, h3⟩ : ∃ z, p3.toInt = z := ⟨_, rfl⟩
  obtain ⟨p4, e4⟩ : ∃ y, xs 4 = y := ⟨_, rfl⟩
  obtain ⟨z4, h4⟩ : ∃ z, p4.toInt = z := ⟨_, rfl⟩
  obtain ⟨p5, e5⟩ : ∃ y, xs 5 = y := ⟨_, rfl⟩
  obtain ⟨z5, h5⟩ : ∃ z, p5.toInt = z := ⟨_, rfl⟩
  obtain ⟨p6, e6⟩ : ∃ y, xs 6 = y := ⟨_, rfl⟩
  obtain ⟨z6, h6⟩ : ∃ z, p6.toInt = z := ⟨_, rfl⟩
  obtain ⟨p7, e7⟩ : ∃ y, xs 7 = y := ⟨_, rfl⟩
  obtain ⟨z7, h7⟩ : ∃ z, p7.toInt = z := ⟨_, rfl⟩
  refine lv_aload_n S.1 S.2.1 dL_law_1932 rfl (lv_at hl 3 rfl) ?_
  refine call_i (wr := [((q 0), .inr (11, (mO q 0 0 0 0 0 0 0 0 (-1) 1 0 0 0 0 0 0 0 0 0))), ((q 63), .inl (cy 0, 600, .inl (fun _ => 0))), ((q 64), .inl (cy 0, 600, .inl (fun _ => 0))), ((q 65), .inl (cy 0, 600, .inl (fun _ => 0))), ((q 66), .inl (cy 0, 600, .inl (fun _ => 0))), ((q 67), .inl (cy 0, 97, .inl (fun _ => 0))), ((q 68), .inl (cy 0, 97, .inl (fun _ => 0))), ((q 70), .inl (cy 1, 16, .inl (fun _ => 0))), ((q 71), .inl (cy 0, 16, .inl (fun _ => 0))), ((q 72), .inl (cy 2, 16, .inr (.inl (fun _ => 0)))), ((q 73), .inl (cy 1, 16, .inl (fun _ => 0))), ((q 74), .inl (cy 1, 16, .inl (fun _ => 0)))]) (runV_C (wc := [((x 0), .inr (10, [.int 0, .int (-1), .ref (x 1), .ref (x 9), .int 0, .ref (x 10), .ref (x 13), .ref (x 16), .ref (x 29), .int 0, .int 0, .ref (x 30), .int 0, .ref (x 31), .ref (x 42), .int 0, .int 0, .null, .ref (x 43)])), ((x 13), .inr (4, [.ref (x 14), .ref (x 15), .int 0, .ref (x 16)])), ((x 16), .inr (5, [.int 0, .ref (x 17), .ref (x 18), .ref (x 19), .ref (x 20), .ref (x 21), .int 0, .int 10, .int 20, .int 0, .int 0, .ref (x 22), .ref (x 23), .int 0, .ref (x 24), .ref (x 25), .ref (x 26), .ref (x 27), .ref (x 28)])), ((x 42), .inl (cy 7, 16, .inr (.inr (.inr (.inr (fun _ => none)))))), ((x 31), .inr (6, [.ref (x 32), .ref (x 9), .ref (x 29), .int 0, .int 0, .int 0, .ref (x 36), .ref (x 37), .ref (x 38), .ref (x 39), .ref (x 40), .ref (x 41), .int 0])), ((x 32), .inr (9, [.ref (x 33), .ref (x 34), .ref (x 35), .int 0])), ((x 33), .inl (cy 0, 384, .inl (fun _ => 0))), ((x 34), .inl (cy 2, 384, .inr (.inl (fun _ => 0)))), ((x 35), .inl (cy 0, 96, .inl (fun _ => 0))), ((x 36), .inl (cy 0, 96, .inl (fun _ => 0))), ((x 38), .inl (cy 0, 96, .inl (fun _ => 0)))]) (As := []) (rest := []) S (kX11_doubt l D cy x) hK hP hD [0, 1, 2, 3, 4, 5, 6, 7, 8, 9, 10] (by decide) rfl 0 10 rfl rfl kw_1309 kw_1310 kw_1311 kw_144 kw_1312 okX11_doubt rfl (by decide) hl.1 rfl (Nat.le_of_ble_eq_true rfl) dL_law_1933 (by decide)) hP hD hS hA [0, 1, 2, 3, 4, 5, 6, 7, 8, 9, 10] [11, 12, 13, 14, 15, 16, 17, 18, 19, 20, 21, 22] rfl rfl (by decide) (by decide) (fun v1933 u1933 H locs w1933 hP hD hS => ?_)
  have hP : va_P D vwCl [((q 0), .inr (11, (mO q 0 0 0 0 0 0 0 0 (-1) 1 0 0 0 0 0 0 0 0 0))), ((q 63), .inl (cy 0, 600, .inl (fun _ => 0))), ((q 64), .inl (cy 0, 600, .inl (fun _ => 0))), ((q 65), .inl (cy 0, 600, .inl (fun _ => 0))), ((q 66), .inl (cy 0, 600, .inl (fun _ => 0))), ((q 67), .inl (cy 0, 97, .inl (fun _ => 0))), ((q 68), .inl (cy 0, 97, .inl (fun _ => 0))), ((q 70), .inl (cy 1, 16, .inl (fun _ => 0))), ((q 71), .inl (cy 0, 16, .inl (fun _ => 0))), ((q 72), .inl (cy 2, 16, .inr (.inl (fun _ => 0)))), ((q 73), .inl (cy 1, 16, .inl (fun _ => 0))), ((q 74), .inl (cy 1, 16, .inl (fun _ => 0)))] H := hP
  have hD : va_D A [((q 0), .inr (11, (mO q 0 0 0 0 0 0 0 0 (-1) 1 0 0 0 0 0 0 0 0 0))), ((q 63), .inl (cy 0, 600, .inl (fun _ => 0))), ((q 64), .inl (cy 0, 600, .inl (fun _ => 0))), ((q 65), .inl (cy 0, 600, .inl (fun _ => 0))), ((q 66), .inl (cy 0, 600, .inl (fun _ => 0))), ((q 67), .inl (cy 0, 97, .inl (fun _ => 0))), ((q 68), .inl (cy 0, 97, .inl (fun _ => 0))), ((q 70), .inl (cy 1, 16, .inl (fun _ => 0))), ((q 71), .inl (cy 0, 16, .inl (fun _ => 0))), ((q 72), .inl (cy 2, 16, .inr (.inl (fun _ => 0)))), ((q 73), .inl (cy 1, 16, .inl (fun _ => 0))), ((q 74), .inl (cy 1, 16, .inl (fun _ => 0)))] := hD
  subst w1933
  refine lv_aload_n S.1 S.2.1 dL_law_1936 rfl (lv_at hl 2 rfl) ?_
  refine call_i (wr := []) (runV_C (wc := [((q 0), .inr (11, (mO q 0 0 0 0 0 0 0 0 (-1) 1 0 0 0 0 0 0 0 0 0))), ((q 63), .inl (cy 0, 600, .inl (fun _ => 0))), ((q 64), .inl (cy 0, 600, .inl (fun _ => 0))), ((q 65), .inl (cy 0, 600, .inl (fun _ => 0))), ((q 66), .inl (cy 0, 600, .inl (fun _ => 0))), ((q 67), .inl (cy 0, 97, .inl (fun _ => 0))), ((q 68), .inl (cy 0, 97, .inl (fun _ => 0))), ((q 70), .inl (cy 1, 16, .inl (fun _ => 0))), ((q 71), .inl (cy 0, 16, .inl (fun _ => 0))), ((q 72), .inl (cy 2, 16, .inr (.inl (fun _ => 0)))), ((q 73), .inl (cy 1, 16, .inl (fun _ => 0))), ((q 74), .inl (cy 1, 16, .inl (fun _ => 0)))]) (As := []) (rest := [.int (-1)]) S (kX12_doubt l D cy q) hK hP hD [0, 1, 2, 3, 4, 5, 6, 7, 8, 9, 10, 11] (by decide) rfl 0 11 rfl rfl kw_2224 kw_2225 kw_2226 kw_152 kw_2227 okX12_doubt rfl (by decide) hl.1 rfl (Nat.le_of_ble_eq_true rfl) dL_law_1937 (by decide)) hP hD hS hA [0, 1, 2, 3, 4, 5, 6, 7, 8, 9, 10, 11] [] rfl rfl (by decide) (by decide) (fun v1937 u1937 H locs w1937 hP hD hS => ?_)
  have hP : va_P D vwCl [] H := hP
  have hD : va_D A [] := hD
  subst w1937
  refine r_icmp_eq S (-1) (-1) rfl rfl dL_law_1940 (tgt := 2008) (by decide) (fun _ => ?_) (fun c => absurd c (by decide))
  exact law_on S hr hlk hX hbl hbA hA2 hS (lv_sub hl [0, 4] rfl) (by decide) (by decide)
set_option maxHeartbeats 4000000 in
set_option maxRecDepth 100000 in
theorem law_c33 (l : Launch) (hst : l.stackTraces = false) {p : Program} {e : Env} {s : State} {m : MethodId} {below : List Frame} {meth : Method} {c : Code} {H : Heap} {locs : List Loc} {ls : Array Slot} {D : va_G} {cy : Nat → ClassId} {b : Nat} {xs : Nat → Int32} {A : Nat → Prop} {x q : Nat → Nat} {o : Nat} (S : CallFix p m c cL_law 7 s #[Value.ref b] uu "LandSurveyLaw") (hr : meth.sig.returnType = ret) (hlk : meth.locks = false) (hX : va_X b 8 xs s s.heap) (hbl : b < s.heap.size) (hbA : ¬ A b) (hA : ∀ q : Nat, s.heap.size ≤ q → A q) (hA2 : ∀ q : Nat, A q → s.heap.size ≤ q) (hK : KX D cy s) (hE : Ey s) (hZ : Zs A s s.heap) (hP : va_P D vwCl [((x 0), .inr (10, [.int 0, .int (-1), .ref (x 1), .ref (x 9), .int 0, .ref (x 10), .ref (x 13), .ref (x 16), .ref (x 29), .int 0, .int 0, .ref (x 30), .int 0, .ref (x 31), .ref (x 42), .int 0, .int 0, .null, .ref (x 43)])), ((x 1), .inr (2, [.ref (x 2), .ref (x 3), .ref (x 4), .ref (x 5), .ref (x 6), .int 0, .ref (x 7), .ref (x 8), .int 0])), ((q 0), .inr (11, (mO q 0 0 0 0 0 0 0 0 (-1) 1 0 0 0 0 0 0 0 0 0)))] H) (hD : va_D A [((x 0), .inr (10, [.int 0, .int (-1), .ref (x 1), .ref (x 9), .int 0, .ref (x 10), .ref (x 13), .ref (x 16), .ref (x 29), .int 0, .int 0, .ref (x 30), .int 0, .ref (x 31), .ref (x 42), .int 0, .int 0, .null, .ref (x 43)])), ((x 1), .inr (2, [.ref (x 2), .ref (x 3), .ref (x 4), .ref (x 5), .ref (x 6), .int 0, .ref (x 7), .ref (x 8), .int 0])), ((q 0), .inr (11, (mO q 0 0 0 0 0 0 0 0 (-1) 1 0 0 0 0 0 0 0 0 0)))]) (hS : va_S A s.heap H locs) (hl : lv_has ls 7 [(4, .int 0), (3, .ref o), (2, .ref (q 0)), (1, .ref (x 0)), (0, .ref b)]) : W p l e room_1 s m #[Value.ref b] below meth c H locs 114 51906 (lw_Z below #[Value.ref b] s) (F0 m 1945 ls []) := by
  obtain ⟨p1, e1⟩ : ∃ y, xs 1 = y := ⟨_, rfl⟩
  obtain ⟨z1, h1⟩ : ∃ z, p1.toInt = z := ⟨_, rfl⟩
  obtain ⟨p2, e2⟩ : ∃ y, xs 2 = y := ⟨_, rfl⟩
  obtain ⟨z2, h2⟩ : ∃ z, p2.toInt = z := ⟨_, rfl⟩
  obtain ⟨p3, e3⟩ : ∃ y, xs 3 = y := ⟨_, rfl⟩
  obtain ⟨z3, h3⟩ : ∃ z, p3.toInt = z := ⟨_, rfl⟩
  obtain ⟨p4, e4⟩ : ∃ y, xs 4 = y := ⟨_, rfl⟩
  obtain ⟨z4, h4⟩ : ∃ z, p4.toInt = z := ⟨_, rfl⟩
  obtain ⟨p5, e5⟩ : ∃ y, xs 5 = y := ⟨_, rfl⟩
  obtain ⟨z5, h5⟩ : ∃ z, p5.toInt = z := ⟨_, rfl⟩
  obtain ⟨p6, e6⟩ : ∃ y, xs 6 = y := ⟨_, rfl⟩
  obtain ⟨z6, h6⟩ : ∃ z, p6.toInt = z := ⟨_, rfl⟩
  obtain ⟨p7, e7⟩ : ∃ y, xs 7 = y := ⟨_, rfl⟩
  obtain ⟨z7, h7⟩ : ∃ z, p7.toInt = z := ⟨_, rfl⟩
  refine lv_aload_n S.1 S.2.1 dL_law_1945 rfl (lv_at hl 3 rfl) ?_
  refine lv_aload_n S.1 S.2.1 dL_law_1946 rfl (lv_at hl 4 rfl) ?_
  refine lv_iload S.1 S.2.1 dL_law_1947 (lv_at hl 0 rfl) ?_
  refine lv_iconst (v := 1) S.1 S.2.1 dL_law_1949 (by decide) ?_
  refine r_iadd S dL_law_1950 (v := 1) (by decide) ?_
  refine r_sld S hX hbl hbA hS 1 (by decide) (by decide) (by decide) (v := p1) e1 dL_law_1951 ?_
  refine call_i (wr := [((q 0), .inr (11, (mO q 0 0 0 0 0 0 0 0 (-1) 1 0 0 0 0 0 0 0 0 0)))]) (runV_C (wc := [((x 0), .inr (10, [.int 0, .int (-1), .ref (x 1), .ref (x 9), .int 0, .ref (x 10), .ref (x 13), .ref (x 16), .ref (x 29), .int 0, .int 0, .ref (x 30), .int 0, .ref (x 31), .ref (x 42), .int 0, .int 0, .null, .ref (x 43)])), ((x 1), .inr (2, [.ref (x 2), .ref (x 3), .ref (x 4), .ref (x 5), .ref (x 6), .int 0, .ref (x 7), .ref (x 8), .int 0]))]) (As := [.int p1]) (rest := []) S (kX11_left l D cy x p1 z1 h1) hK hP hD [0, 1] (by decide) rfl 0 10 rfl rfl kw_1321 kw_1322 kw_1323 kw_144 kw_1324 okX11_left rfl (by decide) hl.1 rfl (Nat.le_of_ble_eq_true rfl) dL_law_1952 (by decide)) hP hD hS hA [0, 1] [2] rfl rfl (by decide) (by decide) (fun v1952 u1952 H locs w1952 hP hD hS => ?_)
  have hP : va_P D vwCl [((q 0), .inr (11, (mO q 0 0 0 0 0 0 0 0 (-1) 1 0 0 0 0 0 0 0 0 0)))] H := hP
  have hD : va_D A [((q 0), .inr (11, (mO q 0 0 0 0 0 0 0 0 (-1) 1 0 0 0 0 0 0 0 0 0)))] := hD
  subst w1952
  refine lv_aload_n S.1 S.2.1 dL_law_1955 rfl (lv_at hl 2 rfl) ?_
  refine lv_aload_n S.1 S.2.1 dL_law_1956 rfl (lv_at hl 4 rfl) ?_
  refine lv_iload S.1 S.2.1 dL_law_1957 (lv_at hl 0 rfl) ?_
  refine lv_iconst (v := 1) S.1 S.2.1 dL_law_1959 (by decide) ?_
  refine r_iadd S dL_law_1960 (v := 1) (by decide) ?_
  refine r_sld S hX hbl hbA hS 1 (by decide) (by decide) (by decide) (v := p1) e1 dL_law_1961 ?_
  refine call_i (wr := []) (runV_C (wc := [((q 0), .inr (11, (mO q 0 0 0 0 0 0 0 0 (-1) 1 0 0 0 0 0 0 0 0 0)))]) (As := [.int p1]) (rest := [.int (-1)]) S (kX12_left l D cy q p1 z1 h1) hK hP hD [0] (by decide) rfl 0 11 rfl rfl kw_2236 kw_2237 kw_2238 kw_152 kw_2239 okX12_left rfl (by decide) hl.1 rfl (Nat.le_of_ble_eq_true rfl) dL_law_1962 (by decide)) hP hD hS hA [0] [] rfl rfl (by decide) (by decide) (fun v1962 u1962 H locs w1962 hP hD hS => ?_)
  have hP : va_P D vwCl [] H := hP
  have hD : va_D A [] := hD
  subst w1962
  refine r_icmp_eq S (-1) (-1) rfl rfl dL_law_1965 (tgt := 2008) (by decide) (fun _ => ?_) (fun c => absurd c (by decide))
  exact law_on S hr hlk hX hbl hbA hA2 hS (lv_sub hl [0, 4] rfl) (by decide) (by decide)
set_option maxHeartbeats 4000000 in
set_option maxRecDepth 100000 in
theorem law_c34 (l : Launch) (hst : l.stackTraces = false) {p : Program} {e : Env} {s : State} {m : MethodId} {below : List Frame} {meth : Method} {c : Code} {H : Heap} {locs : List Loc} {ls : Array Slot} {D : va_G} {cy : Nat → ClassId} {b : Nat} {xs : Nat → Int32} {A : Nat → Prop} {x q : Nat → Nat} {o : Nat} (S : CallFix p m c cL_law 7 s #[Value.ref b] uu "LandSurveyLaw") (hr : meth.sig.returnType = ret) (hlk : meth.locks = false) (hX : va_X b 8 xs s s.heap) (hbl : b < s.heap.size) (hbA : ¬ A b) (hA : ∀ q : Nat, s.heap.size ≤ q → A q) (hA2 : ∀ q : Nat, A q → s.heap.size ≤ q) (hK : KX D cy s) (hE : Ey s) (hZ : Zs A s s.heap) (hP : va_P D vwCl [((x 0), .inr (10, [.int 0, .int (-1), .ref (x 1), .ref (x 9), .int 0, .ref (x 10), .ref (x 13), .ref (x 16), .ref (x 29), .int 0, .int 0, .ref (x 30), .int 0, .ref (x 31), .ref (x 42), .int 0, .int 0, .null, .ref (x 43)])), ((x 13), .inr (4, [.ref (x 14), .ref (x 15), .int 0, .ref (x 16)])), ((x 16), .inr (5, [.int 0, .ref (x 17), .ref (x 18), .ref (x 19), .ref (x 20), .ref (x 21), .int 0, .int 10, .int 20, .int 0, .int 0, .ref (x 22), .ref (x 23), .int 0, .ref (x 24), .ref (x 25), .ref (x 26), .ref (x 27), .ref (x 28)])), ((x 42), .inl (cy 7, 16, .inr (.inr (.inr (.inr (fun _ => none)))))), ((x 31), .inr (6, [.ref (x 32), .ref (x 9), .ref (x 29), .int 0, .int 0, .int 0, .ref (x 36), .ref (x 37), .ref (x 38), .ref (x 39), .ref (x 40), .ref (x 41), .int 0])), ((x 32), .inr (9, [.ref (x 33), .ref (x 34), .ref (x 35), .int 0])), ((x 33), .inl (cy 0, 384, .inl (fun _ => 0))), ((x 34), .inl (cy 2, 384, .inr (.inl (fun _ => 0)))), ((x 35), .inl (cy 0, 96, .inl (fun _ => 0))), ((x 36), .inl (cy 0, 96, .inl (fun _ => 0))), ((x 38), .inl (cy 0, 96, .inl (fun _ => 0))), ((q 0), .inr (11, (mO q 0 0 0 0 0 0 0 0 (-1) 1 0 0 0 0 0 0 0 0 0))), ((q 63), .inl (cy 0, 600, .inl (fun _ => 0))), ((q 64), .inl (cy 0, 600, .inl (fun _ => 0))), ((q 65), .inl (cy 0, 600, .inl (fun _ => 0))), ((q 66), .inl (cy 0, 600, .inl (fun _ => 0))), ((q 67), .inl (cy 0, 97, .inl (fun _ => 0))), ((q 68), .inl (cy 0, 97, .inl (fun _ => 0))), ((q 70), .inl (cy 1, 16, .inl (fun _ => 0))), ((q 71), .inl (cy 0, 16, .inl (fun _ => 0))), ((q 72), .inl (cy 2, 16, .inr (.inl (fun _ => 0)))), ((q 73), .inl (cy 1, 16, .inl (fun _ => 0))), ((q 74), .inl (cy 1, 16, .inl (fun _ => 0)))] H) (hD : va_D A [((x 0), .inr (10, [.int 0, .int (-1), .ref (x 1), .ref (x 9), .int 0, .ref (x 10), .ref (x 13), .ref (x 16), .ref (x 29), .int 0, .int 0, .ref (x 30), .int 0, .ref (x 31), .ref (x 42), .int 0, .int 0, .null, .ref (x 43)])), ((x 13), .inr (4, [.ref (x 14), .ref (x 15), .int 0, .ref (x 16)])), ((x 16), .inr (5, [.int 0, .ref (x 17), .ref (x 18), .ref (x 19), .ref (x 20), .ref (x 21), .int 0, .int 10, .int 20, .int 0, .int 0, .ref (x 22), .ref (x 23), .int 0, .ref (x 24), .ref (x 25), .ref (x 26), .ref (x 27), .ref (x 28)])), ((x 42), .inl (cy 7, 16, .inr (.inr (.inr (.inr (fun _ => none)))))), ((x 31), .inr (6, [.ref (x 32), .ref (x 9), .ref (x 29), .int 0, .int 0, .int 0, .ref (x 36), .ref (x 37), .ref (x 38), .ref (x 39), .ref (x 40), .ref (x 41), .int 0])), ((x 32), .inr (9, [.ref (x 33), .ref (x 34), .ref (x 35), .int 0])), ((x 33), .inl (cy 0, 384, .inl (fun _ => 0))), ((x 34), .inl (cy 2, 384, .inr (.inl (fun _ => 0)))), ((x 35), .inl (cy 0, 96, .inl (fun _ => 0))), ((x 36), .inl (cy 0, 96, .inl (fun _ => 0))), ((x 38), .inl (cy 0, 96, .inl (fun _ => 0))), ((q 0), .inr (11, (mO q 0 0 0 0 0 0 0 0 (-1) 1 0 0 0 0 0 0 0 0 0))), ((q 63), .inl (cy 0, 600, .inl (fun _ => 0))), ((q 64), .inl (cy 0, 600, .inl (fun _ => 0))), ((q 65), .inl (cy 0, 600, .inl (fun _ => 0))), ((q 66), .inl (cy 0, 600, .inl (fun _ => 0))), ((q 67), .inl (cy 0, 97, .inl (fun _ => 0))), ((q 68), .inl (cy 0, 97, .inl (fun _ => 0))), ((q 70), .inl (cy 1, 16, .inl (fun _ => 0))), ((q 71), .inl (cy 0, 16, .inl (fun _ => 0))), ((q 72), .inl (cy 2, 16, .inr (.inl (fun _ => 0)))), ((q 73), .inl (cy 1, 16, .inl (fun _ => 0))), ((q 74), .inl (cy 1, 16, .inl (fun _ => 0)))]) (hS : va_S A s.heap H locs) (hl : lv_has ls 7 [(4, .int 0), (3, .ref o), (2, .ref (q 0)), (1, .ref (x 0)), (0, .ref b)]) : W p l e room_1 s m #[Value.ref b] below meth c H locs 114 51906 (lw_Z below #[Value.ref b] s) (F0 m 1970 ls []) := by
  obtain ⟨p1, e1⟩ : ∃ y, xs 1 = y := ⟨_, rfl⟩
  obtain ⟨z1, h1⟩ : ∃ z, p1.toInt = z := ⟨_, rfl⟩
  obtain ⟨p2, e2⟩ : ∃ y, xs 2 = y := ⟨_, rfl⟩
  obtain ⟨z2, h2⟩ : ∃ z, p2.toInt = z := ⟨_, rfl⟩
  obtain ⟨p3, e3⟩ : ∃ y, xs 3 = y := ⟨_, rfl⟩
  obtain ⟨z3, h3⟩ : ∃ z, p3.toInt = z := ⟨_, rfl⟩
  obtain ⟨p4, e4⟩ : ∃ y, xs 4 = y := ⟨_, rfl⟩
  obtain ⟨z4, h4⟩ : ∃ z, p4.toInt = z := ⟨_, rfl⟩
  obtain ⟨p5, e5⟩ : ∃ y, xs 5 = y := ⟨_, rfl⟩
  obtain ⟨z5, h5⟩ : ∃ z, p5.toInt = z := ⟨_, rfl⟩
  obtain ⟨p6, e6⟩ : ∃ y, xs 6 = y := ⟨_, rfl⟩
  obtain ⟨z6, h6⟩ : ∃ z, p6.toInt = z := ⟨_, rfl⟩
  obtain ⟨p7, e7⟩ : ∃ y, xs 7 = y := ⟨_, rfl⟩
  obtain ⟨z7, h7⟩ : ∃ z, p7.toInt = z := ⟨_, rfl⟩
  refine lv_aload_n S.1 S.2.1 dL_law_1970 rfl (lv_at hl 3 rfl) ?_
  refine call_i (wr := [((q 0), .inr (11, (mO q 0 0 0 0 0 0 0 0 (-1) 1 0 0 0 0 0 0 0 0 0))), ((q 63), .inl (cy 0, 600, .inl (fun _ => 0))), ((q 64), .inl (cy 0, 600, .inl (fun _ => 0))), ((q 65), .inl (cy 0, 600, .inl (fun _ => 0))), ((q 66), .inl (cy 0, 600, .inl (fun _ => 0))), ((q 67), .inl (cy 0, 97, .inl (fun _ => 0))), ((q 68), .inl (cy 0, 97, .inl (fun _ => 0))), ((q 70), .inl (cy 1, 16, .inl (fun _ => 0))), ((q 71), .inl (cy 0, 16, .inl (fun _ => 0))), ((q 72), .inl (cy 2, 16, .inr (.inl (fun _ => 0)))), ((q 73), .inl (cy 1, 16, .inl (fun _ => 0))), ((q 74), .inl (cy 1, 16, .inl (fun _ => 0)))]) (runV_C (wc := [((x 0), .inr (10, [.int 0, .int (-1), .ref (x 1), .ref (x 9), .int 0, .ref (x 10), .ref (x 13), .ref (x 16), .ref (x 29), .int 0, .int 0, .ref (x 30), .int 0, .ref (x 31), .ref (x 42), .int 0, .int 0, .null, .ref (x 43)])), ((x 13), .inr (4, [.ref (x 14), .ref (x 15), .int 0, .ref (x 16)])), ((x 16), .inr (5, [.int 0, .ref (x 17), .ref (x 18), .ref (x 19), .ref (x 20), .ref (x 21), .int 0, .int 10, .int 20, .int 0, .int 0, .ref (x 22), .ref (x 23), .int 0, .ref (x 24), .ref (x 25), .ref (x 26), .ref (x 27), .ref (x 28)])), ((x 42), .inl (cy 7, 16, .inr (.inr (.inr (.inr (fun _ => none)))))), ((x 31), .inr (6, [.ref (x 32), .ref (x 9), .ref (x 29), .int 0, .int 0, .int 0, .ref (x 36), .ref (x 37), .ref (x 38), .ref (x 39), .ref (x 40), .ref (x 41), .int 0])), ((x 32), .inr (9, [.ref (x 33), .ref (x 34), .ref (x 35), .int 0])), ((x 33), .inl (cy 0, 384, .inl (fun _ => 0))), ((x 34), .inl (cy 2, 384, .inr (.inl (fun _ => 0)))), ((x 35), .inl (cy 0, 96, .inl (fun _ => 0))), ((x 36), .inl (cy 0, 96, .inl (fun _ => 0))), ((x 38), .inl (cy 0, 96, .inl (fun _ => 0)))]) (As := []) (rest := []) S (kX11_next l D cy x) hK hP hD [0, 1, 2, 3, 4, 5, 6, 7, 8, 9, 10] (by decide) rfl 0 10 rfl rfl kw_1341 kw_1342 kw_1343 kw_144 kw_1344 okX11_next rfl (by decide) hl.1 rfl (Nat.le_of_ble_eq_true rfl) dL_law_1971 (by decide)) hP hD hS hA [0, 1, 2, 3, 4, 5, 6, 7, 8, 9, 10] [11, 12, 13, 14, 15, 16, 17, 18, 19, 20, 21, 22] rfl rfl (by decide) (by decide) (fun v1971 u1971 H locs w1971 hP hD hS => ?_)
  have hP : va_P D vwCl [((q 0), .inr (11, (mO q 0 0 0 0 0 0 0 0 (-1) 1 0 0 0 0 0 0 0 0 0))), ((q 63), .inl (cy 0, 600, .inl (fun _ => 0))), ((q 64), .inl (cy 0, 600, .inl (fun _ => 0))), ((q 65), .inl (cy 0, 600, .inl (fun _ => 0))), ((q 66), .inl (cy 0, 600, .inl (fun _ => 0))), ((q 67), .inl (cy 0, 97, .inl (fun _ => 0))), ((q 68), .inl (cy 0, 97, .inl (fun _ => 0))), ((q 70), .inl (cy 1, 16, .inl (fun _ => 0))), ((q 71), .inl (cy 0, 16, .inl (fun _ => 0))), ((q 72), .inl (cy 2, 16, .inr (.inl (fun _ => 0)))), ((q 73), .inl (cy 1, 16, .inl (fun _ => 0))), ((q 74), .inl (cy 1, 16, .inl (fun _ => 0)))] H := hP
  have hD : va_D A [((q 0), .inr (11, (mO q 0 0 0 0 0 0 0 0 (-1) 1 0 0 0 0 0 0 0 0 0))), ((q 63), .inl (cy 0, 600, .inl (fun _ => 0))), ((q 64), .inl (cy 0, 600, .inl (fun _ => 0))), ((q 65), .inl (cy 0, 600, .inl (fun _ => 0))), ((q 66), .inl (cy 0, 600, .inl (fun _ => 0))), ((q 67), .inl (cy 0, 97, .inl (fun _ => 0))), ((q 68), .inl (cy 0, 97, .inl (fun _ => 0))), ((q 70), .inl (cy 1, 16, .inl (fun _ => 0))), ((q 71), .inl (cy 0, 16, .inl (fun _ => 0))), ((q 72), .inl (cy 2, 16, .inr (.inl (fun _ => 0)))), ((q 73), .inl (cy 1, 16, .inl (fun _ => 0))), ((q 74), .inl (cy 1, 16, .inl (fun _ => 0)))] := hD
  subst w1971
  refine lv_aload_n S.1 S.2.1 dL_law_1974 rfl (lv_at hl 2 rfl) ?_
  refine call_i (wr := []) (runV_C (wc := [((q 0), .inr (11, (mO q 0 0 0 0 0 0 0 0 (-1) 1 0 0 0 0 0 0 0 0 0))), ((q 63), .inl (cy 0, 600, .inl (fun _ => 0))), ((q 64), .inl (cy 0, 600, .inl (fun _ => 0))), ((q 65), .inl (cy 0, 600, .inl (fun _ => 0))), ((q 66), .inl (cy 0, 600, .inl (fun _ => 0))), ((q 67), .inl (cy 0, 97, .inl (fun _ => 0))), ((q 68), .inl (cy 0, 97, .inl (fun _ => 0))), ((q 70), .inl (cy 1, 16, .inl (fun _ => 0))), ((q 71), .inl (cy 0, 16, .inl (fun _ => 0))), ((q 72), .inl (cy 2, 16, .inr (.inl (fun _ => 0)))), ((q 73), .inl (cy 1, 16, .inl (fun _ => 0))), ((q 74), .inl (cy 1, 16, .inl (fun _ => 0)))]) (As := []) (rest := [.int (-1)]) S (kX12_next l D cy q) hK hP hD [0, 1, 2, 3, 4, 5, 6, 7, 8, 9, 10, 11] (by decide) rfl 0 11 rfl rfl kw_2251 kw_2252 kw_2253 kw_152 kw_2254 okX12_next rfl (by decide) hl.1 rfl (Nat.le_of_ble_eq_true rfl) dL_law_1975 (by decide)) hP hD hS hA [0, 1, 2, 3, 4, 5, 6, 7, 8, 9, 10, 11] [] rfl rfl (by decide) (by decide) (fun v1975 u1975 H locs w1975 hP hD hS => ?_)
  have hP : va_P D vwCl [] H := hP
  have hD : va_D A [] := hD
  subst w1975
  refine r_icmp_eq S (-1) (-1) rfl rfl dL_law_1978 (tgt := 2008) (by decide) (fun _ => ?_) (fun c => absurd c (by decide))
  exact law_on S hr hlk hX hbl hbA hA2 hS (lv_sub hl [0, 4] rfl) (by decide) (by decide)
set_option maxHeartbeats 4000000 in
set_option maxRecDepth 100000 in
theorem law_c35 (l : Launch) (hst : l.stackTraces = false) {p : Program} {e : Env} {s : State} {m : MethodId} {below : List Frame} {meth : Method} {c : Code} {H : Heap} {locs : List Loc} {ls : Array Slot} {D : va_G} {cy : Nat → ClassId} {b : Nat} {xs : Nat → Int32} {A : Nat → Prop} {x q : Nat → Nat} {o : Nat} (S : CallFix p m c cL_law 7 s #[Value.ref b] uu "LandSurveyLaw") (hr : meth.sig.returnType = ret) (hlk : meth.locks = false) (hX : va_X b 8 xs s s.heap) (hbl : b < s.heap.size) (hbA : ¬ A b) (hA : ∀ q : Nat, s.heap.size ≤ q → A q) (hA2 : ∀ q : Nat, A q → s.heap.size ≤ q) (hK : KX D cy s) (hE : Ey s) (hZ : Zs A s s.heap) (hP : va_P D vwCl [((x 0), .inr (10, [.int 0, .int (-1), .ref (x 1), .ref (x 9), .int 0, .ref (x 10), .ref (x 13), .ref (x 16), .ref (x 29), .int 0, .int 0, .ref (x 30), .int 0, .ref (x 31), .ref (x 42), .int 0, .int 0, .null, .ref (x 43)])), ((x 13), .inr (4, [.ref (x 14), .ref (x 15), .int 0, .ref (x 16)])), ((x 16), .inr (5, [.int 0, .ref (x 17), .ref (x 18), .ref (x 19), .ref (x 20), .ref (x 21), .int 0, .int 10, .int 20, .int 0, .int 0, .ref (x 22), .ref (x 23), .int 0, .ref (x 24), .ref (x 25), .ref (x 26), .ref (x 27), .ref (x 28)])), ((x 42), .inl (cy 7, 16, .inr (.inr (.inr (.inr (fun _ => none)))))), ((x 31), .inr (6, [.ref (x 32), .ref (x 9), .ref (x 29), .int 0, .int 0, .int 0, .ref (x 36), .ref (x 37), .ref (x 38), .ref (x 39), .ref (x 40), .ref (x 41), .int 0])), ((x 32), .inr (9, [.ref (x 33), .ref (x 34), .ref (x 35), .int 0])), ((x 33), .inl (cy 0, 384, .inl (fun _ => 0))), ((x 34), .inl (cy 2, 384, .inr (.inl (fun _ => 0)))), ((x 35), .inl (cy 0, 96, .inl (fun _ => 0))), ((x 36), .inl (cy 0, 96, .inl (fun _ => 0))), ((x 38), .inl (cy 0, 96, .inl (fun _ => 0))), ((x 1), .inr (2, [.ref (x 2), .ref (x 3), .ref (x 4), .ref (x 5), .ref (x 6), .int 0, .ref (x 7), .ref (x 8), .int 0])), ((x 10), .inr (3, [.ref (x 11), .int 0, .int 0, .int 0, .int 0, .long 0, .null, .int 0, .int 0, .int 0, .int 0, .ref (x 12), .int 0, .null])), ((q 0), .inr (11, (mO q 0 0 0 0 0 0 0 0 (-1) 1 0 0 0 0 0 0 0 0 0))), ((q 63), .inl (cy 0, 600, .inl (fun _ => 0))), ((q 64), .inl (cy 0, 600, .inl (fun _ => 0))), ((q 65), .inl (cy 0, 600, .inl (fun _ => 0))), ((q 66), .inl (cy 0, 600, .inl (fun _ => 0))), ((q 67), .inl (cy 0, 97, .inl (fun _ => 0))), ((q 68), .inl (cy 0, 97, .inl (fun _ => 0))), ((q 70), .inl (cy 1, 16, .inl (fun _ => 0))), ((q 71), .inl (cy 0, 16, .inl (fun _ => 0))), ((q 72), .inl (cy 2, 16, .inr (.inl (fun _ => 0)))), ((q 73), .inl (cy 1, 16, .inl (fun _ => 0))), ((q 74), .inl (cy 1, 16, .inl (fun _ => 0))), ((q 82), .inl (cy 1, 96, .inl (fun _ => 0)))] H) (hD : va_D A [((x 0), .inr (10, [.int 0, .int (-1), .ref (x 1), .ref (x 9), .int 0, .ref (x 10), .ref (x 13), .ref (x 16), .ref (x 29), .int 0, .int 0, .ref (x 30), .int 0, .ref (x 31), .ref (x 42), .int 0, .int 0, .null, .ref (x 43)])), ((x 13), .inr (4, [.ref (x 14), .ref (x 15), .int 0, .ref (x 16)])), ((x 16), .inr (5, [.int 0, .ref (x 17), .ref (x 18), .ref (x 19), .ref (x 20), .ref (x 21), .int 0, .int 10, .int 20, .int 0, .int 0, .ref (x 22), .ref (x 23), .int 0, .ref (x 24), .ref (x 25), .ref (x 26), .ref (x 27), .ref (x 28)])), ((x 42), .inl (cy 7, 16, .inr (.inr (.inr (.inr (fun _ => none)))))), ((x 31), .inr (6, [.ref (x 32), .ref (x 9), .ref (x 29), .int 0, .int 0, .int 0, .ref (x 36), .ref (x 37), .ref (x 38), .ref (x 39), .ref (x 40), .ref (x 41), .int 0])), ((x 32), .inr (9, [.ref (x 33), .ref (x 34), .ref (x 35), .int 0])), ((x 33), .inl (cy 0, 384, .inl (fun _ => 0))), ((x 34), .inl (cy 2, 384, .inr (.inl (fun _ => 0)))), ((x 35), .inl (cy 0, 96, .inl (fun _ => 0))), ((x 36), .inl (cy 0, 96, .inl (fun _ => 0))), ((x 38), .inl (cy 0, 96, .inl (fun _ => 0))), ((x 1), .inr (2, [.ref (x 2), .ref (x 3), .ref (x 4), .ref (x 5), .ref (x 6), .int 0, .ref (x 7), .ref (x 8), .int 0])), ((x 10), .inr (3, [.ref (x 11), .int 0, .int 0, .int 0, .int 0, .long 0, .null, .int 0, .int 0, .int 0, .int 0, .ref (x 12), .int 0, .null])), ((q 0), .inr (11, (mO q 0 0 0 0 0 0 0 0 (-1) 1 0 0 0 0 0 0 0 0 0))), ((q 63), .inl (cy 0, 600, .inl (fun _ => 0))), ((q 64), .inl (cy 0, 600, .inl (fun _ => 0))), ((q 65), .inl (cy 0, 600, .inl (fun _ => 0))), ((q 66), .inl (cy 0, 600, .inl (fun _ => 0))), ((q 67), .inl (cy 0, 97, .inl (fun _ => 0))), ((q 68), .inl (cy 0, 97, .inl (fun _ => 0))), ((q 70), .inl (cy 1, 16, .inl (fun _ => 0))), ((q 71), .inl (cy 0, 16, .inl (fun _ => 0))), ((q 72), .inl (cy 2, 16, .inr (.inl (fun _ => 0)))), ((q 73), .inl (cy 1, 16, .inl (fun _ => 0))), ((q 74), .inl (cy 1, 16, .inl (fun _ => 0))), ((q 82), .inl (cy 1, 96, .inl (fun _ => 0)))]) (hS : va_S A s.heap H locs) (hl : lv_has ls 7 [(4, .int 0), (3, .ref o), (2, .ref (q 0)), (1, .ref (x 0)), (0, .ref b)]) : W p l e room_1 s m #[Value.ref b] below meth c H locs 114 51906 (lw_Z below #[Value.ref b] s) (F0 m 1983 ls []) := by
  obtain ⟨p1, e1⟩ : ∃ y, xs 1 = y := ⟨_, rfl⟩
  obtain ⟨z1, h1⟩ : ∃ z, p1.toInt = z := ⟨_, rfl⟩
  obtain ⟨p2, e2⟩ : ∃ y, xs 2 = y := ⟨_, rfl⟩
  obtain ⟨z2, h2⟩ : ∃ z, p2.toInt = z := ⟨_, rfl⟩
  obtain ⟨p3, e3⟩ : ∃ y, xs 3 = y := ⟨_, rfl⟩
  obtain ⟨z3, h3⟩ : ∃ z, p3.toInt = z := ⟨_, rfl⟩
  obtain ⟨p4, e4⟩ : ∃ y, xs 4 = y := ⟨_, rfl⟩
  obtain ⟨z4, h4⟩ : ∃ z, p4.toInt = z := ⟨_, rfl⟩
  obtain ⟨p5, e5⟩ : ∃ y, xs 5 = y := ⟨_, rfl⟩
  obtain ⟨z5, h5⟩ : ∃ z, p5.toInt = z := ⟨_, rfl⟩
  obtain ⟨p6, e6⟩ : ∃ y, xs 6 = y := ⟨_, rfl⟩
  obtain ⟨z6, h6⟩ : ∃ z, p6.toInt = z := ⟨_, rfl⟩
  obtain ⟨p7, e7⟩ : ∃ y, xs 7 = y := ⟨_, rfl⟩
  obtain ⟨z7, h7⟩ : ∃ z, p7.toInt = z := ⟨_, rfl⟩
  refine lv_aload_n S.1 S.2.1 dL_law_1983 rfl (lv_at hl 3 rfl) ?_
  refine lv_aload_n S.1 S.2.1 dL_law_1984 rfl (lv_at hl 4 rfl) ?_
  refine lv_iload S.1 S.2.1 dL_law_1985 (lv_at hl 0 rfl) ?_
  refine lv_iconst (v := 1) S.1 S.2.1 dL_law_1987 (by decide) ?_
  refine r_iadd S dL_law_1988 (v := 1) (by decide) ?_
  refine r_sld S hX hbl hbA hS 1 (by decide) (by decide) (by decide) (v := p1) e1 dL_law_1989 ?_
  refine call_i (wr := [((q 0), .inr (11, (mO q 0 0 0 0 0 0 0 0 (-1) 1 0 0 0 0 0 0 0 0 0))), ((q 63), .inl (cy 0, 600, .inl (fun _ => 0))), ((q 64), .inl (cy 0, 600, .inl (fun _ => 0))), ((q 65), .inl (cy 0, 600, .inl (fun _ => 0))), ((q 66), .inl (cy 0, 600, .inl (fun _ => 0))), ((q 67), .inl (cy 0, 97, .inl (fun _ => 0))), ((q 68), .inl (cy 0, 97, .inl (fun _ => 0))), ((q 70), .inl (cy 1, 16, .inl (fun _ => 0))), ((q 71), .inl (cy 0, 16, .inl (fun _ => 0))), ((q 72), .inl (cy 2, 16, .inr (.inl (fun _ => 0)))), ((q 73), .inl (cy 1, 16, .inl (fun _ => 0))), ((q 74), .inl (cy 1, 16, .inl (fun _ => 0))), ((q 82), .inl (cy 1, 96, .inl (fun _ => 0)))]) (runV_C (wc := [((x 0), .inr (10, [.int 0, .int (-1), .ref (x 1), .ref (x 9), .int 0, .ref (x 10), .ref (x 13), .ref (x 16), .ref (x 29), .int 0, .int 0, .ref (x 30), .int 0, .ref (x 31), .ref (x 42), .int 0, .int 0, .null, .ref (x 43)])), ((x 13), .inr (4, [.ref (x 14), .ref (x 15), .int 0, .ref (x 16)])), ((x 16), .inr (5, [.int 0, .ref (x 17), .ref (x 18), .ref (x 19), .ref (x 20), .ref (x 21), .int 0, .int 10, .int 20, .int 0, .int 0, .ref (x 22), .ref (x 23), .int 0, .ref (x 24), .ref (x 25), .ref (x 26), .ref (x 27), .ref (x 28)])), ((x 42), .inl (cy 7, 16, .inr (.inr (.inr (.inr (fun _ => none)))))), ((x 31), .inr (6, [.ref (x 32), .ref (x 9), .ref (x 29), .int 0, .int 0, .int 0, .ref (x 36), .ref (x 37), .ref (x 38), .ref (x 39), .ref (x 40), .ref (x 41), .int 0])), ((x 32), .inr (9, [.ref (x 33), .ref (x 34), .ref (x 35), .int 0])), ((x 33), .inl (cy 0, 384, .inl (fun _ => 0))), ((x 34), .inl (cy 2, 384, .inr (.inl (fun _ => 0)))), ((x 35), .inl (cy 0, 96, .inl (fun _ => 0))), ((x 36), .inl (cy 0, 96, .inl (fun _ => 0))), ((x 38), .inl (cy 0, 96, .inl (fun _ => 0))), ((x 1), .inr (2, [.ref (x 2), .ref (x 3), .ref (x 4), .ref (x 5), .ref (x 6), .int 0, .ref (x 7), .ref (x 8), .int 0])), ((x 10), .inr (3, [.ref (x 11), .int 0, .int 0, .int 0, .int 0, .long 0, .null, .int 0, .int 0, .int 0, .int 0, .ref (x 12), .int 0, .null]))]) (As := [.int p1]) (rest := []) S (kX11_count l D cy x p1 z1 h1) hK hP hD [0, 1, 2, 3, 4, 5, 6, 7, 8, 9, 10, 11, 12] (by decide) rfl 0 10 rfl rfl kw_1345 kw_1346 kw_1347 kw_144 kw_1348 okX11_count rfl (by decide) hl.1 rfl (Nat.le_of_ble_eq_true rfl) dL_law_1990 (by decide)) hP hD hS hA [0, 1, 2, 3, 4, 5, 6, 7, 8, 9, 10, 11, 12] [13, 14, 15, 16, 17, 18, 19, 20, 21, 22, 23, 24, 25] rfl rfl (by decide) (by decide) (fun v1990 u1990 H locs w1990 hP hD hS => ?_)
  have hP : va_P D vwCl [((q 0), .inr (11, (mO q 0 0 0 0 0 0 0 0 (-1) 1 0 0 0 0 0 0 0 0 0))), ((q 63), .inl (cy 0, 600, .inl (fun _ => 0))), ((q 64), .inl (cy 0, 600, .inl (fun _ => 0))), ((q 65), .inl (cy 0, 600, .inl (fun _ => 0))), ((q 66), .inl (cy 0, 600, .inl (fun _ => 0))), ((q 67), .inl (cy 0, 97, .inl (fun _ => 0))), ((q 68), .inl (cy 0, 97, .inl (fun _ => 0))), ((q 70), .inl (cy 1, 16, .inl (fun _ => 0))), ((q 71), .inl (cy 0, 16, .inl (fun _ => 0))), ((q 72), .inl (cy 2, 16, .inr (.inl (fun _ => 0)))), ((q 73), .inl (cy 1, 16, .inl (fun _ => 0))), ((q 74), .inl (cy 1, 16, .inl (fun _ => 0))), ((q 82), .inl (cy 1, 96, .inl (fun _ => 0)))] H := hP
  have hD : va_D A [((q 0), .inr (11, (mO q 0 0 0 0 0 0 0 0 (-1) 1 0 0 0 0 0 0 0 0 0))), ((q 63), .inl (cy 0, 600, .inl (fun _ => 0))), ((q 64), .inl (cy 0, 600, .inl (fun _ => 0))), ((q 65), .inl (cy 0, 600, .inl (fun _ => 0))), ((q 66), .inl (cy 0, 600, .inl (fun _ => 0))), ((q 67), .inl (cy 0, 97, .inl (fun _ => 0))), ((q 68), .inl (cy 0, 97, .inl (fun _ => 0))), ((q 70), .inl (cy 1, 16, .inl (fun _ => 0))), ((q 71), .inl (cy 0, 16, .inl (fun _ => 0))), ((q 72), .inl (cy 2, 16, .inr (.inl (fun _ => 0)))), ((q 73), .inl (cy 1, 16, .inl (fun _ => 0))), ((q 74), .inl (cy 1, 16, .inl (fun _ => 0))), ((q 82), .inl (cy 1, 96, .inl (fun _ => 0)))] := hD
  rcases w1990 with ⟨rfl, w1990_0_0⟩ | ⟨rfl, w1990_1_0⟩
  · refine lv_aload_n S.1 S.2.1 dL_law_1993 rfl (lv_at hl 2 rfl) ?_
    refine lv_aload_n S.1 S.2.1 dL_law_1994 rfl (lv_at hl 4 rfl) ?_
    refine lv_iload S.1 S.2.1 dL_law_1995 (lv_at hl 0 rfl) ?_
    refine lv_iconst (v := 1) S.1 S.2.1 dL_law_1997 (by decide) ?_
    refine r_iadd S dL_law_1998 (v := 1) (by decide) ?_
    refine r_sld S hX hbl hbA hS 1 (by decide) (by decide) (by decide) (v := p1) e1 dL_law_1999 ?_
    refine call_i (wr := []) (runV_C (wc := [((q 0), .inr (11, (mO q 0 0 0 0 0 0 0 0 (-1) 1 0 0 0 0 0 0 0 0 0))), ((q 63), .inl (cy 0, 600, .inl (fun _ => 0))), ((q 64), .inl (cy 0, 600, .inl (fun _ => 0))), ((q 65), .inl (cy 0, 600, .inl (fun _ => 0))), ((q 66), .inl (cy 0, 600, .inl (fun _ => 0))), ((q 67), .inl (cy 0, 97, .inl (fun _ => 0))), ((q 68), .inl (cy 0, 97, .inl (fun _ => 0))), ((q 70), .inl (cy 1, 16, .inl (fun _ => 0))), ((q 71), .inl (cy 0, 16, .inl (fun _ => 0))), ((q 72), .inl (cy 2, 16, .inr (.inl (fun _ => 0)))), ((q 73), .inl (cy 1, 16, .inl (fun _ => 0))), ((q 74), .inl (cy 1, 16, .inl (fun _ => 0))), ((q 82), .inl (cy 1, 96, .inl (fun _ => 0)))]) (As := [.int p1]) (rest := [.int 0]) S (kX12_count l D cy q p1 z1 h1) hK hP hD [0, 1, 2, 3, 4, 5, 6, 7, 8, 9, 10, 11, 12] (by decide) rfl 0 11 rfl rfl kw_2255 kw_2256 kw_2257 kw_152 kw_2258 okX12_count rfl (by decide) hl.1 rfl (Nat.le_of_ble_eq_true rfl) dL_law_2000 (by decide)) hP hD hS hA [0, 1, 2, 3, 4, 5, 6, 7, 8, 9, 10, 11, 12] [] rfl rfl (by decide) (by decide) (fun v2000 u2000 H locs w2000 hP hD hS => ?_)
    have hP : va_P D vwCl [] H := hP
    have hD : va_D A [] := hD
    rcases w2000 with ⟨rfl, w2000_0_0⟩ | ⟨rfl, w2000_1_0⟩
    · refine r_icmp_eq S 0 0 rfl rfl dL_law_2003 (tgt := 2008) (by decide) (fun _ => ?_) (fun c => absurd c (by decide))
      exact law_on S hr hlk hX hbl hbA hA2 hS (lv_sub hl [0, 4] rfl) (by decide) (by decide)
    · exfalso; omega
  · refine lv_aload_n S.1 S.2.1 dL_law_1993 rfl (lv_at hl 2 rfl) ?_
    refine lv_aload_n S.1 S.2.1 dL_law_1994 rfl (lv_at hl 4 rfl) ?_
    refine lv_iload S.1 S.2.1 dL_law_1995 (lv_at hl 0 rfl) ?_
    refine lv_iconst (v := 1) S.1 S.2.1 dL_law_1997 (by decide) ?_
    refine r_iadd S dL_law_1998 (v := 1) (by decide) ?_
    refine r_sld S hX hbl hbA hS 1 (by decide) (by decide) (by decide) (v := p1) e1 dL_law_1999 ?_
    refine call_i (wr := []) (runV_C (wc := [((q 0), .inr (11, (mO q 0 0 0 0 0 0 0 0 (-1) 1 0 0 0 0 0 0 0 0 0))), ((q 63), .inl (cy 0, 600, .inl (fun _ => 0))), ((q 64), .inl (cy 0, 600, .inl (fun _ => 0))), ((q 65), .inl (cy 0, 600, .inl (fun _ => 0))), ((q 66), .inl (cy 0, 600, .inl (fun _ => 0))), ((q 67), .inl (cy 0, 97, .inl (fun _ => 0))), ((q 68), .inl (cy 0, 97, .inl (fun _ => 0))), ((q 70), .inl (cy 1, 16, .inl (fun _ => 0))), ((q 71), .inl (cy 0, 16, .inl (fun _ => 0))), ((q 72), .inl (cy 2, 16, .inr (.inl (fun _ => 0)))), ((q 73), .inl (cy 1, 16, .inl (fun _ => 0))), ((q 74), .inl (cy 1, 16, .inl (fun _ => 0))), ((q 82), .inl (cy 1, 96, .inl (fun _ => 0)))]) (As := [.int p1]) (rest := [.int (-1)]) S (kX12_count l D cy q p1 z1 h1) hK hP hD [0, 1, 2, 3, 4, 5, 6, 7, 8, 9, 10, 11, 12] (by decide) rfl 0 11 rfl rfl kw_2255 kw_2256 kw_2257 kw_152 kw_2258 okX12_count rfl (by decide) hl.1 rfl (Nat.le_of_ble_eq_true rfl) dL_law_2000 (by decide)) hP hD hS hA [0, 1, 2, 3, 4, 5, 6, 7, 8, 9, 10, 11, 12] [] rfl rfl (by decide) (by decide) (fun v2000 u2000 H locs w2000 hP hD hS => ?_)
    have hP : va_P D vwCl [] H := hP
    have hD : va_D A [] := hD
    rcases w2000 with ⟨rfl, w2000_0_0⟩ | ⟨rfl, w2000_1_0⟩
    · exfalso; omega
    · refine r_icmp_eq S (-1) (-1) rfl rfl dL_law_2003 (tgt := 2008) (by decide) (fun _ => ?_) (fun c => absurd c (by decide))
      exact law_on S hr hlk hX hbl hbA hA2 hS (lv_sub hl [0, 4] rfl) (by decide) (by decide)
