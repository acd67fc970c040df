theorem m_27 : Cond.selects "StorksLetModel" yX12_lost yX12_lost ∈ gT := gT_in (i := 27) (by decide +kernel) (by decide +kernel)
theorem m_65 : Cond.initialized "StorksLetLaw" ∈ gT := gT_in (i := 65) (by decide +kernel) (by decide +kernel)
theorem m_92 : Cond.classLink "StorksLetLaw" 8 "StorksLet" ∈ gT := gT_in (i := 92) (by decide +kernel) (by decide +kernel)
theorem m_93 : Cond.instantiable "StorksLet" 16 ∈ gT := gT_in (i := 93) (by decide +kernel) (by decide +kernel)
theorem m_94 : Cond.methodLink "StorksLetLaw" 28 yX11_init ∈ gT := gT_in (i := 94) (by decide +kernel) (by decide +kernel)
theorem m_95 : Cond.instanceMethod yX11_init ∈ gT := gT_in (i := 95) (by decide +kernel) (by decide +kernel)
theorem m_96 : Cond.code yX11_init cX11_init 1 none ∈ gT := gT_in (i := 96) (by decide +kernel) (by decide +kernel)
theorem m_466 : Cond.methodLink "StorksLetLaw" 32 yX11_sign ∈ gT := gT_in (i := 466) (by decide +kernel) (by decide +kernel)
theorem m_467 : Cond.instanceMethod yX11_sign ∈ gT := gT_in (i := 467) (by decide +kernel) (by decide +kernel)
theorem m_468 : Cond.selects "StorksLet" yX11_sign yX11_sign ∈ gT := gT_in (i := 468) (by decide +kernel) (by decide +kernel)
theorem m_469 : Cond.code yX11_sign cX11_sign 2 (some .int) ∈ gT := gT_in (i := 469) (by decide +kernel) (by decide +kernel)
theorem m_474 : Cond.methodLink "StorksLetLaw" 36 yX11_end ∈ gT := gT_in (i := 474) (by decide +kernel) (by decide +kernel)
theorem m_475 : Cond.instanceMethod yX11_end ∈ gT := gT_in (i := 475) (by decide +kernel) (by decide +kernel)
theorem m_476 : Cond.selects "StorksLet" yX11_end yX11_end ∈ gT := gT_in (i := 476) (by decide +kernel) (by decide +kernel)
theorem m_477 : Cond.code yX11_end cX11_end 2 (some .boolean) ∈ gT := gT_in (i := 477) (by decide +kernel) (by decide +kernel)
theorem m_482 : Cond.methodLink "StorksLetLaw" 41 yX11_town ∈ gT := gT_in (i := 482) (by decide +kernel) (by decide +kernel)
theorem m_483 : Cond.instanceMethod yX11_town ∈ gT := gT_in (i := 483) (by decide +kernel) (by decide +kernel)
theorem m_484 : Cond.selects "StorksLet" yX11_town yX11_town ∈ gT := gT_in (i := 484) (by decide +kernel) (by decide +kernel)
theorem m_485 : Cond.code yX11_town cX11_town 2 (some .int) ∈ gT := gT_in (i := 485) (by decide +kernel) (by decide +kernel)
theorem m_576 : Cond.methodLink "StorksLetLaw" 46 yX11_rule ∈ gT := gT_in (i := 576) (by decide +kernel) (by decide +kernel)
theorem m_577 : Cond.instanceMethod yX11_rule ∈ gT := gT_in (i := 577) (by decide +kernel) (by decide +kernel)
theorem m_578 : Cond.selects "StorksLet" yX11_rule yX11_rule ∈ gT := gT_in (i := 578) (by decide +kernel) (by decide +kernel)
theorem m_579 : Cond.code yX11_rule cX11_rule 3 (some .int) ∈ gT := gT_in (i := 579) (by decide +kernel) (by decide +kernel)
theorem m_702 : Cond.methodLink "StorksLetLaw" 50 yX11_frost ∈ gT := gT_in (i := 702) (by decide +kernel) (by decide +kernel)
theorem m_703 : Cond.instanceMethod yX11_frost ∈ gT := gT_in (i := 703) (by decide +kernel) (by decide +kernel)
theorem m_704 : Cond.selects "StorksLet" yX11_frost yX11_frost ∈ gT := gT_in (i := 704) (by decide +kernel) (by decide +kernel)
theorem m_705 : Cond.code yX11_frost cX11_frost 2 (some .int) ∈ gT := gT_in (i := 705) (by decide +kernel) (by decide +kernel)
theorem m_710 : Cond.methodLink "StorksLetLaw" 72 yX11_build ∈ gT := gT_in (i := 710) (by decide +kernel) (by decide +kernel)
theorem m_711 : Cond.instanceMethod yX11_build ∈ gT := gT_in (i := 711) (by decide +kernel) (by decide +kernel)
theorem m_712 : Cond.selects "StorksLet" yX11_build yX11_build ∈ gT := gT_in (i := 712) (by decide +kernel) (by decide +kernel)
theorem m_713 : Cond.code yX11_build cX11_build 5 (some .int) ∈ gT := gT_in (i := 713) (by decide +kernel) (by decide +kernel)
theorem m_726 : Cond.methodLink "StorksLetLaw" 77 yX11_ring ∈ gT := gT_in (i := 726) (by decide +kernel) (by decide +kernel)
theorem m_727 : Cond.instanceMethod yX11_ring ∈ gT := gT_in (i := 727) (by decide +kernel) (by decide +kernel)
theorem m_728 : Cond.selects "StorksLet" yX11_ring yX11_ring ∈ gT := gT_in (i := 728) (by decide +kernel) (by decide +kernel)
theorem m_729 : Cond.code yX11_ring cX11_ring 5 (some .int) ∈ gT := gT_in (i := 729) (by decide +kernel) (by decide +kernel)
theorem m_735 : Cond.methodLink "StorksLetLaw" 81 yX11_swear ∈ gT := gT_in (i := 735) (by decide +kernel) (by decide +kernel)
theorem m_736 : Cond.instanceMethod yX11_swear ∈ gT := gT_in (i := 736) (by decide +kernel) (by decide +kernel)
theorem m_737 : Cond.selects "StorksLet" yX11_swear yX11_swear ∈ gT := gT_in (i := 737) (by decide +kernel) (by decide +kernel)
theorem m_738 : Cond.code yX11_swear cX11_swear 4 (some .int) ∈ gT := gT_in (i := 738) (by decide +kernel) (by decide +kernel)
theorem m_744 : Cond.methodLink "StorksLetLaw" 85 yX11_sheet ∈ gT := gT_in (i := 744) (by decide +kernel) (by decide +kernel)
theorem m_745 : Cond.instanceMethod yX11_sheet ∈ gT := gT_in (i := 745) (by decide +kernel) (by decide +kernel)
theorem m_746 : Cond.selects "StorksLet" yX11_sheet yX11_sheet ∈ gT := gT_in (i := 746) (by decide +kernel) (by decide +kernel)
theorem m_747 : Cond.code yX11_sheet cX11_sheet 10 (some .int) ∈ gT := gT_in (i := 747) (by decide +kernel) (by decide +kernel)
theorem m_753 : Cond.methodLink "StorksLetLaw" 90 yX11_day ∈ gT := gT_in (i := 753) (by decide +kernel) (by decide +kernel)
theorem m_754 : Cond.instanceMethod yX11_day ∈ gT := gT_in (i := 754) (by decide +kernel) (by decide +kernel)
theorem m_755 : Cond.selects "StorksLet" yX11_day yX11_day ∈ gT := gT_in (i := 755) (by decide +kernel) (by decide +kernel)
theorem m_756 : Cond.code yX11_day cX11_day 2 (some .int) ∈ gT := gT_in (i := 756) (by decide +kernel) (by decide +kernel)
theorem m_864 : Cond.methodLink "StorksLetLaw" 94 yX11_days ∈ gT := gT_in (i := 864) (by decide +kernel) (by decide +kernel)
theorem m_865 : Cond.instanceMethod yX11_days ∈ gT := gT_in (i := 865) (by decide +kernel) (by decide +kernel)
theorem m_866 : Cond.selects "StorksLet" yX11_days yX11_days ∈ gT := gT_in (i := 866) (by decide +kernel) (by decide +kernel)
theorem m_867 : Cond.code yX11_days cX11_days 3 (some .int) ∈ gT := gT_in (i := 867) (by decide +kernel) (by decide +kernel)
theorem m_879 : Cond.methodLink "StorksLetLaw" 98 yX11_spring ∈ gT := gT_in (i := 879) (by decide +kernel) (by decide +kernel)
theorem m_880 : Cond.instanceMethod yX11_spring ∈ gT := gT_in (i := 880) (by decide +kernel) (by decide +kernel)
theorem m_881 : Cond.selects "StorksLet" yX11_spring yX11_spring ∈ gT := gT_in (i := 881) (by decide +kernel) (by decide +kernel)
theorem m_882 : Cond.code yX11_spring cX11_spring 4 (some .int) ∈ gT := gT_in (i := 882) (by decide +kernel) (by decide +kernel)
theorem m_919 : Cond.methodLink "StorksLetLaw" 102 yX11_pay ∈ gT := gT_in (i := 919) (by decide +kernel) (by decide +kernel)
theorem m_920 : Cond.instanceMethod yX11_pay ∈ gT := gT_in (i := 920) (by decide +kernel) (by decide +kernel)
theorem m_921 : Cond.selects "StorksLet" yX11_pay yX11_pay ∈ gT := gT_in (i := 921) (by decide +kernel) (by decide +kernel)
theorem m_922 : Cond.code yX11_pay cX11_pay 5 (some .int) ∈ gT := gT_in (i := 922) (by decide +kernel) (by decide +kernel)
theorem m_928 : Cond.methodLink "StorksLetLaw" 106 yX11_owes ∈ gT := gT_in (i := 928) (by decide +kernel) (by decide +kernel)
theorem m_929 : Cond.instanceMethod yX11_owes ∈ gT := gT_in (i := 929) (by decide +kernel) (by decide +kernel)
theorem m_930 : Cond.selects "StorksLet" yX11_owes yX11_owes ∈ gT := gT_in (i := 930) (by decide +kernel) (by decide +kernel)
theorem m_931 : Cond.code yX11_owes cX11_owes 3 (some .int) ∈ gT := gT_in (i := 931) (by decide +kernel) (by decide +kernel)
theorem m_932 : Cond.methodLink "StorksLetLaw" 110 yX11_lord ∈ gT := gT_in (i := 932) (by decide +kernel) (by decide +kernel)
theorem m_933 : Cond.instanceMethod yX11_lord ∈ gT := gT_in (i := 933) (by decide +kernel) (by decide +kernel)
theorem m_934 : Cond.selects "StorksLet" yX11_lord yX11_lord ∈ gT := gT_in (i := 934) (by decide +kernel) (by decide +kernel)
theorem m_935 : Cond.code yX11_lord cX11_lord 2 (some .int) ∈ gT := gT_in (i := 935) (by decide +kernel) (by decide +kernel)
theorem m_948 : Cond.methodLink "StorksLetLaw" 114 yX11_undo ∈ gT := gT_in (i := 948) (by decide +kernel) (by decide +kernel)
theorem m_949 : Cond.instanceMethod yX11_undo ∈ gT := gT_in (i := 949) (by decide +kernel) (by decide +kernel)
theorem m_950 : Cond.selects "StorksLet" yX11_undo yX11_undo ∈ gT := gT_in (i := 950) (by decide +kernel) (by decide +kernel)
theorem m_951 : Cond.code yX11_undo cX11_undo 1 (some .int) ∈ gT := gT_in (i := 951) (by decide +kernel) (by decide +kernel)
theorem m_969 : Cond.methodLink "StorksLetLaw" 118 yX11_later ∈ gT := gT_in (i := 969) (by decide +kernel) (by decide +kernel)
theorem m_970 : Cond.instanceMethod yX11_later ∈ gT := gT_in (i := 970) (by decide +kernel) (by decide +kernel)
theorem m_971 : Cond.selects "StorksLet" yX11_later yX11_later ∈ gT := gT_in (i := 971) (by decide +kernel) (by decide +kernel)
theorem m_972 : Cond.code yX11_later cX11_later 3 (some .int) ∈ gT := gT_in (i := 972) (by decide +kernel) (by decide +kernel)
theorem m_977 : Cond.methodLink "StorksLetLaw" 122 yX11_calm ∈ gT := gT_in (i := 977) (by decide +kernel) (by decide +kernel)
theorem m_978 : Cond.instanceMethod yX11_calm ∈ gT := gT_in (i := 978) (by decide +kernel) (by decide +kernel)
theorem m_979 : Cond.selects "StorksLet" yX11_calm yX11_calm ∈ gT := gT_in (i := 979) (by decide +kernel) (by decide +kernel)
theorem m_980 : Cond.code yX11_calm cX11_calm 2 (some .int) ∈ gT := gT_in (i := 980) (by decide +kernel) (by decide +kernel)
theorem m_981 : Cond.methodLink "StorksLetLaw" 126 yX11_moves ∈ gT := gT_in (i := 981) (by decide +kernel) (by decide +kernel)
theorem m_982 : Cond.instanceMethod yX11_moves ∈ gT := gT_in (i := 982) (by decide +kernel) (by decide +kernel)
theorem m_983 : Cond.selects "StorksLet" yX11_moves yX11_moves ∈ gT := gT_in (i := 983) (by decide +kernel) (by decide +kernel)
theorem m_984 : Cond.code yX11_moves cX11_moves 4 (some .int) ∈ gT := gT_in (i := 984) (by decide +kernel) (by decide +kernel)
theorem m_989 : Cond.methodLink "StorksLetLaw" 130 yX11_income ∈ gT := gT_in (i := 989) (by decide +kernel) (by decide +kernel)
theorem m_990 : Cond.instanceMethod yX11_income ∈ gT := gT_in (i := 990) (by decide +kernel) (by decide +kernel)
theorem m_991 : Cond.selects "StorksLet" yX11_income yX11_income ∈ gT := gT_in (i := 991) (by decide +kernel) (by decide +kernel)
theorem m_992 : Cond.code yX11_income cX11_income 3 (some .int) ∈ gT := gT_in (i := 992) (by decide +kernel) (by decide +kernel)
theorem m_993 : Cond.methodLink "StorksLetLaw" 134 yX11_homeless ∈ gT := gT_in (i := 993) (by decide +kernel) (by decide +kernel)
theorem m_994 : Cond.instanceMethod yX11_homeless ∈ gT := gT_in (i := 994) (by decide +kernel) (by decide +kernel)
theorem m_995 : Cond.selects "StorksLet" yX11_homeless yX11_homeless ∈ gT := gT_in (i := 995) (by decide +kernel) (by decide +kernel)
theorem m_996 : Cond.code yX11_homeless cX11_homeless 3 (some .int) ∈ gT := gT_in (i := 996) (by decide +kernel) (by decide +kernel)
theorem m_997 : Cond.methodLink "StorksLetLaw" 138 yX11_bears ∈ gT := gT_in (i := 997) (by decide +kernel) (by decide +kernel)
theorem m_998 : Cond.instanceMethod yX11_bears ∈ gT := gT_in (i := 998) (by decide +kernel) (by decide +kernel)
theorem m_999 : Cond.selects "StorksLet" yX11_bears yX11_bears ∈ gT := gT_in (i := 999) (by decide +kernel) (by decide +kernel)
theorem m_1000 : Cond.code yX11_bears cX11_bears 3 (some .int) ∈ gT := gT_in (i := 1000) (by decide +kernel) (by decide +kernel)
theorem m_1001 : Cond.methodLink "StorksLetLaw" 142 yX11_rests ∈ gT := gT_in (i := 1001) (by decide +kernel) (by decide +kernel)
theorem m_1002 : Cond.instanceMethod yX11_rests ∈ gT := gT_in (i := 1002) (by decide +kernel) (by decide +kernel)
theorem m_1003 : Cond.selects "StorksLet" yX11_rests yX11_rests ∈ gT := gT_in (i := 1003) (by decide +kernel) (by decide +kernel)
theorem m_1004 : Cond.code yX11_rests cX11_rests 2 (some .int) ∈ gT := gT_in (i := 1004) (by decide +kernel) (by decide +kernel)
theorem m_1011 : Cond.methodLink "StorksLetLaw" 146 yX11_ways ∈ gT := gT_in (i := 1011) (by decide +kernel) (by decide +kernel)
theorem m_1012 : Cond.instanceMethod yX11_ways ∈ gT := gT_in (i := 1012) (by decide +kernel) (by decide +kernel)
theorem m_1013 : Cond.selects "StorksLet" yX11_ways yX11_ways ∈ gT := gT_in (i := 1013) (by decide +kernel) (by decide +kernel)
theorem m_1014 : Cond.code yX11_ways cX11_ways 3 (some .int) ∈ gT := gT_in (i := 1014) (by decide +kernel) (by decide +kernel)
theorem m_1036 : Cond.methodLink "StorksLetLaw" 150 yX11_kindest ∈ gT := gT_in (i := 1036) (by decide +kernel) (by decide +kernel)
theorem m_1037 : Cond.instanceMethod yX11_kindest ∈ gT := gT_in (i := 1037) (by decide +kernel) (by decide +kernel)
theorem m_1038 : Cond.selects "StorksLet" yX11_kindest yX11_kindest ∈ gT := gT_in (i := 1038) (by decide +kernel) (by decide +kernel)
theorem m_1039 : Cond.code yX11_kindest cX11_kindest 3 (some .int) ∈ gT := gT_in (i := 1039) (by decide +kernel) (by decide +kernel)
theorem m_1044 : Cond.methodLink "StorksLetLaw" 154 yX11_wheel ∈ gT := gT_in (i := 1044) (by decide +kernel) (by decide +kernel)
theorem m_1045 : Cond.instanceMethod yX11_wheel ∈ gT := gT_in (i := 1045) (by decide +kernel) (by decide +kernel)
theorem m_1046 : Cond.selects "StorksLet" yX11_wheel yX11_wheel ∈ gT := gT_in (i := 1046) (by decide +kernel) (by decide +kernel)
theorem m_1047 : Cond.code yX11_wheel cX11_wheel 4 (some .int) ∈ gT := gT_in (i := 1047) (by decide +kernel) (by decide +kernel)
theorem m_1056 : Cond.methodLink "StorksLetLaw" 158 yX11_courts ∈ gT := gT_in (i := 1056) (by decide +kernel) (by decide +kernel)
theorem m_1057 : Cond.instanceMethod yX11_courts ∈ gT := gT_in (i := 1057) (by decide +kernel) (by decide +kernel)
theorem m_1058 : Cond.selects "StorksLet" yX11_courts yX11_courts ∈ gT := gT_in (i := 1058) (by decide +kernel) (by decide +kernel)
theorem m_1059 : Cond.code yX11_courts cX11_courts 7 (some .int) ∈ gT := gT_in (i := 1059) (by decide +kernel) (by decide +kernel)
theorem m_1068 : Cond.methodLink "StorksLetLaw" 162 yX11_win ∈ gT := gT_in (i := 1068) (by decide +kernel) (by decide +kernel)
theorem m_1069 : Cond.instanceMethod yX11_win ∈ gT := gT_in (i := 1069) (by decide +kernel) (by decide +kernel)
theorem m_1070 : Cond.selects "StorksLet" yX11_win yX11_win ∈ gT := gT_in (i := 1070) (by decide +kernel) (by decide +kernel)
theorem m_1071 : Cond.code yX11_win cX11_win 5 (some .int) ∈ gT := gT_in (i := 1071) (by decide +kernel) (by decide +kernel)
theorem m_1072 : Cond.methodLink "StorksLetLaw" 166 yX11_drive ∈ gT := gT_in (i := 1072) (by decide +kernel) (by decide +kernel)
theorem m_1073 : Cond.instanceMethod yX11_drive ∈ gT := gT_in (i := 1073) (by decide +kernel) (by decide +kernel)
theorem m_1074 : Cond.selects "StorksLet" yX11_drive yX11_drive ∈ gT := gT_in (i := 1074) (by decide +kernel) (by decide +kernel)
theorem m_1075 : Cond.code yX11_drive cX11_drive 5 (some .int) ∈ gT := gT_in (i := 1075) (by decide +kernel) (by decide +kernel)
theorem m_1076 : Cond.methodLink "StorksLetLaw" 170 yX11_choose ∈ gT := gT_in (i := 1076) (by decide +kernel) (by decide +kernel)
theorem m_1077 : Cond.instanceMethod yX11_choose ∈ gT := gT_in (i := 1077) (by decide +kernel) (by decide +kernel)
theorem m_1078 : Cond.selects "StorksLet" yX11_choose yX11_choose ∈ gT := gT_in (i := 1078) (by decide +kernel) (by decide +kernel)
theorem m_1079 : Cond.code yX11_choose cX11_choose 7 (some .int) ∈ gT := gT_in (i := 1079) (by decide +kernel) (by decide +kernel)
theorem m_1084 : Cond.methodLink "StorksLetLaw" 174 yX11_aim ∈ gT := gT_in (i := 1084) (by decide +kernel) (by decide +kernel)
theorem m_1085 : Cond.instanceMethod yX11_aim ∈ gT := gT_in (i := 1085) (by decide +kernel) (by decide +kernel)
theorem m_1086 : Cond.selects "StorksLet" yX11_aim yX11_aim ∈ gT := gT_in (i := 1086) (by decide +kernel) (by decide +kernel)
theorem m_1087 : Cond.code yX11_aim cX11_aim 2 (some .int) ∈ gT := gT_in (i := 1087) (by decide +kernel) (by decide +kernel)
theorem m_1098 : Cond.methodLink "StorksLetLaw" 178 yX11_fewest ∈ gT := gT_in (i := 1098) (by decide +kernel) (by decide +kernel)
theorem m_1099 : Cond.instanceMethod yX11_fewest ∈ gT := gT_in (i := 1099) (by decide +kernel) (by decide +kernel)
theorem m_1100 : Cond.selects "StorksLet" yX11_fewest yX11_fewest ∈ gT := gT_in (i := 1100) (by decide +kernel) (by decide +kernel)
theorem m_1101 : Cond.code yX11_fewest cX11_fewest 1 (some .int) ∈ gT := gT_in (i := 1101) (by decide +kernel) (by decide +kernel)
theorem m_1129 : Cond.methodLink "StorksLetLaw" 182 yX11_gently ∈ gT := gT_in (i := 1129) (by decide +kernel) (by decide +kernel)
theorem m_1130 : Cond.instanceMethod yX11_gently ∈ gT := gT_in (i := 1130) (by decide +kernel) (by decide +kernel)
theorem m_1131 : Cond.selects "StorksLet" yX11_gently yX11_gently ∈ gT := gT_in (i := 1131) (by decide +kernel) (by decide +kernel)
theorem m_1132 : Cond.code yX11_gently cX11_gently 1 (some .int) ∈ gT := gT_in (i := 1132) (by decide +kernel) (by decide +kernel)
theorem m_1134 : Cond.instantiable "StorksLet$Search" 9 ∈ gT := gT_in (i := 1134) (by decide +kernel) (by decide +kernel)
theorem m_1208 : Cond.methodLink "StorksLetLaw" 186 yX11_seen ∈ gT := gT_in (i := 1208) (by decide +kernel) (by decide +kernel)
theorem m_1209 : Cond.instanceMethod yX11_seen ∈ gT := gT_in (i := 1209) (by decide +kernel) (by decide +kernel)
theorem m_1210 : Cond.selects "StorksLet" yX11_seen yX11_seen ∈ gT := gT_in (i := 1210) (by decide +kernel) (by decide +kernel)
theorem m_1211 : Cond.code yX11_seen cX11_seen 4 (some .int) ∈ gT := gT_in (i := 1211) (by decide +kernel) (by decide +kernel)
theorem m_1216 : Cond.methodLink "StorksLetLaw" 190 yX11_forget ∈ gT := gT_in (i := 1216) (by decide +kernel) (by decide +kernel)
theorem m_1217 : Cond.instanceMethod yX11_forget ∈ gT := gT_in (i := 1217) (by decide +kernel) (by decide +kernel)
theorem m_1218 : Cond.selects "StorksLet" yX11_forget yX11_forget ∈ gT := gT_in (i := 1218) (by decide +kernel) (by decide +kernel)
theorem m_1219 : Cond.code yX11_forget cX11_forget 2 (some .int) ∈ gT := gT_in (i := 1219) (by decide +kernel) (by decide +kernel)
theorem m_1220 : Cond.methodLink "StorksLetLaw" 194 yX11_strengths ∈ gT := gT_in (i := 1220) (by decide +kernel) (by decide +kernel)
theorem m_1221 : Cond.instanceMethod yX11_strengths ∈ gT := gT_in (i := 1221) (by decide +kernel) (by decide +kernel)
theorem m_1222 : Cond.selects "StorksLet" yX11_strengths yX11_strengths ∈ gT := gT_in (i := 1222) (by decide +kernel) (by decide +kernel)
theorem m_1223 : Cond.code yX11_strengths cX11_strengths 4 (some .int) ∈ gT := gT_in (i := 1223) (by decide +kernel) (by decide +kernel)
theorem m_1234 : Cond.methodLink "StorksLetLaw" 198 yX11_latest ∈ gT := gT_in (i := 1234) (by decide +kernel) (by decide +kernel)
theorem m_1235 : Cond.instanceMethod yX11_latest ∈ gT := gT_in (i := 1235) (by decide +kernel) (by decide +kernel)
theorem m_1236 : Cond.selects "StorksLet" yX11_latest yX11_latest ∈ gT := gT_in (i := 1236) (by decide +kernel) (by decide +kernel)
theorem m_1237 : Cond.code yX11_latest cX11_latest 5 (some .int) ∈ gT := gT_in (i := 1237) (by decide +kernel) (by decide +kernel)
theorem m_1239 : Cond.methodLink "StorksLetLaw" 202 yX11_absent ∈ gT := gT_in (i := 1239) (by decide +kernel) (by decide +kernel)
theorem m_1240 : Cond.instanceMethod yX11_absent ∈ gT := gT_in (i := 1240) (by decide +kernel) (by decide +kernel)
theorem m_1241 : Cond.selects "StorksLet" yX11_absent yX11_absent ∈ gT := gT_in (i := 1241) (by decide +kernel) (by decide +kernel)
theorem m_1242 : Cond.code yX11_absent cX11_absent 3 (some .int) ∈ gT := gT_in (i := 1242) (by decide +kernel) (by decide +kernel)
theorem m_1248 : Cond.methodLink "StorksLetLaw" 206 yX11_chance ∈ gT := gT_in (i := 1248) (by decide +kernel) (by decide +kernel)
theorem m_1249 : Cond.instanceMethod yX11_chance ∈ gT := gT_in (i := 1249) (by decide +kernel) (by decide +kernel)
theorem m_1250 : Cond.selects "StorksLet" yX11_chance yX11_chance ∈ gT := gT_in (i := 1250) (by decide +kernel) (by decide +kernel)
theorem m_1251 : Cond.code yX11_chance cX11_chance 7 (some .int) ∈ gT := gT_in (i := 1251) (by decide +kernel) (by decide +kernel)
theorem m_1271 : Cond.methodLink "StorksLetLaw" 210 yX11_safest ∈ gT := gT_in (i := 1271) (by decide +kernel) (by decide +kernel)
theorem m_1272 : Cond.instanceMethod yX11_safest ∈ gT := gT_in (i := 1272) (by decide +kernel) (by decide +kernel)
theorem m_1273 : Cond.selects "StorksLet" yX11_safest yX11_safest ∈ gT := gT_in (i := 1273) (by decide +kernel) (by decide +kernel)
theorem m_1274 : Cond.code yX11_safest cX11_safest 5 (some .int) ∈ gT := gT_in (i := 1274) (by decide +kernel) (by decide +kernel)
theorem m_1279 : Cond.methodLink "StorksLetLaw" 214 yX11_keep ∈ gT := gT_in (i := 1279) (by decide +kernel) (by decide +kernel)
theorem m_1280 : Cond.instanceMethod yX11_keep ∈ gT := gT_in (i := 1280) (by decide +kernel) (by decide +kernel)
theorem m_1281 : Cond.selects "StorksLet" yX11_keep yX11_keep ∈ gT := gT_in (i := 1281) (by decide +kernel) (by decide +kernel)
theorem m_1282 : Cond.code yX11_keep cX11_keep 2 (some .boolean) ∈ gT := gT_in (i := 1282) (by decide +kernel) (by decide +kernel)
theorem m_1287 : Cond.methodLink "StorksLetLaw" 218 yX11_again ∈ gT := gT_in (i := 1287) (by decide +kernel) (by decide +kernel)
theorem m_1288 : Cond.instanceMethod yX11_again ∈ gT := gT_in (i := 1288) (by decide +kernel) (by decide +kernel)
theorem m_1289 : Cond.selects "StorksLet" yX11_again yX11_again ∈ gT := gT_in (i := 1289) (by decide +kernel) (by decide +kernel)
theorem m_1290 : Cond.code yX11_again cX11_again 2 (some .boolean) ∈ gT := gT_in (i := 1290) (by decide +kernel) (by decide +kernel)
theorem m_1291 : Cond.methodLink "StorksLetLaw" 222 yX11_count ∈ gT := gT_in (i := 1291) (by decide +kernel) (by decide +kernel)
theorem m_1292 : Cond.instanceMethod yX11_count ∈ gT := gT_in (i := 1292) (by decide +kernel) (by decide +kernel)
theorem m_1293 : Cond.selects "StorksLet" yX11_count yX11_count ∈ gT := gT_in (i := 1293) (by decide +kernel) (by decide +kernel)
theorem m_1294 : Cond.code yX11_count cX11_count 2 (some .int) ∈ gT := gT_in (i := 1294) (by decide +kernel) (by decide +kernel)
theorem m_1311 : Cond.methodLink "StorksLetLaw" 54 yL_roof ∈ gT := gT_in (i := 1311) (by decide +kernel) (by decide +kernel)
theorem m_1312 : Cond.static yL_roof ∈ gT := gT_in (i := 1312) (by decide +kernel) (by decide +kernel)
theorem m_1313 : Cond.codeWith yL_roof cL_roof 5 (some .int) [(0, 10, 13, 13)] ∈ gT := gT_in (i := 1313) (by decide +kernel) (by decide +kernel)
theorem m_1386 : Cond.methodLink "StorksLetLaw" 63 yL_bird ∈ gT := gT_in (i := 1386) (by decide +kernel) (by decide +kernel)
theorem m_1387 : Cond.static yL_bird ∈ gT := gT_in (i := 1387) (by decide +kernel) (by decide +kernel)
theorem m_1388 : Cond.codeWith yL_bird cL_bird 5 (some .int) [(0, 10, 13, 13)] ∈ gT := gT_in (i := 1388) (by decide +kernel) (by decide +kernel)
theorem m_1405 : Cond.methodLink "StorksLetLaw" 66 yL_family ∈ gT := gT_in (i := 1405) (by decide +kernel) (by decide +kernel)
theorem m_1406 : Cond.static yL_family ∈ gT := gT_in (i := 1406) (by decide +kernel) (by decide +kernel)
theorem m_1407 : Cond.codeWith yL_family cL_family 5 (some .int) [(0, 10, 13, 13)] ∈ gT := gT_in (i := 1407) (by decide +kernel) (by decide +kernel)
theorem m_1415 : Cond.methodLink "StorksLetLaw" 69 yL_worth ∈ gT := gT_in (i := 1415) (by decide +kernel) (by decide +kernel)
theorem m_1416 : Cond.static yL_worth ∈ gT := gT_in (i := 1416) (by decide +kernel) (by decide +kernel)
theorem m_1417 : Cond.codeWith yL_worth cL_worth 5 (some .int) [(0, 10, 13, 13)] ∈ gT := gT_in (i := 1417) (by decide +kernel) (by decide +kernel)
theorem m_1423 : Cond.methodLink "StorksLetLaw" 226 yL_row ∈ gT := gT_in (i := 1423) (by decide +kernel) (by decide +kernel)
theorem m_1424 : Cond.static yL_row ∈ gT := gT_in (i := 1424) (by decide +kernel) (by decide +kernel)
theorem m_1425 : Cond.codeWith yL_row cL_row 4 (some .int) [(0, 9, 12, 13)] ∈ gT := gT_in (i := 1425) (by decide +kernel) (by decide +kernel)
theorem m_1431 : Cond.classLink "StorksLetLaw" 29 "StorksLetModel" ∈ gT := gT_in (i := 1431) (by decide +kernel) (by decide +kernel)
theorem m_1432 : Cond.instantiable "StorksLetModel" 68 ∈ gT := gT_in (i := 1432) (by decide +kernel) (by decide +kernel)
theorem m_1433 : Cond.methodLink "StorksLetLaw" 31 yX12_init ∈ gT := gT_in (i := 1433) (by decide +kernel) (by decide +kernel)
theorem m_1434 : Cond.instanceMethod yX12_init ∈ gT := gT_in (i := 1434) (by decide +kernel) (by decide +kernel)
theorem m_1435 : Cond.code yX12_init cX12_init 1 none ∈ gT := gT_in (i := 1435) (by decide +kernel) (by decide +kernel)
theorem m_1642 : Cond.methodLink "StorksLetLaw" 60 yX12_thrown ∈ gT := gT_in (i := 1642) (by decide +kernel) (by decide +kernel)
theorem m_1643 : Cond.instanceMethod yX12_thrown ∈ gT := gT_in (i := 1643) (by decide +kernel) (by decide +kernel)
theorem m_1644 : Cond.selects "StorksLetModel" yX12_thrown yX12_thrown ∈ gT := gT_in (i := 1644) (by decide +kernel) (by decide +kernel)
theorem m_1645 : Cond.code yX12_thrown cX12_thrown 1 (some .int) ∈ gT := gT_in (i := 1645) (by decide +kernel) (by decide +kernel)
theorem m_1646 : Cond.methodLink "StorksLetLaw" 35 yX12_sign ∈ gT := gT_in (i := 1646) (by decide +kernel) (by decide +kernel)
theorem m_1647 : Cond.instanceMethod yX12_sign ∈ gT := gT_in (i := 1647) (by decide +kernel) (by decide +kernel)
theorem m_1648 : Cond.selects "StorksLetModel" yX12_sign yX12_sign ∈ gT := gT_in (i := 1648) (by decide +kernel) (by decide +kernel)
theorem m_1649 : Cond.code yX12_sign cX12_sign 3 (some .int) ∈ gT := gT_in (i := 1649) (by decide +kernel) (by decide +kernel)
theorem m_1650 : Cond.methodLink "StorksLetLaw" 40 yX12_end ∈ gT := gT_in (i := 1650) (by decide +kernel) (by decide +kernel)
theorem m_1651 : Cond.instanceMethod yX12_end ∈ gT := gT_in (i := 1651) (by decide +kernel) (by decide +kernel)
theorem m_1652 : Cond.selects "StorksLetModel" yX12_end yX12_end ∈ gT := gT_in (i := 1652) (by decide +kernel) (by decide +kernel)
theorem m_1653 : Cond.code yX12_end cX12_end 2 (some .boolean) ∈ gT := gT_in (i := 1653) (by decide +kernel) (by decide +kernel)
theorem m_1657 : Cond.methodLink "StorksLetLaw" 45 yX12_town ∈ gT := gT_in (i := 1657) (by decide +kernel) (by decide +kernel)
theorem m_1658 : Cond.instanceMethod yX12_town ∈ gT := gT_in (i := 1658) (by decide +kernel) (by decide +kernel)
theorem m_1659 : Cond.selects "StorksLetModel" yX12_town yX12_town ∈ gT := gT_in (i := 1659) (by decide +kernel) (by decide +kernel)
theorem m_1660 : Cond.code yX12_town cX12_town 7 (some .int) ∈ gT := gT_in (i := 1660) (by decide +kernel) (by decide +kernel)
theorem m_1697 : Cond.methodLink "StorksLetLaw" 53 yX12_frost ∈ gT := gT_in (i := 1697) (by decide +kernel) (by decide +kernel)
theorem m_1698 : Cond.instanceMethod yX12_frost ∈ gT := gT_in (i := 1698) (by decide +kernel) (by decide +kernel)
theorem m_1699 : Cond.selects "StorksLetModel" yX12_frost yX12_frost ∈ gT := gT_in (i := 1699) (by decide +kernel) (by decide +kernel)
theorem m_1700 : Cond.code yX12_frost cX12_frost 3 (some .int) ∈ gT := gT_in (i := 1700) (by decide +kernel) (by decide +kernel)
theorem m_1701 : Cond.methodLink "StorksLetLaw" 49 yX12_rule ∈ gT := gT_in (i := 1701) (by decide +kernel) (by decide +kernel)
theorem m_1702 : Cond.instanceMethod yX12_rule ∈ gT := gT_in (i := 1702) (by decide +kernel) (by decide +kernel)
theorem m_1703 : Cond.selects "StorksLetModel" yX12_rule yX12_rule ∈ gT := gT_in (i := 1703) (by decide +kernel) (by decide +kernel)
theorem m_1704 : Cond.code yX12_rule cX12_rule 3 (some .int) ∈ gT := gT_in (i := 1704) (by decide +kernel) (by decide +kernel)
theorem m_1729 : Cond.methodLink "StorksLetLaw" 59 yX12_roof ∈ gT := gT_in (i := 1729) (by decide +kernel) (by decide +kernel)
theorem m_1730 : Cond.instanceMethod yX12_roof ∈ gT := gT_in (i := 1730) (by decide +kernel) (by decide +kernel)
theorem m_1731 : Cond.selects "StorksLetModel" yX12_roof yX12_roof ∈ gT := gT_in (i := 1731) (by decide +kernel) (by decide +kernel)
theorem m_1732 : Cond.code yX12_roof cX12_roof 3 (some .int) ∈ gT := gT_in (i := 1732) (by decide +kernel) (by decide +kernel)
theorem m_1737 : Cond.methodLink "StorksLetModel" 251 yX12_lost ∈ gT := gT_in (i := 1737) (by decide +kernel) (by decide +kernel)
theorem m_1739 : Cond.instanceMethod yX12_lost ∈ gT := gT_in (i := 1739) (by decide +kernel) (by decide +kernel)
theorem m_1740 : Cond.code yX12_lost cX12_lost 1 (some .int) ∈ gT := gT_in (i := 1740) (by decide +kernel) (by decide +kernel)
theorem m_1749 : Cond.methodLink "StorksLetLaw" 65 yX12_bird ∈ gT := gT_in (i := 1749) (by decide +kernel) (by decide +kernel)
theorem m_1750 : Cond.instanceMethod yX12_bird ∈ gT := gT_in (i := 1750) (by decide +kernel) (by decide +kernel)
theorem m_1751 : Cond.selects "StorksLetModel" yX12_bird yX12_bird ∈ gT := gT_in (i := 1751) (by decide +kernel) (by decide +kernel)
theorem m_1752 : Cond.code yX12_bird cX12_bird 5 (some .int) ∈ gT := gT_in (i := 1752) (by decide +kernel) (by decide +kernel)
theorem m_1763 : Cond.methodLink "StorksLetLaw" 68 yX12_family ∈ gT := gT_in (i := 1763) (by decide +kernel) (by decide +kernel)
theorem m_1764 : Cond.instanceMethod yX12_family ∈ gT := gT_in (i := 1764) (by decide +kernel) (by decide +kernel)
theorem m_1765 : Cond.selects "StorksLetModel" yX12_family yX12_family ∈ gT := gT_in (i := 1765) (by decide +kernel) (by decide +kernel)
theorem m_1766 : Cond.code yX12_family cX12_family 3 (some .int) ∈ gT := gT_in (i := 1766) (by decide +kernel) (by decide +kernel)
theorem m_1774 : Cond.methodLink "StorksLetLaw" 71 yX12_worth ∈ gT := gT_in (i := 1774) (by decide +kernel) (by decide +kernel)
theorem m_1775 : Cond.instanceMethod yX12_worth ∈ gT := gT_in (i := 1775) (by decide +kernel) (by decide +kernel)
theorem m_1776 : Cond.selects "StorksLetModel" yX12_worth yX12_worth ∈ gT := gT_in (i := 1776) (by decide +kernel) (by decide +kernel)
theorem m_1777 : Cond.code yX12_worth cX12_worth 3 (some .int) ∈ gT := gT_in (i := 1777) (by decide +kernel) (by decide +kernel)
theorem m_1778 : Cond.methodLink "StorksLetLaw" 76 yX12_build ∈ gT := gT_in (i := 1778) (by decide +kernel) (by decide +kernel)
theorem m_1779 : Cond.instanceMethod yX12_build ∈ gT := gT_in (i := 1779) (by decide +kernel) (by decide +kernel)
theorem m_1780 : Cond.selects "StorksLetModel" yX12_build yX12_build ∈ gT := gT_in (i := 1780) (by decide +kernel) (by decide +kernel)
theorem m_1781 : Cond.code yX12_build cX12_build 5 (some .int) ∈ gT := gT_in (i := 1781) (by decide +kernel) (by decide +kernel)
theorem m_1786 : Cond.methodLink "StorksLetLaw" 80 yX12_ring ∈ gT := gT_in (i := 1786) (by decide +kernel) (by decide +kernel)
theorem m_1787 : Cond.instanceMethod yX12_ring ∈ gT := gT_in (i := 1787) (by decide +kernel) (by decide +kernel)
theorem m_1788 : Cond.selects "StorksLetModel" yX12_ring yX12_ring ∈ gT := gT_in (i := 1788) (by decide +kernel) (by decide +kernel)
theorem m_1789 : Cond.code yX12_ring cX12_ring 5 (some .int) ∈ gT := gT_in (i := 1789) (by decide +kernel) (by decide +kernel)
theorem m_1790 : Cond.methodLink "StorksLetLaw" 84 yX12_swear ∈ gT := gT_in (i := 1790) (by decide +kernel) (by decide +kernel)
theorem m_1791 : Cond.instanceMethod yX12_swear ∈ gT := gT_in (i := 1791) (by decide +kernel) (by decide +kernel)
theorem m_1792 : Cond.selects "StorksLetModel" yX12_swear yX12_swear ∈ gT := gT_in (i := 1792) (by decide +kernel) (by decide +kernel)
theorem m_1793 : Cond.code yX12_swear cX12_swear 4 (some .int) ∈ gT := gT_in (i := 1793) (by decide +kernel) (by decide +kernel)
theorem m_1794 : Cond.methodLink "StorksLetLaw" 89 yX12_sheet ∈ gT := gT_in (i := 1794) (by decide +kernel) (by decide +kernel)
theorem m_1795 : Cond.instanceMethod yX12_sheet ∈ gT := gT_in (i := 1795) (by decide +kernel) (by decide +kernel)
theorem m_1796 : Cond.selects "StorksLetModel" yX12_sheet yX12_sheet ∈ gT := gT_in (i := 1796) (by decide +kernel) (by decide +kernel)
theorem m_1797 : Cond.code yX12_sheet cX12_sheet 9 (some .int) ∈ gT := gT_in (i := 1797) (by decide +kernel) (by decide +kernel)
theorem m_1798 : Cond.methodLink "StorksLetLaw" 93 yX12_day ∈ gT := gT_in (i := 1798) (by decide +kernel) (by decide +kernel)
theorem m_1799 : Cond.instanceMethod yX12_day ∈ gT := gT_in (i := 1799) (by decide +kernel) (by decide +kernel)
theorem m_1800 : Cond.selects "StorksLetModel" yX12_day yX12_day ∈ gT := gT_in (i := 1800) (by decide +kernel) (by decide +kernel)
theorem m_1801 : Cond.code yX12_day cX12_day 3 (some .int) ∈ gT := gT_in (i := 1801) (by decide +kernel) (by decide +kernel)
theorem m_1841 : Cond.methodLink "StorksLetLaw" 97 yX12_days ∈ gT := gT_in (i := 1841) (by decide +kernel) (by decide +kernel)
theorem m_1842 : Cond.instanceMethod yX12_days ∈ gT := gT_in (i := 1842) (by decide +kernel) (by decide +kernel)
theorem m_1843 : Cond.selects "StorksLetModel" yX12_days yX12_days ∈ gT := gT_in (i := 1843) (by decide +kernel) (by decide +kernel)
theorem m_1844 : Cond.code yX12_days cX12_days 5 (some .int) ∈ gT := gT_in (i := 1844) (by decide +kernel) (by decide +kernel)
theorem m_1845 : Cond.methodLink "StorksLetLaw" 101 yX12_spring ∈ gT := gT_in (i := 1845) (by decide +kernel) (by decide +kernel)
theorem m_1846 : Cond.instanceMethod yX12_spring ∈ gT := gT_in (i := 1846) (by decide +kernel) (by decide +kernel)
theorem m_1847 : Cond.selects "StorksLetModel" yX12_spring yX12_spring ∈ gT := gT_in (i := 1847) (by decide +kernel) (by decide +kernel)
theorem m_1848 : Cond.code yX12_spring cX12_spring 4 (some .int) ∈ gT := gT_in (i := 1848) (by decide +kernel) (by decide +kernel)
theorem m_1857 : Cond.methodLink "StorksLetLaw" 105 yX12_pay ∈ gT := gT_in (i := 1857) (by decide +kernel) (by decide +kernel)
theorem m_1858 : Cond.instanceMethod yX12_pay ∈ gT := gT_in (i := 1858) (by decide +kernel) (by decide +kernel)
theorem m_1859 : Cond.selects "StorksLetModel" yX12_pay yX12_pay ∈ gT := gT_in (i := 1859) (by decide +kernel) (by decide +kernel)
theorem m_1860 : Cond.code yX12_pay cX12_pay 5 (some .int) ∈ gT := gT_in (i := 1860) (by decide +kernel) (by decide +kernel)
theorem m_1861 : Cond.methodLink "StorksLetLaw" 109 yX12_owes ∈ gT := gT_in (i := 1861) (by decide +kernel) (by decide +kernel)
theorem m_1862 : Cond.instanceMethod yX12_owes ∈ gT := gT_in (i := 1862) (by decide +kernel) (by decide +kernel)
theorem m_1863 : Cond.selects "StorksLetModel" yX12_owes yX12_owes ∈ gT := gT_in (i := 1863) (by decide +kernel) (by decide +kernel)
theorem m_1864 : Cond.code yX12_owes cX12_owes 3 (some .int) ∈ gT := gT_in (i := 1864) (by decide +kernel) (by decide +kernel)
theorem m_1865 : Cond.methodLink "StorksLetLaw" 113 yX12_lord ∈ gT := gT_in (i := 1865) (by decide +kernel) (by decide +kernel)
theorem m_1866 : Cond.instanceMethod yX12_lord ∈ gT := gT_in (i := 1866) (by decide +kernel) (by decide +kernel)
theorem m_1867 : Cond.selects "StorksLetModel" yX12_lord yX12_lord ∈ gT := gT_in (i := 1867) (by decide +kernel) (by decide +kernel)
theorem m_1868 : Cond.code yX12_lord cX12_lord 5 (some .int) ∈ gT := gT_in (i := 1868) (by decide +kernel) (by decide +kernel)
theorem m_1873 : Cond.methodLink "StorksLetLaw" 117 yX12_undo ∈ gT := gT_in (i := 1873) (by decide +kernel) (by decide +kernel)
theorem m_1874 : Cond.instanceMethod yX12_undo ∈ gT := gT_in (i := 1874) (by decide +kernel) (by decide +kernel)
theorem m_1875 : Cond.selects "StorksLetModel" yX12_undo yX12_undo ∈ gT := gT_in (i := 1875) (by decide +kernel) (by decide +kernel)
theorem m_1876 : Cond.code yX12_undo cX12_undo 3 (some .int) ∈ gT := gT_in (i := 1876) (by decide +kernel) (by decide +kernel)
theorem m_1877 : Cond.methodLink "StorksLetLaw" 121 yX12_later ∈ gT := gT_in (i := 1877) (by decide +kernel) (by decide +kernel)
theorem m_1878 : Cond.instanceMethod yX12_later ∈ gT := gT_in (i := 1878) (by decide +kernel) (by decide +kernel)
theorem m_1879 : Cond.selects "StorksLetModel" yX12_later yX12_later ∈ gT := gT_in (i := 1879) (by decide +kernel) (by decide +kernel)
theorem m_1880 : Cond.code yX12_later cX12_later 3 (some .int) ∈ gT := gT_in (i := 1880) (by decide +kernel) (by decide +kernel)
theorem m_1896 : Cond.methodLink "StorksLetLaw" 125 yX12_calm ∈ gT := gT_in (i := 1896) (by decide +kernel) (by decide +kernel)
theorem m_1897 : Cond.instanceMethod yX12_calm ∈ gT := gT_in (i := 1897) (by decide +kernel) (by decide +kernel)
theorem m_1898 : Cond.selects "StorksLetModel" yX12_calm yX12_calm ∈ gT := gT_in (i := 1898) (by decide +kernel) (by decide +kernel)
theorem m_1899 : Cond.code yX12_calm cX12_calm 4 (some .int) ∈ gT := gT_in (i := 1899) (by decide +kernel) (by decide +kernel)
theorem m_1900 : Cond.methodLink "StorksLetLaw" 129 yX12_moves ∈ gT := gT_in (i := 1900) (by decide +kernel) (by decide +kernel)
theorem m_1901 : Cond.instanceMethod yX12_moves ∈ gT := gT_in (i := 1901) (by decide +kernel) (by decide +kernel)
theorem m_1902 : Cond.selects "StorksLetModel" yX12_moves yX12_moves ∈ gT := gT_in (i := 1902) (by decide +kernel) (by decide +kernel)
theorem m_1903 : Cond.code yX12_moves cX12_moves 6 (some .int) ∈ gT := gT_in (i := 1903) (by decide +kernel) (by decide +kernel)
theorem m_1904 : Cond.methodLink "StorksLetLaw" 133 yX12_income ∈ gT := gT_in (i := 1904) (by decide +kernel) (by decide +kernel)
theorem m_1905 : Cond.instanceMethod yX12_income ∈ gT := gT_in (i := 1905) (by decide +kernel) (by decide +kernel)
theorem m_1906 : Cond.selects "StorksLetModel" yX12_income yX12_income ∈ gT := gT_in (i := 1906) (by decide +kernel) (by decide +kernel)
theorem m_1907 : Cond.code yX12_income cX12_income 7 (some .int) ∈ gT := gT_in (i := 1907) (by decide +kernel) (by decide +kernel)
theorem m_1908 : Cond.methodLink "StorksLetLaw" 137 yX12_homeless ∈ gT := gT_in (i := 1908) (by decide +kernel) (by decide +kernel)
theorem m_1909 : Cond.instanceMethod yX12_homeless ∈ gT := gT_in (i := 1909) (by decide +kernel) (by decide +kernel)
theorem m_1910 : Cond.selects "StorksLetModel" yX12_homeless yX12_homeless ∈ gT := gT_in (i := 1910) (by decide +kernel) (by decide +kernel)
theorem m_1911 : Cond.code yX12_homeless cX12_homeless 3 (some .int) ∈ gT := gT_in (i := 1911) (by decide +kernel) (by decide +kernel)
theorem m_1912 : Cond.methodLink "StorksLetLaw" 141 yX12_bears ∈ gT := gT_in (i := 1912) (by decide +kernel) (by decide +kernel)
theorem m_1913 : Cond.instanceMethod yX12_bears ∈ gT := gT_in (i := 1913) (by decide +kernel) (by decide +kernel)
theorem m_1914 : Cond.selects "StorksLetModel" yX12_bears yX12_bears ∈ gT := gT_in (i := 1914) (by decide +kernel) (by decide +kernel)
theorem m_1915 : Cond.code yX12_bears cX12_bears 4 (some .int) ∈ gT := gT_in (i := 1915) (by decide +kernel) (by decide +kernel)
theorem m_1923 : Cond.methodLink "StorksLetLaw" 145 yX12_rests ∈ gT := gT_in (i := 1923) (by decide +kernel) (by decide +kernel)
theorem m_1924 : Cond.instanceMethod yX12_rests ∈ gT := gT_in (i := 1924) (by decide +kernel) (by decide +kernel)
theorem m_1925 : Cond.selects "StorksLetModel" yX12_rests yX12_rests ∈ gT := gT_in (i := 1925) (by decide +kernel) (by decide +kernel)
theorem m_1926 : Cond.code yX12_rests cX12_rests 2 (some .int) ∈ gT := gT_in (i := 1926) (by decide +kernel) (by decide +kernel)
theorem m_1931 : Cond.methodLink "StorksLetLaw" 149 yX12_ways ∈ gT := gT_in (i := 1931) (by decide +kernel) (by decide +kernel)
theorem m_1932 : Cond.instanceMethod yX12_ways ∈ gT := gT_in (i := 1932) (by decide +kernel) (by decide +kernel)
theorem m_1933 : Cond.selects "StorksLetModel" yX12_ways yX12_ways ∈ gT := gT_in (i := 1933) (by decide +kernel) (by decide +kernel)
theorem m_1934 : Cond.code yX12_ways cX12_ways 4 (some .int) ∈ gT := gT_in (i := 1934) (by decide +kernel) (by decide +kernel)
theorem m_1948 : Cond.methodLink "StorksLetLaw" 153 yX12_kindest ∈ gT := gT_in (i := 1948) (by decide +kernel) (by decide +kernel)
theorem m_1949 : Cond.instanceMethod yX12_kindest ∈ gT := gT_in (i := 1949) (by decide +kernel) (by decide +kernel)
theorem m_1950 : Cond.selects "StorksLetModel" yX12_kindest yX12_kindest ∈ gT := gT_in (i := 1950) (by decide +kernel) (by decide +kernel)
theorem m_1951 : Cond.code yX12_kindest cX12_kindest 6 (some .int) ∈ gT := gT_in (i := 1951) (by decide +kernel) (by decide +kernel)
theorem m_1952 : Cond.methodLink "StorksLetLaw" 157 yX12_wheel ∈ gT := gT_in (i := 1952) (by decide +kernel) (by decide +kernel)
theorem m_1953 : Cond.instanceMethod yX12_wheel ∈ gT := gT_in (i := 1953) (by decide +kernel) (by decide +kernel)
theorem m_1954 : Cond.selects "StorksLetModel" yX12_wheel yX12_wheel ∈ gT := gT_in (i := 1954) (by decide +kernel) (by decide +kernel)
theorem m_1955 : Cond.code yX12_wheel cX12_wheel 3 (some .int) ∈ gT := gT_in (i := 1955) (by decide +kernel) (by decide +kernel)
theorem m_1960 : Cond.methodLink "StorksLetLaw" 161 yX12_courts ∈ gT := gT_in (i := 1960) (by decide +kernel) (by decide +kernel)
theorem m_1961 : Cond.instanceMethod yX12_courts ∈ gT := gT_in (i := 1961) (by decide +kernel) (by decide +kernel)
theorem m_1962 : Cond.selects "StorksLetModel" yX12_courts yX12_courts ∈ gT := gT_in (i := 1962) (by decide +kernel) (by decide +kernel)
theorem m_1963 : Cond.code yX12_courts cX12_courts 7 (some .int) ∈ gT := gT_in (i := 1963) (by decide +kernel) (by decide +kernel)
theorem m_1968 : Cond.methodLink "StorksLetLaw" 165 yX12_win ∈ gT := gT_in (i := 1968) (by decide +kernel) (by decide +kernel)
theorem m_1969 : Cond.instanceMethod yX12_win ∈ gT := gT_in (i := 1969) (by decide +kernel) (by decide +kernel)
theorem m_1970 : Cond.selects "StorksLetModel" yX12_win yX12_win ∈ gT := gT_in (i := 1970) (by decide +kernel) (by decide +kernel)
theorem m_1971 : Cond.code yX12_win cX12_win 7 (some .int) ∈ gT := gT_in (i := 1971) (by decide +kernel) (by decide +kernel)
theorem m_1972 : Cond.methodLink "StorksLetLaw" 169 yX12_drive ∈ gT := gT_in (i := 1972) (by decide +kernel) (by decide +kernel)
theorem m_1973 : Cond.instanceMethod yX12_drive ∈ gT := gT_in (i := 1973) (by decide +kernel) (by decide +kernel)
theorem m_1974 : Cond.selects "StorksLetModel" yX12_drive yX12_drive ∈ gT := gT_in (i := 1974) (by decide +kernel) (by decide +kernel)
theorem m_1975 : Cond.code yX12_drive cX12_drive 7 (some .int) ∈ gT := gT_in (i := 1975) (by decide +kernel) (by decide +kernel)
theorem m_1976 : Cond.methodLink "StorksLetLaw" 173 yX12_choose ∈ gT := gT_in (i := 1976) (by decide +kernel) (by decide +kernel)
theorem m_1977 : Cond.instanceMethod yX12_choose ∈ gT := gT_in (i := 1977) (by decide +kernel) (by decide +kernel)
theorem m_1978 : Cond.selects "StorksLetModel" yX12_choose yX12_choose ∈ gT := gT_in (i := 1978) (by decide +kernel) (by decide +kernel)
theorem m_1979 : Cond.code yX12_choose cX12_choose 11 (some .int) ∈ gT := gT_in (i := 1979) (by decide +kernel) (by decide +kernel)
theorem m_1980 : Cond.methodLink "StorksLetLaw" 177 yX12_aim ∈ gT := gT_in (i := 1980) (by decide +kernel) (by decide +kernel)
theorem m_1981 : Cond.instanceMethod yX12_aim ∈ gT := gT_in (i := 1981) (by decide +kernel) (by decide +kernel)
theorem m_1982 : Cond.selects "StorksLetModel" yX12_aim yX12_aim ∈ gT := gT_in (i := 1982) (by decide +kernel) (by decide +kernel)
theorem m_1983 : Cond.code yX12_aim cX12_aim 5 (some .int) ∈ gT := gT_in (i := 1983) (by decide +kernel) (by decide +kernel)
theorem m_1984 : Cond.methodLink "StorksLetLaw" 181 yX12_fewest ∈ gT := gT_in (i := 1984) (by decide +kernel) (by decide +kernel)
theorem m_1985 : Cond.instanceMethod yX12_fewest ∈ gT := gT_in (i := 1985) (by decide +kernel) (by decide +kernel)
theorem m_1986 : Cond.selects "StorksLetModel" yX12_fewest yX12_fewest ∈ gT := gT_in (i := 1986) (by decide +kernel) (by decide +kernel)
theorem m_1987 : Cond.code yX12_fewest cX12_fewest 4 (some .int) ∈ gT := gT_in (i := 1987) (by decide +kernel) (by decide +kernel)
theorem m_2000 : Cond.methodLink "StorksLetLaw" 185 yX12_gently ∈ gT := gT_in (i := 2000) (by decide +kernel) (by decide +kernel)
theorem m_2001 : Cond.instanceMethod yX12_gently ∈ gT := gT_in (i := 2001) (by decide +kernel) (by decide +kernel)
theorem m_2002 : Cond.selects "StorksLetModel" yX12_gently yX12_gently ∈ gT := gT_in (i := 2002) (by decide +kernel) (by decide +kernel)
theorem m_2003 : Cond.code yX12_gently cX12_gently 7 (some .int) ∈ gT := gT_in (i := 2003) (by decide +kernel) (by decide +kernel)
theorem m_2020 : Cond.methodLink "StorksLetLaw" 189 yX12_seen ∈ gT := gT_in (i := 2020) (by decide +kernel) (by decide +kernel)
theorem m_2021 : Cond.instanceMethod yX12_seen ∈ gT := gT_in (i := 2021) (by decide +kernel) (by decide +kernel)
theorem m_2022 : Cond.selects "StorksLetModel" yX12_seen yX12_seen ∈ gT := gT_in (i := 2022) (by decide +kernel) (by decide +kernel)
theorem m_2023 : Cond.code yX12_seen cX12_seen 4 (some .int) ∈ gT := gT_in (i := 2023) (by decide +kernel) (by decide +kernel)
theorem m_2024 : Cond.methodLink "StorksLetLaw" 193 yX12_forget ∈ gT := gT_in (i := 2024) (by decide +kernel) (by decide +kernel)
theorem m_2025 : Cond.instanceMethod yX12_forget ∈ gT := gT_in (i := 2025) (by decide +kernel) (by decide +kernel)
theorem m_2026 : Cond.selects "StorksLetModel" yX12_forget yX12_forget ∈ gT := gT_in (i := 2026) (by decide +kernel) (by decide +kernel)
theorem m_2027 : Cond.code yX12_forget cX12_forget 2 (some .int) ∈ gT := gT_in (i := 2027) (by decide +kernel) (by decide +kernel)
theorem m_2028 : Cond.methodLink "StorksLetLaw" 197 yX12_strengths ∈ gT := gT_in (i := 2028) (by decide +kernel) (by decide +kernel)
theorem m_2029 : Cond.instanceMethod yX12_strengths ∈ gT := gT_in (i := 2029) (by decide +kernel) (by decide +kernel)
theorem m_2030 : Cond.selects "StorksLetModel" yX12_strengths yX12_strengths ∈ gT := gT_in (i := 2030) (by decide +kernel) (by decide +kernel)
theorem m_2031 : Cond.code yX12_strengths cX12_strengths 5 (some .int) ∈ gT := gT_in (i := 2031) (by decide +kernel) (by decide +kernel)
theorem m_2036 : Cond.methodLink "StorksLetLaw" 201 yX12_latest ∈ gT := gT_in (i := 2036) (by decide +kernel) (by decide +kernel)
theorem m_2037 : Cond.instanceMethod yX12_latest ∈ gT := gT_in (i := 2037) (by decide +kernel) (by decide +kernel)
theorem m_2038 : Cond.selects "StorksLetModel" yX12_latest yX12_latest ∈ gT := gT_in (i := 2038) (by decide +kernel) (by decide +kernel)
theorem m_2039 : Cond.code yX12_latest cX12_latest 5 (some .int) ∈ gT := gT_in (i := 2039) (by decide +kernel) (by decide +kernel)
theorem m_2040 : Cond.methodLink "StorksLetLaw" 205 yX12_absent ∈ gT := gT_in (i := 2040) (by decide +kernel) (by decide +kernel)
theorem m_2041 : Cond.instanceMethod yX12_absent ∈ gT := gT_in (i := 2041) (by decide +kernel) (by decide +kernel)
theorem m_2042 : Cond.selects "StorksLetModel" yX12_absent yX12_absent ∈ gT := gT_in (i := 2042) (by decide +kernel) (by decide +kernel)
theorem m_2043 : Cond.code yX12_absent cX12_absent 3 (some .int) ∈ gT := gT_in (i := 2043) (by decide +kernel) (by decide +kernel)
theorem m_2044 : Cond.methodLink "StorksLetLaw" 209 yX12_chance ∈ gT := gT_in (i := 2044) (by decide +kernel) (by decide +kernel)
theorem m_2045 : Cond.instanceMethod yX12_chance ∈ gT := gT_in (i := 2045) (by decide +kernel) (by decide +kernel)
theorem m_2046 : Cond.selects "StorksLetModel" yX12_chance yX12_chance ∈ gT := gT_in (i := 2046) (by decide +kernel) (by decide +kernel)
theorem m_2047 : Cond.code yX12_chance cX12_chance 6 (some .int) ∈ gT := gT_in (i := 2047) (by decide +kernel) (by decide +kernel)
theorem m_2062 : Cond.methodLink "StorksLetLaw" 213 yX12_safest ∈ gT := gT_in (i := 2062) (by decide +kernel) (by decide +kernel)
theorem m_2063 : Cond.instanceMethod yX12_safest ∈ gT := gT_in (i := 2063) (by decide +kernel) (by decide +kernel)
theorem m_2064 : Cond.selects "StorksLetModel" yX12_safest yX12_safest ∈ gT := gT_in (i := 2064) (by decide +kernel) (by decide +kernel)
theorem m_2065 : Cond.code yX12_safest cX12_safest 5 (some .int) ∈ gT := gT_in (i := 2065) (by decide +kernel) (by decide +kernel)
theorem m_2066 : Cond.methodLink "StorksLetLaw" 217 yX12_keep ∈ gT := gT_in (i := 2066) (by decide +kernel) (by decide +kernel)
theorem m_2067 : Cond.instanceMethod yX12_keep ∈ gT := gT_in (i := 2067) (by decide +kernel) (by decide +kernel)
theorem m_2068 : Cond.selects "StorksLetModel" yX12_keep yX12_keep ∈ gT := gT_in (i := 2068) (by decide +kernel) (by decide +kernel)
theorem m_2069 : Cond.code yX12_keep cX12_keep 2 (some .boolean) ∈ gT := gT_in (i := 2069) (by decide +kernel) (by decide +kernel)
theorem m_2070 : Cond.methodLink "StorksLetLaw" 221 yX12_again ∈ gT := gT_in (i := 2070) (by decide +kernel) (by decide +kernel)
theorem m_2071 : Cond.instanceMethod yX12_again ∈ gT := gT_in (i := 2071) (by decide +kernel) (by decide +kernel)
theorem m_2072 : Cond.selects "StorksLetModel" yX12_again yX12_again ∈ gT := gT_in (i := 2072) (by decide +kernel) (by decide +kernel)
theorem m_2073 : Cond.code yX12_again cX12_again 3 (some .boolean) ∈ gT := gT_in (i := 2073) (by decide +kernel) (by decide +kernel)
theorem m_2074 : Cond.methodLink "StorksLetLaw" 225 yX12_count ∈ gT := gT_in (i := 2074) (by decide +kernel) (by decide +kernel)
theorem m_2075 : Cond.instanceMethod yX12_count ∈ gT := gT_in (i := 2075) (by decide +kernel) (by decide +kernel)
theorem m_2076 : Cond.selects "StorksLetModel" yX12_count yX12_count ∈ gT := gT_in (i := 2076) (by decide +kernel) (by decide +kernel)
theorem m_2077 : Cond.code yX12_count cX12_count 4 (some .int) ∈ gT := gT_in (i := 2077) (by decide +kernel) (by decide +kernel)
theorem m_2078 : Cond.methodLink "StorksLetLaw" 229 yX12_row ∈ gT := gT_in (i := 2078) (by decide +kernel) (by decide +kernel)
theorem m_2079 : Cond.instanceMethod yX12_row ∈ gT := gT_in (i := 2079) (by decide +kernel) (by decide +kernel)
theorem m_2080 : Cond.selects "StorksLetModel" yX12_row yX12_row ∈ gT := gT_in (i := 2080) (by decide +kernel) (by decide +kernel)
theorem m_2081 : Cond.code yX12_row cX12_row 2 (some .int) ∈ gT := gT_in (i := 2081) (by decide +kernel) (by decide +kernel)
theorem m_2082 : Cond.arrayClass .long ∈ gT := gT_in (i := 2082) (by decide +kernel) (by decide +kernel)
theorem in_X4 : ∀ w ∈ u_ws RX4 TX4 9, w ∈ gT := gT_ws _ [1148, 1150, 1152, 1154, 1156, 1158, 1160, 1162, 1164] (by decide +kernel) (by decide +kernel)
theorem dL_law_0 : decode cL_law 0 = .ok (.new 8, 3) := by decide +kernel
theorem dL_law_3 : decode cL_law 3 = .ok (.dup, 1) := by decide +kernel
theorem dL_law_4 : decode cL_law 4 = .ok (.invokespecial 28, 3) := by decide +kernel
theorem dL_law_7 : decode cL_law 7 = .ok (.astore_n 1, 1) := by decide +kernel
theorem dL_law_8 : decode cL_law 8 = .ok (.new 29, 3) := by decide +kernel
theorem dL_law_11 : decode cL_law 11 = .ok (.dup, 1) := by decide +kernel
theorem dL_law_12 : decode cL_law 12 = .ok (.invokespecial 31, 3) := by decide +kernel
theorem dL_law_15 : decode cL_law 15 = .ok (.astore_n 2, 1) := by decide +kernel
theorem dL_law_16 : decode cL_law 16 = .ok (.iconst 1, 1) := by decide +kernel
theorem dL_law_17 : decode cL_law 17 = .ok (.newarray .long, 2) := by decide +kernel
theorem dL_law_19 : decode cL_law 19 = .ok (.astore_n 3, 1) := by decide +kernel
theorem dL_law_20 : decode cL_law 20 = .ok (.iconst 0, 1) := by decide +kernel
theorem dL_law_21 : decode cL_law 21 = .ok (.istore 4, 2) := by decide +kernel
theorem dL_law_23 : decode cL_law 23 = .ok (.iload 4, 2) := by decide +kernel
theorem dL_law_25 : decode cL_law 25 = .ok (.aload_n 0, 1) := by decide +kernel
theorem dL_law_26 : decode cL_law 26 = .ok (.arraylength, 1) := by decide +kernel
theorem dL_law_27 : decode cL_law 27 = .ok (.iconst 5, 1) := by decide +kernel
theorem dL_law_28 : decode cL_law 28 = .ok (.isub, 1) := by decide +kernel
theorem dL_law_29 : decode cL_law 29 = .ok (.if_icmp .gt 1744, 3) := by decide +kernel
theorem dL_law_32 : decode cL_law 32 = .ok (.aload_n 0, 1) := by decide +kernel
theorem dL_law_33 : decode cL_law 33 = .ok (.iload 4, 2) := by decide +kernel
theorem dL_law_35 : decode cL_law 35 = .ok (.iaload, 1) := by decide +kernel
theorem dL_law_36 : decode cL_law 36 = .ok (.bipush 63, 2) := by decide +kernel
theorem dL_law_38 : decode cL_law 38 = .ok (.iand, 1) := by decide +kernel
theorem dL_law_39 : decode cL_law 39 = .ok (.tableswitch 1728 0 47 #[205, 230, 255, 268, 281, 294, 362, 430, 498, 566, 615, 664, 701, 762, 775, 800, 813, 862, 899, 924, 937, 974, 987, 1024, 1061, 1086, 1111, 1124, 1137, 1150, 1187, 1224, 1273, 1310, 1347, 1360, 1373, 1386, 1435, 1448, 1473, 1498, 1511, 1560, 1597, 1622, 1647, 1672], 205) := by decide +kernel
theorem dL_law_244 : decode cL_law 244 = .ok (.aload_n 1, 1) := by decide +kernel
theorem dL_law_245 : decode cL_law 245 = .ok (.aload_n 0, 1) := by decide +kernel
theorem dL_law_246 : decode cL_law 246 = .ok (.iload 4, 2) := by decide +kernel
theorem dL_law_248 : decode cL_law 248 = .ok (.iconst 1, 1) := by decide +kernel
theorem dL_law_249 : decode cL_law 249 = .ok (.iadd, 1) := by decide +kernel
theorem dL_law_250 : decode cL_law 250 = .ok (.iaload, 1) := by decide +kernel
theorem dL_law_251 : decode cL_law 251 = .ok (.invokevirtual 32, 3) := by decide +kernel
theorem dL_law_254 : decode cL_law 254 = .ok (.aload_n 2, 1) := by decide +kernel
theorem dL_law_255 : decode cL_law 255 = .ok (.aload_n 0, 1) := by decide +kernel
theorem dL_law_256 : decode cL_law 256 = .ok (.iload 4, 2) := by decide +kernel
theorem dL_law_258 : decode cL_law 258 = .ok (.iconst 1, 1) := by decide +kernel
theorem dL_law_259 : decode cL_law 259 = .ok (.iadd, 1) := by decide +kernel
theorem dL_law_260 : decode cL_law 260 = .ok (.iaload, 1) := by decide +kernel
theorem dL_law_261 : decode cL_law 261 = .ok (.invokevirtual 35, 3) := by decide +kernel
theorem dL_law_264 : decode cL_law 264 = .ok (.if_icmp .eq 1503, 3) := by decide +kernel
theorem dL_law_269 : decode cL_law 269 = .ok (.aload_n 1, 1) := by decide +kernel
theorem dL_law_270 : decode cL_law 270 = .ok (.aload_n 0, 1) := by decide +kernel
theorem dL_law_271 : decode cL_law 271 = .ok (.iload 4, 2) := by decide +kernel
theorem dL_law_273 : decode cL_law 273 = .ok (.iconst 1, 1) := by decide +kernel
theorem dL_law_274 : decode cL_law 274 = .ok (.iadd, 1) := by decide +kernel
theorem dL_law_275 : decode cL_law 275 = .ok (.iaload, 1) := by decide +kernel
theorem dL_law_276 : decode cL_law 276 = .ok (.invokevirtual 36, 3) := by decide +kernel
theorem dL_law_279 : decode cL_law 279 = .ok (.aload_n 2, 1) := by decide +kernel
theorem dL_law_280 : decode cL_law 280 = .ok (.aload_n 0, 1) := by decide +kernel
theorem dL_law_281 : decode cL_law 281 = .ok (.iload 4, 2) := by decide +kernel
theorem dL_law_283 : decode cL_law 283 = .ok (.iconst 1, 1) := by decide +kernel
theorem dL_law_284 : decode cL_law 284 = .ok (.iadd, 1) := by decide +kernel
theorem dL_law_285 : decode cL_law 285 = .ok (.iaload, 1) := by decide +kernel
theorem dL_law_286 : decode cL_law 286 = .ok (.invokevirtual 40, 3) := by decide +kernel
theorem dL_law_289 : decode cL_law 289 = .ok (.if_icmp .eq 1478, 3) := by decide +kernel
theorem dL_law_294 : decode cL_law 294 = .ok (.aload_n 1, 1) := by decide +kernel
theorem dL_law_295 : decode cL_law 295 = .ok (.invokevirtual 41, 3) := by decide +kernel
theorem dL_law_298 : decode cL_law 298 = .ok (.aload_n 2, 1) := by decide +kernel
theorem dL_law_299 : decode cL_law 299 = .ok (.invokevirtual 45, 3) := by decide +kernel
theorem dL_law_302 : decode cL_law 302 = .ok (.if_icmp .eq 1465, 3) := by decide +kernel
theorem dL_law_307 : decode cL_law 307 = .ok (.aload_n 1, 1) := by decide +kernel
theorem dL_law_308 : decode cL_law 308 = .ok (.invokevirtual 46, 3) := by decide +kernel
theorem dL_law_311 : decode cL_law 311 = .ok (.aload_n 2, 1) := by decide +kernel
theorem dL_law_312 : decode cL_law 312 = .ok (.invokevirtual 49, 3) := by decide +kernel
theorem dL_law_315 : decode cL_law 315 = .ok (.if_icmp .eq 1452, 3) := by decide +kernel
theorem dL_law_320 : decode cL_law 320 = .ok (.aload_n 1, 1) := by decide +kernel
theorem dL_law_321 : decode cL_law 321 = .ok (.invokevirtual 50, 3) := by decide +kernel
theorem dL_law_324 : decode cL_law 324 = .ok (.aload_n 2, 1) := by decide +kernel
theorem dL_law_325 : decode cL_law 325 = .ok (.invokevirtual 53, 3) := by decide +kernel
theorem dL_law_328 : decode cL_law 328 = .ok (.if_icmp .eq 1439, 3) := by decide +kernel
theorem dL_law_333 : decode cL_law 333 = .ok (.aload_n 1, 1) := by decide +kernel
theorem dL_law_334 : decode cL_law 334 = .ok (.aload_n 0, 1) := by decide +kernel
theorem dL_law_335 : decode cL_law 335 = .ok (.iload 4, 2) := by decide +kernel
theorem dL_law_337 : decode cL_law 337 = .ok (.iconst 1, 1) := by decide +kernel
theorem dL_law_338 : decode cL_law 338 = .ok (.iadd, 1) := by decide +kernel
theorem dL_law_339 : decode cL_law 339 = .ok (.iaload, 1) := by decide +kernel
theorem dL_law_340 : decode cL_law 340 = .ok (.aload_n 0, 1) := by decide +kernel
theorem dL_law_341 : decode cL_law 341 = .ok (.iload 4, 2) := by decide +kernel
theorem dL_law_343 : decode cL_law 343 = .ok (.iconst 2, 1) := by decide +kernel
theorem dL_law_344 : decode cL_law 344 = .ok (.iadd, 1) := by decide +kernel
theorem dL_law_345 : decode cL_law 345 = .ok (.iaload, 1) := by decide +kernel
theorem dL_law_346 : decode cL_law 346 = .ok (.aload_n 3, 1) := by decide +kernel
theorem dL_law_347 : decode cL_law 347 = .ok (.invokestatic 54, 3) := by decide +kernel
theorem dL_law_350 : decode cL_law 350 = .ok (.istore 5, 2) := by decide +kernel
theorem dL_law_352 : decode cL_law 352 = .ok (.aload_n 2, 1) := by decide +kernel
theorem dL_law_353 : decode cL_law 353 = .ok (.aload_n 0, 1) := by decide +kernel
theorem dL_law_354 : decode cL_law 354 = .ok (.iload 4, 2) := by decide +kernel
theorem dL_law_356 : decode cL_law 356 = .ok (.iconst 1, 1) := by decide +kernel
theorem dL_law_357 : decode cL_law 357 = .ok (.iadd, 1) := by decide +kernel
theorem dL_law_358 : decode cL_law 358 = .ok (.iaload, 1) := by decide +kernel
theorem dL_law_359 : decode cL_law 359 = .ok (.aload_n 0, 1) := by decide +kernel
theorem dL_law_360 : decode cL_law 360 = .ok (.iload 4, 2) := by decide +kernel
theorem dL_law_362 : decode cL_law 362 = .ok (.iconst 2, 1) := by decide +kernel
theorem dL_law_363 : decode cL_law 363 = .ok (.iadd, 1) := by decide +kernel
theorem dL_law_364 : decode cL_law 364 = .ok (.iaload, 1) := by decide +kernel
theorem dL_law_365 : decode cL_law 365 = .ok (.invokevirtual 59, 3) := by decide +kernel
theorem dL_law_368 : decode cL_law 368 = .ok (.istore 6, 2) := by decide +kernel
theorem dL_law_370 : decode cL_law 370 = .ok (.aload_n 2, 1) := by decide +kernel
theorem dL_law_371 : decode cL_law 371 = .ok (.invokevirtual 60, 3) := by decide +kernel
theorem dL_law_374 : decode cL_law 374 = .ok (.iload 5, 2) := by decide +kernel
theorem dL_law_376 : decode cL_law 376 = .ok (.if_icmp .eq 5, 3) := by decide +kernel
theorem dL_law_381 : decode cL_law 381 = .ok (.iload 5, 2) := by decide +kernel
theorem dL_law_383 : decode cL_law 383 = .ok (.ifCond .ne 15, 3) := by decide +kernel
theorem dL_law_398 : decode cL_law 398 = .ok (.goto 1369, 3) := by decide +kernel
theorem dL_law_401 : decode cL_law 401 = .ok (.aload_n 1, 1) := by decide +kernel
theorem dL_law_402 : decode cL_law 402 = .ok (.aload_n 0, 1) := by decide +kernel
theorem dL_law_403 : decode cL_law 403 = .ok (.iload 4, 2) := by decide +kernel
theorem dL_law_405 : decode cL_law 405 = .ok (.iconst 1, 1) := by decide +kernel
theorem dL_law_406 : decode cL_law 406 = .ok (.iadd, 1) := by decide +kernel
theorem dL_law_407 : decode cL_law 407 = .ok (.iaload, 1) := by decide +kernel
theorem dL_law_408 : decode cL_law 408 = .ok (.aload_n 0, 1) := by decide +kernel
theorem dL_law_409 : decode cL_law 409 = .ok (.iload 4, 2) := by decide +kernel
theorem dL_law_411 : decode cL_law 411 = .ok (.iconst 2, 1) := by decide +kernel
theorem dL_law_412 : decode cL_law 412 = .ok (.iadd, 1) := by decide +kernel
theorem dL_law_413 : decode cL_law 413 = .ok (.iaload, 1) := by decide +kernel
theorem dL_law_414 : decode cL_law 414 = .ok (.aload_n 3, 1) := by decide +kernel
theorem dL_law_415 : decode cL_law 415 = .ok (.invokestatic 63, 3) := by decide +kernel
theorem dL_law_418 : decode cL_law 418 = .ok (.istore 5, 2) := by decide +kernel
theorem dL_law_420 : decode cL_law 420 = .ok (.aload_n 2, 1) := by decide +kernel
theorem dL_law_421 : decode cL_law 421 = .ok (.aload_n 0, 1) := by decide +kernel
theorem dL_law_422 : decode cL_law 422 = .ok (.iload 4, 2) := by decide +kernel
theorem dL_law_424 : decode cL_law 424 = .ok (.iconst 1, 1) := by decide +kernel
theorem dL_law_425 : decode cL_law 425 = .ok (.iadd, 1) := by decide +kernel
theorem dL_law_426 : decode cL_law 426 = .ok (.iaload, 1) := by decide +kernel
theorem dL_law_427 : decode cL_law 427 = .ok (.aload_n 0, 1) := by decide +kernel
theorem dL_law_428 : decode cL_law 428 = .ok (.iload 4, 2) := by decide +kernel
theorem dL_law_430 : decode cL_law 430 = .ok (.iconst 2, 1) := by decide +kernel
theorem dL_law_431 : decode cL_law 431 = .ok (.iadd, 1) := by decide +kernel
theorem dL_law_432 : decode cL_law 432 = .ok (.iaload, 1) := by decide +kernel
theorem dL_law_433 : decode cL_law 433 = .ok (.invokevirtual 65, 3) := by decide +kernel
theorem dL_law_436 : decode cL_law 436 = .ok (.istore 6, 2) := by decide +kernel
theorem dL_law_438 : decode cL_law 438 = .ok (.aload_n 2, 1) := by decide +kernel
theorem dL_law_439 : decode cL_law 439 = .ok (.invokevirtual 60, 3) := by decide +kernel
theorem dL_law_442 : decode cL_law 442 = .ok (.iload 5, 2) := by decide +kernel
theorem dL_law_444 : decode cL_law 444 = .ok (.if_icmp .eq 5, 3) := by decide +kernel
theorem dL_law_449 : decode cL_law 449 = .ok (.iload 5, 2) := by decide +kernel
theorem dL_law_451 : decode cL_law 451 = .ok (.ifCond .ne 15, 3) := by decide +kernel
theorem dL_law_466 : decode cL_law 466 = .ok (.goto 1301, 3) := by decide +kernel
theorem dL_law_469 : decode cL_law 469 = .ok (.aload_n 1, 1) := by decide +kernel
theorem dL_law_470 : decode cL_law 470 = .ok (.aload_n 0, 1) := by decide +kernel
theorem dL_law_471 : decode cL_law 471 = .ok (.iload 4, 2) := by decide +kernel
theorem dL_law_473 : decode cL_law 473 = .ok (.iconst 1, 1) := by decide +kernel
theorem dL_law_474 : decode cL_law 474 = .ok (.iadd, 1) := by decide +kernel
theorem dL_law_475 : decode cL_law 475 = .ok (.iaload, 1) := by decide +kernel
theorem dL_law_476 : decode cL_law 476 = .ok (.aload_n 0, 1) := by decide +kernel
theorem dL_law_477 : decode cL_law 477 = .ok (.iload 4, 2) := by decide +kernel
theorem dL_law_479 : decode cL_law 479 = .ok (.iconst 2, 1) := by decide +kernel
theorem dL_law_480 : decode cL_law 480 = .ok (.iadd, 1) := by decide +kernel
theorem dL_law_481 : decode cL_law 481 = .ok (.iaload, 1) := by decide +kernel
theorem dL_law_482 : decode cL_law 482 = .ok (.aload_n 3, 1) := by decide +kernel
theorem dL_law_483 : decode cL_law 483 = .ok (.invokestatic 66, 3) := by decide +kernel
theorem dL_law_486 : decode cL_law 486 = .ok (.istore 5, 2) := by decide +kernel
theorem dL_law_488 : decode cL_law 488 = .ok (.aload_n 2, 1) := by decide +kernel
theorem dL_law_489 : decode cL_law 489 = .ok (.aload_n 0, 1) := by decide +kernel
theorem dL_law_490 : decode cL_law 490 = .ok (.iload 4, 2) := by decide +kernel
theorem dL_law_492 : decode cL_law 492 = .ok (.iconst 1, 1) := by decide +kernel
theorem dL_law_493 : decode cL_law 493 = .ok (.iadd, 1) := by decide +kernel
theorem dL_law_494 : decode cL_law 494 = .ok (.iaload, 1) := by decide +kernel
theorem dL_law_495 : decode cL_law 495 = .ok (.aload_n 0, 1) := by decide +kernel
theorem dL_law_496 : decode cL_law 496 = .ok (.iload 4, 2) := by decide +kernel
theorem dL_law_498 : decode cL_law 498 = .ok (.iconst 2, 1) := by decide +kernel
theorem dL_law_499 : decode cL_law 499 = .ok (.iadd, 1) := by decide +kernel
theorem dL_law_500 : decode cL_law 500 = .ok (.iaload, 1) := by decide +kernel
theorem dL_law_501 : decode cL_law 501 = .ok (.invokevirtual 68, 3) := by decide +kernel
theorem dL_law_504 : decode cL_law 504 = .ok (.istore 6, 2) := by decide +kernel
theorem dL_law_506 : decode cL_law 506 = .ok (.aload_n 2, 1) := by decide +kernel
theorem dL_law_507 : decode cL_law 507 = .ok (.invokevirtual 60, 3) := by decide +kernel
theorem dL_law_510 : decode cL_law 510 = .ok (.iload 5, 2) := by decide +kernel
theorem dL_law_512 : decode cL_law 512 = .ok (.if_icmp .eq 5, 3) := by decide +kernel
theorem dL_law_517 : decode cL_law 517 = .ok (.iload 5, 2) := by decide +kernel
theorem dL_law_519 : decode cL_law 519 = .ok (.ifCond .ne 15, 3) := by decide +kernel
theorem dL_law_534 : decode cL_law 534 = .ok (.goto 1233, 3) := by decide +kernel
theorem dL_law_537 : decode cL_law 537 = .ok (.aload_n 1, 1) := by decide +kernel
theorem dL_law_538 : decode cL_law 538 = .ok (.aload_n 0, 1) := by decide +kernel
theorem dL_law_539 : decode cL_law 539 = .ok (.iload 4, 2) := by decide +kernel
theorem dL_law_541 : decode cL_law 541 = .ok (.iconst 1, 1) := by decide +kernel
theorem dL_law_542 : decode cL_law 542 = .ok (.iadd, 1) := by decide +kernel
theorem dL_law_543 : decode cL_law 543 = .ok (.iaload, 1) := by decide +kernel
theorem dL_law_544 : decode cL_law 544 = .ok (.aload_n 0, 1) := by decide +kernel
theorem dL_law_545 : decode cL_law 545 = .ok (.iload 4, 2) := by decide +kernel
theorem dL_law_547 : decode cL_law 547 = .ok (.iconst 2, 1) := by decide +kernel
theorem dL_law_548 : decode cL_law 548 = .ok (.iadd, 1) := by decide +kernel
theorem dL_law_549 : decode cL_law 549 = .ok (.iaload, 1) := by decide +kernel
theorem dL_law_550 : decode cL_law 550 = .ok (.aload_n 3, 1) := by decide +kernel
theorem dL_law_551 : decode cL_law 551 = .ok (.invokestatic 69, 3) := by decide +kernel
theorem dL_law_554 : decode cL_law 554 = .ok (.istore 5, 2) := by decide +kernel
theorem dL_law_556 : decode cL_law 556 = .ok (.aload_n 2, 1) := by decide +kernel
theorem dL_law_557 : decode cL_law 557 = .ok (.aload_n 0, 1) := by decide +kernel
theorem dL_law_558 : decode cL_law 558 = .ok (.iload 4, 2) := by decide +kernel
theorem dL_law_560 : decode cL_law 560 = .ok (.iconst 1, 1) := by decide +kernel
theorem dL_law_561 : decode cL_law 561 = .ok (.iadd, 1) := by decide +kernel
theorem dL_law_562 : decode cL_law 562 = .ok (.iaload, 1) := by decide +kernel
theorem dL_law_563 : decode cL_law 563 = .ok (.aload_n 0, 1) := by decide +kernel
theorem dL_law_564 : decode cL_law 564 = .ok (.iload 4, 2) := by decide +kernel
theorem dL_law_566 : decode cL_law 566 = .ok (.iconst 2, 1) := by decide +kernel
theorem dL_law_567 : decode cL_law 567 = .ok (.iadd, 1) := by decide +kernel
theorem dL_law_568 : decode cL_law 568 = .ok (.iaload, 1) := by decide +kernel
theorem dL_law_569 : decode cL_law 569 = .ok (.invokevirtual 71, 3) := by decide +kernel
theorem dL_law_572 : decode cL_law 572 = .ok (.istore 6, 2) := by decide +kernel
theorem dL_law_574 : decode cL_law 574 = .ok (.aload_n 2, 1) := by decide +kernel
theorem dL_law_575 : decode cL_law 575 = .ok (.invokevirtual 60, 3) := by decide +kernel
theorem dL_law_578 : decode cL_law 578 = .ok (.iload 5, 2) := by decide +kernel
theorem dL_law_580 : decode cL_law 580 = .ok (.if_icmp .eq 5, 3) := by decide +kernel
theorem dL_law_585 : decode cL_law 585 = .ok (.iload 5, 2) := by decide +kernel
theorem dL_law_587 : decode cL_law 587 = .ok (.ifCond .ne 15, 3) := by decide +kernel
theorem dL_law_602 : decode cL_law 602 = .ok (.goto 1165, 3) := by decide +kernel
theorem dL_law_605 : decode cL_law 605 = .ok (.aload_n 1, 1) := by decide +kernel
theorem dL_law_606 : decode cL_law 606 = .ok (.aload_n 0, 1) := by decide +kernel
theorem dL_law_607 : decode cL_law 607 = .ok (.iload 4, 2) := by decide +kernel
theorem dL_law_609 : decode cL_law 609 = .ok (.iconst 1, 1) := by decide +kernel
theorem dL_law_610 : decode cL_law 610 = .ok (.iadd, 1) := by decide +kernel
theorem dL_law_611 : decode cL_law 611 = .ok (.iaload, 1) := by decide +kernel
theorem dL_law_612 : decode cL_law 612 = .ok (.aload_n 0, 1) := by decide +kernel
theorem dL_law_613 : decode cL_law 613 = .ok (.iload 4, 2) := by decide +kernel
theorem dL_law_615 : decode cL_law 615 = .ok (.iconst 2, 1) := by decide +kernel
theorem dL_law_616 : decode cL_law 616 = .ok (.iadd, 1) := by decide +kernel
theorem dL_law_617 : decode cL_law 617 = .ok (.iaload, 1) := by decide +kernel
theorem dL_law_618 : decode cL_law 618 = .ok (.aload_n 0, 1) := by decide +kernel
theorem dL_law_619 : decode cL_law 619 = .ok (.iload 4, 2) := by decide +kernel
theorem dL_law_621 : decode cL_law 621 = .ok (.iconst 3, 1) := by decide +kernel
theorem dL_law_622 : decode cL_law 622 = .ok (.iadd, 1) := by decide +kernel
theorem dL_law_623 : decode cL_law 623 = .ok (.iaload, 1) := by decide +kernel
theorem dL_law_624 : decode cL_law 624 = .ok (.invokevirtual 72, 3) := by decide +kernel
theorem dL_law_627 : decode cL_law 627 = .ok (.aload_n 2, 1) := by decide +kernel
theorem dL_law_628 : decode cL_law 628 = .ok (.aload_n 0, 1) := by decide +kernel
theorem dL_law_629 : decode cL_law 629 = .ok (.iload 4, 2) := by decide +kernel
theorem dL_law_631 : decode cL_law 631 = .ok (.iconst 1, 1) := by decide +kernel
theorem dL_law_632 : decode cL_law 632 = .ok (.iadd, 1) := by decide +kernel
theorem dL_law_633 : decode cL_law 633 = .ok (.iaload, 1) := by decide +kernel
theorem dL_law_634 : decode cL_law 634 = .ok (.aload_n 0, 1) := by decide +kernel
theorem dL_law_635 : decode cL_law 635 = .ok (.iload 4, 2) := by decide +kernel
theorem dL_law_637 : decode cL_law 637 = .ok (.iconst 2, 1) := by decide +kernel
theorem dL_law_638 : decode cL_law 638 = .ok (.iadd, 1) := by decide +kernel
theorem dL_law_639 : decode cL_law 639 = .ok (.iaload, 1) := by decide +kernel
theorem dL_law_640 : decode cL_law 640 = .ok (.aload_n 0, 1) := by decide +kernel
theorem dL_law_641 : decode cL_law 641 = .ok (.iload 4, 2) := by decide +kernel
theorem dL_law_643 : decode cL_law 643 = .ok (.iconst 3, 1) := by decide +kernel
theorem dL_law_644 : decode cL_law 644 = .ok (.iadd, 1) := by decide +kernel
theorem dL_law_645 : decode cL_law 645 = .ok (.iaload, 1) := by decide +kernel
theorem dL_law_646 : decode cL_law 646 = .ok (.invokevirtual 76, 3) := by decide +kernel
theorem dL_law_649 : decode cL_law 649 = .ok (.if_icmp .eq 1118, 3) := by decide +kernel
theorem dL_law_654 : decode cL_law 654 = .ok (.aload_n 1, 1) := by decide +kernel
theorem dL_law_655 : decode cL_law 655 = .ok (.aload_n 0, 1) := by decide +kernel
theorem dL_law_656 : decode cL_law 656 = .ok (.iload 4, 2) := by decide +kernel
theorem dL_law_658 : decode cL_law 658 = .ok (.iconst 1, 1) := by decide +kernel
theorem dL_law_659 : decode cL_law 659 = .ok (.iadd, 1) := by decide +kernel
theorem dL_law_660 : decode cL_law 660 = .ok (.iaload, 1) := by decide +kernel
theorem dL_law_661 : decode cL_law 661 = .ok (.aload_n 0, 1) := by decide +kernel
theorem dL_law_662 : decode cL_law 662 = .ok (.iload 4, 2) := by decide +kernel
theorem dL_law_664 : decode cL_law 664 = .ok (.iconst 2, 1) := by decide +kernel
theorem dL_law_665 : decode cL_law 665 = .ok (.iadd, 1) := by decide +kernel
theorem dL_law_666 : decode cL_law 666 = .ok (.iaload, 1) := by decide +kernel
theorem dL_law_667 : decode cL_law 667 = .ok (.aload_n 0, 1) := by decide +kernel
theorem dL_law_668 : decode cL_law 668 = .ok (.iload 4, 2) := by decide +kernel
theorem dL_law_670 : decode cL_law 670 = .ok (.iconst 3, 1) := by decide +kernel
theorem dL_law_671 : decode cL_law 671 = .ok (.iadd, 1) := by decide +kernel
theorem dL_law_672 : decode cL_law 672 = .ok (.iaload, 1) := by decide +kernel
theorem dL_law_673 : decode cL_law 673 = .ok (.invokevirtual 77, 3) := by decide +kernel
theorem dL_law_676 : decode cL_law 676 = .ok (.aload_n 2, 1) := by decide +kernel
theorem dL_law_677 : decode cL_law 677 = .ok (.aload_n 0, 1) := by decide +kernel
theorem dL_law_678 : decode cL_law 678 = .ok (.iload 4, 2) := by decide +kernel
theorem dL_law_680 : decode cL_law 680 = .ok (.iconst 1, 1) := by decide +kernel
theorem dL_law_681 : decode cL_law 681 = .ok (.iadd, 1) := by decide +kernel
theorem dL_law_682 : decode cL_law 682 = .ok (.iaload, 1) := by decide +kernel
theorem dL_law_683 : decode cL_law 683 = .ok (.aload_n 0, 1) := by decide +kernel
theorem dL_law_684 : decode cL_law 684 = .ok (.iload 4, 2) := by decide +kernel
theorem dL_law_686 : decode cL_law 686 = .ok (.iconst 2, 1) := by decide +kernel
theorem dL_law_687 : decode cL_law 687 = .ok (.iadd, 1) := by decide +kernel
theorem dL_law_688 : decode cL_law 688 = .ok (.iaload, 1) := by decide +kernel
theorem dL_law_689 : decode cL_law 689 = .ok (.aload_n 0, 1) := by decide +kernel
theorem dL_law_690 : decode cL_law 690 = .ok (.iload 4, 2) := by decide +kernel
theorem dL_law_692 : decode cL_law 692 = .ok (.iconst 3, 1) := by decide +kernel
theorem dL_law_693 : decode cL_law 693 = .ok (.iadd, 1) := by decide +kernel
theorem dL_law_694 : decode cL_law 694 = .ok (.iaload, 1) := by decide +kernel
theorem dL_law_695 : decode cL_law 695 = .ok (.invokevirtual 80, 3) := by decide +kernel
theorem dL_law_698 : decode cL_law 698 = .ok (.if_icmp .eq 1069, 3) := by decide +kernel
theorem dL_law_703 : decode cL_law 703 = .ok (.aload_n 1, 1) := by decide +kernel
theorem dL_law_704 : decode cL_law 704 = .ok (.aload_n 0, 1) := by decide +kernel
theorem dL_law_705 : decode cL_law 705 = .ok (.iload 4, 2) := by decide +kernel
theorem dL_law_707 : decode cL_law 707 = .ok (.iconst 1, 1) := by decide +kernel
theorem dL_law_708 : decode cL_law 708 = .ok (.iadd, 1) := by decide +kernel
theorem dL_law_709 : decode cL_law 709 = .ok (.iaload, 1) := by decide +kernel
theorem dL_law_710 : decode cL_law 710 = .ok (.aload_n 0, 1) := by decide +kernel
theorem dL_law_711 : decode cL_law 711 = .ok (.iload 4, 2) := by decide +kernel
theorem dL_law_713 : decode cL_law 713 = .ok (.iconst 2, 1) := by decide +kernel
theorem dL_law_714 : decode cL_law 714 = .ok (.iadd, 1) := by decide +kernel
theorem dL_law_715 : decode cL_law 715 = .ok (.iaload, 1) := by decide +kernel
theorem dL_law_716 : decode cL_law 716 = .ok (.invokevirtual 81, 3) := by decide +kernel
theorem dL_law_719 : decode cL_law 719 = .ok (.aload_n 2, 1) := by decide +kernel
theorem dL_law_720 : decode cL_law 720 = .ok (.aload_n 0, 1) := by decide +kernel
theorem dL_law_721 : decode cL_law 721 = .ok (.iload 4, 2) := by decide +kernel
theorem dL_law_723 : decode cL_law 723 = .ok (.iconst 1, 1) := by decide +kernel
theorem dL_law_724 : decode cL_law 724 = .ok (.iadd, 1) := by decide +kernel
theorem dL_law_725 : decode cL_law 725 = .ok (.iaload, 1) := by decide +kernel
theorem dL_law_726 : decode cL_law 726 = .ok (.aload_n 0, 1) := by decide +kernel
theorem dL_law_727 : decode cL_law 727 = .ok (.iload 4, 2) := by decide +kernel
theorem dL_law_729 : decode cL_law 729 = .ok (.iconst 2, 1) := by decide +kernel
theorem dL_law_730 : decode cL_law 730 = .ok (.iadd, 1) := by decide +kernel
theorem dL_law_731 : decode cL_law 731 = .ok (.iaload, 1) := by decide +kernel
theorem dL_law_732 : decode cL_law 732 = .ok (.invokevirtual 84, 3) := by decide +kernel
theorem dL_law_735 : decode cL_law 735 = .ok (.if_icmp .eq 1032, 3) := by decide +kernel
theorem dL_law_740 : decode cL_law 740 = .ok (.aload_n 1, 1) := by decide +kernel
theorem dL_law_741 : decode cL_law 741 = .ok (.aload_n 0, 1) := by decide +kernel
theorem dL_law_742 : decode cL_law 742 = .ok (.iload 4, 2) := by decide +kernel
theorem dL_law_744 : decode cL_law 744 = .ok (.iconst 1, 1) := by decide +kernel
theorem dL_law_745 : decode cL_law 745 = .ok (.iadd, 1) := by decide +kernel
theorem dL_law_746 : decode cL_law 746 = .ok (.iaload, 1) := by decide +kernel
theorem dL_law_747 : decode cL_law 747 = .ok (.aload_n 0, 1) := by decide +kernel
theorem dL_law_748 : decode cL_law 748 = .ok (.iload 4, 2) := by decide +kernel
theorem dL_law_750 : decode cL_law 750 = .ok (.iconst 2, 1) := by decide +kernel
theorem dL_law_751 : decode cL_law 751 = .ok (.iadd, 1) := by decide +kernel
theorem dL_law_752 : decode cL_law 752 = .ok (.iaload, 1) := by decide +kernel
theorem dL_law_753 : decode cL_law 753 = .ok (.aload_n 0, 1) := by decide +kernel
theorem dL_law_754 : decode cL_law 754 = .ok (.iload 4, 2) := by decide +kernel
theorem dL_law_756 : decode cL_law 756 = .ok (.iconst 3, 1) := by decide +kernel
theorem dL_law_757 : decode cL_law 757 = .ok (.iadd, 1) := by decide +kernel
theorem dL_law_758 : decode cL_law 758 = .ok (.iaload, 1) := by decide +kernel
theorem dL_law_759 : decode cL_law 759 = .ok (.aload_n 0, 1) := by decide +kernel
theorem dL_law_760 : decode cL_law 760 = .ok (.iload 4, 2) := by decide +kernel
theorem dL_law_762 : decode cL_law 762 = .ok (.iconst 4, 1) := by decide +kernel
theorem dL_law_763 : decode cL_law 763 = .ok (.iadd, 1) := by decide +kernel
theorem dL_law_764 : decode cL_law 764 = .ok (.iaload, 1) := by decide +kernel
theorem dL_law_765 : decode cL_law 765 = .ok (.invokevirtual 85, 3) := by decide +kernel
theorem dL_law_768 : decode cL_law 768 = .ok (.aload_n 2, 1) := by decide +kernel
theorem dL_law_769 : decode cL_law 769 = .ok (.aload_n 0, 1) := by decide +kernel
theorem dL_law_770 : decode cL_law 770 = .ok (.iload 4, 2) := by decide +kernel
theorem dL_law_772 : decode cL_law 772 = .ok (.iconst 1, 1) := by decide +kernel
theorem dL_law_773 : decode cL_law 773 = .ok (.iadd, 1) := by decide +kernel
theorem dL_law_774 : decode cL_law 774 = .ok (.iaload, 1) := by decide +kernel
theorem dL_law_775 : decode cL_law 775 = .ok (.aload_n 0, 1) := by decide +kernel
theorem dL_law_776 : decode cL_law 776 = .ok (.iload 4, 2) := by decide +kernel
theorem dL_law_778 : decode cL_law 778 = .ok (.iconst 2, 1) := by decide +kernel
theorem dL_law_779 : decode cL_law 779 = .ok (.iadd, 1) := by decide +kernel
theorem dL_law_780 : decode cL_law 780 = .ok (.iaload, 1) := by decide +kernel
theorem dL_law_781 : decode cL_law 781 = .ok (.aload_n 0, 1) := by decide +kernel
theorem dL_law_782 : decode cL_law 782 = .ok (.iload 4, 2) := by decide +kernel
theorem dL_law_784 : decode cL_law 784 = .ok (.iconst 3, 1) := by decide +kernel
theorem dL_law_785 : decode cL_law 785 = .ok (.iadd, 1) := by decide +kernel
theorem dL_law_786 : decode cL_law 786 = .ok (.iaload, 1) := by decide +kernel
theorem dL_law_787 : decode cL_law 787 = .ok (.aload_n 0, 1) := by decide +kernel
theorem dL_law_788 : decode cL_law 788 = .ok (.iload 4, 2) := by decide +kernel
theorem dL_law_790 : decode cL_law 790 = .ok (.iconst 4, 1) := by decide +kernel
theorem dL_law_791 : decode cL_law 791 = .ok (.iadd, 1) := by decide +kernel
theorem dL_law_792 : decode cL_law 792 = .ok (.iaload, 1) := by decide +kernel
theorem dL_law_793 : decode cL_law 793 = .ok (.invokevirtual 89, 3) := by decide +kernel
theorem dL_law_796 : decode cL_law 796 = .ok (.if_icmp .eq 971, 3) := by decide +kernel
theorem dL_law_801 : decode cL_law 801 = .ok (.aload_n 1, 1) := by decide +kernel
theorem dL_law_802 : decode cL_law 802 = .ok (.invokevirtual 90, 3) := by decide +kernel
theorem dL_law_805 : decode cL_law 805 = .ok (.aload_n 2, 1) := by decide +kernel
theorem dL_law_806 : decode cL_law 806 = .ok (.invokevirtual 93, 3) := by decide +kernel
theorem dL_law_809 : decode cL_law 809 = .ok (.if_icmp .eq 958, 3) := by decide +kernel
theorem dL_law_814 : decode cL_law 814 = .ok (.aload_n 1, 1) := by decide +kernel
theorem dL_law_815 : decode cL_law 815 = .ok (.aload_n 0, 1) := by decide +kernel
theorem dL_law_816 : decode cL_law 816 = .ok (.iload 4, 2) := by decide +kernel
theorem dL_law_818 : decode cL_law 818 = .ok (.iconst 1, 1) := by decide +kernel
theorem dL_law_819 : decode cL_law 819 = .ok (.iadd, 1) := by decide +kernel
theorem dL_law_820 : decode cL_law 820 = .ok (.iaload, 1) := by decide +kernel
theorem dL_law_821 : decode cL_law 821 = .ok (.invokevirtual 94, 3) := by decide +kernel
theorem dL_law_824 : decode cL_law 824 = .ok (.aload_n 2, 1) := by decide +kernel
theorem dL_law_825 : decode cL_law 825 = .ok (.aload_n 0, 1) := by decide +kernel
theorem dL_law_826 : decode cL_law 826 = .ok (.iload 4, 2) := by decide +kernel
theorem dL_law_828 : decode cL_law 828 = .ok (.iconst 1, 1) := by decide +kernel
theorem dL_law_829 : decode cL_law 829 = .ok (.iadd, 1) := by decide +kernel
theorem dL_law_830 : decode cL_law 830 = .ok (.iaload, 1) := by decide +kernel
theorem dL_law_831 : decode cL_law 831 = .ok (.invokevirtual 97, 3) := by decide +kernel
theorem dL_law_834 : decode cL_law 834 = .ok (.if_icmp .eq 933, 3) := by decide +kernel
theorem dL_law_839 : decode cL_law 839 = .ok (.aload_n 1, 1) := by decide +kernel
theorem dL_law_840 : decode cL_law 840 = .ok (.invokevirtual 98, 3) := by decide +kernel
theorem dL_law_843 : decode cL_law 843 = .ok (.aload_n 2, 1) := by decide +kernel
theorem dL_law_844 : decode cL_law 844 = .ok (.invokevirtual 101, 3) := by decide +kernel
theorem dL_law_847 : decode cL_law 847 = .ok (.if_icmp .eq 920, 3) := by decide +kernel
theorem dL_law_852 : decode cL_law 852 = .ok (.aload_n 1, 1) := by decide +kernel
theorem dL_law_853 : decode cL_law 853 = .ok (.aload_n 0, 1) := by decide +kernel
theorem dL_law_854 : decode cL_law 854 = .ok (.iload 4, 2) := by decide +kernel
theorem dL_law_856 : decode cL_law 856 = .ok (.iconst 1, 1) := by decide +kernel
theorem dL_law_857 : decode cL_law 857 = .ok (.iadd, 1) := by decide +kernel
theorem dL_law_858 : decode cL_law 858 = .ok (.iaload, 1) := by decide +kernel
theorem dL_law_859 : decode cL_law 859 = .ok (.aload_n 0, 1) := by decide +kernel
theorem dL_law_860 : decode cL_law 860 = .ok (.iload 4, 2) := by decide +kernel
theorem dL_law_862 : decode cL_law 862 = .ok (.iconst 2, 1) := by decide +kernel
theorem dL_law_863 : decode cL_law 863 = .ok (.iadd, 1) := by decide +kernel
theorem dL_law_864 : decode cL_law 864 = .ok (.iaload, 1) := by decide +kernel
theorem dL_law_865 : decode cL_law 865 = .ok (.aload_n 0, 1) := by decide +kernel
theorem dL_law_866 : decode cL_law 866 = .ok (.iload 4, 2) := by decide +kernel
theorem dL_law_868 : decode cL_law 868 = .ok (.iconst 3, 1) := by decide +kernel
theorem dL_law_869 : decode cL_law 869 = .ok (.iadd, 1) := by decide +kernel
theorem dL_law_870 : decode cL_law 870 = .ok (.iaload, 1) := by decide +kernel
theorem dL_law_871 : decode cL_law 871 = .ok (.invokevirtual 102, 3) := by decide +kernel
theorem dL_law_874 : decode cL_law 874 = .ok (.aload_n 2, 1) := by decide +kernel
theorem dL_law_875 : decode cL_law 875 = .ok (.aload_n 0, 1) := by decide +kernel
theorem dL_law_876 : decode cL_law 876 = .ok (.iload 4, 2) := by decide +kernel
theorem dL_law_878 : decode cL_law 878 = .ok (.iconst 1, 1) := by decide +kernel
theorem dL_law_879 : decode cL_law 879 = .ok (.iadd, 1) := by decide +kernel
theorem dL_law_880 : decode cL_law 880 = .ok (.iaload, 1) := by decide +kernel
theorem dL_law_881 : decode cL_law 881 = .ok (.aload_n 0, 1) := by decide +kernel
theorem dL_law_882 : decode cL_law 882 = .ok (.iload 4, 2) := by decide +kernel
theorem dL_law_884 : decode cL_law 884 = .ok (.iconst 2, 1) := by decide +kernel
theorem dL_law_885 : decode cL_law 885 = .ok (.iadd, 1) := by decide +kernel
theorem dL_law_886 : decode cL_law 886 = .ok (.iaload, 1) := by decide +kernel
theorem dL_law_887 : decode cL_law 887 = .ok (.aload_n 0, 1) := by decide +kernel
theorem dL_law_888 : decode cL_law 888 = .ok (.iload 4, 2) := by decide +kernel
theorem dL_law_890 : decode cL_law 890 = .ok (.iconst 3, 1) := by decide +kernel
theorem dL_law_891 : decode cL_law 891 = .ok (.iadd, 1) := by decide +kernel
theorem dL_law_892 : decode cL_law 892 = .ok (.iaload, 1) := by decide +kernel
theorem dL_law_893 : decode cL_law 893 = .ok (.invokevirtual 105, 3) := by decide +kernel
theorem dL_law_896 : decode cL_law 896 = .ok (.if_icmp .eq 871, 3) := by decide +kernel
theorem dL_law_901 : decode cL_law 901 = .ok (.aload_n 1, 1) := by decide +kernel
theorem dL_law_902 : decode cL_law 902 = .ok (.aload_n 0, 1) := by decide +kernel
theorem dL_law_903 : decode cL_law 903 = .ok (.iload 4, 2) := by decide +kernel
theorem dL_law_905 : decode cL_law 905 = .ok (.iconst 1, 1) := by decide +kernel
theorem dL_law_906 : decode cL_law 906 = .ok (.iadd, 1) := by decide +kernel
theorem dL_law_907 : decode cL_law 907 = .ok (.iaload, 1) := by decide +kernel
theorem dL_law_908 : decode cL_law 908 = .ok (.aload_n 0, 1) := by decide +kernel
theorem dL_law_909 : decode cL_law 909 = .ok (.iload 4, 2) := by decide +kernel
theorem dL_law_911 : decode cL_law 911 = .ok (.iconst 2, 1) := by decide +kernel
theorem dL_law_912 : decode cL_law 912 = .ok (.iadd, 1) := by decide +kernel
theorem dL_law_913 : decode cL_law 913 = .ok (.iaload, 1) := by decide +kernel
theorem dL_law_914 : decode cL_law 914 = .ok (.invokevirtual 106, 3) := by decide +kernel
theorem dL_law_917 : decode cL_law 917 = .ok (.aload_n 2, 1) := by decide +kernel
theorem dL_law_918 : decode cL_law 918 = .ok (.aload_n 0, 1) := by decide +kernel
theorem dL_law_919 : decode cL_law 919 = .ok (.iload 4, 2) := by decide +kernel
theorem dL_law_921 : decode cL_law 921 = .ok (.iconst 1, 1) := by decide +kernel
theorem dL_law_922 : decode cL_law 922 = .ok (.iadd, 1) := by decide +kernel
theorem dL_law_923 : decode cL_law 923 = .ok (.iaload, 1) := by decide +kernel
theorem dL_law_924 : decode cL_law 924 = .ok (.aload_n 0, 1) := by decide +kernel
theorem dL_law_925 : decode cL_law 925 = .ok (.iload 4, 2) := by decide +kernel
theorem dL_law_927 : decode cL_law 927 = .ok (.iconst 2, 1) := by decide +kernel
theorem dL_law_928 : decode cL_law 928 = .ok (.iadd, 1) := by decide +kernel
theorem dL_law_929 : decode cL_law 929 = .ok (.iaload, 1) := by decide +kernel
theorem dL_law_930 : decode cL_law 930 = .ok (.invokevirtual 109, 3) := by decide +kernel
theorem dL_law_933 : decode cL_law 933 = .ok (.if_icmp .eq 834, 3) := by decide +kernel
theorem dL_law_938 : decode cL_law 938 = .ok (.aload_n 1, 1) := by decide +kernel
theorem dL_law_939 : decode cL_law 939 = .ok (.aload_n 0, 1) := by decide +kernel
theorem dL_law_940 : decode cL_law 940 = .ok (.iload 4, 2) := by decide +kernel
theorem dL_law_942 : decode cL_law 942 = .ok (.iconst 1, 1) := by decide +kernel
theorem dL_law_943 : decode cL_law 943 = .ok (.iadd, 1) := by decide +kernel
theorem dL_law_944 : decode cL_law 944 = .ok (.iaload, 1) := by decide +kernel
theorem dL_law_945 : decode cL_law 945 = .ok (.invokevirtual 110, 3) := by decide +kernel
theorem dL_law_948 : decode cL_law 948 = .ok (.aload_n 2, 1) := by decide +kernel
theorem dL_law_949 : decode cL_law 949 = .ok (.aload_n 0, 1) := by decide +kernel
theorem dL_law_950 : decode cL_law 950 = .ok (.iload 4, 2) := by decide +kernel
theorem dL_law_952 : decode cL_law 952 = .ok (.iconst 1, 1) := by decide +kernel
theorem dL_law_953 : decode cL_law 953 = .ok (.iadd, 1) := by decide +kernel
theorem dL_law_954 : decode cL_law 954 = .ok (.iaload, 1) := by decide +kernel
theorem dL_law_955 : decode cL_law 955 = .ok (.invokevirtual 113, 3) := by decide +kernel
theorem dL_law_958 : decode cL_law 958 = .ok (.if_icmp .eq 809, 3) := by decide +kernel
theorem dL_law_963 : decode cL_law 963 = .ok (.aload_n 1, 1) := by decide +kernel
theorem dL_law_964 : decode cL_law 964 = .ok (.invokevirtual 114, 3) := by decide +kernel
theorem dL_law_967 : decode cL_law 967 = .ok (.aload_n 2, 1) := by decide +kernel
theorem dL_law_968 : decode cL_law 968 = .ok (.invokevirtual 117, 3) := by decide +kernel
theorem dL_law_971 : decode cL_law 971 = .ok (.if_icmp .eq 796, 3) := by decide +kernel
theorem dL_law_976 : decode cL_law 976 = .ok (.aload_n 1, 1) := by decide +kernel
theorem dL_law_977 : decode cL_law 977 = .ok (.aload_n 0, 1) := by decide +kernel
theorem dL_law_978 : decode cL_law 978 = .ok (.iload 4, 2) := by decide +kernel
theorem dL_law_980 : decode cL_law 980 = .ok (.iconst 1, 1) := by decide +kernel
theorem dL_law_981 : decode cL_law 981 = .ok (.iadd, 1) := by decide +kernel
theorem dL_law_982 : decode cL_law 982 = .ok (.iaload, 1) := by decide +kernel
theorem dL_law_983 : decode cL_law 983 = .ok (.aload_n 0, 1) := by decide +kernel
theorem dL_law_984 : decode cL_law 984 = .ok (.iload 4, 2) := by decide +kernel
theorem dL_law_986 : decode cL_law 986 = .ok (.iconst 2, 1) := by decide +kernel
theorem dL_law_987 : decode cL_law 987 = .ok (.iadd, 1) := by decide +kernel
theorem dL_law_988 : decode cL_law 988 = .ok (.iaload, 1) := by decide +kernel
theorem dL_law_989 : decode cL_law 989 = .ok (.invokevirtual 118, 3) := by decide +kernel
theorem dL_law_992 : decode cL_law 992 = .ok (.aload_n 2, 1) := by decide +kernel
theorem dL_law_993 : decode cL_law 993 = .ok (.aload_n 0, 1) := by decide +kernel
theorem dL_law_994 : decode cL_law 994 = .ok (.iload 4, 2) := by decide +kernel
theorem dL_law_996 : decode cL_law 996 = .ok (.iconst 1, 1) := by decide +kernel
theorem dL_law_997 : decode cL_law 997 = .ok (.iadd, 1) := by decide +kernel
theorem dL_law_998 : decode cL_law 998 = .ok (.iaload, 1) := by decide +kernel
theorem dL_law_999 : decode cL_law 999 = .ok (.aload_n 0, 1) := by decide +kernel
theorem dL_law_1000 : decode cL_law 1000 = .ok (.iload 4, 2) := by decide +kernel
theorem dL_law_1002 : decode cL_law 1002 = .ok (.iconst 2, 1) := by decide +kernel
theorem dL_law_1003 : decode cL_law 1003 = .ok (.iadd, 1) := by decide +kernel
theorem dL_law_1004 : decode cL_law 1004 = .ok (.iaload, 1) := by decide +kernel
theorem dL_law_1005 : decode cL_law 1005 = .ok (.invokevirtual 121, 3) := by decide +kernel
theorem dL_law_1008 : decode cL_law 1008 = .ok (.if_icmp .eq 759, 3) := by decide +kernel
theorem dL_law_1013 : decode cL_law 1013 = .ok (.aload_n 1, 1) := by decide +kernel
theorem dL_law_1014 : decode cL_law 1014 = .ok (.invokevirtual 122, 3) := by decide +kernel
theorem dL_law_1017 : decode cL_law 1017 = .ok (.aload_n 2, 1) := by decide +kernel
theorem dL_law_1018 : decode cL_law 1018 = .ok (.invokevirtual 125, 3) := by decide +kernel
theorem dL_law_1021 : decode cL_law 1021 = .ok (.if_icmp .eq 746, 3) := by decide +kernel
theorem dL_law_1026 : decode cL_law 1026 = .ok (.aload_n 1, 1) := by decide +kernel
theorem dL_law_1027 : decode cL_law 1027 = .ok (.aload_n 0, 1) := by decide +kernel
theorem dL_law_1028 : decode cL_law 1028 = .ok (.iload 4, 2) := by decide +kernel
theorem dL_law_1030 : decode cL_law 1030 = .ok (.iconst 1, 1) := by decide +kernel
theorem dL_law_1031 : decode cL_law 1031 = .ok (.iadd, 1) := by decide +kernel
theorem dL_law_1032 : decode cL_law 1032 = .ok (.iaload, 1) := by decide +kernel
theorem dL_law_1033 : decode cL_law 1033 = .ok (.aload_n 0, 1) := by decide +kernel
theorem dL_law_1034 : decode cL_law 1034 = .ok (.iload 4, 2) := by decide +kernel
theorem dL_law_1036 : decode cL_law 1036 = .ok (.iconst 2, 1) := by decide +kernel
theorem dL_law_1037 : decode cL_law 1037 = .ok (.iadd, 1) := by decide +kernel
theorem dL_law_1038 : decode cL_law 1038 = .ok (.iaload, 1) := by decide +kernel
theorem dL_law_1039 : decode cL_law 1039 = .ok (.invokevirtual 126, 3) := by decide +kernel
theorem dL_law_1042 : decode cL_law 1042 = .ok (.aload_n 2, 1) := by decide +kernel
theorem dL_law_1043 : decode cL_law 1043 = .ok (.aload_n 0, 1) := by decide +kernel
theorem dL_law_1044 : decode cL_law 1044 = .ok (.iload 4, 2) := by decide +kernel
theorem dL_law_1046 : decode cL_law 1046 = .ok (.iconst 1, 1) := by decide +kernel
theorem dL_law_1047 : decode cL_law 1047 = .ok (.iadd, 1) := by decide +kernel
theorem dL_law_1048 : decode cL_law 1048 = .ok (.iaload, 1) := by decide +kernel
theorem dL_law_1049 : decode cL_law 1049 = .ok (.aload_n 0, 1) := by decide +kernel
theorem dL_law_1050 : decode cL_law 1050 = .ok (.iload 4, 2) := by decide +kernel
theorem dL_law_1052 : decode cL_law 1052 = .ok (.iconst 2, 1) := by decide +kernel
theorem dL_law_1053 : decode cL_law 1053 = .ok (.iadd, 1) := by decide +kernel
theorem dL_law_1054 : decode cL_law 1054 = .ok (.iaload, 1) := by decide +kernel
theorem dL_law_1055 : decode cL_law 1055 = .ok (.invokevirtual 129, 3) := by decide +kernel
theorem dL_law_1058 : decode cL_law 1058 = .ok (.if_icmp .eq 709, 3) := by decide +kernel
theorem dL_law_1063 : decode cL_law 1063 = .ok (.aload_n 1, 1) := by decide +kernel
theorem dL_law_1064 : decode cL_law 1064 = .ok (.aload_n 0, 1) := by decide +kernel
theorem dL_law_1065 : decode cL_law 1065 = .ok (.iload 4, 2) := by decide +kernel
theorem dL_law_1067 : decode cL_law 1067 = .ok (.iconst 1, 1) := by decide +kernel
theorem dL_law_1068 : decode cL_law 1068 = .ok (.iadd, 1) := by decide +kernel
theorem dL_law_1069 : decode cL_law 1069 = .ok (.iaload, 1) := by decide +kernel
theorem dL_law_1070 : decode cL_law 1070 = .ok (.aload_n 0, 1) := by decide +kernel
theorem dL_law_1071 : decode cL_law 1071 = .ok (.iload 4, 2) := by decide +kernel
theorem dL_law_1073 : decode cL_law 1073 = .ok (.iconst 2, 1) := by decide +kernel
theorem dL_law_1074 : decode cL_law 1074 = .ok (.iadd, 1) := by decide +kernel
theorem dL_law_1075 : decode cL_law 1075 = .ok (.iaload, 1) := by decide +kernel
theorem dL_law_1076 : decode cL_law 1076 = .ok (.invokevirtual 130, 3) := by decide +kernel
theorem dL_law_1079 : decode cL_law 1079 = .ok (.aload_n 2, 1) := by decide +kernel
theorem dL_law_1080 : decode cL_law 1080 = .ok (.aload_n 0, 1) := by decide +kernel
theorem dL_law_1081 : decode cL_law 1081 = .ok (.iload 4, 2) := by decide +kernel
theorem dL_law_1083 : decode cL_law 1083 = .ok (.iconst 1, 1) := by decide +kernel
theorem dL_law_1084 : decode cL_law 1084 = .ok (.iadd, 1) := by decide +kernel
theorem dL_law_1085 : decode cL_law 1085 = .ok (.iaload, 1) := by decide +kernel
theorem dL_law_1086 : decode cL_law 1086 = .ok (.aload_n 0, 1) := by decide +kernel
theorem dL_law_1087 : decode cL_law 1087 = .ok (.iload 4, 2) := by decide +kernel
theorem dL_law_1089 : decode cL_law 1089 = .ok (.iconst 2, 1) := by decide +kernel
theorem dL_law_1090 : decode cL_law 1090 = .ok (.iadd, 1) := by decide +kernel
theorem dL_law_1091 : decode cL_law 1091 = .ok (.iaload, 1) := by decide +kernel
theorem dL_law_1092 : decode cL_law 1092 = .ok (.invokevirtual 133, 3) := by decide +kernel
theorem dL_law_1095 : decode cL_law 1095 = .ok (.if_icmp .eq 672, 3) := by decide +kernel
theorem dL_law_1100 : decode cL_law 1100 = .ok (.aload_n 1, 1) := by decide +kernel
theorem dL_law_1101 : decode cL_law 1101 = .ok (.aload_n 0, 1) := by decide +kernel
theorem dL_law_1102 : decode cL_law 1102 = .ok (.iload 4, 2) := by decide +kernel
theorem dL_law_1104 : decode cL_law 1104 = .ok (.iconst 1, 1) := by decide +kernel
theorem dL_law_1105 : decode cL_law 1105 = .ok (.iadd, 1) := by decide +kernel
theorem dL_law_1106 : decode cL_law 1106 = .ok (.iaload, 1) := by decide +kernel
theorem dL_law_1107 : decode cL_law 1107 = .ok (.invokevirtual 134, 3) := by decide +kernel
theorem dL_law_1110 : decode cL_law 1110 = .ok (.aload_n 2, 1) := by decide +kernel
theorem dL_law_1111 : decode cL_law 1111 = .ok (.aload_n 0, 1) := by decide +kernel
theorem dL_law_1112 : decode cL_law 1112 = .ok (.iload 4, 2) := by decide +kernel
theorem dL_law_1114 : decode cL_law 1114 = .ok (.iconst 1, 1) := by decide +kernel
theorem dL_law_1115 : decode cL_law 1115 = .ok (.iadd, 1) := by decide +kernel
theorem dL_law_1116 : decode cL_law 1116 = .ok (.iaload, 1) := by decide +kernel
theorem dL_law_1117 : decode cL_law 1117 = .ok (.invokevirtual 137, 3) := by decide +kernel
theorem dL_law_1120 : decode cL_law 1120 = .ok (.if_icmp .eq 647, 3) := by decide +kernel
theorem dL_law_1125 : decode cL_law 1125 = .ok (.aload_n 1, 1) := by decide +kernel
theorem dL_law_1126 : decode cL_law 1126 = .ok (.aload_n 0, 1) := by decide +kernel
theorem dL_law_1127 : decode cL_law 1127 = .ok (.iload 4, 2) := by decide +kernel
theorem dL_law_1129 : decode cL_law 1129 = .ok (.iconst 1, 1) := by decide +kernel
theorem dL_law_1130 : decode cL_law 1130 = .ok (.iadd, 1) := by decide +kernel
theorem dL_law_1131 : decode cL_law 1131 = .ok (.iaload, 1) := by decide +kernel
theorem dL_law_1132 : decode cL_law 1132 = .ok (.invokevirtual 138, 3) := by decide +kernel
theorem dL_law_1135 : decode cL_law 1135 = .ok (.aload_n 2, 1) := by decide +kernel
theorem dL_law_1136 : decode cL_law 1136 = .ok (.aload_n 0, 1) := by decide +kernel
theorem dL_law_1137 : decode cL_law 1137 = .ok (.iload 4, 2) := by decide +kernel
theorem dL_law_1139 : decode cL_law 1139 = .ok (.iconst 1, 1) := by decide +kernel
theorem dL_law_1140 : decode cL_law 1140 = .ok (.iadd, 1) := by decide +kernel
theorem dL_law_1141 : decode cL_law 1141 = .ok (.iaload, 1) := by decide +kernel
theorem dL_law_1142 : decode cL_law 1142 = .ok (.invokevirtual 141, 3) := by decide +kernel
theorem dL_law_1145 : decode cL_law 1145 = .ok (.if_icmp .eq 622, 3) := by decide +kernel
theorem dL_law_1150 : decode cL_law 1150 = .ok (.aload_n 1, 1) := by decide +kernel
theorem dL_law_1151 : decode cL_law 1151 = .ok (.invokevirtual 142, 3) := by decide +kernel
theorem dL_law_1154 : decode cL_law 1154 = .ok (.aload_n 2, 1) := by decide +kernel
theorem dL_law_1155 : decode cL_law 1155 = .ok (.invokevirtual 145, 3) := by decide +kernel
theorem dL_law_1158 : decode cL_law 1158 = .ok (.if_icmp .eq 609, 3) := by decide +kernel
theorem dL_law_1163 : decode cL_law 1163 = .ok (.aload_n 1, 1) := by decide +kernel
theorem dL_law_1164 : decode cL_law 1164 = .ok (.invokevirtual 146, 3) := by decide +kernel
theorem dL_law_1167 : decode cL_law 1167 = .ok (.aload_n 2, 1) := by decide +kernel
theorem dL_law_1168 : decode cL_law 1168 = .ok (.invokevirtual 149, 3) := by decide +kernel
theorem dL_law_1171 : decode cL_law 1171 = .ok (.if_icmp .eq 596, 3) := by decide +kernel
theorem dL_law_1176 : decode cL_law 1176 = .ok (.aload_n 1, 1) := by decide +kernel
theorem dL_law_1177 : decode cL_law 1177 = .ok (.invokevirtual 150, 3) := by decide +kernel
theorem dL_law_1180 : decode cL_law 1180 = .ok (.aload_n 2, 1) := by decide +kernel
theorem dL_law_1181 : decode cL_law 1181 = .ok (.invokevirtual 153, 3) := by decide +kernel
theorem dL_law_1184 : decode cL_law 1184 = .ok (.if_icmp .eq 583, 3) := by decide +kernel
theorem dL_law_1189 : decode cL_law 1189 = .ok (.aload_n 1, 1) := by decide +kernel
theorem dL_law_1190 : decode cL_law 1190 = .ok (.aload_n 0, 1) := by decide +kernel
theorem dL_law_1191 : decode cL_law 1191 = .ok (.iload 4, 2) := by decide +kernel
theorem dL_law_1193 : decode cL_law 1193 = .ok (.iconst 1, 1) := by decide +kernel
theorem dL_law_1194 : decode cL_law 1194 = .ok (.iadd, 1) := by decide +kernel
theorem dL_law_1195 : decode cL_law 1195 = .ok (.iaload, 1) := by decide +kernel
theorem dL_law_1196 : decode cL_law 1196 = .ok (.aload_n 0, 1) := by decide +kernel
theorem dL_law_1197 : decode cL_law 1197 = .ok (.iload 4, 2) := by decide +kernel
theorem dL_law_1199 : decode cL_law 1199 = .ok (.iconst 2, 1) := by decide +kernel
theorem dL_law_1200 : decode cL_law 1200 = .ok (.iadd, 1) := by decide +kernel
theorem dL_law_1201 : decode cL_law 1201 = .ok (.iaload, 1) := by decide +kernel
theorem dL_law_1202 : decode cL_law 1202 = .ok (.invokevirtual 154, 3) := by decide +kernel
theorem dL_law_1205 : decode cL_law 1205 = .ok (.aload_n 2, 1) := by decide +kernel
theorem dL_law_1206 : decode cL_law 1206 = .ok (.aload_n 0, 1) := by decide +kernel
theorem dL_law_1207 : decode cL_law 1207 = .ok (.iload 4, 2) := by decide +kernel
theorem dL_law_1209 : decode cL_law 1209 = .ok (.iconst 1, 1) := by decide +kernel
theorem dL_law_1210 : decode cL_law 1210 = .ok (.iadd, 1) := by decide +kernel
theorem dL_law_1211 : decode cL_law 1211 = .ok (.iaload, 1) := by decide +kernel
theorem dL_law_1212 : decode cL_law 1212 = .ok (.aload_n 0, 1) := by decide +kernel
theorem dL_law_1213 : decode cL_law 1213 = .ok (.iload 4, 2) := by decide +kernel
theorem dL_law_1215 : decode cL_law 1215 = .ok (.iconst 2, 1) := by decide +kernel
theorem dL_law_1216 : decode cL_law 1216 = .ok (.iadd, 1) := by decide +kernel
theorem dL_law_1217 : decode cL_law 1217 = .ok (.iaload, 1) := by decide +kernel
theorem dL_law_1218 : decode cL_law 1218 = .ok (.invokevirtual 157, 3) := by decide +kernel
theorem dL_law_1221 : decode cL_law 1221 = .ok (.if_icmp .eq 546, 3) := by decide +kernel
theorem dL_law_1226 : decode cL_law 1226 = .ok (.aload_n 1, 1) := by decide +kernel
theorem dL_law_1227 : decode cL_law 1227 = .ok (.aload_n 0, 1) := by decide +kernel
theorem dL_law_1228 : decode cL_law 1228 = .ok (.iload 4, 2) := by decide +kernel
theorem dL_law_1230 : decode cL_law 1230 = .ok (.iconst 1, 1) := by decide +kernel
theorem dL_law_1231 : decode cL_law 1231 = .ok (.iadd, 1) := by decide +kernel
theorem dL_law_1232 : decode cL_law 1232 = .ok (.iaload, 1) := by decide +kernel
theorem dL_law_1233 : decode cL_law 1233 = .ok (.aload_n 0, 1) := by decide +kernel
theorem dL_law_1234 : decode cL_law 1234 = .ok (.iload 4, 2) := by decide +kernel
theorem dL_law_1236 : decode cL_law 1236 = .ok (.iconst 2, 1) := by decide +kernel
theorem dL_law_1237 : decode cL_law 1237 = .ok (.iadd, 1) := by decide +kernel
theorem dL_law_1238 : decode cL_law 1238 = .ok (.iaload, 1) := by decide +kernel
theorem dL_law_1239 : decode cL_law 1239 = .ok (.invokevirtual 158, 3) := by decide +kernel
theorem dL_law_1242 : decode cL_law 1242 = .ok (.aload_n 2, 1) := by decide +kernel
theorem dL_law_1243 : decode cL_law 1243 = .ok (.aload_n 0, 1) := by decide +kernel
theorem dL_law_1244 : decode cL_law 1244 = .ok (.iload 4, 2) := by decide +kernel
theorem dL_law_1246 : decode cL_law 1246 = .ok (.iconst 1, 1) := by decide +kernel
theorem dL_law_1247 : decode cL_law 1247 = .ok (.iadd, 1) := by decide +kernel
theorem dL_law_1248 : decode cL_law 1248 = .ok (.iaload, 1) := by decide +kernel
theorem dL_law_1249 : decode cL_law 1249 = .ok (.aload_n 0, 1) := by decide +kernel
theorem dL_law_1250 : decode cL_law 1250 = .ok (.iload 4, 2) := by decide +kernel
theorem dL_law_1252 : decode cL_law 1252 = .ok (.iconst 2, 1) := by decide +kernel
theorem dL_law_1253 : decode cL_law 1253 = .ok (.iadd, 1) := by decide +kernel
theorem dL_law_1254 : decode cL_law 1254 = .ok (.iaload, 1) := by decide +kernel
theorem dL_law_1255 : decode cL_law 1255 = .ok (.invokevirtual 161, 3) := by decide +kernel
theorem dL_law_1258 : decode cL_law 1258 = .ok (.if_icmp .eq 509, 3) := by decide +kernel
theorem dL_law_1263 : decode cL_law 1263 = .ok (.aload_n 1, 1) := by decide +kernel
theorem dL_law_1264 : decode cL_law 1264 = .ok (.aload_n 0, 1) := by decide +kernel
theorem dL_law_1265 : decode cL_law 1265 = .ok (.iload 4, 2) := by decide +kernel
theorem dL_law_1267 : decode cL_law 1267 = .ok (.iconst 1, 1) := by decide +kernel
theorem dL_law_1268 : decode cL_law 1268 = .ok (.iadd, 1) := by decide +kernel
theorem dL_law_1269 : decode cL_law 1269 = .ok (.iaload, 1) := by decide +kernel
theorem dL_law_1270 : decode cL_law 1270 = .ok (.aload_n 0, 1) := by decide +kernel
theorem dL_law_1271 : decode cL_law 1271 = .ok (.iload 4, 2) := by decide +kernel
theorem dL_law_1273 : decode cL_law 1273 = .ok (.iconst 2, 1) := by decide +kernel
theorem dL_law_1274 : decode cL_law 1274 = .ok (.iadd, 1) := by decide +kernel
theorem dL_law_1275 : decode cL_law 1275 = .ok (.iaload, 1) := by decide +kernel
theorem dL_law_1276 : decode cL_law 1276 = .ok (.aload_n 0, 1) := by decide +kernel
theorem dL_law_1277 : decode cL_law 1277 = .ok (.iload 4, 2) := by decide +kernel
theorem dL_law_1279 : decode cL_law 1279 = .ok (.iconst 3, 1) := by decide +kernel
theorem dL_law_1280 : decode cL_law 1280 = .ok (.iadd, 1) := by decide +kernel
theorem dL_law_1281 : decode cL_law 1281 = .ok (.iaload, 1) := by decide +kernel
theorem dL_law_1282 : decode cL_law 1282 = .ok (.invokevirtual 162, 3) := by decide +kernel
theorem dL_law_1285 : decode cL_law 1285 = .ok (.aload_n 2, 1) := by decide +kernel
theorem dL_law_1286 : decode cL_law 1286 = .ok (.aload_n 0, 1) := by decide +kernel
theorem dL_law_1287 : decode cL_law 1287 = .ok (.iload 4, 2) := by decide +kernel
theorem dL_law_1289 : decode cL_law 1289 = .ok (.iconst 1, 1) := by decide +kernel
theorem dL_law_1290 : decode cL_law 1290 = .ok (.iadd, 1) := by decide +kernel
theorem dL_law_1291 : decode cL_law 1291 = .ok (.iaload, 1) := by decide +kernel
theorem dL_law_1292 : decode cL_law 1292 = .ok (.aload_n 0, 1) := by decide +kernel
theorem dL_law_1293 : decode cL_law 1293 = .ok (.iload 4, 2) := by decide +kernel
theorem dL_law_1295 : decode cL_law 1295 = .ok (.iconst 2, 1) := by decide +kernel
theorem dL_law_1296 : decode cL_law 1296 = .ok (.iadd, 1) := by decide +kernel
theorem dL_law_1297 : decode cL_law 1297 = .ok (.iaload, 1) := by decide +kernel
theorem dL_law_1298 : decode cL_law 1298 = .ok (.aload_n 0, 1) := by decide +kernel
theorem dL_law_1299 : decode cL_law 1299 = .ok (.iload 4, 2) := by decide +kernel
theorem dL_law_1301 : decode cL_law 1301 = .ok (.iconst 3, 1) := by decide +kernel
theorem dL_law_1302 : decode cL_law 1302 = .ok (.iadd, 1) := by decide +kernel
theorem dL_law_1303 : decode cL_law 1303 = .ok (.iaload, 1) := by decide +kernel
theorem dL_law_1304 : decode cL_law 1304 = .ok (.invokevirtual 165, 3) := by decide +kernel
theorem dL_law_1307 : decode cL_law 1307 = .ok (.if_icmp .eq 460, 3) := by decide +kernel
theorem dL_law_1312 : decode cL_law 1312 = .ok (.aload_n 1, 1) := by decide +kernel
theorem dL_law_1313 : decode cL_law 1313 = .ok (.aload_n 0, 1) := by decide +kernel
theorem dL_law_1314 : decode cL_law 1314 = .ok (.iload 4, 2) := by decide +kernel
theorem dL_law_1316 : decode cL_law 1316 = .ok (.iconst 1, 1) := by decide +kernel
theorem dL_law_1317 : decode cL_law 1317 = .ok (.iadd, 1) := by decide +kernel
theorem dL_law_1318 : decode cL_law 1318 = .ok (.iaload, 1) := by decide +kernel
theorem dL_law_1319 : decode cL_law 1319 = .ok (.aload_n 0, 1) := by decide +kernel
theorem dL_law_1320 : decode cL_law 1320 = .ok (.iload 4, 2) := by decide +kernel
theorem dL_law_1322 : decode cL_law 1322 = .ok (.iconst 2, 1) := by decide +kernel
theorem dL_law_1323 : decode cL_law 1323 = .ok (.iadd, 1) := by decide +kernel
theorem dL_law_1324 : decode cL_law 1324 = .ok (.iaload, 1) := by decide +kernel
theorem dL_law_1325 : decode cL_law 1325 = .ok (.invokevirtual 166, 3) := by decide +kernel
theorem dL_law_1328 : decode cL_law 1328 = .ok (.aload_n 2, 1) := by decide +kernel
theorem dL_law_1329 : decode cL_law 1329 = .ok (.aload_n 0, 1) := by decide +kernel
theorem dL_law_1330 : decode cL_law 1330 = .ok (.iload 4, 2) := by decide +kernel
theorem dL_law_1332 : decode cL_law 1332 = .ok (.iconst 1, 1) := by decide +kernel
theorem dL_law_1333 : decode cL_law 1333 = .ok (.iadd, 1) := by decide +kernel
theorem dL_law_1334 : decode cL_law 1334 = .ok (.iaload, 1) := by decide +kernel
theorem dL_law_1335 : decode cL_law 1335 = .ok (.aload_n 0, 1) := by decide +kernel
theorem dL_law_1336 : decode cL_law 1336 = .ok (.iload 4, 2) := by decide +kernel
theorem dL_law_1338 : decode cL_law 1338 = .ok (.iconst 2, 1) := by decide +kernel
theorem dL_law_1339 : decode cL_law 1339 = .ok (.iadd, 1) := by decide +kernel
theorem dL_law_1340 : decode cL_law 1340 = .ok (.iaload, 1) := by decide +kernel
theorem dL_law_1341 : decode cL_law 1341 = .ok (.invokevirtual 169, 3) := by decide +kernel
theorem dL_law_1344 : decode cL_law 1344 = .ok (.if_icmp .eq 423, 3) := by decide +kernel
theorem dL_law_1349 : decode cL_law 1349 = .ok (.aload_n 1, 1) := by decide +kernel
theorem dL_law_1350 : decode cL_law 1350 = .ok (.aload_n 0, 1) := by decide +kernel
theorem dL_law_1351 : decode cL_law 1351 = .ok (.iload 4, 2) := by decide +kernel
theorem dL_law_1353 : decode cL_law 1353 = .ok (.iconst 1, 1) := by decide +kernel
theorem dL_law_1354 : decode cL_law 1354 = .ok (.iadd, 1) := by decide +kernel
theorem dL_law_1355 : decode cL_law 1355 = .ok (.iaload, 1) := by decide +kernel
theorem dL_law_1356 : decode cL_law 1356 = .ok (.aload_n 0, 1) := by decide +kernel
theorem dL_law_1357 : decode cL_law 1357 = .ok (.iload 4, 2) := by decide +kernel
theorem dL_law_1359 : decode cL_law 1359 = .ok (.iconst 2, 1) := by decide +kernel
theorem dL_law_1360 : decode cL_law 1360 = .ok (.iadd, 1) := by decide +kernel
theorem dL_law_1361 : decode cL_law 1361 = .ok (.iaload, 1) := by decide +kernel
theorem dL_law_1362 : decode cL_law 1362 = .ok (.invokevirtual 170, 3) := by decide +kernel
theorem dL_law_1365 : decode cL_law 1365 = .ok (.aload_n 2, 1) := by decide +kernel
theorem dL_law_1366 : decode cL_law 1366 = .ok (.aload_n 0, 1) := by decide +kernel
theorem dL_law_1367 : decode cL_law 1367 = .ok (.iload 4, 2) := by decide +kernel
theorem dL_law_1369 : decode cL_law 1369 = .ok (.iconst 1, 1) := by decide +kernel
theorem dL_law_1370 : decode cL_law 1370 = .ok (.iadd, 1) := by decide +kernel
theorem dL_law_1371 : decode cL_law 1371 = .ok (.iaload, 1) := by decide +kernel
theorem dL_law_1372 : decode cL_law 1372 = .ok (.aload_n 0, 1) := by decide +kernel
theorem dL_law_1373 : decode cL_law 1373 = .ok (.iload 4, 2) := by decide +kernel
theorem dL_law_1375 : decode cL_law 1375 = .ok (.iconst 2, 1) := by decide +kernel
theorem dL_law_1376 : decode cL_law 1376 = .ok (.iadd, 1) := by decide +kernel
theorem dL_law_1377 : decode cL_law 1377 = .ok (.iaload, 1) := by decide +kernel
theorem dL_law_1378 : decode cL_law 1378 = .ok (.invokevirtual 173, 3) := by decide +kernel
theorem dL_law_1381 : decode cL_law 1381 = .ok (.if_icmp .eq 386, 3) := by decide +kernel
theorem dL_law_1386 : decode cL_law 1386 = .ok (.aload_n 1, 1) := by decide +kernel
theorem dL_law_1387 : decode cL_law 1387 = .ok (.invokevirtual 174, 3) := by decide +kernel
theorem dL_law_1390 : decode cL_law 1390 = .ok (.aload_n 2, 1) := by decide +kernel
theorem dL_law_1391 : decode cL_law 1391 = .ok (.invokevirtual 177, 3) := by decide +kernel
theorem dL_law_1394 : decode cL_law 1394 = .ok (.if_icmp .eq 373, 3) := by decide +kernel
theorem dL_law_1399 : decode cL_law 1399 = .ok (.aload_n 1, 1) := by decide +kernel
theorem dL_law_1400 : decode cL_law 1400 = .ok (.invokevirtual 178, 3) := by decide +kernel
theorem dL_law_1403 : decode cL_law 1403 = .ok (.aload_n 2, 1) := by decide +kernel
theorem dL_law_1404 : decode cL_law 1404 = .ok (.invokevirtual 181, 3) := by decide +kernel
theorem dL_law_1407 : decode cL_law 1407 = .ok (.if_icmp .eq 360, 3) := by decide +kernel
theorem dL_law_1412 : decode cL_law 1412 = .ok (.aload_n 1, 1) := by decide +kernel
theorem dL_law_1413 : decode cL_law 1413 = .ok (.invokevirtual 182, 3) := by decide +kernel
theorem dL_law_1416 : decode cL_law 1416 = .ok (.aload_n 2, 1) := by decide +kernel
theorem dL_law_1417 : decode cL_law 1417 = .ok (.invokevirtual 185, 3) := by decide +kernel
theorem dL_law_1420 : decode cL_law 1420 = .ok (.if_icmp .eq 347, 3) := by decide +kernel
theorem dL_law_1425 : decode cL_law 1425 = .ok (.aload_n 1, 1) := by decide +kernel
theorem dL_law_1426 : decode cL_law 1426 = .ok (.aload_n 0, 1) := by decide +kernel
theorem dL_law_1427 : decode cL_law 1427 = .ok (.iload 4, 2) := by decide +kernel
theorem dL_law_1429 : decode cL_law 1429 = .ok (.iconst 1, 1) := by decide +kernel
theorem dL_law_1430 : decode cL_law 1430 = .ok (.iadd, 1) := by decide +kernel
theorem dL_law_1431 : decode cL_law 1431 = .ok (.iaload, 1) := by decide +kernel
theorem dL_law_1432 : decode cL_law 1432 = .ok (.aload_n 0, 1) := by decide +kernel
theorem dL_law_1433 : decode cL_law 1433 = .ok (.iload 4, 2) := by decide +kernel
theorem dL_law_1435 : decode cL_law 1435 = .ok (.iconst 2, 1) := by decide +kernel
theorem dL_law_1436 : decode cL_law 1436 = .ok (.iadd, 1) := by decide +kernel
theorem dL_law_1437 : decode cL_law 1437 = .ok (.iaload, 1) := by decide +kernel
theorem dL_law_1438 : decode cL_law 1438 = .ok (.aload_n 0, 1) := by decide +kernel
theorem dL_law_1439 : decode cL_law 1439 = .ok (.iload 4, 2) := by decide +kernel
theorem dL_law_1441 : decode cL_law 1441 = .ok (.iconst 3, 1) := by decide +kernel
theorem dL_law_1442 : decode cL_law 1442 = .ok (.iadd, 1) := by decide +kernel
theorem dL_law_1443 : decode cL_law 1443 = .ok (.iaload, 1) := by decide +kernel
theorem dL_law_1444 : decode cL_law 1444 = .ok (.invokevirtual 186, 3) := by decide +kernel
theorem dL_law_1447 : decode cL_law 1447 = .ok (.aload_n 2, 1) := by decide +kernel
theorem dL_law_1448 : decode cL_law 1448 = .ok (.aload_n 0, 1) := by decide +kernel
theorem dL_law_1449 : decode cL_law 1449 = .ok (.iload 4, 2) := by decide +kernel
theorem dL_law_1451 : decode cL_law 1451 = .ok (.iconst 1, 1) := by decide +kernel
theorem dL_law_1452 : decode cL_law 1452 = .ok (.iadd, 1) := by decide +kernel
theorem dL_law_1453 : decode cL_law 1453 = .ok (.iaload, 1) := by decide +kernel
theorem dL_law_1454 : decode cL_law 1454 = .ok (.aload_n 0, 1) := by decide +kernel
theorem dL_law_1455 : decode cL_law 1455 = .ok (.iload 4, 2) := by decide +kernel
theorem dL_law_1457 : decode cL_law 1457 = .ok (.iconst 2, 1) := by decide +kernel
theorem dL_law_1458 : decode cL_law 1458 = .ok (.iadd, 1) := by decide +kernel
theorem dL_law_1459 : decode cL_law 1459 = .ok (.iaload, 1) := by decide +kernel
theorem dL_law_1460 : decode cL_law 1460 = .ok (.aload_n 0, 1) := by decide +kernel
theorem dL_law_1461 : decode cL_law 1461 = .ok (.iload 4, 2) := by decide +kernel
theorem dL_law_1463 : decode cL_law 1463 = .ok (.iconst 3, 1) := by decide +kernel
theorem dL_law_1464 : decode cL_law 1464 = .ok (.iadd, 1) := by decide +kernel
theorem dL_law_1465 : decode cL_law 1465 = .ok (.iaload, 1) := by decide +kernel
theorem dL_law_1466 : decode cL_law 1466 = .ok (.invokevirtual 189, 3) := by decide +kernel
theorem dL_law_1469 : decode cL_law 1469 = .ok (.if_icmp .eq 298, 3) := by decide +kernel
theorem dL_law_1474 : decode cL_law 1474 = .ok (.aload_n 1, 1) := by decide +kernel
theorem dL_law_1475 : decode cL_law 1475 = .ok (.invokevirtual 190, 3) := by decide +kernel
theorem dL_law_1478 : decode cL_law 1478 = .ok (.aload_n 2, 1) := by decide +kernel
theorem dL_law_1479 : decode cL_law 1479 = .ok (.invokevirtual 193, 3) := by decide +kernel
theorem dL_law_1482 : decode cL_law 1482 = .ok (.if_icmp .eq 285, 3) := by decide +kernel
theorem dL_law_1487 : decode cL_law 1487 = .ok (.aload_n 1, 1) := by decide +kernel
theorem dL_law_1488 : decode cL_law 1488 = .ok (.aload_n 0, 1) := by decide +kernel
theorem dL_law_1489 : decode cL_law 1489 = .ok (.iload 4, 2) := by decide +kernel
theorem dL_law_1491 : decode cL_law 1491 = .ok (.iconst 1, 1) := by decide +kernel
theorem dL_law_1492 : decode cL_law 1492 = .ok (.iadd, 1) := by decide +kernel
theorem dL_law_1493 : decode cL_law 1493 = .ok (.iaload, 1) := by decide +kernel
theorem dL_law_1494 : decode cL_law 1494 = .ok (.invokevirtual 194, 3) := by decide +kernel
theorem dL_law_1497 : decode cL_law 1497 = .ok (.aload_n 2, 1) := by decide +kernel
theorem dL_law_1498 : decode cL_law 1498 = .ok (.aload_n 0, 1) := by decide +kernel
theorem dL_law_1499 : decode cL_law 1499 = .ok (.iload 4, 2) := by decide +kernel
theorem dL_law_1501 : decode cL_law 1501 = .ok (.iconst 1, 1) := by decide +kernel
theorem dL_law_1502 : decode cL_law 1502 = .ok (.iadd, 1) := by decide +kernel
theorem dL_law_1503 : decode cL_law 1503 = .ok (.iaload, 1) := by decide +kernel
theorem dL_law_1504 : decode cL_law 1504 = .ok (.invokevirtual 197, 3) := by decide +kernel
theorem dL_law_1507 : decode cL_law 1507 = .ok (.if_icmp .eq 260, 3) := by decide +kernel
theorem dL_law_1512 : decode cL_law 1512 = .ok (.aload_n 1, 1) := by decide +kernel
theorem dL_law_1513 : decode cL_law 1513 = .ok (.aload_n 0, 1) := by decide +kernel
theorem dL_law_1514 : decode cL_law 1514 = .ok (.iload 4, 2) := by decide +kernel
theorem dL_law_1516 : decode cL_law 1516 = .ok (.iconst 1, 1) := by decide +kernel
theorem dL_law_1517 : decode cL_law 1517 = .ok (.iadd, 1) := by decide +kernel
theorem dL_law_1518 : decode cL_law 1518 = .ok (.iaload, 1) := by decide +kernel
theorem dL_law_1519 : decode cL_law 1519 = .ok (.invokevirtual 198, 3) := by decide +kernel
theorem dL_law_1522 : decode cL_law 1522 = .ok (.aload_n 2, 1) := by decide +kernel
theorem dL_law_1523 : decode cL_law 1523 = .ok (.aload_n 0, 1) := by decide +kernel
theorem dL_law_1524 : decode cL_law 1524 = .ok (.iload 4, 2) := by decide +kernel
theorem dL_law_1526 : decode cL_law 1526 = .ok (.iconst 1, 1) := by decide +kernel
theorem dL_law_1527 : decode cL_law 1527 = .ok (.iadd, 1) := by decide +kernel
theorem dL_law_1528 : decode cL_law 1528 = .ok (.iaload, 1) := by decide +kernel
theorem dL_law_1529 : decode cL_law 1529 = .ok (.invokevirtual 201, 3) := by decide +kernel
theorem dL_law_1532 : decode cL_law 1532 = .ok (.if_icmp .eq 235, 3) := by decide +kernel
theorem dL_law_1537 : decode cL_law 1537 = .ok (.aload_n 1, 1) := by decide +kernel
theorem dL_law_1538 : decode cL_law 1538 = .ok (.invokevirtual 202, 3) := by decide +kernel
theorem dL_law_1541 : decode cL_law 1541 = .ok (.aload_n 2, 1) := by decide +kernel
theorem dL_law_1542 : decode cL_law 1542 = .ok (.invokevirtual 205, 3) := by decide +kernel
theorem dL_law_1545 : decode cL_law 1545 = .ok (.if_icmp .eq 222, 3) := by decide +kernel
theorem dL_law_1550 : decode cL_law 1550 = .ok (.aload_n 1, 1) := by decide +kernel
theorem dL_law_1551 : decode cL_law 1551 = .ok (.aload_n 0, 1) := by decide +kernel
theorem dL_law_1552 : decode cL_law 1552 = .ok (.iload 4, 2) := by decide +kernel
theorem dL_law_1554 : decode cL_law 1554 = .ok (.iconst 1, 1) := by decide +kernel
theorem dL_law_1555 : decode cL_law 1555 = .ok (.iadd, 1) := by decide +kernel
theorem dL_law_1556 : decode cL_law 1556 = .ok (.iaload, 1) := by decide +kernel
theorem dL_law_1557 : decode cL_law 1557 = .ok (.aload_n 0, 1) := by decide +kernel
theorem dL_law_1558 : decode cL_law 1558 = .ok (.iload 4, 2) := by decide +kernel
theorem dL_law_1560 : decode cL_law 1560 = .ok (.iconst 2, 1) := by decide +kernel
theorem dL_law_1561 : decode cL_law 1561 = .ok (.iadd, 1) := by decide +kernel
theorem dL_law_1562 : decode cL_law 1562 = .ok (.iaload, 1) := by decide +kernel
theorem dL_law_1563 : decode cL_law 1563 = .ok (.aload_n 0, 1) := by decide +kernel
theorem dL_law_1564 : decode cL_law 1564 = .ok (.iload 4, 2) := by decide +kernel
theorem dL_law_1566 : decode cL_law 1566 = .ok (.iconst 3, 1) := by decide +kernel
theorem dL_law_1567 : decode cL_law 1567 = .ok (.iadd, 1) := by decide +kernel
theorem dL_law_1568 : decode cL_law 1568 = .ok (.iaload, 1) := by decide +kernel
theorem dL_law_1569 : decode cL_law 1569 = .ok (.invokevirtual 206, 3) := by decide +kernel
theorem dL_law_1572 : decode cL_law 1572 = .ok (.aload_n 2, 1) := by decide +kernel
theorem dL_law_1573 : decode cL_law 1573 = .ok (.aload_n 0, 1) := by decide +kernel
theorem dL_law_1574 : decode cL_law 1574 = .ok (.iload 4, 2) := by decide +kernel
theorem dL_law_1576 : decode cL_law 1576 = .ok (.iconst 1, 1) := by decide +kernel
theorem dL_law_1577 : decode cL_law 1577 = .ok (.iadd, 1) := by decide +kernel
theorem dL_law_1578 : decode cL_law 1578 = .ok (.iaload, 1) := by decide +kernel
theorem dL_law_1579 : decode cL_law 1579 = .ok (.aload_n 0, 1) := by decide +kernel
theorem dL_law_1580 : decode cL_law 1580 = .ok (.iload 4, 2) := by decide +kernel
theorem dL_law_1582 : decode cL_law 1582 = .ok (.iconst 2, 1) := by decide +kernel
theorem dL_law_1583 : decode cL_law 1583 = .ok (.iadd, 1) := by decide +kernel
theorem dL_law_1584 : decode cL_law 1584 = .ok (.iaload, 1) := by decide +kernel
theorem dL_law_1585 : decode cL_law 1585 = .ok (.aload_n 0, 1) := by decide +kernel
theorem dL_law_1586 : decode cL_law 1586 = .ok (.iload 4, 2) := by decide +kernel
theorem dL_law_1588 : decode cL_law 1588 = .ok (.iconst 3, 1) := by decide +kernel
theorem dL_law_1589 : decode cL_law 1589 = .ok (.iadd, 1) := by decide +kernel
theorem dL_law_1590 : decode cL_law 1590 = .ok (.iaload, 1) := by decide +kernel
theorem dL_law_1591 : decode cL_law 1591 = .ok (.invokevirtual 209, 3) := by decide +kernel
theorem dL_law_1594 : decode cL_law 1594 = .ok (.if_icmp .eq 173, 3) := by decide +kernel
theorem dL_law_1599 : decode cL_law 1599 = .ok (.aload_n 1, 1) := by decide +kernel
theorem dL_law_1600 : decode cL_law 1600 = .ok (.aload_n 0, 1) := by decide +kernel
theorem dL_law_1601 : decode cL_law 1601 = .ok (.iload 4, 2) := by decide +kernel
theorem dL_law_1603 : decode cL_law 1603 = .ok (.iconst 1, 1) := by decide +kernel
theorem dL_law_1604 : decode cL_law 1604 = .ok (.iadd, 1) := by decide +kernel
theorem dL_law_1605 : decode cL_law 1605 = .ok (.iaload, 1) := by decide +kernel
theorem dL_law_1606 : decode cL_law 1606 = .ok (.aload_n 0, 1) := by decide +kernel
theorem dL_law_1607 : decode cL_law 1607 = .ok (.iload 4, 2) := by decide +kernel
theorem dL_law_1609 : decode cL_law 1609 = .ok (.iconst 2, 1) := by decide +kernel
theorem dL_law_1610 : decode cL_law 1610 = .ok (.iadd, 1) := by decide +kernel
theorem dL_law_1611 : decode cL_law 1611 = .ok (.iaload, 1) := by decide +kernel
theorem dL_law_1612 : decode cL_law 1612 = .ok (.invokevirtual 210, 3) := by decide +kernel
theorem dL_law_1615 : decode cL_law 1615 = .ok (.aload_n 2, 1) := by decide +kernel
theorem dL_law_1616 : decode cL_law 1616 = .ok (.aload_n 0, 1) := by decide +kernel
theorem dL_law_1617 : decode cL_law 1617 = .ok (.iload 4, 2) := by decide +kernel
theorem dL_law_1619 : decode cL_law 1619 = .ok (.iconst 1, 1) := by decide +kernel
theorem dL_law_1620 : decode cL_law 1620 = .ok (.iadd, 1) := by decide +kernel
theorem dL_law_1621 : decode cL_law 1621 = .ok (.iaload, 1) := by decide +kernel
theorem dL_law_1622 : decode cL_law 1622 = .ok (.aload_n 0, 1) := by decide +kernel
theorem dL_law_1623 : decode cL_law 1623 = .ok (.iload 4, 2) := by decide +kernel
theorem dL_law_1625 : decode cL_law 1625 = .ok (.iconst 2, 1) := by decide +kernel
theorem dL_law_1626 : decode cL_law 1626 = .ok (.iadd, 1) := by decide +kernel
theorem dL_law_1627 : decode cL_law 1627 = .ok (.iaload, 1) := by decide +kernel
theorem dL_law_1628 : decode cL_law 1628 = .ok (.invokevirtual 213, 3) := by decide +kernel
theorem dL_law_1631 : decode cL_law 1631 = .ok (.if_icmp .eq 136, 3) := by decide +kernel
theorem dL_law_1636 : decode cL_law 1636 = .ok (.aload_n 1, 1) := by decide +kernel
theorem dL_law_1637 : decode cL_law 1637 = .ok (.aload_n 0, 1) := by decide +kernel
theorem dL_law_1638 : decode cL_law 1638 = .ok (.iload 4, 2) := by decide +kernel
theorem dL_law_1640 : decode cL_law 1640 = .ok (.iconst 1, 1) := by decide +kernel
theorem dL_law_1641 : decode cL_law 1641 = .ok (.iadd, 1) := by decide +kernel
theorem dL_law_1642 : decode cL_law 1642 = .ok (.iaload, 1) := by decide +kernel
theorem dL_law_1643 : decode cL_law 1643 = .ok (.invokevirtual 214, 3) := by decide +kernel
theorem dL_law_1646 : decode cL_law 1646 = .ok (.aload_n 2, 1) := by decide +kernel
theorem dL_law_1647 : decode cL_law 1647 = .ok (.aload_n 0, 1) := by decide +kernel
theorem dL_law_1648 : decode cL_law 1648 = .ok (.iload 4, 2) := by decide +kernel
theorem dL_law_1650 : decode cL_law 1650 = .ok (.iconst 1, 1) := by decide +kernel
theorem dL_law_1651 : decode cL_law 1651 = .ok (.iadd, 1) := by decide +kernel
theorem dL_law_1652 : decode cL_law 1652 = .ok (.iaload, 1) := by decide +kernel
theorem dL_law_1653 : decode cL_law 1653 = .ok (.invokevirtual 217, 3) := by decide +kernel
theorem dL_law_1656 : decode cL_law 1656 = .ok (.if_icmp .eq 111, 3) := by decide +kernel
theorem dL_law_1661 : decode cL_law 1661 = .ok (.aload_n 1, 1) := by decide +kernel
theorem dL_law_1662 : decode cL_law 1662 = .ok (.aload_n 0, 1) := by decide +kernel
theorem dL_law_1663 : decode cL_law 1663 = .ok (.iload 4, 2) := by decide +kernel
theorem dL_law_1665 : decode cL_law 1665 = .ok (.iconst 1, 1) := by decide +kernel
theorem dL_law_1666 : decode cL_law 1666 = .ok (.iadd, 1) := by decide +kernel
theorem dL_law_1667 : decode cL_law 1667 = .ok (.iaload, 1) := by decide +kernel
theorem dL_law_1668 : decode cL_law 1668 = .ok (.invokevirtual 218, 3) := by decide +kernel
theorem dL_law_1671 : decode cL_law 1671 = .ok (.aload_n 2, 1) := by decide +kernel
theorem dL_law_1672 : decode cL_law 1672 = .ok (.aload_n 0, 1) := by decide +kernel
theorem dL_law_1673 : decode cL_law 1673 = .ok (.iload 4, 2) := by decide +kernel
theorem dL_law_1675 : decode cL_law 1675 = .ok (.iconst 1, 1) := by decide +kernel
theorem dL_law_1676 : decode cL_law 1676 = .ok (.iadd, 1) := by decide +kernel
theorem dL_law_1677 : decode cL_law 1677 = .ok (.iaload, 1) := by decide +kernel
theorem dL_law_1678 : decode cL_law 1678 = .ok (.invokevirtual 221, 3) := by decide +kernel
theorem dL_law_1681 : decode cL_law 1681 = .ok (.if_icmp .eq 86, 3) := by decide +kernel
theorem dL_law_1686 : decode cL_law 1686 = .ok (.aload_n 1, 1) := by decide +kernel
theorem dL_law_1687 : decode cL_law 1687 = .ok (.aload_n 0, 1) := by decide +kernel
theorem dL_law_1688 : decode cL_law 1688 = .ok (.iload 4, 2) := by decide +kernel
theorem dL_law_1690 : decode cL_law 1690 = .ok (.iconst 1, 1) := by decide +kernel
theorem dL_law_1691 : decode cL_law 1691 = .ok (.iadd, 1) := by decide +kernel
theorem dL_law_1692 : decode cL_law 1692 = .ok (.iaload, 1) := by decide +kernel
theorem dL_law_1693 : decode cL_law 1693 = .ok (.invokevirtual 222, 3) := by decide +kernel
theorem dL_law_1696 : decode cL_law 1696 = .ok (.aload_n 2, 1) := by decide +kernel
theorem dL_law_1697 : decode cL_law 1697 = .ok (.aload_n 0, 1) := by decide +kernel
theorem dL_law_1698 : decode cL_law 1698 = .ok (.iload 4, 2) := by decide +kernel
theorem dL_law_1700 : decode cL_law 1700 = .ok (.iconst 1, 1) := by decide +kernel
theorem dL_law_1701 : decode cL_law 1701 = .ok (.iadd, 1) := by decide +kernel
theorem dL_law_1702 : decode cL_law 1702 = .ok (.iaload, 1) := by decide +kernel
theorem dL_law_1703 : decode cL_law 1703 = .ok (.invokevirtual 225, 3) := by decide +kernel
theorem dL_law_1706 : decode cL_law 1706 = .ok (.if_icmp .eq 61, 3) := by decide +kernel
theorem dL_law_1711 : decode cL_law 1711 = .ok (.aload_n 1, 1) := by decide +kernel
theorem dL_law_1712 : decode cL_law 1712 = .ok (.aload_n 0, 1) := by decide +kernel
theorem dL_law_1713 : decode cL_law 1713 = .ok (.iload 4, 2) := by decide +kernel
theorem dL_law_1715 : decode cL_law 1715 = .ok (.iconst 1, 1) := by decide +kernel
theorem dL_law_1716 : decode cL_law 1716 = .ok (.iadd, 1) := by decide +kernel
theorem dL_law_1717 : decode cL_law 1717 = .ok (.iaload, 1) := by decide +kernel
theorem dL_law_1718 : decode cL_law 1718 = .ok (.aload_n 3, 1) := by decide +kernel
theorem dL_law_1719 : decode cL_law 1719 = .ok (.invokestatic 226, 3) := by decide +kernel
theorem dL_law_1722 : decode cL_law 1722 = .ok (.istore 5, 2) := by decide +kernel
theorem dL_law_1724 : decode cL_law 1724 = .ok (.aload_n 2, 1) := by decide +kernel
theorem dL_law_1725 : decode cL_law 1725 = .ok (.aload_n 0, 1) := by decide +kernel
theorem dL_law_1726 : decode cL_law 1726 = .ok (.iload 4, 2) := by decide +kernel
theorem dL_law_1728 : decode cL_law 1728 = .ok (.iconst 1, 1) := by decide +kernel
theorem dL_law_1729 : decode cL_law 1729 = .ok (.iadd, 1) := by decide +kernel
theorem dL_law_1730 : decode cL_law 1730 = .ok (.iaload, 1) := by decide +kernel
theorem dL_law_1731 : decode cL_law 1731 = .ok (.invokevirtual 229, 3) := by decide +kernel
theorem dL_law_1734 : decode cL_law 1734 = .ok (.istore 6, 2) := by decide +kernel
theorem dL_law_1736 : decode cL_law 1736 = .ok (.aload_n 2, 1) := by decide +kernel
theorem dL_law_1737 : decode cL_law 1737 = .ok (.invokevirtual 60, 3) := by decide +kernel
theorem dL_law_1740 : decode cL_law 1740 = .ok (.iload 5, 2) := by decide +kernel
theorem dL_law_1742 : decode cL_law 1742 = .ok (.if_icmp .eq 5, 3) := by decide +kernel
theorem dL_law_1747 : decode cL_law 1747 = .ok (.iload 5, 2) := by decide +kernel
theorem dL_law_1749 : decode cL_law 1749 = .ok (.ifCond .ne 15, 3) := by decide +kernel
theorem dL_law_1764 : decode cL_law 1764 = .ok (.goto 3, 3) := by decide +kernel
theorem dL_law_1767 : decode cL_law 1767 = .ok (.iinc 4 5, 3) := by decide +kernel
theorem dL_law_1770 : decode cL_law 1770 = .ok (.goto (-1747), 3) := by decide +kernel
theorem dL_law_1773 : decode cL_law 1773 = .ok (.iconst 1, 1) := by decide +kernel
theorem dL_law_1774 : decode cL_law 1774 = .ok (.ireturn, 1) := by decide +kernel
theorem dX12_bird_0 : decode cX12_bird 0 = .ok (.aload_n 0, 1) := by decide +kernel
theorem dX12_bird_1 : decode cX12_bird 1 = .ok (.iconst 0, 1) := by decide +kernel
theorem dX12_bird_2 : decode cX12_bird 2 = .ok (.putfield 124, 3) := by decide +kernel
theorem dX12_bird_5 : decode cX12_bird 5 = .ok (.aload_n 0, 1) := by decide +kernel
theorem dX12_bird_6 : decode cX12_bird 6 = .ok (.iload_n 1, 1) := by decide +kernel
theorem dX12_bird_7 : decode cX12_bird 7 = .ok (.invokevirtual 261, 3) := by decide +kernel
theorem dX12_bird_10 : decode cX12_bird 10 = .ok (.ifCond .eq 12, 3) := by decide +kernel
theorem dX12_bird_22 : decode cX12_bird 22 = .ok (.aload_n 0, 1) := by decide +kernel
theorem dX12_bird_23 : decode cX12_bird 23 = .ok (.invokevirtual 251, 3) := by decide +kernel
theorem dX12_bird_26 : decode cX12_bird 26 = .ok (.ireturn, 1) := by decide +kernel
theorem dX12_family_0 : decode cX12_family 0 = .ok (.aload_n 0, 1) := by decide +kernel
theorem dX12_family_1 : decode cX12_family 1 = .ok (.iconst 0, 1) := by decide +kernel
theorem dX12_family_2 : decode cX12_family 2 = .ok (.putfield 124, 3) := by decide +kernel
theorem dX12_family_5 : decode cX12_family 5 = .ok (.aload_n 0, 1) := by decide +kernel
theorem dX12_family_6 : decode cX12_family 6 = .ok (.iload_n 1, 1) := by decide +kernel
theorem dX12_family_7 : decode cX12_family 7 = .ok (.invokevirtual 268, 3) := by decide +kernel
theorem dX12_family_10 : decode cX12_family 10 = .ok (.ifCond .eq 12, 3) := by decide +kernel
theorem dX12_family_22 : decode cX12_family 22 = .ok (.aload_n 0, 1) := by decide +kernel
theorem dX12_family_23 : decode cX12_family 23 = .ok (.invokevirtual 251, 3) := by decide +kernel
theorem dX12_family_26 : decode cX12_family 26 = .ok (.ireturn, 1) := by decide +kernel
theorem dX12_lost_0 : decode cX12_lost 0 = .ok (.aload_n 0, 1) := by decide +kernel
theorem dX12_lost_1 : decode cX12_lost 1 = .ok (.iconst 1, 1) := by decide +kernel
theorem dX12_lost_2 : decode cX12_lost 2 = .ok (.putfield 124, 3) := by decide +kernel
theorem dX12_lost_5 : decode cX12_lost 5 = .ok (.iconst 0, 1) := by decide +kernel
theorem dX12_lost_6 : decode cX12_lost 6 = .ok (.ireturn, 1) := by decide +kernel
theorem dX12_roof_0 : decode cX12_roof 0 = .ok (.aload_n 0, 1) := by decide +kernel
theorem dX12_roof_1 : decode cX12_roof 1 = .ok (.iconst 0, 1) := by decide +kernel
theorem dX12_roof_2 : decode cX12_roof 2 = .ok (.putfield 124, 3) := by decide +kernel
theorem dX12_roof_5 : decode cX12_roof 5 = .ok (.aload_n 0, 1) := by decide +kernel
theorem dX12_roof_6 : decode cX12_roof 6 = .ok (.iload_n 1, 1) := by decide +kernel
theorem dX12_roof_7 : decode cX12_roof 7 = .ok (.invokevirtual 247, 3) := by decide +kernel
theorem dX12_roof_10 : decode cX12_roof 10 = .ok (.ifCond .eq 13, 3) := by decide +kernel
theorem dX12_roof_23 : decode cX12_roof 23 = .ok (.aload_n 0, 1) := by decide +kernel
theorem dX12_roof_24 : decode cX12_roof 24 = .ok (.invokevirtual 251, 3) := by decide +kernel
theorem dX12_roof_27 : decode cX12_roof 27 = .ok (.ireturn, 1) := by decide +kernel
theorem dX12_row_0 : decode cX12_row 0 = .ok (.aload_n 0, 1) := by decide +kernel
theorem dX12_row_1 : decode cX12_row 1 = .ok (.iconst 0, 1) := by decide +kernel
theorem dX12_row_2 : decode cX12_row 2 = .ok (.putfield 124, 3) := by decide +kernel
theorem dX12_row_5 : decode cX12_row 5 = .ok (.iload_n 1, 1) := by decide +kernel
theorem dX12_row_6 : decode cX12_row 6 = .ok (.iconst 0, 1) := by decide +kernel
theorem dX12_row_7 : decode cX12_row 7 = .ok (.aload_n 0, 1) := by decide +kernel
theorem dX12_row_8 : decode cX12_row 8 = .ok (.getfield 127, 3) := by decide +kernel
theorem dX12_row_11 : decode cX12_row 11 = .ok (.iconst 1, 1) := by decide +kernel
theorem dX12_row_12 : decode cX12_row 12 = .ok (.isub, 1) := by decide +kernel
theorem dX12_row_13 : decode cX12_row 13 = .ok (.invokestatic 133, 3) := by decide +kernel
theorem dX12_row_16 : decode cX12_row 16 = .ok (.ifCond .eq 12, 3) := by decide +kernel
theorem dX12_row_28 : decode cX12_row 28 = .ok (.aload_n 0, 1) := by decide +kernel
theorem dX12_row_29 : decode cX12_row 29 = .ok (.invokevirtual 251, 3) := by decide +kernel
theorem dX12_row_32 : decode cX12_row 32 = .ok (.ireturn, 1) := by decide +kernel
theorem dX12_thrown_0 : decode cX12_thrown 0 = .ok (.aload_n 0, 1) := by decide +kernel
theorem dX12_thrown_1 : decode cX12_thrown 1 = .ok (.getfield 124, 3) := by decide +kernel
theorem dX12_thrown_4 : decode cX12_thrown 4 = .ok (.ireturn, 1) := by decide +kernel
theorem dX12_worth_0 : decode cX12_worth 0 = .ok (.aload_n 0, 1) := by decide +kernel
theorem dX12_worth_1 : decode cX12_worth 1 = .ok (.iconst 0, 1) := by decide +kernel
theorem dX12_worth_2 : decode cX12_worth 2 = .ok (.putfield 124, 3) := by decide +kernel
theorem dX12_worth_5 : decode cX12_worth 5 = .ok (.aload_n 0, 1) := by decide +kernel
theorem dX12_worth_6 : decode cX12_worth 6 = .ok (.iload_n 1, 1) := by decide +kernel
theorem dX12_worth_7 : decode cX12_worth 7 = .ok (.invokevirtual 247, 3) := by decide +kernel
theorem dX12_worth_10 : decode cX12_worth 10 = .ok (.ifCond .eq 24, 3) := by decide +kernel
theorem dX12_worth_34 : decode cX12_worth 34 = .ok (.aload_n 0, 1) := by decide +kernel
theorem dX12_worth_35 : decode cX12_worth 35 = .ok (.invokevirtual 251, 3) := by decide +kernel
theorem dX12_worth_38 : decode cX12_worth 38 = .ok (.ireturn, 1) := by decide +kernel
section GSITES
variable {p : Program} {l : Launch} {e : Env} {R : Room} {s : State} {m : MethodId} {args : Array Value} {below : List Frame} {meth : Method} {c : Code} {H H0 : Heap} {locs : List Loc} {cells slots : Nat} {Q : State → Prop}
variable {cc : ByteArray} {nL pc : Nat} {ls : Array Slot} {rest : List Value} {D : va_G} {A : Nat → Prop} {ws : va_W} {cT : Nat → ClassId} {a : Nat}

theorem gw_L_32 : gWV "StorksLetLaw" "StorksLet" 32 yX11_sign cX11_sign 2 1 (some .int) := ⟨⟨m_466, m_467, m_468, m_66, m_469⟩, rfl, by decide +kernel⟩
theorem gw_L_35 : gWV "StorksLetLaw" "StorksLetModel" 35 yX12_sign cX12_sign 3 1 (some .int) := ⟨⟨m_1646, m_1647, m_1648, m_77, m_1649⟩, rfl, by decide +kernel⟩
theorem gw_L_36 : gWV "StorksLetLaw" "StorksLet" 36 yX11_end cX11_end 2 1 (some .boolean) := ⟨⟨m_474, m_475, m_476, m_66, m_477⟩, rfl, by decide +kernel⟩
theorem gw_L_40 : gWV "StorksLetLaw" "StorksLetModel" 40 yX12_end cX12_end 2 1 (some .boolean) := ⟨⟨m_1650, m_1651, m_1652, m_77, m_1653⟩, rfl, by decide +kernel⟩
theorem gw_L_41 : gWV "StorksLetLaw" "StorksLet" 41 yX11_town cX11_town 2 0 (some .int) := ⟨⟨m_482, m_483, m_484, m_66, m_485⟩, rfl, by decide +kernel⟩
theorem gw_L_45 : gWV "StorksLetLaw" "StorksLetModel" 45 yX12_town cX12_town 7 0 (some .int) := ⟨⟨m_1657, m_1658, m_1659, m_77, m_1660⟩, rfl, by decide +kernel⟩
theorem gw_L_46 : gWV "StorksLetLaw" "StorksLet" 46 yX11_rule cX11_rule 3 0 (some .int) := ⟨⟨m_576, m_577, m_578, m_66, m_579⟩, rfl, by decide +kernel⟩
theorem gw_L_49 : gWV "StorksLetLaw" "StorksLetModel" 49 yX12_rule cX12_rule 3 0 (some .int) := ⟨⟨m_1701, m_1702, m_1703, m_77, m_1704⟩, rfl, by decide +kernel⟩
theorem gw_L_50 : gWV "StorksLetLaw" "StorksLet" 50 yX11_frost cX11_frost 2 0 (some .int) := ⟨⟨m_702, m_703, m_704, m_66, m_705⟩, rfl, by decide +kernel⟩
theorem gw_L_53 : gWV "StorksLetLaw" "StorksLetModel" 53 yX12_frost cX12_frost 3 0 (some .int) := ⟨⟨m_1697, m_1698, m_1699, m_77, m_1700⟩, rfl, by decide +kernel⟩
theorem gw_X12_251 : gWV "StorksLetModel" "StorksLetModel" 251 yX12_lost cX12_lost 1 0 (some .int) := ⟨⟨m_1737, m_1739, m_27, m_77, m_1740⟩, rfl, by decide +kernel⟩
theorem gw_L_59 : gWV "StorksLetLaw" "StorksLetModel" 59 yX12_roof cX12_roof 3 2 (some .int) := ⟨⟨m_1729, m_1730, m_1731, m_77, m_1732⟩, rfl, by decide +kernel⟩
theorem gg_X12_124 (X : gX p m c cc nL s args "StorksLetModel" D cT) (hG : gG D A H0 ws H locs) (q0 : Nat) {fs : List Value} (he : ws[q0]? = some (a, .inr (11, fs))) {v : Value} (hv : fs[21]? = some v) (hdg : decode cc pc = .ok (.getfield 124, 3)) (kk : W p l e R s m args below meth c H locs cells slots Q (F0 m (pc + 3) ls (v :: rest))) : W p l e R s m args below meth c H locs cells slots Q (F0 m pc ls (.ref a :: rest)) := g_get X hG in_X12 rfl 21 (by decide) m_1458 rfl q0 he hv hdg kk
theorem gw_L_60 : gWV "StorksLetLaw" "StorksLetModel" 60 yX12_thrown cX12_thrown 1 0 (some .int) := ⟨⟨m_1642, m_1643, m_1644, m_77, m_1645⟩, rfl, by decide +kernel⟩
theorem gw_L_65 : gWV "StorksLetLaw" "StorksLetModel" 65 yX12_bird cX12_bird 5 2 (some .int) := ⟨⟨m_1749, m_1750, m_1751, m_77, m_1752⟩, rfl, by decide +kernel⟩
theorem gw_L_68 : gWV "StorksLetLaw" "StorksLetModel" 68 yX12_family cX12_family 3 2 (some .int) := ⟨⟨m_1763, m_1764, m_1765, m_77, m_1766⟩, rfl, by decide +kernel⟩
theorem gw_L_71 : gWV "StorksLetLaw" "StorksLetModel" 71 yX12_worth cX12_worth 3 2 (some .int) := ⟨⟨m_1774, m_1775, m_1776, m_77, m_1777⟩, rfl, by decide +kernel⟩
theorem gw_L_72 : gWV "StorksLetLaw" "StorksLet" 72 yX11_build cX11_build 5 3 (some .int) := ⟨⟨m_710, m_711, m_712, m_66, m_713⟩, rfl, by decide +kernel⟩
theorem gw_L_76 : gWV "StorksLetLaw" "StorksLetModel" 76 yX12_build cX12_build 5 3 (some .int) := ⟨⟨m_1778, m_1779, m_1780, m_77, m_1781⟩, rfl, by decide +kernel⟩
theorem gw_L_77 : gWV "StorksLetLaw" "StorksLet" 77 yX11_ring cX11_ring 5 3 (some .int) := ⟨⟨m_726, m_727, m_728, m_66, m_729⟩, rfl, by decide +kernel⟩
theorem gw_L_80 : gWV "StorksLetLaw" "StorksLetModel" 80 yX12_ring cX12_ring 5 3 (some .int) := ⟨⟨m_1786, m_1787, m_1788, m_77, m_1789⟩, rfl, by decide +kernel⟩
theorem gw_L_81 : gWV "StorksLetLaw" "StorksLet" 81 yX11_swear cX11_swear 4 2 (some .int) := ⟨⟨m_735, m_736, m_737, m_66, m_738⟩, rfl, by decide +kernel⟩
theorem gw_L_84 : gWV "StorksLetLaw" "StorksLetModel" 84 yX12_swear cX12_swear 4 2 (some .int) := ⟨⟨m_1790, m_1791, m_1792, m_77, m_1793⟩, rfl, by decide +kernel⟩
theorem gw_L_85 : gWV "StorksLetLaw" "StorksLet" 85 yX11_sheet cX11_sheet 10 4 (some .int) := ⟨⟨m_744, m_745, m_746, m_66, m_747⟩, rfl, by decide +kernel⟩
theorem gw_L_89 : gWV "StorksLetLaw" "StorksLetModel" 89 yX12_sheet cX12_sheet 9 4 (some .int) := ⟨⟨m_1794, m_1795, m_1796, m_77, m_1797⟩, rfl, by decide +kernel⟩
theorem gw_L_90 : gWV "StorksLetLaw" "StorksLet" 90 yX11_day cX11_day 2 0 (some .int) := ⟨⟨m_753, m_754, m_755, m_66, m_756⟩, rfl, by decide +kernel⟩
theorem gw_L_93 : gWV "StorksLetLaw" "StorksLetModel" 93 yX12_day cX12_day 3 0 (some .int) := ⟨⟨m_1798, m_1799, m_1800, m_77, m_1801⟩, rfl, by decide +kernel⟩
theorem gw_L_94 : gWV "StorksLetLaw" "StorksLet" 94 yX11_days cX11_days 3 1 (some .int) := ⟨⟨m_864, m_865, m_866, m_66, m_867⟩, rfl, by decide +kernel⟩
theorem gw_L_97 : gWV "StorksLetLaw" "StorksLetModel" 97 yX12_days cX12_days 5 1 (some .int) := ⟨⟨m_1841, m_1842, m_1843, m_77, m_1844⟩, rfl, by decide +kernel⟩
theorem gw_L_98 : gWV "StorksLetLaw" "StorksLet" 98 yX11_spring cX11_spring 4 0 (some .int) := ⟨⟨m_879, m_880, m_881, m_66, m_882⟩, rfl, by decide +kernel⟩
theorem gw_L_101 : gWV "StorksLetLaw" "StorksLetModel" 101 yX12_spring cX12_spring 4 0 (some .int) := ⟨⟨m_1845, m_1846, m_1847, m_77, m_1848⟩, rfl, by decide +kernel⟩
theorem gw_L_102 : gWV "StorksLetLaw" "StorksLet" 102 yX11_pay cX11_pay 5 3 (some .int) := ⟨⟨m_919, m_920, m_921, m_66, m_922⟩, rfl, by decide +kernel⟩
theorem gw_L_105 : gWV "StorksLetLaw" "StorksLetModel" 105 yX12_pay cX12_pay 5 3 (some .int) := ⟨⟨m_1857, m_1858, m_1859, m_77, m_1860⟩, rfl, by decide +kernel⟩
theorem gw_L_106 : gWV "StorksLetLaw" "StorksLet" 106 yX11_owes cX11_owes 3 2 (some .int) := ⟨⟨m_928, m_929, m_930, m_66, m_931⟩, rfl, by decide +kernel⟩
theorem gw_L_109 : gWV "StorksLetLaw" "StorksLetModel" 109 yX12_owes cX12_owes 3 2 (some .int) := ⟨⟨m_1861, m_1862, m_1863, m_77, m_1864⟩, rfl, by decide +kernel⟩
theorem gw_L_110 : gWV "StorksLetLaw" "StorksLet" 110 yX11_lord cX11_lord 2 1 (some .int) := ⟨⟨m_932, m_933, m_934, m_66, m_935⟩, rfl, by decide +kernel⟩
theorem gw_L_113 : gWV "StorksLetLaw" "StorksLetModel" 113 yX12_lord cX12_lord 5 1 (some .int) := ⟨⟨m_1865, m_1866, m_1867, m_77, m_1868⟩, rfl, by decide +kernel⟩
theorem gw_L_114 : gWV "StorksLetLaw" "StorksLet" 114 yX11_undo cX11_undo 1 0 (some .int) := ⟨⟨m_948, m_949, m_950, m_66, m_951⟩, rfl, by decide +kernel⟩
theorem gw_L_117 : gWV "StorksLetLaw" "StorksLetModel" 117 yX12_undo cX12_undo 3 0 (some .int) := ⟨⟨m_1873, m_1874, m_1875, m_77, m_1876⟩, rfl, by decide +kernel⟩
theorem gw_L_118 : gWV "StorksLetLaw" "StorksLet" 118 yX11_later cX11_later 3 2 (some .int) := ⟨⟨m_969, m_970, m_971, m_66, m_972⟩, rfl, by decide +kernel⟩
theorem gw_L_121 : gWV "StorksLetLaw" "StorksLetModel" 121 yX12_later cX12_later 3 2 (some .int) := ⟨⟨m_1877, m_1878, m_1879, m_77, m_1880⟩, rfl, by decide +kernel⟩
theorem gw_L_122 : gWV "StorksLetLaw" "StorksLet" 122 yX11_calm cX11_calm 2 0 (some .int) := ⟨⟨m_977, m_978, m_979, m_66, m_980⟩, rfl, by decide +kernel⟩
theorem gw_L_125 : gWV "StorksLetLaw" "StorksLetModel" 125 yX12_calm cX12_calm 4 0 (some .int) := ⟨⟨m_1896, m_1897, m_1898, m_77, m_1899⟩, rfl, by decide +kernel⟩
theorem gw_L_126 : gWV "StorksLetLaw" "StorksLet" 126 yX11_moves cX11_moves 4 2 (some .int) := ⟨⟨m_981, m_982, m_983, m_66, m_984⟩, rfl, by decide +kernel⟩
theorem gw_L_129 : gWV "StorksLetLaw" "StorksLetModel" 129 yX12_moves cX12_moves 6 2 (some .int) := ⟨⟨m_1900, m_1901, m_1902, m_77, m_1903⟩, rfl, by decide +kernel⟩
theorem gw_L_130 : gWV "StorksLetLaw" "StorksLet" 130 yX11_income cX11_income 3 2 (some .int) := ⟨⟨m_989, m_990, m_991, m_66, m_992⟩, rfl, by decide +kernel⟩
theorem gw_L_133 : gWV "StorksLetLaw" "StorksLetModel" 133 yX12_income cX12_income 7 2 (some .int) := ⟨⟨m_1904, m_1905, m_1906, m_77, m_1907⟩, rfl, by decide +kernel⟩
theorem gw_L_134 : gWV "StorksLetLaw" "StorksLet" 134 yX11_homeless cX11_homeless 3 1 (some .int) := ⟨⟨m_993, m_994, m_995, m_66, m_996⟩, rfl, by decide +kernel⟩
theorem gw_L_137 : gWV "StorksLetLaw" "StorksLetModel" 137 yX12_homeless cX12_homeless 3 1 (some .int) := ⟨⟨m_1908, m_1909, m_1910, m_77, m_1911⟩, rfl, by decide +kernel⟩
theorem gw_L_138 : gWV "StorksLetLaw" "StorksLet" 138 yX11_bears cX11_bears 3 1 (some .int) := ⟨⟨m_997, m_998, m_999, m_66, m_1000⟩, rfl, by decide +kernel⟩
theorem gw_L_141 : gWV "StorksLetLaw" "StorksLetModel" 141 yX12_bears cX12_bears 4 1 (some .int) := ⟨⟨m_1912, m_1913, m_1914, m_77, m_1915⟩, rfl, by decide +kernel⟩
theorem gw_L_142 : gWV "StorksLetLaw" "StorksLet" 142 yX11_rests cX11_rests 2 0 (some .int) := ⟨⟨m_1001, m_1002, m_1003, m_66, m_1004⟩, rfl, by decide +kernel⟩
theorem gw_L_145 : gWV "StorksLetLaw" "StorksLetModel" 145 yX12_rests cX12_rests 2 0 (some .int) := ⟨⟨m_1923, m_1924, m_1925, m_77, m_1926⟩, rfl, by decide +kernel⟩
theorem gw_L_146 : gWV "StorksLetLaw" "StorksLet" 146 yX11_ways cX11_ways 3 0 (some .int) := ⟨⟨m_1011, m_1012, m_1013, m_66, m_1014⟩, rfl, by decide +kernel⟩
theorem gw_L_149 : gWV "StorksLetLaw" "StorksLetModel" 149 yX12_ways cX12_ways 4 0 (some .int) := ⟨⟨m_1931, m_1932, m_1933, m_77, m_1934⟩, rfl, by decide +kernel⟩
theorem gw_L_150 : gWV "StorksLetLaw" "StorksLet" 150 yX11_kindest cX11_kindest 3 0 (some .int) := ⟨⟨m_1036, m_1037, m_1038, m_66, m_1039⟩, rfl, by decide +kernel⟩
theorem gw_L_153 : gWV "StorksLetLaw" "StorksLetModel" 153 yX12_kindest cX12_kindest 6 0 (some .int) := ⟨⟨m_1948, m_1949, m_1950, m_77, m_1951⟩, rfl, by decide +kernel⟩
theorem gw_L_154 : gWV "StorksLetLaw" "StorksLet" 154 yX11_wheel cX11_wheel 4 2 (some .int) := ⟨⟨m_1044, m_1045, m_1046, m_66, m_1047⟩, rfl, by decide +kernel⟩
theorem gw_L_157 : gWV "StorksLetLaw" "StorksLetModel" 157 yX12_wheel cX12_wheel 3 2 (some .int) := ⟨⟨m_1952, m_1953, m_1954, m_77, m_1955⟩, rfl, by decide +kernel⟩
theorem gw_L_158 : gWV "StorksLetLaw" "StorksLet" 158 yX11_courts cX11_courts 7 2 (some .int) := ⟨⟨m_1056, m_1057, m_1058, m_66, m_1059⟩, rfl, by decide +kernel⟩
theorem gw_L_161 : gWV "StorksLetLaw" "StorksLetModel" 161 yX12_courts cX12_courts 7 2 (some .int) := ⟨⟨m_1960, m_1961, m_1962, m_77, m_1963⟩, rfl, by decide +kernel⟩
theorem gw_L_162 : gWV "StorksLetLaw" "StorksLet" 162 yX11_win cX11_win 5 3 (some .int) := ⟨⟨m_1068, m_1069, m_1070, m_66, m_1071⟩, rfl, by decide +kernel⟩
theorem gw_L_165 : gWV "StorksLetLaw" "StorksLetModel" 165 yX12_win cX12_win 7 3 (some .int) := ⟨⟨m_1968, m_1969, m_1970, m_77, m_1971⟩, rfl, by decide +kernel⟩
theorem gw_L_166 : gWV "StorksLetLaw" "StorksLet" 166 yX11_drive cX11_drive 5 2 (some .int) := ⟨⟨m_1072, m_1073, m_1074, m_66, m_1075⟩, rfl, by decide +kernel⟩
theorem gw_L_169 : gWV "StorksLetLaw" "StorksLetModel" 169 yX12_drive cX12_drive 7 2 (some .int) := ⟨⟨m_1972, m_1973, m_1974, m_77, m_1975⟩, rfl, by decide +kernel⟩
theorem gw_L_170 : gWV "StorksLetLaw" "StorksLet" 170 yX11_choose cX11_choose 7 2 (some .int) := ⟨⟨m_1076, m_1077, m_1078, m_66, m_1079⟩, rfl, by decide +kernel⟩
theorem gw_L_173 : gWV "StorksLetLaw" "StorksLetModel" 173 yX12_choose cX12_choose 11 2 (some .int) := ⟨⟨m_1976, m_1977, m_1978, m_77, m_1979⟩, rfl, by decide +kernel⟩
theorem gw_L_174 : gWV "StorksLetLaw" "StorksLet" 174 yX11_aim cX11_aim 2 0 (some .int) := ⟨⟨m_1084, m_1085, m_1086, m_66, m_1087⟩, rfl, by decide +kernel⟩
theorem gw_L_177 : gWV "StorksLetLaw" "StorksLetModel" 177 yX12_aim cX12_aim 5 0 (some .int) := ⟨⟨m_1980, m_1981, m_1982, m_77, m_1983⟩, rfl, by decide +kernel⟩
theorem gw_L_178 : gWV "StorksLetLaw" "StorksLet" 178 yX11_fewest cX11_fewest 1 0 (some .int) := ⟨⟨m_1098, m_1099, m_1100, m_66, m_1101⟩, rfl, by decide +kernel⟩
theorem gw_L_181 : gWV "StorksLetLaw" "StorksLetModel" 181 yX12_fewest cX12_fewest 4 0 (some .int) := ⟨⟨m_1984, m_1985, m_1986, m_77, m_1987⟩, rfl, by decide +kernel⟩
theorem gw_L_182 : gWV "StorksLetLaw" "StorksLet" 182 yX11_gently cX11_gently 1 0 (some .int) := ⟨⟨m_1129, m_1130, m_1131, m_66, m_1132⟩, rfl, by decide +kernel⟩
theorem gw_L_185 : gWV "StorksLetLaw" "StorksLetModel" 185 yX12_gently cX12_gently 7 0 (some .int) := ⟨⟨m_2000, m_2001, m_2002, m_77, m_2003⟩, rfl, by decide +kernel⟩
theorem gw_L_186 : gWV "StorksLetLaw" "StorksLet" 186 yX11_seen cX11_seen 4 3 (some .int) := ⟨⟨m_1208, m_1209, m_1210, m_66, m_1211⟩, rfl, by decide +kernel⟩
theorem gw_L_189 : gWV "StorksLetLaw" "StorksLetModel" 189 yX12_seen cX12_seen 4 3 (some .int) := ⟨⟨m_2020, m_2021, m_2022, m_77, m_2023⟩, rfl, by decide +kernel⟩
theorem gw_L_190 : gWV "StorksLetLaw" "StorksLet" 190 yX11_forget cX11_forget 2 0 (some .int) := ⟨⟨m_1216, m_1217, m_1218, m_66, m_1219⟩, rfl, by decide +kernel⟩
theorem gw_L_193 : gWV "StorksLetLaw" "StorksLetModel" 193 yX12_forget cX12_forget 2 0 (some .int) := ⟨⟨m_2024, m_2025, m_2026, m_77, m_2027⟩, rfl, by decide +kernel⟩
theorem gw_L_194 : gWV "StorksLetLaw" "StorksLet" 194 yX11_strengths cX11_strengths 4 1 (some .int) := ⟨⟨m_1220, m_1221, m_1222, m_66, m_1223⟩, rfl, by decide +kernel⟩
theorem gw_L_197 : gWV "StorksLetLaw" "StorksLetModel" 197 yX12_strengths cX12_strengths 5 1 (some .int) := ⟨⟨m_2028, m_2029, m_2030, m_77, m_2031⟩, rfl, by decide +kernel⟩
theorem gw_L_198 : gWV "StorksLetLaw" "StorksLet" 198 yX11_latest cX11_latest 5 1 (some .int) := ⟨⟨m_1234, m_1235, m_1236, m_66, m_1237⟩, rfl, by decide +kernel⟩
theorem gw_L_201 : gWV "StorksLetLaw" "StorksLetModel" 201 yX12_latest cX12_latest 5 1 (some .int) := ⟨⟨m_2036, m_2037, m_2038, m_77, m_2039⟩, rfl, by decide +kernel⟩
theorem gw_L_202 : gWV "StorksLetLaw" "StorksLet" 202 yX11_absent cX11_absent 3 0 (some .int) := ⟨⟨m_1239, m_1240, m_1241, m_66, m_1242⟩, rfl, by decide +kernel⟩
theorem gw_L_205 : gWV "StorksLetLaw" "StorksLetModel" 205 yX12_absent cX12_absent 3 0 (some .int) := ⟨⟨m_2040, m_2041, m_2042, m_77, m_2043⟩, rfl, by decide +kernel⟩
theorem gw_L_206 : gWV "StorksLetLaw" "StorksLet" 206 yX11_chance cX11_chance 7 3 (some .int) := ⟨⟨m_1248, m_1249, m_1250, m_66, m_1251⟩, rfl, by decide +kernel⟩
theorem gw_L_209 : gWV "StorksLetLaw" "StorksLetModel" 209 yX12_chance cX12_chance 6 3 (some .int) := ⟨⟨m_2044, m_2045, m_2046, m_77, m_2047⟩, rfl, by decide +kernel⟩
theorem gw_L_210 : gWV "StorksLetLaw" "StorksLet" 210 yX11_safest cX11_safest 5 2 (some .int) := ⟨⟨m_1271, m_1272, m_1273, m_66, m_1274⟩, rfl, by decide +kernel⟩
theorem gw_L_213 : gWV "StorksLetLaw" "StorksLetModel" 213 yX12_safest cX12_safest 5 2 (some .int) := ⟨⟨m_2062, m_2063, m_2064, m_77, m_2065⟩, rfl, by decide +kernel⟩
theorem gw_L_214 : gWV "StorksLetLaw" "StorksLet" 214 yX11_keep cX11_keep 2 1 (some .boolean) := ⟨⟨m_1279, m_1280, m_1281, m_66, m_1282⟩, rfl, by decide +kernel⟩
theorem gw_L_217 : gWV "StorksLetLaw" "StorksLetModel" 217 yX12_keep cX12_keep 2 1 (some .boolean) := ⟨⟨m_2066, m_2067, m_2068, m_77, m_2069⟩, rfl, by decide +kernel⟩
theorem gw_L_218 : gWV "StorksLetLaw" "StorksLet" 218 yX11_again cX11_again 2 1 (some .boolean) := ⟨⟨m_1287, m_1288, m_1289, m_66, m_1290⟩, rfl, by decide +kernel⟩
theorem gw_L_221 : gWV "StorksLetLaw" "StorksLetModel" 221 yX12_again cX12_again 3 1 (some .boolean) := ⟨⟨m_2070, m_2071, m_2072, m_77, m_2073⟩, rfl, by decide +kernel⟩
theorem gw_L_222 : gWV "StorksLetLaw" "StorksLet" 222 yX11_count cX11_count 2 1 (some .int) := ⟨⟨m_1291, m_1292, m_1293, m_66, m_1294⟩, rfl, by decide +kernel⟩
theorem gw_L_225 : gWV "StorksLetLaw" "StorksLetModel" 225 yX12_count cX12_count 4 1 (some .int) := ⟨⟨m_2074, m_2075, m_2076, m_77, m_2077⟩, rfl, by decide +kernel⟩
theorem gw_L_229 : gWV "StorksLetLaw" "StorksLetModel" 229 yX12_row cX12_row 2 1 (some .int) := ⟨⟨m_2078, m_2079, m_2080, m_77, m_2081⟩, rfl, by decide +kernel⟩
theorem gn_L_8 (X : gX p m c cc nL s args "StorksLetLaw" D cT) (hG : gG D A H0 ws H locs) (hA : ∀ q, H0.size ≤ q → A q) {c1 s1 : Nat} (hc1 : cells + 1 = c1) (hs1 : slots + 16 = s1) (hcR : c1 ≤ R.cells) (hsR : s1 ≤ R.slots) (hdg : decode cc pc = .ok (.new 8, 3)) (kk : ∀ (q : Nat) (H1 : Heap), gG D A H0 (ws ++ [(q, .inr (10, [.null, .null, .null, .null, .null, .null, .null, .null, .null, .null, .null, .null, .null, .null, .null, .null]))]) H1 locs → W p l e R s m args below meth c H1 locs c1 s1 Q (F0 m (pc + 3) ls (.ref q :: rest))) : W p l e R s m args below meth c H locs cells slots Q (F0 m pc ls rest) := g_new X hG hA in_X11 tyX11 tyX11_ok rfl m_92 m_93 m_66 (fs := [.null, .null, .null, .null, .null, .null, .null, .null, .null, .null, .null, .null, .null, .null, .null, .null]) (by rfl) hc1 hs1 hcR hsR hdg kk
theorem gw_L_28 : gWI "StorksLetLaw" 28 yX11_init cX11_init 1 0 := ⟨⟨m_94, m_95, m_66, m_96⟩, rfl, by decide +kernel⟩
theorem gn_L_29 (X : gX p m c cc nL s args "StorksLetLaw" D cT) (hG : gG D A H0 ws H locs) (hA : ∀ q, H0.size ≤ q → A q) {c1 s1 : Nat} (hc1 : cells + 1 = c1) (hs1 : slots + 68 = s1) (hcR : c1 ≤ R.cells) (hsR : s1 ≤ R.slots) (hdg : decode cc pc = .ok (.new 29, 3)) (kk : ∀ (q : Nat) (H1 : Heap), gG D A H0 (ws ++ [(q, .inr (11, (.null :: .int 0 :: .null :: .null :: .null :: .null :: .null :: .int 0 :: .null :: .null :: .int 0 :: .null :: .null :: .null :: .int 0 :: .int 0 :: .int 0 :: .null :: .int 0 :: .null :: .int 0 :: .int 0 :: .null :: .int 0 :: .int 0 :: .int 0 :: .int 0 :: .null :: .null :: .null :: .null :: .int 0 :: .null :: .int 0 :: .int 0 :: .int 0 :: .null :: .int 0 :: .int 0 :: .int 0 :: .null :: .int 0 :: .null :: .null :: .int 0 :: .null :: .null :: .null :: .null :: .int 0 :: .int 0 :: .int 0 :: .null :: .int 0 :: .int 0 :: .null :: .null :: .null :: .null :: .int 0 :: .null :: .int 0 :: .null :: .int 0 :: .int 0 :: .null :: .null :: .null :: [])))]) H1 locs → W p l e R s m args below meth c H1 locs c1 s1 Q (F0 m (pc + 3) ls (.ref q :: rest))) : W p l e R s m args below meth c H locs cells slots Q (F0 m pc ls rest) := g_new X hG hA in_X12 tyX12 tyX12_ok rfl m_1431 m_1432 m_77 (fs := (.null :: .int 0 :: .null :: .null :: .null :: .null :: .null :: .int 0 :: .null :: .null :: .int 0 :: .null :: .null :: .null :: .int 0 :: .int 0 :: .int 0 :: .null :: .int 0 :: .null :: .int 0 :: .int 0 :: .null :: .int 0 :: .int 0 :: .int 0 :: .int 0 :: .null :: .null :: .null :: .null :: .int 0 :: .null :: .int 0 :: .int 0 :: .int 0 :: .null :: .int 0 :: .int 0 :: .int 0 :: .null :: .int 0 :: .null :: .null :: .int 0 :: .null :: .null :: .null :: .null :: .int 0 :: .int 0 :: .int 0 :: .null :: .int 0 :: .int 0 :: .null :: .null :: .null :: .null :: .int 0 :: .null :: .int 0 :: .null :: .int 0 :: .int 0 :: .null :: .null :: .null :: [])) (by rfl) hc1 hs1 hcR hsR hdg kk
theorem gw_L_31 : gWI "StorksLetLaw" 31 yX12_init cX12_init 1 0 := ⟨⟨m_1433, m_1434, m_77, m_1435⟩, rfl, by decide +kernel⟩
end GSITES
