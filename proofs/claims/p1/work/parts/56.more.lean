theorem m_1866 : Cond.instanceMethod yX12_lord ∈ gT := gT_in (i := 1866) (by decide +kernel) (by decide +kernel)
theorem m_1867 : Cond.selects "StorksLetModel" yX12_lord yX12_lord ∈ gT := gT_in (i := 1867) (by decide +kernel) (by decide +kernel)
theorem m_1868 : Cond.code yX12_lord cX12_lord 5 (some .int) ∈ gT := gT_in (i := 1868) (by decide +kernel) (by decide +kernel)
theorem m_1873 : Cond.methodLink "StorksLetLaw" 117 yX12_undo ∈ gT := gT_in (i := 1873) (by decide +kernel) (by decide +kernel)
theorem m_1874 : Cond.instanceMethod yX12_undo ∈ gT := gT_in (i := 1874) (by decide +kernel) (by decide +kernel)
theorem m_1875 : Cond.selects "StorksLetModel" yX12_undo yX12_undo ∈ gT := gT_in (i := 1875) (by decide +kernel) (by decide +kernel)
theorem m_1876 : Cond.code yX12_undo cX12_undo 3 (some .int) ∈ gT := gT_in (i := 1876) (by decide +kernel) (by decide +kernel)
theorem m_1877 : Cond.methodLink "StorksLetLaw" 121 yX12_later ∈ gT := gT_in (i := 1877) (by decide +kernel) (by decide +kernel)
theorem m_1878 : Cond.instanceMethod yX12_later ∈ gT := gT_in (i := 1878) (by decide +kernel) (by decide +kernel)
theorem m_1879 : Cond.selects "StorksLetModel" yX12_later yX12_later ∈ gT := gT_in (i := 1879) (by decide +kernel) (by decide +kernel)
theorem m_1880 : Cond.code yX12_later cX12_later 3 (some .int) ∈ gT := gT_in (i := 1880) (by decide +kernel) (by decide +kernel)
theorem m_1896 : Cond.methodLink "StorksLetLaw" 125 yX12_calm ∈ gT := gT_in (i := 1896) (by decide +kernel) (by decide +kernel)
theorem m_1897 : Cond.instanceMethod yX12_calm ∈ gT := gT_in (i := 1897) (by decide +kernel) (by decide +kernel)
theorem m_1898 : Cond.selects "StorksLetModel" yX12_calm yX12_calm ∈ gT := gT_in (i := 1898) (by decide +kernel) (by decide +kernel)
theorem m_1899 : Cond.code yX12_calm cX12_calm 4 (some .int) ∈ gT := gT_in (i := 1899) (by decide +kernel) (by decide +kernel)
theorem m_1900 : Cond.methodLink "StorksLetLaw" 129 yX12_moves ∈ gT := gT_in (i := 1900) (by decide +kernel) (by decide +kernel)
theorem m_1901 : Cond.instanceMethod yX12_moves ∈ gT := gT_in (i := 1901) (by decide +kernel) (by decide +kernel)
theorem m_1902 : Cond.selects "StorksLetModel" yX12_moves yX12_moves ∈ gT := gT_in (i := 1902) (by decide +kernel) (by decide +kernel)
theorem m_1903 : Cond.code yX12_moves cX12_moves 6 (some .int) ∈ gT := gT_in (i := 1903) (by decide +kernel) (by decide +kernel)
theorem m_1904 : Cond.methodLink "StorksLetLaw" 133 yX12_income ∈ gT := gT_in (i := 1904) (by decide +kernel) (by decide +kernel)
theorem m_1905 : Cond.instanceMethod yX12_income ∈ gT := gT_in (i := 1905) (by decide +kernel) (by decide +kernel)
theorem m_1906 : Cond.selects "StorksLetModel" yX12_income yX12_income ∈ gT := gT_in (i := 1906) (by decide +kernel) (by decide +kernel)
theorem m_1907 : Cond.code yX12_income cX12_income 7 (some .int) ∈ gT := gT_in (i := 1907) (by decide +kernel) (by decide +kernel)
theorem m_1908 : Cond.methodLink "StorksLetLaw" 137 yX12_homeless ∈ gT := gT_in (i := 1908) (by decide +kernel) (by decide +kernel)
theorem m_1909 : Cond.instanceMethod yX12_homeless ∈ gT := gT_in (i := 1909) (by decide +kernel) (by decide +kernel)
theorem m_1910 : Cond.selects "StorksLetModel" yX12_homeless yX12_homeless ∈ gT := gT_in (i := 1910) (by decide +kernel) (by decide +kernel)
theorem m_1911 : Cond.code yX12_homeless cX12_homeless 3 (some .int) ∈ gT := gT_in (i := 1911) (by decide +kernel) (by decide +kernel)
theorem m_1912 : Cond.methodLink "StorksLetLaw" 141 yX12_bears ∈ gT := gT_in (i := 1912) (by decide +kernel) (by decide +kernel)
theorem m_1913 : Cond.instanceMethod yX12_bears ∈ gT := gT_in (i := 1913) (by decide +kernel) (by decide +kernel)
theorem m_1914 : Cond.selects "StorksLetModel" yX12_bears yX12_bears ∈ gT := gT_in (i := 1914) (by decide +kernel) (by decide +kernel)
theorem m_1915 : Cond.code yX12_bears cX12_bears 4 (some .int) ∈ gT := gT_in (i := 1915) (by decide +kernel) (by decide +kernel)
theorem m_1923 : Cond.methodLink "StorksLetLaw" 145 yX12_rests ∈ gT := gT_in (i := 1923) (by decide +kernel) (by decide +kernel)
theorem m_1924 : Cond.instanceMethod yX12_rests ∈ gT := gT_in (i := 1924) (by decide +kernel) (by decide +kernel)
theorem m_1925 : Cond.selects "StorksLetModel" yX12_rests yX12_rests ∈ gT := gT_in (i := 1925) (by decide +kernel) (by decide +kernel)
theorem m_1926 : Cond.code yX12_rests cX12_rests 2 (some .int) ∈ gT := gT_in (i := 1926) (by decide +kernel) (by decide +kernel)
theorem m_1931 : Cond.methodLink "StorksLetLaw" 149 yX12_ways ∈ gT := gT_in (i := 1931) (by decide +kernel) (by decide +kernel)
theorem m_1932 : Cond.instanceMethod yX12_ways ∈ gT := gT_in (i := 1932) (by decide +kernel) (by decide +kernel)
theorem m_1933 : Cond.selects "StorksLetModel" yX12_ways yX12_ways ∈ gT := gT_in (i := 1933) (by decide +kernel) (by decide +kernel)
theorem m_1934 : Cond.code yX12_ways cX12_ways 4 (some .int) ∈ gT := gT_in (i := 1934) (by decide +kernel) (by decide +kernel)
theorem m_1948 : Cond.methodLink "StorksLetLaw" 153 yX12_kindest ∈ gT := gT_in (i := 1948) (by decide +kernel) (by decide +kernel)
theorem m_1949 : Cond.instanceMethod yX12_kindest ∈ gT := gT_in (i := 1949) (by decide +kernel) (by decide +kernel)
theorem m_1950 : Cond.selects "StorksLetModel" yX12_kindest yX12_kindest ∈ gT := gT_in (i := 1950) (by decide +kernel) (by decide +kernel)
theorem m_1951 : Cond.code yX12_kindest cX12_kindest 6 (some .int) ∈ gT := gT_in (i := 1951) (by decide +kernel) (by decide +kernel)
theorem m_1952 : Cond.methodLink "StorksLetLaw" 157 yX12_wheel ∈ gT := gT_in (i := 1952) (by decide +kernel) (by decide +kernel)
theorem m_1953 : Cond.instanceMethod yX12_wheel ∈ gT := gT_in (i := 1953) (by decide +kernel) (by decide +kernel)
theorem m_1954 : Cond.selects "StorksLetModel" yX12_wheel yX12_wheel ∈ gT := gT_in (i := 1954) (by decide +kernel) (by decide +kernel)
theorem m_1955 : Cond.code yX12_wheel cX12_wheel 3 (some .int) ∈ gT := gT_in (i := 1955) (by decide +kernel) (by decide +kernel)
theorem m_1960 : Cond.methodLink "StorksLetLaw" 161 yX12_courts ∈ gT := gT_in (i := 1960) (by decide +kernel) (by decide +kernel)
theorem m_1961 : Cond.instanceMethod yX12_courts ∈ gT := gT_in (i := 1961) (by decide +kernel) (by decide +kernel)
theorem m_1962 : Cond.selects "StorksLetModel" yX12_courts yX12_courts ∈ gT := gT_in (i := 1962) (by decide +kernel) (by decide +kernel)
theorem m_1963 : Cond.code yX12_courts cX12_courts 7 (some .int) ∈ gT := gT_in (i := 1963) (by decide +kernel) (by decide +kernel)
theorem m_1968 : Cond.methodLink "StorksLetLaw" 165 yX12_win ∈ gT := gT_in (i := 1968) (by decide +kernel) (by decide +kernel)
theorem m_1969 : Cond.instanceMethod yX12_win ∈ gT := gT_in (i := 1969) (by decide +kernel) (by decide +kernel)
theorem m_1970 : Cond.selects "StorksLetModel" yX12_win yX12_win ∈ gT := gT_in (i := 1970) (by decide +kernel) (by decide +kernel)
theorem m_1971 : Cond.code yX12_win cX12_win 7 (some .int) ∈ gT := gT_in (i := 1971) (by decide +kernel) (by decide +kernel)
theorem m_1972 : Cond.methodLink "StorksLetLaw" 169 yX12_drive ∈ gT := gT_in (i := 1972) (by decide +kernel) (by decide +kernel)
theorem m_1973 : Cond.instanceMethod yX12_drive ∈ gT := gT_in (i := 1973) (by decide +kernel) (by decide +kernel)
theorem m_1974 : Cond.selects "StorksLetModel" yX12_drive yX12_drive ∈ gT := gT_in (i := 1974) (by decide +kernel) (by decide +kernel)
theorem m_1975 : Cond.code yX12_drive cX12_drive 7 (some .int) ∈ gT := gT_in (i := 1975) (by decide +kernel) (by decide +kernel)
theorem m_1976 : Cond.methodLink "StorksLetLaw" 173 yX12_choose ∈ gT := gT_in (i := 1976) (by decide +kernel) (by decide +kernel)
theorem m_1977 : Cond.instanceMethod yX12_choose ∈ gT := gT_in (i := 1977) (by decide +kernel) (by decide +kernel)
theorem m_1978 : Cond.selects "StorksLetModel" yX12_choose yX12_choose ∈ gT := gT_in (i := 1978) (by decide +kernel) (by decide +kernel)
theorem m_1979 : Cond.code yX12_choose cX12_choose 11 (some .int) ∈ gT := gT_in (i := 1979) (by decide +kernel) (by decide +kernel)
theorem m_1980 : Cond.methodLink "StorksLetLaw" 177 yX12_aim ∈ gT := gT_in (i := 1980) (by decide +kernel) (by decide +kernel)
theorem m_1981 : Cond.instanceMethod yX12_aim ∈ gT := gT_in (i := 1981) (by decide +kernel) (by decide +kernel)
theorem m_1982 : Cond.selects "StorksLetModel" yX12_aim yX12_aim ∈ gT := gT_in (i := 1982) (by decide +kernel) (by decide +kernel)
theorem m_1983 : Cond.code yX12_aim cX12_aim 5 (some .int) ∈ gT := gT_in (i := 1983) (by decide +kernel) (by decide +kernel)
theorem m_1984 : Cond.methodLink "StorksLetLaw" 181 yX12_fewest ∈ gT := gT_in (i := 1984) (by decide +kernel) (by decide +kernel)
theorem m_1985 : Cond.instanceMethod yX12_fewest ∈ gT := gT_in (i := 1985) (by decide +kernel) (by decide +kernel)
theorem m_1986 : Cond.selects "StorksLetModel" yX12_fewest yX12_fewest ∈ gT := gT_in (i := 1986) (by decide +kernel) (by decide +kernel)
theorem m_1987 : Cond.code yX12_fewest cX12_fewest 4 (some .int) ∈ gT := gT_in (i := 1987) (by decide +kernel) (by decide +kernel)
theorem m_2000 : Cond.methodLink "StorksLetLaw" 185 yX12_gently ∈ gT := gT_in (i := 2000) (by decide +kernel) (by decide +kernel)
theorem m_2001 : Cond.instanceMethod yX12_gently ∈ gT := gT_in (i := 2001) (by decide +kernel) (by decide +kernel)
theorem m_2002 : Cond.selects "StorksLetModel" yX12_gently yX12_gently ∈ gT := gT_in (i := 2002) (by decide +kernel) (by decide +kernel)
theorem m_2003 : Cond.code yX12_gently cX12_gently 7 (some .int) ∈ gT := gT_in (i := 2003) (by decide +kernel) (by decide +kernel)
theorem m_2020 : Cond.methodLink "StorksLetLaw" 189 yX12_seen ∈ gT := gT_in (i := 2020) (by decide +kernel) (by decide +kernel)
theorem m_2021 : Cond.instanceMethod yX12_seen ∈ gT := gT_in (i := 2021) (by decide +kernel) (by decide +kernel)
theorem m_2022 : Cond.selects "StorksLetModel" yX12_seen yX12_seen ∈ gT := gT_in (i := 2022) (by decide +kernel) (by decide +kernel)
theorem m_2023 : Cond.code yX12_seen cX12_seen 4 (some .int) ∈ gT := gT_in (i := 2023) (by decide +kernel) (by decide +kernel)
theorem m_2024 : Cond.methodLink "StorksLetLaw" 193 yX12_forget ∈ gT := gT_in (i := 2024) (by decide +kernel) (by decide +kernel)
theorem m_2025 : Cond.instanceMethod yX12_forget ∈ gT := gT_in (i := 2025) (by decide +kernel) (by decide +kernel)
theorem m_2026 : Cond.selects "StorksLetModel" yX12_forget yX12_forget ∈ gT := gT_in (i := 2026) (by decide +kernel) (by decide +kernel)
theorem m_2027 : Cond.code yX12_forget cX12_forget 2 (some .int) ∈ gT := gT_in (i := 2027) (by decide +kernel) (by decide +kernel)
theorem m_2028 : Cond.methodLink "StorksLetLaw" 197 yX12_strengths ∈ gT := gT_in (i := 2028) (by decide +kernel) (by decide +kernel)
theorem m_2029 : Cond.instanceMethod yX12_strengths ∈ gT := gT_in (i := 2029) (by decide +kernel) (by decide +kernel)
theorem m_2030 : Cond.selects "StorksLetModel" yX12_strengths yX12_strengths ∈ gT := gT_in (i := 2030) (by decide +kernel) (by decide +kernel)
theorem m_2031 : Cond.code yX12_strengths cX12_strengths 5 (some .int) ∈ gT := gT_in (i := 2031) (by decide +kernel) (by decide +kernel)
theorem m_2036 : Cond.methodLink "StorksLetLaw" 201 yX12_latest ∈ gT := gT_in (i := 2036) (by decide +kernel) (by decide +kernel)
theorem m_2037 : Cond.instanceMethod yX12_latest ∈ gT := gT_in (i := 2037) (by decide +kernel) (by decide +kernel)
theorem m_2038 : Cond.selects "StorksLetModel" yX12_latest yX12_latest ∈ gT := gT_in (i := 2038) (by decide +kernel) (by decide +kernel)
theorem m_2039 : Cond.code yX12_latest cX12_latest 5 (some .int) ∈ gT := gT_in (i := 2039) (by decide +kernel) (by decide +kernel)
theorem m_2040 : Cond.methodLink "StorksLetLaw" 205 yX12_absent ∈ gT := gT_in (i := 2040) (by decide +kernel) (by decide +kernel)
theorem m_2041 : Cond.instanceMethod yX12_absent ∈ gT := gT_in (i := 2041) (by decide +kernel) (by decide +kernel)
theorem m_2042 : Cond.selects "StorksLetModel" yX12_absent yX12_absent ∈ gT := gT_in (i := 2042) (by decide +kernel) (by decide +kernel)
theorem m_2043 : Cond.code yX12_absent cX12_absent 3 (some .int) ∈ gT := gT_in (i := 2043) (by decide +kernel) (by decide +kernel)
theorem m_2044 : Cond.methodLink "StorksLetLaw" 209 yX12_chance ∈ gT := gT_in (i := 2044) (by decide +kernel) (by decide +kernel)
theorem m_2045 : Cond.instanceMethod yX12_chance ∈ gT := gT_in (i := 2045) (by decide +kernel) (by decide +kernel)
theorem m_2046 : Cond.selects "StorksLetModel" yX12_chance yX12_chance ∈ gT := gT_in (i := 2046) (by decide +kernel) (by decide +kernel)
theorem m_2047 : Cond.code yX12_chance cX12_chance 6 (some .int) ∈ gT := gT_in (i := 2047) (by decide +kernel) (by decide +kernel)
theorem m_2062 : Cond.methodLink "StorksLetLaw" 213 yX12_safest ∈ gT := gT_in (i := 2062) (by decide +kernel) (by decide +kernel)
theorem m_2063 : Cond.instanceMethod yX12_safest ∈ gT := gT_in (i := 2063) (by decide +kernel) (by decide +kernel)
theorem m_2064 : Cond.selects "StorksLetModel" yX12_safest yX12_safest ∈ gT := gT_in (i := 2064) (by decide +kernel) (by decide +kernel)
theorem m_2065 : Cond.code yX12_safest cX12_safest 5 (some .int) ∈ gT := gT_in (i := 2065) (by decide +kernel) (by decide +kernel)
theorem m_2066 : Cond.methodLink "StorksLetLaw" 217 yX12_keep ∈ gT := gT_in (i := 2066) (by decide +kernel) (by decide +kernel)
theorem m_2067 : Cond.instanceMethod yX12_keep ∈ gT := gT_in (i := 2067) (by decide +kernel) (by decide +kernel)
theorem m_2068 : Cond.selects "StorksLetModel" yX12_keep yX12_keep ∈ gT := gT_in (i := 2068) (by decide +kernel) (by decide +kernel)
theorem m_2069 : Cond.code yX12_keep cX12_keep 2 (some .boolean) ∈ gT := gT_in (i := 2069) (by decide +kernel) (by decide +kernel)
theorem m_2070 : Cond.methodLink "StorksLetLaw" 221 yX12_again ∈ gT := gT_in (i := 2070) (by decide +kernel) (by decide +kernel)
theorem m_2071 : Cond.instanceMethod yX12_again ∈ gT := gT_in (i := 2071) (by decide +kernel) (by decide +kernel)
theorem m_2072 : Cond.selects "StorksLetModel" yX12_again yX12_again ∈ gT := gT_in (i := 2072) (by decide +kernel) (by decide +kernel)
theorem m_2073 : Cond.code yX12_again cX12_again 3 (some .boolean) ∈ gT := gT_in (i := 2073) (by decide +kernel) (by decide +kernel)
theorem m_2074 : Cond.methodLink "StorksLetLaw" 225 yX12_count ∈ gT := gT_in (i := 2074) (by decide +kernel) (by decide +kernel)
theorem m_2075 : Cond.instanceMethod yX12_count ∈ gT := gT_in (i := 2075) (by decide +kernel) (by decide +kernel)
theorem m_2076 : Cond.selects "StorksLetModel" yX12_count yX12_count ∈ gT := gT_in (i := 2076) (by decide +kernel) (by decide +kernel)
theorem m_2077 : Cond.code yX12_count cX12_count 4 (some .int) ∈ gT := gT_in (i := 2077) (by decide +kernel) (by decide +kernel)
theorem m_2078 : Cond.methodLink "StorksLetLaw" 229 yX12_row ∈ gT := gT_in (i := 2078) (by decide +kernel) (by decide +kernel)
theorem m_2079 : Cond.instanceMethod yX12_row ∈ gT := gT_in (i := 2079) (by decide +kernel) (by decide +kernel)
theorem m_2080 : Cond.selects "StorksLetModel" yX12_row yX12_row ∈ gT := gT_in (i := 2080) (by decide +kernel) (by decide +kernel)
theorem m_2081 : Cond.code yX12_row cX12_row 2 (some .int) ∈ gT := gT_in (i := 2081) (by decide +kernel) (by decide +kernel)
theorem m_2082 : Cond.arrayClass .long ∈ gT := gT_in (i := 2082) (by decide +kernel) (by decide +kernel)
theorem in_X4 : ∀ w ∈ u_ws RX4 TX4 9, w ∈ gT := gT_ws _ [1148, 1150, 1152, 1154, 1156, 1158, 1160, 1162, 1164] (by decide +kernel) (by decide +kernel)
theorem dL_law_0 : decode cL_law 0 = .ok (.new 8, 3) := by decide +kernel
theorem dL_law_3 : decode cL_law 3 = .ok (.dup, 1) := by decide +kernel
theorem dL_law_4 : decode cL_law 4 = .ok (.invokespecial 28, 3) := by decide +kernel
theorem dL_law_7 : decode cL_law 7 = .ok (.astore_n 1, 1) := by decide +kernel
theorem dL_law_8 : decode cL_law 8 = .ok (.new 29, 3) := by decide +kernel
theorem dL_law_11 : decode cL_law 11 = .ok (.dup, 1) := by decide +kernel
theorem dL_law_12 : decode cL_law 12 = .ok (.invokespecial 31, 3) := by decide +kernel
theorem dL_law_15 : decode cL_law 15 = .ok (.astore_n 2, 1) := by decide +kernel
theorem dL_law_16 : decode cL_law 16 = .ok (.iconst 1, 1) := by decide +kernel
theorem dL_law_17 : decode cL_law 17 = .ok (.newarray .long, 2) := by decide +kernel
theorem dL_law_19 : decode cL_law 19 = .ok (.astore_n 3, 1) := by decide +kernel
theorem dL_law_20 : decode cL_law 20 = .ok (.iconst 0, 1) := by decide +kernel
theorem dL_law_21 : decode cL_law 21 = .ok (.istore 4, 2) := by decide +kernel
theorem dL_law_23 : decode cL_law 23 = .ok (.iload 4, 2) := by decide +kernel
theorem dL_law_25 : decode cL_law 25 = .ok (.aload_n 0, 1) := by decide +kernel
theorem dL_law_26 : decode cL_law 26 = .ok (.arraylength, 1) := by decide +kernel
theorem dL_law_27 : decode cL_law 27 = .ok (.iconst 5, 1) := by decide +kernel
theorem dL_law_28 : decode cL_law 28 = .ok (.isub, 1) := by decide +kernel
theorem dL_law_29 : decode cL_law 29 = .ok (.if_icmp .gt 1744, 3) := by decide +kernel
theorem dL_law_32 : decode cL_law 32 = .ok (.aload_n 0, 1) := by decide +kernel
theorem dL_law_33 : decode cL_law 33 = .ok (.iload 4, 2) := by decide +kernel
theorem dL_law_35 : decode cL_law 35 = .ok (.iaload, 1) := by decide +kernel
theorem dL_law_36 : decode cL_law 36 = .ok (.bipush 63, 2) := by decide +kernel
theorem dL_law_38 : decode cL_law 38 = .ok (.iand, 1) := by decide +kernel
theorem dL_law_39 : decode cL_law 39 = .ok (.tableswitch 1728 0 47 #[205, 230, 255, 268, 281, 294, 362, 430, 498, 566, 615, 664, 701, 762, 775, 800, 813, 862, 899, 924, 937, 974, 987, 1024, 1061, 1086, 1111, 1124, 1137, 1150, 1187, 1224, 1273, 1310, 1347, 1360, 1373, 1386, 1435, 1448, 1473, 1498, 1511, 1560, 1597, 1622, 1647, 1672], 205) := by decide +kernel
theorem dL_law_244 : decode cL_law 244 = .ok (.aload_n 1, 1) := by decide +kernel
theorem dL_law_245 : decode cL_law 245 = .ok (.aload_n 0, 1) := by decide +kernel
theorem dL_law_246 : decode cL_law 246 = .ok (.iload 4, 2) := by decide +kernel
theorem dL_law_248 : decode cL_law 248 = .ok (.iconst 1, 1) := by decide +kernel
theorem dL_law_249 : decode cL_law 249 = .ok (.iadd, 1) := by decide +kernel
theorem dL_law_250 : decode cL_law 250 = .ok (.iaload, 1) := by decide +kernel
theorem dL_law_251 : decode cL_law 251 = .ok (.invokevirtual 32, 3) := by decide +kernel
theorem dL_law_254 : decode cL_law 254 = .ok (.aload_n 2, 1) := by decide +kernel
theorem dL_law_255 : decode cL_law 255 = .ok (.aload_n 0, 1) := by decide +kernel
theorem dL_law_256 : decode cL_law 256 = .ok (.iload 4, 2) := by decide +kernel
theorem dL_law_258 : decode cL_law 258 = .ok (.iconst 1, 1) := by decide +kernel
theorem dL_law_259 : decode cL_law 259 = .ok (.iadd, 1) := by decide +kernel
theorem dL_law_260 : decode cL_law 260 = .ok (.iaload, 1) := by decide +kernel
theorem dL_law_261 : decode cL_law 261 = .ok (.invokevirtual 35, 3) := by decide +kernel
theorem dL_law_264 : decode cL_law 264 = .ok (.if_icmp .eq 1503, 3) := by decide +kernel
theorem dL_law_269 : decode cL_law 269 = .ok (.aload_n 1, 1) := by decide +kernel
theorem dL_law_270 : decode cL_law 270 = .ok (.aload_n 0, 1) := by decide +kernel
theorem dL_law_271 : decode cL_law 271 = .ok (.iload 4, 2) := by decide +kernel
theorem dL_law_273 : decode cL_law 273 = .ok (.iconst 1, 1) := by decide +kernel
theorem dL_law_274 : decode cL_law 274 = .ok (.iadd, 1) := by decide +kernel
theorem dL_law_275 : decode cL_law 275 = .ok (.iaload, 1) := by decide +kernel
theorem dL_law_276 : decode cL_law 276 = .ok (.invokevirtual 36, 3) := by decide +kernel
theorem dL_law_279 : decode cL_law 279 = .ok (.aload_n 2, 1) := by decide +kernel
theorem dL_law_280 : decode cL_law 280 = .ok (.aload_n 0, 1) := by decide +kernel
theorem dL_law_281 : decode cL_law 281 = .ok (.iload 4, 2) := by decide +kernel
theorem dL_law_283 : decode cL_law 283 = .ok (.iconst 1, 1) := by decide +kernel
theorem dL_law_284 : decode cL_law 284 = .ok (.iadd, 1) := by decide +kernel
theorem dL_law_285 : decode cL_law 285 = .ok (.iaload, 1) := by decide +kernel
theorem dL_law_286 : decode cL_law 286 = .ok (.invokevirtual 40, 3) := by decide +kernel
theorem dL_law_289 : decode cL_law 289 = .ok (.if_icmp .eq 1478, 3) := by decide +kernel
theorem dL_law_294 : decode cL_law 294 = .ok (.aload_n 1, 1) := by decide +kernel
theorem dL_law_295 : decode cL_law 295 = .ok (.invokevirtual 41, 3) := by decide +kernel
theorem dL_law_298 : decode cL_law 298 = .ok (.aload_n 2, 1) := by decide +kernel
theorem dL_law_299 : decode cL_law 299 = .ok (.invokevirtual 45, 3) := by decide +kernel
theorem dL_law_302 : decode cL_law 302 = .ok (.if_icmp .eq 1465, 3) := by decide +kernel
theorem dL_law_307 : decode cL_law 307 = .ok (.aload_n 1, 1) := by decide +kernel
theorem dL_law_308 : decode cL_law 308 = .ok (.invokevirtual 46, 3) := by decide +kernel
theorem dL_law_311 : decode cL_law 311 = .ok (.aload_n 2, 1) := by decide +kernel
theorem dL_law_312 : decode cL_law 312 = .ok (.invokevirtual 49, 3) := by decide +kernel
theorem dL_law_315 : decode cL_law 315 = .ok (.if_icmp .eq 1452, 3) := by decide +kernel
theorem dL_law_320 : decode cL_law 320 = .ok (.aload_n 1, 1) := by decide +kernel
theorem dL_law_321 : decode cL_law 321 = .ok (.invokevirtual 50, 3) := by decide +kernel
theorem dL_law_324 : decode cL_law 324 = .ok (.aload_n 2, 1) := by decide +kernel
theorem dL_law_325 : decode cL_law 325 = .ok (.invokevirtual 53, 3) := by decide +kernel
theorem dL_law_328 : decode cL_law 328 = .ok (.if_icmp .eq 1439, 3) := by decide +kernel
theorem dL_law_333 : decode cL_law 333 = .ok (.aload_n 1, 1) := by decide +kernel
theorem dL_law_334 : decode cL_law 334 = .ok (.aload_n 0, 1) := by decide +kernel
theorem dL_law_335 : decode cL_law 335 = .ok (.iload 4, 2) := by decide +kernel
theorem dL_law_337 : decode cL_law 337 = .ok (.iconst 1, 1) := by decide +kernel
theorem dL_law_338 : decode cL_law 338 = .ok (.iadd, 1) := by decide +kernel
theorem dL_law_339 : decode cL_law 339 = .ok (.iaload, 1) := by decide +kernel
theorem dL_law_340 : decode cL_law 340 = .ok (.aload_n 0, 1) := by decide +kernel
theorem dL_law_341 : decode cL_law 341 = .ok (.iload 4, 2) := by decide +kernel
theorem dL_law_343 : decode cL_law 343 = .ok (.iconst 2, 1) := by decide +kernel
theorem dL_law_344 : decode cL_law 344 = .ok (.iadd, 1) := by decide +kernel
theorem dL_law_345 : decode cL_law 345 = .ok (.iaload, 1) := by decide +kernel
theorem dL_law_346 : decode cL_law 346 = .ok (.aload_n 3, 1) := by decide +kernel
theorem dL_law_347 : decode cL_law 347 = .ok (.invokestatic 54, 3) := by decide +kernel
theorem dL_law_350 : decode cL_law 350 = .ok (.istore 5, 2) := by decide +kernel
theorem dL_law_352 : decode cL_law 352 = .ok (.aload_n 2, 1) := by decide +kernel
theorem dL_law_353 : decode cL_law 353 = .ok (.aload_n 0, 1) := by decide +kernel
theorem dL_law_354 : decode cL_law 354 = .ok (.iload 4, 2) := by decide +kernel
theorem dL_law_356 : decode cL_law 356 = .ok (.iconst 1, 1) := by decide +kernel
theorem dL_law_357 : decode cL_law 357 = .ok (.iadd, 1) := by decide +kernel
theorem dL_law_358 : decode cL_law 358 = .ok (.iaload, 1) := by decide +kernel
theorem dL_law_359 : decode cL_law 359 = .ok (.aload_n 0, 1) := by decide +kernel
theorem dL_law_360 : decode cL_law 360 = .ok (.iload 4, 2) := by decide +kernel
theorem dL_law_362 : decode cL_law 362 = .ok (.iconst 2, 1) := by decide +kernel
theorem dL_law_363 : decode cL_law 363 = .ok (.iadd, 1) := by decide +kernel
theorem dL_law_364 : decode cL_law 364 = .ok (.iaload, 1) := by decide +kernel
theorem dL_law_365 : decode cL_law 365 = .ok (.invokevirtual 59, 3) := by decide +kernel
theorem dL_law_368 : decode cL_law 368 = .ok (.istore 6, 2) := by decide +kernel
theorem dL_law_370 : decode cL_law 370 = .ok (.aload_n 2, 1) := by decide +kernel
theorem dL_law_371 : decode cL_law 371 = .ok (.invokevirtual 60, 3) := by decide +kernel
theorem dL_law_374 : decode cL_law 374 = .ok (.iload 5, 2) := by decide +kernel
theorem dL_law_376 : decode cL_law 376 = .ok (.if_icmp .eq 5, 3) := by decide +kernel
theorem dL_law_381 : decode cL_law 381 = .ok (.iload 5, 2) := by decide +kernel
theorem dL_law_383 : decode cL_law 383 = .ok (.ifCond .ne 15, 3) := by decide +kernel
theorem dL_law_398 : decode cL_law 398 = .ok (.goto 1369, 3) := by decide +kernel
theorem dL_law_401 : decode cL_law 401 = .ok (.aload_n 1, 1) := by decide +kernel
theorem dL_law_402 : decode cL_law 402 = .ok (.aload_n 0, 1) := by decide +kernel
theorem dL_law_403 : decode cL_law 403 = .ok (.iload 4, 2) := by decide +kernel
theorem dL_law_405 : decode cL_law 405 = .ok (.iconst 1, 1) := by decide +kernel
theorem dL_law_406 : decode cL_law 406 = .ok (.iadd, 1) := by decide +kernel
theorem dL_law_407 : decode cL_law 407 = .ok (.iaload, 1) := by decide +kernel
theorem dL_law_408 : decode cL_law 408 = .ok (.aload_n 0, 1) := by decide +kernel
theorem dL_law_409 : decode cL_law 409 = .ok (.iload 4, 2) := by decide +kernel
theorem dL_law_411 : decode cL_law 411 = .ok (.iconst 2, 1) := by decide +kernel
theorem dL_law_412 : decode cL_law 412 = .ok (.iadd, 1) := by decide +kernel
theorem dL_law_413 : decode cL_law 413 = .ok (.iaload, 1) := by decide +kernel
theorem dL_law_414 : decode cL_law 414 = .ok (.aload_n 3, 1) := by decide +kernel
theorem dL_law_415 : decode cL_law 415 = .ok (.invokestatic 63, 3) := by decide +kernel
theorem dL_law_418 : decode cL_law 418 = .ok (.istore 5, 2) := by decide +kernel
theorem dL_law_420 : decode cL_law 420 = .ok (.aload_n 2, 1) := by decide +kernel
theorem dL_law_421 : decode cL_law 421 = .ok (.aload_n 0, 1) := by decide +kernel
theorem dL_law_422 : decode cL_law 422 = .ok (.iload 4, 2) := by decide +kernel
theorem dL_law_424 : decode cL_law 424 = .ok (.iconst 1, 1) := by decide +kernel
theorem dL_law_425 : decode cL_law 425 = .ok (.iadd, 1) := by decide +kernel
theorem dL_law_426 : decode cL_law 426 = .ok (.iaload, 1) := by decide +kernel
theorem dL_law_427 : decode cL_law 427 = .ok (.aload_n 0, 1) := by decide +kernel
theorem dL_law_428 : decode cL_law 428 = .ok (.iload 4, 2) := by decide +kernel
theorem dL_law_430 : decode cL_law 430 = .ok (.iconst 2, 1) := by decide +kernel
theorem dL_law_431 : decode cL_law 431 = .ok (.iadd, 1) := by decide +kernel
theorem dL_law_432 : decode cL_law 432 = .ok (.iaload, 1) := by decide +kernel
theorem dL_law_433 : decode cL_law 433 = .ok (.invokevirtual 65, 3) := by decide +kernel
theorem dL_law_436 : decode cL_law 436 = .ok (.istore 6, 2) := by decide +kernel
theorem dL_law_438 : decode cL_law 438 = .ok (.aload_n 2, 1) := by decide +kernel
theorem dL_law_439 : decode cL_law 439 = .ok (.invokevirtual 60, 3) := by decide +kernel
theorem dL_law_442 : decode cL_law 442 = .ok (.iload 5, 2) := by decide +kernel
theorem dL_law_444 : decode cL_law 444 = .ok (.if_icmp .eq 5, 3) := by decide +kernel
theorem dL_law_449 : decode cL_law 449 = .ok (.iload 5, 2) := by decide +kernel
theorem dL_law_451 : decode cL_law 451 = .ok (.ifCond .ne 15, 3) := by decide +kernel
theorem dL_law_466 : decode cL_law 466 = .ok (.goto 1301, 3) := by decide +kernel
theorem dL_law_469 : decode cL_law 469 = .ok (.aload_n 1, 1) := by decide +kernel
theorem dL_law_470 : decode cL_law 470 = .ok (.aload_n 0, 1) := by decide +kernel
theorem dL_law_471 : decode cL_law 471 = .ok (.iload 4, 2) := by decide +kernel
theorem dL_law_473 : decode cL_law 473 = .ok (.iconst 1, 1) := by decide +kernel
theorem dL_law_474 : decode cL_law 474 = .ok (.iadd, 1) := by decide +kernel
theorem dL_law_475 : decode cL_law 475 = .ok (.iaload, 1) := by decide +kernel
theorem dL_law_476 : decode cL_law 476 = .ok (.aload_n 0, 1) := by decide +kernel
theorem dL_law_477 : decode cL_law 477 = .ok (.iload 4, 2) := by decide +kernel
theorem dL_law_479 : decode cL_law 479 = .ok (.iconst 2, 1) := by decide +kernel
theorem dL_law_480 : decode cL_law 480 = .ok (.iadd, 1) := by decide +kernel
theorem dL_law_481 : decode cL_law 481 = .ok (.iaload, 1) := by decide +kernel
theorem dL_law_482 : decode cL_law 482 = .ok (.aload_n 3, 1) := by decide +kernel
theorem dL_law_483 : decode cL_law 483 = .ok (.invokestatic 66, 3) := by decide +kernel
theorem dL_law_486 : decode cL_law 486 = .ok (.istore 5, 2) := by decide +kernel
theorem dL_law_488 : decode cL_law 488 = .ok (.aload_n 2, 1) := by decide +kernel
theorem dL_law_489 : decode cL_law 489 = .ok (.aload_n 0, 1) := by decide +kernel
theorem dL_law_490 : decode cL_law 490 = .ok (.iload 4, 2) := by decide +kernel
theorem dL_law_492 : decode cL_law 492 = .ok (.iconst 1, 1) := by decide +kernel
theorem dL_law_493 : decode cL_law 493 = .ok (.iadd, 1) := by decide +kernel
theorem dL_law_494 : decode cL_law 494 = .ok (.iaload, 1) := by decide +kernel
theorem dL_law_495 : decode cL_law 495 = .ok (.aload_n 0, 1) := by decide +kernel
