/-! ===== contracts, 42 ===== -/
/-- RookHustingModel askSeen -/
noncomputable def gi_1806 : GI := jl_n [gp_194, gp_734, jl_r 60 (jl_u)]
noncomputable def ac_1161 : AC := .inr (2, jl_n [js_5 180 9223372036854775807 9223372036854775807, js_4 135 60])
noncomputable def gi_1807 : GI := jl_n [gp_194, gp_734, gp_427]
noncomputable def hq_914 : HP := [(false, ac_1097), (false, ac_440), (false, ac_1098), (false, ac_1161)]
noncomputable def gi_1808 : GI := jl_n [gp_739, jl_r 3 (jl_m 0 60), jl_k 0 0, gp_427]
noncomputable def gi_1809 : GI := jl_n [gp_739, gp_740, jl_z 1]
noncomputable def gi_1810 : GI := jl_n [gp_743, gp_436, jl_z 1]
noncomputable def gi_1811 : GI := jl_n [gp_743, gp_439, jl_z 1]
noncomputable def gi_1812 : GI := jl_n [gp_743, gp_442, jl_z 1]
noncomputable def gi_1813 : GI := jl_n [gp_743, gp_445, jl_z 1]
noncomputable def gi_1814 : GI := jl_n [gp_743, gp_448, jl_z 1]
noncomputable def gi_1815 : GI := jl_n [gp_743, gp_451, jl_z 1]
noncomputable def gi_1816 : GI := jl_n [gp_743, gp_453, jl_z 1]
noncomputable def gi_1817 : GI := jl_n [gp_743, gp_456, jl_z 1]
noncomputable def gi_1818 : GI := jl_n [gp_743, gp_459, jl_z 1]
noncomputable def gi_1819 : GI := jl_n [gp_743, gp_462, jl_z 1]
noncomputable def gi_1820 : GI := jl_n [gp_743, gp_465, jl_z 1]
noncomputable def gi_1821 : GI := jl_n [gp_743, gp_468, jl_z 1]
noncomputable def gi_1822 : GI := jl_n [gp_743, gp_471, jl_z 1]
noncomputable def gi_1823 : GI := jl_n [gp_743, gp_474, jl_z 1]
noncomputable def gi_1824 : GI := jl_n [gp_743, gp_477, jl_z 1]
noncomputable def gi_1825 : GI := jl_n [gp_743, gp_480, jl_z 1]
noncomputable def gi_1826 : GI := jl_n [gp_743, gp_483, jl_z 1]
noncomputable def gi_1827 : GI := jl_n [gp_743, gp_485, jl_z 1]
noncomputable def gi_1828 : GI := jl_n [gp_743, gp_487, jl_z 1]
noncomputable def gi_1829 : GI := jl_n [gp_743, gp_489, jl_z 1]
noncomputable def con_1994 : Con2 := ((yX12_askSeen, cX12_askSeen, 4, (some .int)), (2, 47), ([(6, 0, 0), (0, 3, 0), (1, 2, 0)], gi_1806, [ac_1097, ac_440, ac_1098, ac_1161], []), [((0, (-2), 0), gi_1807, hq_914, [], [1]), ((0, (-6), 0), gi_1808, hq_914, [], [1]), ((0, 0, 0), gi_1809, hq_914, [], [1]), ((0, 0, 0), gi_1810, hq_914, [], [1]), ((0, 0, 0), gi_1811, hq_914, [], [1]), ((0, 0, 0), gi_1812, hq_914, [], [1]), ((0, 0, 0), gi_1813, hq_914, [], [1]), ((0, 0, 0), gi_1814, hq_914, [], [1]), ((0, 0, 0), gi_1815, hq_914, [], [1]), ((0, 0, 0), gi_1816, hq_914, [], [1]), ((0, 0, 0), gi_1817, hq_914, [], [1]), ((0, 0, 0), gi_1818, hq_914, [], [1]), ((0, 0, 0), gi_1819, hq_914, [], [1]), ((0, 0, 0), gi_1820, hq_914, [], [1]), ((0, 0, 0), gi_1821, hq_914, [], [1]), ((0, 0, 0), gi_1822, hq_914, [], [1]), ((0, 0, 0), gi_1823, hq_914, [], [1]), ((0, 0, 0), gi_1824, hq_914, [], [1]), ((0, 0, 0), gi_1825, hq_914, [], [1]), ((0, 0, 0), gi_1826, hq_914, [], [1]), ((0, 0, 0), gi_1827, hq_914, [], [1]), ((0, 0, 0), gi_1828, hq_914, [], [1]), ((0, 0, 0), gi_1829, hq_914, [], [1])])
theorem hd_1994 : con_1994.1 = (yX12_askSeen, cX12_askSeen, 4, (some .int)) := rfl
theorem ck_RX12_91_1936 : COK2 RX12 vwCl gTbl 91 1 con_1936 := ⟨wd_1544, wd_137, mh_X12_in, .inl ⟨rfl, wd_1542, wd_1543, pd_X12_in⟩⟩
theorem ck_RX12_417_1935 : COK2 RX12 vwCl gTbl 417 0 con_1935 := ⟨wd_2061, wd_137, mh_X12_numberAt, .inr (.inr ⟨rfl, wd_2058, wd_2060, wd_114, ⟨_, rfl, pd_X12_numberAt⟩, 12, _, TX12, 45, rfl, rfl⟩)⟩
theorem ck_RX12_417_1939 : COK2 RX12 vwCl gTbl 417 0 con_1939 := ⟨wd_2061, wd_137, mh_X12_numberAt, .inr (.inr ⟨rfl, wd_2058, wd_2060, wd_114, ⟨_, rfl, pd_X12_numberAt⟩, 12, _, TX12, 45, rfl, rfl⟩)⟩
theorem ck_RX12_417_1942 : COK2 RX12 vwCl gTbl 417 0 con_1942 := ⟨wd_2061, wd_137, mh_X12_numberAt, .inr (.inr ⟨rfl, wd_2058, wd_2060, wd_114, ⟨_, rfl, pd_X12_numberAt⟩, 12, _, TX12, 45, rfl, rfl⟩)⟩
theorem ck_RX12_417_1945 : COK2 RX12 vwCl gTbl 417 0 con_1945 := ⟨wd_2061, wd_137, mh_X12_numberAt, .inr (.inr ⟨rfl, wd_2058, wd_2060, wd_114, ⟨_, rfl, pd_X12_numberAt⟩, 12, _, TX12, 45, rfl, rfl⟩)⟩
theorem ck_RX12_417_1948 : COK2 RX12 vwCl gTbl 417 0 con_1948 := ⟨wd_2061, wd_137, mh_X12_numberAt, .inr (.inr ⟨rfl, wd_2058, wd_2060, wd_114, ⟨_, rfl, pd_X12_numberAt⟩, 12, _, TX12, 45, rfl, rfl⟩)⟩
theorem ck_RX12_417_1951 : COK2 RX12 vwCl gTbl 417 0 con_1951 := ⟨wd_2061, wd_137, mh_X12_numberAt, .inr (.inr ⟨rfl, wd_2058, wd_2060, wd_114, ⟨_, rfl, pd_X12_numberAt⟩, 12, _, TX12, 45, rfl, rfl⟩)⟩
theorem ck_RX12_417_1954 : COK2 RX12 vwCl gTbl 417 0 con_1954 := ⟨wd_2061, wd_137, mh_X12_numberAt, .inr (.inr ⟨rfl, wd_2058, wd_2060, wd_114, ⟨_, rfl, pd_X12_numberAt⟩, 12, _, TX12, 45, rfl, rfl⟩)⟩
theorem ck_RX12_417_1957 : COK2 RX12 vwCl gTbl 417 0 con_1957 := ⟨wd_2061, wd_137, mh_X12_numberAt, .inr (.inr ⟨rfl, wd_2058, wd_2060, wd_114, ⟨_, rfl, pd_X12_numberAt⟩, 12, _, TX12, 45, rfl, rfl⟩)⟩
theorem ck_RX12_417_1960 : COK2 RX12 vwCl gTbl 417 0 con_1960 := ⟨wd_2061, wd_137, mh_X12_numberAt, .inr (.inr ⟨rfl, wd_2058, wd_2060, wd_114, ⟨_, rfl, pd_X12_numberAt⟩, 12, _, TX12, 45, rfl, rfl⟩)⟩
theorem ck_RX12_417_1963 : COK2 RX12 vwCl gTbl 417 0 con_1963 := ⟨wd_2061, wd_137, mh_X12_numberAt, .inr (.inr ⟨rfl, wd_2058, wd_2060, wd_114, ⟨_, rfl, pd_X12_numberAt⟩, 12, _, TX12, 45, rfl, rfl⟩)⟩
theorem ck_RX12_417_1966 : COK2 RX12 vwCl gTbl 417 0 con_1966 := ⟨wd_2061, wd_137, mh_X12_numberAt, .inr (.inr ⟨rfl, wd_2058, wd_2060, wd_114, ⟨_, rfl, pd_X12_numberAt⟩, 12, _, TX12, 45, rfl, rfl⟩)⟩
theorem ck_RX12_417_1969 : COK2 RX12 vwCl gTbl 417 0 con_1969 := ⟨wd_2061, wd_137, mh_X12_numberAt, .inr (.inr ⟨rfl, wd_2058, wd_2060, wd_114, ⟨_, rfl, pd_X12_numberAt⟩, 12, _, TX12, 45, rfl, rfl⟩)⟩
theorem ck_RX12_417_1972 : COK2 RX12 vwCl gTbl 417 0 con_1972 := ⟨wd_2061, wd_137, mh_X12_numberAt, .inr (.inr ⟨rfl, wd_2058, wd_2060, wd_114, ⟨_, rfl, pd_X12_numberAt⟩, 12, _, TX12, 45, rfl, rfl⟩)⟩
theorem ck_RX12_417_1975 : COK2 RX12 vwCl gTbl 417 0 con_1975 := ⟨wd_2061, wd_137, mh_X12_numberAt, .inr (.inr ⟨rfl, wd_2058, wd_2060, wd_114, ⟨_, rfl, pd_X12_numberAt⟩, 12, _, TX12, 45, rfl, rfl⟩)⟩
theorem ck_RX12_417_1978 : COK2 RX12 vwCl gTbl 417 0 con_1978 := ⟨wd_2061, wd_137, mh_X12_numberAt, .inr (.inr ⟨rfl, wd_2058, wd_2060, wd_114, ⟨_, rfl, pd_X12_numberAt⟩, 12, _, TX12, 45, rfl, rfl⟩)⟩
theorem ck_RX12_417_1981 : COK2 RX12 vwCl gTbl 417 0 con_1981 := ⟨wd_2061, wd_137, mh_X12_numberAt, .inr (.inr ⟨rfl, wd_2058, wd_2060, wd_114, ⟨_, rfl, pd_X12_numberAt⟩, 12, _, TX12, 45, rfl, rfl⟩)⟩
theorem ck_RX12_417_1984 : COK2 RX12 vwCl gTbl 417 0 con_1984 := ⟨wd_2061, wd_137, mh_X12_numberAt, .inr (.inr ⟨rfl, wd_2058, wd_2060, wd_114, ⟨_, rfl, pd_X12_numberAt⟩, 12, _, TX12, 45, rfl, rfl⟩)⟩
theorem ck_RX12_417_1987 : COK2 RX12 vwCl gTbl 417 0 con_1987 := ⟨wd_2061, wd_137, mh_X12_numberAt, .inr (.inr ⟨rfl, wd_2058, wd_2060, wd_114, ⟨_, rfl, pd_X12_numberAt⟩, 12, _, TX12, 45, rfl, rfl⟩)⟩
theorem ck_RX12_417_1990 : COK2 RX12 vwCl gTbl 417 0 con_1990 := ⟨wd_2061, wd_137, mh_X12_numberAt, .inr (.inr ⟨rfl, wd_2058, wd_2060, wd_114, ⟨_, rfl, pd_X12_numberAt⟩, 12, _, TX12, 45, rfl, rfl⟩)⟩
theorem ck_RX12_417_1993 : COK2 RX12 vwCl gTbl 417 0 con_1993 := ⟨wd_2061, wd_137, mh_X12_numberAt, .inr (.inr ⟨rfl, wd_2058, wd_2060, wd_114, ⟨_, rfl, pd_X12_numberAt⟩, 12, _, TX12, 45, rfl, rfl⟩)⟩
theorem ck_RX12_369_1934 : COK2 RX12 vwCl gTbl 369 0 con_1934 := ⟨wd_1902, wd_137, mh_X12_isDay, .inr (.inr ⟨rfl, wd_1899, wd_1901, wd_101, ⟨_, rfl, pd_X12_isDay⟩, 12, _, TX12, 45, rfl, rfl⟩)⟩
theorem ck_RX12_417_1933 : COK2 RX12 vwCl gTbl 417 0 con_1933 := ⟨wd_2061, wd_137, mh_X12_numberAt, .inr (.inr ⟨rfl, wd_2058, wd_2060, wd_114, ⟨_, rfl, pd_X12_numberAt⟩, 12, _, TX12, 45, rfl, rfl⟩)⟩
theorem ck_RX12_417_1938 : COK2 RX12 vwCl gTbl 417 0 con_1938 := ⟨wd_2061, wd_137, mh_X12_numberAt, .inr (.inr ⟨rfl, wd_2058, wd_2060, wd_114, ⟨_, rfl, pd_X12_numberAt⟩, 12, _, TX12, 45, rfl, rfl⟩)⟩
theorem ck_RX12_417_1941 : COK2 RX12 vwCl gTbl 417 0 con_1941 := ⟨wd_2061, wd_137, mh_X12_numberAt, .inr (.inr ⟨rfl, wd_2058, wd_2060, wd_114, ⟨_, rfl, pd_X12_numberAt⟩, 12, _, TX12, 45, rfl, rfl⟩)⟩
theorem ck_RX12_417_1944 : COK2 RX12 vwCl gTbl 417 0 con_1944 := ⟨wd_2061, wd_137, mh_X12_numberAt, .inr (.inr ⟨rfl, wd_2058, wd_2060, wd_114, ⟨_, rfl, pd_X12_numberAt⟩, 12, _, TX12, 45, rfl, rfl⟩)⟩
theorem ck_RX12_417_1947 : COK2 RX12 vwCl gTbl 417 0 con_1947 := ⟨wd_2061, wd_137, mh_X12_numberAt, .inr (.inr ⟨rfl, wd_2058, wd_2060, wd_114, ⟨_, rfl, pd_X12_numberAt⟩, 12, _, TX12, 45, rfl, rfl⟩)⟩
theorem ck_RX12_417_1950 : COK2 RX12 vwCl gTbl 417 0 con_1950 := ⟨wd_2061, wd_137, mh_X12_numberAt, .inr (.inr ⟨rfl, wd_2058, wd_2060, wd_114, ⟨_, rfl, pd_X12_numberAt⟩, 12, _, TX12, 45, rfl, rfl⟩)⟩
theorem ck_RX12_417_1953 : COK2 RX12 vwCl gTbl 417 0 con_1953 := ⟨wd_2061, wd_137, mh_X12_numberAt, .inr (.inr ⟨rfl, wd_2058, wd_2060, wd_114, ⟨_, rfl, pd_X12_numberAt⟩, 12, _, TX12, 45, rfl, rfl⟩)⟩
theorem ck_RX12_417_1956 : COK2 RX12 vwCl gTbl 417 0 con_1956 := ⟨wd_2061, wd_137, mh_X12_numberAt, .inr (.inr ⟨rfl, wd_2058, wd_2060, wd_114, ⟨_, rfl, pd_X12_numberAt⟩, 12, _, TX12, 45, rfl, rfl⟩)⟩
theorem ck_RX12_417_1959 : COK2 RX12 vwCl gTbl 417 0 con_1959 := ⟨wd_2061, wd_137, mh_X12_numberAt, .inr (.inr ⟨rfl, wd_2058, wd_2060, wd_114, ⟨_, rfl, pd_X12_numberAt⟩, 12, _, TX12, 45, rfl, rfl⟩)⟩
theorem ck_RX12_417_1962 : COK2 RX12 vwCl gTbl 417 0 con_1962 := ⟨wd_2061, wd_137, mh_X12_numberAt, .inr (.inr ⟨rfl, wd_2058, wd_2060, wd_114, ⟨_, rfl, pd_X12_numberAt⟩, 12, _, TX12, 45, rfl, rfl⟩)⟩
theorem ck_RX12_417_1965 : COK2 RX12 vwCl gTbl 417 0 con_1965 := ⟨wd_2061, wd_137, mh_X12_numberAt, .inr (.inr ⟨rfl, wd_2058, wd_2060, wd_114, ⟨_, rfl, pd_X12_numberAt⟩, 12, _, TX12, 45, rfl, rfl⟩)⟩
theorem ck_RX12_417_1968 : COK2 RX12 vwCl gTbl 417 0 con_1968 := ⟨wd_2061, wd_137, mh_X12_numberAt, .inr (.inr ⟨rfl, wd_2058, wd_2060, wd_114, ⟨_, rfl, pd_X12_numberAt⟩, 12, _, TX12, 45, rfl, rfl⟩)⟩
theorem ck_RX12_417_1971 : COK2 RX12 vwCl gTbl 417 0 con_1971 := ⟨wd_2061, wd_137, mh_X12_numberAt, .inr (.inr ⟨rfl, wd_2058, wd_2060, wd_114, ⟨_, rfl, pd_X12_numberAt⟩, 12, _, TX12, 45, rfl, rfl⟩)⟩
theorem ck_RX12_417_1974 : COK2 RX12 vwCl gTbl 417 0 con_1974 := ⟨wd_2061, wd_137, mh_X12_numberAt, .inr (.inr ⟨rfl, wd_2058, wd_2060, wd_114, ⟨_, rfl, pd_X12_numberAt⟩, 12, _, TX12, 45, rfl, rfl⟩)⟩
theorem ck_RX12_417_1977 : COK2 RX12 vwCl gTbl 417 0 con_1977 := ⟨wd_2061, wd_137, mh_X12_numberAt, .inr (.inr ⟨rfl, wd_2058, wd_2060, wd_114, ⟨_, rfl, pd_X12_numberAt⟩, 12, _, TX12, 45, rfl, rfl⟩)⟩
theorem ck_RX12_417_1980 : COK2 RX12 vwCl gTbl 417 0 con_1980 := ⟨wd_2061, wd_137, mh_X12_numberAt, .inr (.inr ⟨rfl, wd_2058, wd_2060, wd_114, ⟨_, rfl, pd_X12_numberAt⟩, 12, _, TX12, 45, rfl, rfl⟩)⟩
theorem ck_RX12_417_1983 : COK2 RX12 vwCl gTbl 417 0 con_1983 := ⟨wd_2061, wd_137, mh_X12_numberAt, .inr (.inr ⟨rfl, wd_2058, wd_2060, wd_114, ⟨_, rfl, pd_X12_numberAt⟩, 12, _, TX12, 45, rfl, rfl⟩)⟩
theorem ck_RX12_417_1986 : COK2 RX12 vwCl gTbl 417 0 con_1986 := ⟨wd_2061, wd_137, mh_X12_numberAt, .inr (.inr ⟨rfl, wd_2058, wd_2060, wd_114, ⟨_, rfl, pd_X12_numberAt⟩, 12, _, TX12, 45, rfl, rfl⟩)⟩
theorem ck_RX12_417_1989 : COK2 RX12 vwCl gTbl 417 0 con_1989 := ⟨wd_2061, wd_137, mh_X12_numberAt, .inr (.inr ⟨rfl, wd_2058, wd_2060, wd_114, ⟨_, rfl, pd_X12_numberAt⟩, 12, _, TX12, 45, rfl, rfl⟩)⟩
theorem ck_RX12_417_1992 : COK2 RX12 vwCl gTbl 417 0 con_1992 := ⟨wd_2061, wd_137, mh_X12_numberAt, .inr (.inr ⟨rfl, wd_2058, wd_2060, wd_114, ⟨_, rfl, pd_X12_numberAt⟩, 12, _, TX12, 45, rfl, rfl⟩)⟩
theorem ck_RX12_109_1932 : COK2 RX12 vwCl gTbl 109 0 con_1932 := ⟨wd_1656, wd_137, mh_X12_isField, .inr (.inr ⟨rfl, wd_1653, wd_1655, wd_66, ⟨_, rfl, pd_X12_isField⟩, 12, _, TX12, 45, rfl, rfl⟩)⟩
theorem ck_RX12_417_1931 : COK2 RX12 vwCl gTbl 417 0 con_1931 := ⟨wd_2061, wd_137, mh_X12_numberAt, .inr (.inr ⟨rfl, wd_2058, wd_2060, wd_114, ⟨_, rfl, pd_X12_numberAt⟩, 12, _, TX12, 45, rfl, rfl⟩)⟩
theorem ck_RX12_417_1937 : COK2 RX12 vwCl gTbl 417 0 con_1937 := ⟨wd_2061, wd_137, mh_X12_numberAt, .inr (.inr ⟨rfl, wd_2058, wd_2060, wd_114, ⟨_, rfl, pd_X12_numberAt⟩, 12, _, TX12, 45, rfl, rfl⟩)⟩
theorem ck_RX12_417_1940 : COK2 RX12 vwCl gTbl 417 0 con_1940 := ⟨wd_2061, wd_137, mh_X12_numberAt, .inr (.inr ⟨rfl, wd_2058, wd_2060, wd_114, ⟨_, rfl, pd_X12_numberAt⟩, 12, _, TX12, 45, rfl, rfl⟩)⟩
theorem ck_RX12_417_1943 : COK2 RX12 vwCl gTbl 417 0 con_1943 := ⟨wd_2061, wd_137, mh_X12_numberAt, .inr (.inr ⟨rfl, wd_2058, wd_2060, wd_114, ⟨_, rfl, pd_X12_numberAt⟩, 12, _, TX12, 45, rfl, rfl⟩)⟩
theorem ck_RX12_417_1946 : COK2 RX12 vwCl gTbl 417 0 con_1946 := ⟨wd_2061, wd_137, mh_X12_numberAt, .inr (.inr ⟨rfl, wd_2058, wd_2060, wd_114, ⟨_, rfl, pd_X12_numberAt⟩, 12, _, TX12, 45, rfl, rfl⟩)⟩
theorem ck_RX12_417_1949 : COK2 RX12 vwCl gTbl 417 0 con_1949 := ⟨wd_2061, wd_137, mh_X12_numberAt, .inr (.inr ⟨rfl, wd_2058, wd_2060, wd_114, ⟨_, rfl, pd_X12_numberAt⟩, 12, _, TX12, 45, rfl, rfl⟩)⟩
theorem ck_RX12_417_1952 : COK2 RX12 vwCl gTbl 417 0 con_1952 := ⟨wd_2061, wd_137, mh_X12_numberAt, .inr (.inr ⟨rfl, wd_2058, wd_2060, wd_114, ⟨_, rfl, pd_X12_numberAt⟩, 12, _, TX12, 45, rfl, rfl⟩)⟩
theorem ck_RX12_417_1955 : COK2 RX12 vwCl gTbl 417 0 con_1955 := ⟨wd_2061, wd_137, mh_X12_numberAt, .inr (.inr ⟨rfl, wd_2058, wd_2060, wd_114, ⟨_, rfl, pd_X12_numberAt⟩, 12, _, TX12, 45, rfl, rfl⟩)⟩
theorem ck_RX12_417_1958 : COK2 RX12 vwCl gTbl 417 0 con_1958 := ⟨wd_2061, wd_137, mh_X12_numberAt, .inr (.inr ⟨rfl, wd_2058, wd_2060, wd_114, ⟨_, rfl, pd_X12_numberAt⟩, 12, _, TX12, 45, rfl, rfl⟩)⟩
theorem ck_RX12_417_1961 : COK2 RX12 vwCl gTbl 417 0 con_1961 := ⟨wd_2061, wd_137, mh_X12_numberAt, .inr (.inr ⟨rfl, wd_2058, wd_2060, wd_114, ⟨_, rfl, pd_X12_numberAt⟩, 12, _, TX12, 45, rfl, rfl⟩)⟩
theorem ck_RX12_417_1964 : COK2 RX12 vwCl gTbl 417 0 con_1964 := ⟨wd_2061, wd_137, mh_X12_numberAt, .inr (.inr ⟨rfl, wd_2058, wd_2060, wd_114, ⟨_, rfl, pd_X12_numberAt⟩, 12, _, TX12, 45, rfl, rfl⟩)⟩
theorem ck_RX12_417_1967 : COK2 RX12 vwCl gTbl 417 0 con_1967 := ⟨wd_2061, wd_137, mh_X12_numberAt, .inr (.inr ⟨rfl, wd_2058, wd_2060, wd_114, ⟨_, rfl, pd_X12_numberAt⟩, 12, _, TX12, 45, rfl, rfl⟩)⟩
theorem ck_RX12_417_1970 : COK2 RX12 vwCl gTbl 417 0 con_1970 := ⟨wd_2061, wd_137, mh_X12_numberAt, .inr (.inr ⟨rfl, wd_2058, wd_2060, wd_114, ⟨_, rfl, pd_X12_numberAt⟩, 12, _, TX12, 45, rfl, rfl⟩)⟩
theorem ck_RX12_417_1973 : COK2 RX12 vwCl gTbl 417 0 con_1973 := ⟨wd_2061, wd_137, mh_X12_numberAt, .inr (.inr ⟨rfl, wd_2058, wd_2060, wd_114, ⟨_, rfl, pd_X12_numberAt⟩, 12, _, TX12, 45, rfl, rfl⟩)⟩
theorem ck_RX12_417_1976 : COK2 RX12 vwCl gTbl 417 0 con_1976 := ⟨wd_2061, wd_137, mh_X12_numberAt, .inr (.inr ⟨rfl, wd_2058, wd_2060, wd_114, ⟨_, rfl, pd_X12_numberAt⟩, 12, _, TX12, 45, rfl, rfl⟩)⟩
theorem ck_RX12_417_1979 : COK2 RX12 vwCl gTbl 417 0 con_1979 := ⟨wd_2061, wd_137, mh_X12_numberAt, .inr (.inr ⟨rfl, wd_2058, wd_2060, wd_114, ⟨_, rfl, pd_X12_numberAt⟩, 12, _, TX12, 45, rfl, rfl⟩)⟩
theorem ck_RX12_417_1982 : COK2 RX12 vwCl gTbl 417 0 con_1982 := ⟨wd_2061, wd_137, mh_X12_numberAt, .inr (.inr ⟨rfl, wd_2058, wd_2060, wd_114, ⟨_, rfl, pd_X12_numberAt⟩, 12, _, TX12, 45, rfl, rfl⟩)⟩
theorem ck_RX12_417_1985 : COK2 RX12 vwCl gTbl 417 0 con_1985 := ⟨wd_2061, wd_137, mh_X12_numberAt, .inr (.inr ⟨rfl, wd_2058, wd_2060, wd_114, ⟨_, rfl, pd_X12_numberAt⟩, 12, _, TX12, 45, rfl, rfl⟩)⟩
theorem ck_RX12_417_1988 : COK2 RX12 vwCl gTbl 417 0 con_1988 := ⟨wd_2061, wd_137, mh_X12_numberAt, .inr (.inr ⟨rfl, wd_2058, wd_2060, wd_114, ⟨_, rfl, pd_X12_numberAt⟩, 12, _, TX12, 45, rfl, rfl⟩)⟩
theorem ck_RX12_417_1991 : COK2 RX12 vwCl gTbl 417 0 con_1991 := ⟨wd_2061, wd_137, mh_X12_numberAt, .inr (.inr ⟨rfl, wd_2058, wd_2060, wd_114, ⟨_, rfl, pd_X12_numberAt⟩, 12, _, TX12, 45, rfl, rfl⟩)⟩
theorem ck_RX12_414_1930 : COK2 RX12 vwCl gTbl 414 1 con_1930 := ⟨wd_2057, wd_137, mh_X12_isSlot, .inl ⟨rfl, wd_2055, wd_2056, pd_X12_isSlot⟩⟩
noncomputable def ct_1994 : CTB2 := [(1, 414, 1, con_1930, []), (10, 109, 0, con_647, [0, 1]), (62, 417, 0, con_1991, [0, 3]), (62, 417, 0, con_1988, [0, 3]), (62, 417, 0, con_1985, [0, 3]), (62, 417, 0, con_1982, [0, 3]), (62, 417, 0, con_1979, [0, 3]), (62, 417, 0, con_1976, [0, 3]), (62, 417, 0, con_1973, [0, 3]), (62, 417, 0, con_1970, [0, 3]), (62, 417, 0, con_1967, [0, 3]), (62, 417, 0, con_1964, [0, 3]), (62, 417, 0, con_1961, [0, 3]), (62, 417, 0, con_1958, [0, 3]), (62, 417, 0, con_1955, [0, 3]), (62, 417, 0, con_1952, [0, 3]), (62, 417, 0, con_1949, [0, 3]), (62, 417, 0, con_1946, [0, 3]), (62, 417, 0, con_1943, [0, 3]), (62, 417, 0, con_1940, [0, 3]), (62, 417, 0, con_1937, [0, 3]), (62, 417, 0, con_1931, [0, 3]), (65, 109, 0, con_1932, [0, 1]), (77, 417, 0, con_1992, [0, 3]), (77, 417, 0, con_1989, [0, 3]), (77, 417, 0, con_1986, [0, 3]), (77, 417, 0, con_1983, [0, 3]), (77, 417, 0, con_1980, [0, 3]), (77, 417, 0, con_1977, [0, 3]), (77, 417, 0, con_1974, [0, 3]), (77, 417, 0, con_1971, [0, 3]), (77, 417, 0, con_1968, [0, 3]), (77, 417, 0, con_1965, [0, 3]), (77, 417, 0, con_1962, [0, 3]), (77, 417, 0, con_1959, [0, 3]), (77, 417, 0, con_1956, [0, 3]), (77, 417, 0, con_1953, [0, 3]), (77, 417, 0, con_1950, [0, 3]), (77, 417, 0, con_1947, [0, 3]), (77, 417, 0, con_1944, [0, 3]), (77, 417, 0, con_1941, [0, 3]), (77, 417, 0, con_1938, [0, 3]), (77, 417, 0, con_1933, [0, 3]), (80, 369, 0, con_1934, [0, 1]), (91, 417, 0, con_1993, [0, 3]), (91, 417, 0, con_1990, [0, 3]), (91, 417, 0, con_1987, [0, 3]), (91, 417, 0, con_1984, [0, 3]), (91, 417, 0, con_1981, [0, 3]), (91, 417, 0, con_1978, [0, 3]), (91, 417, 0, con_1975, [0, 3]), (91, 417, 0, con_1972, [0, 3]), (91, 417, 0, con_1969, [0, 3]), (91, 417, 0, con_1966, [0, 3]), (91, 417, 0, con_1963, [0, 3]), (91, 417, 0, con_1960, [0, 3]), (91, 417, 0, con_1957, [0, 3]), (91, 417, 0, con_1954, [0, 3]), (91, 417, 0, con_1951, [0, 3]), (91, 417, 0, con_1948, [0, 3]), (91, 417, 0, con_1945, [0, 3]), (91, 417, 0, con_1942, [0, 3]), (91, 417, 0, con_1939, [0, 3]), (91, 417, 0, con_1935, [0, 3]), (98, 91, 1, con_1936, [])]
noncomputable def gi_1830 : GI := jl_n [gp_739, gp_426, jl_r 60 (jl_u), jl_z 4]
noncomputable def gi_1831 : GI := jl_n [gp_743, jl_i 1 60, gp_452, jl_z 4]
noncomputable def gi_1832 : GI := jl_n [gp_743, jl_i 4 60, gp_484, jl_z 4]
noncomputable def gi_1833 : GI := jl_n [gp_743, jl_i 7 60, gp_488, jl_z 4]
noncomputable def gi_1834 : GI := jl_n [gp_743, jl_i 10 60, gp_435, jl_z 4]
noncomputable def gi_1835 : GI := jl_n [gp_743, jl_i 13 60, gp_438, jl_z 4]
noncomputable def gi_1836 : GI := jl_n [gp_743, jl_i 16 60, gp_441, jl_z 4]
noncomputable def gi_1837 : GI := jl_n [gp_743, jl_i 19 60, gp_444, jl_z 4]
noncomputable def gi_1838 : GI := jl_n [gp_743, jl_i 22 60, gp_447, jl_z 4]
noncomputable def gi_1839 : GI := jl_n [gp_743, jl_i 25 60, gp_450, jl_z 4]
noncomputable def gi_1840 : GI := jl_n [gp_743, jl_i 28 60, gp_455, jl_z 4]
noncomputable def gi_1841 : GI := jl_n [gp_743, jl_i 31 60, gp_458, jl_z 4]
noncomputable def gi_1842 : GI := jl_n [gp_743, jl_i 34 60, gp_461, jl_z 4]
noncomputable def gi_1843 : GI := jl_n [gp_743, jl_i 37 60, gp_464, jl_z 4]
noncomputable def gi_1844 : GI := jl_n [gp_743, jl_i 40 60, gp_467, jl_z 4]
noncomputable def gi_1845 : GI := jl_n [gp_743, jl_i 43 60, gp_470, jl_z 4]
noncomputable def gi_1846 : GI := jl_n [gp_743, jl_i 46 60, gp_473, jl_z 4]
noncomputable def gi_1847 : GI := jl_n [gp_743, jl_i 49 60, gp_476, jl_z 4]
noncomputable def gi_1848 : GI := jl_n [gp_743, jl_i 52 60, gp_479, jl_z 4]
noncomputable def gi_1849 : GI := jl_n [gp_743, jl_i 55 60, gp_745]
noncomputable def gi_1850 : GI := jl_n [gp_743, gp_487, jl_z 4]
noncomputable def cu_1994_0 : List CUT2 := [((48, [lq 0 6 0, lq 1 0 3, lq 2 1 2, lq 3 0 0], [], gi_1830, hq_914), [], ([], 60)), ((48, [lq 0 6 0, lq 1 0 3, lq 2 1 2, lq 3 0 3], [], gi_1831, hq_914), [], ([], 57)), ((48, [lq 0 6 0, lq 1 0 3, lq 2 1 2, lq 3 0 6], [], gi_1832, hq_914), [], ([], 54)), ((48, [lq 0 6 0, lq 1 0 3, lq 2 1 2, lq 3 0 9], [], gi_1833, hq_914), [], ([], 51)), ((48, [lq 0 6 0, lq 1 0 3, lq 2 1 2, lq 3 0 12], [], gi_1834, hq_914), [], ([], 48)), ((48, [lq 0 6 0, lq 1 0 3, lq 2 1 2, lq 3 0 15], [], gi_1835, hq_914), [], ([], 45)), ((48, [lq 0 6 0, lq 1 0 3, lq 2 1 2, lq 3 0 18], [], gi_1836, hq_914), [], ([], 42)), ((48, [lq 0 6 0, lq 1 0 3, lq 2 1 2, lq 3 0 21], [], gi_1837, hq_914), [], ([], 39)), ((48, [lq 0 6 0, lq 1 0 3, lq 2 1 2, lq 3 0 24], [], gi_1838, hq_914), [], ([], 36)), ((48, [lq 0 6 0, lq 1 0 3, lq 2 1 2, lq 3 0 27], [], gi_1839, hq_914), [], ([], 33)), ((48, [lq 0 6 0, lq 1 0 3, lq 2 1 2, lq 3 0 30], [], gi_1840, hq_914), [], ([], 30)), ((48, [lq 0 6 0, lq 1 0 3, lq 2 1 2, lq 3 0 33], [], gi_1841, hq_914), [], ([], 27)), ((48, [lq 0 6 0, lq 1 0 3, lq 2 1 2, lq 3 0 36], [], gi_1842, hq_914), [], ([], 24))]
noncomputable def cu_1994_1 : List CUT2 := [((48, [lq 0 6 0, lq 1 0 3, lq 2 1 2, lq 3 0 39], [], gi_1843, hq_914), [], ([], 21)), ((48, [lq 0 6 0, lq 1 0 3, lq 2 1 2, lq 3 0 42], [], gi_1844, hq_914), [], ([], 18)), ((48, [lq 0 6 0, lq 1 0 3, lq 2 1 2, lq 3 0 45], [], gi_1845, hq_914), [], ([], 15)), ((48, [lq 0 6 0, lq 1 0 3, lq 2 1 2, lq 3 0 48], [], gi_1846, hq_914), [], ([], 12)), ((48, [lq 0 6 0, lq 1 0 3, lq 2 1 2, lq 3 0 51], [], gi_1847, hq_914), [], ([], 9)), ((48, [lq 0 6 0, lq 1 0 3, lq 2 1 2, lq 3 0 54], [], gi_1848, hq_914), [], ([], 6)), ((48, [lq 0 6 0, lq 1 0 3, lq 2 1 2, lq 3 0 57], [], gi_1849, hq_914), [], ([], 3)), ((48, [lq 0 6 0, lq 1 0 3, lq 2 1 2, lq 3 0 60], [], gi_1850, hq_914), [], ([], 0))]
noncomputable def cu_1994 : List CUT2 := cu_1994_0 ++ (cu_1994_1)
theorem ch_1994 : staG tb_X12_askSeen 1 bt_RX12 [] ct_1994 [] [] cu_1994 37 con_1994 = true := by decide +kernel
theorem cc_1994_0 : cu_1994_0.all (cutG tb_X12_askSeen 1 bt_RX12 [] ct_1994 [] [] cu_1994 37 con_1994) = true := by decide +kernel
theorem cc_1994_1 : cu_1994_1.all (cutG tb_X12_askSeen 1 bt_RX12 [] ct_1994 [] [] cu_1994 37 con_1994) = true := by decide +kernel
theorem cto_1994 (l : Launch) : CTOK2 l RX12 vwCl gTbl ct_1994 := ct2_cons (vl_1930 l) ck_RX12_414_1930 (ct2_cons (vl_647 l) ck_RX12_109_647 (ct2_cons (vl_1991 l) ck_RX12_417_1991 (ct2_cons (vl_1988 l) ck_RX12_417_1988 (ct2_cons (vl_1985 l) ck_RX12_417_1985 (ct2_cons (vl_1982 l) ck_RX12_417_1982 (ct2_cons (vl_1979 l) ck_RX12_417_1979 (ct2_cons (vl_1976 l) ck_RX12_417_1976 (ct2_cons (vl_1973 l) ck_RX12_417_1973 (ct2_cons (vl_1970 l) ck_RX12_417_1970 (ct2_cons (vl_1967 l) ck_RX12_417_1967 (ct2_cons (vl_1964 l) ck_RX12_417_1964 (ct2_cons (vl_1961 l) ck_RX12_417_1961 (ct2_cons (vl_1958 l) ck_RX12_417_1958 (ct2_cons (vl_1955 l) ck_RX12_417_1955 (ct2_cons (vl_1952 l) ck_RX12_417_1952 (ct2_cons (vl_1949 l) ck_RX12_417_1949 (ct2_cons (vl_1946 l) ck_RX12_417_1946 (ct2_cons (vl_1943 l) ck_RX12_417_1943 (ct2_cons (vl_1940 l) ck_RX12_417_1940 (ct2_cons (vl_1937 l) ck_RX12_417_1937 (ct2_cons (vl_1931 l) ck_RX12_417_1931 (ct2_cons (vl_1932 l) ck_RX12_109_1932 (ct2_cons (vl_1992 l) ck_RX12_417_1992 (ct2_cons (vl_1989 l) ck_RX12_417_1989 (ct2_cons (vl_1986 l) ck_RX12_417_1986 (ct2_cons (vl_1983 l) ck_RX12_417_1983 (ct2_cons (vl_1980 l) ck_RX12_417_1980 (ct2_cons (vl_1977 l) ck_RX12_417_1977 (ct2_cons (vl_1974 l) ck_RX12_417_1974 (ct2_cons (vl_1971 l) ck_RX12_417_1971 (ct2_cons (vl_1968 l) ck_RX12_417_1968 (ct2_cons (vl_1965 l) ck_RX12_417_1965 (ct2_cons (vl_1962 l) ck_RX12_417_1962 (ct2_cons (vl_1959 l) ck_RX12_417_1959 (ct2_cons (vl_1956 l) ck_RX12_417_1956 (ct2_cons (vl_1953 l) ck_RX12_417_1953 (ct2_cons (vl_1950 l) ck_RX12_417_1950 (ct2_cons (vl_1947 l) ck_RX12_417_1947 (ct2_cons (vl_1944 l) ck_RX12_417_1944 (ct2_cons (vl_1941 l) ck_RX12_417_1941 (ct2_cons (vl_1938 l) ck_RX12_417_1938 (ct2_cons (vl_1933 l) ck_RX12_417_1933 (ct2_cons (vl_1934 l) ck_RX12_369_1934 (ct2_cons (vl_1993 l) ck_RX12_417_1993 (ct2_cons (vl_1990 l) ck_RX12_417_1990 (ct2_cons (vl_1987 l) ck_RX12_417_1987 (ct2_cons (vl_1984 l) ck_RX12_417_1984 (ct2_cons (vl_1981 l) ck_RX12_417_1981 (ct2_cons (vl_1978 l) ck_RX12_417_1978 (ct2_cons (vl_1975 l) ck_RX12_417_1975 (ct2_cons (vl_1972 l) ck_RX12_417_1972 (ct2_cons (vl_1969 l) ck_RX12_417_1969 (ct2_cons (vl_1966 l) ck_RX12_417_1966 (ct2_cons (vl_1963 l) ck_RX12_417_1963 (ct2_cons (vl_1960 l) ck_RX12_417_1960 (ct2_cons (vl_1957 l) ck_RX12_417_1957 (ct2_cons (vl_1954 l) ck_RX12_417_1954 (ct2_cons (vl_1951 l) ck_RX12_417_1951 (ct2_cons (vl_1948 l) ck_RX12_417_1948 (ct2_cons (vl_1945 l) ck_RX12_417_1945 (ct2_cons (vl_1942 l) ck_RX12_417_1942 (ct2_cons (vl_1939 l) ck_RX12_417_1939 (ct2_cons (vl_1935 l) ck_RX12_417_1935 (ct2_cons (vl_1936 l) ck_RX12_91_1936 (ct2_nil)))))))))))))))))))))))))))))))))))))))))))))))))))))))))))))))))
theorem vl_1994 (l : Launch) : Vld2 l vwCl gTbl con_1994 := conR_ok3 gT_all (hd_1994) rfl pn_RX12 tk_X12_askSeen bo_RX12 xo_RX12 (cto_1994 l) ch_1994 (cut_app (cut_all cc_1994_0) (cut_all cc_1994_1))
/-- RookHustingModel numberAt -/
noncomputable def gi_1851 : GI := jl_n [jl_z 48, jl_i 0 16]
noncomputable def gi_1852 : GI := jl_n [jl_z 48, gp_361]
noncomputable def con_1996 : Con2 := ((yX12_numberAt, cX12_numberAt, 3, (some .long)), (0, 0), ([(6, 0, 0), (0, 3, 0), (0, 1, 0)], gi_1851, [ac_1100, ac_1102], []), [((4, 48, 0), gi_1852, [(false, ac_1100), (false, ac_1102)], [], [1])])
theorem hd_1996 : con_1996.1 = (yX12_numberAt, cX12_numberAt, 3, (some .long)) := rfl
noncomputable def cu_1996 : List CUT2 := []
theorem ch_1996 : staG tb_X12_numberAt 1 bt_RX12 [] ct_2 [] [] cu_1996 11 con_1996 = true := by decide +kernel
theorem vl_1996 (l : Launch) : Vld2 l vwCl gTbl con_1996 := conR_ok3 gT_all (hd_1996) rfl pn_RX12 tk_X12_numberAt bo_RX12 xo_RX12 (cto_2 l) ch_1996 cut_nil
/-- RookHustingModel numberAt -/
noncomputable def gi_1853 : GI := jl_n [jl_z 48, jl_i 0 4]
noncomputable def gi_1854 : GI := jl_n [jl_z 48, gp_94]
noncomputable def con_1997 : Con2 := ((yX12_numberAt, cX12_numberAt, 3, (some .long)), (0, 0), ([(6, 0, 0), (0, 3, 0), (0, 0, 0)], gi_1853, [ac_1100, ac_1101], []), [((4, 48, 0), gi_1854, [(false, ac_1100), (false, ac_1101)], [], [1])])
theorem hd_1997 : con_1997.1 = (yX12_numberAt, cX12_numberAt, 3, (some .long)) := rfl
noncomputable def cu_1997 : List CUT2 := []
theorem ch_1997 : staG tb_X12_numberAt 1 bt_RX12 [] ct_2 [] [] cu_1997 11 con_1997 = true := by decide +kernel
theorem vl_1997 (l : Launch) : Vld2 l vwCl gTbl con_1997 := conR_ok3 gT_all (hd_1997) rfl pn_RX12 tk_X12_numberAt bo_RX12 xo_RX12 (cto_2 l) ch_1997 cut_nil
/-- RookHustingModel numberAt -/
noncomputable def gi_1855 : GI := jl_n [jl_z 48, jl_i 0 250]
noncomputable def gi_1856 : GI := jl_n [jl_z 48, jl_i 0 250, jl_z 1]
noncomputable def con_1998 : Con2 := ((yX12_numberAt, cX12_numberAt, 3, (some .long)), (0, 0), ([(6, 0, 0), (0, 3, 0), (0, 2, 0)], gi_1855, [ac_1100, ac_1103], []), [((4, 48, 0), gi_1856, [(false, ac_1100), (false, ac_1103)], [], [1])])
theorem hd_1998 : con_1998.1 = (yX12_numberAt, cX12_numberAt, 3, (some .long)) := rfl
noncomputable def cu_1998 : List CUT2 := []
theorem ch_1998 : staG tb_X12_numberAt 1 bt_RX12 [] ct_2 [] [] cu_1998 11 con_1998 = true := by decide +kernel
theorem vl_1998 (l : Launch) : Vld2 l vwCl gTbl con_1998 := conR_ok3 gT_all (hd_1998) rfl pn_RX12 tk_X12_numberAt bo_RX12 xo_RX12 (cto_2 l) ch_1998 cut_nil
/-- RookHustingModel numberAt -/
noncomputable def con_1999 : Con2 := ((yX12_numberAt, cX12_numberAt, 3, (some .long)), (0, 0), ([(6, 0, 0), (0, 3, 0), (0, 4, 0)], gi_1851, [ac_1100, ac_1105], []), [((4, 48, 0), gi_1852, [(false, ac_1100), (false, ac_1105)], [], [1])])
theorem hd_1999 : con_1999.1 = (yX12_numberAt, cX12_numberAt, 3, (some .long)) := rfl
noncomputable def cu_1999 : List CUT2 := []
theorem ch_1999 : staG tb_X12_numberAt 1 bt_RX12 [] ct_2 [] [] cu_1999 11 con_1999 = true := by decide +kernel
theorem vl_1999 (l : Launch) : Vld2 l vwCl gTbl con_1999 := conR_ok3 gT_all (hd_1999) rfl pn_RX12 tk_X12_numberAt bo_RX12 xo_RX12 (cto_2 l) ch_1999 cut_nil
/-- RookHustingModel numberAt -/
noncomputable def con_2000 : Con2 := ((yX12_numberAt, cX12_numberAt, 3, (some .long)), (0, 0), ([(6, 0, 0), (0, 3, 0), (0, 3, 0)], gi_1853, [ac_1100, ac_1104], []), [((4, 48, 0), gi_1854, [(false, ac_1100), (false, ac_1104)], [], [1])])
theorem hd_2000 : con_2000.1 = (yX12_numberAt, cX12_numberAt, 3, (some .long)) := rfl
noncomputable def cu_2000 : List CUT2 := []
theorem ch_2000 : staG tb_X12_numberAt 1 bt_RX12 [] ct_2 [] [] cu_2000 11 con_2000 = true := by decide +kernel
theorem vl_2000 (l : Launch) : Vld2 l vwCl gTbl con_2000 := conR_ok3 gT_all (hd_2000) rfl pn_RX12 tk_X12_numberAt bo_RX12 xo_RX12 (cto_2 l) ch_2000 cut_nil
/-- RookHustingModel numberAt -/
noncomputable def con_2001 : Con2 := ((yX12_numberAt, cX12_numberAt, 3, (some .long)), (0, 0), ([(6, 0, 0), (0, 3, 0), (0, 5, 0)], gi_1855, [ac_1100, ac_1106], []), [((4, 48, 0), gi_1856, [(false, ac_1100), (false, ac_1106)], [], [1])])
theorem hd_2001 : con_2001.1 = (yX12_numberAt, cX12_numberAt, 3, (some .long)) := rfl
noncomputable def cu_2001 : List CUT2 := []
theorem ch_2001 : staG tb_X12_numberAt 1 bt_RX12 [] ct_2 [] [] cu_2001 11 con_2001 = true := by decide +kernel
theorem vl_2001 (l : Launch) : Vld2 l vwCl gTbl con_2001 := conR_ok3 gT_all (hd_2001) rfl pn_RX12 tk_X12_numberAt bo_RX12 xo_RX12 (cto_2 l) ch_2001 cut_nil
/-- RookHustingModel numberAt -/
noncomputable def con_2002 : Con2 := ((yX12_numberAt, cX12_numberAt, 3, (some .long)), (0, 0), ([(6, 0, 0), (0, 3, 0), (0, 7, 0)], gi_1851, [ac_1100, ac_1108], []), [((4, 48, 0), gi_1852, [(false, ac_1100), (false, ac_1108)], [], [1])])
theorem hd_2002 : con_2002.1 = (yX12_numberAt, cX12_numberAt, 3, (some .long)) := rfl
noncomputable def cu_2002 : List CUT2 := []
theorem ch_2002 : staG tb_X12_numberAt 1 bt_RX12 [] ct_2 [] [] cu_2002 11 con_2002 = true := by decide +kernel
theorem vl_2002 (l : Launch) : Vld2 l vwCl gTbl con_2002 := conR_ok3 gT_all (hd_2002) rfl pn_RX12 tk_X12_numberAt bo_RX12 xo_RX12 (cto_2 l) ch_2002 cut_nil
/-- RookHustingModel numberAt -/
noncomputable def con_2003 : Con2 := ((yX12_numberAt, cX12_numberAt, 3, (some .long)), (0, 0), ([(6, 0, 0), (0, 3, 0), (0, 6, 0)], gi_1853, [ac_1100, ac_1107], []), [((4, 48, 0), gi_1854, [(false, ac_1100), (false, ac_1107)], [], [1])])
theorem hd_2003 : con_2003.1 = (yX12_numberAt, cX12_numberAt, 3, (some .long)) := rfl
noncomputable def cu_2003 : List CUT2 := []
theorem ch_2003 : staG tb_X12_numberAt 1 bt_RX12 [] ct_2 [] [] cu_2003 11 con_2003 = true := by decide +kernel
theorem vl_2003 (l : Launch) : Vld2 l vwCl gTbl con_2003 := conR_ok3 gT_all (hd_2003) rfl pn_RX12 tk_X12_numberAt bo_RX12 xo_RX12 (cto_2 l) ch_2003 cut_nil
/-- RookHustingModel numberAt -/
noncomputable def con_2004 : Con2 := ((yX12_numberAt, cX12_numberAt, 3, (some .long)), (0, 0), ([(6, 0, 0), (0, 3, 0), (0, 8, 0)], gi_1855, [ac_1100, ac_1109], []), [((4, 48, 0), gi_1856, [(false, ac_1100), (false, ac_1109)], [], [1])])
theorem hd_2004 : con_2004.1 = (yX12_numberAt, cX12_numberAt, 3, (some .long)) := rfl
noncomputable def cu_2004 : List CUT2 := []
theorem ch_2004 : staG tb_X12_numberAt 1 bt_RX12 [] ct_2 [] [] cu_2004 11 con_2004 = true := by decide +kernel
theorem vl_2004 (l : Launch) : Vld2 l vwCl gTbl con_2004 := conR_ok3 gT_all (hd_2004) rfl pn_RX12 tk_X12_numberAt bo_RX12 xo_RX12 (cto_2 l) ch_2004 cut_nil
/-- RookHustingModel isSeen -/
noncomputable def gi_1857 : GI := jl_n [gp_746, gp_489]
noncomputable def ac_1162 : AC := .inl (12, jl_n [jl_8 28 26, jl_6 4 1, jl_8 43 14, jl_6 2 1, jl_8 45 1, jl_6 3 1, jl_8 47 1])
noncomputable def ac_1163 : AC := .inr (1, jl_n [js_1 51 4])
noncomputable def ac_1164 : AC := .inr (2, jl_n [js_5 180 9223372036854775807 9223372036854775807, js_4 111 60])
noncomputable def hc_215 : List AC := [ac_1162, ac_1163, ac_1164, am_0]
noncomputable def gi_1858 : GI := jl_n [gp_746, gp_489, jl_z 1]
noncomputable def hq_915 : HP := [(false, ac_1162), (false, ac_1163), (false, ac_1164), (false, am_0)]
noncomputable def con_2005 : Con2 := ((yX12_isSeen, cX12_isSeen, 3, (some .boolean)), (1, 22), ([(6, 0, 0), (0, 3, 0)], gi_1857, hc_215, []), [((0, 0, 0), gi_1858, hq_915, [], [1]), ((0, 1, 0), gi_1858, hq_915, [], [1])])
theorem hd_2005 : con_2005.1 = (yX12_isSeen, cX12_isSeen, 3, (some .boolean)) := rfl
theorem ck_RX12_417_1998 : COK2 RX12 vwCl gTbl 417 0 con_1998 := ⟨wd_2061, wd_137, mh_X12_numberAt, .inr (.inr ⟨rfl, wd_2058, wd_2060, wd_114, ⟨_, rfl, pd_X12_numberAt⟩, 12, _, TX12, 45, rfl, rfl⟩)⟩
theorem ck_RX12_417_2001 : COK2 RX12 vwCl gTbl 417 0 con_2001 := ⟨wd_2061, wd_137, mh_X12_numberAt, .inr (.inr ⟨rfl, wd_2058, wd_2060, wd_114, ⟨_, rfl, pd_X12_numberAt⟩, 12, _, TX12, 45, rfl, rfl⟩)⟩
theorem ck_RX12_417_2004 : COK2 RX12 vwCl gTbl 417 0 con_2004 := ⟨wd_2061, wd_137, mh_X12_numberAt, .inr (.inr ⟨rfl, wd_2058, wd_2060, wd_114, ⟨_, rfl, pd_X12_numberAt⟩, 12, _, TX12, 45, rfl, rfl⟩)⟩
theorem ck_RX12_417_1997 : COK2 RX12 vwCl gTbl 417 0 con_1997 := ⟨wd_2061, wd_137, mh_X12_numberAt, .inr (.inr ⟨rfl, wd_2058, wd_2060, wd_114, ⟨_, rfl, pd_X12_numberAt⟩, 12, _, TX12, 45, rfl, rfl⟩)⟩
theorem ck_RX12_417_2000 : COK2 RX12 vwCl gTbl 417 0 con_2000 := ⟨wd_2061, wd_137, mh_X12_numberAt, .inr (.inr ⟨rfl, wd_2058, wd_2060, wd_114, ⟨_, rfl, pd_X12_numberAt⟩, 12, _, TX12, 45, rfl, rfl⟩)⟩
theorem ck_RX12_417_2003 : COK2 RX12 vwCl gTbl 417 0 con_2003 := ⟨wd_2061, wd_137, mh_X12_numberAt, .inr (.inr ⟨rfl, wd_2058, wd_2060, wd_114, ⟨_, rfl, pd_X12_numberAt⟩, 12, _, TX12, 45, rfl, rfl⟩)⟩
theorem ck_RX12_417_1996 : COK2 RX12 vwCl gTbl 417 0 con_1996 := ⟨wd_2061, wd_137, mh_X12_numberAt, .inr (.inr ⟨rfl, wd_2058, wd_2060, wd_114, ⟨_, rfl, pd_X12_numberAt⟩, 12, _, TX12, 45, rfl, rfl⟩)⟩
theorem ck_RX12_417_1999 : COK2 RX12 vwCl gTbl 417 0 con_1999 := ⟨wd_2061, wd_137, mh_X12_numberAt, .inr (.inr ⟨rfl, wd_2058, wd_2060, wd_114, ⟨_, rfl, pd_X12_numberAt⟩, 12, _, TX12, 45, rfl, rfl⟩)⟩
theorem ck_RX12_417_2002 : COK2 RX12 vwCl gTbl 417 0 con_2002 := ⟨wd_2061, wd_137, mh_X12_numberAt, .inr (.inr ⟨rfl, wd_2058, wd_2060, wd_114, ⟨_, rfl, pd_X12_numberAt⟩, 12, _, TX12, 45, rfl, rfl⟩)⟩
noncomputable def ct_2005 : CTB2 := [(22, 417, 0, con_2002, [0, 2]), (22, 417, 0, con_1999, [0, 2]), (22, 417, 0, con_1996, [0, 2]), (30, 417, 0, con_2003, [0, 2]), (30, 417, 0, con_2000, [0, 2]), (30, 417, 0, con_1997, [0, 2]), (42, 417, 0, con_2004, [0, 2]), (42, 417, 0, con_2001, [0, 2]), (42, 417, 0, con_1998, [0, 2])]
noncomputable def gi_1859 : GI := jl_n [gp_746, gp_489, jl_z 3]
noncomputable def cu_2005 : List CUT2 := [((2, [lq 0 6 0, lq 1 0 3, lq 2 0 0], [], gi_1859, hq_915), [], ([], 9)), ((2, [lq 0 6 0, lq 1 0 3, lq 2 0 3], [], gi_1859, hq_915), [], ([], 6)), ((2, [lq 0 6 0, lq 1 0 3, lq 2 0 6], [], gi_1859, hq_915), [], ([], 3)), ((2, [lq 0 6 0, lq 1 0 3, lq 2 0 9], [], gi_1859, hq_915), [], ([], 0))]
theorem ch_2005 : staG tb_X12_isSeen 1 bt_RX12 [] ct_2005 [] [] cu_2005 37 con_2005 = true := by decide +kernel
theorem cc_2005 : cu_2005.all (cutG tb_X12_isSeen 1 bt_RX12 [] ct_2005 [] [] cu_2005 37 con_2005) = true := by decide +kernel
theorem cto_2005 (l : Launch) : CTOK2 l RX12 vwCl gTbl ct_2005 := ct2_cons (vl_2002 l) ck_RX12_417_2002 (ct2_cons (vl_1999 l) ck_RX12_417_1999 (ct2_cons (vl_1996 l) ck_RX12_417_1996 (ct2_cons (vl_2003 l) ck_RX12_417_2003 (ct2_cons (vl_2000 l) ck_RX12_417_2000 (ct2_cons (vl_1997 l) ck_RX12_417_1997 (ct2_cons (vl_2004 l) ck_RX12_417_2004 (ct2_cons (vl_2001 l) ck_RX12_417_2001 (ct2_cons (vl_1998 l) ck_RX12_417_1998 (ct2_nil)))))))))
theorem vl_2005 (l : Launch) : Vld2 l vwCl gTbl con_2005 := conR_ok3 gT_all (hd_2005) rfl pn_RX12 tk_X12_isSeen bo_RX12 xo_RX12 (cto_2005 l) ch_2005 (cut_all cc_2005)
/-- RookHustingModel numberAt -/
noncomputable def con_2006 : Con2 := ((yX12_numberAt, cX12_numberAt, 3, (some .long)), (0, 0), ([(6, 0, 0), (0, 3, 0), (0, 10, 0)], gi_1851, [ac_1100, ac_1111], []), [((4, 48, 0), gi_1852, [(false, ac_1100), (false, ac_1111)], [], [1])])
theorem hd_2006 : con_2006.1 = (yX12_numberAt, cX12_numberAt, 3, (some .long)) := rfl
noncomputable def cu_2006 : List CUT2 := []
theorem ch_2006 : staG tb_X12_numberAt 1 bt_RX12 [] ct_2 [] [] cu_2006 11 con_2006 = true := by decide +kernel
theorem vl_2006 (l : Launch) : Vld2 l vwCl gTbl con_2006 := conR_ok3 gT_all (hd_2006) rfl pn_RX12 tk_X12_numberAt bo_RX12 xo_RX12 (cto_2 l) ch_2006 cut_nil
/-- RookHustingModel numberAt -/
noncomputable def con_2007 : Con2 := ((yX12_numberAt, cX12_numberAt, 3, (some .long)), (0, 0), ([(6, 0, 0), (0, 3, 0), (0, 9, 0)], gi_1853, [ac_1100, ac_1110], []), [((4, 48, 0), gi_1854, [(false, ac_1100), (false, ac_1110)], [], [1])])
theorem hd_2007 : con_2007.1 = (yX12_numberAt, cX12_numberAt, 3, (some .long)) := rfl
noncomputable def cu_2007 : List CUT2 := []
theorem ch_2007 : staG tb_X12_numberAt 1 bt_RX12 [] ct_2 [] [] cu_2007 11 con_2007 = true := by decide +kernel
theorem vl_2007 (l : Launch) : Vld2 l vwCl gTbl con_2007 := conR_ok3 gT_all (hd_2007) rfl pn_RX12 tk_X12_numberAt bo_RX12 xo_RX12 (cto_2 l) ch_2007 cut_nil
/-- RookHustingModel numberAt -/
noncomputable def con_2008 : Con2 := ((yX12_numberAt, cX12_numberAt, 3, (some .long)), (0, 0), ([(6, 0, 0), (0, 3, 0), (0, 11, 0)], gi_1855, [ac_1100, ac_1112], []), [((4, 48, 0), gi_1856, [(false, ac_1100), (false, ac_1112)], [], [1])])
theorem hd_2008 : con_2008.1 = (yX12_numberAt, cX12_numberAt, 3, (some .long)) := rfl
noncomputable def cu_2008 : List CUT2 := []
theorem ch_2008 : staG tb_X12_numberAt 1 bt_RX12 [] ct_2 [] [] cu_2008 11 con_2008 = true := by decide +kernel
theorem vl_2008 (l : Launch) : Vld2 l vwCl gTbl con_2008 := conR_ok3 gT_all (hd_2008) rfl pn_RX12 tk_X12_numberAt bo_RX12 xo_RX12 (cto_2 l) ch_2008 cut_nil
/-- RookHustingModel numberAt -/
noncomputable def con_2009 : Con2 := ((yX12_numberAt, cX12_numberAt, 3, (some .long)), (0, 0), ([(6, 0, 0), (0, 3, 0), (0, 13, 0)], gi_1851, [ac_1100, ac_1114], []), [((4, 48, 0), gi_1852, [(false, ac_1100), (false, ac_1114)], [], [1])])
theorem hd_2009 : con_2009.1 = (yX12_numberAt, cX12_numberAt, 3, (some .long)) := rfl
noncomputable def cu_2009 : List CUT2 := []
theorem ch_2009 : staG tb_X12_numberAt 1 bt_RX12 [] ct_2 [] [] cu_2009 11 con_2009 = true := by decide +kernel
theorem vl_2009 (l : Launch) : Vld2 l vwCl gTbl con_2009 := conR_ok3 gT_all (hd_2009) rfl pn_RX12 tk_X12_numberAt bo_RX12 xo_RX12 (cto_2 l) ch_2009 cut_nil
/-- RookHustingModel numberAt -/
noncomputable def con_2010 : Con2 := ((yX12_numberAt, cX12_numberAt, 3, (some .long)), (0, 0), ([(6, 0, 0), (0, 3, 0), (0, 12, 0)], gi_1853, [ac_1100, ac_1113], []), [((4, 48, 0), gi_1854, [(false, ac_1100), (false, ac_1113)], [], [1])])
theorem hd_2010 : con_2010.1 = (yX12_numberAt, cX12_numberAt, 3, (some .long)) := rfl
noncomputable def cu_2010 : List CUT2 := []
theorem ch_2010 : staG tb_X12_numberAt 1 bt_RX12 [] ct_2 [] [] cu_2010 11 con_2010 = true := by decide +kernel
theorem vl_2010 (l : Launch) : Vld2 l vwCl gTbl con_2010 := conR_ok3 gT_all (hd_2010) rfl pn_RX12 tk_X12_numberAt bo_RX12 xo_RX12 (cto_2 l) ch_2010 cut_nil
/-- RookHustingModel numberAt -/
noncomputable def con_2011 : Con2 := ((yX12_numberAt, cX12_numberAt, 3, (some .long)), (0, 0), ([(6, 0, 0), (0, 3, 0), (0, 14, 0)], gi_1855, [ac_1100, ac_1115], []), [((4, 48, 0), gi_1856, [(false, ac_1100), (false, ac_1115)], [], [1])])
theorem hd_2011 : con_2011.1 = (yX12_numberAt, cX12_numberAt, 3, (some .long)) := rfl
noncomputable def cu_2011 : List CUT2 := []
theorem ch_2011 : staG tb_X12_numberAt 1 bt_RX12 [] ct_2 [] [] cu_2011 11 con_2011 = true := by decide +kernel
theorem vl_2011 (l : Launch) : Vld2 l vwCl gTbl con_2011 := conR_ok3 gT_all (hd_2011) rfl pn_RX12 tk_X12_numberAt bo_RX12 xo_RX12 (cto_2 l) ch_2011 cut_nil
/-- RookHustingModel numberAt -/
noncomputable def con_2012 : Con2 := ((yX12_numberAt, cX12_numberAt, 3, (some .long)), (0, 0), ([(6, 0, 0), (0, 3, 0), (0, 16, 0)], gi_1851, [ac_1100, ac_1117], []), [((4, 48, 0), gi_1852, [(false, ac_1100), (false, ac_1117)], [], [1])])
theorem hd_2012 : con_2012.1 = (yX12_numberAt, cX12_numberAt, 3, (some .long)) := rfl
noncomputable def cu_2012 : List CUT2 := []
theorem ch_2012 : staG tb_X12_numberAt 1 bt_RX12 [] ct_2 [] [] cu_2012 11 con_2012 = true := by decide +kernel
theorem vl_2012 (l : Launch) : Vld2 l vwCl gTbl con_2012 := conR_ok3 gT_all (hd_2012) rfl pn_RX12 tk_X12_numberAt bo_RX12 xo_RX12 (cto_2 l) ch_2012 cut_nil
/-- RookHustingModel numberAt -/
noncomputable def con_2013 : Con2 := ((yX12_numberAt, cX12_numberAt, 3, (some .long)), (0, 0), ([(6, 0, 0), (0, 3, 0), (0, 15, 0)], gi_1853, [ac_1100, ac_1116], []), [((4, 48, 0), gi_1854, [(false, ac_1100), (false, ac_1116)], [], [1])])
theorem hd_2013 : con_2013.1 = (yX12_numberAt, cX12_numberAt, 3, (some .long)) := rfl
noncomputable def cu_2013 : List CUT2 := []
theorem ch_2013 : staG tb_X12_numberAt 1 bt_RX12 [] ct_2 [] [] cu_2013 11 con_2013 = true := by decide +kernel
theorem vl_2013 (l : Launch) : Vld2 l vwCl gTbl con_2013 := conR_ok3 gT_all (hd_2013) rfl pn_RX12 tk_X12_numberAt bo_RX12 xo_RX12 (cto_2 l) ch_2013 cut_nil
/-- RookHustingModel numberAt -/
noncomputable def con_2014 : Con2 := ((yX12_numberAt, cX12_numberAt, 3, (some .long)), (0, 0), ([(6, 0, 0), (0, 3, 0), (0, 17, 0)], gi_1855, [ac_1100, ac_1118], []), [((4, 48, 0), gi_1856, [(false, ac_1100), (false, ac_1118)], [], [1])])
theorem hd_2014 : con_2014.1 = (yX12_numberAt, cX12_numberAt, 3, (some .long)) := rfl
noncomputable def cu_2014 : List CUT2 := []
theorem ch_2014 : staG tb_X12_numberAt 1 bt_RX12 [] ct_2 [] [] cu_2014 11 con_2014 = true := by decide +kernel
theorem vl_2014 (l : Launch) : Vld2 l vwCl gTbl con_2014 := conR_ok3 gT_all (hd_2014) rfl pn_RX12 tk_X12_numberAt bo_RX12 xo_RX12 (cto_2 l) ch_2014 cut_nil
/-- RookHustingModel numberAt -/
noncomputable def con_2015 : Con2 := ((yX12_numberAt, cX12_numberAt, 3, (some .long)), (0, 0), ([(6, 0, 0), (0, 3, 0), (0, 19, 0)], gi_1851, [ac_1100, ac_1120], []), [((4, 48, 0), gi_1852, [(false, ac_1100), (false, ac_1120)], [], [1])])
theorem hd_2015 : con_2015.1 = (yX12_numberAt, cX12_numberAt, 3, (some .long)) := rfl
noncomputable def cu_2015 : List CUT2 := []
theorem ch_2015 : staG tb_X12_numberAt 1 bt_RX12 [] ct_2 [] [] cu_2015 11 con_2015 = true := by decide +kernel
theorem vl_2015 (l : Launch) : Vld2 l vwCl gTbl con_2015 := conR_ok3 gT_all (hd_2015) rfl pn_RX12 tk_X12_numberAt bo_RX12 xo_RX12 (cto_2 l) ch_2015 cut_nil
/-- RookHustingModel numberAt -/
noncomputable def con_2016 : Con2 := ((yX12_numberAt, cX12_numberAt, 3, (some .long)), (0, 0), ([(6, 0, 0), (0, 3, 0), (0, 18, 0)], gi_1853, [ac_1100, ac_1119], []), [((4, 48, 0), gi_1854, [(false, ac_1100), (false, ac_1119)], [], [1])])
theorem hd_2016 : con_2016.1 = (yX12_numberAt, cX12_numberAt, 3, (some .long)) := rfl
noncomputable def cu_2016 : List CUT2 := []
theorem ch_2016 : staG tb_X12_numberAt 1 bt_RX12 [] ct_2 [] [] cu_2016 11 con_2016 = true := by decide +kernel
theorem vl_2016 (l : Launch) : Vld2 l vwCl gTbl con_2016 := conR_ok3 gT_all (hd_2016) rfl pn_RX12 tk_X12_numberAt bo_RX12 xo_RX12 (cto_2 l) ch_2016 cut_nil
/-- RookHustingModel numberAt -/
noncomputable def con_2017 : Con2 := ((yX12_numberAt, cX12_numberAt, 3, (some .long)), (0, 0), ([(6, 0, 0), (0, 3, 0), (0, 20, 0)], gi_1855, [ac_1100, ac_1121], []), [((4, 48, 0), gi_1856, [(false, ac_1100), (false, ac_1121)], [], [1])])
theorem hd_2017 : con_2017.1 = (yX12_numberAt, cX12_numberAt, 3, (some .long)) := rfl
noncomputable def cu_2017 : List CUT2 := []
theorem ch_2017 : staG tb_X12_numberAt 1 bt_RX12 [] ct_2 [] [] cu_2017 11 con_2017 = true := by decide +kernel
theorem vl_2017 (l : Launch) : Vld2 l vwCl gTbl con_2017 := conR_ok3 gT_all (hd_2017) rfl pn_RX12 tk_X12_numberAt bo_RX12 xo_RX12 (cto_2 l) ch_2017 cut_nil
/-- RookHustingModel numberAt -/
noncomputable def con_2018 : Con2 := ((yX12_numberAt, cX12_numberAt, 3, (some .long)), (0, 0), ([(6, 0, 0), (0, 3, 0), (0, 22, 0)], gi_1851, [ac_1100, ac_1123], []), [((4, 48, 0), gi_1852, [(false, ac_1100), (false, ac_1123)], [], [1])])
theorem hd_2018 : con_2018.1 = (yX12_numberAt, cX12_numberAt, 3, (some .long)) := rfl
noncomputable def cu_2018 : List CUT2 := []
theorem ch_2018 : staG tb_X12_numberAt 1 bt_RX12 [] ct_2 [] [] cu_2018 11 con_2018 = true := by decide +kernel
theorem vl_2018 (l : Launch) : Vld2 l vwCl gTbl con_2018 := conR_ok3 gT_all (hd_2018) rfl pn_RX12 tk_X12_numberAt bo_RX12 xo_RX12 (cto_2 l) ch_2018 cut_nil
/-- RookHustingModel numberAt -/
noncomputable def con_2019 : Con2 := ((yX12_numberAt, cX12_numberAt, 3, (some .long)), (0, 0), ([(6, 0, 0), (0, 3, 0), (0, 21, 0)], gi_1853, [ac_1100, ac_1122], []), [((4, 48, 0), gi_1854, [(false, ac_1100), (false, ac_1122)], [], [1])])
theorem hd_2019 : con_2019.1 = (yX12_numberAt, cX12_numberAt, 3, (some .long)) := rfl
noncomputable def cu_2019 : List CUT2 := []
theorem ch_2019 : staG tb_X12_numberAt 1 bt_RX12 [] ct_2 [] [] cu_2019 11 con_2019 = true := by decide +kernel
theorem vl_2019 (l : Launch) : Vld2 l vwCl gTbl con_2019 := conR_ok3 gT_all (hd_2019) rfl pn_RX12 tk_X12_numberAt bo_RX12 xo_RX12 (cto_2 l) ch_2019 cut_nil
/-- RookHustingModel numberAt -/
noncomputable def con_2020 : Con2 := ((yX12_numberAt, cX12_numberAt, 3, (some .long)), (0, 0), ([(6, 0, 0), (0, 3, 0), (0, 23, 0)], gi_1855, [ac_1100, ac_1124], []), [((4, 48, 0), gi_1856, [(false, ac_1100), (false, ac_1124)], [], [1])])
theorem hd_2020 : con_2020.1 = (yX12_numberAt, cX12_numberAt, 3, (some .long)) := rfl
noncomputable def cu_2020 : List CUT2 := []
theorem ch_2020 : staG tb_X12_numberAt 1 bt_RX12 [] ct_2 [] [] cu_2020 11 con_2020 = true := by decide +kernel
theorem vl_2020 (l : Launch) : Vld2 l vwCl gTbl con_2020 := conR_ok3 gT_all (hd_2020) rfl pn_RX12 tk_X12_numberAt bo_RX12 xo_RX12 (cto_2 l) ch_2020 cut_nil
/-- RookHustingModel numberAt -/
noncomputable def con_2021 : Con2 := ((yX12_numberAt, cX12_numberAt, 3, (some .long)), (0, 0), ([(6, 0, 0), (0, 3, 0), (0, 25, 0)], gi_1851, [ac_1100, ac_1126], []), [((4, 48, 0), gi_1852, [(false, ac_1100), (false, ac_1126)], [], [1])])
theorem hd_2021 : con_2021.1 = (yX12_numberAt, cX12_numberAt, 3, (some .long)) := rfl
noncomputable def cu_2021 : List CUT2 := []
theorem ch_2021 : staG tb_X12_numberAt 1 bt_RX12 [] ct_2 [] [] cu_2021 11 con_2021 = true := by decide +kernel
theorem vl_2021 (l : Launch) : Vld2 l vwCl gTbl con_2021 := conR_ok3 gT_all (hd_2021) rfl pn_RX12 tk_X12_numberAt bo_RX12 xo_RX12 (cto_2 l) ch_2021 cut_nil
/-- RookHustingModel numberAt -/
noncomputable def con_2022 : Con2 := ((yX12_numberAt, cX12_numberAt, 3, (some .long)), (0, 0), ([(6, 0, 0), (0, 3, 0), (0, 24, 0)], gi_1853, [ac_1100, ac_1125], []), [((4, 48, 0), gi_1854, [(false, ac_1100), (false, ac_1125)], [], [1])])
theorem hd_2022 : con_2022.1 = (yX12_numberAt, cX12_numberAt, 3, (some .long)) := rfl
noncomputable def cu_2022 : List CUT2 := []
theorem ch_2022 : staG tb_X12_numberAt 1 bt_RX12 [] ct_2 [] [] cu_2022 11 con_2022 = true := by decide +kernel
theorem vl_2022 (l : Launch) : Vld2 l vwCl gTbl con_2022 := conR_ok3 gT_all (hd_2022) rfl pn_RX12 tk_X12_numberAt bo_RX12 xo_RX12 (cto_2 l) ch_2022 cut_nil
/-- RookHustingModel numberAt -/
noncomputable def con_2023 : Con2 := ((yX12_numberAt, cX12_numberAt, 3, (some .long)), (0, 0), ([(6, 0, 0), (0, 3, 0), (0, 26, 0)], gi_1855, [ac_1100, ac_1127], []), [((4, 48, 0), gi_1856, [(false, ac_1100), (false, ac_1127)], [], [1])])
theorem hd_2023 : con_2023.1 = (yX12_numberAt, cX12_numberAt, 3, (some .long)) := rfl
noncomputable def cu_2023 : List CUT2 := []
theorem ch_2023 : staG tb_X12_numberAt 1 bt_RX12 [] ct_2 [] [] cu_2023 11 con_2023 = true := by decide +kernel
theorem vl_2023 (l : Launch) : Vld2 l vwCl gTbl con_2023 := conR_ok3 gT_all (hd_2023) rfl pn_RX12 tk_X12_numberAt bo_RX12 xo_RX12 (cto_2 l) ch_2023 cut_nil
/-- RookHustingModel numberAt -/
noncomputable def con_2024 : Con2 := ((yX12_numberAt, cX12_numberAt, 3, (some .long)), (0, 0), ([(6, 0, 0), (0, 3, 0), (0, 28, 0)], gi_1851, [ac_1100, ac_1129], []), [((4, 48, 0), gi_1852, [(false, ac_1100), (false, ac_1129)], [], [1])])
theorem hd_2024 : con_2024.1 = (yX12_numberAt, cX12_numberAt, 3, (some .long)) := rfl
noncomputable def cu_2024 : List CUT2 := []
theorem ch_2024 : staG tb_X12_numberAt 1 bt_RX12 [] ct_2 [] [] cu_2024 11 con_2024 = true := by decide +kernel
theorem vl_2024 (l : Launch) : Vld2 l vwCl gTbl con_2024 := conR_ok3 gT_all (hd_2024) rfl pn_RX12 tk_X12_numberAt bo_RX12 xo_RX12 (cto_2 l) ch_2024 cut_nil
/-- RookHustingModel numberAt -/
noncomputable def con_2025 : Con2 := ((yX12_numberAt, cX12_numberAt, 3, (some .long)), (0, 0), ([(6, 0, 0), (0, 3, 0), (0, 27, 0)], gi_1853, [ac_1100, ac_1128], []), [((4, 48, 0), gi_1854, [(false, ac_1100), (false, ac_1128)], [], [1])])
theorem hd_2025 : con_2025.1 = (yX12_numberAt, cX12_numberAt, 3, (some .long)) := rfl
noncomputable def cu_2025 : List CUT2 := []
theorem ch_2025 : staG tb_X12_numberAt 1 bt_RX12 [] ct_2 [] [] cu_2025 11 con_2025 = true := by decide +kernel
theorem vl_2025 (l : Launch) : Vld2 l vwCl gTbl con_2025 := conR_ok3 gT_all (hd_2025) rfl pn_RX12 tk_X12_numberAt bo_RX12 xo_RX12 (cto_2 l) ch_2025 cut_nil
/-- RookHustingModel numberAt -/
noncomputable def con_2026 : Con2 := ((yX12_numberAt, cX12_numberAt, 3, (some .long)), (0, 0), ([(6, 0, 0), (0, 3, 0), (0, 29, 0)], gi_1855, [ac_1100, ac_1130], []), [((4, 48, 0), gi_1856, [(false, ac_1100), (false, ac_1130)], [], [1])])
theorem hd_2026 : con_2026.1 = (yX12_numberAt, cX12_numberAt, 3, (some .long)) := rfl
noncomputable def cu_2026 : List CUT2 := []
theorem ch_2026 : staG tb_X12_numberAt 1 bt_RX12 [] ct_2 [] [] cu_2026 11 con_2026 = true := by decide +kernel
theorem vl_2026 (l : Launch) : Vld2 l vwCl gTbl con_2026 := conR_ok3 gT_all (hd_2026) rfl pn_RX12 tk_X12_numberAt bo_RX12 xo_RX12 (cto_2 l) ch_2026 cut_nil
/-- RookHustingModel numberAt -/
noncomputable def con_2027 : Con2 := ((yX12_numberAt, cX12_numberAt, 3, (some .long)), (0, 0), ([(6, 0, 0), (0, 3, 0), (0, 31, 0)], gi_1851, [ac_1100, ac_1132], []), [((4, 48, 0), gi_1852, [(false, ac_1100), (false, ac_1132)], [], [1])])
theorem hd_2027 : con_2027.1 = (yX12_numberAt, cX12_numberAt, 3, (some .long)) := rfl
noncomputable def cu_2027 : List CUT2 := []
theorem ch_2027 : staG tb_X12_numberAt 1 bt_RX12 [] ct_2 [] [] cu_2027 11 con_2027 = true := by decide +kernel
theorem vl_2027 (l : Launch) : Vld2 l vwCl gTbl con_2027 := conR_ok3 gT_all (hd_2027) rfl pn_RX12 tk_X12_numberAt bo_RX12 xo_RX12 (cto_2 l) ch_2027 cut_nil
/-- RookHustingModel numberAt -/
noncomputable def con_2028 : Con2 := ((yX12_numberAt, cX12_numberAt, 3, (some .long)), (0, 0), ([(6, 0, 0), (0, 3, 0), (0, 30, 0)], gi_1853, [ac_1100, ac_1131], []), [((4, 48, 0), gi_1854, [(false, ac_1100), (false, ac_1131)], [], [1])])
theorem hd_2028 : con_2028.1 = (yX12_numberAt, cX12_numberAt, 3, (some .long)) := rfl
noncomputable def cu_2028 : List CUT2 := []
theorem ch_2028 : staG tb_X12_numberAt 1 bt_RX12 [] ct_2 [] [] cu_2028 11 con_2028 = true := by decide +kernel
theorem vl_2028 (l : Launch) : Vld2 l vwCl gTbl con_2028 := conR_ok3 gT_all (hd_2028) rfl pn_RX12 tk_X12_numberAt bo_RX12 xo_RX12 (cto_2 l) ch_2028 cut_nil
/-- RookHustingModel numberAt -/
noncomputable def con_2029 : Con2 := ((yX12_numberAt, cX12_numberAt, 3, (some .long)), (0, 0), ([(6, 0, 0), (0, 3, 0), (0, 32, 0)], gi_1855, [ac_1100, ac_1133], []), [((4, 48, 0), gi_1856, [(false, ac_1100), (false, ac_1133)], [], [1])])
theorem hd_2029 : con_2029.1 = (yX12_numberAt, cX12_numberAt, 3, (some .long)) := rfl
noncomputable def cu_2029 : List CUT2 := []
theorem ch_2029 : staG tb_X12_numberAt 1 bt_RX12 [] ct_2 [] [] cu_2029 11 con_2029 = true := by decide +kernel
theorem vl_2029 (l : Launch) : Vld2 l vwCl gTbl con_2029 := conR_ok3 gT_all (hd_2029) rfl pn_RX12 tk_X12_numberAt bo_RX12 xo_RX12 (cto_2 l) ch_2029 cut_nil
/-- RookHustingModel numberAt -/
noncomputable def con_2030 : Con2 := ((yX12_numberAt, cX12_numberAt, 3, (some .long)), (0, 0), ([(6, 0, 0), (0, 3, 0), (0, 34, 0)], gi_1851, [ac_1100, ac_1135], []), [((4, 48, 0), gi_1852, [(false, ac_1100), (false, ac_1135)], [], [1])])
theorem hd_2030 : con_2030.1 = (yX12_numberAt, cX12_numberAt, 3, (some .long)) := rfl
noncomputable def cu_2030 : List CUT2 := []
theorem ch_2030 : staG tb_X12_numberAt 1 bt_RX12 [] ct_2 [] [] cu_2030 11 con_2030 = true := by decide +kernel
theorem vl_2030 (l : Launch) : Vld2 l vwCl gTbl con_2030 := conR_ok3 gT_all (hd_2030) rfl pn_RX12 tk_X12_numberAt bo_RX12 xo_RX12 (cto_2 l) ch_2030 cut_nil
/-- RookHustingModel numberAt -/
noncomputable def con_2031 : Con2 := ((yX12_numberAt, cX12_numberAt, 3, (some .long)), (0, 0), ([(6, 0, 0), (0, 3, 0), (0, 33, 0)], gi_1853, [ac_1100, ac_1134], []), [((4, 48, 0), gi_1854, [(false, ac_1100), (false, ac_1134)], [], [1])])
theorem hd_2031 : con_2031.1 = (yX12_numberAt, cX12_numberAt, 3, (some .long)) := rfl
noncomputable def cu_2031 : List CUT2 := []
theorem ch_2031 : staG tb_X12_numberAt 1 bt_RX12 [] ct_2 [] [] cu_2031 11 con_2031 = true := by decide +kernel
theorem vl_2031 (l : Launch) : Vld2 l vwCl gTbl con_2031 := conR_ok3 gT_all (hd_2031) rfl pn_RX12 tk_X12_numberAt bo_RX12 xo_RX12 (cto_2 l) ch_2031 cut_nil
/-- RookHustingModel numberAt -/
noncomputable def con_2032 : Con2 := ((yX12_numberAt, cX12_numberAt, 3, (some .long)), (0, 0), ([(6, 0, 0), (0, 3, 0), (0, 35, 0)], gi_1855, [ac_1100, ac_1136], []), [((4, 48, 0), gi_1856, [(false, ac_1100), (false, ac_1136)], [], [1])])
theorem hd_2032 : con_2032.1 = (yX12_numberAt, cX12_numberAt, 3, (some .long)) := rfl
noncomputable def cu_2032 : List CUT2 := []
theorem ch_2032 : staG tb_X12_numberAt 1 bt_RX12 [] ct_2 [] [] cu_2032 11 con_2032 = true := by decide +kernel
theorem vl_2032 (l : Launch) : Vld2 l vwCl gTbl con_2032 := conR_ok3 gT_all (hd_2032) rfl pn_RX12 tk_X12_numberAt bo_RX12 xo_RX12 (cto_2 l) ch_2032 cut_nil
/-- RookHustingModel numberAt -/
noncomputable def con_2033 : Con2 := ((yX12_numberAt, cX12_numberAt, 3, (some .long)), (0, 0), ([(6, 0, 0), (0, 3, 0), (0, 37, 0)], gi_1851, [ac_1100, ac_1138], []), [((4, 48, 0), gi_1852, [(false, ac_1100), (false, ac_1138)], [], [1])])
theorem hd_2033 : con_2033.1 = (yX12_numberAt, cX12_numberAt, 3, (some .long)) := rfl
noncomputable def cu_2033 : List CUT2 := []
theorem ch_2033 : staG tb_X12_numberAt 1 bt_RX12 [] ct_2 [] [] cu_2033 11 con_2033 = true := by decide +kernel
theorem vl_2033 (l : Launch) : Vld2 l vwCl gTbl con_2033 := conR_ok3 gT_all (hd_2033) rfl pn_RX12 tk_X12_numberAt bo_RX12 xo_RX12 (cto_2 l) ch_2033 cut_nil
/-- RookHustingModel numberAt -/
noncomputable def con_2034 : Con2 := ((yX12_numberAt, cX12_numberAt, 3, (some .long)), (0, 0), ([(6, 0, 0), (0, 3, 0), (0, 36, 0)], gi_1853, [ac_1100, ac_1137], []), [((4, 48, 0), gi_1854, [(false, ac_1100), (false, ac_1137)], [], [1])])
theorem hd_2034 : con_2034.1 = (yX12_numberAt, cX12_numberAt, 3, (some .long)) := rfl
noncomputable def cu_2034 : List CUT2 := []
theorem ch_2034 : staG tb_X12_numberAt 1 bt_RX12 [] ct_2 [] [] cu_2034 11 con_2034 = true := by decide +kernel
theorem vl_2034 (l : Launch) : Vld2 l vwCl gTbl con_2034 := conR_ok3 gT_all (hd_2034) rfl pn_RX12 tk_X12_numberAt bo_RX12 xo_RX12 (cto_2 l) ch_2034 cut_nil
/-- RookHustingModel numberAt -/
noncomputable def con_2035 : Con2 := ((yX12_numberAt, cX12_numberAt, 3, (some .long)), (0, 0), ([(6, 0, 0), (0, 3, 0), (0, 38, 0)], gi_1855, [ac_1100, ac_1139], []), [((4, 48, 0), gi_1856, [(false, ac_1100), (false, ac_1139)], [], [1])])
theorem hd_2035 : con_2035.1 = (yX12_numberAt, cX12_numberAt, 3, (some .long)) := rfl
noncomputable def cu_2035 : List CUT2 := []
theorem ch_2035 : staG tb_X12_numberAt 1 bt_RX12 [] ct_2 [] [] cu_2035 11 con_2035 = true := by decide +kernel
theorem vl_2035 (l : Launch) : Vld2 l vwCl gTbl con_2035 := conR_ok3 gT_all (hd_2035) rfl pn_RX12 tk_X12_numberAt bo_RX12 xo_RX12 (cto_2 l) ch_2035 cut_nil
/-- RookHustingModel numberAt -/
noncomputable def con_2036 : Con2 := ((yX12_numberAt, cX12_numberAt, 3, (some .long)), (0, 0), ([(6, 0, 0), (0, 3, 0), (0, 40, 0)], gi_1851, [ac_1100, ac_1141], []), [((4, 48, 0), gi_1852, [(false, ac_1100), (false, ac_1141)], [], [1])])
theorem hd_2036 : con_2036.1 = (yX12_numberAt, cX12_numberAt, 3, (some .long)) := rfl
noncomputable def cu_2036 : List CUT2 := []
theorem ch_2036 : staG tb_X12_numberAt 1 bt_RX12 [] ct_2 [] [] cu_2036 11 con_2036 = true := by decide +kernel
theorem vl_2036 (l : Launch) : Vld2 l vwCl gTbl con_2036 := conR_ok3 gT_all (hd_2036) rfl pn_RX12 tk_X12_numberAt bo_RX12 xo_RX12 (cto_2 l) ch_2036 cut_nil
/-- RookHustingModel numberAt -/
noncomputable def con_2037 : Con2 := ((yX12_numberAt, cX12_numberAt, 3, (some .long)), (0, 0), ([(6, 0, 0), (0, 3, 0), (0, 39, 0)], gi_1853, [ac_1100, ac_1140], []), [((4, 48, 0), gi_1854, [(false, ac_1100), (false, ac_1140)], [], [1])])
theorem hd_2037 : con_2037.1 = (yX12_numberAt, cX12_numberAt, 3, (some .long)) := rfl
noncomputable def cu_2037 : List CUT2 := []
theorem ch_2037 : staG tb_X12_numberAt 1 bt_RX12 [] ct_2 [] [] cu_2037 11 con_2037 = true := by decide +kernel
theorem vl_2037 (l : Launch) : Vld2 l vwCl gTbl con_2037 := conR_ok3 gT_all (hd_2037) rfl pn_RX12 tk_X12_numberAt bo_RX12 xo_RX12 (cto_2 l) ch_2037 cut_nil
/-- RookHustingModel numberAt -/
noncomputable def con_2038 : Con2 := ((yX12_numberAt, cX12_numberAt, 3, (some .long)), (0, 0), ([(6, 0, 0), (0, 3, 0), (0, 41, 0)], gi_1855, [ac_1100, ac_1142], []), [((4, 48, 0), gi_1856, [(false, ac_1100), (false, ac_1142)], [], [1])])
theorem hd_2038 : con_2038.1 = (yX12_numberAt, cX12_numberAt, 3, (some .long)) := rfl
noncomputable def cu_2038 : List CUT2 := []
theorem ch_2038 : staG tb_X12_numberAt 1 bt_RX12 [] ct_2 [] [] cu_2038 11 con_2038 = true := by decide +kernel
theorem vl_2038 (l : Launch) : Vld2 l vwCl gTbl con_2038 := conR_ok3 gT_all (hd_2038) rfl pn_RX12 tk_X12_numberAt bo_RX12 xo_RX12 (cto_2 l) ch_2038 cut_nil
/-- RookHustingModel numberAt -/
noncomputable def con_2039 : Con2 := ((yX12_numberAt, cX12_numberAt, 3, (some .long)), (0, 0), ([(6, 0, 0), (0, 3, 0), (0, 43, 0)], gi_1851, [ac_1100, ac_1144], []), [((4, 48, 0), gi_1852, [(false, ac_1100), (false, ac_1144)], [], [1])])
theorem hd_2039 : con_2039.1 = (yX12_numberAt, cX12_numberAt, 3, (some .long)) := rfl
noncomputable def cu_2039 : List CUT2 := []
theorem ch_2039 : staG tb_X12_numberAt 1 bt_RX12 [] ct_2 [] [] cu_2039 11 con_2039 = true := by decide +kernel
theorem vl_2039 (l : Launch) : Vld2 l vwCl gTbl con_2039 := conR_ok3 gT_all (hd_2039) rfl pn_RX12 tk_X12_numberAt bo_RX12 xo_RX12 (cto_2 l) ch_2039 cut_nil
/-- RookHustingModel numberAt -/
noncomputable def con_2040 : Con2 := ((yX12_numberAt, cX12_numberAt, 3, (some .long)), (0, 0), ([(6, 0, 0), (0, 3, 0), (0, 42, 0)], gi_1853, [ac_1100, ac_1143], []), [((4, 48, 0), gi_1854, [(false, ac_1100), (false, ac_1143)], [], [1])])
theorem hd_2040 : con_2040.1 = (yX12_numberAt, cX12_numberAt, 3, (some .long)) := rfl
noncomputable def cu_2040 : List CUT2 := []
theorem ch_2040 : staG tb_X12_numberAt 1 bt_RX12 [] ct_2 [] [] cu_2040 11 con_2040 = true := by decide +kernel
theorem vl_2040 (l : Launch) : Vld2 l vwCl gTbl con_2040 := conR_ok3 gT_all (hd_2040) rfl pn_RX12 tk_X12_numberAt bo_RX12 xo_RX12 (cto_2 l) ch_2040 cut_nil
/-- RookHustingModel numberAt -/
noncomputable def con_2041 : Con2 := ((yX12_numberAt, cX12_numberAt, 3, (some .long)), (0, 0), ([(6, 0, 0), (0, 3, 0), (0, 44, 0)], gi_1855, [ac_1100, ac_1145], []), [((4, 48, 0), gi_1856, [(false, ac_1100), (false, ac_1145)], [], [1])])
theorem hd_2041 : con_2041.1 = (yX12_numberAt, cX12_numberAt, 3, (some .long)) := rfl
noncomputable def cu_2041 : List CUT2 := []
theorem ch_2041 : staG tb_X12_numberAt 1 bt_RX12 [] ct_2 [] [] cu_2041 11 con_2041 = true := by decide +kernel
theorem vl_2041 (l : Launch) : Vld2 l vwCl gTbl con_2041 := conR_ok3 gT_all (hd_2041) rfl pn_RX12 tk_X12_numberAt bo_RX12 xo_RX12 (cto_2 l) ch_2041 cut_nil
/-- RookHustingModel numberAt -/
noncomputable def con_2042 : Con2 := ((yX12_numberAt, cX12_numberAt, 3, (some .long)), (0, 0), ([(6, 0, 0), (0, 3, 0), (0, 46, 0)], gi_1851, [ac_1100, ac_1147], []), [((4, 48, 0), gi_1852, [(false, ac_1100), (false, ac_1147)], [], [1])])
theorem hd_2042 : con_2042.1 = (yX12_numberAt, cX12_numberAt, 3, (some .long)) := rfl
noncomputable def cu_2042 : List CUT2 := []
theorem ch_2042 : staG tb_X12_numberAt 1 bt_RX12 [] ct_2 [] [] cu_2042 11 con_2042 = true := by decide +kernel
theorem vl_2042 (l : Launch) : Vld2 l vwCl gTbl con_2042 := conR_ok3 gT_all (hd_2042) rfl pn_RX12 tk_X12_numberAt bo_RX12 xo_RX12 (cto_2 l) ch_2042 cut_nil
/-- RookHustingModel numberAt -/
noncomputable def con_2043 : Con2 := ((yX12_numberAt, cX12_numberAt, 3, (some .long)), (0, 0), ([(6, 0, 0), (0, 3, 0), (0, 45, 0)], gi_1853, [ac_1100, ac_1146], []), [((4, 48, 0), gi_1854, [(false, ac_1100), (false, ac_1146)], [], [1])])
theorem hd_2043 : con_2043.1 = (yX12_numberAt, cX12_numberAt, 3, (some .long)) := rfl
noncomputable def cu_2043 : List CUT2 := []
theorem ch_2043 : staG tb_X12_numberAt 1 bt_RX12 [] ct_2 [] [] cu_2043 11 con_2043 = true := by decide +kernel
theorem vl_2043 (l : Launch) : Vld2 l vwCl gTbl con_2043 := conR_ok3 gT_all (hd_2043) rfl pn_RX12 tk_X12_numberAt bo_RX12 xo_RX12 (cto_2 l) ch_2043 cut_nil
/-- RookHustingModel numberAt -/
noncomputable def con_2044 : Con2 := ((yX12_numberAt, cX12_numberAt, 3, (some .long)), (0, 0), ([(6, 0, 0), (0, 3, 0), (0, 47, 0)], gi_1855, [ac_1100, ac_1148], []), [((4, 48, 0), gi_1856, [(false, ac_1100), (false, ac_1148)], [], [1])])
theorem hd_2044 : con_2044.1 = (yX12_numberAt, cX12_numberAt, 3, (some .long)) := rfl
noncomputable def cu_2044 : List CUT2 := []
theorem ch_2044 : staG tb_X12_numberAt 1 bt_RX12 [] ct_2 [] [] cu_2044 11 con_2044 = true := by decide +kernel
theorem vl_2044 (l : Launch) : Vld2 l vwCl gTbl con_2044 := conR_ok3 gT_all (hd_2044) rfl pn_RX12 tk_X12_numberAt bo_RX12 xo_RX12 (cto_2 l) ch_2044 cut_nil
/-- RookHustingModel numberAt -/
noncomputable def con_2045 : Con2 := ((yX12_numberAt, cX12_numberAt, 3, (some .long)), (0, 0), ([(6, 0, 0), (0, 3, 0), (0, 49, 0)], gi_1851, [ac_1100, ac_1150], []), [((4, 48, 0), gi_1852, [(false, ac_1100), (false, ac_1150)], [], [1])])
theorem hd_2045 : con_2045.1 = (yX12_numberAt, cX12_numberAt, 3, (some .long)) := rfl
noncomputable def cu_2045 : List CUT2 := []
theorem ch_2045 : staG tb_X12_numberAt 1 bt_RX12 [] ct_2 [] [] cu_2045 11 con_2045 = true := by decide +kernel
theorem vl_2045 (l : Launch) : Vld2 l vwCl gTbl con_2045 := conR_ok3 gT_all (hd_2045) rfl pn_RX12 tk_X12_numberAt bo_RX12 xo_RX12 (cto_2 l) ch_2045 cut_nil
/-- RookHustingModel numberAt -/
noncomputable def con_2046 : Con2 := ((yX12_numberAt, cX12_numberAt, 3, (some .long)), (0, 0), ([(6, 0, 0), (0, 3, 0), (0, 48, 0)], gi_1853, [ac_1100, ac_1149], []), [((4, 48, 0), gi_1854, [(false, ac_1100), (false, ac_1149)], [], [1])])
theorem hd_2046 : con_2046.1 = (yX12_numberAt, cX12_numberAt, 3, (some .long)) := rfl
noncomputable def cu_2046 : List CUT2 := []
theorem ch_2046 : staG tb_X12_numberAt 1 bt_RX12 [] ct_2 [] [] cu_2046 11 con_2046 = true := by decide +kernel
theorem vl_2046 (l : Launch) : Vld2 l vwCl gTbl con_2046 := conR_ok3 gT_all (hd_2046) rfl pn_RX12 tk_X12_numberAt bo_RX12 xo_RX12 (cto_2 l) ch_2046 cut_nil
/-- RookHustingModel numberAt -/
noncomputable def con_2047 : Con2 := ((yX12_numberAt, cX12_numberAt, 3, (some .long)), (0, 0), ([(6, 0, 0), (0, 3, 0), (0, 50, 0)], gi_1855, [ac_1100, ac_1151], []), [((4, 48, 0), gi_1856, [(false, ac_1100), (false, ac_1151)], [], [1])])
theorem hd_2047 : con_2047.1 = (yX12_numberAt, cX12_numberAt, 3, (some .long)) := rfl
noncomputable def cu_2047 : List CUT2 := []
theorem ch_2047 : staG tb_X12_numberAt 1 bt_RX12 [] ct_2 [] [] cu_2047 11 con_2047 = true := by decide +kernel
theorem vl_2047 (l : Launch) : Vld2 l vwCl gTbl con_2047 := conR_ok3 gT_all (hd_2047) rfl pn_RX12 tk_X12_numberAt bo_RX12 xo_RX12 (cto_2 l) ch_2047 cut_nil
/-- RookHustingModel numberAt -/
noncomputable def con_2048 : Con2 := ((yX12_numberAt, cX12_numberAt, 3, (some .long)), (0, 0), ([(6, 0, 0), (0, 3, 0), (0, 52, 0)], gi_1851, [ac_1100, ac_1153], []), [((4, 48, 0), gi_1852, [(false, ac_1100), (false, ac_1153)], [], [1])])
theorem hd_2048 : con_2048.1 = (yX12_numberAt, cX12_numberAt, 3, (some .long)) := rfl
noncomputable def cu_2048 : List CUT2 := []
theorem ch_2048 : staG tb_X12_numberAt 1 bt_RX12 [] ct_2 [] [] cu_2048 11 con_2048 = true := by decide +kernel
theorem vl_2048 (l : Launch) : Vld2 l vwCl gTbl con_2048 := conR_ok3 gT_all (hd_2048) rfl pn_RX12 tk_X12_numberAt bo_RX12 xo_RX12 (cto_2 l) ch_2048 cut_nil
/-- RookHustingModel numberAt -/
noncomputable def con_2049 : Con2 := ((yX12_numberAt, cX12_numberAt, 3, (some .long)), (0, 0), ([(6, 0, 0), (0, 3, 0), (0, 51, 0)], gi_1853, [ac_1100, ac_1152], []), [((4, 48, 0), gi_1854, [(false, ac_1100), (false, ac_1152)], [], [1])])
theorem hd_2049 : con_2049.1 = (yX12_numberAt, cX12_numberAt, 3, (some .long)) := rfl
noncomputable def cu_2049 : List CUT2 := []
theorem ch_2049 : staG tb_X12_numberAt 1 bt_RX12 [] ct_2 [] [] cu_2049 11 con_2049 = true := by decide +kernel
theorem vl_2049 (l : Launch) : Vld2 l vwCl gTbl con_2049 := conR_ok3 gT_all (hd_2049) rfl pn_RX12 tk_X12_numberAt bo_RX12 xo_RX12 (cto_2 l) ch_2049 cut_nil
/-- RookHustingModel numberAt -/
noncomputable def con_2050 : Con2 := ((yX12_numberAt, cX12_numberAt, 3, (some .long)), (0, 0), ([(6, 0, 0), (0, 3, 0), (0, 53, 0)], gi_1855, [ac_1100, ac_1154], []), [((4, 48, 0), gi_1856, [(false, ac_1100), (false, ac_1154)], [], [1])])
theorem hd_2050 : con_2050.1 = (yX12_numberAt, cX12_numberAt, 3, (some .long)) := rfl
noncomputable def cu_2050 : List CUT2 := []
theorem ch_2050 : staG tb_X12_numberAt 1 bt_RX12 [] ct_2 [] [] cu_2050 11 con_2050 = true := by decide +kernel
theorem vl_2050 (l : Launch) : Vld2 l vwCl gTbl con_2050 := conR_ok3 gT_all (hd_2050) rfl pn_RX12 tk_X12_numberAt bo_RX12 xo_RX12 (cto_2 l) ch_2050 cut_nil
/-- RookHustingModel numberAt -/
noncomputable def con_2051 : Con2 := ((yX12_numberAt, cX12_numberAt, 3, (some .long)), (0, 0), ([(6, 0, 0), (0, 3, 0), (0, 55, 0)], gi_1851, [ac_1100, ac_1156], []), [((4, 48, 0), gi_1852, [(false, ac_1100), (false, ac_1156)], [], [1])])
theorem hd_2051 : con_2051.1 = (yX12_numberAt, cX12_numberAt, 3, (some .long)) := rfl
noncomputable def cu_2051 : List CUT2 := []
theorem ch_2051 : staG tb_X12_numberAt 1 bt_RX12 [] ct_2 [] [] cu_2051 11 con_2051 = true := by decide +kernel
theorem vl_2051 (l : Launch) : Vld2 l vwCl gTbl con_2051 := conR_ok3 gT_all (hd_2051) rfl pn_RX12 tk_X12_numberAt bo_RX12 xo_RX12 (cto_2 l) ch_2051 cut_nil
/-- RookHustingModel numberAt -/
noncomputable def con_2052 : Con2 := ((yX12_numberAt, cX12_numberAt, 3, (some .long)), (0, 0), ([(6, 0, 0), (0, 3, 0), (0, 54, 0)], gi_1853, [ac_1100, ac_1155], []), [((4, 48, 0), gi_1854, [(false, ac_1100), (false, ac_1155)], [], [1])])
theorem hd_2052 : con_2052.1 = (yX12_numberAt, cX12_numberAt, 3, (some .long)) := rfl
noncomputable def cu_2052 : List CUT2 := []
theorem ch_2052 : staG tb_X12_numberAt 1 bt_RX12 [] ct_2 [] [] cu_2052 11 con_2052 = true := by decide +kernel
theorem vl_2052 (l : Launch) : Vld2 l vwCl gTbl con_2052 := conR_ok3 gT_all (hd_2052) rfl pn_RX12 tk_X12_numberAt bo_RX12 xo_RX12 (cto_2 l) ch_2052 cut_nil
/-- RookHustingModel numberAt -/
noncomputable def con_2053 : Con2 := ((yX12_numberAt, cX12_numberAt, 3, (some .long)), (0, 0), ([(6, 0, 0), (0, 3, 0), (0, 56, 0)], gi_1855, [ac_1100, ac_1157], []), [((4, 48, 0), gi_1856, [(false, ac_1100), (false, ac_1157)], [], [1])])
theorem hd_2053 : con_2053.1 = (yX12_numberAt, cX12_numberAt, 3, (some .long)) := rfl
noncomputable def cu_2053 : List CUT2 := []
theorem ch_2053 : staG tb_X12_numberAt 1 bt_RX12 [] ct_2 [] [] cu_2053 11 con_2053 = true := by decide +kernel
theorem vl_2053 (l : Launch) : Vld2 l vwCl gTbl con_2053 := conR_ok3 gT_all (hd_2053) rfl pn_RX12 tk_X12_numberAt bo_RX12 xo_RX12 (cto_2 l) ch_2053 cut_nil
/-- RookHustingModel numberAt -/
noncomputable def gi_1860 : GI := jl_n [jl_z 48, gp_372]
noncomputable def con_2054 : Con2 := ((yX12_numberAt, cX12_numberAt, 3, (some .long)), (0, 0), ([(6, 0, 0), (0, 3, 0), (0, 58, 0)], gi_1852, [ac_1100, ac_1159], []), [((4, 48, 0), gi_1860, [(false, ac_1100), (false, ac_1159)], [], [1])])
theorem hd_2054 : con_2054.1 = (yX12_numberAt, cX12_numberAt, 3, (some .long)) := rfl
noncomputable def cu_2054 : List CUT2 := []
theorem ch_2054 : staG tb_X12_numberAt 1 bt_RX12 [] ct_2 [] [] cu_2054 11 con_2054 = true := by decide +kernel
theorem vl_2054 (l : Launch) : Vld2 l vwCl gTbl con_2054 := conR_ok3 gT_all (hd_2054) rfl pn_RX12 tk_X12_numberAt bo_RX12 xo_RX12 (cto_2 l) ch_2054 cut_nil
/-- RookHustingModel numberAt -/
noncomputable def con_2055 : Con2 := ((yX12_numberAt, cX12_numberAt, 3, (some .long)), (0, 0), ([(6, 0, 0), (0, 3, 0), (0, 57, 0)], gi_1853, [ac_1100, ac_1158], []), [((4, 48, 0), gi_1854, [(false, ac_1100), (false, ac_1158)], [], [1])])
theorem hd_2055 : con_2055.1 = (yX12_numberAt, cX12_numberAt, 3, (some .long)) := rfl
noncomputable def cu_2055 : List CUT2 := []
theorem ch_2055 : staG tb_X12_numberAt 1 bt_RX12 [] ct_2 [] [] cu_2055 11 con_2055 = true := by decide +kernel
theorem vl_2055 (l : Launch) : Vld2 l vwCl gTbl con_2055 := conR_ok3 gT_all (hd_2055) rfl pn_RX12 tk_X12_numberAt bo_RX12 xo_RX12 (cto_2 l) ch_2055 cut_nil
/-- RookHustingModel numberAt -/
noncomputable def con_2056 : Con2 := ((yX12_numberAt, cX12_numberAt, 3, (some .long)), (0, 0), ([(6, 0, 0), (0, 3, 0), (0, 59, 0)], gi_1855, [ac_1100, ac_1160], []), [((4, 48, 0), gi_1856, [(false, ac_1100), (false, ac_1160)], [], [1])])
theorem hd_2056 : con_2056.1 = (yX12_numberAt, cX12_numberAt, 3, (some .long)) := rfl
noncomputable def cu_2056 : List CUT2 := []
theorem ch_2056 : staG tb_X12_numberAt 1 bt_RX12 [] ct_2 [] [] cu_2056 11 con_2056 = true := by decide +kernel
theorem vl_2056 (l : Launch) : Vld2 l vwCl gTbl con_2056 := conR_ok3 gT_all (hd_2056) rfl pn_RX12 tk_X12_numberAt bo_RX12 xo_RX12 (cto_2 l) ch_2056 cut_nil
/-- RookHustingModel isSeen -/
noncomputable def gi_1861 : GI := jl_n [gp_746, gp_487]
noncomputable def gi_1862 : GI := jl_n [gp_746, gp_487, jl_z 1]
noncomputable def con_2057 : Con2 := ((yX12_isSeen, cX12_isSeen, 3, (some .boolean)), (1, 22), ([(6, 0, 0), (0, 3, 0)], gi_1861, hc_215, []), [((0, 0, 0), gi_1862, hq_915, [], [1]), ((0, 1, 0), gi_1862, hq_915, [], [1])])
theorem hd_2057 : con_2057.1 = (yX12_isSeen, cX12_isSeen, 3, (some .boolean)) := rfl
theorem ck_RX12_417_2008 : COK2 RX12 vwCl gTbl 417 0 con_2008 := ⟨wd_2061, wd_137, mh_X12_numberAt, .inr (.inr ⟨rfl, wd_2058, wd_2060, wd_114, ⟨_, rfl, pd_X12_numberAt⟩, 12, _, TX12, 45, rfl, rfl⟩)⟩
theorem ck_RX12_417_2011 : COK2 RX12 vwCl gTbl 417 0 con_2011 := ⟨wd_2061, wd_137, mh_X12_numberAt, .inr (.inr ⟨rfl, wd_2058, wd_2060, wd_114, ⟨_, rfl, pd_X12_numberAt⟩, 12, _, TX12, 45, rfl, rfl⟩)⟩
theorem ck_RX12_417_2014 : COK2 RX12 vwCl gTbl 417 0 con_2014 := ⟨wd_2061, wd_137, mh_X12_numberAt, .inr (.inr ⟨rfl, wd_2058, wd_2060, wd_114, ⟨_, rfl, pd_X12_numberAt⟩, 12, _, TX12, 45, rfl, rfl⟩)⟩
theorem ck_RX12_417_2017 : COK2 RX12 vwCl gTbl 417 0 con_2017 := ⟨wd_2061, wd_137, mh_X12_numberAt, .inr (.inr ⟨rfl, wd_2058, wd_2060, wd_114, ⟨_, rfl, pd_X12_numberAt⟩, 12, _, TX12, 45, rfl, rfl⟩)⟩
theorem ck_RX12_417_2020 : COK2 RX12 vwCl gTbl 417 0 con_2020 := ⟨wd_2061, wd_137, mh_X12_numberAt, .inr (.inr ⟨rfl, wd_2058, wd_2060, wd_114, ⟨_, rfl, pd_X12_numberAt⟩, 12, _, TX12, 45, rfl, rfl⟩)⟩
theorem ck_RX12_417_2023 : COK2 RX12 vwCl gTbl 417 0 con_2023 := ⟨wd_2061, wd_137, mh_X12_numberAt, .inr (.inr ⟨rfl, wd_2058, wd_2060, wd_114, ⟨_, rfl, pd_X12_numberAt⟩, 12, _, TX12, 45, rfl, rfl⟩)⟩
theorem ck_RX12_417_2026 : COK2 RX12 vwCl gTbl 417 0 con_2026 := ⟨wd_2061, wd_137, mh_X12_numberAt, .inr (.inr ⟨rfl, wd_2058, wd_2060, wd_114, ⟨_, rfl, pd_X12_numberAt⟩, 12, _, TX12, 45, rfl, rfl⟩)⟩
theorem ck_RX12_417_2029 : COK2 RX12 vwCl gTbl 417 0 con_2029 := ⟨wd_2061, wd_137, mh_X12_numberAt, .inr (.inr ⟨rfl, wd_2058, wd_2060, wd_114, ⟨_, rfl, pd_X12_numberAt⟩, 12, _, TX12, 45, rfl, rfl⟩)⟩
theorem ck_RX12_417_2032 : COK2 RX12 vwCl gTbl 417 0 con_2032 := ⟨wd_2061, wd_137, mh_X12_numberAt, .inr (.inr ⟨rfl, wd_2058, wd_2060, wd_114, ⟨_, rfl, pd_X12_numberAt⟩, 12, _, TX12, 45, rfl, rfl⟩)⟩
theorem ck_RX12_417_2035 : COK2 RX12 vwCl gTbl 417 0 con_2035 := ⟨wd_2061, wd_137, mh_X12_numberAt, .inr (.inr ⟨rfl, wd_2058, wd_2060, wd_114, ⟨_, rfl, pd_X12_numberAt⟩, 12, _, TX12, 45, rfl, rfl⟩)⟩
theorem ck_RX12_417_2038 : COK2 RX12 vwCl gTbl 417 0 con_2038 := ⟨wd_2061, wd_137, mh_X12_numberAt, .inr (.inr ⟨rfl, wd_2058, wd_2060, wd_114, ⟨_, rfl, pd_X12_numberAt⟩, 12, _, TX12, 45, rfl, rfl⟩)⟩
theorem ck_RX12_417_2041 : COK2 RX12 vwCl gTbl 417 0 con_2041 := ⟨wd_2061, wd_137, mh_X12_numberAt, .inr (.inr ⟨rfl, wd_2058, wd_2060, wd_114, ⟨_, rfl, pd_X12_numberAt⟩, 12, _, TX12, 45, rfl, rfl⟩)⟩
theorem ck_RX12_417_2044 : COK2 RX12 vwCl gTbl 417 0 con_2044 := ⟨wd_2061, wd_137, mh_X12_numberAt, .inr (.inr ⟨rfl, wd_2058, wd_2060, wd_114, ⟨_, rfl, pd_X12_numberAt⟩, 12, _, TX12, 45, rfl, rfl⟩)⟩
theorem ck_RX12_417_2047 : COK2 RX12 vwCl gTbl 417 0 con_2047 := ⟨wd_2061, wd_137, mh_X12_numberAt, .inr (.inr ⟨rfl, wd_2058, wd_2060, wd_114, ⟨_, rfl, pd_X12_numberAt⟩, 12, _, TX12, 45, rfl, rfl⟩)⟩
theorem ck_RX12_417_2050 : COK2 RX12 vwCl gTbl 417 0 con_2050 := ⟨wd_2061, wd_137, mh_X12_numberAt, .inr (.inr ⟨rfl, wd_2058, wd_2060, wd_114, ⟨_, rfl, pd_X12_numberAt⟩, 12, _, TX12, 45, rfl, rfl⟩)⟩
theorem ck_RX12_417_2053 : COK2 RX12 vwCl gTbl 417 0 con_2053 := ⟨wd_2061, wd_137, mh_X12_numberAt, .inr (.inr ⟨rfl, wd_2058, wd_2060, wd_114, ⟨_, rfl, pd_X12_numberAt⟩, 12, _, TX12, 45, rfl, rfl⟩)⟩
theorem ck_RX12_417_2056 : COK2 RX12 vwCl gTbl 417 0 con_2056 := ⟨wd_2061, wd_137, mh_X12_numberAt, .inr (.inr ⟨rfl, wd_2058, wd_2060, wd_114, ⟨_, rfl, pd_X12_numberAt⟩, 12, _, TX12, 45, rfl, rfl⟩)⟩
theorem ck_RX12_417_2007 : COK2 RX12 vwCl gTbl 417 0 con_2007 := ⟨wd_2061, wd_137, mh_X12_numberAt, .inr (.inr ⟨rfl, wd_2058, wd_2060, wd_114, ⟨_, rfl, pd_X12_numberAt⟩, 12, _, TX12, 45, rfl, rfl⟩)⟩
theorem ck_RX12_417_2010 : COK2 RX12 vwCl gTbl 417 0 con_2010 := ⟨wd_2061, wd_137, mh_X12_numberAt, .inr (.inr ⟨rfl, wd_2058, wd_2060, wd_114, ⟨_, rfl, pd_X12_numberAt⟩, 12, _, TX12, 45, rfl, rfl⟩)⟩
theorem ck_RX12_417_2013 : COK2 RX12 vwCl gTbl 417 0 con_2013 := ⟨wd_2061, wd_137, mh_X12_numberAt, .inr (.inr ⟨rfl, wd_2058, wd_2060, wd_114, ⟨_, rfl, pd_X12_numberAt⟩, 12, _, TX12, 45, rfl, rfl⟩)⟩
theorem ck_RX12_417_2016 : COK2 RX12 vwCl gTbl 417 0 con_2016 := ⟨wd_2061, wd_137, mh_X12_numberAt, .inr (.inr ⟨rfl, wd_2058, wd_2060, wd_114, ⟨_, rfl, pd_X12_numberAt⟩, 12, _, TX12, 45, rfl, rfl⟩)⟩
theorem ck_RX12_417_2019 : COK2 RX12 vwCl gTbl 417 0 con_2019 := ⟨wd_2061, wd_137, mh_X12_numberAt, .inr (.inr ⟨rfl, wd_2058, wd_2060, wd_114, ⟨_, rfl, pd_X12_numberAt⟩, 12, _, TX12, 45, rfl, rfl⟩)⟩
theorem ck_RX12_417_2022 : COK2 RX12 vwCl gTbl 417 0 con_2022 := ⟨wd_2061, wd_137, mh_X12_numberAt, .inr (.inr ⟨rfl, wd_2058, wd_2060, wd_114, ⟨_, rfl, pd_X12_numberAt⟩, 12, _, TX12, 45, rfl, rfl⟩)⟩
theorem ck_RX12_417_2025 : COK2 RX12 vwCl gTbl 417 0 con_2025 := ⟨wd_2061, wd_137, mh_X12_numberAt, .inr (.inr ⟨rfl, wd_2058, wd_2060, wd_114, ⟨_, rfl, pd_X12_numberAt⟩, 12, _, TX12, 45, rfl, rfl⟩)⟩
theorem ck_RX12_417_2028 : COK2 RX12 vwCl gTbl 417 0 con_2028 := ⟨wd_2061, wd_137, mh_X12_numberAt, .inr (.inr ⟨rfl, wd_2058, wd_2060, wd_114, ⟨_, rfl, pd_X12_numberAt⟩, 12, _, TX12, 45, rfl, rfl⟩)⟩
theorem ck_RX12_417_2031 : COK2 RX12 vwCl gTbl 417 0 con_2031 := ⟨wd_2061, wd_137, mh_X12_numberAt, .inr (.inr ⟨rfl, wd_2058, wd_2060, wd_114, ⟨_, rfl, pd_X12_numberAt⟩, 12, _, TX12, 45, rfl, rfl⟩)⟩
theorem ck_RX12_417_2034 : COK2 RX12 vwCl gTbl 417 0 con_2034 := ⟨wd_2061, wd_137, mh_X12_numberAt, .inr (.inr ⟨rfl, wd_2058, wd_2060, wd_114, ⟨_, rfl, pd_X12_numberAt⟩, 12, _, TX12, 45, rfl, rfl⟩)⟩
theorem ck_RX12_417_2037 : COK2 RX12 vwCl gTbl 417 0 con_2037 := ⟨wd_2061, wd_137, mh_X12_numberAt, .inr (.inr ⟨rfl, wd_2058, wd_2060, wd_114, ⟨_, rfl, pd_X12_numberAt⟩, 12, _, TX12, 45, rfl, rfl⟩)⟩
theorem ck_RX12_417_2040 : COK2 RX12 vwCl gTbl 417 0 con_2040 := ⟨wd_2061, wd_137, mh_X12_numberAt, .inr (.inr ⟨rfl, wd_2058, wd_2060, wd_114, ⟨_, rfl, pd_X12_numberAt⟩, 12, _, TX12, 45, rfl, rfl⟩)⟩
theorem ck_RX12_417_2043 : COK2 RX12 vwCl gTbl 417 0 con_2043 := ⟨wd_2061, wd_137, mh_X12_numberAt, .inr (.inr ⟨rfl, wd_2058, wd_2060, wd_114, ⟨_, rfl, pd_X12_numberAt⟩, 12, _, TX12, 45, rfl, rfl⟩)⟩
theorem ck_RX12_417_2046 : COK2 RX12 vwCl gTbl 417 0 con_2046 := ⟨wd_2061, wd_137, mh_X12_numberAt, .inr (.inr ⟨rfl, wd_2058, wd_2060, wd_114, ⟨_, rfl, pd_X12_numberAt⟩, 12, _, TX12, 45, rfl, rfl⟩)⟩
theorem ck_RX12_417_2049 : COK2 RX12 vwCl gTbl 417 0 con_2049 := ⟨wd_2061, wd_137, mh_X12_numberAt, .inr (.inr ⟨rfl, wd_2058, wd_2060, wd_114, ⟨_, rfl, pd_X12_numberAt⟩, 12, _, TX12, 45, rfl, rfl⟩)⟩
theorem ck_RX12_417_2052 : COK2 RX12 vwCl gTbl 417 0 con_2052 := ⟨wd_2061, wd_137, mh_X12_numberAt, .inr (.inr ⟨rfl, wd_2058, wd_2060, wd_114, ⟨_, rfl, pd_X12_numberAt⟩, 12, _, TX12, 45, rfl, rfl⟩)⟩
theorem ck_RX12_417_2055 : COK2 RX12 vwCl gTbl 417 0 con_2055 := ⟨wd_2061, wd_137, mh_X12_numberAt, .inr (.inr ⟨rfl, wd_2058, wd_2060, wd_114, ⟨_, rfl, pd_X12_numberAt⟩, 12, _, TX12, 45, rfl, rfl⟩)⟩
theorem ck_RX12_417_2006 : COK2 RX12 vwCl gTbl 417 0 con_2006 := ⟨wd_2061, wd_137, mh_X12_numberAt, .inr (.inr ⟨rfl, wd_2058, wd_2060, wd_114, ⟨_, rfl, pd_X12_numberAt⟩, 12, _, TX12, 45, rfl, rfl⟩)⟩
theorem ck_RX12_417_2009 : COK2 RX12 vwCl gTbl 417 0 con_2009 := ⟨wd_2061, wd_137, mh_X12_numberAt, .inr (.inr ⟨rfl, wd_2058, wd_2060, wd_114, ⟨_, rfl, pd_X12_numberAt⟩, 12, _, TX12, 45, rfl, rfl⟩)⟩
theorem ck_RX12_417_2012 : COK2 RX12 vwCl gTbl 417 0 con_2012 := ⟨wd_2061, wd_137, mh_X12_numberAt, .inr (.inr ⟨rfl, wd_2058, wd_2060, wd_114, ⟨_, rfl, pd_X12_numberAt⟩, 12, _, TX12, 45, rfl, rfl⟩)⟩
theorem ck_RX12_417_2015 : COK2 RX12 vwCl gTbl 417 0 con_2015 := ⟨wd_2061, wd_137, mh_X12_numberAt, .inr (.inr ⟨rfl, wd_2058, wd_2060, wd_114, ⟨_, rfl, pd_X12_numberAt⟩, 12, _, TX12, 45, rfl, rfl⟩)⟩
theorem ck_RX12_417_2018 : COK2 RX12 vwCl gTbl 417 0 con_2018 := ⟨wd_2061, wd_137, mh_X12_numberAt, .inr (.inr ⟨rfl, wd_2058, wd_2060, wd_114, ⟨_, rfl, pd_X12_numberAt⟩, 12, _, TX12, 45, rfl, rfl⟩)⟩
theorem ck_RX12_417_2021 : COK2 RX12 vwCl gTbl 417 0 con_2021 := ⟨wd_2061, wd_137, mh_X12_numberAt, .inr (.inr ⟨rfl, wd_2058, wd_2060, wd_114, ⟨_, rfl, pd_X12_numberAt⟩, 12, _, TX12, 45, rfl, rfl⟩)⟩
theorem ck_RX12_417_2024 : COK2 RX12 vwCl gTbl 417 0 con_2024 := ⟨wd_2061, wd_137, mh_X12_numberAt, .inr (.inr ⟨rfl, wd_2058, wd_2060, wd_114, ⟨_, rfl, pd_X12_numberAt⟩, 12, _, TX12, 45, rfl, rfl⟩)⟩
theorem ck_RX12_417_2027 : COK2 RX12 vwCl gTbl 417 0 con_2027 := ⟨wd_2061, wd_137, mh_X12_numberAt, .inr (.inr ⟨rfl, wd_2058, wd_2060, wd_114, ⟨_, rfl, pd_X12_numberAt⟩, 12, _, TX12, 45, rfl, rfl⟩)⟩
theorem ck_RX12_417_2030 : COK2 RX12 vwCl gTbl 417 0 con_2030 := ⟨wd_2061, wd_137, mh_X12_numberAt, .inr (.inr ⟨rfl, wd_2058, wd_2060, wd_114, ⟨_, rfl, pd_X12_numberAt⟩, 12, _, TX12, 45, rfl, rfl⟩)⟩
theorem ck_RX12_417_2033 : COK2 RX12 vwCl gTbl 417 0 con_2033 := ⟨wd_2061, wd_137, mh_X12_numberAt, .inr (.inr ⟨rfl, wd_2058, wd_2060, wd_114, ⟨_, rfl, pd_X12_numberAt⟩, 12, _, TX12, 45, rfl, rfl⟩)⟩
theorem ck_RX12_417_2036 : COK2 RX12 vwCl gTbl 417 0 con_2036 := ⟨wd_2061, wd_137, mh_X12_numberAt, .inr (.inr ⟨rfl, wd_2058, wd_2060, wd_114, ⟨_, rfl, pd_X12_numberAt⟩, 12, _, TX12, 45, rfl, rfl⟩)⟩
theorem ck_RX12_417_2039 : COK2 RX12 vwCl gTbl 417 0 con_2039 := ⟨wd_2061, wd_137, mh_X12_numberAt, .inr (.inr ⟨rfl, wd_2058, wd_2060, wd_114, ⟨_, rfl, pd_X12_numberAt⟩, 12, _, TX12, 45, rfl, rfl⟩)⟩
theorem ck_RX12_417_2042 : COK2 RX12 vwCl gTbl 417 0 con_2042 := ⟨wd_2061, wd_137, mh_X12_numberAt, .inr (.inr ⟨rfl, wd_2058, wd_2060, wd_114, ⟨_, rfl, pd_X12_numberAt⟩, 12, _, TX12, 45, rfl, rfl⟩)⟩
theorem ck_RX12_417_2045 : COK2 RX12 vwCl gTbl 417 0 con_2045 := ⟨wd_2061, wd_137, mh_X12_numberAt, .inr (.inr ⟨rfl, wd_2058, wd_2060, wd_114, ⟨_, rfl, pd_X12_numberAt⟩, 12, _, TX12, 45, rfl, rfl⟩)⟩
theorem ck_RX12_417_2048 : COK2 RX12 vwCl gTbl 417 0 con_2048 := ⟨wd_2061, wd_137, mh_X12_numberAt, .inr (.inr ⟨rfl, wd_2058, wd_2060, wd_114, ⟨_, rfl, pd_X12_numberAt⟩, 12, _, TX12, 45, rfl, rfl⟩)⟩
theorem ck_RX12_417_2051 : COK2 RX12 vwCl gTbl 417 0 con_2051 := ⟨wd_2061, wd_137, mh_X12_numberAt, .inr (.inr ⟨rfl, wd_2058, wd_2060, wd_114, ⟨_, rfl, pd_X12_numberAt⟩, 12, _, TX12, 45, rfl, rfl⟩)⟩
theorem ck_RX12_417_2054 : COK2 RX12 vwCl gTbl 417 0 con_2054 := ⟨wd_2061, wd_137, mh_X12_numberAt, .inr (.inr ⟨rfl, wd_2058, wd_2060, wd_114, ⟨_, rfl, pd_X12_numberAt⟩, 12, _, TX12, 45, rfl, rfl⟩)⟩
noncomputable def ct_2057 : CTB2 := [(22, 417, 0, con_2054, [0, 2]), (22, 417, 0, con_2051, [0, 2]), (22, 417, 0, con_2048, [0, 2]), (22, 417, 0, con_2045, [0, 2]), (22, 417, 0, con_2042, [0, 2]), (22, 417, 0, con_2039, [0, 2]), (22, 417, 0, con_2036, [0, 2]), (22, 417, 0, con_2033, [0, 2]), (22, 417, 0, con_2030, [0, 2]), (22, 417, 0, con_2027, [0, 2]), (22, 417, 0, con_2024, [0, 2]), (22, 417, 0, con_2021, [0, 2]), (22, 417, 0, con_2018, [0, 2]), (22, 417, 0, con_2015, [0, 2]), (22, 417, 0, con_2012, [0, 2]), (22, 417, 0, con_2009, [0, 2]), (22, 417, 0, con_2006, [0, 2]), (22, 417, 0, con_2002, [0, 2]), (22, 417, 0, con_1999, [0, 2]), (22, 417, 0, con_1996, [0, 2]), (30, 417, 0, con_2055, [0, 2]), (30, 417, 0, con_2052, [0, 2]), (30, 417, 0, con_2049, [0, 2]), (30, 417, 0, con_2046, [0, 2]), (30, 417, 0, con_2043, [0, 2]), (30, 417, 0, con_2040, [0, 2]), (30, 417, 0, con_2037, [0, 2]), (30, 417, 0, con_2034, [0, 2]), (30, 417, 0, con_2031, [0, 2]), (30, 417, 0, con_2028, [0, 2]), (30, 417, 0, con_2025, [0, 2]), (30, 417, 0, con_2022, [0, 2]), (30, 417, 0, con_2019, [0, 2]), (30, 417, 0, con_2016, [0, 2]), (30, 417, 0, con_2013, [0, 2]), (30, 417, 0, con_2010, [0, 2]), (30, 417, 0, con_2007, [0, 2]), (30, 417, 0, con_2003, [0, 2]), (30, 417, 0, con_2000, [0, 2]), (30, 417, 0, con_1997, [0, 2]), (42, 417, 0, con_2056, [0, 2]), (42, 417, 0, con_2053, [0, 2]), (42, 417, 0, con_2050, [0, 2]), (42, 417, 0, con_2047, [0, 2]), (42, 417, 0, con_2044, [0, 2]), (42, 417, 0, con_2041, [0, 2]), (42, 417, 0, con_2038, [0, 2]), (42, 417, 0, con_2035, [0, 2]), (42, 417, 0, con_2032, [0, 2]), (42, 417, 0, con_2029, [0, 2]), (42, 417, 0, con_2026, [0, 2]), (42, 417, 0, con_2023, [0, 2]), (42, 417, 0, con_2020, [0, 2]), (42, 417, 0, con_2017, [0, 2]), (42, 417, 0, con_2014, [0, 2]), (42, 417, 0, con_2011, [0, 2]), (42, 417, 0, con_2008, [0, 2]), (42, 417, 0, con_2004, [0, 2]), (42, 417, 0, con_2001, [0, 2]), (42, 417, 0, con_1998, [0, 2])]
noncomputable def gi_1863 : GI := jl_n [gp_746, gp_487, jl_z 3]
noncomputable def cu_2057_0 : List CUT2 := [((2, [lq 0 6 0, lq 1 0 3, lq 2 0 0], [], gi_1863, hq_915), [], ([], 60)), ((2, [lq 0 6 0, lq 1 0 3, lq 2 0 3], [], gi_1863, hq_915), [], ([], 57)), ((2, [lq 0 6 0, lq 1 0 3, lq 2 0 6], [], gi_1863, hq_915), [], ([], 54)), ((2, [lq 0 6 0, lq 1 0 3, lq 2 0 9], [], gi_1863, hq_915), [], ([], 51)), ((2, [lq 0 6 0, lq 1 0 3, lq 2 0 12], [], gi_1863, hq_915), [], ([], 48)), ((2, [lq 0 6 0, lq 1 0 3, lq 2 0 15], [], gi_1863, hq_915), [], ([], 45)), ((2, [lq 0 6 0, lq 1 0 3, lq 2 0 18], [], gi_1863, hq_915), [], ([], 42)), ((2, [lq 0 6 0, lq 1 0 3, lq 2 0 21], [], gi_1863, hq_915), [], ([], 39)), ((2, [lq 0 6 0, lq 1 0 3, lq 2 0 24], [], gi_1863, hq_915), [], ([], 36)), ((2, [lq 0 6 0, lq 1 0 3, lq 2 0 27], [], gi_1863, hq_915), [], ([], 33)), ((2, [lq 0 6 0, lq 1 0 3, lq 2 0 30], [], gi_1863, hq_915), [], ([], 30)), ((2, [lq 0 6 0, lq 1 0 3, lq 2 0 33], [], gi_1863, hq_915), [], ([], 27)), ((2, [lq 0 6 0, lq 1 0 3, lq 2 0 36], [], gi_1863, hq_915), [], ([], 24)), ((2, [lq 0 6 0, lq 1 0 3, lq 2 0 39], [], gi_1863, hq_915), [], ([], 21)), ((2, [lq 0 6 0, lq 1 0 3, lq 2 0 42], [], gi_1863, hq_915), [], ([], 18)), ((2, [lq 0 6 0, lq 1 0 3, lq 2 0 45], [], gi_1863, hq_915), [], ([], 15)), ((2, [lq 0 6 0, lq 1 0 3, lq 2 0 48], [], gi_1863, hq_915), [], ([], 12)), ((2, [lq 0 6 0, lq 1 0 3, lq 2 0 51], [], gi_1863, hq_915), [], ([], 9))]
noncomputable def cu_2057_1 : List CUT2 := [((2, [lq 0 6 0, lq 1 0 3, lq 2 0 54], [], gi_1863, hq_915), [], ([], 6)), ((2, [lq 0 6 0, lq 1 0 3, lq 2 0 57], [], gi_1863, hq_915), [], ([], 3)), ((2, [lq 0 6 0, lq 1 0 3, lq 2 0 60], [], gi_1863, hq_915), [], ([], 0))]
noncomputable def cu_2057 : List CUT2 := cu_2057_0 ++ (cu_2057_1)
theorem ch_2057 : staG tb_X12_isSeen 1 bt_RX12 [] ct_2057 [] [] cu_2057 37 con_2057 = true := by decide +kernel
theorem cc_2057_0 : cu_2057_0.all (cutG tb_X12_isSeen 1 bt_RX12 [] ct_2057 [] [] cu_2057 37 con_2057) = true := by decide +kernel
theorem cc_2057_1 : cu_2057_1.all (cutG tb_X12_isSeen 1 bt_RX12 [] ct_2057 [] [] cu_2057 37 con_2057) = true := by decide +kernel
theorem cto_2057 (l : Launch) : CTOK2 l RX12 vwCl gTbl ct_2057 := ct2_cons (vl_2054 l) ck_RX12_417_2054 (ct2_cons (vl_2051 l) ck_RX12_417_2051 (ct2_cons (vl_2048 l) ck_RX12_417_2048 (ct2_cons (vl_2045 l) ck_RX12_417_2045 (ct2_cons (vl_2042 l) ck_RX12_417_2042 (ct2_cons (vl_2039 l) ck_RX12_417_2039 (ct2_cons (vl_2036 l) ck_RX12_417_2036 (ct2_cons (vl_2033 l) ck_RX12_417_2033 (ct2_cons (vl_2030 l) ck_RX12_417_2030 (ct2_cons (vl_2027 l) ck_RX12_417_2027 (ct2_cons (vl_2024 l) ck_RX12_417_2024 (ct2_cons (vl_2021 l) ck_RX12_417_2021 (ct2_cons (vl_2018 l) ck_RX12_417_2018 (ct2_cons (vl_2015 l) ck_RX12_417_2015 (ct2_cons (vl_2012 l) ck_RX12_417_2012 (ct2_cons (vl_2009 l) ck_RX12_417_2009 (ct2_cons (vl_2006 l) ck_RX12_417_2006 (ct2_cons (vl_2002 l) ck_RX12_417_2002 (ct2_cons (vl_1999 l) ck_RX12_417_1999 (ct2_cons (vl_1996 l) ck_RX12_417_1996 (ct2_cons (vl_2055 l) ck_RX12_417_2055 (ct2_cons (vl_2052 l) ck_RX12_417_2052 (ct2_cons (vl_2049 l) ck_RX12_417_2049 (ct2_cons (vl_2046 l) ck_RX12_417_2046 (ct2_cons (vl_2043 l) ck_RX12_417_2043 (ct2_cons (vl_2040 l) ck_RX12_417_2040 (ct2_cons (vl_2037 l) ck_RX12_417_2037 (ct2_cons (vl_2034 l) ck_RX12_417_2034 (ct2_cons (vl_2031 l) ck_RX12_417_2031 (ct2_cons (vl_2028 l) ck_RX12_417_2028 (ct2_cons (vl_2025 l) ck_RX12_417_2025 (ct2_cons (vl_2022 l) ck_RX12_417_2022 (ct2_cons (vl_2019 l) ck_RX12_417_2019 (ct2_cons (vl_2016 l) ck_RX12_417_2016 (ct2_cons (vl_2013 l) ck_RX12_417_2013 (ct2_cons (vl_2010 l) ck_RX12_417_2010 (ct2_cons (vl_2007 l) ck_RX12_417_2007 (ct2_cons (vl_2003 l) ck_RX12_417_2003 (ct2_cons (vl_2000 l) ck_RX12_417_2000 (ct2_cons (vl_1997 l) ck_RX12_417_1997 (ct2_cons (vl_2056 l) ck_RX12_417_2056 (ct2_cons (vl_2053 l) ck_RX12_417_2053 (ct2_cons (vl_2050 l) ck_RX12_417_2050 (ct2_cons (vl_2047 l) ck_RX12_417_2047 (ct2_cons (vl_2044 l) ck_RX12_417_2044 (ct2_cons (vl_2041 l) ck_RX12_417_2041 (ct2_cons (vl_2038 l) ck_RX12_417_2038 (ct2_cons (vl_2035 l) ck_RX12_417_2035 (ct2_cons (vl_2032 l) ck_RX12_417_2032 (ct2_cons (vl_2029 l) ck_RX12_417_2029 (ct2_cons (vl_2026 l) ck_RX12_417_2026 (ct2_cons (vl_2023 l) ck_RX12_417_2023 (ct2_cons (vl_2020 l) ck_RX12_417_2020 (ct2_cons (vl_2017 l) ck_RX12_417_2017 (ct2_cons (vl_2014 l) ck_RX12_417_2014 (ct2_cons (vl_2011 l) ck_RX12_417_2011 (ct2_cons (vl_2008 l) ck_RX12_417_2008 (ct2_cons (vl_2004 l) ck_RX12_417_2004 (ct2_cons (vl_2001 l) ck_RX12_417_2001 (ct2_cons (vl_1998 l) ck_RX12_417_1998 (ct2_nil))))))))))))))))))))))))))))))))))))))))))))))))))))))))))))
theorem vl_2057 (l : Launch) : Vld2 l vwCl gTbl con_2057 := conR_ok3 gT_all (hd_2057) rfl pn_RX12 tk_X12_isSeen bo_RX12 xo_RX12 (cto_2057 l) ch_2057 (cut_app (cut_all cc_2057_0) (cut_all cc_2057_1))
/-- RookHustingModel isSeen -/
noncomputable def gi_1864 : GI := jl_n [gp_746, gp_485]
noncomputable def gi_1865 : GI := jl_n [gp_746, gp_485, jl_z 1]
noncomputable def con_2058 : Con2 := ((yX12_isSeen, cX12_isSeen, 3, (some .boolean)), (1, 22), ([(6, 0, 0), (0, 3, 0)], gi_1864, hc_215, []), [((0, 0, 0), gi_1865, hq_915, [], [1]), ((0, 1, 0), gi_1865, hq_915, [], [1])])
theorem hd_2058 : con_2058.1 = (yX12_isSeen, cX12_isSeen, 3, (some .boolean)) := rfl
noncomputable def ct_2058 : CTB2 := [(22, 417, 0, con_1999, [0, 2]), (22, 417, 0, con_1996, [0, 2]), (30, 417, 0, con_2000, [0, 2]), (30, 417, 0, con_1997, [0, 2]), (42, 417, 0, con_2001, [0, 2]), (42, 417, 0, con_1998, [0, 2])]
noncomputable def gi_1866 : GI := jl_n [gp_746, gp_485, jl_z 3]
noncomputable def cu_2058 : List CUT2 := [((2, [lq 0 6 0, lq 1 0 3, lq 2 0 0], [], gi_1866, hq_915), [], ([], 6)), ((2, [lq 0 6 0, lq 1 0 3, lq 2 0 3], [], gi_1866, hq_915), [], ([], 3)), ((2, [lq 0 6 0, lq 1 0 3, lq 2 0 6], [], gi_1866, hq_915), [], ([], 0))]
theorem ch_2058 : staG tb_X12_isSeen 1 bt_RX12 [] ct_2058 [] [] cu_2058 37 con_2058 = true := by decide +kernel
theorem cc_2058 : cu_2058.all (cutG tb_X12_isSeen 1 bt_RX12 [] ct_2058 [] [] cu_2058 37 con_2058) = true := by decide +kernel
theorem cto_2058 (l : Launch) : CTOK2 l RX12 vwCl gTbl ct_2058 := ct2_cons (vl_1999 l) ck_RX12_417_1999 (ct2_cons (vl_1996 l) ck_RX12_417_1996 (ct2_cons (vl_2000 l) ck_RX12_417_2000 (ct2_cons (vl_1997 l) ck_RX12_417_1997 (ct2_cons (vl_2001 l) ck_RX12_417_2001 (ct2_cons (vl_1998 l) ck_RX12_417_1998 (ct2_nil))))))
theorem vl_2058 (l : Launch) : Vld2 l vwCl gTbl con_2058 := conR_ok3 gT_all (hd_2058) rfl pn_RX12 tk_X12_isSeen bo_RX12 xo_RX12 (cto_2058 l) ch_2058 (cut_all cc_2058)
/-- RookHustingModel isSeen -/
noncomputable def gi_1867 : GI := jl_n [gp_746, gp_483]
noncomputable def gi_1868 : GI := jl_n [gp_746, gp_483, jl_z 1]
noncomputable def con_2059 : Con2 := ((yX12_isSeen, cX12_isSeen, 3, (some .boolean)), (1, 22), ([(6, 0, 0), (0, 3, 0)], gi_1867, hc_215, []), [((0, 0, 0), gi_1868, hq_915, [], [1]), ((0, 1, 0), gi_1868, hq_915, [], [1])])
theorem hd_2059 : con_2059.1 = (yX12_isSeen, cX12_isSeen, 3, (some .boolean)) := rfl
noncomputable def ct_2059 : CTB2 := [(22, 417, 0, con_2051, [0, 2]), (22, 417, 0, con_2048, [0, 2]), (22, 417, 0, con_2045, [0, 2]), (22, 417, 0, con_2042, [0, 2]), (22, 417, 0, con_2039, [0, 2]), (22, 417, 0, con_2036, [0, 2]), (22, 417, 0, con_2033, [0, 2]), (22, 417, 0, con_2030, [0, 2]), (22, 417, 0, con_2027, [0, 2]), (22, 417, 0, con_2024, [0, 2]), (22, 417, 0, con_2021, [0, 2]), (22, 417, 0, con_2018, [0, 2]), (22, 417, 0, con_2015, [0, 2]), (22, 417, 0, con_2012, [0, 2]), (22, 417, 0, con_2009, [0, 2]), (22, 417, 0, con_2006, [0, 2]), (22, 417, 0, con_2002, [0, 2]), (22, 417, 0, con_1999, [0, 2]), (22, 417, 0, con_1996, [0, 2]), (30, 417, 0, con_2052, [0, 2]), (30, 417, 0, con_2049, [0, 2]), (30, 417, 0, con_2046, [0, 2]), (30, 417, 0, con_2043, [0, 2]), (30, 417, 0, con_2040, [0, 2]), (30, 417, 0, con_2037, [0, 2]), (30, 417, 0, con_2034, [0, 2]), (30, 417, 0, con_2031, [0, 2]), (30, 417, 0, con_2028, [0, 2]), (30, 417, 0, con_2025, [0, 2]), (30, 417, 0, con_2022, [0, 2]), (30, 417, 0, con_2019, [0, 2]), (30, 417, 0, con_2016, [0, 2]), (30, 417, 0, con_2013, [0, 2]), (30, 417, 0, con_2010, [0, 2]), (30, 417, 0, con_2007, [0, 2]), (30, 417, 0, con_2003, [0, 2]), (30, 417, 0, con_2000, [0, 2]), (30, 417, 0, con_1997, [0, 2]), (42, 417, 0, con_2053, [0, 2]), (42, 417, 0, con_2050, [0, 2]), (42, 417, 0, con_2047, [0, 2]), (42, 417, 0, con_2044, [0, 2]), (42, 417, 0, con_2041, [0, 2]), (42, 417, 0, con_2038, [0, 2]), (42, 417, 0, con_2035, [0, 2]), (42, 417, 0, con_2032, [0, 2]), (42, 417, 0, con_2029, [0, 2]), (42, 417, 0, con_2026, [0, 2]), (42, 417, 0, con_2023, [0, 2]), (42, 417, 0, con_2020, [0, 2]), (42, 417, 0, con_2017, [0, 2]), (42, 417, 0, con_2014, [0, 2]), (42, 417, 0, con_2011, [0, 2]), (42, 417, 0, con_2008, [0, 2]), (42, 417, 0, con_2004, [0, 2]), (42, 417, 0, con_2001, [0, 2]), (42, 417, 0, con_1998, [0, 2])]
noncomputable def gi_1869 : GI := jl_n [gp_746, gp_483, jl_z 3]
noncomputable def cu_2059_0 : List CUT2 := [((2, [lq 0 6 0, lq 1 0 3, lq 2 0 0], [], gi_1869, hq_915), [], ([], 57)), ((2, [lq 0 6 0, lq 1 0 3, lq 2 0 3], [], gi_1869, hq_915), [], ([], 54)), ((2, [lq 0 6 0, lq 1 0 3, lq 2 0 6], [], gi_1869, hq_915), [], ([], 51)), ((2, [lq 0 6 0, lq 1 0 3, lq 2 0 9], [], gi_1869, hq_915), [], ([], 48)), ((2, [lq 0 6 0, lq 1 0 3, lq 2 0 12], [], gi_1869, hq_915), [], ([], 45)), ((2, [lq 0 6 0, lq 1 0 3, lq 2 0 15], [], gi_1869, hq_915), [], ([], 42)), ((2, [lq 0 6 0, lq 1 0 3, lq 2 0 18], [], gi_1869, hq_915), [], ([], 39)), ((2, [lq 0 6 0, lq 1 0 3, lq 2 0 21], [], gi_1869, hq_915), [], ([], 36)), ((2, [lq 0 6 0, lq 1 0 3, lq 2 0 24], [], gi_1869, hq_915), [], ([], 33)), ((2, [lq 0 6 0, lq 1 0 3, lq 2 0 27], [], gi_1869, hq_915), [], ([], 30)), ((2, [lq 0 6 0, lq 1 0 3, lq 2 0 30], [], gi_1869, hq_915), [], ([], 27)), ((2, [lq 0 6 0, lq 1 0 3, lq 2 0 33], [], gi_1869, hq_915), [], ([], 24)), ((2, [lq 0 6 0, lq 1 0 3, lq 2 0 36], [], gi_1869, hq_915), [], ([], 21)), ((2, [lq 0 6 0, lq 1 0 3, lq 2 0 39], [], gi_1869, hq_915), [], ([], 18)), ((2, [lq 0 6 0, lq 1 0 3, lq 2 0 42], [], gi_1869, hq_915), [], ([], 15)), ((2, [lq 0 6 0, lq 1 0 3, lq 2 0 45], [], gi_1869, hq_915), [], ([], 12)), ((2, [lq 0 6 0, lq 1 0 3, lq 2 0 48], [], gi_1869, hq_915), [], ([], 9)), ((2, [lq 0 6 0, lq 1 0 3, lq 2 0 51], [], gi_1869, hq_915), [], ([], 6))]
noncomputable def cu_2059_1 : List CUT2 := [((2, [lq 0 6 0, lq 1 0 3, lq 2 0 54], [], gi_1869, hq_915), [], ([], 3)), ((2, [lq 0 6 0, lq 1 0 3, lq 2 0 57], [], gi_1869, hq_915), [], ([], 0))]
noncomputable def cu_2059 : List CUT2 := cu_2059_0 ++ (cu_2059_1)
theorem ch_2059 : staG tb_X12_isSeen 1 bt_RX12 [] ct_2059 [] [] cu_2059 37 con_2059 = true := by decide +kernel
theorem cc_2059_0 : cu_2059_0.all (cutG tb_X12_isSeen 1 bt_RX12 [] ct_2059 [] [] cu_2059 37 con_2059) = true := by decide +kernel
theorem cc_2059_1 : cu_2059_1.all (cutG tb_X12_isSeen 1 bt_RX12 [] ct_2059 [] [] cu_2059 37 con_2059) = true := by decide +kernel
theorem cto_2059 (l : Launch) : CTOK2 l RX12 vwCl gTbl ct_2059 := ct2_cons (vl_2051 l) ck_RX12_417_2051 (ct2_cons (vl_2048 l) ck_RX12_417_2048 (ct2_cons (vl_2045 l) ck_RX12_417_2045 (ct2_cons (vl_2042 l) ck_RX12_417_2042 (ct2_cons (vl_2039 l) ck_RX12_417_2039 (ct2_cons (vl_2036 l) ck_RX12_417_2036 (ct2_cons (vl_2033 l) ck_RX12_417_2033 (ct2_cons (vl_2030 l) ck_RX12_417_2030 (ct2_cons (vl_2027 l) ck_RX12_417_2027 (ct2_cons (vl_2024 l) ck_RX12_417_2024 (ct2_cons (vl_2021 l) ck_RX12_417_2021 (ct2_cons (vl_2018 l) ck_RX12_417_2018 (ct2_cons (vl_2015 l) ck_RX12_417_2015 (ct2_cons (vl_2012 l) ck_RX12_417_2012 (ct2_cons (vl_2009 l) ck_RX12_417_2009 (ct2_cons (vl_2006 l) ck_RX12_417_2006 (ct2_cons (vl_2002 l) ck_RX12_417_2002 (ct2_cons (vl_1999 l) ck_RX12_417_1999 (ct2_cons (vl_1996 l) ck_RX12_417_1996 (ct2_cons (vl_2052 l) ck_RX12_417_2052 (ct2_cons (vl_2049 l) ck_RX12_417_2049 (ct2_cons (vl_2046 l) ck_RX12_417_2046 (ct2_cons (vl_2043 l) ck_RX12_417_2043 (ct2_cons (vl_2040 l) ck_RX12_417_2040 (ct2_cons (vl_2037 l) ck_RX12_417_2037 (ct2_cons (vl_2034 l) ck_RX12_417_2034 (ct2_cons (vl_2031 l) ck_RX12_417_2031 (ct2_cons (vl_2028 l) ck_RX12_417_2028 (ct2_cons (vl_2025 l) ck_RX12_417_2025 (ct2_cons (vl_2022 l) ck_RX12_417_2022 (ct2_cons (vl_2019 l) ck_RX12_417_2019 (ct2_cons (vl_2016 l) ck_RX12_417_2016 (ct2_cons (vl_2013 l) ck_RX12_417_2013 (ct2_cons (vl_2010 l) ck_RX12_417_2010 (ct2_cons (vl_2007 l) ck_RX12_417_2007 (ct2_cons (vl_2003 l) ck_RX12_417_2003 (ct2_cons (vl_2000 l) ck_RX12_417_2000 (ct2_cons (vl_1997 l) ck_RX12_417_1997 (ct2_cons (vl_2053 l) ck_RX12_417_2053 (ct2_cons (vl_2050 l) ck_RX12_417_2050 (ct2_cons (vl_2047 l) ck_RX12_417_2047 (ct2_cons (vl_2044 l) ck_RX12_417_2044 (ct2_cons (vl_2041 l) ck_RX12_417_2041 (ct2_cons (vl_2038 l) ck_RX12_417_2038 (ct2_cons (vl_2035 l) ck_RX12_417_2035 (ct2_cons (vl_2032 l) ck_RX12_417_2032 (ct2_cons (vl_2029 l) ck_RX12_417_2029 (ct2_cons (vl_2026 l) ck_RX12_417_2026 (ct2_cons (vl_2023 l) ck_RX12_417_2023 (ct2_cons (vl_2020 l) ck_RX12_417_2020 (ct2_cons (vl_2017 l) ck_RX12_417_2017 (ct2_cons (vl_2014 l) ck_RX12_417_2014 (ct2_cons (vl_2011 l) ck_RX12_417_2011 (ct2_cons (vl_2008 l) ck_RX12_417_2008 (ct2_cons (vl_2004 l) ck_RX12_417_2004 (ct2_cons (vl_2001 l) ck_RX12_417_2001 (ct2_cons (vl_1998 l) ck_RX12_417_1998 (ct2_nil)))))))))))))))))))))))))))))))))))))))))))))))))))))))))
theorem vl_2059 (l : Launch) : Vld2 l vwCl gTbl con_2059 := conR_ok3 gT_all (hd_2059) rfl pn_RX12 tk_X12_isSeen bo_RX12 xo_RX12 (cto_2059 l) ch_2059 (cut_app (cut_all cc_2059_0) (cut_all cc_2059_1))
/-- RookHustingModel isSeen -/
noncomputable def gi_1870 : GI := jl_n [gp_746, gp_480]
noncomputable def gi_1871 : GI := jl_n [gp_746, gp_480, jl_z 1]
noncomputable def con_2060 : Con2 := ((yX12_isSeen, cX12_isSeen, 3, (some .boolean)), (1, 22), ([(6, 0, 0), (0, 3, 0)], gi_1870, hc_215, []), [((0, 0, 0), gi_1871, hq_915, [], [1]), ((0, 1, 0), gi_1871, hq_915, [], [1])])
theorem hd_2060 : con_2060.1 = (yX12_isSeen, cX12_isSeen, 3, (some .boolean)) := rfl
noncomputable def ct_2060 : CTB2 := [(22, 417, 0, con_2048, [0, 2]), (22, 417, 0, con_2045, [0, 2]), (22, 417, 0, con_2042, [0, 2]), (22, 417, 0, con_2039, [0, 2]), (22, 417, 0, con_2036, [0, 2]), (22, 417, 0, con_2033, [0, 2]), (22, 417, 0, con_2030, [0, 2]), (22, 417, 0, con_2027, [0, 2]), (22, 417, 0, con_2024, [0, 2]), (22, 417, 0, con_2021, [0, 2]), (22, 417, 0, con_2018, [0, 2]), (22, 417, 0, con_2015, [0, 2]), (22, 417, 0, con_2012, [0, 2]), (22, 417, 0, con_2009, [0, 2]), (22, 417, 0, con_2006, [0, 2]), (22, 417, 0, con_2002, [0, 2]), (22, 417, 0, con_1999, [0, 2]), (22, 417, 0, con_1996, [0, 2]), (30, 417, 0, con_2049, [0, 2]), (30, 417, 0, con_2046, [0, 2]), (30, 417, 0, con_2043, [0, 2]), (30, 417, 0, con_2040, [0, 2]), (30, 417, 0, con_2037, [0, 2]), (30, 417, 0, con_2034, [0, 2]), (30, 417, 0, con_2031, [0, 2]), (30, 417, 0, con_2028, [0, 2]), (30, 417, 0, con_2025, [0, 2]), (30, 417, 0, con_2022, [0, 2]), (30, 417, 0, con_2019, [0, 2]), (30, 417, 0, con_2016, [0, 2]), (30, 417, 0, con_2013, [0, 2]), (30, 417, 0, con_2010, [0, 2]), (30, 417, 0, con_2007, [0, 2]), (30, 417, 0, con_2003, [0, 2]), (30, 417, 0, con_2000, [0, 2]), (30, 417, 0, con_1997, [0, 2]), (42, 417, 0, con_2050, [0, 2]), (42, 417, 0, con_2047, [0, 2]), (42, 417, 0, con_2044, [0, 2]), (42, 417, 0, con_2041, [0, 2]), (42, 417, 0, con_2038, [0, 2]), (42, 417, 0, con_2035, [0, 2]), (42, 417, 0, con_2032, [0, 2]), (42, 417, 0, con_2029, [0, 2]), (42, 417, 0, con_2026, [0, 2]), (42, 417, 0, con_2023, [0, 2]), (42, 417, 0, con_2020, [0, 2]), (42, 417, 0, con_2017, [0, 2]), (42, 417, 0, con_2014, [0, 2]), (42, 417, 0, con_2011, [0, 2]), (42, 417, 0, con_2008, [0, 2]), (42, 417, 0, con_2004, [0, 2]), (42, 417, 0, con_2001, [0, 2]), (42, 417, 0, con_1998, [0, 2])]
noncomputable def gi_1872 : GI := jl_n [gp_746, gp_480, jl_z 3]
noncomputable def cu_2060 : List CUT2 := [((2, [lq 0 6 0, lq 1 0 3, lq 2 0 0], [], gi_1872, hq_915), [], ([], 54)), ((2, [lq 0 6 0, lq 1 0 3, lq 2 0 3], [], gi_1872, hq_915), [], ([], 51)), ((2, [lq 0 6 0, lq 1 0 3, lq 2 0 6], [], gi_1872, hq_915), [], ([], 48)), ((2, [lq 0 6 0, lq 1 0 3, lq 2 0 9], [], gi_1872, hq_915), [], ([], 45)), ((2, [lq 0 6 0, lq 1 0 3, lq 2 0 12], [], gi_1872, hq_915), [], ([], 42)), ((2, [lq 0 6 0, lq 1 0 3, lq 2 0 15], [], gi_1872, hq_915), [], ([], 39)), ((2, [lq 0 6 0, lq 1 0 3, lq 2 0 18], [], gi_1872, hq_915), [], ([], 36)), ((2, [lq 0 6 0, lq 1 0 3, lq 2 0 21], [], gi_1872, hq_915), [], ([], 33)), ((2, [lq 0 6 0, lq 1 0 3, lq 2 0 24], [], gi_1872, hq_915), [], ([], 30)), ((2, [lq 0 6 0, lq 1 0 3, lq 2 0 27], [], gi_1872, hq_915), [], ([], 27)), ((2, [lq 0 6 0, lq 1 0 3, lq 2 0 30], [], gi_1872, hq_915), [], ([], 24)), ((2, [lq 0 6 0, lq 1 0 3, lq 2 0 33], [], gi_1872, hq_915), [], ([], 21)), ((2, [lq 0 6 0, lq 1 0 3, lq 2 0 36], [], gi_1872, hq_915), [], ([], 18)), ((2, [lq 0 6 0, lq 1 0 3, lq 2 0 39], [], gi_1872, hq_915), [], ([], 15)), ((2, [lq 0 6 0, lq 1 0 3, lq 2 0 42], [], gi_1872, hq_915), [], ([], 12)), ((2, [lq 0 6 0, lq 1 0 3, lq 2 0 45], [], gi_1872, hq_915), [], ([], 9)), ((2, [lq 0 6 0, lq 1 0 3, lq 2 0 48], [], gi_1872, hq_915), [], ([], 6)), ((2, [lq 0 6 0, lq 1 0 3, lq 2 0 51], [], gi_1872, hq_915), [], ([], 3)), ((2, [lq 0 6 0, lq 1 0 3, lq 2 0 54], [], gi_1872, hq_915), [], ([], 0))]
theorem ch_2060 : staG tb_X12_isSeen 1 bt_RX12 [] ct_2060 [] [] cu_2060 37 con_2060 = true := by decide +kernel
theorem cc_2060 : cu_2060.all (cutG tb_X12_isSeen 1 bt_RX12 [] ct_2060 [] [] cu_2060 37 con_2060) = true := by decide +kernel
theorem cto_2060 (l : Launch) : CTOK2 l RX12 vwCl gTbl ct_2060 := ct2_cons (vl_2048 l) ck_RX12_417_2048 (ct2_cons (vl_2045 l) ck_RX12_417_2045 (ct2_cons (vl_2042 l) ck_RX12_417_2042 (ct2_cons (vl_2039 l) ck_RX12_417_2039 (ct2_cons (vl_2036 l) ck_RX12_417_2036 (ct2_cons (vl_2033 l) ck_RX12_417_2033 (ct2_cons (vl_2030 l) ck_RX12_417_2030 (ct2_cons (vl_2027 l) ck_RX12_417_2027 (ct2_cons (vl_2024 l) ck_RX12_417_2024 (ct2_cons (vl_2021 l) ck_RX12_417_2021 (ct2_cons (vl_2018 l) ck_RX12_417_2018 (ct2_cons (vl_2015 l) ck_RX12_417_2015 (ct2_cons (vl_2012 l) ck_RX12_417_2012 (ct2_cons (vl_2009 l) ck_RX12_417_2009 (ct2_cons (vl_2006 l) ck_RX12_417_2006 (ct2_cons (vl_2002 l) ck_RX12_417_2002 (ct2_cons (vl_1999 l) ck_RX12_417_1999 (ct2_cons (vl_1996 l) ck_RX12_417_1996 (ct2_cons (vl_2049 l) ck_RX12_417_2049 (ct2_cons (vl_2046 l) ck_RX12_417_2046 (ct2_cons (vl_2043 l) ck_RX12_417_2043 (ct2_cons (vl_2040 l) ck_RX12_417_2040 (ct2_cons (vl_2037 l) ck_RX12_417_2037 (ct2_cons (vl_2034 l) ck_RX12_417_2034 (ct2_cons (vl_2031 l) ck_RX12_417_2031 (ct2_cons (vl_2028 l) ck_RX12_417_2028 (ct2_cons (vl_2025 l) ck_RX12_417_2025 (ct2_cons (vl_2022 l) ck_RX12_417_2022 (ct2_cons (vl_2019 l) ck_RX12_417_2019 (ct2_cons (vl_2016 l) ck_RX12_417_2016 (ct2_cons (vl_2013 l) ck_RX12_417_2013 (ct2_cons (vl_2010 l) ck_RX12_417_2010 (ct2_cons (vl_2007 l) ck_RX12_417_2007 (ct2_cons (vl_2003 l) ck_RX12_417_2003 (ct2_cons (vl_2000 l) ck_RX12_417_2000 (ct2_cons (vl_1997 l) ck_RX12_417_1997 (ct2_cons (vl_2050 l) ck_RX12_417_2050 (ct2_cons (vl_2047 l) ck_RX12_417_2047 (ct2_cons (vl_2044 l) ck_RX12_417_2044 (ct2_cons (vl_2041 l) ck_RX12_417_2041 (ct2_cons (vl_2038 l) ck_RX12_417_2038 (ct2_cons (vl_2035 l) ck_RX12_417_2035 (ct2_cons (vl_2032 l) ck_RX12_417_2032 (ct2_cons (vl_2029 l) ck_RX12_417_2029 (ct2_cons (vl_2026 l) ck_RX12_417_2026 (ct2_cons (vl_2023 l) ck_RX12_417_2023 (ct2_cons (vl_2020 l) ck_RX12_417_2020 (ct2_cons (vl_2017 l) ck_RX12_417_2017 (ct2_cons (vl_2014 l) ck_RX12_417_2014 (ct2_cons (vl_2011 l) ck_RX12_417_2011 (ct2_cons (vl_2008 l) ck_RX12_417_2008 (ct2_cons (vl_2004 l) ck_RX12_417_2004 (ct2_cons (vl_2001 l) ck_RX12_417_2001 (ct2_cons (vl_1998 l) ck_RX12_417_1998 (ct2_nil))))))))))))))))))))))))))))))))))))))))))))))))))))))
theorem vl_2060 (l : Launch) : Vld2 l vwCl gTbl con_2060 := conR_ok3 gT_all (hd_2060) rfl pn_RX12 tk_X12_isSeen bo_RX12 xo_RX12 (cto_2060 l) ch_2060 (cut_all cc_2060)
