/-! ===== contracts, 42 ===== -/
/-- RookHustingModel askSeen -/
noncomputable def gi_1805 : GI := jl_n [gp_193, gp_724, jl_r 60 (jl_u)]
noncomputable def ac_1161 : AC := .inr (2, jl_n [js_5 180 9223372036854775807 9223372036854775807, js_4 135 60])
noncomputable def gi_1806 : GI := jl_n [gp_193, gp_724, gp_421]
noncomputable def hq_914 : HP := [(false, ac_1097), (false, ac_440), (false, ac_1098), (false, ac_1161)]
noncomputable def gi_1807 : GI := jl_n [gp_729, jl_r 3 (jl_m 0 60), jl_k 0 0, gp_421]
noncomputable def gi_1808 : GI := jl_n [gp_729, gp_730, jl_z 1]
noncomputable def gi_1809 : GI := jl_n [gp_733, gp_430, jl_z 1]
noncomputable def gi_1810 : GI := jl_n [gp_733, gp_433, jl_z 1]
noncomputable def gi_1811 : GI := jl_n [gp_733, gp_436, jl_z 1]
noncomputable def gi_1812 : GI := jl_n [gp_733, gp_439, jl_z 1]
noncomputable def gi_1813 : GI := jl_n [gp_733, gp_442, jl_z 1]
noncomputable def gi_1814 : GI := jl_n [gp_733, gp_445, jl_z 1]
noncomputable def gi_1815 : GI := jl_n [gp_733, gp_447, jl_z 1]
noncomputable def gi_1816 : GI := jl_n [gp_733, gp_450, jl_z 1]
noncomputable def gi_1817 : GI := jl_n [gp_733, gp_453, jl_z 1]
noncomputable def gi_1818 : GI := jl_n [gp_733, gp_456, jl_z 1]
noncomputable def gi_1819 : GI := jl_n [gp_733, gp_459, jl_z 1]
noncomputable def gi_1820 : GI := jl_n [gp_733, gp_462, jl_z 1]
noncomputable def gi_1821 : GI := jl_n [gp_733, gp_465, jl_z 1]
noncomputable def gi_1822 : GI := jl_n [gp_733, gp_468, jl_z 1]
noncomputable def gi_1823 : GI := jl_n [gp_733, gp_471, jl_z 1]
noncomputable def gi_1824 : GI := jl_n [gp_733, gp_474, jl_z 1]
noncomputable def gi_1825 : GI := jl_n [gp_733, gp_477, jl_z 1]
noncomputable def gi_1826 : GI := jl_n [gp_733, gp_479, jl_z 1]
noncomputable def gi_1827 : GI := jl_n [gp_733, gp_481, jl_z 1]
noncomputable def gi_1828 : GI := jl_n [gp_733, gp_483, jl_z 1]
noncomputable def con_2238 : Con2 := ((yX12_askSeen, cX12_askSeen, 4, (some .int)), (2, 47), ([(6, 0, 0), (0, 3, 0), (1, 2, 0)], gi_1805, [ac_1097, ac_440, ac_1098, ac_1161], []), [((0, (-2), 0), gi_1806, hq_914, [], [1]), ((0, (-6), 0), gi_1807, hq_914, [], [1]), ((0, 0, 0), gi_1808, hq_914, [], [1]), ((0, 0, 0), gi_1809, hq_914, [], [1]), ((0, 0, 0), gi_1810, hq_914, [], [1]), ((0, 0, 0), gi_1811, hq_914, [], [1]), ((0, 0, 0), gi_1812, hq_914, [], [1]), ((0, 0, 0), gi_1813, hq_914, [], [1]), ((0, 0, 0), gi_1814, hq_914, [], [1]), ((0, 0, 0), gi_1815, hq_914, [], [1]), ((0, 0, 0), gi_1816, hq_914, [], [1]), ((0, 0, 0), gi_1817, hq_914, [], [1]), ((0, 0, 0), gi_1818, hq_914, [], [1]), ((0, 0, 0), gi_1819, hq_914, [], [1]), ((0, 0, 0), gi_1820, hq_914, [], [1]), ((0, 0, 0), gi_1821, hq_914, [], [1]), ((0, 0, 0), gi_1822, hq_914, [], [1]), ((0, 0, 0), gi_1823, hq_914, [], [1]), ((0, 0, 0), gi_1824, hq_914, [], [1]), ((0, 0, 0), gi_1825, hq_914, [], [1]), ((0, 0, 0), gi_1826, hq_914, [], [1]), ((0, 0, 0), gi_1827, hq_914, [], [1]), ((0, 0, 0), gi_1828, hq_914, [], [1])])
theorem hd_2238 : con_2238.1 = (yX12_askSeen, cX12_askSeen, 4, (some .int)) := rfl
theorem ck_RX12_91_2180 : COK2 RX12 vwCl gTbl 91 1 con_2180 := ⟨wd_1544, wd_137, mh_X12_in, .inl ⟨rfl, wd_1542, wd_1543, pd_X12_in⟩⟩
theorem ck_RX12_417_2179 : COK2 RX12 vwCl gTbl 417 0 con_2179 := ⟨wd_2061, wd_137, mh_X12_numberAt, .inr (.inr ⟨rfl, wd_2058, wd_2060, wd_114, ⟨_, rfl, pd_X12_numberAt⟩, 12, _, TX12, 45, rfl, rfl⟩)⟩
theorem ck_RX12_417_2183 : COK2 RX12 vwCl gTbl 417 0 con_2183 := ⟨wd_2061, wd_137, mh_X12_numberAt, .inr (.inr ⟨rfl, wd_2058, wd_2060, wd_114, ⟨_, rfl, pd_X12_numberAt⟩, 12, _, TX12, 45, rfl, rfl⟩)⟩
theorem ck_RX12_417_2186 : COK2 RX12 vwCl gTbl 417 0 con_2186 := ⟨wd_2061, wd_137, mh_X12_numberAt, .inr (.inr ⟨rfl, wd_2058, wd_2060, wd_114, ⟨_, rfl, pd_X12_numberAt⟩, 12, _, TX12, 45, rfl, rfl⟩)⟩
theorem ck_RX12_417_2189 : COK2 RX12 vwCl gTbl 417 0 con_2189 := ⟨wd_2061, wd_137, mh_X12_numberAt, .inr (.inr ⟨rfl, wd_2058, wd_2060, wd_114, ⟨_, rfl, pd_X12_numberAt⟩, 12, _, TX12, 45, rfl, rfl⟩)⟩
theorem ck_RX12_417_2192 : COK2 RX12 vwCl gTbl 417 0 con_2192 := ⟨wd_2061, wd_137, mh_X12_numberAt, .inr (.inr ⟨rfl, wd_2058, wd_2060, wd_114, ⟨_, rfl, pd_X12_numberAt⟩, 12, _, TX12, 45, rfl, rfl⟩)⟩
theorem ck_RX12_417_2195 : COK2 RX12 vwCl gTbl 417 0 con_2195 := ⟨wd_2061, wd_137, mh_X12_numberAt, .inr (.inr ⟨rfl, wd_2058, wd_2060, wd_114, ⟨_, rfl, pd_X12_numberAt⟩, 12, _, TX12, 45, rfl, rfl⟩)⟩
theorem ck_RX12_417_2198 : COK2 RX12 vwCl gTbl 417 0 con_2198 := ⟨wd_2061, wd_137, mh_X12_numberAt, .inr (.inr ⟨rfl, wd_2058, wd_2060, wd_114, ⟨_, rfl, pd_X12_numberAt⟩, 12, _, TX12, 45, rfl, rfl⟩)⟩
theorem ck_RX12_417_2201 : COK2 RX12 vwCl gTbl 417 0 con_2201 := ⟨wd_2061, wd_137, mh_X12_numberAt, .inr (.inr ⟨rfl, wd_2058, wd_2060, wd_114, ⟨_, rfl, pd_X12_numberAt⟩, 12, _, TX12, 45, rfl, rfl⟩)⟩
theorem ck_RX12_417_2204 : COK2 RX12 vwCl gTbl 417 0 con_2204 := ⟨wd_2061, wd_137, mh_X12_numberAt, .inr (.inr ⟨rfl, wd_2058, wd_2060, wd_114, ⟨_, rfl, pd_X12_numberAt⟩, 12, _, TX12, 45, rfl, rfl⟩)⟩
theorem ck_RX12_417_2207 : COK2 RX12 vwCl gTbl 417 0 con_2207 := ⟨wd_2061, wd_137, mh_X12_numberAt, .inr (.inr ⟨rfl, wd_2058, wd_2060, wd_114, ⟨_, rfl, pd_X12_numberAt⟩, 12, _, TX12, 45, rfl, rfl⟩)⟩
theorem ck_RX12_417_2210 : COK2 RX12 vwCl gTbl 417 0 con_2210 := ⟨wd_2061, wd_137, mh_X12_numberAt, .inr (.inr ⟨rfl, wd_2058, wd_2060, wd_114, ⟨_, rfl, pd_X12_numberAt⟩, 12, _, TX12, 45, rfl, rfl⟩)⟩
theorem ck_RX12_417_2213 : COK2 RX12 vwCl gTbl 417 0 con_2213 := ⟨wd_2061, wd_137, mh_X12_numberAt, .inr (.inr ⟨rfl, wd_2058, wd_2060, wd_114, ⟨_, rfl, pd_X12_numberAt⟩, 12, _, TX12, 45, rfl, rfl⟩)⟩
theorem ck_RX12_417_2216 : COK2 RX12 vwCl gTbl 417 0 con_2216 := ⟨wd_2061, wd_137, mh_X12_numberAt, .inr (.inr ⟨rfl, wd_2058, wd_2060, wd_114, ⟨_, rfl, pd_X12_numberAt⟩, 12, _, TX12, 45, rfl, rfl⟩)⟩
theorem ck_RX12_417_2219 : COK2 RX12 vwCl gTbl 417 0 con_2219 := ⟨wd_2061, wd_137, mh_X12_numberAt, .inr (.inr ⟨rfl, wd_2058, wd_2060, wd_114, ⟨_, rfl, pd_X12_numberAt⟩, 12, _, TX12, 45, rfl, rfl⟩)⟩
theorem ck_RX12_417_2222 : COK2 RX12 vwCl gTbl 417 0 con_2222 := ⟨wd_2061, wd_137, mh_X12_numberAt, .inr (.inr ⟨rfl, wd_2058, wd_2060, wd_114, ⟨_, rfl, pd_X12_numberAt⟩, 12, _, TX12, 45, rfl, rfl⟩)⟩
theorem ck_RX12_417_2225 : COK2 RX12 vwCl gTbl 417 0 con_2225 := ⟨wd_2061, wd_137, mh_X12_numberAt, .inr (.inr ⟨rfl, wd_2058, wd_2060, wd_114, ⟨_, rfl, pd_X12_numberAt⟩, 12, _, TX12, 45, rfl, rfl⟩)⟩
theorem ck_RX12_417_2228 : COK2 RX12 vwCl gTbl 417 0 con_2228 := ⟨wd_2061, wd_137, mh_X12_numberAt, .inr (.inr ⟨rfl, wd_2058, wd_2060, wd_114, ⟨_, rfl, pd_X12_numberAt⟩, 12, _, TX12, 45, rfl, rfl⟩)⟩
theorem ck_RX12_417_2231 : COK2 RX12 vwCl gTbl 417 0 con_2231 := ⟨wd_2061, wd_137, mh_X12_numberAt, .inr (.inr ⟨rfl, wd_2058, wd_2060, wd_114, ⟨_, rfl, pd_X12_numberAt⟩, 12, _, TX12, 45, rfl, rfl⟩)⟩
theorem ck_RX12_417_2234 : COK2 RX12 vwCl gTbl 417 0 con_2234 := ⟨wd_2061, wd_137, mh_X12_numberAt, .inr (.inr ⟨rfl, wd_2058, wd_2060, wd_114, ⟨_, rfl, pd_X12_numberAt⟩, 12, _, TX12, 45, rfl, rfl⟩)⟩
theorem ck_RX12_417_2237 : COK2 RX12 vwCl gTbl 417 0 con_2237 := ⟨wd_2061, wd_137, mh_X12_numberAt, .inr (.inr ⟨rfl, wd_2058, wd_2060, wd_114, ⟨_, rfl, pd_X12_numberAt⟩, 12, _, TX12, 45, rfl, rfl⟩)⟩
theorem ck_RX12_369_2178 : COK2 RX12 vwCl gTbl 369 0 con_2178 := ⟨wd_1902, wd_137, mh_X12_isDay, .inr (.inr ⟨rfl, wd_1899, wd_1901, wd_101, ⟨_, rfl, pd_X12_isDay⟩, 12, _, TX12, 45, rfl, rfl⟩)⟩
theorem ck_RX12_417_2177 : COK2 RX12 vwCl gTbl 417 0 con_2177 := ⟨wd_2061, wd_137, mh_X12_numberAt, .inr (.inr ⟨rfl, wd_2058, wd_2060, wd_114, ⟨_, rfl, pd_X12_numberAt⟩, 12, _, TX12, 45, rfl, rfl⟩)⟩
theorem ck_RX12_417_2182 : COK2 RX12 vwCl gTbl 417 0 con_2182 := ⟨wd_2061, wd_137, mh_X12_numberAt, .inr (.inr ⟨rfl, wd_2058, wd_2060, wd_114, ⟨_, rfl, pd_X12_numberAt⟩, 12, _, TX12, 45, rfl, rfl⟩)⟩
theorem ck_RX12_417_2185 : COK2 RX12 vwCl gTbl 417 0 con_2185 := ⟨wd_2061, wd_137, mh_X12_numberAt, .inr (.inr ⟨rfl, wd_2058, wd_2060, wd_114, ⟨_, rfl, pd_X12_numberAt⟩, 12, _, TX12, 45, rfl, rfl⟩)⟩
theorem ck_RX12_417_2188 : COK2 RX12 vwCl gTbl 417 0 con_2188 := ⟨wd_2061, wd_137, mh_X12_numberAt, .inr (.inr ⟨rfl, wd_2058, wd_2060, wd_114, ⟨_, rfl, pd_X12_numberAt⟩, 12, _, TX12, 45, rfl, rfl⟩)⟩
theorem ck_RX12_417_2191 : COK2 RX12 vwCl gTbl 417 0 con_2191 := ⟨wd_2061, wd_137, mh_X12_numberAt, .inr (.inr ⟨rfl, wd_2058, wd_2060, wd_114, ⟨_, rfl, pd_X12_numberAt⟩, 12, _, TX12, 45, rfl, rfl⟩)⟩
theorem ck_RX12_417_2194 : COK2 RX12 vwCl gTbl 417 0 con_2194 := ⟨wd_2061, wd_137, mh_X12_numberAt, .inr (.inr ⟨rfl, wd_2058, wd_2060, wd_114, ⟨_, rfl, pd_X12_numberAt⟩, 12, _, TX12, 45, rfl, rfl⟩)⟩
theorem ck_RX12_417_2197 : COK2 RX12 vwCl gTbl 417 0 con_2197 := ⟨wd_2061, wd_137, mh_X12_numberAt, .inr (.inr ⟨rfl, wd_2058, wd_2060, wd_114, ⟨_, rfl, pd_X12_numberAt⟩, 12, _, TX12, 45, rfl, rfl⟩)⟩
theorem ck_RX12_417_2200 : COK2 RX12 vwCl gTbl 417 0 con_2200 := ⟨wd_2061, wd_137, mh_X12_numberAt, .inr (.inr ⟨rfl, wd_2058, wd_2060, wd_114, ⟨_, rfl, pd_X12_numberAt⟩, 12, _, TX12, 45, rfl, rfl⟩)⟩
theorem ck_RX12_417_2203 : COK2 RX12 vwCl gTbl 417 0 con_2203 := ⟨wd_2061, wd_137, mh_X12_numberAt, .inr (.inr ⟨rfl, wd_2058, wd_2060, wd_114, ⟨_, rfl, pd_X12_numberAt⟩, 12, _, TX12, 45, rfl, rfl⟩)⟩
theorem ck_RX12_417_2206 : COK2 RX12 vwCl gTbl 417 0 con_2206 := ⟨wd_2061, wd_137, mh_X12_numberAt, .inr (.inr ⟨rfl, wd_2058, wd_2060, wd_114, ⟨_, rfl, pd_X12_numberAt⟩, 12, _, TX12, 45, rfl, rfl⟩)⟩
theorem ck_RX12_417_2209 : COK2 RX12 vwCl gTbl 417 0 con_2209 := ⟨wd_2061, wd_137, mh_X12_numberAt, .inr (.inr ⟨rfl, wd_2058, wd_2060, wd_114, ⟨_, rfl, pd_X12_numberAt⟩, 12, _, TX12, 45, rfl, rfl⟩)⟩
theorem ck_RX12_417_2212 : COK2 RX12 vwCl gTbl 417 0 con_2212 := ⟨wd_2061, wd_137, mh_X12_numberAt, .inr (.inr ⟨rfl, wd_2058, wd_2060, wd_114, ⟨_, rfl, pd_X12_numberAt⟩, 12, _, TX12, 45, rfl, rfl⟩)⟩
theorem ck_RX12_417_2215 : COK2 RX12 vwCl gTbl 417 0 con_2215 := ⟨wd_2061, wd_137, mh_X12_numberAt, .inr (.inr ⟨rfl, wd_2058, wd_2060, wd_114, ⟨_, rfl, pd_X12_numberAt⟩, 12, _, TX12, 45, rfl, rfl⟩)⟩
theorem ck_RX12_417_2218 : COK2 RX12 vwCl gTbl 417 0 con_2218 := ⟨wd_2061, wd_137, mh_X12_numberAt, .inr (.inr ⟨rfl, wd_2058, wd_2060, wd_114, ⟨_, rfl, pd_X12_numberAt⟩, 12, _, TX12, 45, rfl, rfl⟩)⟩
theorem ck_RX12_417_2221 : COK2 RX12 vwCl gTbl 417 0 con_2221 := ⟨wd_2061, wd_137, mh_X12_numberAt, .inr (.inr ⟨rfl, wd_2058, wd_2060, wd_114, ⟨_, rfl, pd_X12_numberAt⟩, 12, _, TX12, 45, rfl, rfl⟩)⟩
theorem ck_RX12_417_2224 : COK2 RX12 vwCl gTbl 417 0 con_2224 := ⟨wd_2061, wd_137, mh_X12_numberAt, .inr (.inr ⟨rfl, wd_2058, wd_2060, wd_114, ⟨_, rfl, pd_X12_numberAt⟩, 12, _, TX12, 45, rfl, rfl⟩)⟩
theorem ck_RX12_417_2227 : COK2 RX12 vwCl gTbl 417 0 con_2227 := ⟨wd_2061, wd_137, mh_X12_numberAt, .inr (.inr ⟨rfl, wd_2058, wd_2060, wd_114, ⟨_, rfl, pd_X12_numberAt⟩, 12, _, TX12, 45, rfl, rfl⟩)⟩
theorem ck_RX12_417_2230 : COK2 RX12 vwCl gTbl 417 0 con_2230 := ⟨wd_2061, wd_137, mh_X12_numberAt, .inr (.inr ⟨rfl, wd_2058, wd_2060, wd_114, ⟨_, rfl, pd_X12_numberAt⟩, 12, _, TX12, 45, rfl, rfl⟩)⟩
theorem ck_RX12_417_2233 : COK2 RX12 vwCl gTbl 417 0 con_2233 := ⟨wd_2061, wd_137, mh_X12_numberAt, .inr (.inr ⟨rfl, wd_2058, wd_2060, wd_114, ⟨_, rfl, pd_X12_numberAt⟩, 12, _, TX12, 45, rfl, rfl⟩)⟩
theorem ck_RX12_417_2236 : COK2 RX12 vwCl gTbl 417 0 con_2236 := ⟨wd_2061, wd_137, mh_X12_numberAt, .inr (.inr ⟨rfl, wd_2058, wd_2060, wd_114, ⟨_, rfl, pd_X12_numberAt⟩, 12, _, TX12, 45, rfl, rfl⟩)⟩
theorem ck_RX12_109_2176 : COK2 RX12 vwCl gTbl 109 0 con_2176 := ⟨wd_1656, wd_137, mh_X12_isField, .inr (.inr ⟨rfl, wd_1653, wd_1655, wd_66, ⟨_, rfl, pd_X12_isField⟩, 12, _, TX12, 45, rfl, rfl⟩)⟩
theorem ck_RX12_417_2175 : COK2 RX12 vwCl gTbl 417 0 con_2175 := ⟨wd_2061, wd_137, mh_X12_numberAt, .inr (.inr ⟨rfl, wd_2058, wd_2060, wd_114, ⟨_, rfl, pd_X12_numberAt⟩, 12, _, TX12, 45, rfl, rfl⟩)⟩
theorem ck_RX12_417_2181 : COK2 RX12 vwCl gTbl 417 0 con_2181 := ⟨wd_2061, wd_137, mh_X12_numberAt, .inr (.inr ⟨rfl, wd_2058, wd_2060, wd_114, ⟨_, rfl, pd_X12_numberAt⟩, 12, _, TX12, 45, rfl, rfl⟩)⟩
theorem ck_RX12_417_2184 : COK2 RX12 vwCl gTbl 417 0 con_2184 := ⟨wd_2061, wd_137, mh_X12_numberAt, .inr (.inr ⟨rfl, wd_2058, wd_2060, wd_114, ⟨_, rfl, pd_X12_numberAt⟩, 12, _, TX12, 45, rfl, rfl⟩)⟩
theorem ck_RX12_417_2187 : COK2 RX12 vwCl gTbl 417 0 con_2187 := ⟨wd_2061, wd_137, mh_X12_numberAt, .inr (.inr ⟨rfl, wd_2058, wd_2060, wd_114, ⟨_, rfl, pd_X12_numberAt⟩, 12, _, TX12, 45, rfl, rfl⟩)⟩
theorem ck_RX12_417_2190 : COK2 RX12 vwCl gTbl 417 0 con_2190 := ⟨wd_2061, wd_137, mh_X12_numberAt, .inr (.inr ⟨rfl, wd_2058, wd_2060, wd_114, ⟨_, rfl, pd_X12_numberAt⟩, 12, _, TX12, 45, rfl, rfl⟩)⟩
theorem ck_RX12_417_2193 : COK2 RX12 vwCl gTbl 417 0 con_2193 := ⟨wd_2061, wd_137, mh_X12_numberAt, .inr (.inr ⟨rfl, wd_2058, wd_2060, wd_114, ⟨_, rfl, pd_X12_numberAt⟩, 12, _, TX12, 45, rfl, rfl⟩)⟩
theorem ck_RX12_417_2196 : COK2 RX12 vwCl gTbl 417 0 con_2196 := ⟨wd_2061, wd_137, mh_X12_numberAt, .inr (.inr ⟨rfl, wd_2058, wd_2060, wd_114, ⟨_, rfl, pd_X12_numberAt⟩, 12, _, TX12, 45, rfl, rfl⟩)⟩
theorem ck_RX12_417_2199 : COK2 RX12 vwCl gTbl 417 0 con_2199 := ⟨wd_2061, wd_137, mh_X12_numberAt, .inr (.inr ⟨rfl, wd_2058, wd_2060, wd_114, ⟨_, rfl, pd_X12_numberAt⟩, 12, _, TX12, 45, rfl, rfl⟩)⟩
theorem ck_RX12_417_2202 : COK2 RX12 vwCl gTbl 417 0 con_2202 := ⟨wd_2061, wd_137, mh_X12_numberAt, .inr (.inr ⟨rfl, wd_2058, wd_2060, wd_114, ⟨_, rfl, pd_X12_numberAt⟩, 12, _, TX12, 45, rfl, rfl⟩)⟩
theorem ck_RX12_417_2205 : COK2 RX12 vwCl gTbl 417 0 con_2205 := ⟨wd_2061, wd_137, mh_X12_numberAt, .inr (.inr ⟨rfl, wd_2058, wd_2060, wd_114, ⟨_, rfl, pd_X12_numberAt⟩, 12, _, TX12, 45, rfl, rfl⟩)⟩
theorem ck_RX12_417_2208 : COK2 RX12 vwCl gTbl 417 0 con_2208 := ⟨wd_2061, wd_137, mh_X12_numberAt, .inr (.inr ⟨rfl, wd_2058, wd_2060, wd_114, ⟨_, rfl, pd_X12_numberAt⟩, 12, _, TX12, 45, rfl, rfl⟩)⟩
theorem ck_RX12_417_2211 : COK2 RX12 vwCl gTbl 417 0 con_2211 := ⟨wd_2061, wd_137, mh_X12_numberAt, .inr (.inr ⟨rfl, wd_2058, wd_2060, wd_114, ⟨_, rfl, pd_X12_numberAt⟩, 12, _, TX12, 45, rfl, rfl⟩)⟩
theorem ck_RX12_417_2214 : COK2 RX12 vwCl gTbl 417 0 con_2214 := ⟨wd_2061, wd_137, mh_X12_numberAt, .inr (.inr ⟨rfl, wd_2058, wd_2060, wd_114, ⟨_, rfl, pd_X12_numberAt⟩, 12, _, TX12, 45, rfl, rfl⟩)⟩
theorem ck_RX12_417_2217 : COK2 RX12 vwCl gTbl 417 0 con_2217 := ⟨wd_2061, wd_137, mh_X12_numberAt, .inr (.inr ⟨rfl, wd_2058, wd_2060, wd_114, ⟨_, rfl, pd_X12_numberAt⟩, 12, _, TX12, 45, rfl, rfl⟩)⟩
theorem ck_RX12_417_2220 : COK2 RX12 vwCl gTbl 417 0 con_2220 := ⟨wd_2061, wd_137, mh_X12_numberAt, .inr (.inr ⟨rfl, wd_2058, wd_2060, wd_114, ⟨_, rfl, pd_X12_numberAt⟩, 12, _, TX12, 45, rfl, rfl⟩)⟩
theorem ck_RX12_417_2223 : COK2 RX12 vwCl gTbl 417 0 con_2223 := ⟨wd_2061, wd_137, mh_X12_numberAt, .inr (.inr ⟨rfl, wd_2058, wd_2060, wd_114, ⟨_, rfl, pd_X12_numberAt⟩, 12, _, TX12, 45, rfl, rfl⟩)⟩
theorem ck_RX12_417_2226 : COK2 RX12 vwCl gTbl 417 0 con_2226 := ⟨wd_2061, wd_137, mh_X12_numberAt, .inr (.inr ⟨rfl, wd_2058, wd_2060, wd_114, ⟨_, rfl, pd_X12_numberAt⟩, 12, _, TX12, 45, rfl, rfl⟩)⟩
theorem ck_RX12_417_2229 : COK2 RX12 vwCl gTbl 417 0 con_2229 := ⟨wd_2061, wd_137, mh_X12_numberAt, .inr (.inr ⟨rfl, wd_2058, wd_2060, wd_114, ⟨_, rfl, pd_X12_numberAt⟩, 12, _, TX12, 45, rfl, rfl⟩)⟩
theorem ck_RX12_417_2232 : COK2 RX12 vwCl gTbl 417 0 con_2232 := ⟨wd_2061, wd_137, mh_X12_numberAt, .inr (.inr ⟨rfl, wd_2058, wd_2060, wd_114, ⟨_, rfl, pd_X12_numberAt⟩, 12, _, TX12, 45, rfl, rfl⟩)⟩
theorem ck_RX12_417_2235 : COK2 RX12 vwCl gTbl 417 0 con_2235 := ⟨wd_2061, wd_137, mh_X12_numberAt, .inr (.inr ⟨rfl, wd_2058, wd_2060, wd_114, ⟨_, rfl, pd_X12_numberAt⟩, 12, _, TX12, 45, rfl, rfl⟩)⟩
theorem ck_RX12_414_2174 : COK2 RX12 vwCl gTbl 414 1 con_2174 := ⟨wd_2057, wd_137, mh_X12_isSlot, .inl ⟨rfl, wd_2055, wd_2056, pd_X12_isSlot⟩⟩
noncomputable def ct_2238 : CTB2 := [(1, 414, 1, con_2174, []), (10, 109, 0, con_651, [0, 1]), (62, 417, 0, con_2235, [0, 3]), (62, 417, 0, con_2232, [0, 3]), (62, 417, 0, con_2229, [0, 3]), (62, 417, 0, con_2226, [0, 3]), (62, 417, 0, con_2223, [0, 3]), (62, 417, 0, con_2220, [0, 3]), (62, 417, 0, con_2217, [0, 3]), (62, 417, 0, con_2214, [0, 3]), (62, 417, 0, con_2211, [0, 3]), (62, 417, 0, con_2208, [0, 3]), (62, 417, 0, con_2205, [0, 3]), (62, 417, 0, con_2202, [0, 3]), (62, 417, 0, con_2199, [0, 3]), (62, 417, 0, con_2196, [0, 3]), (62, 417, 0, con_2193, [0, 3]), (62, 417, 0, con_2190, [0, 3]), (62, 417, 0, con_2187, [0, 3]), (62, 417, 0, con_2184, [0, 3]), (62, 417, 0, con_2181, [0, 3]), (62, 417, 0, con_2175, [0, 3]), (65, 109, 0, con_2176, [0, 1]), (77, 417, 0, con_2236, [0, 3]), (77, 417, 0, con_2233, [0, 3]), (77, 417, 0, con_2230, [0, 3]), (77, 417, 0, con_2227, [0, 3]), (77, 417, 0, con_2224, [0, 3]), (77, 417, 0, con_2221, [0, 3]), (77, 417, 0, con_2218, [0, 3]), (77, 417, 0, con_2215, [0, 3]), (77, 417, 0, con_2212, [0, 3]), (77, 417, 0, con_2209, [0, 3]), (77, 417, 0, con_2206, [0, 3]), (77, 417, 0, con_2203, [0, 3]), (77, 417, 0, con_2200, [0, 3]), (77, 417, 0, con_2197, [0, 3]), (77, 417, 0, con_2194, [0, 3]), (77, 417, 0, con_2191, [0, 3]), (77, 417, 0, con_2188, [0, 3]), (77, 417, 0, con_2185, [0, 3]), (77, 417, 0, con_2182, [0, 3]), (77, 417, 0, con_2177, [0, 3]), (80, 369, 0, con_2178, [0, 1]), (91, 417, 0, con_2237, [0, 3]), (91, 417, 0, con_2234, [0, 3]), (91, 417, 0, con_2231, [0, 3]), (91, 417, 0, con_2228, [0, 3]), (91, 417, 0, con_2225, [0, 3]), (91, 417, 0, con_2222, [0, 3]), (91, 417, 0, con_2219, [0, 3]), (91, 417, 0, con_2216, [0, 3]), (91, 417, 0, con_2213, [0, 3]), (91, 417, 0, con_2210, [0, 3]), (91, 417, 0, con_2207, [0, 3]), (91, 417, 0, con_2204, [0, 3]), (91, 417, 0, con_2201, [0, 3]), (91, 417, 0, con_2198, [0, 3]), (91, 417, 0, con_2195, [0, 3]), (91, 417, 0, con_2192, [0, 3]), (91, 417, 0, con_2189, [0, 3]), (91, 417, 0, con_2186, [0, 3]), (91, 417, 0, con_2183, [0, 3]), (91, 417, 0, con_2179, [0, 3]), (98, 91, 1, con_2180, [])]
noncomputable def gi_1829 : GI := jl_n [gp_729, gp_420, jl_r 60 (jl_u), jl_z 4]
noncomputable def gi_1830 : GI := jl_n [gp_733, jl_i 1 60, gp_446, jl_z 4]
noncomputable def gi_1831 : GI := jl_n [gp_733, jl_i 4 60, gp_478, jl_z 4]
noncomputable def gi_1832 : GI := jl_n [gp_733, jl_i 7 60, gp_482, jl_z 4]
noncomputable def gi_1833 : GI := jl_n [gp_733, jl_i 10 60, gp_429, jl_z 4]
noncomputable def gi_1834 : GI := jl_n [gp_733, jl_i 13 60, gp_432, jl_z 4]
noncomputable def gi_1835 : GI := jl_n [gp_733, jl_i 16 60, gp_435, jl_z 4]
noncomputable def gi_1836 : GI := jl_n [gp_733, jl_i 19 60, gp_438, jl_z 4]
noncomputable def gi_1837 : GI := jl_n [gp_733, jl_i 22 60, gp_441, jl_z 4]
noncomputable def gi_1838 : GI := jl_n [gp_733, jl_i 25 60, gp_444, jl_z 4]
noncomputable def gi_1839 : GI := jl_n [gp_733, jl_i 28 60, gp_449, jl_z 4]
noncomputable def gi_1840 : GI := jl_n [gp_733, jl_i 31 60, gp_452, jl_z 4]
noncomputable def gi_1841 : GI := jl_n [gp_733, jl_i 34 60, gp_455, jl_z 4]
noncomputable def gi_1842 : GI := jl_n [gp_733, jl_i 37 60, gp_458, jl_z 4]
noncomputable def gi_1843 : GI := jl_n [gp_733, jl_i 40 60, gp_461, jl_z 4]
noncomputable def gi_1844 : GI := jl_n [gp_733, jl_i 43 60, gp_464, jl_z 4]
noncomputable def gi_1845 : GI := jl_n [gp_733, jl_i 46 60, gp_467, jl_z 4]
noncomputable def gi_1846 : GI := jl_n [gp_733, jl_i 49 60, gp_470, jl_z 4]
noncomputable def gi_1847 : GI := jl_n [gp_733, jl_i 52 60, gp_473, jl_z 4]
noncomputable def gi_1848 : GI := jl_n [gp_733, jl_i 55 60, gp_735]
noncomputable def gi_1849 : GI := jl_n [gp_733, gp_481, jl_z 4]
noncomputable def cu_2238_0 : List CUT2 := [((48, [lq 0 6 0, lq 1 0 3, lq 2 1 2, lq 3 0 0], [], gi_1829, hq_914), [], ([], 60)), ((48, [lq 0 6 0, lq 1 0 3, lq 2 1 2, lq 3 0 3], [], gi_1830, hq_914), [], ([], 57)), ((48, [lq 0 6 0, lq 1 0 3, lq 2 1 2, lq 3 0 6], [], gi_1831, hq_914), [], ([], 54)), ((48, [lq 0 6 0, lq 1 0 3, lq 2 1 2, lq 3 0 9], [], gi_1832, hq_914), [], ([], 51)), ((48, [lq 0 6 0, lq 1 0 3, lq 2 1 2, lq 3 0 12], [], gi_1833, hq_914), [], ([], 48)), ((48, [lq 0 6 0, lq 1 0 3, lq 2 1 2, lq 3 0 15], [], gi_1834, hq_914), [], ([], 45)), ((48, [lq 0 6 0, lq 1 0 3, lq 2 1 2, lq 3 0 18], [], gi_1835, hq_914), [], ([], 42)), ((48, [lq 0 6 0, lq 1 0 3, lq 2 1 2, lq 3 0 21], [], gi_1836, hq_914), [], ([], 39)), ((48, [lq 0 6 0, lq 1 0 3, lq 2 1 2, lq 3 0 24], [], gi_1837, hq_914), [], ([], 36)), ((48, [lq 0 6 0, lq 1 0 3, lq 2 1 2, lq 3 0 27], [], gi_1838, hq_914), [], ([], 33)), ((48, [lq 0 6 0, lq 1 0 3, lq 2 1 2, lq 3 0 30], [], gi_1839, hq_914), [], ([], 30)), ((48, [lq 0 6 0, lq 1 0 3, lq 2 1 2, lq 3 0 33], [], gi_1840, hq_914), [], ([], 27)), ((48, [lq 0 6 0, lq 1 0 3, lq 2 1 2, lq 3 0 36], [], gi_1841, hq_914), [], ([], 24))]
noncomputable def cu_2238_1 : List CUT2 := [((48, [lq 0 6 0, lq 1 0 3, lq 2 1 2, lq 3 0 39], [], gi_1842, hq_914), [], ([], 21)), ((48, [lq 0 6 0, lq 1 0 3, lq 2 1 2, lq 3 0 42], [], gi_1843, hq_914), [], ([], 18)), ((48, [lq 0 6 0, lq 1 0 3, lq 2 1 2, lq 3 0 45], [], gi_1844, hq_914), [], ([], 15)), ((48, [lq 0 6 0, lq 1 0 3, lq 2 1 2, lq 3 0 48], [], gi_1845, hq_914), [], ([], 12)), ((48, [lq 0 6 0, lq 1 0 3, lq 2 1 2, lq 3 0 51], [], gi_1846, hq_914), [], ([], 9)), ((48, [lq 0 6 0, lq 1 0 3, lq 2 1 2, lq 3 0 54], [], gi_1847, hq_914), [], ([], 6)), ((48, [lq 0 6 0, lq 1 0 3, lq 2 1 2, lq 3 0 57], [], gi_1848, hq_914), [], ([], 3)), ((48, [lq 0 6 0, lq 1 0 3, lq 2 1 2, lq 3 0 60], [], gi_1849, hq_914), [], ([], 0))]
noncomputable def cu_2238 : List CUT2 := cu_2238_0 ++ (cu_2238_1)
theorem ch_2238 : staG tb_X12_askSeen 1 bt_RX12 [] ct_2238 [] [] cu_2238 37 con_2238 = true := by decide +kernel
theorem cc_2238_0 : cu_2238_0.all (cutG tb_X12_askSeen 1 bt_RX12 [] ct_2238 [] [] cu_2238 37 con_2238) = true := by decide +kernel
theorem cc_2238_1 : cu_2238_1.all (cutG tb_X12_askSeen 1 bt_RX12 [] ct_2238 [] [] cu_2238 37 con_2238) = true := by decide +kernel
theorem cto_2238 (l : Launch) : CTOK2 l RX12 vwCl gTbl ct_2238 := ct2_cons (vl_2174 l) ck_RX12_414_2174 (ct2_cons (vl_651 l) ck_RX12_109_651 (ct2_cons (vl_2235 l) ck_RX12_417_2235 (ct2_cons (vl_2232 l) ck_RX12_417_2232 (ct2_cons (vl_2229 l) ck_RX12_417_2229 (ct2_cons (vl_2226 l) ck_RX12_417_2226 (ct2_cons (vl_2223 l) ck_RX12_417_2223 (ct2_cons (vl_2220 l) ck_RX12_417_2220 (ct2_cons (vl_2217 l) ck_RX12_417_2217 (ct2_cons (vl_2214 l) ck_RX12_417_2214 (ct2_cons (vl_2211 l) ck_RX12_417_2211 (ct2_cons (vl_2208 l) ck_RX12_417_2208 (ct2_cons (vl_2205 l) ck_RX12_417_2205 (ct2_cons (vl_2202 l) ck_RX12_417_2202 (ct2_cons (vl_2199 l) ck_RX12_417_2199 (ct2_cons (vl_2196 l) ck_RX12_417_2196 (ct2_cons (vl_2193 l) ck_RX12_417_2193 (ct2_cons (vl_2190 l) ck_RX12_417_2190 (ct2_cons (vl_2187 l) ck_RX12_417_2187 (ct2_cons (vl_2184 l) ck_RX12_417_2184 (ct2_cons (vl_2181 l) ck_RX12_417_2181 (ct2_cons (vl_2175 l) ck_RX12_417_2175 (ct2_cons (vl_2176 l) ck_RX12_109_2176 (ct2_cons (vl_2236 l) ck_RX12_417_2236 (ct2_cons (vl_2233 l) ck_RX12_417_2233 (ct2_cons (vl_2230 l) ck_RX12_417_2230 (ct2_cons (vl_2227 l) ck_RX12_417_2227 (ct2_cons (vl_2224 l) ck_RX12_417_2224 (ct2_cons (vl_2221 l) ck_RX12_417_2221 (ct2_cons (vl_2218 l) ck_RX12_417_2218 (ct2_cons (vl_2215 l) ck_RX12_417_2215 (ct2_cons (vl_2212 l) ck_RX12_417_2212 (ct2_cons (vl_2209 l) ck_RX12_417_2209 (ct2_cons (vl_2206 l) ck_RX12_417_2206 (ct2_cons (vl_2203 l) ck_RX12_417_2203 (ct2_cons (vl_2200 l) ck_RX12_417_2200 (ct2_cons (vl_2197 l) ck_RX12_417_2197 (ct2_cons (vl_2194 l) ck_RX12_417_2194 (ct2_cons (vl_2191 l) ck_RX12_417_2191 (ct2_cons (vl_2188 l) ck_RX12_417_2188 (ct2_cons (vl_2185 l) ck_RX12_417_2185 (ct2_cons (vl_2182 l) ck_RX12_417_2182 (ct2_cons (vl_2177 l) ck_RX12_417_2177 (ct2_cons (vl_2178 l) ck_RX12_369_2178 (ct2_cons (vl_2237 l) ck_RX12_417_2237 (ct2_cons (vl_2234 l) ck_RX12_417_2234 (ct2_cons (vl_2231 l) ck_RX12_417_2231 (ct2_cons (vl_2228 l) ck_RX12_417_2228 (ct2_cons (vl_2225 l) ck_RX12_417_2225 (ct2_cons (vl_2222 l) ck_RX12_417_2222 (ct2_cons (vl_2219 l) ck_RX12_417_2219 (ct2_cons (vl_2216 l) ck_RX12_417_2216 (ct2_cons (vl_2213 l) ck_RX12_417_2213 (ct2_cons (vl_2210 l) ck_RX12_417_2210 (ct2_cons (vl_2207 l) ck_RX12_417_2207 (ct2_cons (vl_2204 l) ck_RX12_417_2204 (ct2_cons (vl_2201 l) ck_RX12_417_2201 (ct2_cons (vl_2198 l) ck_RX12_417_2198 (ct2_cons (vl_2195 l) ck_RX12_417_2195 (ct2_cons (vl_2192 l) ck_RX12_417_2192 (ct2_cons (vl_2189 l) ck_RX12_417_2189 (ct2_cons (vl_2186 l) ck_RX12_417_2186 (ct2_cons (vl_2183 l) ck_RX12_417_2183 (ct2_cons (vl_2179 l) ck_RX12_417_2179 (ct2_cons (vl_2180 l) ck_RX12_91_2180 (ct2_nil)))))))))))))))))))))))))))))))))))))))))))))))))))))))))))))))))
theorem vl_2238 (l : Launch) : Vld2 l vwCl gTbl con_2238 := conR_ok3 gT_all (hd_2238) rfl pn_RX12 tk_X12_askSeen bo_RX12 xo_RX12 (cto_2238 l) ch_2238 (cut_app (cut_all cc_2238_0) (cut_all cc_2238_1))
/-- RookHustingModel numberAt -/
noncomputable def gi_1850 : GI := jl_n [jl_z 48, jl_i 0 16]
noncomputable def gi_1851 : GI := jl_n [jl_z 48, gp_359]
noncomputable def con_2240 : Con2 := ((yX12_numberAt, cX12_numberAt, 3, (some .long)), (0, 0), ([(6, 0, 0), (0, 3, 0), (0, 1, 0)], gi_1850, [ac_1100, ac_1102], []), [((4, 48, 0), gi_1851, [(false, ac_1100), (false, ac_1102)], [], [1])])
theorem hd_2240 : con_2240.1 = (yX12_numberAt, cX12_numberAt, 3, (some .long)) := rfl
noncomputable def cu_2240 : List CUT2 := []
theorem ch_2240 : staG tb_X12_numberAt 1 bt_RX12 [] ct_2 [] [] cu_2240 11 con_2240 = true := by decide +kernel
theorem vl_2240 (l : Launch) : Vld2 l vwCl gTbl con_2240 := conR_ok3 gT_all (hd_2240) rfl pn_RX12 tk_X12_numberAt bo_RX12 xo_RX12 (cto_2 l) ch_2240 cut_nil
/-- RookHustingModel numberAt -/
noncomputable def gi_1852 : GI := jl_n [jl_z 48, jl_i 0 4]
noncomputable def gi_1853 : GI := jl_n [jl_z 48, gp_95]
noncomputable def con_2241 : Con2 := ((yX12_numberAt, cX12_numberAt, 3, (some .long)), (0, 0), ([(6, 0, 0), (0, 3, 0), (0, 0, 0)], gi_1852, [ac_1100, ac_1101], []), [((4, 48, 0), gi_1853, [(false, ac_1100), (false, ac_1101)], [], [1])])
theorem hd_2241 : con_2241.1 = (yX12_numberAt, cX12_numberAt, 3, (some .long)) := rfl
noncomputable def cu_2241 : List CUT2 := []
theorem ch_2241 : staG tb_X12_numberAt 1 bt_RX12 [] ct_2 [] [] cu_2241 11 con_2241 = true := by decide +kernel
theorem vl_2241 (l : Launch) : Vld2 l vwCl gTbl con_2241 := conR_ok3 gT_all (hd_2241) rfl pn_RX12 tk_X12_numberAt bo_RX12 xo_RX12 (cto_2 l) ch_2241 cut_nil
/-- RookHustingModel numberAt -/
noncomputable def gi_1854 : GI := jl_n [jl_z 48, jl_i 0 250]
noncomputable def gi_1855 : GI := jl_n [jl_z 48, jl_i 0 250, jl_z 1]
noncomputable def con_2242 : Con2 := ((yX12_numberAt, cX12_numberAt, 3, (some .long)), (0, 0), ([(6, 0, 0), (0, 3, 0), (0, 2, 0)], gi_1854, [ac_1100, ac_1103], []), [((4, 48, 0), gi_1855, [(false, ac_1100), (false, ac_1103)], [], [1])])
theorem hd_2242 : con_2242.1 = (yX12_numberAt, cX12_numberAt, 3, (some .long)) := rfl
noncomputable def cu_2242 : List CUT2 := []
theorem ch_2242 : staG tb_X12_numberAt 1 bt_RX12 [] ct_2 [] [] cu_2242 11 con_2242 = true := by decide +kernel
theorem vl_2242 (l : Launch) : Vld2 l vwCl gTbl con_2242 := conR_ok3 gT_all (hd_2242) rfl pn_RX12 tk_X12_numberAt bo_RX12 xo_RX12 (cto_2 l) ch_2242 cut_nil
/-- RookHustingModel numberAt -/
noncomputable def con_2243 : Con2 := ((yX12_numberAt, cX12_numberAt, 3, (some .long)), (0, 0), ([(6, 0, 0), (0, 3, 0), (0, 4, 0)], gi_1850, [ac_1100, ac_1105], []), [((4, 48, 0), gi_1851, [(false, ac_1100), (false, ac_1105)], [], [1])])
theorem hd_2243 : con_2243.1 = (yX12_numberAt, cX12_numberAt, 3, (some .long)) := rfl
noncomputable def cu_2243 : List CUT2 := []
theorem ch_2243 : staG tb_X12_numberAt 1 bt_RX12 [] ct_2 [] [] cu_2243 11 con_2243 = true := by decide +kernel
theorem vl_2243 (l : Launch) : Vld2 l vwCl gTbl con_2243 := conR_ok3 gT_all (hd_2243) rfl pn_RX12 tk_X12_numberAt bo_RX12 xo_RX12 (cto_2 l) ch_2243 cut_nil
/-- RookHustingModel numberAt -/
noncomputable def con_2244 : Con2 := ((yX12_numberAt, cX12_numberAt, 3, (some .long)), (0, 0), ([(6, 0, 0), (0, 3, 0), (0, 3, 0)], gi_1852, [ac_1100, ac_1104], []), [((4, 48, 0), gi_1853, [(false, ac_1100), (false, ac_1104)], [], [1])])
theorem hd_2244 : con_2244.1 = (yX12_numberAt, cX12_numberAt, 3, (some .long)) := rfl
noncomputable def cu_2244 : List CUT2 := []
theorem ch_2244 : staG tb_X12_numberAt 1 bt_RX12 [] ct_2 [] [] cu_2244 11 con_2244 = true := by decide +kernel
theorem vl_2244 (l : Launch) : Vld2 l vwCl gTbl con_2244 := conR_ok3 gT_all (hd_2244) rfl pn_RX12 tk_X12_numberAt bo_RX12 xo_RX12 (cto_2 l) ch_2244 cut_nil
/-- RookHustingModel numberAt -/
noncomputable def con_2245 : Con2 := ((yX12_numberAt, cX12_numberAt, 3, (some .long)), (0, 0), ([(6, 0, 0), (0, 3, 0), (0, 5, 0)], gi_1854, [ac_1100, ac_1106], []), [((4, 48, 0), gi_1855, [(false, ac_1100), (false, ac_1106)], [], [1])])
theorem hd_2245 : con_2245.1 = (yX12_numberAt, cX12_numberAt, 3, (some .long)) := rfl
noncomputable def cu_2245 : List CUT2 := []
theorem ch_2245 : staG tb_X12_numberAt 1 bt_RX12 [] ct_2 [] [] cu_2245 11 con_2245 = true := by decide +kernel
theorem vl_2245 (l : Launch) : Vld2 l vwCl gTbl con_2245 := conR_ok3 gT_all (hd_2245) rfl pn_RX12 tk_X12_numberAt bo_RX12 xo_RX12 (cto_2 l) ch_2245 cut_nil
/-- RookHustingModel numberAt -/
noncomputable def con_2246 : Con2 := ((yX12_numberAt, cX12_numberAt, 3, (some .long)), (0, 0), ([(6, 0, 0), (0, 3, 0), (0, 7, 0)], gi_1850, [ac_1100, ac_1108], []), [((4, 48, 0), gi_1851, [(false, ac_1100), (false, ac_1108)], [], [1])])
theorem hd_2246 : con_2246.1 = (yX12_numberAt, cX12_numberAt, 3, (some .long)) := rfl
noncomputable def cu_2246 : List CUT2 := []
theorem ch_2246 : staG tb_X12_numberAt 1 bt_RX12 [] ct_2 [] [] cu_2246 11 con_2246 = true := by decide +kernel
theorem vl_2246 (l : Launch) : Vld2 l vwCl gTbl con_2246 := conR_ok3 gT_all (hd_2246) rfl pn_RX12 tk_X12_numberAt bo_RX12 xo_RX12 (cto_2 l) ch_2246 cut_nil
/-- RookHustingModel numberAt -/
noncomputable def con_2247 : Con2 := ((yX12_numberAt, cX12_numberAt, 3, (some .long)), (0, 0), ([(6, 0, 0), (0, 3, 0), (0, 6, 0)], gi_1852, [ac_1100, ac_1107], []), [((4, 48, 0), gi_1853, [(false, ac_1100), (false, ac_1107)], [], [1])])
theorem hd_2247 : con_2247.1 = (yX12_numberAt, cX12_numberAt, 3, (some .long)) := rfl
noncomputable def cu_2247 : List CUT2 := []
theorem ch_2247 : staG tb_X12_numberAt 1 bt_RX12 [] ct_2 [] [] cu_2247 11 con_2247 = true := by decide +kernel
theorem vl_2247 (l : Launch) : Vld2 l vwCl gTbl con_2247 := conR_ok3 gT_all (hd_2247) rfl pn_RX12 tk_X12_numberAt bo_RX12 xo_RX12 (cto_2 l) ch_2247 cut_nil
/-- RookHustingModel numberAt -/
noncomputable def con_2248 : Con2 := ((yX12_numberAt, cX12_numberAt, 3, (some .long)), (0, 0), ([(6, 0, 0), (0, 3, 0), (0, 8, 0)], gi_1854, [ac_1100, ac_1109], []), [((4, 48, 0), gi_1855, [(false, ac_1100), (false, ac_1109)], [], [1])])
theorem hd_2248 : con_2248.1 = (yX12_numberAt, cX12_numberAt, 3, (some .long)) := rfl
noncomputable def cu_2248 : List CUT2 := []
theorem ch_2248 : staG tb_X12_numberAt 1 bt_RX12 [] ct_2 [] [] cu_2248 11 con_2248 = true := by decide +kernel
theorem vl_2248 (l : Launch) : Vld2 l vwCl gTbl con_2248 := conR_ok3 gT_all (hd_2248) rfl pn_RX12 tk_X12_numberAt bo_RX12 xo_RX12 (cto_2 l) ch_2248 cut_nil
/-- RookHustingModel isSeen -/
noncomputable def gi_1856 : GI := jl_n [gp_736, gp_483]
noncomputable def ac_1162 : AC := .inl (12, jl_n [jl_8 28 26, jl_6 4 1, jl_8 43 14, jl_6 2 1, jl_8 45 1, jl_6 3 1, jl_8 47 1])
noncomputable def ac_1163 : AC := .inr (1, jl_n [js_1 51 4])
noncomputable def ac_1164 : AC := .inr (2, jl_n [js_5 180 9223372036854775807 9223372036854775807, js_4 111 60])
noncomputable def hc_215 : List AC := [ac_1162, ac_1163, ac_1164, am_0]
noncomputable def gi_1857 : GI := jl_n [gp_736, gp_483, jl_z 1]
noncomputable def hq_915 : HP := [(false, ac_1162), (false, ac_1163), (false, ac_1164), (false, am_0)]
noncomputable def con_2249 : Con2 := ((yX12_isSeen, cX12_isSeen, 3, (some .boolean)), (1, 22), ([(6, 0, 0), (0, 3, 0)], gi_1856, hc_215, []), [((0, 0, 0), gi_1857, hq_915, [], [1]), ((0, 1, 0), gi_1857, hq_915, [], [1])])
theorem hd_2249 : con_2249.1 = (yX12_isSeen, cX12_isSeen, 3, (some .boolean)) := rfl
theorem ck_RX12_417_2242 : COK2 RX12 vwCl gTbl 417 0 con_2242 := ⟨wd_2061, wd_137, mh_X12_numberAt, .inr (.inr ⟨rfl, wd_2058, wd_2060, wd_114, ⟨_, rfl, pd_X12_numberAt⟩, 12, _, TX12, 45, rfl, rfl⟩)⟩
theorem ck_RX12_417_2245 : COK2 RX12 vwCl gTbl 417 0 con_2245 := ⟨wd_2061, wd_137, mh_X12_numberAt, .inr (.inr ⟨rfl, wd_2058, wd_2060, wd_114, ⟨_, rfl, pd_X12_numberAt⟩, 12, _, TX12, 45, rfl, rfl⟩)⟩
theorem ck_RX12_417_2248 : COK2 RX12 vwCl gTbl 417 0 con_2248 := ⟨wd_2061, wd_137, mh_X12_numberAt, .inr (.inr ⟨rfl, wd_2058, wd_2060, wd_114, ⟨_, rfl, pd_X12_numberAt⟩, 12, _, TX12, 45, rfl, rfl⟩)⟩
theorem ck_RX12_417_2241 : COK2 RX12 vwCl gTbl 417 0 con_2241 := ⟨wd_2061, wd_137, mh_X12_numberAt, .inr (.inr ⟨rfl, wd_2058, wd_2060, wd_114, ⟨_, rfl, pd_X12_numberAt⟩, 12, _, TX12, 45, rfl, rfl⟩)⟩
theorem ck_RX12_417_2244 : COK2 RX12 vwCl gTbl 417 0 con_2244 := ⟨wd_2061, wd_137, mh_X12_numberAt, .inr (.inr ⟨rfl, wd_2058, wd_2060, wd_114, ⟨_, rfl, pd_X12_numberAt⟩, 12, _, TX12, 45, rfl, rfl⟩)⟩
theorem ck_RX12_417_2247 : COK2 RX12 vwCl gTbl 417 0 con_2247 := ⟨wd_2061, wd_137, mh_X12_numberAt, .inr (.inr ⟨rfl, wd_2058, wd_2060, wd_114, ⟨_, rfl, pd_X12_numberAt⟩, 12, _, TX12, 45, rfl, rfl⟩)⟩
theorem ck_RX12_417_2240 : COK2 RX12 vwCl gTbl 417 0 con_2240 := ⟨wd_2061, wd_137, mh_X12_numberAt, .inr (.inr ⟨rfl, wd_2058, wd_2060, wd_114, ⟨_, rfl, pd_X12_numberAt⟩, 12, _, TX12, 45, rfl, rfl⟩)⟩
theorem ck_RX12_417_2243 : COK2 RX12 vwCl gTbl 417 0 con_2243 := ⟨wd_2061, wd_137, mh_X12_numberAt, .inr (.inr ⟨rfl, wd_2058, wd_2060, wd_114, ⟨_, rfl, pd_X12_numberAt⟩, 12, _, TX12, 45, rfl, rfl⟩)⟩
theorem ck_RX12_417_2246 : COK2 RX12 vwCl gTbl 417 0 con_2246 := ⟨wd_2061, wd_137, mh_X12_numberAt, .inr (.inr ⟨rfl, wd_2058, wd_2060, wd_114, ⟨_, rfl, pd_X12_numberAt⟩, 12, _, TX12, 45, rfl, rfl⟩)⟩
noncomputable def ct_2249 : CTB2 := [(22, 417, 0, con_2246, [0, 2]), (22, 417, 0, con_2243, [0, 2]), (22, 417, 0, con_2240, [0, 2]), (30, 417, 0, con_2247, [0, 2]), (30, 417, 0, con_2244, [0, 2]), (30, 417, 0, con_2241, [0, 2]), (42, 417, 0, con_2248, [0, 2]), (42, 417, 0, con_2245, [0, 2]), (42, 417, 0, con_2242, [0, 2])]
noncomputable def gi_1858 : GI := jl_n [gp_736, gp_483, jl_z 3]
noncomputable def cu_2249 : List CUT2 := [((2, [lq 0 6 0, lq 1 0 3, lq 2 0 0], [], gi_1858, hq_915), [], ([], 9)), ((2, [lq 0 6 0, lq 1 0 3, lq 2 0 3], [], gi_1858, hq_915), [], ([], 6)), ((2, [lq 0 6 0, lq 1 0 3, lq 2 0 6], [], gi_1858, hq_915), [], ([], 3)), ((2, [lq 0 6 0, lq 1 0 3, lq 2 0 9], [], gi_1858, hq_915), [], ([], 0))]
theorem ch_2249 : staG tb_X12_isSeen 1 bt_RX12 [] ct_2249 [] [] cu_2249 37 con_2249 = true := by decide +kernel
theorem cc_2249 : cu_2249.all (cutG tb_X12_isSeen 1 bt_RX12 [] ct_2249 [] [] cu_2249 37 con_2249) = true := by decide +kernel
theorem cto_2249 (l : Launch) : CTOK2 l RX12 vwCl gTbl ct_2249 := ct2_cons (vl_2246 l) ck_RX12_417_2246 (ct2_cons (vl_2243 l) ck_RX12_417_2243 (ct2_cons (vl_2240 l) ck_RX12_417_2240 (ct2_cons (vl_2247 l) ck_RX12_417_2247 (ct2_cons (vl_2244 l) ck_RX12_417_2244 (ct2_cons (vl_2241 l) ck_RX12_417_2241 (ct2_cons (vl_2248 l) ck_RX12_417_2248 (ct2_cons (vl_2245 l) ck_RX12_417_2245 (ct2_cons (vl_2242 l) ck_RX12_417_2242 (ct2_nil)))))))))
theorem vl_2249 (l : Launch) : Vld2 l vwCl gTbl con_2249 := conR_ok3 gT_all (hd_2249) rfl pn_RX12 tk_X12_isSeen bo_RX12 xo_RX12 (cto_2249 l) ch_2249 (cut_all cc_2249)
/-- RookHustingModel numberAt -/
noncomputable def con_2250 : Con2 := ((yX12_numberAt, cX12_numberAt, 3, (some .long)), (0, 0), ([(6, 0, 0), (0, 3, 0), (0, 10, 0)], gi_1850, [ac_1100, ac_1111], []), [((4, 48, 0), gi_1851, [(false, ac_1100), (false, ac_1111)], [], [1])])
theorem hd_2250 : con_2250.1 = (yX12_numberAt, cX12_numberAt, 3, (some .long)) := rfl
noncomputable def cu_2250 : List CUT2 := []
theorem ch_2250 : staG tb_X12_numberAt 1 bt_RX12 [] ct_2 [] [] cu_2250 11 con_2250 = true := by decide +kernel
theorem vl_2250 (l : Launch) : Vld2 l vwCl gTbl con_2250 := conR_ok3 gT_all (hd_2250) rfl pn_RX12 tk_X12_numberAt bo_RX12 xo_RX12 (cto_2 l) ch_2250 cut_nil
/-- RookHustingModel numberAt -/
noncomputable def con_2251 : Con2 := ((yX12_numberAt, cX12_numberAt, 3, (some .long)), (0, 0), ([(6, 0, 0), (0, 3, 0), (0, 9, 0)], gi_1852, [ac_1100, ac_1110], []), [((4, 48, 0), gi_1853, [(false, ac_1100), (false, ac_1110)], [], [1])])
theorem hd_2251 : con_2251.1 = (yX12_numberAt, cX12_numberAt, 3, (some .long)) := rfl
noncomputable def cu_2251 : List CUT2 := []
theorem ch_2251 : staG tb_X12_numberAt 1 bt_RX12 [] ct_2 [] [] cu_2251 11 con_2251 = true := by decide +kernel
theorem vl_2251 (l : Launch) : Vld2 l vwCl gTbl con_2251 := conR_ok3 gT_all (hd_2251) rfl pn_RX12 tk_X12_numberAt bo_RX12 xo_RX12 (cto_2 l) ch_2251 cut_nil
/-- RookHustingModel numberAt -/
noncomputable def con_2252 : Con2 := ((yX12_numberAt, cX12_numberAt, 3, (some .long)), (0, 0), ([(6, 0, 0), (0, 3, 0), (0, 11, 0)], gi_1854, [ac_1100, ac_1112], []), [((4, 48, 0), gi_1855, [(false, ac_1100), (false, ac_1112)], [], [1])])
theorem hd_2252 : con_2252.1 = (yX12_numberAt, cX12_numberAt, 3, (some .long)) := rfl
noncomputable def cu_2252 : List CUT2 := []
theorem ch_2252 : staG tb_X12_numberAt 1 bt_RX12 [] ct_2 [] [] cu_2252 11 con_2252 = true := by decide +kernel
theorem vl_2252 (l : Launch) : Vld2 l vwCl gTbl con_2252 := conR_ok3 gT_all (hd_2252) rfl pn_RX12 tk_X12_numberAt bo_RX12 xo_RX12 (cto_2 l) ch_2252 cut_nil
/-- RookHustingModel numberAt -/
noncomputable def con_2253 : Con2 := ((yX12_numberAt, cX12_numberAt, 3, (some .long)), (0, 0), ([(6, 0, 0), (0, 3, 0), (0, 13, 0)], gi_1850, [ac_1100, ac_1114], []), [((4, 48, 0), gi_1851, [(false, ac_1100), (false, ac_1114)], [], [1])])
theorem hd_2253 : con_2253.1 = (yX12_numberAt, cX12_numberAt, 3, (some .long)) := rfl
noncomputable def cu_2253 : List CUT2 := []
theorem ch_2253 : staG tb_X12_numberAt 1 bt_RX12 [] ct_2 [] [] cu_2253 11 con_2253 = true := by decide +kernel
theorem vl_2253 (l : Launch) : Vld2 l vwCl gTbl con_2253 := conR_ok3 gT_all (hd_2253) rfl pn_RX12 tk_X12_numberAt bo_RX12 xo_RX12 (cto_2 l) ch_2253 cut_nil
/-- RookHustingModel numberAt -/
noncomputable def con_2254 : Con2 := ((yX12_numberAt, cX12_numberAt, 3, (some .long)), (0, 0), ([(6, 0, 0), (0, 3, 0), (0, 12, 0)], gi_1852, [ac_1100, ac_1113], []), [((4, 48, 0), gi_1853, [(false, ac_1100), (false, ac_1113)], [], [1])])
theorem hd_2254 : con_2254.1 = (yX12_numberAt, cX12_numberAt, 3, (some .long)) := rfl
noncomputable def cu_2254 : List CUT2 := []
theorem ch_2254 : staG tb_X12_numberAt 1 bt_RX12 [] ct_2 [] [] cu_2254 11 con_2254 = true := by decide +kernel
theorem vl_2254 (l : Launch) : Vld2 l vwCl gTbl con_2254 := conR_ok3 gT_all (hd_2254) rfl pn_RX12 tk_X12_numberAt bo_RX12 xo_RX12 (cto_2 l) ch_2254 cut_nil
/-- RookHustingModel numberAt -/
noncomputable def con_2255 : Con2 := ((yX12_numberAt, cX12_numberAt, 3, (some .long)), (0, 0), ([(6, 0, 0), (0, 3, 0), (0, 14, 0)], gi_1854, [ac_1100, ac_1115], []), [((4, 48, 0), gi_1855, [(false, ac_1100), (false, ac_1115)], [], [1])])
theorem hd_2255 : con_2255.1 = (yX12_numberAt, cX12_numberAt, 3, (some .long)) := rfl
noncomputable def cu_2255 : List CUT2 := []
theorem ch_2255 : staG tb_X12_numberAt 1 bt_RX12 [] ct_2 [] [] cu_2255 11 con_2255 = true := by decide +kernel
theorem vl_2255 (l : Launch) : Vld2 l vwCl gTbl con_2255 := conR_ok3 gT_all (hd_2255) rfl pn_RX12 tk_X12_numberAt bo_RX12 xo_RX12 (cto_2 l) ch_2255 cut_nil
/-- RookHustingModel numberAt -/
noncomputable def con_2256 : Con2 := ((yX12_numberAt, cX12_numberAt, 3, (some .long)), (0, 0), ([(6, 0, 0), (0, 3, 0), (0, 16, 0)], gi_1850, [ac_1100, ac_1117], []), [((4, 48, 0), gi_1851, [(false, ac_1100), (false, ac_1117)], [], [1])])
theorem hd_2256 : con_2256.1 = (yX12_numberAt, cX12_numberAt, 3, (some .long)) := rfl
noncomputable def cu_2256 : List CUT2 := []
theorem ch_2256 : staG tb_X12_numberAt 1 bt_RX12 [] ct_2 [] [] cu_2256 11 con_2256 = true := by decide +kernel
theorem vl_2256 (l : Launch) : Vld2 l vwCl gTbl con_2256 := conR_ok3 gT_all (hd_2256) rfl pn_RX12 tk_X12_numberAt bo_RX12 xo_RX12 (cto_2 l) ch_2256 cut_nil
/-- RookHustingModel numberAt -/
noncomputable def con_2257 : Con2 := ((yX12_numberAt, cX12_numberAt, 3, (some .long)), (0, 0), ([(6, 0, 0), (0, 3, 0), (0, 15, 0)], gi_1852, [ac_1100, ac_1116], []), [((4, 48, 0), gi_1853, [(false, ac_1100), (false, ac_1116)], [], [1])])
theorem hd_2257 : con_2257.1 = (yX12_numberAt, cX12_numberAt, 3, (some .long)) := rfl
noncomputable def cu_2257 : List CUT2 := []
theorem ch_2257 : staG tb_X12_numberAt 1 bt_RX12 [] ct_2 [] [] cu_2257 11 con_2257 = true := by decide +kernel
theorem vl_2257 (l : Launch) : Vld2 l vwCl gTbl con_2257 := conR_ok3 gT_all (hd_2257) rfl pn_RX12 tk_X12_numberAt bo_RX12 xo_RX12 (cto_2 l) ch_2257 cut_nil
/-- RookHustingModel numberAt -/
noncomputable def con_2258 : Con2 := ((yX12_numberAt, cX12_numberAt, 3, (some .long)), (0, 0), ([(6, 0, 0), (0, 3, 0), (0, 17, 0)], gi_1854, [ac_1100, ac_1118], []), [((4, 48, 0), gi_1855, [(false, ac_1100), (false, ac_1118)], [], [1])])
theorem hd_2258 : con_2258.1 = (yX12_numberAt, cX12_numberAt, 3, (some .long)) := rfl
noncomputable def cu_2258 : List CUT2 := []
theorem ch_2258 : staG tb_X12_numberAt 1 bt_RX12 [] ct_2 [] [] cu_2258 11 con_2258 = true := by decide +kernel
theorem vl_2258 (l : Launch) : Vld2 l vwCl gTbl con_2258 := conR_ok3 gT_all (hd_2258) rfl pn_RX12 tk_X12_numberAt bo_RX12 xo_RX12 (cto_2 l) ch_2258 cut_nil
/-- RookHustingModel numberAt -/
noncomputable def con_2259 : Con2 := ((yX12_numberAt, cX12_numberAt, 3, (some .long)), (0, 0), ([(6, 0, 0), (0, 3, 0), (0, 19, 0)], gi_1850, [ac_1100, ac_1120], []), [((4, 48, 0), gi_1851, [(false, ac_1100), (false, ac_1120)], [], [1])])
theorem hd_2259 : con_2259.1 = (yX12_numberAt, cX12_numberAt, 3, (some .long)) := rfl
noncomputable def cu_2259 : List CUT2 := []
theorem ch_2259 : staG tb_X12_numberAt 1 bt_RX12 [] ct_2 [] [] cu_2259 11 con_2259 = true := by decide +kernel
theorem vl_2259 (l : Launch) : Vld2 l vwCl gTbl con_2259 := conR_ok3 gT_all (hd_2259) rfl pn_RX12 tk_X12_numberAt bo_RX12 xo_RX12 (cto_2 l) ch_2259 cut_nil
/-- RookHustingModel numberAt -/
noncomputable def con_2260 : Con2 := ((yX12_numberAt, cX12_numberAt, 3, (some .long)), (0, 0), ([(6, 0, 0), (0, 3, 0), (0, 18, 0)], gi_1852, [ac_1100, ac_1119], []), [((4, 48, 0), gi_1853, [(false, ac_1100), (false, ac_1119)], [], [1])])
theorem hd_2260 : con_2260.1 = (yX12_numberAt, cX12_numberAt, 3, (some .long)) := rfl
noncomputable def cu_2260 : List CUT2 := []
theorem ch_2260 : staG tb_X12_numberAt 1 bt_RX12 [] ct_2 [] [] cu_2260 11 con_2260 = true := by decide +kernel
theorem vl_2260 (l : Launch) : Vld2 l vwCl gTbl con_2260 := conR_ok3 gT_all (hd_2260) rfl pn_RX12 tk_X12_numberAt bo_RX12 xo_RX12 (cto_2 l) ch_2260 cut_nil
/-- RookHustingModel numberAt -/
noncomputable def con_2261 : Con2 := ((yX12_numberAt, cX12_numberAt, 3, (some .long)), (0, 0), ([(6, 0, 0), (0, 3, 0), (0, 20, 0)], gi_1854, [ac_1100, ac_1121], []), [((4, 48, 0), gi_1855, [(false, ac_1100), (false, ac_1121)], [], [1])])
theorem hd_2261 : con_2261.1 = (yX12_numberAt, cX12_numberAt, 3, (some .long)) := rfl
noncomputable def cu_2261 : List CUT2 := []
theorem ch_2261 : staG tb_X12_numberAt 1 bt_RX12 [] ct_2 [] [] cu_2261 11 con_2261 = true := by decide +kernel
theorem vl_2261 (l : Launch) : Vld2 l vwCl gTbl con_2261 := conR_ok3 gT_all (hd_2261) rfl pn_RX12 tk_X12_numberAt bo_RX12 xo_RX12 (cto_2 l) ch_2261 cut_nil
/-- RookHustingModel numberAt -/
noncomputable def con_2262 : Con2 := ((yX12_numberAt, cX12_numberAt, 3, (some .long)), (0, 0), ([(6, 0, 0), (0, 3, 0), (0, 22, 0)], gi_1850, [ac_1100, ac_1123], []), [((4, 48, 0), gi_1851, [(false, ac_1100), (false, ac_1123)], [], [1])])
theorem hd_2262 : con_2262.1 = (yX12_numberAt, cX12_numberAt, 3, (some .long)) := rfl
noncomputable def cu_2262 : List CUT2 := []
theorem ch_2262 : staG tb_X12_numberAt 1 bt_RX12 [] ct_2 [] [] cu_2262 11 con_2262 = true := by decide +kernel
theorem vl_2262 (l : Launch) : Vld2 l vwCl gTbl con_2262 := conR_ok3 gT_all (hd_2262) rfl pn_RX12 tk_X12_numberAt bo_RX12 xo_RX12 (cto_2 l) ch_2262 cut_nil
/-- RookHustingModel numberAt -/
noncomputable def con_2263 : Con2 := ((yX12_numberAt, cX12_numberAt, 3, (some .long)), (0, 0), ([(6, 0, 0), (0, 3, 0), (0, 21, 0)], gi_1852, [ac_1100, ac_1122], []), [((4, 48, 0), gi_1853, [(false, ac_1100), (false, ac_1122)], [], [1])])
theorem hd_2263 : con_2263.1 = (yX12_numberAt, cX12_numberAt, 3, (some .long)) := rfl
noncomputable def cu_2263 : List CUT2 := []
theorem ch_2263 : staG tb_X12_numberAt 1 bt_RX12 [] ct_2 [] [] cu_2263 11 con_2263 = true := by decide +kernel
theorem vl_2263 (l : Launch) : Vld2 l vwCl gTbl con_2263 := conR_ok3 gT_all (hd_2263) rfl pn_RX12 tk_X12_numberAt bo_RX12 xo_RX12 (cto_2 l) ch_2263 cut_nil
/-- RookHustingModel numberAt -/
noncomputable def con_2264 : Con2 := ((yX12_numberAt, cX12_numberAt, 3, (some .long)), (0, 0), ([(6, 0, 0), (0, 3, 0), (0, 23, 0)], gi_1854, [ac_1100, ac_1124], []), [((4, 48, 0), gi_1855, [(false, ac_1100), (false, ac_1124)], [], [1])])
theorem hd_2264 : con_2264.1 = (yX12_numberAt, cX12_numberAt, 3, (some .long)) := rfl
noncomputable def cu_2264 : List CUT2 := []
theorem ch_2264 : staG tb_X12_numberAt 1 bt_RX12 [] ct_2 [] [] cu_2264 11 con_2264 = true := by decide +kernel
theorem vl_2264 (l : Launch) : Vld2 l vwCl gTbl con_2264 := conR_ok3 gT_all (hd_2264) rfl pn_RX12 tk_X12_numberAt bo_RX12 xo_RX12 (cto_2 l) ch_2264 cut_nil
/-- RookHustingModel numberAt -/
noncomputable def con_2265 : Con2 := ((yX12_numberAt, cX12_numberAt, 3, (some .long)), (0, 0), ([(6, 0, 0), (0, 3, 0), (0, 25, 0)], gi_1850, [ac_1100, ac_1126], []), [((4, 48, 0), gi_1851, [(false, ac_1100), (false, ac_1126)], [], [1])])
theorem hd_2265 : con_2265.1 = (yX12_numberAt, cX12_numberAt, 3, (some .long)) := rfl
noncomputable def cu_2265 : List CUT2 := []
theorem ch_2265 : staG tb_X12_numberAt 1 bt_RX12 [] ct_2 [] [] cu_2265 11 con_2265 = true := by decide +kernel
theorem vl_2265 (l : Launch) : Vld2 l vwCl gTbl con_2265 := conR_ok3 gT_all (hd_2265) rfl pn_RX12 tk_X12_numberAt bo_RX12 xo_RX12 (cto_2 l) ch_2265 cut_nil
/-- RookHustingModel numberAt -/
noncomputable def con_2266 : Con2 := ((yX12_numberAt, cX12_numberAt, 3, (some .long)), (0, 0), ([(6, 0, 0), (0, 3, 0), (0, 24, 0)], gi_1852, [ac_1100, ac_1125], []), [((4, 48, 0), gi_1853, [(false, ac_1100), (false, ac_1125)], [], [1])])
theorem hd_2266 : con_2266.1 = (yX12_numberAt, cX12_numberAt, 3, (some .long)) := rfl
noncomputable def cu_2266 : List CUT2 := []
theorem ch_2266 : staG tb_X12_numberAt 1 bt_RX12 [] ct_2 [] [] cu_2266 11 con_2266 = true := by decide +kernel
theorem vl_2266 (l : Launch) : Vld2 l vwCl gTbl con_2266 := conR_ok3 gT_all (hd_2266) rfl pn_RX12 tk_X12_numberAt bo_RX12 xo_RX12 (cto_2 l) ch_2266 cut_nil
/-- RookHustingModel numberAt -/
noncomputable def con_2267 : Con2 := ((yX12_numberAt, cX12_numberAt, 3, (some .long)), (0, 0), ([(6, 0, 0), (0, 3, 0), (0, 26, 0)], gi_1854, [ac_1100, ac_1127], []), [((4, 48, 0), gi_1855, [(false, ac_1100), (false, ac_1127)], [], [1])])
theorem hd_2267 : con_2267.1 = (yX12_numberAt, cX12_numberAt, 3, (some .long)) := rfl
noncomputable def cu_2267 : List CUT2 := []
theorem ch_2267 : staG tb_X12_numberAt 1 bt_RX12 [] ct_2 [] [] cu_2267 11 con_2267 = true := by decide +kernel
theorem vl_2267 (l : Launch) : Vld2 l vwCl gTbl con_2267 := conR_ok3 gT_all (hd_2267) rfl pn_RX12 tk_X12_numberAt bo_RX12 xo_RX12 (cto_2 l) ch_2267 cut_nil
/-- RookHustingModel numberAt -/
noncomputable def con_2268 : Con2 := ((yX12_numberAt, cX12_numberAt, 3, (some .long)), (0, 0), ([(6, 0, 0), (0, 3, 0), (0, 28, 0)], gi_1850, [ac_1100, ac_1129], []), [((4, 48, 0), gi_1851, [(false, ac_1100), (false, ac_1129)], [], [1])])
theorem hd_2268 : con_2268.1 = (yX12_numberAt, cX12_numberAt, 3, (some .long)) := rfl
noncomputable def cu_2268 : List CUT2 := []
theorem ch_2268 : staG tb_X12_numberAt 1 bt_RX12 [] ct_2 [] [] cu_2268 11 con_2268 = true := by decide +kernel
theorem vl_2268 (l : Launch) : Vld2 l vwCl gTbl con_2268 := conR_ok3 gT_all (hd_2268) rfl pn_RX12 tk_X12_numberAt bo_RX12 xo_RX12 (cto_2 l) ch_2268 cut_nil
/-- RookHustingModel numberAt -/
noncomputable def con_2269 : Con2 := ((yX12_numberAt, cX12_numberAt, 3, (some .long)), (0, 0), ([(6, 0, 0), (0, 3, 0), (0, 27, 0)], gi_1852, [ac_1100, ac_1128], []), [((4, 48, 0), gi_1853, [(false, ac_1100), (false, ac_1128)], [], [1])])
theorem hd_2269 : con_2269.1 = (yX12_numberAt, cX12_numberAt, 3, (some .long)) := rfl
noncomputable def cu_2269 : List CUT2 := []
theorem ch_2269 : staG tb_X12_numberAt 1 bt_RX12 [] ct_2 [] [] cu_2269 11 con_2269 = true := by decide +kernel
theorem vl_2269 (l : Launch) : Vld2 l vwCl gTbl con_2269 := conR_ok3 gT_all (hd_2269) rfl pn_RX12 tk_X12_numberAt bo_RX12 xo_RX12 (cto_2 l) ch_2269 cut_nil
/-- RookHustingModel numberAt -/
noncomputable def con_2270 : Con2 := ((yX12_numberAt, cX12_numberAt, 3, (some .long)), (0, 0), ([(6, 0, 0), (0, 3, 0), (0, 29, 0)], gi_1854, [ac_1100, ac_1130], []), [((4, 48, 0), gi_1855, [(false, ac_1100), (false, ac_1130)], [], [1])])
theorem hd_2270 : con_2270.1 = (yX12_numberAt, cX12_numberAt, 3, (some .long)) := rfl
noncomputable def cu_2270 : List CUT2 := []
theorem ch_2270 : staG tb_X12_numberAt 1 bt_RX12 [] ct_2 [] [] cu_2270 11 con_2270 = true := by decide +kernel
theorem vl_2270 (l : Launch) : Vld2 l vwCl gTbl con_2270 := conR_ok3 gT_all (hd_2270) rfl pn_RX12 tk_X12_numberAt bo_RX12 xo_RX12 (cto_2 l) ch_2270 cut_nil
/-- RookHustingModel numberAt -/
noncomputable def con_2271 : Con2 := ((yX12_numberAt, cX12_numberAt, 3, (some .long)), (0, 0), ([(6, 0, 0), (0, 3, 0), (0, 31, 0)], gi_1850, [ac_1100, ac_1132], []), [((4, 48, 0), gi_1851, [(false, ac_1100), (false, ac_1132)], [], [1])])
theorem hd_2271 : con_2271.1 = (yX12_numberAt, cX12_numberAt, 3, (some .long)) := rfl
noncomputable def cu_2271 : List CUT2 := []
theorem ch_2271 : staG tb_X12_numberAt 1 bt_RX12 [] ct_2 [] [] cu_2271 11 con_2271 = true := by decide +kernel
theorem vl_2271 (l : Launch) : Vld2 l vwCl gTbl con_2271 := conR_ok3 gT_all (hd_2271) rfl pn_RX12 tk_X12_numberAt bo_RX12 xo_RX12 (cto_2 l) ch_2271 cut_nil
/-- RookHustingModel numberAt -/
noncomputable def con_2272 : Con2 := ((yX12_numberAt, cX12_numberAt, 3, (some .long)), (0, 0), ([(6, 0, 0), (0, 3, 0), (0, 30, 0)], gi_1852, [ac_1100, ac_1131], []), [((4, 48, 0), gi_1853, [(false, ac_1100), (false, ac_1131)], [], [1])])
theorem hd_2272 : con_2272.1 = (yX12_numberAt, cX12_numberAt, 3, (some .long)) := rfl
noncomputable def cu_2272 : List CUT2 := []
theorem ch_2272 : staG tb_X12_numberAt 1 bt_RX12 [] ct_2 [] [] cu_2272 11 con_2272 = true := by decide +kernel
theorem vl_2272 (l : Launch) : Vld2 l vwCl gTbl con_2272 := conR_ok3 gT_all (hd_2272) rfl pn_RX12 tk_X12_numberAt bo_RX12 xo_RX12 (cto_2 l) ch_2272 cut_nil
/-- RookHustingModel numberAt -/
noncomputable def con_2273 : Con2 := ((yX12_numberAt, cX12_numberAt, 3, (some .long)), (0, 0), ([(6, 0, 0), (0, 3, 0), (0, 32, 0)], gi_1854, [ac_1100, ac_1133], []), [((4, 48, 0), gi_1855, [(false, ac_1100), (false, ac_1133)], [], [1])])
theorem hd_2273 : con_2273.1 = (yX12_numberAt, cX12_numberAt, 3, (some .long)) := rfl
noncomputable def cu_2273 : List CUT2 := []
theorem ch_2273 : staG tb_X12_numberAt 1 bt_RX12 [] ct_2 [] [] cu_2273 11 con_2273 = true := by decide +kernel
theorem vl_2273 (l : Launch) : Vld2 l vwCl gTbl con_2273 := conR_ok3 gT_all (hd_2273) rfl pn_RX12 tk_X12_numberAt bo_RX12 xo_RX12 (cto_2 l) ch_2273 cut_nil
/-- RookHustingModel numberAt -/
noncomputable def con_2274 : Con2 := ((yX12_numberAt, cX12_numberAt, 3, (some .long)), (0, 0), ([(6, 0, 0), (0, 3, 0), (0, 34, 0)], gi_1850, [ac_1100, ac_1135], []), [((4, 48, 0), gi_1851, [(false, ac_1100), (false, ac_1135)], [], [1])])
theorem hd_2274 : con_2274.1 = (yX12_numberAt, cX12_numberAt, 3, (some .long)) := rfl
noncomputable def cu_2274 : List CUT2 := []
theorem ch_2274 : staG tb_X12_numberAt 1 bt_RX12 [] ct_2 [] [] cu_2274 11 con_2274 = true := by decide +kernel
theorem vl_2274 (l : Launch) : Vld2 l vwCl gTbl con_2274 := conR_ok3 gT_all (hd_2274) rfl pn_RX12 tk_X12_numberAt bo_RX12 xo_RX12 (cto_2 l) ch_2274 cut_nil
/-- RookHustingModel numberAt -/
noncomputable def con_2275 : Con2 := ((yX12_numberAt, cX12_numberAt, 3, (some .long)), (0, 0), ([(6, 0, 0), (0, 3, 0), (0, 33, 0)], gi_1852, [ac_1100, ac_1134], []), [((4, 48, 0), gi_1853, [(false, ac_1100), (false, ac_1134)], [], [1])])
theorem hd_2275 : con_2275.1 = (yX12_numberAt, cX12_numberAt, 3, (some .long)) := rfl
noncomputable def cu_2275 : List CUT2 := []
theorem ch_2275 : staG tb_X12_numberAt 1 bt_RX12 [] ct_2 [] [] cu_2275 11 con_2275 = true := by decide +kernel
theorem vl_2275 (l : Launch) : Vld2 l vwCl gTbl con_2275 := conR_ok3 gT_all (hd_2275) rfl pn_RX12 tk_X12_numberAt bo_RX12 xo_RX12 (cto_2 l) ch_2275 cut_nil
/-- RookHustingModel numberAt -/
noncomputable def con_2276 : Con2 := ((yX12_numberAt, cX12_numberAt, 3, (some .long)), (0, 0), ([(6, 0, 0), (0, 3, 0), (0, 35, 0)], gi_1854, [ac_1100, ac_1136], []), [((4, 48, 0), gi_1855, [(false, ac_1100), (false, ac_1136)], [], [1])])
theorem hd_2276 : con_2276.1 = (yX12_numberAt, cX12_numberAt, 3, (some .long)) := rfl
noncomputable def cu_2276 : List CUT2 := []
theorem ch_2276 : staG tb_X12_numberAt 1 bt_RX12 [] ct_2 [] [] cu_2276 11 con_2276 = true := by decide +kernel
theorem vl_2276 (l : Launch) : Vld2 l vwCl gTbl con_2276 := conR_ok3 gT_all (hd_2276) rfl pn_RX12 tk_X12_numberAt bo_RX12 xo_RX12 (cto_2 l) ch_2276 cut_nil
/-- RookHustingModel numberAt -/
noncomputable def con_2277 : Con2 := ((yX12_numberAt, cX12_numberAt, 3, (some .long)), (0, 0), ([(6, 0, 0), (0, 3, 0), (0, 37, 0)], gi_1850, [ac_1100, ac_1138], []), [((4, 48, 0), gi_1851, [(false, ac_1100), (false, ac_1138)], [], [1])])
theorem hd_2277 : con_2277.1 = (yX12_numberAt, cX12_numberAt, 3, (some .long)) := rfl
noncomputable def cu_2277 : List CUT2 := []
theorem ch_2277 : staG tb_X12_numberAt 1 bt_RX12 [] ct_2 [] [] cu_2277 11 con_2277 = true := by decide +kernel
theorem vl_2277 (l : Launch) : Vld2 l vwCl gTbl con_2277 := conR_ok3 gT_all (hd_2277) rfl pn_RX12 tk_X12_numberAt bo_RX12 xo_RX12 (cto_2 l) ch_2277 cut_nil
/-- RookHustingModel numberAt -/
noncomputable def con_2278 : Con2 := ((yX12_numberAt, cX12_numberAt, 3, (some .long)), (0, 0), ([(6, 0, 0), (0, 3, 0), (0, 36, 0)], gi_1852, [ac_1100, ac_1137], []), [((4, 48, 0), gi_1853, [(false, ac_1100), (false, ac_1137)], [], [1])])
theorem hd_2278 : con_2278.1 = (yX12_numberAt, cX12_numberAt, 3, (some .long)) := rfl
noncomputable def cu_2278 : List CUT2 := []
theorem ch_2278 : staG tb_X12_numberAt 1 bt_RX12 [] ct_2 [] [] cu_2278 11 con_2278 = true := by decide +kernel
theorem vl_2278 (l : Launch) : Vld2 l vwCl gTbl con_2278 := conR_ok3 gT_all (hd_2278) rfl pn_RX12 tk_X12_numberAt bo_RX12 xo_RX12 (cto_2 l) ch_2278 cut_nil
/-- RookHustingModel numberAt -/
noncomputable def con_2279 : Con2 := ((yX12_numberAt, cX12_numberAt, 3, (some .long)), (0, 0), ([(6, 0, 0), (0, 3, 0), (0, 38, 0)], gi_1854, [ac_1100, ac_1139], []), [((4, 48, 0), gi_1855, [(false, ac_1100), (false, ac_1139)], [], [1])])
theorem hd_2279 : con_2279.1 = (yX12_numberAt, cX12_numberAt, 3, (some .long)) := rfl
noncomputable def cu_2279 : List CUT2 := []
theorem ch_2279 : staG tb_X12_numberAt 1 bt_RX12 [] ct_2 [] [] cu_2279 11 con_2279 = true := by decide +kernel
theorem vl_2279 (l : Launch) : Vld2 l vwCl gTbl con_2279 := conR_ok3 gT_all (hd_2279) rfl pn_RX12 tk_X12_numberAt bo_RX12 xo_RX12 (cto_2 l) ch_2279 cut_nil
/-- RookHustingModel numberAt -/
noncomputable def con_2280 : Con2 := ((yX12_numberAt, cX12_numberAt, 3, (some .long)), (0, 0), ([(6, 0, 0), (0, 3, 0), (0, 40, 0)], gi_1850, [ac_1100, ac_1141], []), [((4, 48, 0), gi_1851, [(false, ac_1100), (false, ac_1141)], [], [1])])
theorem hd_2280 : con_2280.1 = (yX12_numberAt, cX12_numberAt, 3, (some .long)) := rfl
noncomputable def cu_2280 : List CUT2 := []
theorem ch_2280 : staG tb_X12_numberAt 1 bt_RX12 [] ct_2 [] [] cu_2280 11 con_2280 = true := by decide +kernel
theorem vl_2280 (l : Launch) : Vld2 l vwCl gTbl con_2280 := conR_ok3 gT_all (hd_2280) rfl pn_RX12 tk_X12_numberAt bo_RX12 xo_RX12 (cto_2 l) ch_2280 cut_nil
/-- RookHustingModel numberAt -/
noncomputable def con_2281 : Con2 := ((yX12_numberAt, cX12_numberAt, 3, (some .long)), (0, 0), ([(6, 0, 0), (0, 3, 0), (0, 39, 0)], gi_1852, [ac_1100, ac_1140], []), [((4, 48, 0), gi_1853, [(false, ac_1100), (false, ac_1140)], [], [1])])
theorem hd_2281 : con_2281.1 = (yX12_numberAt, cX12_numberAt, 3, (some .long)) := rfl
noncomputable def cu_2281 : List CUT2 := []
theorem ch_2281 : staG tb_X12_numberAt 1 bt_RX12 [] ct_2 [] [] cu_2281 11 con_2281 = true := by decide +kernel
theorem vl_2281 (l : Launch) : Vld2 l vwCl gTbl con_2281 := conR_ok3 gT_all (hd_2281) rfl pn_RX12 tk_X12_numberAt bo_RX12 xo_RX12 (cto_2 l) ch_2281 cut_nil
/-- RookHustingModel numberAt -/
noncomputable def con_2282 : Con2 := ((yX12_numberAt, cX12_numberAt, 3, (some .long)), (0, 0), ([(6, 0, 0), (0, 3, 0), (0, 41, 0)], gi_1854, [ac_1100, ac_1142], []), [((4, 48, 0), gi_1855, [(false, ac_1100), (false, ac_1142)], [], [1])])
theorem hd_2282 : con_2282.1 = (yX12_numberAt, cX12_numberAt, 3, (some .long)) := rfl
noncomputable def cu_2282 : List CUT2 := []
theorem ch_2282 : staG tb_X12_numberAt 1 bt_RX12 [] ct_2 [] [] cu_2282 11 con_2282 = true := by decide +kernel
theorem vl_2282 (l : Launch) : Vld2 l vwCl gTbl con_2282 := conR_ok3 gT_all (hd_2282) rfl pn_RX12 tk_X12_numberAt bo_RX12 xo_RX12 (cto_2 l) ch_2282 cut_nil
/-- RookHustingModel numberAt -/
noncomputable def con_2283 : Con2 := ((yX12_numberAt, cX12_numberAt, 3, (some .long)), (0, 0), ([(6, 0, 0), (0, 3, 0), (0, 43, 0)], gi_1850, [ac_1100, ac_1144], []), [((4, 48, 0), gi_1851, [(false, ac_1100), (false, ac_1144)], [], [1])])
theorem hd_2283 : con_2283.1 = (yX12_numberAt, cX12_numberAt, 3, (some .long)) := rfl
noncomputable def cu_2283 : List CUT2 := []
theorem ch_2283 : staG tb_X12_numberAt 1 bt_RX12 [] ct_2 [] [] cu_2283 11 con_2283 = true := by decide +kernel
theorem vl_2283 (l : Launch) : Vld2 l vwCl gTbl con_2283 := conR_ok3 gT_all (hd_2283) rfl pn_RX12 tk_X12_numberAt bo_RX12 xo_RX12 (cto_2 l) ch_2283 cut_nil
/-- RookHustingModel numberAt -/
noncomputable def con_2284 : Con2 := ((yX12_numberAt, cX12_numberAt, 3, (some .long)), (0, 0), ([(6, 0, 0), (0, 3, 0), (0, 42, 0)], gi_1852, [ac_1100, ac_1143], []), [((4, 48, 0), gi_1853, [(false, ac_1100), (false, ac_1143)], [], [1])])
theorem hd_2284 : con_2284.1 = (yX12_numberAt, cX12_numberAt, 3, (some .long)) := rfl
noncomputable def cu_2284 : List CUT2 := []
theorem ch_2284 : staG tb_X12_numberAt 1 bt_RX12 [] ct_2 [] [] cu_2284 11 con_2284 = true := by decide +kernel
theorem vl_2284 (l : Launch) : Vld2 l vwCl gTbl con_2284 := conR_ok3 gT_all (hd_2284) rfl pn_RX12 tk_X12_numberAt bo_RX12 xo_RX12 (cto_2 l) ch_2284 cut_nil
/-- RookHustingModel numberAt -/
noncomputable def con_2285 : Con2 := ((yX12_numberAt, cX12_numberAt, 3, (some .long)), (0, 0), ([(6, 0, 0), (0, 3, 0), (0, 44, 0)], gi_1854, [ac_1100, ac_1145], []), [((4, 48, 0), gi_1855, [(false, ac_1100), (false, ac_1145)], [], [1])])
theorem hd_2285 : con_2285.1 = (yX12_numberAt, cX12_numberAt, 3, (some .long)) := rfl
noncomputable def cu_2285 : List CUT2 := []
theorem ch_2285 : staG tb_X12_numberAt 1 bt_RX12 [] ct_2 [] [] cu_2285 11 con_2285 = true := by decide +kernel
theorem vl_2285 (l : Launch) : Vld2 l vwCl gTbl con_2285 := conR_ok3 gT_all (hd_2285) rfl pn_RX12 tk_X12_numberAt bo_RX12 xo_RX12 (cto_2 l) ch_2285 cut_nil
/-- RookHustingModel numberAt -/
noncomputable def con_2286 : Con2 := ((yX12_numberAt, cX12_numberAt, 3, (some .long)), (0, 0), ([(6, 0, 0), (0, 3, 0), (0, 46, 0)], gi_1850, [ac_1100, ac_1147], []), [((4, 48, 0), gi_1851, [(false, ac_1100), (false, ac_1147)], [], [1])])
theorem hd_2286 : con_2286.1 = (yX12_numberAt, cX12_numberAt, 3, (some .long)) := rfl
noncomputable def cu_2286 : List CUT2 := []
theorem ch_2286 : staG tb_X12_numberAt 1 bt_RX12 [] ct_2 [] [] cu_2286 11 con_2286 = true := by decide +kernel
theorem vl_2286 (l : Launch) : Vld2 l vwCl gTbl con_2286 := conR_ok3 gT_all (hd_2286) rfl pn_RX12 tk_X12_numberAt bo_RX12 xo_RX12 (cto_2 l) ch_2286 cut_nil
/-- RookHustingModel numberAt -/
noncomputable def con_2287 : Con2 := ((yX12_numberAt, cX12_numberAt, 3, (some .long)), (0, 0), ([(6, 0, 0), (0, 3, 0), (0, 45, 0)], gi_1852, [ac_1100, ac_1146], []), [((4, 48, 0), gi_1853, [(false, ac_1100), (false, ac_1146)], [], [1])])
theorem hd_2287 : con_2287.1 = (yX12_numberAt, cX12_numberAt, 3, (some .long)) := rfl
noncomputable def cu_2287 : List CUT2 := []
theorem ch_2287 : staG tb_X12_numberAt 1 bt_RX12 [] ct_2 [] [] cu_2287 11 con_2287 = true := by decide +kernel
theorem vl_2287 (l : Launch) : Vld2 l vwCl gTbl con_2287 := conR_ok3 gT_all (hd_2287) rfl pn_RX12 tk_X12_numberAt bo_RX12 xo_RX12 (cto_2 l) ch_2287 cut_nil
/-- RookHustingModel numberAt -/
noncomputable def con_2288 : Con2 := ((yX12_numberAt, cX12_numberAt, 3, (some .long)), (0, 0), ([(6, 0, 0), (0, 3, 0), (0, 47, 0)], gi_1854, [ac_1100, ac_1148], []), [((4, 48, 0), gi_1855, [(false, ac_1100), (false, ac_1148)], [], [1])])
theorem hd_2288 : con_2288.1 = (yX12_numberAt, cX12_numberAt, 3, (some .long)) := rfl
noncomputable def cu_2288 : List CUT2 := []
theorem ch_2288 : staG tb_X12_numberAt 1 bt_RX12 [] ct_2 [] [] cu_2288 11 con_2288 = true := by decide +kernel
theorem vl_2288 (l : Launch) : Vld2 l vwCl gTbl con_2288 := conR_ok3 gT_all (hd_2288) rfl pn_RX12 tk_X12_numberAt bo_RX12 xo_RX12 (cto_2 l) ch_2288 cut_nil
/-- RookHustingModel numberAt -/
noncomputable def con_2289 : Con2 := ((yX12_numberAt, cX12_numberAt, 3, (some .long)), (0, 0), ([(6, 0, 0), (0, 3, 0), (0, 49, 0)], gi_1850, [ac_1100, ac_1150], []), [((4, 48, 0), gi_1851, [(false, ac_1100), (false, ac_1150)], [], [1])])
theorem hd_2289 : con_2289.1 = (yX12_numberAt, cX12_numberAt, 3, (some .long)) := rfl
noncomputable def cu_2289 : List CUT2 := []
theorem ch_2289 : staG tb_X12_numberAt 1 bt_RX12 [] ct_2 [] [] cu_2289 11 con_2289 = true := by decide +kernel
theorem vl_2289 (l : Launch) : Vld2 l vwCl gTbl con_2289 := conR_ok3 gT_all (hd_2289) rfl pn_RX12 tk_X12_numberAt bo_RX12 xo_RX12 (cto_2 l) ch_2289 cut_nil
/-- RookHustingModel numberAt -/
noncomputable def con_2290 : Con2 := ((yX12_numberAt, cX12_numberAt, 3, (some .long)), (0, 0), ([(6, 0, 0), (0, 3, 0), (0, 48, 0)], gi_1852, [ac_1100, ac_1149], []), [((4, 48, 0), gi_1853, [(false, ac_1100), (false, ac_1149)], [], [1])])
theorem hd_2290 : con_2290.1 = (yX12_numberAt, cX12_numberAt, 3, (some .long)) := rfl
noncomputable def cu_2290 : List CUT2 := []
theorem ch_2290 : staG tb_X12_numberAt 1 bt_RX12 [] ct_2 [] [] cu_2290 11 con_2290 = true := by decide +kernel
theorem vl_2290 (l : Launch) : Vld2 l vwCl gTbl con_2290 := conR_ok3 gT_all (hd_2290) rfl pn_RX12 tk_X12_numberAt bo_RX12 xo_RX12 (cto_2 l) ch_2290 cut_nil
/-- RookHustingModel numberAt -/
noncomputable def con_2291 : Con2 := ((yX12_numberAt, cX12_numberAt, 3, (some .long)), (0, 0), ([(6, 0, 0), (0, 3, 0), (0, 50, 0)], gi_1854, [ac_1100, ac_1151], []), [((4, 48, 0), gi_1855, [(false, ac_1100), (false, ac_1151)], [], [1])])
theorem hd_2291 : con_2291.1 = (yX12_numberAt, cX12_numberAt, 3, (some .long)) := rfl
noncomputable def cu_2291 : List CUT2 := []
theorem ch_2291 : staG tb_X12_numberAt 1 bt_RX12 [] ct_2 [] [] cu_2291 11 con_2291 = true := by decide +kernel
theorem vl_2291 (l : Launch) : Vld2 l vwCl gTbl con_2291 := conR_ok3 gT_all (hd_2291) rfl pn_RX12 tk_X12_numberAt bo_RX12 xo_RX12 (cto_2 l) ch_2291 cut_nil
/-- RookHustingModel numberAt -/
noncomputable def con_2292 : Con2 := ((yX12_numberAt, cX12_numberAt, 3, (some .long)), (0, 0), ([(6, 0, 0), (0, 3, 0), (0, 52, 0)], gi_1850, [ac_1100, ac_1153], []), [((4, 48, 0), gi_1851, [(false, ac_1100), (false, ac_1153)], [], [1])])
theorem hd_2292 : con_2292.1 = (yX12_numberAt, cX12_numberAt, 3, (some .long)) := rfl
noncomputable def cu_2292 : List CUT2 := []
theorem ch_2292 : staG tb_X12_numberAt 1 bt_RX12 [] ct_2 [] [] cu_2292 11 con_2292 = true := by decide +kernel
theorem vl_2292 (l : Launch) : Vld2 l vwCl gTbl con_2292 := conR_ok3 gT_all (hd_2292) rfl pn_RX12 tk_X12_numberAt bo_RX12 xo_RX12 (cto_2 l) ch_2292 cut_nil
/-- RookHustingModel numberAt -/
noncomputable def con_2293 : Con2 := ((yX12_numberAt, cX12_numberAt, 3, (some .long)), (0, 0), ([(6, 0, 0), (0, 3, 0), (0, 51, 0)], gi_1852, [ac_1100, ac_1152], []), [((4, 48, 0), gi_1853, [(false, ac_1100), (false, ac_1152)], [], [1])])
theorem hd_2293 : con_2293.1 = (yX12_numberAt, cX12_numberAt, 3, (some .long)) := rfl
noncomputable def cu_2293 : List CUT2 := []
theorem ch_2293 : staG tb_X12_numberAt 1 bt_RX12 [] ct_2 [] [] cu_2293 11 con_2293 = true := by decide +kernel
theorem vl_2293 (l : Launch) : Vld2 l vwCl gTbl con_2293 := conR_ok3 gT_all (hd_2293) rfl pn_RX12 tk_X12_numberAt bo_RX12 xo_RX12 (cto_2 l) ch_2293 cut_nil
/-- RookHustingModel numberAt -/
noncomputable def con_2294 : Con2 := ((yX12_numberAt, cX12_numberAt, 3, (some .long)), (0, 0), ([(6, 0, 0), (0, 3, 0), (0, 53, 0)], gi_1854, [ac_1100, ac_1154], []), [((4, 48, 0), gi_1855, [(false, ac_1100), (false, ac_1154)], [], [1])])
theorem hd_2294 : con_2294.1 = (yX12_numberAt, cX12_numberAt, 3, (some .long)) := rfl
noncomputable def cu_2294 : List CUT2 := []
theorem ch_2294 : staG tb_X12_numberAt 1 bt_RX12 [] ct_2 [] [] cu_2294 11 con_2294 = true := by decide +kernel
theorem vl_2294 (l : Launch) : Vld2 l vwCl gTbl con_2294 := conR_ok3 gT_all (hd_2294) rfl pn_RX12 tk_X12_numberAt bo_RX12 xo_RX12 (cto_2 l) ch_2294 cut_nil
/-- RookHustingModel numberAt -/
noncomputable def con_2295 : Con2 := ((yX12_numberAt, cX12_numberAt, 3, (some .long)), (0, 0), ([(6, 0, 0), (0, 3, 0), (0, 55, 0)], gi_1850, [ac_1100, ac_1156], []), [((4, 48, 0), gi_1851, [(false, ac_1100), (false, ac_1156)], [], [1])])
theorem hd_2295 : con_2295.1 = (yX12_numberAt, cX12_numberAt, 3, (some .long)) := rfl
noncomputable def cu_2295 : List CUT2 := []
theorem ch_2295 : staG tb_X12_numberAt 1 bt_RX12 [] ct_2 [] [] cu_2295 11 con_2295 = true := by decide +kernel
theorem vl_2295 (l : Launch) : Vld2 l vwCl gTbl con_2295 := conR_ok3 gT_all (hd_2295) rfl pn_RX12 tk_X12_numberAt bo_RX12 xo_RX12 (cto_2 l) ch_2295 cut_nil
/-- RookHustingModel numberAt -/
noncomputable def con_2296 : Con2 := ((yX12_numberAt, cX12_numberAt, 3, (some .long)), (0, 0), ([(6, 0, 0), (0, 3, 0), (0, 54, 0)], gi_1852, [ac_1100, ac_1155], []), [((4, 48, 0), gi_1853, [(false, ac_1100), (false, ac_1155)], [], [1])])
theorem hd_2296 : con_2296.1 = (yX12_numberAt, cX12_numberAt, 3, (some .long)) := rfl
noncomputable def cu_2296 : List CUT2 := []
theorem ch_2296 : staG tb_X12_numberAt 1 bt_RX12 [] ct_2 [] [] cu_2296 11 con_2296 = true := by decide +kernel
theorem vl_2296 (l : Launch) : Vld2 l vwCl gTbl con_2296 := conR_ok3 gT_all (hd_2296) rfl pn_RX12 tk_X12_numberAt bo_RX12 xo_RX12 (cto_2 l) ch_2296 cut_nil
/-- RookHustingModel numberAt -/
noncomputable def con_2297 : Con2 := ((yX12_numberAt, cX12_numberAt, 3, (some .long)), (0, 0), ([(6, 0, 0), (0, 3, 0), (0, 56, 0)], gi_1854, [ac_1100, ac_1157], []), [((4, 48, 0), gi_1855, [(false, ac_1100), (false, ac_1157)], [], [1])])
theorem hd_2297 : con_2297.1 = (yX12_numberAt, cX12_numberAt, 3, (some .long)) := rfl
noncomputable def cu_2297 : List CUT2 := []
theorem ch_2297 : staG tb_X12_numberAt 1 bt_RX12 [] ct_2 [] [] cu_2297 11 con_2297 = true := by decide +kernel
theorem vl_2297 (l : Launch) : Vld2 l vwCl gTbl con_2297 := conR_ok3 gT_all (hd_2297) rfl pn_RX12 tk_X12_numberAt bo_RX12 xo_RX12 (cto_2 l) ch_2297 cut_nil
/-- RookHustingModel numberAt -/
noncomputable def gi_1859 : GI := jl_n [jl_z 48, gp_371]
noncomputable def con_2298 : Con2 := ((yX12_numberAt, cX12_numberAt, 3, (some .long)), (0, 0), ([(6, 0, 0), (0, 3, 0), (0, 58, 0)], gi_1851, [ac_1100, ac_1159], []), [((4, 48, 0), gi_1859, [(false, ac_1100), (false, ac_1159)], [], [1])])
theorem hd_2298 : con_2298.1 = (yX12_numberAt, cX12_numberAt, 3, (some .long)) := rfl
noncomputable def cu_2298 : List CUT2 := []
theorem ch_2298 : staG tb_X12_numberAt 1 bt_RX12 [] ct_2 [] [] cu_2298 11 con_2298 = true := by decide +kernel
theorem vl_2298 (l : Launch) : Vld2 l vwCl gTbl con_2298 := conR_ok3 gT_all (hd_2298) rfl pn_RX12 tk_X12_numberAt bo_RX12 xo_RX12 (cto_2 l) ch_2298 cut_nil
/-- RookHustingModel numberAt -/
noncomputable def con_2299 : Con2 := ((yX12_numberAt, cX12_numberAt, 3, (some .long)), (0, 0), ([(6, 0, 0), (0, 3, 0), (0, 57, 0)], gi_1852, [ac_1100, ac_1158], []), [((4, 48, 0), gi_1853, [(false, ac_1100), (false, ac_1158)], [], [1])])
theorem hd_2299 : con_2299.1 = (yX12_numberAt, cX12_numberAt, 3, (some .long)) := rfl
noncomputable def cu_2299 : List CUT2 := []
theorem ch_2299 : staG tb_X12_numberAt 1 bt_RX12 [] ct_2 [] [] cu_2299 11 con_2299 = true := by decide +kernel
theorem vl_2299 (l : Launch) : Vld2 l vwCl gTbl con_2299 := conR_ok3 gT_all (hd_2299) rfl pn_RX12 tk_X12_numberAt bo_RX12 xo_RX12 (cto_2 l) ch_2299 cut_nil
/-- RookHustingModel numberAt -/
noncomputable def con_2300 : Con2 := ((yX12_numberAt, cX12_numberAt, 3, (some .long)), (0, 0), ([(6, 0, 0), (0, 3, 0), (0, 59, 0)], gi_1854, [ac_1100, ac_1160], []), [((4, 48, 0), gi_1855, [(false, ac_1100), (false, ac_1160)], [], [1])])
theorem hd_2300 : con_2300.1 = (yX12_numberAt, cX12_numberAt, 3, (some .long)) := rfl
noncomputable def cu_2300 : List CUT2 := []
theorem ch_2300 : staG tb_X12_numberAt 1 bt_RX12 [] ct_2 [] [] cu_2300 11 con_2300 = true := by decide +kernel
theorem vl_2300 (l : Launch) : Vld2 l vwCl gTbl con_2300 := conR_ok3 gT_all (hd_2300) rfl pn_RX12 tk_X12_numberAt bo_RX12 xo_RX12 (cto_2 l) ch_2300 cut_nil
/-- RookHustingModel isSeen -/
noncomputable def gi_1860 : GI := jl_n [gp_736, gp_481]
noncomputable def gi_1861 : GI := jl_n [gp_736, gp_481, jl_z 1]
noncomputable def con_2301 : Con2 := ((yX12_isSeen, cX12_isSeen, 3, (some .boolean)), (1, 22), ([(6, 0, 0), (0, 3, 0)], gi_1860, hc_215, []), [((0, 0, 0), gi_1861, hq_915, [], [1]), ((0, 1, 0), gi_1861, hq_915, [], [1])])
theorem hd_2301 : con_2301.1 = (yX12_isSeen, cX12_isSeen, 3, (some .boolean)) := rfl
theorem ck_RX12_417_2252 : COK2 RX12 vwCl gTbl 417 0 con_2252 := ⟨wd_2061, wd_137, mh_X12_numberAt, .inr (.inr ⟨rfl, wd_2058, wd_2060, wd_114, ⟨_, rfl, pd_X12_numberAt⟩, 12, _, TX12, 45, rfl, rfl⟩)⟩
theorem ck_RX12_417_2255 : COK2 RX12 vwCl gTbl 417 0 con_2255 := ⟨wd_2061, wd_137, mh_X12_numberAt, .inr (.inr ⟨rfl, wd_2058, wd_2060, wd_114, ⟨_, rfl, pd_X12_numberAt⟩, 12, _, TX12, 45, rfl, rfl⟩)⟩
theorem ck_RX12_417_2258 : COK2 RX12 vwCl gTbl 417 0 con_2258 := ⟨wd_2061, wd_137, mh_X12_numberAt, .inr (.inr ⟨rfl, wd_2058, wd_2060, wd_114, ⟨_, rfl, pd_X12_numberAt⟩, 12, _, TX12, 45, rfl, rfl⟩)⟩
theorem ck_RX12_417_2261 : COK2 RX12 vwCl gTbl 417 0 con_2261 := ⟨wd_2061, wd_137, mh_X12_numberAt, .inr (.inr ⟨rfl, wd_2058, wd_2060, wd_114, ⟨_, rfl, pd_X12_numberAt⟩, 12, _, TX12, 45, rfl, rfl⟩)⟩
theorem ck_RX12_417_2264 : COK2 RX12 vwCl gTbl 417 0 con_2264 := ⟨wd_2061, wd_137, mh_X12_numberAt, .inr (.inr ⟨rfl, wd_2058, wd_2060, wd_114, ⟨_, rfl, pd_X12_numberAt⟩, 12, _, TX12, 45, rfl, rfl⟩)⟩
theorem ck_RX12_417_2267 : COK2 RX12 vwCl gTbl 417 0 con_2267 := ⟨wd_2061, wd_137, mh_X12_numberAt, .inr (.inr ⟨rfl, wd_2058, wd_2060, wd_114, ⟨_, rfl, pd_X12_numberAt⟩, 12, _, TX12, 45, rfl, rfl⟩)⟩
theorem ck_RX12_417_2270 : COK2 RX12 vwCl gTbl 417 0 con_2270 := ⟨wd_2061, wd_137, mh_X12_numberAt, .inr (.inr ⟨rfl, wd_2058, wd_2060, wd_114, ⟨_, rfl, pd_X12_numberAt⟩, 12, _, TX12, 45, rfl, rfl⟩)⟩
theorem ck_RX12_417_2273 : COK2 RX12 vwCl gTbl 417 0 con_2273 := ⟨wd_2061, wd_137, mh_X12_numberAt, .inr (.inr ⟨rfl, wd_2058, wd_2060, wd_114, ⟨_, rfl, pd_X12_numberAt⟩, 12, _, TX12, 45, rfl, rfl⟩)⟩
theorem ck_RX12_417_2276 : COK2 RX12 vwCl gTbl 417 0 con_2276 := ⟨wd_2061, wd_137, mh_X12_numberAt, .inr (.inr ⟨rfl, wd_2058, wd_2060, wd_114, ⟨_, rfl, pd_X12_numberAt⟩, 12, _, TX12, 45, rfl, rfl⟩)⟩
theorem ck_RX12_417_2279 : COK2 RX12 vwCl gTbl 417 0 con_2279 := ⟨wd_2061, wd_137, mh_X12_numberAt, .inr (.inr ⟨rfl, wd_2058, wd_2060, wd_114, ⟨_, rfl, pd_X12_numberAt⟩, 12, _, TX12, 45, rfl, rfl⟩)⟩
theorem ck_RX12_417_2282 : COK2 RX12 vwCl gTbl 417 0 con_2282 := ⟨wd_2061, wd_137, mh_X12_numberAt, .inr (.inr ⟨rfl, wd_2058, wd_2060, wd_114, ⟨_, rfl, pd_X12_numberAt⟩, 12, _, TX12, 45, rfl, rfl⟩)⟩
theorem ck_RX12_417_2285 : COK2 RX12 vwCl gTbl 417 0 con_2285 := ⟨wd_2061, wd_137, mh_X12_numberAt, .inr (.inr ⟨rfl, wd_2058, wd_2060, wd_114, ⟨_, rfl, pd_X12_numberAt⟩, 12, _, TX12, 45, rfl, rfl⟩)⟩
theorem ck_RX12_417_2288 : COK2 RX12 vwCl gTbl 417 0 con_2288 := ⟨wd_2061, wd_137, mh_X12_numberAt, .inr (.inr ⟨rfl, wd_2058, wd_2060, wd_114, ⟨_, rfl, pd_X12_numberAt⟩, 12, _, TX12, 45, rfl, rfl⟩)⟩
theorem ck_RX12_417_2291 : COK2 RX12 vwCl gTbl 417 0 con_2291 := ⟨wd_2061, wd_137, mh_X12_numberAt, .inr (.inr ⟨rfl, wd_2058, wd_2060, wd_114, ⟨_, rfl, pd_X12_numberAt⟩, 12, _, TX12, 45, rfl, rfl⟩)⟩
theorem ck_RX12_417_2294 : COK2 RX12 vwCl gTbl 417 0 con_2294 := ⟨wd_2061, wd_137, mh_X12_numberAt, .inr (.inr ⟨rfl, wd_2058, wd_2060, wd_114, ⟨_, rfl, pd_X12_numberAt⟩, 12, _, TX12, 45, rfl, rfl⟩)⟩
theorem ck_RX12_417_2297 : COK2 RX12 vwCl gTbl 417 0 con_2297 := ⟨wd_2061, wd_137, mh_X12_numberAt, .inr (.inr ⟨rfl, wd_2058, wd_2060, wd_114, ⟨_, rfl, pd_X12_numberAt⟩, 12, _, TX12, 45, rfl, rfl⟩)⟩
theorem ck_RX12_417_2300 : COK2 RX12 vwCl gTbl 417 0 con_2300 := ⟨wd_2061, wd_137, mh_X12_numberAt, .inr (.inr ⟨rfl, wd_2058, wd_2060, wd_114, ⟨_, rfl, pd_X12_numberAt⟩, 12, _, TX12, 45, rfl, rfl⟩)⟩
theorem ck_RX12_417_2251 : COK2 RX12 vwCl gTbl 417 0 con_2251 := ⟨wd_2061, wd_137, mh_X12_numberAt, .inr (.inr ⟨rfl, wd_2058, wd_2060, wd_114, ⟨_, rfl, pd_X12_numberAt⟩, 12, _, TX12, 45, rfl, rfl⟩)⟩
theorem ck_RX12_417_2254 : COK2 RX12 vwCl gTbl 417 0 con_2254 := ⟨wd_2061, wd_137, mh_X12_numberAt, .inr (.inr ⟨rfl, wd_2058, wd_2060, wd_114, ⟨_, rfl, pd_X12_numberAt⟩, 12, _, TX12, 45, rfl, rfl⟩)⟩
theorem ck_RX12_417_2257 : COK2 RX12 vwCl gTbl 417 0 con_2257 := ⟨wd_2061, wd_137, mh_X12_numberAt, .inr (.inr ⟨rfl, wd_2058, wd_2060, wd_114, ⟨_, rfl, pd_X12_numberAt⟩, 12, _, TX12, 45, rfl, rfl⟩)⟩
theorem ck_RX12_417_2260 : COK2 RX12 vwCl gTbl 417 0 con_2260 := ⟨wd_2061, wd_137, mh_X12_numberAt, .inr (.inr ⟨rfl, wd_2058, wd_2060, wd_114, ⟨_, rfl, pd_X12_numberAt⟩, 12, _, TX12, 45, rfl, rfl⟩)⟩
theorem ck_RX12_417_2263 : COK2 RX12 vwCl gTbl 417 0 con_2263 := ⟨wd_2061, wd_137, mh_X12_numberAt, .inr (.inr ⟨rfl, wd_2058, wd_2060, wd_114, ⟨_, rfl, pd_X12_numberAt⟩, 12, _, TX12, 45, rfl, rfl⟩)⟩
theorem ck_RX12_417_2266 : COK2 RX12 vwCl gTbl 417 0 con_2266 := ⟨wd_2061, wd_137, mh_X12_numberAt, .inr (.inr ⟨rfl, wd_2058, wd_2060, wd_114, ⟨_, rfl, pd_X12_numberAt⟩, 12, _, TX12, 45, rfl, rfl⟩)⟩
theorem ck_RX12_417_2269 : COK2 RX12 vwCl gTbl 417 0 con_2269 := ⟨wd_2061, wd_137, mh_X12_numberAt, .inr (.inr ⟨rfl, wd_2058, wd_2060, wd_114, ⟨_, rfl, pd_X12_numberAt⟩, 12, _, TX12, 45, rfl, rfl⟩)⟩
theorem ck_RX12_417_2272 : COK2 RX12 vwCl gTbl 417 0 con_2272 := ⟨wd_2061, wd_137, mh_X12_numberAt, .inr (.inr ⟨rfl, wd_2058, wd_2060, wd_114, ⟨_, rfl, pd_X12_numberAt⟩, 12, _, TX12, 45, rfl, rfl⟩)⟩
theorem ck_RX12_417_2275 : COK2 RX12 vwCl gTbl 417 0 con_2275 := ⟨wd_2061, wd_137, mh_X12_numberAt, .inr (.inr ⟨rfl, wd_2058, wd_2060, wd_114, ⟨_, rfl, pd_X12_numberAt⟩, 12, _, TX12, 45, rfl, rfl⟩)⟩
theorem ck_RX12_417_2278 : COK2 RX12 vwCl gTbl 417 0 con_2278 := ⟨wd_2061, wd_137, mh_X12_numberAt, .inr (.inr ⟨rfl, wd_2058, wd_2060, wd_114, ⟨_, rfl, pd_X12_numberAt⟩, 12, _, TX12, 45, rfl, rfl⟩)⟩
theorem ck_RX12_417_2281 : COK2 RX12 vwCl gTbl 417 0 con_2281 := ⟨wd_2061, wd_137, mh_X12_numberAt, .inr (.inr ⟨rfl, wd_2058, wd_2060, wd_114, ⟨_, rfl, pd_X12_numberAt⟩, 12, _, TX12, 45, rfl, rfl⟩)⟩
theorem ck_RX12_417_2284 : COK2 RX12 vwCl gTbl 417 0 con_2284 := ⟨wd_2061, wd_137, mh_X12_numberAt, .inr (.inr ⟨rfl, wd_2058, wd_2060, wd_114, ⟨_, rfl, pd_X12_numberAt⟩, 12, _, TX12, 45, rfl, rfl⟩)⟩
theorem ck_RX12_417_2287 : COK2 RX12 vwCl gTbl 417 0 con_2287 := ⟨wd_2061, wd_137, mh_X12_numberAt, .inr (.inr ⟨rfl, wd_2058, wd_2060, wd_114, ⟨_, rfl, pd_X12_numberAt⟩, 12, _, TX12, 45, rfl, rfl⟩)⟩
theorem ck_RX12_417_2290 : COK2 RX12 vwCl gTbl 417 0 con_2290 := ⟨wd_2061, wd_137, mh_X12_numberAt, .inr (.inr ⟨rfl, wd_2058, wd_2060, wd_114, ⟨_, rfl, pd_X12_numberAt⟩, 12, _, TX12, 45, rfl, rfl⟩)⟩
theorem ck_RX12_417_2293 : COK2 RX12 vwCl gTbl 417 0 con_2293 := ⟨wd_2061, wd_137, mh_X12_numberAt, .inr (.inr ⟨rfl, wd_2058, wd_2060, wd_114, ⟨_, rfl, pd_X12_numberAt⟩, 12, _, TX12, 45, rfl, rfl⟩)⟩
theorem ck_RX12_417_2296 : COK2 RX12 vwCl gTbl 417 0 con_2296 := ⟨wd_2061, wd_137, mh_X12_numberAt, .inr (.inr ⟨rfl, wd_2058, wd_2060, wd_114, ⟨_, rfl, pd_X12_numberAt⟩, 12, _, TX12, 45, rfl, rfl⟩)⟩
theorem ck_RX12_417_2299 : COK2 RX12 vwCl gTbl 417 0 con_2299 := ⟨wd_2061, wd_137, mh_X12_numberAt, .inr (.inr ⟨rfl, wd_2058, wd_2060, wd_114, ⟨_, rfl, pd_X12_numberAt⟩, 12, _, TX12, 45, rfl, rfl⟩)⟩
theorem ck_RX12_417_2250 : COK2 RX12 vwCl gTbl 417 0 con_2250 := ⟨wd_2061, wd_137, mh_X12_numberAt, .inr (.inr ⟨rfl, wd_2058, wd_2060, wd_114, ⟨_, rfl, pd_X12_numberAt⟩, 12, _, TX12, 45, rfl, rfl⟩)⟩
theorem ck_RX12_417_2253 : COK2 RX12 vwCl gTbl 417 0 con_2253 := ⟨wd_2061, wd_137, mh_X12_numberAt, .inr (.inr ⟨rfl, wd_2058, wd_2060, wd_114, ⟨_, rfl, pd_X12_numberAt⟩, 12, _, TX12, 45, rfl, rfl⟩)⟩
theorem ck_RX12_417_2256 : COK2 RX12 vwCl gTbl 417 0 con_2256 := ⟨wd_2061, wd_137, mh_X12_numberAt, .inr (.inr ⟨rfl, wd_2058, wd_2060, wd_114, ⟨_, rfl, pd_X12_numberAt⟩, 12, _, TX12, 45, rfl, rfl⟩)⟩
theorem ck_RX12_417_2259 : COK2 RX12 vwCl gTbl 417 0 con_2259 := ⟨wd_2061, wd_137, mh_X12_numberAt, .inr (.inr ⟨rfl, wd_2058, wd_2060, wd_114, ⟨_, rfl, pd_X12_numberAt⟩, 12, _, TX12, 45, rfl, rfl⟩)⟩
theorem ck_RX12_417_2262 : COK2 RX12 vwCl gTbl 417 0 con_2262 := ⟨wd_2061, wd_137, mh_X12_numberAt, .inr (.inr ⟨rfl, wd_2058, wd_2060, wd_114, ⟨_, rfl, pd_X12_numberAt⟩, 12, _, TX12, 45, rfl, rfl⟩)⟩
theorem ck_RX12_417_2265 : COK2 RX12 vwCl gTbl 417 0 con_2265 := ⟨wd_2061, wd_137, mh_X12_numberAt, .inr (.inr ⟨rfl, wd_2058, wd_2060, wd_114, ⟨_, rfl, pd_X12_numberAt⟩, 12, _, TX12, 45, rfl, rfl⟩)⟩
theorem ck_RX12_417_2268 : COK2 RX12 vwCl gTbl 417 0 con_2268 := ⟨wd_2061, wd_137, mh_X12_numberAt, .inr (.inr ⟨rfl, wd_2058, wd_2060, wd_114, ⟨_, rfl, pd_X12_numberAt⟩, 12, _, TX12, 45, rfl, rfl⟩)⟩
theorem ck_RX12_417_2271 : COK2 RX12 vwCl gTbl 417 0 con_2271 := ⟨wd_2061, wd_137, mh_X12_numberAt, .inr (.inr ⟨rfl, wd_2058, wd_2060, wd_114, ⟨_, rfl, pd_X12_numberAt⟩, 12, _, TX12, 45, rfl, rfl⟩)⟩
theorem ck_RX12_417_2274 : COK2 RX12 vwCl gTbl 417 0 con_2274 := ⟨wd_2061, wd_137, mh_X12_numberAt, .inr (.inr ⟨rfl, wd_2058, wd_2060, wd_114, ⟨_, rfl, pd_X12_numberAt⟩, 12, _, TX12, 45, rfl, rfl⟩)⟩
theorem ck_RX12_417_2277 : COK2 RX12 vwCl gTbl 417 0 con_2277 := ⟨wd_2061, wd_137, mh_X12_numberAt, .inr (.inr ⟨rfl, wd_2058, wd_2060, wd_114, ⟨_, rfl, pd_X12_numberAt⟩, 12, _, TX12, 45, rfl, rfl⟩)⟩
theorem ck_RX12_417_2280 : COK2 RX12 vwCl gTbl 417 0 con_2280 := ⟨wd_2061, wd_137, mh_X12_numberAt, .inr (.inr ⟨rfl, wd_2058, wd_2060, wd_114, ⟨_, rfl, pd_X12_numberAt⟩, 12, _, TX12, 45, rfl, rfl⟩)⟩
theorem ck_RX12_417_2283 : COK2 RX12 vwCl gTbl 417 0 con_2283 := ⟨wd_2061, wd_137, mh_X12_numberAt, .inr (.inr ⟨rfl, wd_2058, wd_2060, wd_114, ⟨_, rfl, pd_X12_numberAt⟩, 12, _, TX12, 45, rfl, rfl⟩)⟩
theorem ck_RX12_417_2286 : COK2 RX12 vwCl gTbl 417 0 con_2286 := ⟨wd_2061, wd_137, mh_X12_numberAt, .inr (.inr ⟨rfl, wd_2058, wd_2060, wd_114, ⟨_, rfl, pd_X12_numberAt⟩, 12, _, TX12, 45, rfl, rfl⟩)⟩
theorem ck_RX12_417_2289 : COK2 RX12 vwCl gTbl 417 0 con_2289 := ⟨wd_2061, wd_137, mh_X12_numberAt, .inr (.inr ⟨rfl, wd_2058, wd_2060, wd_114, ⟨_, rfl, pd_X12_numberAt⟩, 12, _, TX12, 45, rfl, rfl⟩)⟩
theorem ck_RX12_417_2292 : COK2 RX12 vwCl gTbl 417 0 con_2292 := ⟨wd_2061, wd_137, mh_X12_numberAt, .inr (.inr ⟨rfl, wd_2058, wd_2060, wd_114, ⟨_, rfl, pd_X12_numberAt⟩, 12, _, TX12, 45, rfl, rfl⟩)⟩
theorem ck_RX12_417_2295 : COK2 RX12 vwCl gTbl 417 0 con_2295 := ⟨wd_2061, wd_137, mh_X12_numberAt, .inr (.inr ⟨rfl, wd_2058, wd_2060, wd_114, ⟨_, rfl, pd_X12_numberAt⟩, 12, _, TX12, 45, rfl, rfl⟩)⟩
theorem ck_RX12_417_2298 : COK2 RX12 vwCl gTbl 417 0 con_2298 := ⟨wd_2061, wd_137, mh_X12_numberAt, .inr (.inr ⟨rfl, wd_2058, wd_2060, wd_114, ⟨_, rfl, pd_X12_numberAt⟩, 12, _, TX12, 45, rfl, rfl⟩)⟩
noncomputable def ct_2301 : CTB2 := [(22, 417, 0, con_2298, [0, 2]), (22, 417, 0, con_2295, [0, 2]), (22, 417, 0, con_2292, [0, 2]), (22, 417, 0, con_2289, [0, 2]), (22, 417, 0, con_2286, [0, 2]), (22, 417, 0, con_2283, [0, 2]), (22, 417, 0, con_2280, [0, 2]), (22, 417, 0, con_2277, [0, 2]), (22, 417, 0, con_2274, [0, 2]), (22, 417, 0, con_2271, [0, 2]), (22, 417, 0, con_2268, [0, 2]), (22, 417, 0, con_2265, [0, 2]), (22, 417, 0, con_2262, [0, 2]), (22, 417, 0, con_2259, [0, 2]), (22, 417, 0, con_2256, [0, 2]), (22, 417, 0, con_2253, [0, 2]), (22, 417, 0, con_2250, [0, 2]), (22, 417, 0, con_2246, [0, 2]), (22, 417, 0, con_2243, [0, 2]), (22, 417, 0, con_2240, [0, 2]), (30, 417, 0, con_2299, [0, 2]), (30, 417, 0, con_2296, [0, 2]), (30, 417, 0, con_2293, [0, 2]), (30, 417, 0, con_2290, [0, 2]), (30, 417, 0, con_2287, [0, 2]), (30, 417, 0, con_2284, [0, 2]), (30, 417, 0, con_2281, [0, 2]), (30, 417, 0, con_2278, [0, 2]), (30, 417, 0, con_2275, [0, 2]), (30, 417, 0, con_2272, [0, 2]), (30, 417, 0, con_2269, [0, 2]), (30, 417, 0, con_2266, [0, 2]), (30, 417, 0, con_2263, [0, 2]), (30, 417, 0, con_2260, [0, 2]), (30, 417, 0, con_2257, [0, 2]), (30, 417, 0, con_2254, [0, 2]), (30, 417, 0, con_2251, [0, 2]), (30, 417, 0, con_2247, [0, 2]), (30, 417, 0, con_2244, [0, 2]), (30, 417, 0, con_2241, [0, 2]), (42, 417, 0, con_2300, [0, 2]), (42, 417, 0, con_2297, [0, 2]), (42, 417, 0, con_2294, [0, 2]), (42, 417, 0, con_2291, [0, 2]), (42, 417, 0, con_2288, [0, 2]), (42, 417, 0, con_2285, [0, 2]), (42, 417, 0, con_2282, [0, 2]), (42, 417, 0, con_2279, [0, 2]), (42, 417, 0, con_2276, [0, 2]), (42, 417, 0, con_2273, [0, 2]), (42, 417, 0, con_2270, [0, 2]), (42, 417, 0, con_2267, [0, 2]), (42, 417, 0, con_2264, [0, 2]), (42, 417, 0, con_2261, [0, 2]), (42, 417, 0, con_2258, [0, 2]), (42, 417, 0, con_2255, [0, 2]), (42, 417, 0, con_2252, [0, 2]), (42, 417, 0, con_2248, [0, 2]), (42, 417, 0, con_2245, [0, 2]), (42, 417, 0, con_2242, [0, 2])]
noncomputable def gi_1862 : GI := jl_n [gp_736, gp_481, jl_z 3]
noncomputable def cu_2301_0 : List CUT2 := [((2, [lq 0 6 0, lq 1 0 3, lq 2 0 0], [], gi_1862, hq_915), [], ([], 60)), ((2, [lq 0 6 0, lq 1 0 3, lq 2 0 3], [], gi_1862, hq_915), [], ([], 57)), ((2, [lq 0 6 0, lq 1 0 3, lq 2 0 6], [], gi_1862, hq_915), [], ([], 54)), ((2, [lq 0 6 0, lq 1 0 3, lq 2 0 9], [], gi_1862, hq_915), [], ([], 51)), ((2, [lq 0 6 0, lq 1 0 3, lq 2 0 12], [], gi_1862, hq_915), [], ([], 48)), ((2, [lq 0 6 0, lq 1 0 3, lq 2 0 15], [], gi_1862, hq_915), [], ([], 45)), ((2, [lq 0 6 0, lq 1 0 3, lq 2 0 18], [], gi_1862, hq_915), [], ([], 42)), ((2, [lq 0 6 0, lq 1 0 3, lq 2 0 21], [], gi_1862, hq_915), [], ([], 39)), ((2, [lq 0 6 0, lq 1 0 3, lq 2 0 24], [], gi_1862, hq_915), [], ([], 36)), ((2, [lq 0 6 0, lq 1 0 3, lq 2 0 27], [], gi_1862, hq_915), [], ([], 33)), ((2, [lq 0 6 0, lq 1 0 3, lq 2 0 30], [], gi_1862, hq_915), [], ([], 30)), ((2, [lq 0 6 0, lq 1 0 3, lq 2 0 33], [], gi_1862, hq_915), [], ([], 27)), ((2, [lq 0 6 0, lq 1 0 3, lq 2 0 36], [], gi_1862, hq_915), [], ([], 24)), ((2, [lq 0 6 0, lq 1 0 3, lq 2 0 39], [], gi_1862, hq_915), [], ([], 21)), ((2, [lq 0 6 0, lq 1 0 3, lq 2 0 42], [], gi_1862, hq_915), [], ([], 18)), ((2, [lq 0 6 0, lq 1 0 3, lq 2 0 45], [], gi_1862, hq_915), [], ([], 15)), ((2, [lq 0 6 0, lq 1 0 3, lq 2 0 48], [], gi_1862, hq_915), [], ([], 12)), ((2, [lq 0 6 0, lq 1 0 3, lq 2 0 51], [], gi_1862, hq_915), [], ([], 9))]
noncomputable def cu_2301_1 : List CUT2 := [((2, [lq 0 6 0, lq 1 0 3, lq 2 0 54], [], gi_1862, hq_915), [], ([], 6)), ((2, [lq 0 6 0, lq 1 0 3, lq 2 0 57], [], gi_1862, hq_915), [], ([], 3)), ((2, [lq 0 6 0, lq 1 0 3, lq 2 0 60], [], gi_1862, hq_915), [], ([], 0))]
noncomputable def cu_2301 : List CUT2 := cu_2301_0 ++ (cu_2301_1)
theorem ch_2301 : staG tb_X12_isSeen 1 bt_RX12 [] ct_2301 [] [] cu_2301 37 con_2301 = true := by decide +kernel
theorem cc_2301_0 : cu_2301_0.all (cutG tb_X12_isSeen 1 bt_RX12 [] ct_2301 [] [] cu_2301 37 con_2301) = true := by decide +kernel
theorem cc_2301_1 : cu_2301_1.all (cutG tb_X12_isSeen 1 bt_RX12 [] ct_2301 [] [] cu_2301 37 con_2301) = true := by decide +kernel
theorem cto_2301 (l : Launch) : CTOK2 l RX12 vwCl gTbl ct_2301 := ct2_cons (vl_2298 l) ck_RX12_417_2298 (ct2_cons (vl_2295 l) ck_RX12_417_2295 (ct2_cons (vl_2292 l) ck_RX12_417_2292 (ct2_cons (vl_2289 l) ck_RX12_417_2289 (ct2_cons (vl_2286 l) ck_RX12_417_2286 (ct2_cons (vl_2283 l) ck_RX12_417_2283 (ct2_cons (vl_2280 l) ck_RX12_417_2280 (ct2_cons (vl_2277 l) ck_RX12_417_2277 (ct2_cons (vl_2274 l) ck_RX12_417_2274 (ct2_cons (vl_2271 l) ck_RX12_417_2271 (ct2_cons (vl_2268 l) ck_RX12_417_2268 (ct2_cons (vl_2265 l) ck_RX12_417_2265 (ct2_cons (vl_2262 l) ck_RX12_417_2262 (ct2_cons (vl_2259 l) ck_RX12_417_2259 (ct2_cons (vl_2256 l) ck_RX12_417_2256 (ct2_cons (vl_2253 l) ck_RX12_417_2253 (ct2_cons (vl_2250 l) ck_RX12_417_2250 (ct2_cons (vl_2246 l) ck_RX12_417_2246 (ct2_cons (vl_2243 l) ck_RX12_417_2243 (ct2_cons (vl_2240 l) ck_RX12_417_2240 (ct2_cons (vl_2299 l) ck_RX12_417_2299 (ct2_cons (vl_2296 l) ck_RX12_417_2296 (ct2_cons (vl_2293 l) ck_RX12_417_2293 (ct2_cons (vl_2290 l) ck_RX12_417_2290 (ct2_cons (vl_2287 l) ck_RX12_417_2287 (ct2_cons (vl_2284 l) ck_RX12_417_2284 (ct2_cons (vl_2281 l) ck_RX12_417_2281 (ct2_cons (vl_2278 l) ck_RX12_417_2278 (ct2_cons (vl_2275 l) ck_RX12_417_2275 (ct2_cons (vl_2272 l) ck_RX12_417_2272 (ct2_cons (vl_2269 l) ck_RX12_417_2269 (ct2_cons (vl_2266 l) ck_RX12_417_2266 (ct2_cons (vl_2263 l) ck_RX12_417_2263 (ct2_cons (vl_2260 l) ck_RX12_417_2260 (ct2_cons (vl_2257 l) ck_RX12_417_2257 (ct2_cons (vl_2254 l) ck_RX12_417_2254 (ct2_cons (vl_2251 l) ck_RX12_417_2251 (ct2_cons (vl_2247 l) ck_RX12_417_2247 (ct2_cons (vl_2244 l) ck_RX12_417_2244 (ct2_cons (vl_2241 l) ck_RX12_417_2241 (ct2_cons (vl_2300 l) ck_RX12_417_2300 (ct2_cons (vl_2297 l) ck_RX12_417_2297 (ct2_cons (vl_2294 l) ck_RX12_417_2294 (ct2_cons (vl_2291 l) ck_RX12_417_2291 (ct2_cons (vl_2288 l) ck_RX12_417_2288 (ct2_cons (vl_2285 l) ck_RX12_417_2285 (ct2_cons (vl_2282 l) ck_RX12_417_2282 (ct2_cons (vl_2279 l) ck_RX12_417_2279 (ct2_cons (vl_2276 l) ck_RX12_417_2276 (ct2_cons (vl_2273 l) ck_RX12_417_2273 (ct2_cons (vl_2270 l) ck_RX12_417_2270 (ct2_cons (vl_2267 l) ck_RX12_417_2267 (ct2_cons (vl_2264 l) ck_RX12_417_2264 (ct2_cons (vl_2261 l) ck_RX12_417_2261 (ct2_cons (vl_2258 l) ck_RX12_417_2258 (ct2_cons (vl_2255 l) ck_RX12_417_2255 (ct2_cons (vl_2252 l) ck_RX12_417_2252 (ct2_cons (vl_2248 l) ck_RX12_417_2248 (ct2_cons (vl_2245 l) ck_RX12_417_2245 (ct2_cons (vl_2242 l) ck_RX12_417_2242 (ct2_nil))))))))))))))))))))))))))))))))))))))))))))))))))))))))))))
theorem vl_2301 (l : Launch) : Vld2 l vwCl gTbl con_2301 := conR_ok3 gT_all (hd_2301) rfl pn_RX12 tk_X12_isSeen bo_RX12 xo_RX12 (cto_2301 l) ch_2301 (cut_app (cut_all cc_2301_0) (cut_all cc_2301_1))
/-- RookHustingModel isSeen -/
noncomputable def gi_1863 : GI := jl_n [gp_736, gp_479]
noncomputable def gi_1864 : GI := jl_n [gp_736, gp_479, jl_z 1]
noncomputable def con_2302 : Con2 := ((yX12_isSeen, cX12_isSeen, 3, (some .boolean)), (1, 22), ([(6, 0, 0), (0, 3, 0)], gi_1863, hc_215, []), [((0, 0, 0), gi_1864, hq_915, [], [1]), ((0, 1, 0), gi_1864, hq_915, [], [1])])
theorem hd_2302 : con_2302.1 = (yX12_isSeen, cX12_isSeen, 3, (some .boolean)) := rfl
noncomputable def ct_2302 : CTB2 := [(22, 417, 0, con_2243, [0, 2]), (22, 417, 0, con_2240, [0, 2]), (30, 417, 0, con_2244, [0, 2]), (30, 417, 0, con_2241, [0, 2]), (42, 417, 0, con_2245, [0, 2]), (42, 417, 0, con_2242, [0, 2])]
noncomputable def gi_1865 : GI := jl_n [gp_736, gp_479, jl_z 3]
noncomputable def cu_2302 : List CUT2 := [((2, [lq 0 6 0, lq 1 0 3, lq 2 0 0], [], gi_1865, hq_915), [], ([], 6)), ((2, [lq 0 6 0, lq 1 0 3, lq 2 0 3], [], gi_1865, hq_915), [], ([], 3)), ((2, [lq 0 6 0, lq 1 0 3, lq 2 0 6], [], gi_1865, hq_915), [], ([], 0))]
theorem ch_2302 : staG tb_X12_isSeen 1 bt_RX12 [] ct_2302 [] [] cu_2302 37 con_2302 = true := by decide +kernel
theorem cc_2302 : cu_2302.all (cutG tb_X12_isSeen 1 bt_RX12 [] ct_2302 [] [] cu_2302 37 con_2302) = true := by decide +kernel
theorem cto_2302 (l : Launch) : CTOK2 l RX12 vwCl gTbl ct_2302 := ct2_cons (vl_2243 l) ck_RX12_417_2243 (ct2_cons (vl_2240 l) ck_RX12_417_2240 (ct2_cons (vl_2244 l) ck_RX12_417_2244 (ct2_cons (vl_2241 l) ck_RX12_417_2241 (ct2_cons (vl_2245 l) ck_RX12_417_2245 (ct2_cons (vl_2242 l) ck_RX12_417_2242 (ct2_nil))))))
theorem vl_2302 (l : Launch) : Vld2 l vwCl gTbl con_2302 := conR_ok3 gT_all (hd_2302) rfl pn_RX12 tk_X12_isSeen bo_RX12 xo_RX12 (cto_2302 l) ch_2302 (cut_all cc_2302)
/-- RookHustingModel isSeen -/
noncomputable def gi_1866 : GI := jl_n [gp_736, gp_477]
noncomputable def gi_1867 : GI := jl_n [gp_736, gp_477, jl_z 1]
noncomputable def con_2303 : Con2 := ((yX12_isSeen, cX12_isSeen, 3, (some .boolean)), (1, 22), ([(6, 0, 0), (0, 3, 0)], gi_1866, hc_215, []), [((0, 0, 0), gi_1867, hq_915, [], [1]), ((0, 1, 0), gi_1867, hq_915, [], [1])])
theorem hd_2303 : con_2303.1 = (yX12_isSeen, cX12_isSeen, 3, (some .boolean)) := rfl
noncomputable def ct_2303 : CTB2 := [(22, 417, 0, con_2295, [0, 2]), (22, 417, 0, con_2292, [0, 2]), (22, 417, 0, con_2289, [0, 2]), (22, 417, 0, con_2286, [0, 2]), (22, 417, 0, con_2283, [0, 2]), (22, 417, 0, con_2280, [0, 2]), (22, 417, 0, con_2277, [0, 2]), (22, 417, 0, con_2274, [0, 2]), (22, 417, 0, con_2271, [0, 2]), (22, 417, 0, con_2268, [0, 2]), (22, 417, 0, con_2265, [0, 2]), (22, 417, 0, con_2262, [0, 2]), (22, 417, 0, con_2259, [0, 2]), (22, 417, 0, con_2256, [0, 2]), (22, 417, 0, con_2253, [0, 2]), (22, 417, 0, con_2250, [0, 2]), (22, 417, 0, con_2246, [0, 2]), (22, 417, 0, con_2243, [0, 2]), (22, 417, 0, con_2240, [0, 2]), (30, 417, 0, con_2296, [0, 2]), (30, 417, 0, con_2293, [0, 2]), (30, 417, 0, con_2290, [0, 2]), (30, 417, 0, con_2287, [0, 2]), (30, 417, 0, con_2284, [0, 2]), (30, 417, 0, con_2281, [0, 2]), (30, 417, 0, con_2278, [0, 2]), (30, 417, 0, con_2275, [0, 2]), (30, 417, 0, con_2272, [0, 2]), (30, 417, 0, con_2269, [0, 2]), (30, 417, 0, con_2266, [0, 2]), (30, 417, 0, con_2263, [0, 2]), (30, 417, 0, con_2260, [0, 2]), (30, 417, 0, con_2257, [0, 2]), (30, 417, 0, con_2254, [0, 2]), (30, 417, 0, con_2251, [0, 2]), (30, 417, 0, con_2247, [0, 2]), (30, 417, 0, con_2244, [0, 2]), (30, 417, 0, con_2241, [0, 2]), (42, 417, 0, con_2297, [0, 2]), (42, 417, 0, con_2294, [0, 2]), (42, 417, 0, con_2291, [0, 2]), (42, 417, 0, con_2288, [0, 2]), (42, 417, 0, con_2285, [0, 2]), (42, 417, 0, con_2282, [0, 2]), (42, 417, 0, con_2279, [0, 2]), (42, 417, 0, con_2276, [0, 2]), (42, 417, 0, con_2273, [0, 2]), (42, 417, 0, con_2270, [0, 2]), (42, 417, 0, con_2267, [0, 2]), (42, 417, 0, con_2264, [0, 2]), (42, 417, 0, con_2261, [0, 2]), (42, 417, 0, con_2258, [0, 2]), (42, 417, 0, con_2255, [0, 2]), (42, 417, 0, con_2252, [0, 2]), (42, 417, 0, con_2248, [0, 2]), (42, 417, 0, con_2245, [0, 2]), (42, 417, 0, con_2242, [0, 2])]
noncomputable def gi_1868 : GI := jl_n [gp_736, gp_477, jl_z 3]
noncomputable def cu_2303_0 : List CUT2 := [((2, [lq 0 6 0, lq 1 0 3, lq 2 0 0], [], gi_1868, hq_915), [], ([], 57)), ((2, [lq 0 6 0, lq 1 0 3, lq 2 0 3], [], gi_1868, hq_915), [], ([], 54)), ((2, [lq 0 6 0, lq 1 0 3, lq 2 0 6], [], gi_1868, hq_915), [], ([], 51)), ((2, [lq 0 6 0, lq 1 0 3, lq 2 0 9], [], gi_1868, hq_915), [], ([], 48)), ((2, [lq 0 6 0, lq 1 0 3, lq 2 0 12], [], gi_1868, hq_915), [], ([], 45)), ((2, [lq 0 6 0, lq 1 0 3, lq 2 0 15], [], gi_1868, hq_915), [], ([], 42)), ((2, [lq 0 6 0, lq 1 0 3, lq 2 0 18], [], gi_1868, hq_915), [], ([], 39)), ((2, [lq 0 6 0, lq 1 0 3, lq 2 0 21], [], gi_1868, hq_915), [], ([], 36)), ((2, [lq 0 6 0, lq 1 0 3, lq 2 0 24], [], gi_1868, hq_915), [], ([], 33)), ((2, [lq 0 6 0, lq 1 0 3, lq 2 0 27], [], gi_1868, hq_915), [], ([], 30)), ((2, [lq 0 6 0, lq 1 0 3, lq 2 0 30], [], gi_1868, hq_915), [], ([], 27)), ((2, [lq 0 6 0, lq 1 0 3, lq 2 0 33], [], gi_1868, hq_915), [], ([], 24)), ((2, [lq 0 6 0, lq 1 0 3, lq 2 0 36], [], gi_1868, hq_915), [], ([], 21)), ((2, [lq 0 6 0, lq 1 0 3, lq 2 0 39], [], gi_1868, hq_915), [], ([], 18)), ((2, [lq 0 6 0, lq 1 0 3, lq 2 0 42], [], gi_1868, hq_915), [], ([], 15)), ((2, [lq 0 6 0, lq 1 0 3, lq 2 0 45], [], gi_1868, hq_915), [], ([], 12)), ((2, [lq 0 6 0, lq 1 0 3, lq 2 0 48], [], gi_1868, hq_915), [], ([], 9)), ((2, [lq 0 6 0, lq 1 0 3, lq 2 0 51], [], gi_1868, hq_915), [], ([], 6))]
noncomputable def cu_2303_1 : List CUT2 := [((2, [lq 0 6 0, lq 1 0 3, lq 2 0 54], [], gi_1868, hq_915), [], ([], 3)), ((2, [lq 0 6 0, lq 1 0 3, lq 2 0 57], [], gi_1868, hq_915), [], ([], 0))]
noncomputable def cu_2303 : List CUT2 := cu_2303_0 ++ (cu_2303_1)
theorem ch_2303 : staG tb_X12_isSeen 1 bt_RX12 [] ct_2303 [] [] cu_2303 37 con_2303 = true := by decide +kernel
theorem cc_2303_0 : cu_2303_0.all (cutG tb_X12_isSeen 1 bt_RX12 [] ct_2303 [] [] cu_2303 37 con_2303) = true := by decide +kernel
theorem cc_2303_1 : cu_2303_1.all (cutG tb_X12_isSeen 1 bt_RX12 [] ct_2303 [] [] cu_2303 37 con_2303) = true := by decide +kernel
theorem cto_2303 (l : Launch) : CTOK2 l RX12 vwCl gTbl ct_2303 := ct2_cons (vl_2295 l) ck_RX12_417_2295 (ct2_cons (vl_2292 l) ck_RX12_417_2292 (ct2_cons (vl_2289 l) ck_RX12_417_2289 (ct2_cons (vl_2286 l) ck_RX12_417_2286 (ct2_cons (vl_2283 l) ck_RX12_417_2283 (ct2_cons (vl_2280 l) ck_RX12_417_2280 (ct2_cons (vl_2277 l) ck_RX12_417_2277 (ct2_cons (vl_2274 l) ck_RX12_417_2274 (ct2_cons (vl_2271 l) ck_RX12_417_2271 (ct2_cons (vl_2268 l) ck_RX12_417_2268 (ct2_cons (vl_2265 l) ck_RX12_417_2265 (ct2_cons (vl_2262 l) ck_RX12_417_2262 (ct2_cons (vl_2259 l) ck_RX12_417_2259 (ct2_cons (vl_2256 l) ck_RX12_417_2256 (ct2_cons (vl_2253 l) ck_RX12_417_2253 (ct2_cons (vl_2250 l) ck_RX12_417_2250 (ct2_cons (vl_2246 l) ck_RX12_417_2246 (ct2_cons (vl_2243 l) ck_RX12_417_2243 (ct2_cons (vl_2240 l) ck_RX12_417_2240 (ct2_cons (vl_2296 l) ck_RX12_417_2296 (ct2_cons (vl_2293 l) ck_RX12_417_2293 (ct2_cons (vl_2290 l) ck_RX12_417_2290 (ct2_cons (vl_2287 l) ck_RX12_417_2287 (ct2_cons (vl_2284 l) ck_RX12_417_2284 (ct2_cons (vl_2281 l) ck_RX12_417_2281 (ct2_cons (vl_2278 l) ck_RX12_417_2278 (ct2_cons (vl_2275 l) ck_RX12_417_2275 (ct2_cons (vl_2272 l) ck_RX12_417_2272 (ct2_cons (vl_2269 l) ck_RX12_417_2269 (ct2_cons (vl_2266 l) ck_RX12_417_2266 (ct2_cons (vl_2263 l) ck_RX12_417_2263 (ct2_cons (vl_2260 l) ck_RX12_417_2260 (ct2_cons (vl_2257 l) ck_RX12_417_2257 (ct2_cons (vl_2254 l) ck_RX12_417_2254 (ct2_cons (vl_2251 l) ck_RX12_417_2251 (ct2_cons (vl_2247 l) ck_RX12_417_2247 (ct2_cons (vl_2244 l) ck_RX12_417_2244 (ct2_cons (vl_2241 l) ck_RX12_417_2241 (ct2_cons (vl_2297 l) ck_RX12_417_2297 (ct2_cons (vl_2294 l) ck_RX12_417_2294 (ct2_cons (vl_2291 l) ck_RX12_417_2291 (ct2_cons (vl_2288 l) ck_RX12_417_2288 (ct2_cons (vl_2285 l) ck_RX12_417_2285 (ct2_cons (vl_2282 l) ck_RX12_417_2282 (ct2_cons (vl_2279 l) ck_RX12_417_2279 (ct2_cons (vl_2276 l) ck_RX12_417_2276 (ct2_cons (vl_2273 l) ck_RX12_417_2273 (ct2_cons (vl_2270 l) ck_RX12_417_2270 (ct2_cons (vl_2267 l) ck_RX12_417_2267 (ct2_cons (vl_2264 l) ck_RX12_417_2264 (ct2_cons (vl_2261 l) ck_RX12_417_2261 (ct2_cons (vl_2258 l) ck_RX12_417_2258 (ct2_cons (vl_2255 l) ck_RX12_417_2255 (ct2_cons (vl_2252 l) ck_RX12_417_2252 (ct2_cons (vl_2248 l) ck_RX12_417_2248 (ct2_cons (vl_2245 l) ck_RX12_417_2245 (ct2_cons (vl_2242 l) ck_RX12_417_2242 (ct2_nil)))))))))))))))))))))))))))))))))))))))))))))))))))))))))
theorem vl_2303 (l : Launch) : Vld2 l vwCl gTbl con_2303 := conR_ok3 gT_all (hd_2303) rfl pn_RX12 tk_X12_isSeen bo_RX12 xo_RX12 (cto_2303 l) ch_2303 (cut_app (cut_all cc_2303_0) (cut_all cc_2303_1))
/-- RookHustingModel isSeen -/
noncomputable def gi_1869 : GI := jl_n [gp_736, gp_474]
noncomputable def gi_1870 : GI := jl_n [gp_736, gp_474, jl_z 1]
noncomputable def con_2304 : Con2 := ((yX12_isSeen, cX12_isSeen, 3, (some .boolean)), (1, 22), ([(6, 0, 0), (0, 3, 0)], gi_1869, hc_215, []), [((0, 0, 0), gi_1870, hq_915, [], [1]), ((0, 1, 0), gi_1870, hq_915, [], [1])])
theorem hd_2304 : con_2304.1 = (yX12_isSeen, cX12_isSeen, 3, (some .boolean)) := rfl
noncomputable def ct_2304 : CTB2 := [(22, 417, 0, con_2292, [0, 2]), (22, 417, 0, con_2289, [0, 2]), (22, 417, 0, con_2286, [0, 2]), (22, 417, 0, con_2283, [0, 2]), (22, 417, 0, con_2280, [0, 2]), (22, 417, 0, con_2277, [0, 2]), (22, 417, 0, con_2274, [0, 2]), (22, 417, 0, con_2271, [0, 2]), (22, 417, 0, con_2268, [0, 2]), (22, 417, 0, con_2265, [0, 2]), (22, 417, 0, con_2262, [0, 2]), (22, 417, 0, con_2259, [0, 2]), (22, 417, 0, con_2256, [0, 2]), (22, 417, 0, con_2253, [0, 2]), (22, 417, 0, con_2250, [0, 2]), (22, 417, 0, con_2246, [0, 2]), (22, 417, 0, con_2243, [0, 2]), (22, 417, 0, con_2240, [0, 2]), (30, 417, 0, con_2293, [0, 2]), (30, 417, 0, con_2290, [0, 2]), (30, 417, 0, con_2287, [0, 2]), (30, 417, 0, con_2284, [0, 2]), (30, 417, 0, con_2281, [0, 2]), (30, 417, 0, con_2278, [0, 2]), (30, 417, 0, con_2275, [0, 2]), (30, 417, 0, con_2272, [0, 2]), (30, 417, 0, con_2269, [0, 2]), (30, 417, 0, con_2266, [0, 2]), (30, 417, 0, con_2263, [0, 2]), (30, 417, 0, con_2260, [0, 2]), (30, 417, 0, con_2257, [0, 2]), (30, 417, 0, con_2254, [0, 2]), (30, 417, 0, con_2251, [0, 2]), (30, 417, 0, con_2247, [0, 2]), (30, 417, 0, con_2244, [0, 2]), (30, 417, 0, con_2241, [0, 2]), (42, 417, 0, con_2294, [0, 2]), (42, 417, 0, con_2291, [0, 2]), (42, 417, 0, con_2288, [0, 2]), (42, 417, 0, con_2285, [0, 2]), (42, 417, 0, con_2282, [0, 2]), (42, 417, 0, con_2279, [0, 2]), (42, 417, 0, con_2276, [0, 2]), (42, 417, 0, con_2273, [0, 2]), (42, 417, 0, con_2270, [0, 2]), (42, 417, 0, con_2267, [0, 2]), (42, 417, 0, con_2264, [0, 2]), (42, 417, 0, con_2261, [0, 2]), (42, 417, 0, con_2258, [0, 2]), (42, 417, 0, con_2255, [0, 2]), (42, 417, 0, con_2252, [0, 2]), (42, 417, 0, con_2248, [0, 2]), (42, 417, 0, con_2245, [0, 2]), (42, 417, 0, con_2242, [0, 2])]
noncomputable def gi_1871 : GI := jl_n [gp_736, gp_474, jl_z 3]
noncomputable def cu_2304 : List CUT2 := [((2, [lq 0 6 0, lq 1 0 3, lq 2 0 0], [], gi_1871, hq_915), [], ([], 54)), ((2, [lq 0 6 0, lq 1 0 3, lq 2 0 3], [], gi_1871, hq_915), [], ([], 51)), ((2, [lq 0 6 0, lq 1 0 3, lq 2 0 6], [], gi_1871, hq_915), [], ([], 48)), ((2, [lq 0 6 0, lq 1 0 3, lq 2 0 9], [], gi_1871, hq_915), [], ([], 45)), ((2, [lq 0 6 0, lq 1 0 3, lq 2 0 12], [], gi_1871, hq_915), [], ([], 42)), ((2, [lq 0 6 0, lq 1 0 3, lq 2 0 15], [], gi_1871, hq_915), [], ([], 39)), ((2, [lq 0 6 0, lq 1 0 3, lq 2 0 18], [], gi_1871, hq_915), [], ([], 36)), ((2, [lq 0 6 0, lq 1 0 3, lq 2 0 21], [], gi_1871, hq_915), [], ([], 33)), ((2, [lq 0 6 0, lq 1 0 3, lq 2 0 24], [], gi_1871, hq_915), [], ([], 30)), ((2, [lq 0 6 0, lq 1 0 3, lq 2 0 27], [], gi_1871, hq_915), [], ([], 27)), ((2, [lq 0 6 0, lq 1 0 3, lq 2 0 30], [], gi_1871, hq_915), [], ([], 24)), ((2, [lq 0 6 0, lq 1 0 3, lq 2 0 33], [], gi_1871, hq_915), [], ([], 21)), ((2, [lq 0 6 0, lq 1 0 3, lq 2 0 36], [], gi_1871, hq_915), [], ([], 18)), ((2, [lq 0 6 0, lq 1 0 3, lq 2 0 39], [], gi_1871, hq_915), [], ([], 15)), ((2, [lq 0 6 0, lq 1 0 3, lq 2 0 42], [], gi_1871, hq_915), [], ([], 12)), ((2, [lq 0 6 0, lq 1 0 3, lq 2 0 45], [], gi_1871, hq_915), [], ([], 9)), ((2, [lq 0 6 0, lq 1 0 3, lq 2 0 48], [], gi_1871, hq_915), [], ([], 6)), ((2, [lq 0 6 0, lq 1 0 3, lq 2 0 51], [], gi_1871, hq_915), [], ([], 3)), ((2, [lq 0 6 0, lq 1 0 3, lq 2 0 54], [], gi_1871, hq_915), [], ([], 0))]
theorem ch_2304 : staG tb_X12_isSeen 1 bt_RX12 [] ct_2304 [] [] cu_2304 37 con_2304 = true := by decide +kernel
theorem cc_2304 : cu_2304.all (cutG tb_X12_isSeen 1 bt_RX12 [] ct_2304 [] [] cu_2304 37 con_2304) = true := by decide +kernel
theorem cto_2304 (l : Launch) : CTOK2 l RX12 vwCl gTbl ct_2304 := ct2_cons (vl_2292 l) ck_RX12_417_2292 (ct2_cons (vl_2289 l) ck_RX12_417_2289 (ct2_cons (vl_2286 l) ck_RX12_417_2286 (ct2_cons (vl_2283 l) ck_RX12_417_2283 (ct2_cons (vl_2280 l) ck_RX12_417_2280 (ct2_cons (vl_2277 l) ck_RX12_417_2277 (ct2_cons (vl_2274 l) ck_RX12_417_2274 (ct2_cons (vl_2271 l) ck_RX12_417_2271 (ct2_cons (vl_2268 l) ck_RX12_417_2268 (ct2_cons (vl_2265 l) ck_RX12_417_2265 (ct2_cons (vl_2262 l) ck_RX12_417_2262 (ct2_cons (vl_2259 l) ck_RX12_417_2259 (ct2_cons (vl_2256 l) ck_RX12_417_2256 (ct2_cons (vl_2253 l) ck_RX12_417_2253 (ct2_cons (vl_2250 l) ck_RX12_417_2250 (ct2_cons (vl_2246 l) ck_RX12_417_2246 (ct2_cons (vl_2243 l) ck_RX12_417_2243 (ct2_cons (vl_2240 l) ck_RX12_417_2240 (ct2_cons (vl_2293 l) ck_RX12_417_2293 (ct2_cons (vl_2290 l) ck_RX12_417_2290 (ct2_cons (vl_2287 l) ck_RX12_417_2287 (ct2_cons (vl_2284 l) ck_RX12_417_2284 (ct2_cons (vl_2281 l) ck_RX12_417_2281 (ct2_cons (vl_2278 l) ck_RX12_417_2278 (ct2_cons (vl_2275 l) ck_RX12_417_2275 (ct2_cons (vl_2272 l) ck_RX12_417_2272 (ct2_cons (vl_2269 l) ck_RX12_417_2269 (ct2_cons (vl_2266 l) ck_RX12_417_2266 (ct2_cons (vl_2263 l) ck_RX12_417_2263 (ct2_cons (vl_2260 l) ck_RX12_417_2260 (ct2_cons (vl_2257 l) ck_RX12_417_2257 (ct2_cons (vl_2254 l) ck_RX12_417_2254 (ct2_cons (vl_2251 l) ck_RX12_417_2251 (ct2_cons (vl_2247 l) ck_RX12_417_2247 (ct2_cons (vl_2244 l) ck_RX12_417_2244 (ct2_cons (vl_2241 l) ck_RX12_417_2241 (ct2_cons (vl_2294 l) ck_RX12_417_2294 (ct2_cons (vl_2291 l) ck_RX12_417_2291 (ct2_cons (vl_2288 l) ck_RX12_417_2288 (ct2_cons (vl_2285 l) ck_RX12_417_2285 (ct2_cons (vl_2282 l) ck_RX12_417_2282 (ct2_cons (vl_2279 l) ck_RX12_417_2279 (ct2_cons (vl_2276 l) ck_RX12_417_2276 (ct2_cons (vl_2273 l) ck_RX12_417_2273 (ct2_cons (vl_2270 l) ck_RX12_417_2270 (ct2_cons (vl_2267 l) ck_RX12_417_2267 (ct2_cons (vl_2264 l) ck_RX12_417_2264 (ct2_cons (vl_2261 l) ck_RX12_417_2261 (ct2_cons (vl_2258 l) ck_RX12_417_2258 (ct2_cons (vl_2255 l) ck_RX12_417_2255 (ct2_cons (vl_2252 l) ck_RX12_417_2252 (ct2_cons (vl_2248 l) ck_RX12_417_2248 (ct2_cons (vl_2245 l) ck_RX12_417_2245 (ct2_cons (vl_2242 l) ck_RX12_417_2242 (ct2_nil))))))))))))))))))))))))))))))))))))))))))))))))))))))
theorem vl_2304 (l : Launch) : Vld2 l vwCl gTbl con_2304 := conR_ok3 gT_all (hd_2304) rfl pn_RX12 tk_X12_isSeen bo_RX12 xo_RX12 (cto_2304 l) ch_2304 (cut_all cc_2304)
