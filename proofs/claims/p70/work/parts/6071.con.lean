/-! ===== contracts, 71 ===== -/
/-- RookHustingModel back -/
noncomputable def gi_3138 : GI := jl_n [gp_920, gp_913]
noncomputable def ac_1556 : AC := .inr (3, jl_n [jl_x (1, (0, 1, 0)), js_1 50 2])
noncomputable def gi_3139 : GI := jl_n [gp_920, gp_914, gp_124]
noncomputable def hq_1057 : HP := [(false, ac_1541), (false, ac_1556), (false, ac_1516), (true, ac_1545)]
noncomputable def con_3242 : Con2 := ((yX12_back, cX12_back, 3, (some .int)), (1, 25), ([(6, 0, 0), (0, 0, 0)], gi_3138, [ac_1541, ac_1556, ac_1516, ac_1543], []), [((0, 0, 0), gi_3139, hq_1057, [], tg_8)])
theorem hd_3242 : con_3242.1 = (yX12_back, cX12_back, 3, (some .int)) := rfl
noncomputable def gi_3140 : GI := jl_n [gp_921]
noncomputable def hq_1058 : HP := [(false, ac_1541), (false, ac_1556), (false, ac_1516), (false, ac_1543)]
noncomputable def gi_3141 : GI := jl_n [gp_921, jl_i 0 16, jl_z 22]
noncomputable def hq_1059 : HP := [(false, ac_1541), (false, ac_1556), (false, ac_1516), (true, ac_1546)]
noncomputable def gi_3142 : GI := jl_n [gp_921, gp_115]
noncomputable def hq_1060 : HP := [(false, ac_1541), (false, ac_1556), (false, ac_1516), (true, ac_1547)]
noncomputable def gi_3143 : GI := jl_n [gp_921, gp_119]
noncomputable def hq_1061 : HP := [(false, ac_1541), (false, ac_1556), (false, ac_1516), (true, ac_1548)]
noncomputable def gi_3144 : GI := jl_n [gp_921, gp_110, jl_z 19]
noncomputable def hq_1062 : HP := [(false, ac_1541), (false, ac_1556), (false, ac_1516), (true, ac_1549)]
noncomputable def gi_3145 : GI := jl_n [gp_921, gp_111, jl_z 18]
noncomputable def hq_1063 : HP := [(false, ac_1541), (false, ac_1556), (false, ac_1516), (true, ac_1550)]
noncomputable def gi_3146 : GI := jl_n [gp_921, gp_126, jl_z 17]
noncomputable def hq_1064 : HP := [(false, ac_1541), (false, ac_1556), (false, ac_1516), (true, ac_1551)]
noncomputable def gi_3147 : GI := jl_n [gp_921, gp_15, jl_z 16]
noncomputable def hq_1065 : HP := [(false, ac_1541), (false, ac_1556), (false, ac_1516), (true, ac_1552)]
noncomputable def gi_3148 : GI := jl_n [gp_921, gp_406]
noncomputable def hq_1066 : HP := [(false, ac_1541), (false, ac_1556), (false, ac_1516), (true, ac_1553)]
noncomputable def gi_3149 : GI := jl_n [gp_921, gp_124]
noncomputable def hq_1067 : HP := [(false, ac_1541), (false, ac_1556), (false, ac_1516), (true, ac_1554)]
noncomputable def cu_3242_0 : List CUT2 := [((29, [lq 0 6 0, lq 1 0 0, lq 2 0 0], [], gi_3140, hq_1058), [], ([], 124)), ((29, [lq 0 6 0, lq 1 0 0, lq 2 0 1], [], gi_3141, hq_1059), [], ([], 123)), ((29, [lq 0 6 0, lq 1 0 0, lq 2 0 2], [], gi_3142, hq_1060), [], ([], 122)), ((29, [lq 0 6 0, lq 1 0 0, lq 2 0 3], [], gi_3143, hq_1061), [], ([], 121)), ((29, [lq 0 6 0, lq 1 0 0, lq 2 0 4], [], gi_3144, hq_1062), [], ([], 120)), ((29, [lq 0 6 0, lq 1 0 0, lq 2 0 5], [], gi_3145, hq_1063), [], ([], 119)), ((29, [lq 0 6 0, lq 1 0 0, lq 2 0 6], [], gi_3146, hq_1064), [], ([], 118)), ((29, [lq 0 6 0, lq 1 0 0, lq 2 0 7], [], gi_3147, hq_1065), [], ([], 117)), ((29, [lq 0 6 0, lq 1 0 0, lq 2 0 8], [], gi_3148, hq_1066), [], ([], 116)), ((29, [lq 0 6 0, lq 1 0 0, lq 2 0 9], [], gi_3149, hq_1067), [], ([], 115)), ((29, [lq 0 6 0, lq 1 0 0, lq 2 0 10], [], gi_3149, hq_1067), [], ([], 114)), ((29, [lq 0 6 0, lq 1 0 0, lq 2 0 11], [], gi_3149, hq_1067), [], ([], 113)), ((29, [lq 0 6 0, lq 1 0 0, lq 2 0 12], [], gi_3149, hq_1067), [], ([], 112)), ((29, [lq 0 6 0, lq 1 0 0, lq 2 0 13], [], gi_3149, hq_1067), [], ([], 111)), ((29, [lq 0 6 0, lq 1 0 0, lq 2 0 14], [], gi_3149, hq_1067), [], ([], 110)), ((29, [lq 0 6 0, lq 1 0 0, lq 2 0 15], [], gi_3149, hq_1067), [], ([], 109)), ((29, [lq 0 6 0, lq 1 0 0, lq 2 0 16], [], gi_3149, hq_1067), [], ([], 108)), ((29, [lq 0 6 0, lq 1 0 0, lq 2 0 17], [], gi_3149, hq_1067), [], ([], 107)), ((29, [lq 0 6 0, lq 1 0 0, lq 2 0 18], [], gi_3149, hq_1067), [], ([], 106)), ((29, [lq 0 6 0, lq 1 0 0, lq 2 0 19], [], gi_3149, hq_1067), [], ([], 105)), ((29, [lq 0 6 0, lq 1 0 0, lq 2 0 20], [], gi_3149, hq_1067), [], ([], 104)), ((29, [lq 0 6 0, lq 1 0 0, lq 2 0 21], [], gi_3149, hq_1067), [], ([], 103)), ((29, [lq 0 6 0, lq 1 0 0, lq 2 0 22], [], gi_3149, hq_1067), [], ([], 102)), ((29, [lq 0 6 0, lq 1 0 0, lq 2 0 23], [], gi_3149, hq_1067), [], ([], 101)), ((29, [lq 0 6 0, lq 1 0 0, lq 2 0 24], [], gi_3149, hq_1067), [], ([], 100)), ((29, [lq 0 6 0, lq 1 0 0, lq 2 0 25], [], gi_3149, hq_1067), [], ([], 99)), ((29, [lq 0 6 0, lq 1 0 0, lq 2 0 26], [], gi_3149, hq_1067), [], ([], 98)), ((29, [lq 0 6 0, lq 1 0 0, lq 2 0 27], [], gi_3149, hq_1067), [], ([], 97)), ((29, [lq 0 6 0, lq 1 0 0, lq 2 0 28], [], gi_3149, hq_1067), [], ([], 96)), ((29, [lq 0 6 0, lq 1 0 0, lq 2 0 29], [], gi_3149, hq_1067), [], ([], 95)), ((29, [lq 0 6 0, lq 1 0 0, lq 2 0 30], [], gi_3149, hq_1067), [], ([], 94)), ((29, [lq 0 6 0, lq 1 0 0, lq 2 0 31], [], gi_3149, hq_1067), [], ([], 93)), ((29, [lq 0 6 0, lq 1 0 0, lq 2 0 32], [], gi_3149, hq_1067), [], ([], 92))]
noncomputable def cu_3242_1 : List CUT2 := [((29, [lq 0 6 0, lq 1 0 0, lq 2 0 33], [], gi_3149, hq_1067), [], ([], 91)), ((29, [lq 0 6 0, lq 1 0 0, lq 2 0 34], [], gi_3149, hq_1067), [], ([], 90)), ((29, [lq 0 6 0, lq 1 0 0, lq 2 0 35], [], gi_3149, hq_1067), [], ([], 89)), ((29, [lq 0 6 0, lq 1 0 0, lq 2 0 36], [], gi_3149, hq_1067), [], ([], 88)), ((29, [lq 0 6 0, lq 1 0 0, lq 2 0 37], [], gi_3149, hq_1067), [], ([], 87)), ((29, [lq 0 6 0, lq 1 0 0, lq 2 0 38], [], gi_3149, hq_1067), [], ([], 86)), ((29, [lq 0 6 0, lq 1 0 0, lq 2 0 39], [], gi_3149, hq_1067), [], ([], 85)), ((29, [lq 0 6 0, lq 1 0 0, lq 2 0 40], [], gi_3149, hq_1067), [], ([], 84)), ((29, [lq 0 6 0, lq 1 0 0, lq 2 0 41], [], gi_3149, hq_1067), [], ([], 83)), ((29, [lq 0 6 0, lq 1 0 0, lq 2 0 42], [], gi_3149, hq_1067), [], ([], 82)), ((29, [lq 0 6 0, lq 1 0 0, lq 2 0 43], [], gi_3149, hq_1067), [], ([], 81)), ((29, [lq 0 6 0, lq 1 0 0, lq 2 0 44], [], gi_3149, hq_1067), [], ([], 80)), ((29, [lq 0 6 0, lq 1 0 0, lq 2 0 45], [], gi_3149, hq_1067), [], ([], 79)), ((29, [lq 0 6 0, lq 1 0 0, lq 2 0 46], [], gi_3149, hq_1067), [], ([], 78)), ((29, [lq 0 6 0, lq 1 0 0, lq 2 0 47], [], gi_3149, hq_1067), [], ([], 77)), ((29, [lq 0 6 0, lq 1 0 0, lq 2 0 48], [], gi_3149, hq_1067), [], ([], 76)), ((29, [lq 0 6 0, lq 1 0 0, lq 2 0 49], [], gi_3149, hq_1067), [], ([], 75)), ((29, [lq 0 6 0, lq 1 0 0, lq 2 0 50], [], gi_3149, hq_1067), [], ([], 74)), ((29, [lq 0 6 0, lq 1 0 0, lq 2 0 51], [], gi_3149, hq_1067), [], ([], 73)), ((29, [lq 0 6 0, lq 1 0 0, lq 2 0 52], [], gi_3149, hq_1067), [], ([], 72)), ((29, [lq 0 6 0, lq 1 0 0, lq 2 0 53], [], gi_3149, hq_1067), [], ([], 71)), ((29, [lq 0 6 0, lq 1 0 0, lq 2 0 54], [], gi_3149, hq_1067), [], ([], 70)), ((29, [lq 0 6 0, lq 1 0 0, lq 2 0 55], [], gi_3149, hq_1067), [], ([], 69)), ((29, [lq 0 6 0, lq 1 0 0, lq 2 0 56], [], gi_3149, hq_1067), [], ([], 68)), ((29, [lq 0 6 0, lq 1 0 0, lq 2 0 57], [], gi_3149, hq_1067), [], ([], 67)), ((29, [lq 0 6 0, lq 1 0 0, lq 2 0 58], [], gi_3149, hq_1067), [], ([], 66)), ((29, [lq 0 6 0, lq 1 0 0, lq 2 0 59], [], gi_3149, hq_1067), [], ([], 65)), ((29, [lq 0 6 0, lq 1 0 0, lq 2 0 60], [], gi_3149, hq_1067), [], ([], 64)), ((29, [lq 0 6 0, lq 1 0 0, lq 2 0 61], [], gi_3149, hq_1067), [], ([], 63)), ((29, [lq 0 6 0, lq 1 0 0, lq 2 0 62], [], gi_3149, hq_1067), [], ([], 62)), ((29, [lq 0 6 0, lq 1 0 0, lq 2 0 63], [], gi_3149, hq_1067), [], ([], 61)), ((29, [lq 0 6 0, lq 1 0 0, lq 2 0 64], [], gi_3149, hq_1067), [], ([], 60)), ((29, [lq 0 6 0, lq 1 0 0, lq 2 0 65], [], gi_3149, hq_1067), [], ([], 59))]
noncomputable def cu_3242_2 : List CUT2 := [((29, [lq 0 6 0, lq 1 0 0, lq 2 0 66], [], gi_3149, hq_1067), [], ([], 58)), ((29, [lq 0 6 0, lq 1 0 0, lq 2 0 67], [], gi_3149, hq_1067), [], ([], 57)), ((29, [lq 0 6 0, lq 1 0 0, lq 2 0 68], [], gi_3149, hq_1067), [], ([], 56)), ((29, [lq 0 6 0, lq 1 0 0, lq 2 0 69], [], gi_3149, hq_1067), [], ([], 55)), ((29, [lq 0 6 0, lq 1 0 0, lq 2 0 70], [], gi_3149, hq_1067), [], ([], 54)), ((29, [lq 0 6 0, lq 1 0 0, lq 2 0 71], [], gi_3149, hq_1067), [], ([], 53)), ((29, [lq 0 6 0, lq 1 0 0, lq 2 0 72], [], gi_3149, hq_1067), [], ([], 52)), ((29, [lq 0 6 0, lq 1 0 0, lq 2 0 73], [], gi_3149, hq_1067), [], ([], 51)), ((29, [lq 0 6 0, lq 1 0 0, lq 2 0 74], [], gi_3149, hq_1067), [], ([], 50)), ((29, [lq 0 6 0, lq 1 0 0, lq 2 0 75], [], gi_3149, hq_1067), [], ([], 49)), ((29, [lq 0 6 0, lq 1 0 0, lq 2 0 76], [], gi_3149, hq_1067), [], ([], 48)), ((29, [lq 0 6 0, lq 1 0 0, lq 2 0 77], [], gi_3149, hq_1067), [], ([], 47)), ((29, [lq 0 6 0, lq 1 0 0, lq 2 0 78], [], gi_3149, hq_1067), [], ([], 46)), ((29, [lq 0 6 0, lq 1 0 0, lq 2 0 79], [], gi_3149, hq_1067), [], ([], 45)), ((29, [lq 0 6 0, lq 1 0 0, lq 2 0 80], [], gi_3149, hq_1067), [], ([], 44)), ((29, [lq 0 6 0, lq 1 0 0, lq 2 0 81], [], gi_3149, hq_1067), [], ([], 43)), ((29, [lq 0 6 0, lq 1 0 0, lq 2 0 82], [], gi_3149, hq_1067), [], ([], 42)), ((29, [lq 0 6 0, lq 1 0 0, lq 2 0 83], [], gi_3149, hq_1067), [], ([], 41)), ((29, [lq 0 6 0, lq 1 0 0, lq 2 0 84], [], gi_3149, hq_1067), [], ([], 40)), ((29, [lq 0 6 0, lq 1 0 0, lq 2 0 85], [], gi_3149, hq_1067), [], ([], 39)), ((29, [lq 0 6 0, lq 1 0 0, lq 2 0 86], [], gi_3149, hq_1067), [], ([], 38)), ((29, [lq 0 6 0, lq 1 0 0, lq 2 0 87], [], gi_3149, hq_1067), [], ([], 37)), ((29, [lq 0 6 0, lq 1 0 0, lq 2 0 88], [], gi_3149, hq_1067), [], ([], 36)), ((29, [lq 0 6 0, lq 1 0 0, lq 2 0 89], [], gi_3149, hq_1067), [], ([], 35)), ((29, [lq 0 6 0, lq 1 0 0, lq 2 0 90], [], gi_3149, hq_1067), [], ([], 34)), ((29, [lq 0 6 0, lq 1 0 0, lq 2 0 91], [], gi_3149, hq_1067), [], ([], 33)), ((29, [lq 0 6 0, lq 1 0 0, lq 2 0 92], [], gi_3149, hq_1067), [], ([], 32)), ((29, [lq 0 6 0, lq 1 0 0, lq 2 0 93], [], gi_3149, hq_1067), [], ([], 31)), ((29, [lq 0 6 0, lq 1 0 0, lq 2 0 94], [], gi_3149, hq_1067), [], ([], 30)), ((29, [lq 0 6 0, lq 1 0 0, lq 2 0 95], [], gi_3149, hq_1067), [], ([], 29)), ((29, [lq 0 6 0, lq 1 0 0, lq 2 0 96], [], gi_3149, hq_1067), [], ([], 28)), ((29, [lq 0 6 0, lq 1 0 0, lq 2 0 97], [], gi_3149, hq_1067), [], ([], 27)), ((29, [lq 0 6 0, lq 1 0 0, lq 2 0 98], [], gi_3149, hq_1067), [], ([], 26))]
noncomputable def cu_3242_3 : List CUT2 := [((29, [lq 0 6 0, lq 1 0 0, lq 2 0 99], [], gi_3149, hq_1067), [], ([], 25)), ((29, [lq 0 6 0, lq 1 0 0, lq 2 0 100], [], gi_3149, hq_1067), [], ([], 24)), ((29, [lq 0 6 0, lq 1 0 0, lq 2 0 101], [], gi_3149, hq_1067), [], ([], 23)), ((29, [lq 0 6 0, lq 1 0 0, lq 2 0 102], [], gi_3149, hq_1067), [], ([], 22)), ((29, [lq 0 6 0, lq 1 0 0, lq 2 0 103], [], gi_3149, hq_1067), [], ([], 21)), ((29, [lq 0 6 0, lq 1 0 0, lq 2 0 104], [], gi_3149, hq_1067), [], ([], 20)), ((29, [lq 0 6 0, lq 1 0 0, lq 2 0 105], [], gi_3149, hq_1067), [], ([], 19)), ((29, [lq 0 6 0, lq 1 0 0, lq 2 0 106], [], gi_3149, hq_1067), [], ([], 18)), ((29, [lq 0 6 0, lq 1 0 0, lq 2 0 107], [], gi_3149, hq_1067), [], ([], 17)), ((29, [lq 0 6 0, lq 1 0 0, lq 2 0 108], [], gi_3149, hq_1067), [], ([], 16)), ((29, [lq 0 6 0, lq 1 0 0, lq 2 0 109], [], gi_3149, hq_1067), [], ([], 15)), ((29, [lq 0 6 0, lq 1 0 0, lq 2 0 110], [], gi_3149, hq_1067), [], ([], 14)), ((29, [lq 0 6 0, lq 1 0 0, lq 2 0 111], [], gi_3149, hq_1067), [], ([], 13)), ((29, [lq 0 6 0, lq 1 0 0, lq 2 0 112], [], gi_3149, hq_1067), [], ([], 12)), ((29, [lq 0 6 0, lq 1 0 0, lq 2 0 113], [], gi_3149, hq_1067), [], ([], 11)), ((29, [lq 0 6 0, lq 1 0 0, lq 2 0 114], [], gi_3149, hq_1067), [], ([], 10)), ((29, [lq 0 6 0, lq 1 0 0, lq 2 0 115], [], gi_3149, hq_1067), [], ([], 9)), ((29, [lq 0 6 0, lq 1 0 0, lq 2 0 116], [], gi_3149, hq_1067), [], ([], 8)), ((29, [lq 0 6 0, lq 1 0 0, lq 2 0 117], [], gi_3149, hq_1067), [], ([], 7)), ((29, [lq 0 6 0, lq 1 0 0, lq 2 0 118], [], gi_3149, hq_1067), [], ([], 6)), ((29, [lq 0 6 0, lq 1 0 0, lq 2 0 119], [], gi_3149, hq_1067), [], ([], 5)), ((29, [lq 0 6 0, lq 1 0 0, lq 2 0 120], [], gi_3149, hq_1067), [], ([], 4)), ((29, [lq 0 6 0, lq 1 0 0, lq 2 0 121], [], gi_3149, hq_1067), [], ([], 3)), ((29, [lq 0 6 0, lq 1 0 0, lq 2 0 122], [], gi_3149, hq_1067), [], ([], 2)), ((29, [lq 0 6 0, lq 1 0 0, lq 2 0 123], [], gi_3149, hq_1067), [], ([], 1)), ((29, [lq 0 6 0, lq 1 0 0, lq 2 0 124], [], gi_3149, hq_1067), [], ([], 0))]
noncomputable def cu_3242 : List CUT2 := cu_3242_0 ++ (cu_3242_1 ++ (cu_3242_2 ++ (cu_3242_3)))
theorem ch_3242 : staG tb_X12_back 1 bt_RX12 [] ct_3194 [(15, [(1, (1, 1, 0), 0, 0)])] [] cu_3242 20 con_3242 = true := by decide +kernel
theorem cc_3242_0 : cu_3242_0.all (cutG tb_X12_back 1 bt_RX12 [] ct_3194 [(15, [(1, (1, 1, 0), 0, 0)])] [] cu_3242 20 con_3242) = true := by decide +kernel
theorem cc_3242_1 : cu_3242_1.all (cutG tb_X12_back 1 bt_RX12 [] ct_3194 [(15, [(1, (1, 1, 0), 0, 0)])] [] cu_3242 20 con_3242) = true := by decide +kernel
theorem cc_3242_2 : cu_3242_2.all (cutG tb_X12_back 1 bt_RX12 [] ct_3194 [(15, [(1, (1, 1, 0), 0, 0)])] [] cu_3242 20 con_3242) = true := by decide +kernel
theorem cc_3242_3 : cu_3242_3.all (cutG tb_X12_back 1 bt_RX12 [] ct_3194 [(15, [(1, (1, 1, 0), 0, 0)])] [] cu_3242 20 con_3242) = true := by decide +kernel
theorem vl_3242 (l : Launch) : Vld2 l vwCl gTbl con_3242 := conR_ok3 gT_all (hd_3242) rfl pn_RX12 tk_X12_back bo_RX12 xo_RX12 (cto_3194 l) ch_3242 (cut_app (cut_all cc_3242_0) (cut_app (cut_all cc_3242_1) (cut_app (cut_all cc_3242_2) (cut_all cc_3242_3))))
/-- RookHustingModel back -/
noncomputable def gi_3150 : GI := jl_n [gp_614, gp_912, gp_913]
noncomputable def gi_3151 : GI := jl_n [gp_614, gp_912, gp_914]
noncomputable def con_3243 : Con2 := ((yX12_back, cX12_back, 3, (some .int)), (1, 25), ([(6, 0, 0), (1, 1, 0)], gi_3150, [ac_1541, ac_1542, ac_1516, ac_1543], []), [((0, (-2), 0), gi_3151, hq_1034, [], [1])])
theorem hd_3243 : con_3243.1 = (yX12_back, cX12_back, 3, (some .int)) := rfl
noncomputable def cu_3243 : List CUT2 := []
theorem ch_3243 : staG tb_X12_back 1 bt_RX12 [] ct_3194 [(15, [(1, (1, 1, 0), 0, 0)])] [] cu_3243 10 con_3243 = true := by decide +kernel
theorem vl_3243 (l : Launch) : Vld2 l vwCl gTbl con_3243 := conR_ok3 gT_all (hd_3243) rfl pn_RX12 tk_X12_back bo_RX12 xo_RX12 (cto_3194 l) ch_3243 cut_nil
/-- RookHusting back -/
noncomputable def ac_1557 : AC := .inl (11, jl_n [vp_161, jl_c 6, vp_162])
noncomputable def hc_267 : List AC := [ac_1557, ac_1529, .inl (9, [(6, 4, 0), (6, 24, 0)]), .inl (9, [(6, 5, 0), (6, 25, 0)]), ac_1491, ac_1492, am_10, am_10, am_2, am_2, am_1, am_1, am_2, am_2, am_9, am_9, am_6, am_6, am_8, am_8, am_5, am_5, am_4, am_4, .inl (0, [(1, 59, 0), (6, 26, 0), (6, 28, 0), (6, 30, 0)]), .inl (0, [(1, 63, 0), (6, 27, 0), (6, 29, 0), (6, 31, 0)]), ac_1493, ac_1494, am_11, am_11, ac_1495, ac_1496, ac_1530, .inl (9, [(6, 34, 0), (6, 44, 0)]), ac_1531, am_10, am_2, am_1, am_2, am_9, am_6, am_8, am_5, am_4, .inl (0, [(1, 214, 0), (6, 45, 0), (6, 46, 0), (6, 47, 0)]), ac_1532, am_11, ac_1533, .inl (9, [(6, 49, 0), (6, 59, 0)]), ac_1534, am_10, am_2, am_1, am_2, am_9, am_6, am_8, am_5, am_4, .inl (0, [(1, 297, 0), (6, 60, 0), (6, 61, 0), (6, 62, 0)]), ac_1535, am_11, ac_1536]
noncomputable def hq_1068 : HP := [(false, ac_1557), (false, ac_1529), (false, .inl (9, [(6, 4, 0), (6, 24, 0)])), (false, .inl (9, [(6, 5, 0), (6, 25, 0)])), (false, ac_1491), (false, ac_1492), (false, am_10), (false, am_10), (false, am_2), (false, am_2), (false, am_1), (false, am_1), (false, am_2), (false, am_2), (false, am_9), (false, am_9), (false, am_6), (false, am_6), (false, am_8), (false, am_8), (false, am_5), (false, am_5), (false, am_4), (false, am_4), (false, .inl (0, [(1, 59, 0), (6, 26, 0), (6, 28, 0), (6, 30, 0)])), (false, .inl (0, [(1, 63, 0), (6, 27, 0), (6, 29, 0), (6, 31, 0)])), (false, ac_1493), (false, ac_1494), (false, am_11), (false, am_11), (false, ac_1495), (false, ac_1496), (false, ac_1530), (false, .inl (9, [(6, 34, 0), (6, 44, 0)])), (false, ac_1531), (false, am_10), (false, am_2), (false, am_1), (false, am_2), (false, am_9), (false, am_6), (false, am_8), (false, am_5), (false, am_4), (false, .inl (0, [(1, 214, 0), (6, 45, 0), (6, 46, 0), (6, 47, 0)])), (false, ac_1532), (false, am_11), (false, ac_1533), (false, .inl (9, [(6, 49, 0), (6, 59, 0)])), (false, ac_1534), (false, am_10), (false, am_2), (false, am_1), (false, am_2), (false, am_9), (false, am_6), (false, am_8), (false, am_5), (false, am_4), (false, .inl (0, [(1, 297, 0), (6, 60, 0), (6, 61, 0), (6, 62, 0)])), (false, ac_1535), (false, am_11), (false, ac_1536)]
noncomputable def con_3244 : Con2 := ((yX11_back, cX11_back, 2, (some .int)), (0, 0), ([(6, 0, 0), (1, 1, 0)], gi_3106, hc_267, rq_22), [((0, (-2), 0), gi_3107, hq_1068, [], [1])])
theorem hd_3244 : con_3244.1 = (yX11_back, cX11_back, 2, (some .int)) := rfl
noncomputable def cu_3244 : List CUT2 := []
theorem ch_3244 : staG tb_X11_back 1 bt_RX11 [] ct_3 [] [] cu_3244 6 con_3244 = true := by decide +kernel
theorem vl_3244 (l : Launch) : Vld2 l vwCl gTbl con_3244 := conR_ok3 gT_all (hd_3244) rfl pn_RX11 tk_X11_back bo_RX11 xo_RX11 (cto_3 l) ch_3244 cut_nil
/-- RookHusting back -/
noncomputable def gi_3152 : GI := jl_n [jl_z 15, jl_r 2 (jl_i 0 1), gp_910, jl_z 1]
noncomputable def con_3245 : Con2 := ((yX11_back, cX11_back, 2, (some .int)), (1, 21), ([(6, 0, 0), (0, 0, 0)], gi_3108, hc_267, rq_22), [((0, (-6), 0), gi_3152, hq_1068, [], [1])])
theorem hd_3245 : con_3245.1 = (yX11_back, cX11_back, 2, (some .int)) := rfl
theorem ck_RX11_183_155 : COK2 RX11 vwCl gTbl 183 1 con_155 := ⟨wd_682, wd_125, mh_X11_hasBit, .inl ⟨rfl, wd_799, wd_681, pd_X11_hasBit⟩⟩
noncomputable def ct_3245 : CTB2 := [(17, 183, 1, con_155, [])]
noncomputable def cu_3245 : List CUT2 := []
theorem ch_3245 : staG tb_X11_back 1 bt_RX11 [] ct_3245 [] [] cu_3245 14 con_3245 = true := by decide +kernel
theorem cto_3245 (l : Launch) : CTOK2 l RX11 vwCl gTbl ct_3245 := ct2_cons (vl_155 l) ck_RX11_183_155 (ct2_nil)
theorem vl_3245 (l : Launch) : Vld2 l vwCl gTbl con_3245 := conR_ok3 gT_all (hd_3245) rfl pn_RX11 tk_X11_back bo_RX11 xo_RX11 (cto_3245 l) ch_3245 cut_nil
/-- RookHusting back -/
noncomputable def ac_1558 : AC := .inl (11, jl_n [vp_161, jl_c 6, vp_163])
noncomputable def hq_1069 : HP := [(true, ac_1558), (false, ac_1529), (false, .inl (9, [(6, 4, 0), (6, 24, 0)])), (false, .inl (9, [(6, 5, 0), (6, 25, 0)])), (true, ac_1540), (false, ac_1492), (true, am_10), (false, am_10), (true, am_2), (false, am_2), (true, am_1), (false, am_1), (true, am_2), (false, am_2), (true, am_9), (false, am_9), (true, am_6), (false, am_6), (true, am_8), (false, am_8), (true, am_5), (false, am_5), (true, am_4), (false, am_4), (true, .inl (0, [(1, 214, 0), (6, 26, 0), (6, 28, 0), (6, 30, 0)])), (false, .inl (0, [(1, 63, 0), (6, 27, 0), (6, 29, 0), (6, 31, 0)])), (true, ac_1532), (false, ac_1494), (true, am_11), (false, am_11), (true, ac_1533), (false, ac_1496), (true, ac_1539), (false, .inl (9, [(6, 34, 0), (6, 44, 0)])), (false, ac_1531), (false, am_10), (false, am_2), (false, am_1), (false, am_2), (false, am_9), (false, am_6), (false, am_8), (false, am_5), (false, am_4), (false, .inl (0, [(1, 214, 0), (6, 45, 0), (6, 46, 0), (6, 47, 0)])), (false, ac_1532), (false, am_11), (false, ac_1533), (false, .inl (9, [(6, 49, 0), (6, 59, 0)])), (false, ac_1534), (false, am_10), (false, am_2), (false, am_1), (false, am_2), (false, am_9), (false, am_6), (false, am_8), (false, am_5), (false, am_4), (false, .inl (0, [(1, 297, 0), (6, 60, 0), (6, 61, 0), (6, 62, 0)])), (false, ac_1535), (false, am_11), (false, ac_1536)]
noncomputable def con_3246 : Con2 := ((yX11_back, cX11_back, 2, (some .int)), (3, 60), ([(6, 0, 0), (0, 1, 0)], gi_3108, hc_267, rq_22), [((0, 0, 0), gi_3109, hq_1069, rq_24, tg_32)])
theorem hd_3246 : con_3246.1 = (yX11_back, cX11_back, 2, (some .int)) := rfl
theorem ck_RX11_183_154 : COK2 RX11 vwCl gTbl 183 1 con_154 := ⟨wd_682, wd_125, mh_X11_hasBit, .inl ⟨rfl, wd_799, wd_681, pd_X11_hasBit⟩⟩
noncomputable def ct_3246 : CTB2 := [(17, 183, 1, con_154, []), (36, 408, 0, con_3189, [2, 33, 4, 34, 6, 35, 8, 36, 10, 37, 12, 38, 14, 39, 16, 40, 18, 41, 20, 42, 22, 43, 24, 44, 26, 45, 28, 46, 30, 47]), (40, 130, 0, con_312, [0, 32])]
noncomputable def cu_3246 : List CUT2 := []
theorem ch_3246 : staG tb_X11_back 1 bt_RX11 [] ct_3246 [] [] cu_3246 23 con_3246 = true := by decide +kernel
theorem cto_3246 (l : Launch) : CTOK2 l RX11 vwCl gTbl ct_3246 := ct2_cons (vl_154 l) ck_RX11_183_154 (ct2_cons (vl_3189 l) ck_RX11_408_3189 (ct2_cons (vl_312 l) ck_RX11_130_312 (ct2_nil)))
theorem vl_3246 (l : Launch) : Vld2 l vwCl gTbl con_3246 := conR_ok3 gT_all (hd_3246) rfl pn_RX11 tk_X11_back bo_RX11 xo_RX11 (cto_3246 l) ch_3246 cut_nil
/-- RookHusting back -/
noncomputable def hq_1070 : HP := [(true, ac_1558), (false, ac_1529), (false, .inl (9, [(6, 4, 0), (6, 24, 0)])), (false, .inl (9, [(6, 5, 0), (6, 25, 0)])), (true, ac_1514), (false, ac_1492), (true, am_10), (false, am_10), (true, am_2), (false, am_2), (true, am_1), (false, am_1), (true, am_2), (false, am_2), (true, am_9), (false, am_9), (true, am_6), (false, am_6), (true, am_8), (false, am_8), (true, am_5), (false, am_5), (true, am_4), (false, am_4), (true, .inl (0, [(1, 63, 0), (6, 26, 0), (6, 28, 0), (6, 30, 0)])), (false, .inl (0, [(1, 63, 0), (6, 27, 0), (6, 29, 0), (6, 31, 0)])), (true, ac_1494), (false, ac_1494), (true, am_11), (false, am_11), (true, ac_1496), (false, ac_1496), (true, ac_1539), (false, .inl (9, [(6, 34, 0), (6, 44, 0)])), (false, ac_1531), (false, am_10), (false, am_2), (false, am_1), (false, am_2), (false, am_9), (false, am_6), (false, am_8), (false, am_5), (false, am_4), (false, .inl (0, [(1, 214, 0), (6, 45, 0), (6, 46, 0), (6, 47, 0)])), (false, ac_1532), (false, am_11), (false, ac_1533), (false, .inl (9, [(6, 49, 0), (6, 59, 0)])), (false, ac_1534), (false, am_10), (false, am_2), (false, am_1), (false, am_2), (false, am_9), (false, am_6), (false, am_8), (false, am_5), (false, am_4), (false, .inl (0, [(1, 297, 0), (6, 60, 0), (6, 61, 0), (6, 62, 0)])), (false, ac_1535), (false, am_11), (false, ac_1536)]
noncomputable def con_3247 : Con2 := ((yX11_back, cX11_back, 2, (some .int)), (3, 60), ([(6, 0, 0), (0, 2, 0)], gi_3108, hc_267, rq_22), [((0, 0, 0), gi_3109, hq_1070, rq_21, tg_32)])
theorem hd_3247 : con_3247.1 = (yX11_back, cX11_back, 2, (some .int)) := rfl
theorem ck_RX11_183_153 : COK2 RX11 vwCl gTbl 183 1 con_153 := ⟨wd_682, wd_125, mh_X11_hasBit, .inl ⟨rfl, wd_799, wd_681, pd_X11_hasBit⟩⟩
noncomputable def ct_3247 : CTB2 := [(17, 183, 1, con_153, []), (36, 408, 0, con_3189, [2, 3, 4, 5, 6, 7, 8, 9, 10, 11, 12, 13, 14, 15, 16, 17, 18, 19, 20, 21, 22, 23, 24, 25, 26, 27, 28, 29, 30, 31]), (40, 130, 0, con_312, [0, 32])]
noncomputable def cu_3247 : List CUT2 := []
theorem ch_3247 : staG tb_X11_back 1 bt_RX11 [] ct_3247 [] [] cu_3247 23 con_3247 = true := by decide +kernel
theorem cto_3247 (l : Launch) : CTOK2 l RX11 vwCl gTbl ct_3247 := ct2_cons (vl_153 l) ck_RX11_183_153 (ct2_cons (vl_3189 l) ck_RX11_408_3189 (ct2_cons (vl_312 l) ck_RX11_130_312 (ct2_nil)))
theorem vl_3247 (l : Launch) : Vld2 l vwCl gTbl con_3247 := conR_ok3 gT_all (hd_3247) rfl pn_RX11 tk_X11_back bo_RX11 xo_RX11 (cto_3247 l) ch_3247 cut_nil
/-- RookHusting back -/
noncomputable def con_3248 : Con2 := ((yX11_back, cX11_back, 2, (some .int)), (0, 0), ([(6, 0, 0), (1, 1, 0)], gi_3110, hc_267, rq_22), [((0, (-2), 0), gi_3111, hq_1068, [], [1])])
theorem hd_3248 : con_3248.1 = (yX11_back, cX11_back, 2, (some .int)) := rfl
noncomputable def cu_3248 : List CUT2 := []
theorem ch_3248 : staG tb_X11_back 1 bt_RX11 [] ct_3 [] [] cu_3248 9 con_3248 = true := by decide +kernel
theorem vl_3248 (l : Launch) : Vld2 l vwCl gTbl con_3248 := conR_ok3 gT_all (hd_3248) rfl pn_RX11 tk_X11_back bo_RX11 xo_RX11 (cto_3 l) ch_3248 cut_nil
/-- RookHustingModel back -/
noncomputable def ac_1559 : AC := .inr (3, jl_n [jl_x (1, (0, 0, 0)), js_1 50 2])
noncomputable def gi_3153 : GI := jl_n [gp_920, gp_914]
noncomputable def hq_1071 : HP := [(false, ac_1541), (false, ac_1559), (false, ac_1516), (false, ac_1543)]
noncomputable def con_3249 : Con2 := ((yX12_back, cX12_back, 3, (some .int)), (1, 25), ([(6, 0, 0), (0, 0, 0)], gi_3138, [ac_1541, ac_1559, ac_1516, ac_1543], []), [((0, (-6), 0), gi_3153, hq_1071, [], [1])])
theorem hd_3249 : con_3249.1 = (yX12_back, cX12_back, 3, (some .int)) := rfl
noncomputable def cu_3249 : List CUT2 := []
theorem ch_3249 : staG tb_X12_back 1 bt_RX12 [] ct_3194 [(15, [(1, (1, 1, 0), 0, 0)])] [] cu_3249 15 con_3249 = true := by decide +kernel
theorem vl_3249 (l : Launch) : Vld2 l vwCl gTbl con_3249 := conR_ok3 gT_all (hd_3249) rfl pn_RX12 tk_X12_back bo_RX12 xo_RX12 (cto_3194 l) ch_3249 cut_nil
/-- RookHusting back -/
noncomputable def ac_1560 : AC := .inl (11, jl_n [vp_161, jl_c 5, vp_162])
noncomputable def hc_268 : List AC := [ac_1560, ac_1529, .inl (9, [(6, 4, 0), (6, 24, 0)]), .inl (9, [(6, 5, 0), (6, 25, 0)]), ac_1491, ac_1492, am_10, am_10, am_2, am_2, am_1, am_1, am_2, am_2, am_9, am_9, am_6, am_6, am_8, am_8, am_5, am_5, am_4, am_4, .inl (0, [(1, 59, 0), (6, 26, 0), (6, 28, 0), (6, 30, 0)]), .inl (0, [(1, 63, 0), (6, 27, 0), (6, 29, 0), (6, 31, 0)]), ac_1493, ac_1494, am_11, am_11, ac_1495, ac_1496, ac_1530, .inl (9, [(6, 34, 0), (6, 44, 0)]), ac_1531, am_10, am_2, am_1, am_2, am_9, am_6, am_8, am_5, am_4, .inl (0, [(1, 214, 0), (6, 45, 0), (6, 46, 0), (6, 47, 0)]), ac_1532, am_11, ac_1533, .inl (9, [(6, 49, 0), (6, 59, 0)]), ac_1534, am_10, am_2, am_1, am_2, am_9, am_6, am_8, am_5, am_4, .inl (0, [(1, 297, 0), (6, 60, 0), (6, 61, 0), (6, 62, 0)]), ac_1535, am_11, ac_1536]
noncomputable def hq_1072 : HP := [(false, ac_1560), (false, ac_1529), (false, .inl (9, [(6, 4, 0), (6, 24, 0)])), (false, .inl (9, [(6, 5, 0), (6, 25, 0)])), (false, ac_1491), (false, ac_1492), (false, am_10), (false, am_10), (false, am_2), (false, am_2), (false, am_1), (false, am_1), (false, am_2), (false, am_2), (false, am_9), (false, am_9), (false, am_6), (false, am_6), (false, am_8), (false, am_8), (false, am_5), (false, am_5), (false, am_4), (false, am_4), (false, .inl (0, [(1, 59, 0), (6, 26, 0), (6, 28, 0), (6, 30, 0)])), (false, .inl (0, [(1, 63, 0), (6, 27, 0), (6, 29, 0), (6, 31, 0)])), (false, ac_1493), (false, ac_1494), (false, am_11), (false, am_11), (false, ac_1495), (false, ac_1496), (false, ac_1530), (false, .inl (9, [(6, 34, 0), (6, 44, 0)])), (false, ac_1531), (false, am_10), (false, am_2), (false, am_1), (false, am_2), (false, am_9), (false, am_6), (false, am_8), (false, am_5), (false, am_4), (false, .inl (0, [(1, 214, 0), (6, 45, 0), (6, 46, 0), (6, 47, 0)])), (false, ac_1532), (false, am_11), (false, ac_1533), (false, .inl (9, [(6, 49, 0), (6, 59, 0)])), (false, ac_1534), (false, am_10), (false, am_2), (false, am_1), (false, am_2), (false, am_9), (false, am_6), (false, am_8), (false, am_5), (false, am_4), (false, .inl (0, [(1, 297, 0), (6, 60, 0), (6, 61, 0), (6, 62, 0)])), (false, ac_1535), (false, am_11), (false, ac_1536)]
noncomputable def con_3250 : Con2 := ((yX11_back, cX11_back, 2, (some .int)), (0, 0), ([(6, 0, 0), (1, 1, 0)], gi_3106, hc_268, rq_22), [((0, (-2), 0), gi_3107, hq_1072, [], [1])])
theorem hd_3250 : con_3250.1 = (yX11_back, cX11_back, 2, (some .int)) := rfl
noncomputable def cu_3250 : List CUT2 := []
theorem ch_3250 : staG tb_X11_back 1 bt_RX11 [] ct_3 [] [] cu_3250 6 con_3250 = true := by decide +kernel
theorem vl_3250 (l : Launch) : Vld2 l vwCl gTbl con_3250 := conR_ok3 gT_all (hd_3250) rfl pn_RX11 tk_X11_back bo_RX11 xo_RX11 (cto_3 l) ch_3250 cut_nil
/-- RookHusting back -/
noncomputable def ac_1561 : AC := .inl (11, jl_n [vp_161, jl_c 5, vp_163])
noncomputable def hq_1073 : HP := [(true, ac_1561), (false, ac_1529), (false, .inl (9, [(6, 4, 0), (6, 24, 0)])), (false, .inl (9, [(6, 5, 0), (6, 25, 0)])), (true, ac_1538), (false, ac_1492), (true, am_10), (false, am_10), (true, am_2), (false, am_2), (true, am_1), (false, am_1), (true, am_2), (false, am_2), (true, am_9), (false, am_9), (true, am_6), (false, am_6), (true, am_8), (false, am_8), (true, am_5), (false, am_5), (true, am_4), (false, am_4), (true, .inl (0, [(1, 297, 0), (6, 26, 0), (6, 28, 0), (6, 30, 0)])), (false, .inl (0, [(1, 63, 0), (6, 27, 0), (6, 29, 0), (6, 31, 0)])), (true, ac_1535), (false, ac_1494), (true, am_11), (false, am_11), (true, ac_1536), (false, ac_1496), (true, ac_1539), (false, .inl (9, [(6, 34, 0), (6, 44, 0)])), (false, ac_1531), (false, am_10), (false, am_2), (false, am_1), (false, am_2), (false, am_9), (false, am_6), (false, am_8), (false, am_5), (false, am_4), (false, .inl (0, [(1, 214, 0), (6, 45, 0), (6, 46, 0), (6, 47, 0)])), (false, ac_1532), (false, am_11), (false, ac_1533), (false, .inl (9, [(6, 49, 0), (6, 59, 0)])), (false, ac_1534), (false, am_10), (false, am_2), (false, am_1), (false, am_2), (false, am_9), (false, am_6), (false, am_8), (false, am_5), (false, am_4), (false, .inl (0, [(1, 297, 0), (6, 60, 0), (6, 61, 0), (6, 62, 0)])), (false, ac_1535), (false, am_11), (false, ac_1536)]
noncomputable def con_3251 : Con2 := ((yX11_back, cX11_back, 2, (some .int)), (3, 60), ([(6, 0, 0), (0, 0, 0)], gi_3108, hc_268, rq_22), [((0, 0, 0), gi_3109, hq_1073, rq_23, tg_32)])
theorem hd_3251 : con_3251.1 = (yX11_back, cX11_back, 2, (some .int)) := rfl
theorem ck_RX11_183_161 : COK2 RX11 vwCl gTbl 183 1 con_161 := ⟨wd_682, wd_125, mh_X11_hasBit, .inl ⟨rfl, wd_799, wd_681, pd_X11_hasBit⟩⟩
noncomputable def ct_3251 : CTB2 := [(17, 183, 1, con_161, []), (36, 408, 0, con_3189, [2, 48, 4, 49, 6, 50, 8, 51, 10, 52, 12, 53, 14, 54, 16, 55, 18, 56, 20, 57, 22, 58, 24, 59, 26, 60, 28, 61, 30, 62]), (40, 130, 0, con_312, [0, 32])]
noncomputable def cu_3251 : List CUT2 := []
theorem ch_3251 : staG tb_X11_back 1 bt_RX11 [] ct_3251 [] [] cu_3251 23 con_3251 = true := by decide +kernel
theorem cto_3251 (l : Launch) : CTOK2 l RX11 vwCl gTbl ct_3251 := ct2_cons (vl_161 l) ck_RX11_183_161 (ct2_cons (vl_3189 l) ck_RX11_408_3189 (ct2_cons (vl_312 l) ck_RX11_130_312 (ct2_nil)))
theorem vl_3251 (l : Launch) : Vld2 l vwCl gTbl con_3251 := conR_ok3 gT_all (hd_3251) rfl pn_RX11 tk_X11_back bo_RX11 xo_RX11 (cto_3251 l) ch_3251 cut_nil
/-- RookHusting back -/
noncomputable def con_3252 : Con2 := ((yX11_back, cX11_back, 2, (some .int)), (1, 21), ([(6, 0, 0), (0, 1, 0)], gi_3108, hc_268, rq_22), [((0, (-6), 0), gi_3152, hq_1072, [], [1])])
theorem hd_3252 : con_3252.1 = (yX11_back, cX11_back, 2, (some .int)) := rfl
theorem ck_RX11_183_160 : COK2 RX11 vwCl gTbl 183 1 con_160 := ⟨wd_682, wd_125, mh_X11_hasBit, .inl ⟨rfl, wd_799, wd_681, pd_X11_hasBit⟩⟩
noncomputable def ct_3252 : CTB2 := [(17, 183, 1, con_160, [])]
noncomputable def cu_3252 : List CUT2 := []
theorem ch_3252 : staG tb_X11_back 1 bt_RX11 [] ct_3252 [] [] cu_3252 14 con_3252 = true := by decide +kernel
theorem cto_3252 (l : Launch) : CTOK2 l RX11 vwCl gTbl ct_3252 := ct2_cons (vl_160 l) ck_RX11_183_160 (ct2_nil)
theorem vl_3252 (l : Launch) : Vld2 l vwCl gTbl con_3252 := conR_ok3 gT_all (hd_3252) rfl pn_RX11 tk_X11_back bo_RX11 xo_RX11 (cto_3252 l) ch_3252 cut_nil
/-- RookHusting back -/
noncomputable def hq_1074 : HP := [(true, ac_1561), (false, ac_1529), (false, .inl (9, [(6, 4, 0), (6, 24, 0)])), (false, .inl (9, [(6, 5, 0), (6, 25, 0)])), (true, ac_1514), (false, ac_1492), (true, am_10), (false, am_10), (true, am_2), (false, am_2), (true, am_1), (false, am_1), (true, am_2), (false, am_2), (true, am_9), (false, am_9), (true, am_6), (false, am_6), (true, am_8), (false, am_8), (true, am_5), (false, am_5), (true, am_4), (false, am_4), (true, .inl (0, [(1, 63, 0), (6, 26, 0), (6, 28, 0), (6, 30, 0)])), (false, .inl (0, [(1, 63, 0), (6, 27, 0), (6, 29, 0), (6, 31, 0)])), (true, ac_1494), (false, ac_1494), (true, am_11), (false, am_11), (true, ac_1496), (false, ac_1496), (true, ac_1539), (false, .inl (9, [(6, 34, 0), (6, 44, 0)])), (false, ac_1531), (false, am_10), (false, am_2), (false, am_1), (false, am_2), (false, am_9), (false, am_6), (false, am_8), (false, am_5), (false, am_4), (false, .inl (0, [(1, 214, 0), (6, 45, 0), (6, 46, 0), (6, 47, 0)])), (false, ac_1532), (false, am_11), (false, ac_1533), (false, .inl (9, [(6, 49, 0), (6, 59, 0)])), (false, ac_1534), (false, am_10), (false, am_2), (false, am_1), (false, am_2), (false, am_9), (false, am_6), (false, am_8), (false, am_5), (false, am_4), (false, .inl (0, [(1, 297, 0), (6, 60, 0), (6, 61, 0), (6, 62, 0)])), (false, ac_1535), (false, am_11), (false, ac_1536)]
noncomputable def con_3253 : Con2 := ((yX11_back, cX11_back, 2, (some .int)), (3, 60), ([(6, 0, 0), (0, 2, 0)], gi_3108, hc_268, rq_22), [((0, 0, 0), gi_3109, hq_1074, rq_21, tg_32)])
theorem hd_3253 : con_3253.1 = (yX11_back, cX11_back, 2, (some .int)) := rfl
theorem ck_RX11_183_159 : COK2 RX11 vwCl gTbl 183 1 con_159 := ⟨wd_682, wd_125, mh_X11_hasBit, .inl ⟨rfl, wd_799, wd_681, pd_X11_hasBit⟩⟩
noncomputable def ct_3253 : CTB2 := [(17, 183, 1, con_159, []), (36, 408, 0, con_3189, [2, 3, 4, 5, 6, 7, 8, 9, 10, 11, 12, 13, 14, 15, 16, 17, 18, 19, 20, 21, 22, 23, 24, 25, 26, 27, 28, 29, 30, 31]), (40, 130, 0, con_312, [0, 32])]
noncomputable def cu_3253 : List CUT2 := []
theorem ch_3253 : staG tb_X11_back 1 bt_RX11 [] ct_3253 [] [] cu_3253 23 con_3253 = true := by decide +kernel
theorem cto_3253 (l : Launch) : CTOK2 l RX11 vwCl gTbl ct_3253 := ct2_cons (vl_159 l) ck_RX11_183_159 (ct2_cons (vl_3189 l) ck_RX11_408_3189 (ct2_cons (vl_312 l) ck_RX11_130_312 (ct2_nil)))
theorem vl_3253 (l : Launch) : Vld2 l vwCl gTbl con_3253 := conR_ok3 gT_all (hd_3253) rfl pn_RX11 tk_X11_back bo_RX11 xo_RX11 (cto_3253 l) ch_3253 cut_nil
/-- RookHusting back -/
noncomputable def con_3254 : Con2 := ((yX11_back, cX11_back, 2, (some .int)), (0, 0), ([(6, 0, 0), (1, 1, 0)], gi_3110, hc_268, rq_22), [((0, (-2), 0), gi_3111, hq_1072, [], [1])])
theorem hd_3254 : con_3254.1 = (yX11_back, cX11_back, 2, (some .int)) := rfl
noncomputable def cu_3254 : List CUT2 := []
theorem ch_3254 : staG tb_X11_back 1 bt_RX11 [] ct_3 [] [] cu_3254 9 con_3254 = true := by decide +kernel
theorem vl_3254 (l : Launch) : Vld2 l vwCl gTbl con_3254 := conR_ok3 gT_all (hd_3254) rfl pn_RX11 tk_X11_back bo_RX11 xo_RX11 (cto_3 l) ch_3254 cut_nil
/-- RookHustingModel back -/
noncomputable def ac_1562 : AC := .inr (3, jl_n [js_1 48 1, jl_x (1, (0, 0, 0)), js_1 50 1])
noncomputable def gi_3154 : GI := jl_n [gp_917, gp_914]
noncomputable def hq_1075 : HP := [(false, ac_1541), (false, ac_1562), (false, ac_1516), (false, ac_1543)]
noncomputable def con_3255 : Con2 := ((yX12_back, cX12_back, 3, (some .int)), (1, 25), ([(6, 0, 0), (0, 1, 0)], gi_3126, [ac_1541, ac_1562, ac_1516, ac_1543], []), [((0, (-6), 0), gi_3154, hq_1075, [], [1])])
theorem hd_3255 : con_3255.1 = (yX12_back, cX12_back, 3, (some .int)) := rfl
noncomputable def cu_3255 : List CUT2 := []
theorem ch_3255 : staG tb_X12_back 1 bt_RX12 [] ct_3194 [(15, [(1, (1, 1, 0), 0, 0)])] [] cu_3255 15 con_3255 = true := by decide +kernel
theorem vl_3255 (l : Launch) : Vld2 l vwCl gTbl con_3255 := conR_ok3 gT_all (hd_3255) rfl pn_RX12 tk_X12_back bo_RX12 xo_RX12 (cto_3194 l) ch_3255 cut_nil
/-- RookHusting back -/
noncomputable def ac_1563 : AC := .inl (11, jl_n [vp_161, jl_c 4, vp_162])
noncomputable def hc_269 : List AC := [ac_1563, ac_1529, .inl (9, [(6, 4, 0), (6, 24, 0)]), .inl (9, [(6, 5, 0), (6, 25, 0)]), ac_1491, ac_1492, am_10, am_10, am_2, am_2, am_1, am_1, am_2, am_2, am_9, am_9, am_6, am_6, am_8, am_8, am_5, am_5, am_4, am_4, .inl (0, [(1, 59, 0), (6, 26, 0), (6, 28, 0), (6, 30, 0)]), .inl (0, [(1, 63, 0), (6, 27, 0), (6, 29, 0), (6, 31, 0)]), ac_1493, ac_1494, am_11, am_11, ac_1495, ac_1496, ac_1530, .inl (9, [(6, 34, 0), (6, 44, 0)]), ac_1531, am_10, am_2, am_1, am_2, am_9, am_6, am_8, am_5, am_4, .inl (0, [(1, 214, 0), (6, 45, 0), (6, 46, 0), (6, 47, 0)]), ac_1532, am_11, ac_1533, .inl (9, [(6, 49, 0), (6, 59, 0)]), ac_1534, am_10, am_2, am_1, am_2, am_9, am_6, am_8, am_5, am_4, .inl (0, [(1, 297, 0), (6, 60, 0), (6, 61, 0), (6, 62, 0)]), ac_1535, am_11, ac_1536]
noncomputable def hq_1076 : HP := [(false, ac_1563), (false, ac_1529), (false, .inl (9, [(6, 4, 0), (6, 24, 0)])), (false, .inl (9, [(6, 5, 0), (6, 25, 0)])), (false, ac_1491), (false, ac_1492), (false, am_10), (false, am_10), (false, am_2), (false, am_2), (false, am_1), (false, am_1), (false, am_2), (false, am_2), (false, am_9), (false, am_9), (false, am_6), (false, am_6), (false, am_8), (false, am_8), (false, am_5), (false, am_5), (false, am_4), (false, am_4), (false, .inl (0, [(1, 59, 0), (6, 26, 0), (6, 28, 0), (6, 30, 0)])), (false, .inl (0, [(1, 63, 0), (6, 27, 0), (6, 29, 0), (6, 31, 0)])), (false, ac_1493), (false, ac_1494), (false, am_11), (false, am_11), (false, ac_1495), (false, ac_1496), (false, ac_1530), (false, .inl (9, [(6, 34, 0), (6, 44, 0)])), (false, ac_1531), (false, am_10), (false, am_2), (false, am_1), (false, am_2), (false, am_9), (false, am_6), (false, am_8), (false, am_5), (false, am_4), (false, .inl (0, [(1, 214, 0), (6, 45, 0), (6, 46, 0), (6, 47, 0)])), (false, ac_1532), (false, am_11), (false, ac_1533), (false, .inl (9, [(6, 49, 0), (6, 59, 0)])), (false, ac_1534), (false, am_10), (false, am_2), (false, am_1), (false, am_2), (false, am_9), (false, am_6), (false, am_8), (false, am_5), (false, am_4), (false, .inl (0, [(1, 297, 0), (6, 60, 0), (6, 61, 0), (6, 62, 0)])), (false, ac_1535), (false, am_11), (false, ac_1536)]
noncomputable def con_3256 : Con2 := ((yX11_back, cX11_back, 2, (some .int)), (0, 0), ([(6, 0, 0), (1, 1, 0)], gi_3106, hc_269, rq_22), [((0, (-2), 0), gi_3107, hq_1076, [], [1])])
theorem hd_3256 : con_3256.1 = (yX11_back, cX11_back, 2, (some .int)) := rfl
noncomputable def cu_3256 : List CUT2 := []
theorem ch_3256 : staG tb_X11_back 1 bt_RX11 [] ct_3 [] [] cu_3256 6 con_3256 = true := by decide +kernel
theorem vl_3256 (l : Launch) : Vld2 l vwCl gTbl con_3256 := conR_ok3 gT_all (hd_3256) rfl pn_RX11 tk_X11_back bo_RX11 xo_RX11 (cto_3 l) ch_3256 cut_nil
/-- RookHusting back -/
noncomputable def con_3257 : Con2 := ((yX11_back, cX11_back, 2, (some .int)), (1, 21), ([(6, 0, 0), (0, 0, 0)], gi_3108, hc_269, rq_22), [((0, (-6), 0), gi_3152, hq_1076, [], [1])])
theorem hd_3257 : con_3257.1 = (yX11_back, cX11_back, 2, (some .int)) := rfl
theorem ck_RX11_183_99 : COK2 RX11 vwCl gTbl 183 1 con_99 := ⟨wd_682, wd_125, mh_X11_hasBit, .inl ⟨rfl, wd_799, wd_681, pd_X11_hasBit⟩⟩
noncomputable def ct_3257 : CTB2 := [(17, 183, 1, con_99, [])]
noncomputable def cu_3257 : List CUT2 := []
theorem ch_3257 : staG tb_X11_back 1 bt_RX11 [] ct_3257 [] [] cu_3257 14 con_3257 = true := by decide +kernel
theorem cto_3257 (l : Launch) : CTOK2 l RX11 vwCl gTbl ct_3257 := ct2_cons (vl_99 l) ck_RX11_183_99 (ct2_nil)
theorem vl_3257 (l : Launch) : Vld2 l vwCl gTbl con_3257 := conR_ok3 gT_all (hd_3257) rfl pn_RX11 tk_X11_back bo_RX11 xo_RX11 (cto_3257 l) ch_3257 cut_nil
/-- RookHusting back -/
noncomputable def con_3258 : Con2 := ((yX11_back, cX11_back, 2, (some .int)), (1, 21), ([(6, 0, 0), (0, 1, 0)], gi_3108, hc_269, rq_22), [((0, (-6), 0), gi_3152, hq_1076, [], [1])])
theorem hd_3258 : con_3258.1 = (yX11_back, cX11_back, 2, (some .int)) := rfl
theorem ck_RX11_183_98 : COK2 RX11 vwCl gTbl 183 1 con_98 := ⟨wd_682, wd_125, mh_X11_hasBit, .inl ⟨rfl, wd_799, wd_681, pd_X11_hasBit⟩⟩
noncomputable def ct_3258 : CTB2 := [(17, 183, 1, con_98, [])]
noncomputable def cu_3258 : List CUT2 := []
theorem ch_3258 : staG tb_X11_back 1 bt_RX11 [] ct_3258 [] [] cu_3258 14 con_3258 = true := by decide +kernel
theorem cto_3258 (l : Launch) : CTOK2 l RX11 vwCl gTbl ct_3258 := ct2_cons (vl_98 l) ck_RX11_183_98 (ct2_nil)
theorem vl_3258 (l : Launch) : Vld2 l vwCl gTbl con_3258 := conR_ok3 gT_all (hd_3258) rfl pn_RX11 tk_X11_back bo_RX11 xo_RX11 (cto_3258 l) ch_3258 cut_nil
/-- RookHusting back -/
noncomputable def ac_1564 : AC := .inl (11, jl_n [vp_161, jl_c 4, vp_163])
noncomputable def hq_1077 : HP := [(true, ac_1564), (false, ac_1529), (false, .inl (9, [(6, 4, 0), (6, 24, 0)])), (false, .inl (9, [(6, 5, 0), (6, 25, 0)])), (true, ac_1514), (false, ac_1492), (true, am_10), (false, am_10), (true, am_2), (false, am_2), (true, am_1), (false, am_1), (true, am_2), (false, am_2), (true, am_9), (false, am_9), (true, am_6), (false, am_6), (true, am_8), (false, am_8), (true, am_5), (false, am_5), (true, am_4), (false, am_4), (true, .inl (0, [(1, 63, 0), (6, 26, 0), (6, 28, 0), (6, 30, 0)])), (false, .inl (0, [(1, 63, 0), (6, 27, 0), (6, 29, 0), (6, 31, 0)])), (true, ac_1494), (false, ac_1494), (true, am_11), (false, am_11), (true, ac_1496), (false, ac_1496), (true, ac_1539), (false, .inl (9, [(6, 34, 0), (6, 44, 0)])), (false, ac_1531), (false, am_10), (false, am_2), (false, am_1), (false, am_2), (false, am_9), (false, am_6), (false, am_8), (false, am_5), (false, am_4), (false, .inl (0, [(1, 214, 0), (6, 45, 0), (6, 46, 0), (6, 47, 0)])), (false, ac_1532), (false, am_11), (false, ac_1533), (false, .inl (9, [(6, 49, 0), (6, 59, 0)])), (false, ac_1534), (false, am_10), (false, am_2), (false, am_1), (false, am_2), (false, am_9), (false, am_6), (false, am_8), (false, am_5), (false, am_4), (false, .inl (0, [(1, 297, 0), (6, 60, 0), (6, 61, 0), (6, 62, 0)])), (false, ac_1535), (false, am_11), (false, ac_1536)]
noncomputable def con_3259 : Con2 := ((yX11_back, cX11_back, 2, (some .int)), (3, 60), ([(6, 0, 0), (0, 2, 0)], gi_3108, hc_269, rq_22), [((0, 0, 0), gi_3109, hq_1077, rq_21, tg_32)])
theorem hd_3259 : con_3259.1 = (yX11_back, cX11_back, 2, (some .int)) := rfl
theorem ck_RX11_183_97 : COK2 RX11 vwCl gTbl 183 1 con_97 := ⟨wd_682, wd_125, mh_X11_hasBit, .inl ⟨rfl, wd_799, wd_681, pd_X11_hasBit⟩⟩
noncomputable def ct_3259 : CTB2 := [(17, 183, 1, con_97, []), (36, 408, 0, con_3189, [2, 3, 4, 5, 6, 7, 8, 9, 10, 11, 12, 13, 14, 15, 16, 17, 18, 19, 20, 21, 22, 23, 24, 25, 26, 27, 28, 29, 30, 31]), (40, 130, 0, con_312, [0, 32])]
noncomputable def cu_3259 : List CUT2 := []
theorem ch_3259 : staG tb_X11_back 1 bt_RX11 [] ct_3259 [] [] cu_3259 23 con_3259 = true := by decide +kernel
theorem cto_3259 (l : Launch) : CTOK2 l RX11 vwCl gTbl ct_3259 := ct2_cons (vl_97 l) ck_RX11_183_97 (ct2_cons (vl_3189 l) ck_RX11_408_3189 (ct2_cons (vl_312 l) ck_RX11_130_312 (ct2_nil)))
theorem vl_3259 (l : Launch) : Vld2 l vwCl gTbl con_3259 := conR_ok3 gT_all (hd_3259) rfl pn_RX11 tk_X11_back bo_RX11 xo_RX11 (cto_3259 l) ch_3259 cut_nil
/-- RookHusting back -/
noncomputable def con_3260 : Con2 := ((yX11_back, cX11_back, 2, (some .int)), (0, 0), ([(6, 0, 0), (1, 1, 0)], gi_3110, hc_269, rq_22), [((0, (-2), 0), gi_3111, hq_1076, [], [1])])
theorem hd_3260 : con_3260.1 = (yX11_back, cX11_back, 2, (some .int)) := rfl
noncomputable def cu_3260 : List CUT2 := []
theorem ch_3260 : staG tb_X11_back 1 bt_RX11 [] ct_3 [] [] cu_3260 9 con_3260 = true := by decide +kernel
theorem vl_3260 (l : Launch) : Vld2 l vwCl gTbl con_3260 := conR_ok3 gT_all (hd_3260) rfl pn_RX11 tk_X11_back bo_RX11 xo_RX11 (cto_3 l) ch_3260 cut_nil
/-- RookHusting back -/
noncomputable def ac_1565 : AC := .inl (11, jl_n [vp_161, jl_c 3, vp_162])
noncomputable def hc_270 : List AC := [ac_1565, ac_1529, .inl (9, [(6, 4, 0), (6, 24, 0)]), .inl (9, [(6, 5, 0), (6, 25, 0)]), ac_1491, ac_1492, am_10, am_10, am_2, am_2, am_1, am_1, am_2, am_2, am_9, am_9, am_6, am_6, am_8, am_8, am_5, am_5, am_4, am_4, .inl (0, [(1, 59, 0), (6, 26, 0), (6, 28, 0), (6, 30, 0)]), .inl (0, [(1, 63, 0), (6, 27, 0), (6, 29, 0), (6, 31, 0)]), ac_1493, ac_1494, am_11, am_11, ac_1495, ac_1496, ac_1530, .inl (9, [(6, 34, 0), (6, 44, 0)]), ac_1531, am_10, am_2, am_1, am_2, am_9, am_6, am_8, am_5, am_4, .inl (0, [(1, 214, 0), (6, 45, 0), (6, 46, 0), (6, 47, 0)]), ac_1532, am_11, ac_1533, .inl (9, [(6, 49, 0), (6, 59, 0)]), ac_1534, am_10, am_2, am_1, am_2, am_9, am_6, am_8, am_5, am_4, .inl (0, [(1, 297, 0), (6, 60, 0), (6, 61, 0), (6, 62, 0)]), ac_1535, am_11, ac_1536]
noncomputable def hq_1078 : HP := [(false, ac_1565), (false, ac_1529), (false, .inl (9, [(6, 4, 0), (6, 24, 0)])), (false, .inl (9, [(6, 5, 0), (6, 25, 0)])), (false, ac_1491), (false, ac_1492), (false, am_10), (false, am_10), (false, am_2), (false, am_2), (false, am_1), (false, am_1), (false, am_2), (false, am_2), (false, am_9), (false, am_9), (false, am_6), (false, am_6), (false, am_8), (false, am_8), (false, am_5), (false, am_5), (false, am_4), (false, am_4), (false, .inl (0, [(1, 59, 0), (6, 26, 0), (6, 28, 0), (6, 30, 0)])), (false, .inl (0, [(1, 63, 0), (6, 27, 0), (6, 29, 0), (6, 31, 0)])), (false, ac_1493), (false, ac_1494), (false, am_11), (false, am_11), (false, ac_1495), (false, ac_1496), (false, ac_1530), (false, .inl (9, [(6, 34, 0), (6, 44, 0)])), (false, ac_1531), (false, am_10), (false, am_2), (false, am_1), (false, am_2), (false, am_9), (false, am_6), (false, am_8), (false, am_5), (false, am_4), (false, .inl (0, [(1, 214, 0), (6, 45, 0), (6, 46, 0), (6, 47, 0)])), (false, ac_1532), (false, am_11), (false, ac_1533), (false, .inl (9, [(6, 49, 0), (6, 59, 0)])), (false, ac_1534), (false, am_10), (false, am_2), (false, am_1), (false, am_2), (false, am_9), (false, am_6), (false, am_8), (false, am_5), (false, am_4), (false, .inl (0, [(1, 297, 0), (6, 60, 0), (6, 61, 0), (6, 62, 0)])), (false, ac_1535), (false, am_11), (false, ac_1536)]
noncomputable def con_3261 : Con2 := ((yX11_back, cX11_back, 2, (some .int)), (0, 0), ([(6, 0, 0), (1, 1, 0)], gi_3106, hc_270, rq_22), [((0, (-2), 0), gi_3107, hq_1078, [], [1])])
theorem hd_3261 : con_3261.1 = (yX11_back, cX11_back, 2, (some .int)) := rfl
noncomputable def cu_3261 : List CUT2 := []
theorem ch_3261 : staG tb_X11_back 1 bt_RX11 [] ct_3 [] [] cu_3261 6 con_3261 = true := by decide +kernel
theorem vl_3261 (l : Launch) : Vld2 l vwCl gTbl con_3261 := conR_ok3 gT_all (hd_3261) rfl pn_RX11 tk_X11_back bo_RX11 xo_RX11 (cto_3 l) ch_3261 cut_nil
/-- RookHusting back -/
noncomputable def ac_1566 : AC := .inl (11, jl_n [vp_161, jl_c 3, vp_163])
noncomputable def hq_1079 : HP := [(true, ac_1566), (false, ac_1529), (false, .inl (9, [(6, 4, 0), (6, 24, 0)])), (false, .inl (9, [(6, 5, 0), (6, 25, 0)])), (true, ac_1538), (false, ac_1492), (true, am_10), (false, am_10), (true, am_2), (false, am_2), (true, am_1), (false, am_1), (true, am_2), (false, am_2), (true, am_9), (false, am_9), (true, am_6), (false, am_6), (true, am_8), (false, am_8), (true, am_5), (false, am_5), (true, am_4), (false, am_4), (true, .inl (0, [(1, 297, 0), (6, 26, 0), (6, 28, 0), (6, 30, 0)])), (false, .inl (0, [(1, 63, 0), (6, 27, 0), (6, 29, 0), (6, 31, 0)])), (true, ac_1535), (false, ac_1494), (true, am_11), (false, am_11), (true, ac_1536), (false, ac_1496), (true, ac_1539), (false, .inl (9, [(6, 34, 0), (6, 44, 0)])), (false, ac_1531), (false, am_10), (false, am_2), (false, am_1), (false, am_2), (false, am_9), (false, am_6), (false, am_8), (false, am_5), (false, am_4), (false, .inl (0, [(1, 214, 0), (6, 45, 0), (6, 46, 0), (6, 47, 0)])), (false, ac_1532), (false, am_11), (false, ac_1533), (false, .inl (9, [(6, 49, 0), (6, 59, 0)])), (false, ac_1534), (false, am_10), (false, am_2), (false, am_1), (false, am_2), (false, am_9), (false, am_6), (false, am_8), (false, am_5), (false, am_4), (false, .inl (0, [(1, 297, 0), (6, 60, 0), (6, 61, 0), (6, 62, 0)])), (false, ac_1535), (false, am_11), (false, ac_1536)]
noncomputable def con_3262 : Con2 := ((yX11_back, cX11_back, 2, (some .int)), (3, 60), ([(6, 0, 0), (0, 0, 0)], gi_3108, hc_270, rq_22), [((0, 0, 0), gi_3109, hq_1079, rq_23, tg_32)])
theorem hd_3262 : con_3262.1 = (yX11_back, cX11_back, 2, (some .int)) := rfl
theorem ck_RX11_183_167 : COK2 RX11 vwCl gTbl 183 1 con_167 := ⟨wd_682, wd_125, mh_X11_hasBit, .inl ⟨rfl, wd_799, wd_681, pd_X11_hasBit⟩⟩
noncomputable def ct_3262 : CTB2 := [(17, 183, 1, con_167, []), (36, 408, 0, con_3189, [2, 48, 4, 49, 6, 50, 8, 51, 10, 52, 12, 53, 14, 54, 16, 55, 18, 56, 20, 57, 22, 58, 24, 59, 26, 60, 28, 61, 30, 62]), (40, 130, 0, con_312, [0, 32])]
noncomputable def cu_3262 : List CUT2 := []
theorem ch_3262 : staG tb_X11_back 1 bt_RX11 [] ct_3262 [] [] cu_3262 23 con_3262 = true := by decide +kernel
theorem cto_3262 (l : Launch) : CTOK2 l RX11 vwCl gTbl ct_3262 := ct2_cons (vl_167 l) ck_RX11_183_167 (ct2_cons (vl_3189 l) ck_RX11_408_3189 (ct2_cons (vl_312 l) ck_RX11_130_312 (ct2_nil)))
theorem vl_3262 (l : Launch) : Vld2 l vwCl gTbl con_3262 := conR_ok3 gT_all (hd_3262) rfl pn_RX11 tk_X11_back bo_RX11 xo_RX11 (cto_3262 l) ch_3262 cut_nil
/-- RookHusting back -/
noncomputable def hq_1080 : HP := [(true, ac_1566), (false, ac_1529), (false, .inl (9, [(6, 4, 0), (6, 24, 0)])), (false, .inl (9, [(6, 5, 0), (6, 25, 0)])), (true, ac_1540), (false, ac_1492), (true, am_10), (false, am_10), (true, am_2), (false, am_2), (true, am_1), (false, am_1), (true, am_2), (false, am_2), (true, am_9), (false, am_9), (true, am_6), (false, am_6), (true, am_8), (false, am_8), (true, am_5), (false, am_5), (true, am_4), (false, am_4), (true, .inl (0, [(1, 214, 0), (6, 26, 0), (6, 28, 0), (6, 30, 0)])), (false, .inl (0, [(1, 63, 0), (6, 27, 0), (6, 29, 0), (6, 31, 0)])), (true, ac_1532), (false, ac_1494), (true, am_11), (false, am_11), (true, ac_1533), (false, ac_1496), (true, ac_1539), (false, .inl (9, [(6, 34, 0), (6, 44, 0)])), (false, ac_1531), (false, am_10), (false, am_2), (false, am_1), (false, am_2), (false, am_9), (false, am_6), (false, am_8), (false, am_5), (false, am_4), (false, .inl (0, [(1, 214, 0), (6, 45, 0), (6, 46, 0), (6, 47, 0)])), (false, ac_1532), (false, am_11), (false, ac_1533), (false, .inl (9, [(6, 49, 0), (6, 59, 0)])), (false, ac_1534), (false, am_10), (false, am_2), (false, am_1), (false, am_2), (false, am_9), (false, am_6), (false, am_8), (false, am_5), (false, am_4), (false, .inl (0, [(1, 297, 0), (6, 60, 0), (6, 61, 0), (6, 62, 0)])), (false, ac_1535), (false, am_11), (false, ac_1536)]
noncomputable def con_3263 : Con2 := ((yX11_back, cX11_back, 2, (some .int)), (3, 60), ([(6, 0, 0), (0, 1, 0)], gi_3108, hc_270, rq_22), [((0, 0, 0), gi_3109, hq_1080, rq_24, tg_32)])
theorem hd_3263 : con_3263.1 = (yX11_back, cX11_back, 2, (some .int)) := rfl
theorem ck_RX11_183_166 : COK2 RX11 vwCl gTbl 183 1 con_166 := ⟨wd_682, wd_125, mh_X11_hasBit, .inl ⟨rfl, wd_799, wd_681, pd_X11_hasBit⟩⟩
noncomputable def ct_3263 : CTB2 := [(17, 183, 1, con_166, []), (36, 408, 0, con_3189, [2, 33, 4, 34, 6, 35, 8, 36, 10, 37, 12, 38, 14, 39, 16, 40, 18, 41, 20, 42, 22, 43, 24, 44, 26, 45, 28, 46, 30, 47]), (40, 130, 0, con_312, [0, 32])]
noncomputable def cu_3263 : List CUT2 := []
theorem ch_3263 : staG tb_X11_back 1 bt_RX11 [] ct_3263 [] [] cu_3263 23 con_3263 = true := by decide +kernel
theorem cto_3263 (l : Launch) : CTOK2 l RX11 vwCl gTbl ct_3263 := ct2_cons (vl_166 l) ck_RX11_183_166 (ct2_cons (vl_3189 l) ck_RX11_408_3189 (ct2_cons (vl_312 l) ck_RX11_130_312 (ct2_nil)))
theorem vl_3263 (l : Launch) : Vld2 l vwCl gTbl con_3263 := conR_ok3 gT_all (hd_3263) rfl pn_RX11 tk_X11_back bo_RX11 xo_RX11 (cto_3263 l) ch_3263 cut_nil
/-- RookHusting back -/
noncomputable def con_3264 : Con2 := ((yX11_back, cX11_back, 2, (some .int)), (1, 21), ([(6, 0, 0), (0, 2, 0)], gi_3108, hc_270, rq_22), [((0, (-6), 0), gi_3152, hq_1078, [], [1])])
theorem hd_3264 : con_3264.1 = (yX11_back, cX11_back, 2, (some .int)) := rfl
theorem ck_RX11_183_165 : COK2 RX11 vwCl gTbl 183 1 con_165 := ⟨wd_682, wd_125, mh_X11_hasBit, .inl ⟨rfl, wd_799, wd_681, pd_X11_hasBit⟩⟩
noncomputable def ct_3264 : CTB2 := [(17, 183, 1, con_165, [])]
noncomputable def cu_3264 : List CUT2 := []
theorem ch_3264 : staG tb_X11_back 1 bt_RX11 [] ct_3264 [] [] cu_3264 14 con_3264 = true := by decide +kernel
theorem cto_3264 (l : Launch) : CTOK2 l RX11 vwCl gTbl ct_3264 := ct2_cons (vl_165 l) ck_RX11_183_165 (ct2_nil)
theorem vl_3264 (l : Launch) : Vld2 l vwCl gTbl con_3264 := conR_ok3 gT_all (hd_3264) rfl pn_RX11 tk_X11_back bo_RX11 xo_RX11 (cto_3264 l) ch_3264 cut_nil
/-- RookHusting back -/
noncomputable def con_3265 : Con2 := ((yX11_back, cX11_back, 2, (some .int)), (0, 0), ([(6, 0, 0), (1, 1, 0)], gi_3110, hc_270, rq_22), [((0, (-2), 0), gi_3111, hq_1078, [], [1])])
theorem hd_3265 : con_3265.1 = (yX11_back, cX11_back, 2, (some .int)) := rfl
noncomputable def cu_3265 : List CUT2 := []
theorem ch_3265 : staG tb_X11_back 1 bt_RX11 [] ct_3 [] [] cu_3265 9 con_3265 = true := by decide +kernel
theorem vl_3265 (l : Launch) : Vld2 l vwCl gTbl con_3265 := conR_ok3 gT_all (hd_3265) rfl pn_RX11 tk_X11_back bo_RX11 xo_RX11 (cto_3 l) ch_3265 cut_nil
/-- RookHustingModel back -/
noncomputable def ac_1567 : AC := .inr (3, jl_n [js_1 49 2, jl_x (1, (0, 0, 0))])
noncomputable def gi_3155 : GI := jl_n [gp_915, gp_125]
noncomputable def hq_1081 : HP := [(false, ac_1541), (false, ac_1567), (false, ac_1516), (false, ac_1543)]
noncomputable def con_3266 : Con2 := ((yX12_back, cX12_back, 3, (some .int)), (1, 25), ([(6, 0, 0), (0, 2, 0)], gi_3114, [ac_1541, ac_1567, ac_1516, ac_1543], []), [((0, (-6), 0), gi_3155, hq_1081, [], [1])])
theorem hd_3266 : con_3266.1 = (yX12_back, cX12_back, 3, (some .int)) := rfl
noncomputable def cu_3266 : List CUT2 := []
theorem ch_3266 : staG tb_X12_back 1 bt_RX12 [] ct_3194 [(15, [(1, (1, 1, 0), 0, 0)])] [] cu_3266 15 con_3266 = true := by decide +kernel
theorem vl_3266 (l : Launch) : Vld2 l vwCl gTbl con_3266 := conR_ok3 gT_all (hd_3266) rfl pn_RX12 tk_X12_back bo_RX12 xo_RX12 (cto_3194 l) ch_3266 cut_nil
/-- RookHusting back -/
noncomputable def ac_1568 : AC := .inl (11, jl_n [vp_161, jl_c 2, vp_162])
noncomputable def hc_271 : List AC := [ac_1568, ac_1529, .inl (9, [(6, 4, 0), (6, 24, 0)]), .inl (9, [(6, 5, 0), (6, 25, 0)]), ac_1491, ac_1492, am_10, am_10, am_2, am_2, am_1, am_1, am_2, am_2, am_9, am_9, am_6, am_6, am_8, am_8, am_5, am_5, am_4, am_4, .inl (0, [(1, 59, 0), (6, 26, 0), (6, 28, 0), (6, 30, 0)]), .inl (0, [(1, 63, 0), (6, 27, 0), (6, 29, 0), (6, 31, 0)]), ac_1493, ac_1494, am_11, am_11, ac_1495, ac_1496, ac_1530, .inl (9, [(6, 34, 0), (6, 44, 0)]), ac_1531, am_10, am_2, am_1, am_2, am_9, am_6, am_8, am_5, am_4, .inl (0, [(1, 214, 0), (6, 45, 0), (6, 46, 0), (6, 47, 0)]), ac_1532, am_11, ac_1533, .inl (9, [(6, 49, 0), (6, 59, 0)]), ac_1534, am_10, am_2, am_1, am_2, am_9, am_6, am_8, am_5, am_4, .inl (0, [(1, 297, 0), (6, 60, 0), (6, 61, 0), (6, 62, 0)]), ac_1535, am_11, ac_1536]
noncomputable def hq_1082 : HP := [(false, ac_1568), (false, ac_1529), (false, .inl (9, [(6, 4, 0), (6, 24, 0)])), (false, .inl (9, [(6, 5, 0), (6, 25, 0)])), (false, ac_1491), (false, ac_1492), (false, am_10), (false, am_10), (false, am_2), (false, am_2), (false, am_1), (false, am_1), (false, am_2), (false, am_2), (false, am_9), (false, am_9), (false, am_6), (false, am_6), (false, am_8), (false, am_8), (false, am_5), (false, am_5), (false, am_4), (false, am_4), (false, .inl (0, [(1, 59, 0), (6, 26, 0), (6, 28, 0), (6, 30, 0)])), (false, .inl (0, [(1, 63, 0), (6, 27, 0), (6, 29, 0), (6, 31, 0)])), (false, ac_1493), (false, ac_1494), (false, am_11), (false, am_11), (false, ac_1495), (false, ac_1496), (false, ac_1530), (false, .inl (9, [(6, 34, 0), (6, 44, 0)])), (false, ac_1531), (false, am_10), (false, am_2), (false, am_1), (false, am_2), (false, am_9), (false, am_6), (false, am_8), (false, am_5), (false, am_4), (false, .inl (0, [(1, 214, 0), (6, 45, 0), (6, 46, 0), (6, 47, 0)])), (false, ac_1532), (false, am_11), (false, ac_1533), (false, .inl (9, [(6, 49, 0), (6, 59, 0)])), (false, ac_1534), (false, am_10), (false, am_2), (false, am_1), (false, am_2), (false, am_9), (false, am_6), (false, am_8), (false, am_5), (false, am_4), (false, .inl (0, [(1, 297, 0), (6, 60, 0), (6, 61, 0), (6, 62, 0)])), (false, ac_1535), (false, am_11), (false, ac_1536)]
noncomputable def con_3267 : Con2 := ((yX11_back, cX11_back, 2, (some .int)), (0, 0), ([(6, 0, 0), (1, 1, 0)], gi_3106, hc_271, rq_22), [((0, (-2), 0), gi_3107, hq_1082, [], [1])])
theorem hd_3267 : con_3267.1 = (yX11_back, cX11_back, 2, (some .int)) := rfl
noncomputable def cu_3267 : List CUT2 := []
theorem ch_3267 : staG tb_X11_back 1 bt_RX11 [] ct_3 [] [] cu_3267 6 con_3267 = true := by decide +kernel
theorem vl_3267 (l : Launch) : Vld2 l vwCl gTbl con_3267 := conR_ok3 gT_all (hd_3267) rfl pn_RX11 tk_X11_back bo_RX11 xo_RX11 (cto_3 l) ch_3267 cut_nil
/-- RookHusting back -/
noncomputable def con_3268 : Con2 := ((yX11_back, cX11_back, 2, (some .int)), (1, 21), ([(6, 0, 0), (0, 0, 0)], gi_3108, hc_271, rq_22), [((0, (-6), 0), gi_3152, hq_1082, [], [1])])
theorem hd_3268 : con_3268.1 = (yX11_back, cX11_back, 2, (some .int)) := rfl
theorem ck_RX11_183_105 : COK2 RX11 vwCl gTbl 183 1 con_105 := ⟨wd_682, wd_125, mh_X11_hasBit, .inl ⟨rfl, wd_799, wd_681, pd_X11_hasBit⟩⟩
noncomputable def ct_3268 : CTB2 := [(17, 183, 1, con_105, [])]
noncomputable def cu_3268 : List CUT2 := []
theorem ch_3268 : staG tb_X11_back 1 bt_RX11 [] ct_3268 [] [] cu_3268 14 con_3268 = true := by decide +kernel
theorem cto_3268 (l : Launch) : CTOK2 l RX11 vwCl gTbl ct_3268 := ct2_cons (vl_105 l) ck_RX11_183_105 (ct2_nil)
theorem vl_3268 (l : Launch) : Vld2 l vwCl gTbl con_3268 := conR_ok3 gT_all (hd_3268) rfl pn_RX11 tk_X11_back bo_RX11 xo_RX11 (cto_3268 l) ch_3268 cut_nil
/-- RookHusting back -/
noncomputable def ac_1569 : AC := .inl (11, jl_n [vp_161, jl_c 2, vp_163])
noncomputable def hq_1083 : HP := [(true, ac_1569), (false, ac_1529), (false, .inl (9, [(6, 4, 0), (6, 24, 0)])), (false, .inl (9, [(6, 5, 0), (6, 25, 0)])), (true, ac_1540), (false, ac_1492), (true, am_10), (false, am_10), (true, am_2), (false, am_2), (true, am_1), (false, am_1), (true, am_2), (false, am_2), (true, am_9), (false, am_9), (true, am_6), (false, am_6), (true, am_8), (false, am_8), (true, am_5), (false, am_5), (true, am_4), (false, am_4), (true, .inl (0, [(1, 214, 0), (6, 26, 0), (6, 28, 0), (6, 30, 0)])), (false, .inl (0, [(1, 63, 0), (6, 27, 0), (6, 29, 0), (6, 31, 0)])), (true, ac_1532), (false, ac_1494), (true, am_11), (false, am_11), (true, ac_1533), (false, ac_1496), (true, ac_1539), (false, .inl (9, [(6, 34, 0), (6, 44, 0)])), (false, ac_1531), (false, am_10), (false, am_2), (false, am_1), (false, am_2), (false, am_9), (false, am_6), (false, am_8), (false, am_5), (false, am_4), (false, .inl (0, [(1, 214, 0), (6, 45, 0), (6, 46, 0), (6, 47, 0)])), (false, ac_1532), (false, am_11), (false, ac_1533), (false, .inl (9, [(6, 49, 0), (6, 59, 0)])), (false, ac_1534), (false, am_10), (false, am_2), (false, am_1), (false, am_2), (false, am_9), (false, am_6), (false, am_8), (false, am_5), (false, am_4), (false, .inl (0, [(1, 297, 0), (6, 60, 0), (6, 61, 0), (6, 62, 0)])), (false, ac_1535), (false, am_11), (false, ac_1536)]
noncomputable def con_3269 : Con2 := ((yX11_back, cX11_back, 2, (some .int)), (3, 60), ([(6, 0, 0), (0, 1, 0)], gi_3108, hc_271, rq_22), [((0, 0, 0), gi_3109, hq_1083, rq_24, tg_32)])
theorem hd_3269 : con_3269.1 = (yX11_back, cX11_back, 2, (some .int)) := rfl
theorem ck_RX11_183_104 : COK2 RX11 vwCl gTbl 183 1 con_104 := ⟨wd_682, wd_125, mh_X11_hasBit, .inl ⟨rfl, wd_799, wd_681, pd_X11_hasBit⟩⟩
noncomputable def ct_3269 : CTB2 := [(17, 183, 1, con_104, []), (36, 408, 0, con_3189, [2, 33, 4, 34, 6, 35, 8, 36, 10, 37, 12, 38, 14, 39, 16, 40, 18, 41, 20, 42, 22, 43, 24, 44, 26, 45, 28, 46, 30, 47]), (40, 130, 0, con_312, [0, 32])]
noncomputable def cu_3269 : List CUT2 := []
theorem ch_3269 : staG tb_X11_back 1 bt_RX11 [] ct_3269 [] [] cu_3269 23 con_3269 = true := by decide +kernel
theorem cto_3269 (l : Launch) : CTOK2 l RX11 vwCl gTbl ct_3269 := ct2_cons (vl_104 l) ck_RX11_183_104 (ct2_cons (vl_3189 l) ck_RX11_408_3189 (ct2_cons (vl_312 l) ck_RX11_130_312 (ct2_nil)))
theorem vl_3269 (l : Launch) : Vld2 l vwCl gTbl con_3269 := conR_ok3 gT_all (hd_3269) rfl pn_RX11 tk_X11_back bo_RX11 xo_RX11 (cto_3269 l) ch_3269 cut_nil
/-- RookHusting back -/
noncomputable def con_3270 : Con2 := ((yX11_back, cX11_back, 2, (some .int)), (1, 21), ([(6, 0, 0), (0, 2, 0)], gi_3108, hc_271, rq_22), [((0, (-6), 0), gi_3152, hq_1082, [], [1])])
theorem hd_3270 : con_3270.1 = (yX11_back, cX11_back, 2, (some .int)) := rfl
theorem ck_RX11_183_103 : COK2 RX11 vwCl gTbl 183 1 con_103 := ⟨wd_682, wd_125, mh_X11_hasBit, .inl ⟨rfl, wd_799, wd_681, pd_X11_hasBit⟩⟩
noncomputable def ct_3270 : CTB2 := [(17, 183, 1, con_103, [])]
noncomputable def cu_3270 : List CUT2 := []
theorem ch_3270 : staG tb_X11_back 1 bt_RX11 [] ct_3270 [] [] cu_3270 14 con_3270 = true := by decide +kernel
theorem cto_3270 (l : Launch) : CTOK2 l RX11 vwCl gTbl ct_3270 := ct2_cons (vl_103 l) ck_RX11_183_103 (ct2_nil)
theorem vl_3270 (l : Launch) : Vld2 l vwCl gTbl con_3270 := conR_ok3 gT_all (hd_3270) rfl pn_RX11 tk_X11_back bo_RX11 xo_RX11 (cto_3270 l) ch_3270 cut_nil
/-- RookHusting back -/
noncomputable def con_3271 : Con2 := ((yX11_back, cX11_back, 2, (some .int)), (0, 0), ([(6, 0, 0), (1, 1, 0)], gi_3110, hc_271, rq_22), [((0, (-2), 0), gi_3111, hq_1082, [], [1])])
theorem hd_3271 : con_3271.1 = (yX11_back, cX11_back, 2, (some .int)) := rfl
noncomputable def cu_3271 : List CUT2 := []
theorem ch_3271 : staG tb_X11_back 1 bt_RX11 [] ct_3 [] [] cu_3271 9 con_3271 = true := by decide +kernel
theorem vl_3271 (l : Launch) : Vld2 l vwCl gTbl con_3271 := conR_ok3 gT_all (hd_3271) rfl pn_RX11 tk_X11_back bo_RX11 xo_RX11 (cto_3 l) ch_3271 cut_nil
/-- RookHusting back -/
noncomputable def ac_1570 : AC := .inl (11, jl_n [vp_161, jl_c 1, vp_162])
noncomputable def hc_272 : List AC := [ac_1570, ac_1529, .inl (9, [(6, 4, 0), (6, 24, 0)]), .inl (9, [(6, 5, 0), (6, 25, 0)]), ac_1491, ac_1492, am_10, am_10, am_2, am_2, am_1, am_1, am_2, am_2, am_9, am_9, am_6, am_6, am_8, am_8, am_5, am_5, am_4, am_4, .inl (0, [(1, 59, 0), (6, 26, 0), (6, 28, 0), (6, 30, 0)]), .inl (0, [(1, 63, 0), (6, 27, 0), (6, 29, 0), (6, 31, 0)]), ac_1493, ac_1494, am_11, am_11, ac_1495, ac_1496, ac_1530, .inl (9, [(6, 34, 0), (6, 44, 0)]), ac_1531, am_10, am_2, am_1, am_2, am_9, am_6, am_8, am_5, am_4, .inl (0, [(1, 214, 0), (6, 45, 0), (6, 46, 0), (6, 47, 0)]), ac_1532, am_11, ac_1533, .inl (9, [(6, 49, 0), (6, 59, 0)]), ac_1534, am_10, am_2, am_1, am_2, am_9, am_6, am_8, am_5, am_4, .inl (0, [(1, 297, 0), (6, 60, 0), (6, 61, 0), (6, 62, 0)]), ac_1535, am_11, ac_1536]
noncomputable def hq_1084 : HP := [(false, ac_1570), (false, ac_1529), (false, .inl (9, [(6, 4, 0), (6, 24, 0)])), (false, .inl (9, [(6, 5, 0), (6, 25, 0)])), (false, ac_1491), (false, ac_1492), (false, am_10), (false, am_10), (false, am_2), (false, am_2), (false, am_1), (false, am_1), (false, am_2), (false, am_2), (false, am_9), (false, am_9), (false, am_6), (false, am_6), (false, am_8), (false, am_8), (false, am_5), (false, am_5), (false, am_4), (false, am_4), (false, .inl (0, [(1, 59, 0), (6, 26, 0), (6, 28, 0), (6, 30, 0)])), (false, .inl (0, [(1, 63, 0), (6, 27, 0), (6, 29, 0), (6, 31, 0)])), (false, ac_1493), (false, ac_1494), (false, am_11), (false, am_11), (false, ac_1495), (false, ac_1496), (false, ac_1530), (false, .inl (9, [(6, 34, 0), (6, 44, 0)])), (false, ac_1531), (false, am_10), (false, am_2), (false, am_1), (false, am_2), (false, am_9), (false, am_6), (false, am_8), (false, am_5), (false, am_4), (false, .inl (0, [(1, 214, 0), (6, 45, 0), (6, 46, 0), (6, 47, 0)])), (false, ac_1532), (false, am_11), (false, ac_1533), (false, .inl (9, [(6, 49, 0), (6, 59, 0)])), (false, ac_1534), (false, am_10), (false, am_2), (false, am_1), (false, am_2), (false, am_9), (false, am_6), (false, am_8), (false, am_5), (false, am_4), (false, .inl (0, [(1, 297, 0), (6, 60, 0), (6, 61, 0), (6, 62, 0)])), (false, ac_1535), (false, am_11), (false, ac_1536)]
noncomputable def con_3272 : Con2 := ((yX11_back, cX11_back, 2, (some .int)), (0, 0), ([(6, 0, 0), (1, 1, 0)], gi_3106, hc_272, rq_22), [((0, (-2), 0), gi_3107, hq_1084, [], [1])])
theorem hd_3272 : con_3272.1 = (yX11_back, cX11_back, 2, (some .int)) := rfl
noncomputable def cu_3272 : List CUT2 := []
theorem ch_3272 : staG tb_X11_back 1 bt_RX11 [] ct_3 [] [] cu_3272 6 con_3272 = true := by decide +kernel
theorem vl_3272 (l : Launch) : Vld2 l vwCl gTbl con_3272 := conR_ok3 gT_all (hd_3272) rfl pn_RX11 tk_X11_back bo_RX11 xo_RX11 (cto_3 l) ch_3272 cut_nil
/-- RookHusting back -/
noncomputable def ac_1571 : AC := .inl (11, jl_n [vp_161, jl_c 1, vp_163])
noncomputable def hq_1085 : HP := [(true, ac_1571), (false, ac_1529), (false, .inl (9, [(6, 4, 0), (6, 24, 0)])), (false, .inl (9, [(6, 5, 0), (6, 25, 0)])), (true, ac_1538), (false, ac_1492), (true, am_10), (false, am_10), (true, am_2), (false, am_2), (true, am_1), (false, am_1), (true, am_2), (false, am_2), (true, am_9), (false, am_9), (true, am_6), (false, am_6), (true, am_8), (false, am_8), (true, am_5), (false, am_5), (true, am_4), (false, am_4), (true, .inl (0, [(1, 297, 0), (6, 26, 0), (6, 28, 0), (6, 30, 0)])), (false, .inl (0, [(1, 63, 0), (6, 27, 0), (6, 29, 0), (6, 31, 0)])), (true, ac_1535), (false, ac_1494), (true, am_11), (false, am_11), (true, ac_1536), (false, ac_1496), (true, ac_1539), (false, .inl (9, [(6, 34, 0), (6, 44, 0)])), (false, ac_1531), (false, am_10), (false, am_2), (false, am_1), (false, am_2), (false, am_9), (false, am_6), (false, am_8), (false, am_5), (false, am_4), (false, .inl (0, [(1, 214, 0), (6, 45, 0), (6, 46, 0), (6, 47, 0)])), (false, ac_1532), (false, am_11), (false, ac_1533), (false, .inl (9, [(6, 49, 0), (6, 59, 0)])), (false, ac_1534), (false, am_10), (false, am_2), (false, am_1), (false, am_2), (false, am_9), (false, am_6), (false, am_8), (false, am_5), (false, am_4), (false, .inl (0, [(1, 297, 0), (6, 60, 0), (6, 61, 0), (6, 62, 0)])), (false, ac_1535), (false, am_11), (false, ac_1536)]
noncomputable def con_3273 : Con2 := ((yX11_back, cX11_back, 2, (some .int)), (3, 60), ([(6, 0, 0), (0, 0, 0)], gi_3108, hc_272, rq_22), [((0, 0, 0), gi_3109, hq_1085, rq_23, tg_32)])
theorem hd_3273 : con_3273.1 = (yX11_back, cX11_back, 2, (some .int)) := rfl
theorem ck_RX11_183_61 : COK2 RX11 vwCl gTbl 183 1 con_61 := ⟨wd_682, wd_125, mh_X11_hasBit, .inl ⟨rfl, wd_799, wd_681, pd_X11_hasBit⟩⟩
noncomputable def ct_3273 : CTB2 := [(17, 183, 1, con_61, []), (36, 408, 0, con_3189, [2, 48, 4, 49, 6, 50, 8, 51, 10, 52, 12, 53, 14, 54, 16, 55, 18, 56, 20, 57, 22, 58, 24, 59, 26, 60, 28, 61, 30, 62]), (40, 130, 0, con_312, [0, 32])]
noncomputable def cu_3273 : List CUT2 := []
theorem ch_3273 : staG tb_X11_back 1 bt_RX11 [] ct_3273 [] [] cu_3273 23 con_3273 = true := by decide +kernel
theorem cto_3273 (l : Launch) : CTOK2 l RX11 vwCl gTbl ct_3273 := ct2_cons (vl_61 l) ck_RX11_183_61 (ct2_cons (vl_3189 l) ck_RX11_408_3189 (ct2_cons (vl_312 l) ck_RX11_130_312 (ct2_nil)))
theorem vl_3273 (l : Launch) : Vld2 l vwCl gTbl con_3273 := conR_ok3 gT_all (hd_3273) rfl pn_RX11 tk_X11_back bo_RX11 xo_RX11 (cto_3273 l) ch_3273 cut_nil
/-- RookHusting back -/
noncomputable def con_3274 : Con2 := ((yX11_back, cX11_back, 2, (some .int)), (1, 21), ([(6, 0, 0), (0, 1, 0)], gi_3108, hc_272, rq_22), [((0, (-6), 0), gi_3152, hq_1084, [], [1])])
theorem hd_3274 : con_3274.1 = (yX11_back, cX11_back, 2, (some .int)) := rfl
theorem ck_RX11_183_60 : COK2 RX11 vwCl gTbl 183 1 con_60 := ⟨wd_682, wd_125, mh_X11_hasBit, .inl ⟨rfl, wd_799, wd_681, pd_X11_hasBit⟩⟩
noncomputable def ct_3274 : CTB2 := [(17, 183, 1, con_60, [])]
noncomputable def cu_3274 : List CUT2 := []
theorem ch_3274 : staG tb_X11_back 1 bt_RX11 [] ct_3274 [] [] cu_3274 14 con_3274 = true := by decide +kernel
theorem cto_3274 (l : Launch) : CTOK2 l RX11 vwCl gTbl ct_3274 := ct2_cons (vl_60 l) ck_RX11_183_60 (ct2_nil)
theorem vl_3274 (l : Launch) : Vld2 l vwCl gTbl con_3274 := conR_ok3 gT_all (hd_3274) rfl pn_RX11 tk_X11_back bo_RX11 xo_RX11 (cto_3274 l) ch_3274 cut_nil
/-- RookHusting back -/
noncomputable def con_3275 : Con2 := ((yX11_back, cX11_back, 2, (some .int)), (1, 21), ([(6, 0, 0), (0, 2, 0)], gi_3108, hc_272, rq_22), [((0, (-6), 0), gi_3152, hq_1084, [], [1])])
theorem hd_3275 : con_3275.1 = (yX11_back, cX11_back, 2, (some .int)) := rfl
theorem ck_RX11_183_59 : COK2 RX11 vwCl gTbl 183 1 con_59 := ⟨wd_682, wd_125, mh_X11_hasBit, .inl ⟨rfl, wd_799, wd_681, pd_X11_hasBit⟩⟩
noncomputable def ct_3275 : CTB2 := [(17, 183, 1, con_59, [])]
noncomputable def cu_3275 : List CUT2 := []
theorem ch_3275 : staG tb_X11_back 1 bt_RX11 [] ct_3275 [] [] cu_3275 14 con_3275 = true := by decide +kernel
theorem cto_3275 (l : Launch) : CTOK2 l RX11 vwCl gTbl ct_3275 := ct2_cons (vl_59 l) ck_RX11_183_59 (ct2_nil)
theorem vl_3275 (l : Launch) : Vld2 l vwCl gTbl con_3275 := conR_ok3 gT_all (hd_3275) rfl pn_RX11 tk_X11_back bo_RX11 xo_RX11 (cto_3275 l) ch_3275 cut_nil
/-- RookHusting back -/
noncomputable def con_3276 : Con2 := ((yX11_back, cX11_back, 2, (some .int)), (0, 0), ([(6, 0, 0), (1, 1, 0)], gi_3110, hc_272, rq_22), [((0, (-2), 0), gi_3111, hq_1084, [], [1])])
theorem hd_3276 : con_3276.1 = (yX11_back, cX11_back, 2, (some .int)) := rfl
noncomputable def cu_3276 : List CUT2 := []
theorem ch_3276 : staG tb_X11_back 1 bt_RX11 [] ct_3 [] [] cu_3276 9 con_3276 = true := by decide +kernel
theorem vl_3276 (l : Launch) : Vld2 l vwCl gTbl con_3276 := conR_ok3 gT_all (hd_3276) rfl pn_RX11 tk_X11_back bo_RX11 xo_RX11 (cto_3 l) ch_3276 cut_nil
/-- RookHusting back -/
noncomputable def ac_1572 : AC := .inl (11, jl_n [vp_161, jl_c 0, vp_162])
noncomputable def hc_273 : List AC := [ac_1572, ac_1529, .inl (9, [(6, 4, 0), (6, 24, 0)]), .inl (9, [(6, 5, 0), (6, 25, 0)]), ac_1491, ac_1492, am_10, am_10, am_2, am_2, am_1, am_1, am_2, am_2, am_9, am_9, am_6, am_6, am_8, am_8, am_5, am_5, am_4, am_4, .inl (0, [(1, 59, 0), (6, 26, 0), (6, 28, 0), (6, 30, 0)]), .inl (0, [(1, 63, 0), (6, 27, 0), (6, 29, 0), (6, 31, 0)]), ac_1493, ac_1494, am_11, am_11, ac_1495, ac_1496, ac_1530, .inl (9, [(6, 34, 0), (6, 44, 0)]), ac_1531, am_10, am_2, am_1, am_2, am_9, am_6, am_8, am_5, am_4, .inl (0, [(1, 214, 0), (6, 45, 0), (6, 46, 0), (6, 47, 0)]), ac_1532, am_11, ac_1533, .inl (9, [(6, 49, 0), (6, 59, 0)]), ac_1534, am_10, am_2, am_1, am_2, am_9, am_6, am_8, am_5, am_4, .inl (0, [(1, 297, 0), (6, 60, 0), (6, 61, 0), (6, 62, 0)]), ac_1535, am_11, ac_1536]
noncomputable def hq_1086 : HP := [(false, ac_1572), (false, ac_1529), (false, .inl (9, [(6, 4, 0), (6, 24, 0)])), (false, .inl (9, [(6, 5, 0), (6, 25, 0)])), (false, ac_1491), (false, ac_1492), (false, am_10), (false, am_10), (false, am_2), (false, am_2), (false, am_1), (false, am_1), (false, am_2), (false, am_2), (false, am_9), (false, am_9), (false, am_6), (false, am_6), (false, am_8), (false, am_8), (false, am_5), (false, am_5), (false, am_4), (false, am_4), (false, .inl (0, [(1, 59, 0), (6, 26, 0), (6, 28, 0), (6, 30, 0)])), (false, .inl (0, [(1, 63, 0), (6, 27, 0), (6, 29, 0), (6, 31, 0)])), (false, ac_1493), (false, ac_1494), (false, am_11), (false, am_11), (false, ac_1495), (false, ac_1496), (false, ac_1530), (false, .inl (9, [(6, 34, 0), (6, 44, 0)])), (false, ac_1531), (false, am_10), (false, am_2), (false, am_1), (false, am_2), (false, am_9), (false, am_6), (false, am_8), (false, am_5), (false, am_4), (false, .inl (0, [(1, 214, 0), (6, 45, 0), (6, 46, 0), (6, 47, 0)])), (false, ac_1532), (false, am_11), (false, ac_1533), (false, .inl (9, [(6, 49, 0), (6, 59, 0)])), (false, ac_1534), (false, am_10), (false, am_2), (false, am_1), (false, am_2), (false, am_9), (false, am_6), (false, am_8), (false, am_5), (false, am_4), (false, .inl (0, [(1, 297, 0), (6, 60, 0), (6, 61, 0), (6, 62, 0)])), (false, ac_1535), (false, am_11), (false, ac_1536)]
noncomputable def con_3277 : Con2 := ((yX11_back, cX11_back, 2, (some .int)), (0, 0), ([(6, 0, 0), (1, 1, 0)], gi_3106, hc_273, rq_22), [((0, (-2), 0), gi_3107, hq_1086, [], [1])])
theorem hd_3277 : con_3277.1 = (yX11_back, cX11_back, 2, (some .int)) := rfl
noncomputable def cu_3277 : List CUT2 := []
theorem ch_3277 : staG tb_X11_back 1 bt_RX11 [] ct_3 [] [] cu_3277 6 con_3277 = true := by decide +kernel
theorem vl_3277 (l : Launch) : Vld2 l vwCl gTbl con_3277 := conR_ok3 gT_all (hd_3277) rfl pn_RX11 tk_X11_back bo_RX11 xo_RX11 (cto_3 l) ch_3277 cut_nil
/-- RookHusting back -/
noncomputable def con_3278 : Con2 := ((yX11_back, cX11_back, 2, (some .int)), (1, 21), ([(6, 0, 0), (0, 0, 0)], gi_3108, hc_273, rq_22), [((0, (-6), 0), gi_3152, hq_1086, [], [1])])
theorem hd_3278 : con_3278.1 = (yX11_back, cX11_back, 2, (some .int)) := rfl
theorem ck_RX11_183_1052 : COK2 RX11 vwCl gTbl 183 1 con_1052 := ⟨wd_682, wd_125, mh_X11_hasBit, .inl ⟨rfl, wd_799, wd_681, pd_X11_hasBit⟩⟩
noncomputable def ct_3278 : CTB2 := [(17, 183, 1, con_1052, [])]
noncomputable def cu_3278 : List CUT2 := []
theorem ch_3278 : staG tb_X11_back 1 bt_RX11 [] ct_3278 [] [] cu_3278 14 con_3278 = true := by decide +kernel
theorem cto_3278 (l : Launch) : CTOK2 l RX11 vwCl gTbl ct_3278 := ct2_cons (vl_1052 l) ck_RX11_183_1052 (ct2_nil)
theorem vl_3278 (l : Launch) : Vld2 l vwCl gTbl con_3278 := conR_ok3 gT_all (hd_3278) rfl pn_RX11 tk_X11_back bo_RX11 xo_RX11 (cto_3278 l) ch_3278 cut_nil
/-- RookHusting back -/
noncomputable def con_3279 : Con2 := ((yX11_back, cX11_back, 2, (some .int)), (1, 21), ([(6, 0, 0), (0, 1, 0)], gi_3108, hc_273, rq_22), [((0, (-6), 0), gi_3152, hq_1086, [], [1])])
theorem hd_3279 : con_3279.1 = (yX11_back, cX11_back, 2, (some .int)) := rfl
theorem ck_RX11_183_1051 : COK2 RX11 vwCl gTbl 183 1 con_1051 := ⟨wd_682, wd_125, mh_X11_hasBit, .inl ⟨rfl, wd_799, wd_681, pd_X11_hasBit⟩⟩
noncomputable def ct_3279 : CTB2 := [(17, 183, 1, con_1051, [])]
noncomputable def cu_3279 : List CUT2 := []
theorem ch_3279 : staG tb_X11_back 1 bt_RX11 [] ct_3279 [] [] cu_3279 14 con_3279 = true := by decide +kernel
theorem cto_3279 (l : Launch) : CTOK2 l RX11 vwCl gTbl ct_3279 := ct2_cons (vl_1051 l) ck_RX11_183_1051 (ct2_nil)
theorem vl_3279 (l : Launch) : Vld2 l vwCl gTbl con_3279 := conR_ok3 gT_all (hd_3279) rfl pn_RX11 tk_X11_back bo_RX11 xo_RX11 (cto_3279 l) ch_3279 cut_nil
/-- RookHusting back -/
noncomputable def con_3280 : Con2 := ((yX11_back, cX11_back, 2, (some .int)), (1, 21), ([(6, 0, 0), (0, 2, 0)], gi_3108, hc_273, rq_22), [((0, (-6), 0), gi_3152, hq_1086, [], [1])])
theorem hd_3280 : con_3280.1 = (yX11_back, cX11_back, 2, (some .int)) := rfl
theorem ck_RX11_183_1050 : COK2 RX11 vwCl gTbl 183 1 con_1050 := ⟨wd_682, wd_125, mh_X11_hasBit, .inl ⟨rfl, wd_799, wd_681, pd_X11_hasBit⟩⟩
noncomputable def ct_3280 : CTB2 := [(17, 183, 1, con_1050, [])]
noncomputable def cu_3280 : List CUT2 := []
theorem ch_3280 : staG tb_X11_back 1 bt_RX11 [] ct_3280 [] [] cu_3280 14 con_3280 = true := by decide +kernel
theorem cto_3280 (l : Launch) : CTOK2 l RX11 vwCl gTbl ct_3280 := ct2_cons (vl_1050 l) ck_RX11_183_1050 (ct2_nil)
theorem vl_3280 (l : Launch) : Vld2 l vwCl gTbl con_3280 := conR_ok3 gT_all (hd_3280) rfl pn_RX11 tk_X11_back bo_RX11 xo_RX11 (cto_3280 l) ch_3280 cut_nil
/-- RookHusting back -/
noncomputable def con_3281 : Con2 := ((yX11_back, cX11_back, 2, (some .int)), (0, 0), ([(6, 0, 0), (1, 1, 0)], gi_3110, hc_273, rq_22), [((0, (-2), 0), gi_3111, hq_1086, [], [1])])
theorem hd_3281 : con_3281.1 = (yX11_back, cX11_back, 2, (some .int)) := rfl
noncomputable def cu_3281 : List CUT2 := []
theorem ch_3281 : staG tb_X11_back 1 bt_RX11 [] ct_3 [] [] cu_3281 9 con_3281 = true := by decide +kernel
theorem vl_3281 (l : Launch) : Vld2 l vwCl gTbl con_3281 := conR_ok3 gT_all (hd_3281) rfl pn_RX11 tk_X11_back bo_RX11 xo_RX11 (cto_3 l) ch_3281 cut_nil
/-- RookHusting$Slots isSlot -/
noncomputable def con_3282 : Con2 := ((yX8_isSlot, cX8_isSlot, 1, (some .boolean)), (0, 0), ([(1, 0, 0)], [((-2147483648), 2147483647)], [], []), [((0, 0, 0), [((-2147483648), 2147483647), (0, 0)], [], [], [1]), ((0, 1, 0), [(0, 3), (0, 0)], [], [], [1])])
theorem hd_3282 : con_3282.1 = (yX8_isSlot, cX8_isSlot, 1, (some .boolean)) := rfl
noncomputable def cu_3282 : List CUT2 := []
theorem ch_3282 : staG tb_X8_isSlot 1 bt_RX8 [] ct_1497 [] [] cu_3282 10 con_3282 = true := by decide +kernel
theorem vl_3282 (l : Launch) : Vld2 l vwCl gTbl con_3282 := conR_ok3 gT_all (hd_3282) rfl pn_RX8 tk_X8_isSlot bo_RX8 xo_RX8 (cto_1497 l) ch_3282 cut_nil
/-- RookHusting$Slots renew -/
noncomputable def gi_3156 : GI := jl_n [gp_922, jl_z 3, gp_923]
noncomputable def ac_1573 : AC := .inr (1, jl_n [js_1 11 4])
noncomputable def ac_1574 : AC := .inr (1, jl_n [js_1 15 4])
noncomputable def hc_274 : List AC := [.inl (8, [(6, 3, 0), (6, 1, 0), (6, 2, 0)]), ac_1573, ac_1574, ac_807]
noncomputable def gi_3157 : GI := jl_n [gp_922, jl_z 3, jl_r 4 (jl_i 0 3), gp_924, jl_r 4 (jl_m 0 60)]
noncomputable def ac_1575 : AC := .inr (1, jl_n [js_1 19 4])
noncomputable def ac_1576 : AC := .inr (1, jl_n [js_1 23 4])
noncomputable def hq_1087 : HP := [(false, .inl (8, [(6, 3, 0), (6, 1, 0), (6, 2, 0)])), (true, ac_1575), (true, ac_1576), (true, ac_807)]
noncomputable def con_3283 : Con2 := ((yX8_renew, cX8_renew, 5, none), (0, 0), ([(6, 0, 0), (1, 1, 0), (1, 2, 0), (1, 3, 0)], gi_3156, hc_274, []), [((9, 0, 0), gi_3157, hq_1087, [], tg_33)])
theorem hd_3283 : con_3283.1 = (yX8_renew, cX8_renew, 5, none) := rfl
noncomputable def gi_3158 : GI := jl_n [gp_922, jl_z 3, gp_923, jl_z 4, jl_i 0 60, gp_923]
noncomputable def ac_1577 : AC := .inr (1, jl_n [js_1 24 4])
noncomputable def ac_1578 : AC := .inr (1, jl_n [js_1 28 4])
noncomputable def hq_1088 : HP := [(false, .inl (8, [(6, 3, 0), (6, 1, 0), (6, 2, 0)])), (true, ac_1577), (true, ac_1578), (true, ac_807)]
noncomputable def cu_3283 : List CUT2 := [((17, [lq 0 6 0, lq 1 1 1, lq 2 1 2, lq 3 1 3, lq 4 1 19], [], gi_3158, hq_1088), [], ([(19, (-1))], 60))]
theorem ch_3283 : staG tb_X8_renew 1 bt_RX8 [] ct_1497 [] [] cu_3283 17 con_3283 = true := by decide +kernel
theorem cc_3283 : cu_3283.all (cutG tb_X8_renew 1 bt_RX8 [] ct_1497 [] [] cu_3283 17 con_3283) = true := by decide +kernel
theorem vl_3283 (l : Launch) : Vld2 l vwCl gTbl con_3283 := conR_ok3 gT_all (hd_3283) rfl pn_RX8 tk_X8_renew bo_RX8 xo_RX8 (cto_1497 l) ch_3283 (cut_all cc_3283)
/-- RookHusting row -/
noncomputable def gi_3159 : GI := jl_n [gp_198, jl_z 19, gp_923]
noncomputable def ac_1579 : AC := .inl (11, jl_n [vp_25, jl_8 20 11])
noncomputable def ac_1580 : AC := .inr (1, jl_n [js_1 27 4])
noncomputable def ac_1581 : AC := .inr (1, jl_n [js_1 31 4])
noncomputable def hc_275 : List AC := [ac_1579, .inl (8, [(6, 4, 0), (6, 2, 0), (6, 3, 0)]), ac_1580, ac_1581, ac_807]
noncomputable def gi_3160 : GI := jl_n [gp_198, jl_z 19, gp_923, jl_m 2 0, gp_923]
noncomputable def ac_1582 : AC := .inr (1, jl_n [js_1 36 4])
noncomputable def ac_1583 : AC := .inr (1, jl_n [js_1 40 4])
noncomputable def hq_1089 : HP := [(false, ac_1579), (false, .inl (8, [(6, 4, 0), (6, 2, 0), (6, 3, 0)])), (true, ac_1582), (true, ac_1583), (true, ac_807)]
noncomputable def con_3284 : Con2 := ((yX11_row, cX11_row, 4, (some .int)), (1, 24), ([(6, 0, 0), (1, 1, 0), (1, 2, 0), (1, 3, 0)], gi_3159, hc_275, []), [((1, 31, 0), gi_3160, hq_1089, [], tg_13)])
theorem hd_3284 : con_3284.1 = (yX11_row, cX11_row, 4, (some .int)) := rfl
theorem ck_RX11_417_3283 : COK2 RX11 vwCl gTbl 417 0 con_3283 := ⟨wd_1374, wd_131, mh_X8_renew, .inr (.inr ⟨rfl, wd_1371, wd_1372, wd_1373, ⟨_, rfl, pd_X8_renew⟩, 8, _, TX8, 3, rfl, rfl⟩)⟩
theorem ck_RX11_414_3282 : COK2 RX11 vwCl gTbl 414 1 con_3282 := ⟨wd_1210, wd_131, mh_X8_isSlot, .inl ⟨rfl, wd_1208, wd_1209, pd_X8_isSlot⟩⟩
noncomputable def ct_3284 : CTB2 := [(1, 414, 1, con_3282, []), (39, 417, 0, con_3283, [1, 2, 3, 4])]
noncomputable def cu_3284 : List CUT2 := []
theorem ch_3284 : staG tb_X11_row 1 bt_RX11 [] ct_3284 [] [] cu_3284 23 con_3284 = true := by decide +kernel
theorem cto_3284 (l : Launch) : CTOK2 l RX11 vwCl gTbl ct_3284 := ct2_cons (vl_3282 l) ck_RX11_414_3282 (ct2_cons (vl_3283 l) ck_RX11_417_3283 (ct2_nil))
theorem vl_3284 (l : Launch) : Vld2 l vwCl gTbl con_3284 := conR_ok3 gT_all (hd_3284) rfl pn_RX11 tk_X11_row bo_RX11 xo_RX11 (cto_3284 l) ch_3284 cut_nil
/-- RookHustingModel isSlot -/
noncomputable def con_3285 : Con2 := ((yX12_isSlot, cX12_isSlot, 1, (some .boolean)), (1, 25), ([(1, 0, 0)], [((-2147483648), 2147483647)], [], []), [((0, 0, 0), [((-2147483648), 2147483647), (0, 0)], [], [], [1]), ((0, 1, 0), [(0, 3), (0, 0)], [], [], [1])])
theorem hd_3285 : con_3285.1 = (yX12_isSlot, cX12_isSlot, 1, (some .boolean)) := rfl
noncomputable def cu_3285 : List CUT2 := []
theorem ch_3285 : staG tb_X12_isSlot 1 bt_RX12 [] ct_2171 [] [] cu_3285 8 con_3285 = true := by decide +kernel
theorem vl_3285 (l : Launch) : Vld2 l vwCl gTbl con_3285 := conR_ok3 gT_all (hd_3285) rfl pn_RX12 tk_X12_isSlot bo_RX12 xo_RX12 (cto_2171 l) ch_3285 cut_nil
