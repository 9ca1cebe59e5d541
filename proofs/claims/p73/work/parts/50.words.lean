/-! ===== words of the tables, by their places ===== -/
def RL : String := "RookHustingLaw"
theorem gT_all : ∀ w ∈ gTbl, GoodIn gTbl (w :: gTbl) := fun _ h => gT_good h
theorem ae_in {ws : List Jvm.Cond} (ps : List Nat) (h : ws = ps.filterMap (fun i => lw_tbl[i]?)) (hg : ws.all goodWord = true) : ∀ w ∈ ws, w ∈ gTbl := fun w hw => by
  have h1 := List.all_eq_true.mp hg w hw
  rw [h] at hw
  obtain ⟨i, -, hi⟩ := List.mem_filterMap.mp hw
  exact gT_of hi h1
theorem ct2_nil {l : Launch} {own : String} {cl : List vw_C} {Ts : List Jvm.Cond} : CTOK2 l own cl Ts [] := fun _ hq => absurd hq List.not_mem_nil
theorem ct2_cons {l : Launch} {own : String} {cl : List vw_C} {Ts : List Jvm.Cond} {q : Nat × Nat × Nat × Con2 × List Nat} {CT : CTB2} (h1 : Vld2 l cl Ts q.2.2.2.1) (h2 : COK2 own cl Ts q.2.1 q.2.2.1 q.2.2.2.1) (h3 : CTOK2 l own cl Ts CT) : CTOK2 l own cl Ts (q :: CT) := fun x hx => by
  rcases List.mem_cons.mp hx with rfl | hx
  · exact ⟨h1, h2⟩
  · exact h3 x hx
theorem fa2_nil {P : Nat × Nat → Prop} : ∀ q ∈ ([] : List (Nat × Nat)), P q := fun _ hq => absurd hq List.not_mem_nil
theorem fa2_cons {P : Nat × Nat → Prop} {q : Nat × Nat} {L : List (Nat × Nat)} (h1 : P q) (h2 : ∀ q ∈ L, P q) : ∀ x ∈ q :: L, P x := fun x hx => by
  rcases List.mem_cons.mp hx with rfl | hx
  · exact h1
  · exact h2 x hx
theorem gC_of {L : List Jvm.Cond} (hL : ∀ w ∈ L, w ∈ lw_tbl) {w : Jvm.Cond} (i : Nat) (h : nthG L i = some w) (hg : goodWord w = true) : w ∈ gTbl := List.mem_filter.mpr ⟨hL w (List.mem_of_getElem? (by rw [← nthG_eq]; exact h)), hg⟩
theorem gL_of {L : List Jvm.Cond} (hL : ∀ w ∈ L, w ∈ lw_tbl) {w : Jvm.Cond} (i : Nat) (h : nthL L i = some w) (hg : goodWord w = true) : w ∈ gTbl := List.mem_filter.mpr ⟨hL w (nthL_mem h), hg⟩
theorem tl1_1 : ∀ w ∈ tables_1_1, w ∈ lw_tbl := fun w h => List.mem_append_right _ (List.mem_append_left _ h)
theorem tl1_2 : ∀ w ∈ tables_1_2, w ∈ lw_tbl := fun w h => List.mem_append_right _ (List.mem_append_right _ (List.mem_append_left _ h))
theorem tl1_3 : ∀ w ∈ tables_1_3, w ∈ lw_tbl := fun w h => List.mem_append_right _ (List.mem_append_right _ (List.mem_append_right _ (List.mem_append_left _ h)))
theorem tl1_4 : ∀ w ∈ tables_1_4, w ∈ lw_tbl := fun w h => List.mem_append_right _ (List.mem_append_right _ (List.mem_append_right _ (List.mem_append_right _ (List.mem_append_left _ h))))
theorem tl1_5 : ∀ w ∈ tables_1_5, w ∈ lw_tbl := fun w h => List.mem_append_right _ (List.mem_append_right _ (List.mem_append_right _ (List.mem_append_right _ (List.mem_append_right _ (List.mem_append_left _ h)))))
theorem tl1_6 : ∀ w ∈ tables_1_6, w ∈ lw_tbl := fun w h => List.mem_append_right _ (List.mem_append_right _ (List.mem_append_right _ (List.mem_append_right _ (List.mem_append_right _ (List.mem_append_right _ (List.mem_append_left _ h))))))
theorem tl1_7 : ∀ w ∈ tables_1_7, w ∈ lw_tbl := fun w h => List.mem_append_right _ (List.mem_append_right _ (List.mem_append_right _ (List.mem_append_right _ (List.mem_append_right _ (List.mem_append_right _ (List.mem_append_right _ (List.mem_append_left _ h)))))))
theorem tl1_8 : ∀ w ∈ tables_1_8, w ∈ lw_tbl := fun w h => List.mem_append_right _ (List.mem_append_right _ (List.mem_append_right _ (List.mem_append_right _ (List.mem_append_right _ (List.mem_append_right _ (List.mem_append_right _ (List.mem_append_right _ (List.mem_append_left _ h))))))))
theorem tl1_9 : ∀ w ∈ tables_1_9, w ∈ lw_tbl := fun w h => List.mem_append_right _ (List.mem_append_right _ (List.mem_append_right _ (List.mem_append_right _ (List.mem_append_right _ (List.mem_append_right _ (List.mem_append_right _ (List.mem_append_right _ (List.mem_append_right _ (h)))))))))
set_option maxRecDepth 16384 in
theorem wd_1412 : Jvm.Cond.fieldLink RX12 150 "RookHustingModel" "faultKind" "I" ∈ gTbl := gL_of tl1_6 88 rfl (by decide +kernel)
set_option maxRecDepth 16384 in
theorem wd_1408 : Jvm.Cond.fieldLink RX12 119 "RookHustingModel" "at" "I" ∈ gTbl := gL_of tl1_6 84 rfl (by decide +kernel)
set_option maxRecDepth 16384 in
theorem wd_1409 : Jvm.Cond.fieldLink RX12 126 "RookHustingModel" "from" "I" ∈ gTbl := gL_of tl1_6 85 rfl (by decide +kernel)
set_option maxRecDepth 16384 in
theorem wd_1410 : Jvm.Cond.fieldLink RX12 129 "RookHustingModel" "token" "I" ∈ gTbl := gL_of tl1_6 86 rfl (by decide +kernel)
set_option maxRecDepth 16384 in
theorem wd_1404 : Jvm.Cond.fieldLink RX12 20 "RookHustingModel" "tape" "[B" ∈ gTbl := gL_of tl1_6 80 rfl (by decide +kernel)
set_option maxRecDepth 16384 in
theorem wd_1604 : Jvm.Cond.methodLink RX12 156 yJ0_length_8abf5 ∈ gTbl := gL_of tl1_7 40 rfl (by decide +kernel)
set_option maxRecDepth 16384 in
theorem wd_1605 : Jvm.Cond.methodLink RX12 161 yJ0_charAt_5068e ∈ gTbl := gL_of tl1_7 41 rfl (by decide +kernel)
set_option maxRecDepth 16384 in
theorem wd_1579 : Jvm.Cond.methodLink RX12 153 yX12_good ∈ gTbl := gL_of tl1_7 15 rfl (by decide +kernel)
set_option maxRecDepth 16384 in
theorem wd_1582 : Jvm.Cond.code yX12_good cX12_good 1 (some .boolean) ∈ gTbl := gL_of tl1_7 18 rfl (by decide +kernel)
set_option maxRecDepth 16384 in
theorem wd_137 : Jvm.Cond.initialized RX12 ∈ gTbl := gL_of tl1_1 13 rfl (by decide +kernel)
set_option maxRecDepth 16384 in
theorem wd_1581 : Jvm.Cond.instanceMethod yX12_good ∈ gTbl := gL_of tl1_7 17 rfl (by decide +kernel)
theorem wd_53 : Jvm.Cond.selects RX12 yX12_good yX12_good ∈ gTbl := gT_of (i := 53) (by decide +kernel) (by decide +kernel)
set_option maxRecDepth 16384 in
theorem wd_161 : Jvm.Cond.fieldLink RX10 15 "RookHusting$Tape" "length" "I" ∈ gTbl := gL_of tl1_1 37 rfl (by decide +kernel)
set_option maxRecDepth 16384 in
theorem wd_159 : Jvm.Cond.fieldLink RX10 9 "RookHusting$Tape" "bytes" "[B" ∈ gTbl := gL_of tl1_1 35 rfl (by decide +kernel)
set_option maxRecDepth 16384 in
theorem wd_503 : Jvm.Cond.fieldLink RX11 10 "RookHusting" "tape" "LRookHusting$Tape;" ∈ gTbl := gL_of tl1_2 139 rfl (by decide +kernel)
set_option maxRecDepth 16384 in
theorem wd_160 : Jvm.Cond.fieldLink RX11 92 "RookHusting$Tape" "length" "I" ∈ gTbl := gL_of tl1_1 36 rfl (by decide +kernel)
set_option maxRecDepth 16384 in
theorem wd_559 : Jvm.Cond.code yX10_append cX10_append 3 none ∈ gTbl := gL_of tl1_2 195 rfl (by decide +kernel)
set_option maxRecDepth 16384 in
theorem wd_126 : Jvm.Cond.initialized RX10 ∈ gTbl := gL_of tl1_1 2 rfl (by decide +kernel)
set_option maxRecDepth 16384 in
theorem wd_556 : Jvm.Cond.methodLink RX11 96 yX10_append ∈ gTbl := gL_of tl1_2 192 rfl (by decide +kernel)
set_option maxRecDepth 16384 in
theorem wd_557 : Jvm.Cond.instanceMethod yX10_append ∈ gTbl := gL_of tl1_2 193 rfl (by decide +kernel)
set_option maxRecDepth 16384 in
theorem wd_558 : Jvm.Cond.selects RX10 yX10_append yX10_append ∈ gTbl := gL_of tl1_2 194 rfl (by decide +kernel)
set_option maxRecDepth 16384 in
theorem wd_1405 : Jvm.Cond.fieldLink RX12 113 "RookHustingModel" "taped" "I" ∈ gTbl := gL_of tl1_6 81 rfl (by decide +kernel)
set_option maxRecDepth 16384 in
theorem wd_1406 : Jvm.Cond.fieldLink RX12 24 "RookHustingModel" "five" "[I" ∈ gTbl := gL_of tl1_6 82 rfl (by decide +kernel)
set_option maxRecDepth 16384 in
theorem wd_1544 : Jvm.Cond.code yX12_in cX12_in 6 (some .boolean) ∈ gTbl := gL_of tl1_6 220 rfl (by decide +kernel)
set_option maxRecDepth 16384 in
theorem wd_1542 : Jvm.Cond.methodLink RX12 91 yX12_in ∈ gTbl := gL_of tl1_6 218 rfl (by decide +kernel)
set_option maxRecDepth 16384 in
theorem wd_1543 : Jvm.Cond.static yX12_in ∈ gTbl := gL_of tl1_6 219 rfl (by decide +kernel)
set_option maxRecDepth 16384 in
theorem wd_195 : Jvm.Cond.fieldLink RX4 39 "RookHusting$Hundred" "lines" "I" ∈ gTbl := gL_of tl1_1 71 rfl (by decide +kernel)
set_option maxRecDepth 16384 in
theorem wd_198 : Jvm.Cond.fieldLink RX4 43 "RookHusting$Hundred" "days" "I" ∈ gTbl := gL_of tl1_1 74 rfl (by decide +kernel)
set_option maxRecDepth 16384 in
theorem wd_202 : Jvm.Cond.fieldLink RX4 46 "RookHusting$Hundred" "law" "I" ∈ gTbl := gL_of tl1_1 78 rfl (by decide +kernel)
set_option maxRecDepth 16384 in
theorem wd_206 : Jvm.Cond.fieldLink RX4 49 "RookHusting$Hundred" "odds" "I" ∈ gTbl := gL_of tl1_1 82 rfl (by decide +kernel)
set_option maxRecDepth 16384 in
theorem wd_210 : Jvm.Cond.fieldLink RX4 52 "RookHusting$Hundred" "fields" "I" ∈ gTbl := gL_of tl1_1 86 rfl (by decide +kernel)
set_option maxRecDepth 16384 in
theorem wd_215 : Jvm.Cond.fieldLink RX4 55 "RookHusting$Hundred" "hedges" "I" ∈ gTbl := gL_of tl1_1 91 rfl (by decide +kernel)
set_option maxRecDepth 16384 in
theorem wd_218 : Jvm.Cond.fieldLink RX4 58 "RookHusting$Hundred" "men" "I" ∈ gTbl := gL_of tl1_1 94 rfl (by decide +kernel)
set_option maxRecDepth 16384 in
theorem wd_224 : Jvm.Cond.fieldLink RX4 61 "RookHusting$Hundred" "voters" "I" ∈ gTbl := gL_of tl1_1 100 rfl (by decide +kernel)
set_option maxRecDepth 16384 in
theorem wd_168 : Jvm.Cond.fieldLink RX10 19 "RookHusting$Tape" "at" "I" ∈ gTbl := gL_of tl1_1 44 rfl (by decide +kernel)
set_option maxRecDepth 16384 in
theorem wd_164 : Jvm.Cond.fieldLink RX10 29 "RookHusting$Tape" "start" "I" ∈ gTbl := gL_of tl1_1 40 rfl (by decide +kernel)
set_option maxRecDepth 16384 in
theorem wd_163 : Jvm.Cond.fieldLink RX10 32 "RookHusting$Tape" "kind" "I" ∈ gTbl := gL_of tl1_1 39 rfl (by decide +kernel)
set_option maxRecDepth 16384 in
theorem wd_166 : Jvm.Cond.fieldLink RX10 41 "RookHusting$Tape" "number" "I" ∈ gTbl := gL_of tl1_1 42 rfl (by decide +kernel)
set_option maxRecDepth 16384 in
theorem wd_593 : Jvm.Cond.constant RX10 44 1000000 ∈ gTbl := gL_of tl1_2 229 rfl (by decide +kernel)
set_option maxRecDepth 16384 in
theorem wd_592 : Jvm.Cond.code yX10_isDigit cX10_isDigit 1 (some .boolean) ∈ gTbl := gL_of tl1_2 228 rfl (by decide +kernel)
set_option maxRecDepth 16384 in
theorem wd_590 : Jvm.Cond.methodLink RX10 38 yX10_isDigit ∈ gTbl := gL_of tl1_2 226 rfl (by decide +kernel)
set_option maxRecDepth 16384 in
theorem wd_591 : Jvm.Cond.static yX10_isDigit ∈ gTbl := gL_of tl1_2 227 rfl (by decide +kernel)
set_option maxRecDepth 16384 in
theorem wd_589 : Jvm.Cond.code yX10_isLetter cX10_isLetter 1 (some .boolean) ∈ gTbl := gL_of tl1_2 225 rfl (by decide +kernel)
set_option maxRecDepth 16384 in
theorem wd_587 : Jvm.Cond.methodLink RX10 35 yX10_isLetter ∈ gTbl := gL_of tl1_2 223 rfl (by decide +kernel)
set_option maxRecDepth 16384 in
theorem wd_588 : Jvm.Cond.static yX10_isLetter ∈ gTbl := gL_of tl1_2 224 rfl (by decide +kernel)
set_option maxRecDepth 16384 in
theorem wd_586 : Jvm.Cond.code yX10_isBlank cX10_isBlank 1 (some .boolean) ∈ gTbl := gL_of tl1_2 222 rfl (by decide +kernel)
set_option maxRecDepth 16384 in
theorem wd_584 : Jvm.Cond.methodLink RX10 25 yX10_isBlank ∈ gTbl := gL_of tl1_2 220 rfl (by decide +kernel)
set_option maxRecDepth 16384 in
theorem wd_585 : Jvm.Cond.static yX10_isBlank ∈ gTbl := gL_of tl1_2 221 rfl (by decide +kernel)
set_option maxRecDepth 16384 in
theorem wd_583 : Jvm.Cond.code yX10_step cX10_step 1 none ∈ gTbl := gL_of tl1_2 219 rfl (by decide +kernel)
set_option maxRecDepth 16384 in
theorem wd_580 : Jvm.Cond.methodLink RX10 22 yX10_step ∈ gTbl := gL_of tl1_2 216 rfl (by decide +kernel)
set_option maxRecDepth 16384 in
theorem wd_581 : Jvm.Cond.instanceMethod yX10_step ∈ gTbl := gL_of tl1_2 217 rfl (by decide +kernel)
set_option maxRecDepth 16384 in
theorem wd_582 : Jvm.Cond.selects RX10 yX10_step yX10_step ∈ gTbl := gL_of tl1_2 218 rfl (by decide +kernel)
set_option maxRecDepth 16384 in
theorem wd_288 : Jvm.Cond.fieldLink RX6 12 "RookHusting$Reader" "draft" "LRookHusting$Hundred;" ∈ gTbl := gL_of tl1_1 164 rfl (by decide +kernel)
set_option maxRecDepth 16384 in
theorem wd_290 : Jvm.Cond.fieldLink RX6 29 "RookHusting$Reader" "fault" "I" ∈ gTbl := gL_of tl1_1 166 rfl (by decide +kernel)
set_option maxRecDepth 16384 in
theorem wd_292 : Jvm.Cond.fieldLink RX6 18 "RookHusting$Reader" "place" "I" ∈ gTbl := gL_of tl1_1 168 rfl (by decide +kernel)
set_option maxRecDepth 16384 in
theorem wd_294 : Jvm.Cond.fieldLink RX6 22 "RookHusting$Reader" "tape" "LRookHusting$Tape;" ∈ gTbl := gL_of tl1_1 170 rfl (by decide +kernel)
set_option maxRecDepth 16384 in
theorem wd_579 : Jvm.Cond.code yX10_rewind cX10_rewind 1 none ∈ gTbl := gL_of tl1_2 215 rfl (by decide +kernel)
set_option maxRecDepth 16384 in
theorem wd_576 : Jvm.Cond.methodLink RX6 32 yX10_rewind ∈ gTbl := gL_of tl1_2 212 rfl (by decide +kernel)
set_option maxRecDepth 16384 in
theorem wd_577 : Jvm.Cond.instanceMethod yX10_rewind ∈ gTbl := gL_of tl1_2 213 rfl (by decide +kernel)
set_option maxRecDepth 16384 in
theorem wd_578 : Jvm.Cond.selects RX10 yX10_rewind yX10_rewind ∈ gTbl := gL_of tl1_2 214 rfl (by decide +kernel)
set_option maxRecDepth 16384 in
theorem wd_575 : Jvm.Cond.code yX4_clear cX4_clear 1 none ∈ gTbl := gL_of tl1_2 211 rfl (by decide +kernel)
set_option maxRecDepth 16384 in
theorem wd_128 : Jvm.Cond.initialized RX4 ∈ gTbl := gL_of tl1_1 4 rfl (by decide +kernel)
set_option maxRecDepth 16384 in
theorem wd_572 : Jvm.Cond.methodLink RX6 26 yX4_clear ∈ gTbl := gL_of tl1_2 208 rfl (by decide +kernel)
set_option maxRecDepth 16384 in
theorem wd_573 : Jvm.Cond.instanceMethod yX4_clear ∈ gTbl := gL_of tl1_2 209 rfl (by decide +kernel)
set_option maxRecDepth 16384 in
theorem wd_574 : Jvm.Cond.selects RX4 yX4_clear yX4_clear ∈ gTbl := gL_of tl1_2 210 rfl (by decide +kernel)
set_option maxRecDepth 16384 in
theorem wd_162 : Jvm.Cond.fieldLink RX6 37 "RookHusting$Tape" "kind" "I" ∈ gTbl := gL_of tl1_1 38 rfl (by decide +kernel)
set_option maxRecDepth 16384 in
theorem wd_165 : Jvm.Cond.fieldLink RX6 151 "RookHusting$Tape" "start" "I" ∈ gTbl := gL_of tl1_1 41 rfl (by decide +kernel)
set_option maxRecDepth 16384 in
theorem wd_670 : Jvm.Cond.methodLink RX6 102 yX10_step ∈ gTbl := gL_of tl1_3 66 rfl (by decide +kernel)
set_option maxRecDepth 16384 in
theorem wd_669 : Jvm.Cond.code yX6_blame cX6_blame 2 none ∈ gTbl := gL_of tl1_3 65 rfl (by decide +kernel)
set_option maxRecDepth 16384 in
theorem wd_127 : Jvm.Cond.initialized RX6 ∈ gTbl := gL_of tl1_1 3 rfl (by decide +kernel)
set_option maxRecDepth 16384 in
theorem wd_666 : Jvm.Cond.methodLink RX6 70 yX6_blame ∈ gTbl := gL_of tl1_3 62 rfl (by decide +kernel)
set_option maxRecDepth 16384 in
theorem wd_668 : Jvm.Cond.instanceMethod yX6_blame ∈ gTbl := gL_of tl1_3 64 rfl (by decide +kernel)
theorem wd_2 : Jvm.Cond.selects RX6 yX6_blame yX6_blame ∈ gTbl := gT_of (i := 2) (by decide +kernel) (by decide +kernel)
set_option maxRecDepth 16384 in
theorem wd_617 : Jvm.Cond.code yX10_isAtWord cX10_isAtWord 3 (some .boolean) ∈ gTbl := gL_of tl1_3 13 rfl (by decide +kernel)
set_option maxRecDepth 16384 in
theorem wd_614 : Jvm.Cond.methodLink RX6 48 yX10_isAtWord ∈ gTbl := gL_of tl1_3 10 rfl (by decide +kernel)
set_option maxRecDepth 16384 in
theorem wd_615 : Jvm.Cond.instanceMethod yX10_isAtWord ∈ gTbl := gL_of tl1_3 11 rfl (by decide +kernel)
set_option maxRecDepth 16384 in
theorem wd_616 : Jvm.Cond.selects RX10 yX10_isAtWord yX10_isAtWord ∈ gTbl := gL_of tl1_3 12 rfl (by decide +kernel)
set_option maxRecDepth 16384 in
theorem wd_167 : Jvm.Cond.fieldLink RX6 144 "RookHusting$Tape" "number" "I" ∈ gTbl := gL_of tl1_1 43 rfl (by decide +kernel)
set_option maxRecDepth 16384 in
theorem wd_679 : Jvm.Cond.code yX6_takeNumber cX6_takeNumber 5 (some .int) ∈ gTbl := gL_of tl1_3 75 rfl (by decide +kernel)
set_option maxRecDepth 16384 in
theorem wd_676 : Jvm.Cond.methodLink RX6 116 yX6_takeNumber ∈ gTbl := gL_of tl1_3 72 rfl (by decide +kernel)
set_option maxRecDepth 16384 in
theorem wd_678 : Jvm.Cond.instanceMethod yX6_takeNumber ∈ gTbl := gL_of tl1_3 74 rfl (by decide +kernel)
theorem wd_4 : Jvm.Cond.selects RX6 yX6_takeNumber yX6_takeNumber ∈ gTbl := gT_of (i := 4) (by decide +kernel) (by decide +kernel)
set_option maxRecDepth 16384 in
theorem wd_613 : Jvm.Cond.code yX6_takeWord cX6_takeWord 2 none ∈ gTbl := gL_of tl1_3 9 rfl (by decide +kernel)
set_option maxRecDepth 16384 in
theorem wd_610 : Jvm.Cond.methodLink RX6 79 yX6_takeWord ∈ gTbl := gL_of tl1_3 6 rfl (by decide +kernel)
set_option maxRecDepth 16384 in
theorem wd_612 : Jvm.Cond.instanceMethod yX6_takeWord ∈ gTbl := gL_of tl1_3 8 rfl (by decide +kernel)
theorem wd_1 : Jvm.Cond.selects RX6 yX6_takeWord yX6_takeWord ∈ gTbl := gT_of (i := 1) (by decide +kernel) (by decide +kernel)
set_option maxRecDepth 16384 in
theorem wd_200 : Jvm.Cond.fieldLink RX6 89 "RookHusting$Hundred" "days" "I" ∈ gTbl := gL_of tl1_1 76 rfl (by decide +kernel)
set_option maxRecDepth 16384 in
theorem wd_203 : Jvm.Cond.fieldLink RX6 93 "RookHusting$Hundred" "law" "I" ∈ gTbl := gL_of tl1_1 79 rfl (by decide +kernel)
set_option maxRecDepth 16384 in
theorem wd_207 : Jvm.Cond.fieldLink RX6 97 "RookHusting$Hundred" "odds" "I" ∈ gTbl := gL_of tl1_1 83 rfl (by decide +kernel)
set_option maxRecDepth 16384 in
theorem wd_675 : Jvm.Cond.code yX6_takeNamed cX6_takeNamed 4 (some .int) ∈ gTbl := gL_of tl1_3 71 rfl (by decide +kernel)
set_option maxRecDepth 16384 in
theorem wd_672 : Jvm.Cond.methodLink RX6 85 yX6_takeNamed ∈ gTbl := gL_of tl1_3 68 rfl (by decide +kernel)
set_option maxRecDepth 16384 in
theorem wd_674 : Jvm.Cond.instanceMethod yX6_takeNamed ∈ gTbl := gL_of tl1_3 70 rfl (by decide +kernel)
theorem wd_3 : Jvm.Cond.selects RX6 yX6_takeNamed yX6_takeNamed ∈ gTbl := gT_of (i := 3) (by decide +kernel) (by decide +kernel)
set_option maxRecDepth 16384 in
theorem wd_196 : Jvm.Cond.fieldLink RX6 40 "RookHusting$Hundred" "lines" "I" ∈ gTbl := gL_of tl1_1 72 rfl (by decide +kernel)
set_option maxRecDepth 16384 in
theorem wd_227 : Jvm.Cond.fieldLink RX4 9 "RookHusting$Hundred" "corn" "[I" ∈ gTbl := gL_of tl1_1 103 rfl (by decide +kernel)
set_option maxRecDepth 16384 in
theorem wd_230 : Jvm.Cond.fieldLink RX4 15 "RookHusting$Hundred" "rooks" "[I" ∈ gTbl := gL_of tl1_1 106 rfl (by decide +kernel)
set_option maxRecDepth 16384 in
theorem wd_233 : Jvm.Cond.fieldLink RX4 18 "RookHusting$Hundred" "joined" "[I" ∈ gTbl := gL_of tl1_1 109 rfl (by decide +kernel)
set_option maxRecDepth 16384 in
theorem wd_212 : Jvm.Cond.fieldLink RX6 99 "RookHusting$Hundred" "fields" "I" ∈ gTbl := gL_of tl1_1 88 rfl (by decide +kernel)
set_option maxRecDepth 16384 in
theorem wd_695 : Jvm.Cond.code yX4_addField cX4_addField 3 none ∈ gTbl := gL_of tl1_3 91 rfl (by decide +kernel)
set_option maxRecDepth 16384 in
theorem wd_692 : Jvm.Cond.methodLink RX6 109 yX4_addField ∈ gTbl := gL_of tl1_3 88 rfl (by decide +kernel)
set_option maxRecDepth 16384 in
theorem wd_693 : Jvm.Cond.instanceMethod yX4_addField ∈ gTbl := gL_of tl1_3 89 rfl (by decide +kernel)
set_option maxRecDepth 16384 in
theorem wd_694 : Jvm.Cond.selects RX4 yX4_addField yX4_addField ∈ gTbl := gL_of tl1_3 90 rfl (by decide +kernel)
set_option maxRecDepth 16384 in
theorem wd_682 : Jvm.Cond.code yX11_hasBit cX11_hasBit 2 (some .boolean) ∈ gTbl := gL_of tl1_3 78 rfl (by decide +kernel)
set_option maxRecDepth 16384 in
theorem wd_125 : Jvm.Cond.initialized RX11 ∈ gTbl := gL_of tl1_1 1 rfl (by decide +kernel)
set_option maxRecDepth 16384 in
theorem wd_681 : Jvm.Cond.static yX11_hasBit ∈ gTbl := gL_of tl1_3 77 rfl (by decide +kernel)
set_option maxRecDepth 16384 in
theorem wd_216 : Jvm.Cond.fieldLink RX6 113 "RookHusting$Hundred" "hedges" "I" ∈ gTbl := gL_of tl1_1 92 rfl (by decide +kernel)
set_option maxRecDepth 16384 in
theorem wd_704 : Jvm.Cond.code yX4_addHedge cX4_addHedge 3 none ∈ gTbl := gL_of tl1_3 100 rfl (by decide +kernel)
set_option maxRecDepth 16384 in
theorem wd_701 : Jvm.Cond.methodLink RX6 120 yX4_addHedge ∈ gTbl := gL_of tl1_3 97 rfl (by decide +kernel)
set_option maxRecDepth 16384 in
theorem wd_702 : Jvm.Cond.instanceMethod yX4_addHedge ∈ gTbl := gL_of tl1_3 98 rfl (by decide +kernel)
set_option maxRecDepth 16384 in
theorem wd_703 : Jvm.Cond.selects RX4 yX4_addHedge yX4_addHedge ∈ gTbl := gL_of tl1_3 99 rfl (by decide +kernel)
set_option maxRecDepth 16384 in
theorem wd_236 : Jvm.Cond.fieldLink RX4 21 "RookHusting$Hundred" "frights" "[I" ∈ gTbl := gL_of tl1_1 112 rfl (by decide +kernel)
set_option maxRecDepth 16384 in
theorem wd_239 : Jvm.Cond.fieldLink RX4 24 "RookHusting$Hundred" "tires" "[I" ∈ gTbl := gL_of tl1_1 115 rfl (by decide +kernel)
set_option maxRecDepth 16384 in
theorem wd_225 : Jvm.Cond.fieldLink RX6 123 "RookHusting$Hundred" "voters" "I" ∈ gTbl := gL_of tl1_1 101 rfl (by decide +kernel)
set_option maxRecDepth 16384 in
theorem wd_221 : Jvm.Cond.fieldLink RX6 126 "RookHusting$Hundred" "men" "I" ∈ gTbl := gL_of tl1_1 97 rfl (by decide +kernel)
set_option maxRecDepth 16384 in
theorem wd_715 : Jvm.Cond.code yX4_addMan cX4_addMan 3 none ∈ gTbl := gL_of tl1_3 111 rfl (by decide +kernel)
set_option maxRecDepth 16384 in
theorem wd_712 : Jvm.Cond.methodLink RX6 133 yX4_addMan ∈ gTbl := gL_of tl1_3 108 rfl (by decide +kernel)
set_option maxRecDepth 16384 in
theorem wd_713 : Jvm.Cond.instanceMethod yX4_addMan ∈ gTbl := gL_of tl1_3 109 rfl (by decide +kernel)
set_option maxRecDepth 16384 in
theorem wd_714 : Jvm.Cond.selects RX4 yX4_addMan yX4_addMan ∈ gTbl := gL_of tl1_3 110 rfl (by decide +kernel)
set_option maxRecDepth 16384 in
theorem wd_242 : Jvm.Cond.fieldLink RX4 27 "RookHusting$Hundred" "hats" "[I" ∈ gTbl := gL_of tl1_1 118 rfl (by decide +kernel)
set_option maxRecDepth 16384 in
theorem wd_245 : Jvm.Cond.fieldLink RX4 30 "RookHusting$Hundred" "rowLength" "[I" ∈ gTbl := gL_of tl1_1 121 rfl (by decide +kernel)
set_option maxRecDepth 16384 in
theorem wd_249 : Jvm.Cond.fieldLink RX4 36 "RookHusting$Hundred" "ahead" "[I" ∈ gTbl := gL_of tl1_1 125 rfl (by decide +kernel)
set_option maxRecDepth 16384 in
theorem wd_247 : Jvm.Cond.fieldLink RX4 33 "RookHusting$Hundred" "rows" "[I" ∈ gTbl := gL_of tl1_1 123 rfl (by decide +kernel)
set_option maxRecDepth 16384 in
theorem wd_729 : Jvm.Cond.code yX4_addWant cX4_addWant 6 none ∈ gTbl := gL_of tl1_3 125 rfl (by decide +kernel)
set_option maxRecDepth 16384 in
theorem wd_726 : Jvm.Cond.methodLink RX6 141 yX4_addWant ∈ gTbl := gL_of tl1_3 122 rfl (by decide +kernel)
set_option maxRecDepth 16384 in
theorem wd_727 : Jvm.Cond.instanceMethod yX4_addWant ∈ gTbl := gL_of tl1_3 123 rfl (by decide +kernel)
set_option maxRecDepth 16384 in
theorem wd_728 : Jvm.Cond.selects RX4 yX4_addWant yX4_addWant ∈ gTbl := gL_of tl1_3 124 rfl (by decide +kernel)
set_option maxRecDepth 16384 in
theorem wd_725 : Jvm.Cond.code yX4_addVoter cX4_addVoter 3 none ∈ gTbl := gL_of tl1_3 121 rfl (by decide +kernel)
set_option maxRecDepth 16384 in
theorem wd_722 : Jvm.Cond.methodLink RX6 138 yX4_addVoter ∈ gTbl := gL_of tl1_3 118 rfl (by decide +kernel)
set_option maxRecDepth 16384 in
theorem wd_723 : Jvm.Cond.instanceMethod yX4_addVoter ∈ gTbl := gL_of tl1_3 119 rfl (by decide +kernel)
set_option maxRecDepth 16384 in
theorem wd_724 : Jvm.Cond.selects RX4 yX4_addVoter yX4_addVoter ∈ gTbl := gL_of tl1_3 120 rfl (by decide +kernel)
set_option maxRecDepth 16384 in
theorem wd_733 : Jvm.Cond.code yX6_takeSign cX6_takeSign 1 none ∈ gTbl := gL_of tl1_3 129 rfl (by decide +kernel)
set_option maxRecDepth 16384 in
theorem wd_730 : Jvm.Cond.methodLink RX6 74 yX6_takeSign ∈ gTbl := gL_of tl1_3 126 rfl (by decide +kernel)
set_option maxRecDepth 16384 in
theorem wd_732 : Jvm.Cond.instanceMethod yX6_takeSign ∈ gTbl := gL_of tl1_3 128 rfl (by decide +kernel)
theorem wd_9 : Jvm.Cond.selects RX6 yX6_takeSign yX6_takeSign ∈ gTbl := gT_of (i := 9) (by decide +kernel) (by decide +kernel)
set_option maxRecDepth 16384 in
theorem wd_720 : Jvm.Cond.code yX6_readVoter cX6_readVoter 5 none ∈ gTbl := gL_of tl1_3 116 rfl (by decide +kernel)
set_option maxRecDepth 16384 in
theorem wd_717 : Jvm.Cond.methodLink RX6 67 yX6_readVoter ∈ gTbl := gL_of tl1_3 113 rfl (by decide +kernel)
set_option maxRecDepth 16384 in
theorem wd_719 : Jvm.Cond.instanceMethod yX6_readVoter ∈ gTbl := gL_of tl1_3 115 rfl (by decide +kernel)
theorem wd_8 : Jvm.Cond.selects RX6 yX6_readVoter yX6_readVoter ∈ gTbl := gT_of (i := 8) (by decide +kernel) (by decide +kernel)
set_option maxRecDepth 16384 in
theorem wd_709 : Jvm.Cond.code yX6_readMan cX6_readMan 3 none ∈ gTbl := gL_of tl1_3 105 rfl (by decide +kernel)
set_option maxRecDepth 16384 in
theorem wd_706 : Jvm.Cond.methodLink RX6 62 yX6_readMan ∈ gTbl := gL_of tl1_3 102 rfl (by decide +kernel)
set_option maxRecDepth 16384 in
theorem wd_708 : Jvm.Cond.instanceMethod yX6_readMan ∈ gTbl := gL_of tl1_3 104 rfl (by decide +kernel)
theorem wd_7 : Jvm.Cond.selects RX6 yX6_readMan yX6_readMan ∈ gTbl := gT_of (i := 7) (by decide +kernel) (by decide +kernel)
set_option maxRecDepth 16384 in
theorem wd_700 : Jvm.Cond.code yX6_readHedge cX6_readHedge 3 none ∈ gTbl := gL_of tl1_3 96 rfl (by decide +kernel)
set_option maxRecDepth 16384 in
theorem wd_697 : Jvm.Cond.methodLink RX6 57 yX6_readHedge ∈ gTbl := gL_of tl1_3 93 rfl (by decide +kernel)
set_option maxRecDepth 16384 in
theorem wd_699 : Jvm.Cond.instanceMethod yX6_readHedge ∈ gTbl := gL_of tl1_3 95 rfl (by decide +kernel)
theorem wd_6 : Jvm.Cond.selects RX6 yX6_readHedge yX6_readHedge ∈ gTbl := gT_of (i := 6) (by decide +kernel) (by decide +kernel)
set_option maxRecDepth 16384 in
theorem wd_689 : Jvm.Cond.code yX6_readField cX6_readField 3 none ∈ gTbl := gL_of tl1_3 85 rfl (by decide +kernel)
set_option maxRecDepth 16384 in
theorem wd_686 : Jvm.Cond.methodLink RX6 52 yX6_readField ∈ gTbl := gL_of tl1_3 82 rfl (by decide +kernel)
set_option maxRecDepth 16384 in
theorem wd_688 : Jvm.Cond.instanceMethod yX6_readField ∈ gTbl := gL_of tl1_3 84 rfl (by decide +kernel)
theorem wd_5 : Jvm.Cond.selects RX6 yX6_readField yX6_readField ∈ gTbl := gT_of (i := 5) (by decide +kernel) (by decide +kernel)
set_option maxRecDepth 16384 in
theorem wd_608 : Jvm.Cond.code yX6_readHead cX6_readHead 1 none ∈ gTbl := gL_of tl1_3 4 rfl (by decide +kernel)
set_option maxRecDepth 16384 in
theorem wd_605 : Jvm.Cond.methodLink RX6 43 yX6_readHead ∈ gTbl := gL_of tl1_3 1 rfl (by decide +kernel)
set_option maxRecDepth 16384 in
theorem wd_607 : Jvm.Cond.instanceMethod yX6_readHead ∈ gTbl := gL_of tl1_3 3 rfl (by decide +kernel)
theorem wd_0 : Jvm.Cond.selects RX6 yX6_readHead yX6_readHead ∈ gTbl := gT_of (i := 0) (by decide +kernel) (by decide +kernel)
set_option maxRecDepth 16384 in
theorem wd_516 : Jvm.Cond.fieldLink RX11 448 "RookHusting" "settled" "Z" ∈ gTbl := gL_of tl1_2 152 rfl (by decide +kernel)
set_option maxRecDepth 16384 in
theorem wd_513 : Jvm.Cond.fieldLink RX11 81 "RookHusting" "search" "LRookHusting$PutSearch;" ∈ gTbl := gL_of tl1_2 149 rfl (by decide +kernel)
set_option maxRecDepth 16384 in
theorem wd_460 : Jvm.Cond.fieldLink RX11 452 "RookHusting$PutSearch" "known" "Z" ∈ gTbl := gL_of tl1_2 96 rfl (by decide +kernel)
set_option maxRecDepth 16384 in
theorem wd_517 : Jvm.Cond.fieldLink RX11 455 "RookHusting" "plainKnown" "Z" ∈ gTbl := gL_of tl1_2 153 rfl (by decide +kernel)
set_option maxRecDepth 16384 in
theorem wd_504 : Jvm.Cond.fieldLink RX11 21 "RookHusting" "reader" "LRookHusting$Reader;" ∈ gTbl := gL_of tl1_2 140 rfl (by decide +kernel)
set_option maxRecDepth 16384 in
theorem wd_291 : Jvm.Cond.fieldLink RX11 110 "RookHusting$Reader" "fault" "I" ∈ gTbl := gL_of tl1_1 167 rfl (by decide +kernel)
set_option maxRecDepth 16384 in
theorem wd_505 : Jvm.Cond.fieldLink RX11 28 "RookHusting" "state" "LRookHusting$State;" ∈ gTbl := gL_of tl1_2 141 rfl (by decide +kernel)
set_option maxRecDepth 16384 in
theorem wd_333 : Jvm.Cond.fieldLink RX11 45 "RookHusting$State" "told" "LRookHusting$Hundred;" ∈ gTbl := gL_of tl1_1 209 rfl (by decide +kernel)
set_option maxRecDepth 16384 in
theorem wd_289 : Jvm.Cond.fieldLink RX11 113 "RookHusting$Reader" "draft" "LRookHusting$Hundred;" ∈ gTbl := gL_of tl1_1 165 rfl (by decide +kernel)
set_option maxRecDepth 16384 in
theorem wd_335 : Jvm.Cond.fieldLink RX11 121 "RookHusting$State" "acts" "LRookHusting$Acts;" ∈ gTbl := gL_of tl1_1 211 rfl (by decide +kernel)
set_option maxRecDepth 16384 in
theorem wd_319 : Jvm.Cond.fieldLink RX11 125 "RookHusting$Acts" "size" "I" ∈ gTbl := gL_of tl1_1 195 rfl (by decide +kernel)
set_option maxRecDepth 16384 in
theorem wd_197 : Jvm.Cond.fieldLink RX11 133 "RookHusting$Hundred" "lines" "I" ∈ gTbl := gL_of tl1_1 73 rfl (by decide +kernel)
set_option maxRecDepth 16384 in
theorem wd_744 : Jvm.Cond.code yX11_forget cX11_forget 1 none ∈ gTbl := gL_of tl1_3 140 rfl (by decide +kernel)
set_option maxRecDepth 16384 in
theorem wd_741 : Jvm.Cond.methodLink RX11 130 yX11_forget ∈ gTbl := gL_of tl1_3 137 rfl (by decide +kernel)
set_option maxRecDepth 16384 in
theorem wd_743 : Jvm.Cond.instanceMethod yX11_forget ∈ gTbl := gL_of tl1_3 139 rfl (by decide +kernel)
theorem wd_10 : Jvm.Cond.selects RX11 yX11_forget yX11_forget ∈ gTbl := gT_of (i := 10) (by decide +kernel) (by decide +kernel)
set_option maxRecDepth 16384 in
theorem wd_737 : Jvm.Cond.code yX4_copyFrom cX4_copyFrom 2 none ∈ gTbl := gL_of tl1_3 133 rfl (by decide +kernel)
set_option maxRecDepth 16384 in
theorem wd_734 : Jvm.Cond.methodLink RX11 116 yX4_copyFrom ∈ gTbl := gL_of tl1_3 130 rfl (by decide +kernel)
set_option maxRecDepth 16384 in
theorem wd_735 : Jvm.Cond.instanceMethod yX4_copyFrom ∈ gTbl := gL_of tl1_3 131 rfl (by decide +kernel)
set_option maxRecDepth 16384 in
theorem wd_736 : Jvm.Cond.selects RX4 yX4_copyFrom yX4_copyFrom ∈ gTbl := gL_of tl1_3 132 rfl (by decide +kernel)
set_option maxRecDepth 16384 in
theorem wd_604 : Jvm.Cond.code yX6_readLine cX6_readLine 1 none ∈ gTbl := gL_of tl1_3 0 rfl (by decide +kernel)
set_option maxRecDepth 16384 in
theorem wd_601 : Jvm.Cond.methodLink RX11 107 yX6_readLine ∈ gTbl := gL_of tl1_2 237 rfl (by decide +kernel)
set_option maxRecDepth 16384 in
theorem wd_602 : Jvm.Cond.instanceMethod yX6_readLine ∈ gTbl := gL_of tl1_2 238 rfl (by decide +kernel)
set_option maxRecDepth 16384 in
theorem wd_603 : Jvm.Cond.selects RX6 yX6_readLine yX6_readLine ∈ gTbl := gL_of tl1_2 239 rfl (by decide +kernel)
set_option maxRecDepth 16384 in
theorem wd_600 : Jvm.Cond.code yX6_hasMore cX6_hasMore 1 (some .boolean) ∈ gTbl := gL_of tl1_2 236 rfl (by decide +kernel)
set_option maxRecDepth 16384 in
theorem wd_597 : Jvm.Cond.methodLink RX11 103 yX6_hasMore ∈ gTbl := gL_of tl1_2 233 rfl (by decide +kernel)
set_option maxRecDepth 16384 in
theorem wd_598 : Jvm.Cond.instanceMethod yX6_hasMore ∈ gTbl := gL_of tl1_2 234 rfl (by decide +kernel)
set_option maxRecDepth 16384 in
theorem wd_599 : Jvm.Cond.selects RX6 yX6_hasMore yX6_hasMore ∈ gTbl := gL_of tl1_2 235 rfl (by decide +kernel)
set_option maxRecDepth 16384 in
theorem wd_571 : Jvm.Cond.code yX6_begin cX6_begin 1 none ∈ gTbl := gL_of tl1_2 207 rfl (by decide +kernel)
set_option maxRecDepth 16384 in
theorem wd_568 : Jvm.Cond.methodLink RX11 100 yX6_begin ∈ gTbl := gL_of tl1_2 204 rfl (by decide +kernel)
set_option maxRecDepth 16384 in
theorem wd_569 : Jvm.Cond.instanceMethod yX6_begin ∈ gTbl := gL_of tl1_2 205 rfl (by decide +kernel)
set_option maxRecDepth 16384 in
theorem wd_570 : Jvm.Cond.selects RX6 yX6_begin yX6_begin ∈ gTbl := gL_of tl1_2 206 rfl (by decide +kernel)
set_option maxRecDepth 16384 in
theorem wd_1407 : Jvm.Cond.fieldLink RX12 116 "RookHustingModel" "size" "I" ∈ gTbl := gL_of tl1_6 83 rfl (by decide +kernel)
set_option maxRecDepth 16384 in
theorem wd_1411 : Jvm.Cond.fieldLink RX12 140 "RookHustingModel" "value" "I" ∈ gTbl := gL_of tl1_6 87 rfl (by decide +kernel)
set_option maxRecDepth 16384 in
theorem wd_1577 : Jvm.Cond.constant RX12 143 99999 ∈ gTbl := gL_of tl1_7 13 rfl (by decide +kernel)
set_option maxRecDepth 16384 in
theorem wd_1573 : Jvm.Cond.constantLong RX12 132 97 ∈ gTbl := gL_of tl1_7 9 rfl (by decide +kernel)
set_option maxRecDepth 16384 in
theorem wd_1574 : Jvm.Cond.constantLong RX12 134 122 ∈ gTbl := gL_of tl1_7 10 rfl (by decide +kernel)
set_option maxRecDepth 16384 in
theorem wd_1575 : Jvm.Cond.constantLong RX12 136 48 ∈ gTbl := gL_of tl1_7 11 rfl (by decide +kernel)
set_option maxRecDepth 16384 in
theorem wd_1576 : Jvm.Cond.constantLong RX12 138 57 ∈ gTbl := gL_of tl1_7 12 rfl (by decide +kernel)
set_option maxRecDepth 16384 in
theorem wd_1572 : Jvm.Cond.code yX12_see cX12_see 2 (some .int) ∈ gTbl := gL_of tl1_7 8 rfl (by decide +kernel)
set_option maxRecDepth 16384 in
theorem wd_1569 : Jvm.Cond.methodLink RX12 122 yX12_see ∈ gTbl := gL_of tl1_7 5 rfl (by decide +kernel)
set_option maxRecDepth 16384 in
theorem wd_1571 : Jvm.Cond.instanceMethod yX12_see ∈ gTbl := gL_of tl1_7 7 rfl (by decide +kernel)
theorem wd_52 : Jvm.Cond.selects RX12 yX12_see yX12_see ∈ gTbl := gT_of (i := 52) (by decide +kernel) (by decide +kernel)
set_option maxRecDepth 16384 in
theorem wd_1568 : Jvm.Cond.code yX12_advance cX12_advance 2 none ∈ gTbl := gL_of tl1_7 4 rfl (by decide +kernel)
set_option maxRecDepth 16384 in
theorem wd_1565 : Jvm.Cond.methodLink RX12 169 yX12_advance ∈ gTbl := gL_of tl1_7 1 rfl (by decide +kernel)
set_option maxRecDepth 16384 in
theorem wd_1567 : Jvm.Cond.instanceMethod yX12_advance ∈ gTbl := gL_of tl1_7 3 rfl (by decide +kernel)
theorem wd_51 : Jvm.Cond.selects RX12 yX12_advance yX12_advance ∈ gTbl := gT_of (i := 51) (by decide +kernel) (by decide +kernel)
set_option maxRecDepth 16384 in
theorem wd_1603 : Jvm.Cond.code yX12_is cX12_is 4 (some .boolean) ∈ gTbl := gL_of tl1_7 39 rfl (by decide +kernel)
set_option maxRecDepth 16384 in
theorem wd_1600 : Jvm.Cond.methodLink RX12 165 yX12_is ∈ gTbl := gL_of tl1_7 36 rfl (by decide +kernel)
set_option maxRecDepth 16384 in
theorem wd_1602 : Jvm.Cond.instanceMethod yX12_is ∈ gTbl := gL_of tl1_7 38 rfl (by decide +kernel)
theorem wd_58 : Jvm.Cond.selects RX12 yX12_is yX12_is ∈ gTbl := gT_of (i := 58) (by decide +kernel) (by decide +kernel)
set_option maxRecDepth 16384 in
theorem wd_1413 : Jvm.Cond.fieldLink RX12 27 "RookHustingModel" "faultPlace" "I" ∈ gTbl := gL_of tl1_6 89 rfl (by decide +kernel)
set_option maxRecDepth 16384 in
theorem wd_1609 : Jvm.Cond.code yX12_errs cX12_errs 2 none ∈ gTbl := gL_of tl1_7 45 rfl (by decide +kernel)
set_option maxRecDepth 16384 in
theorem wd_1606 : Jvm.Cond.methodLink RX12 175 yX12_errs ∈ gTbl := gL_of tl1_7 42 rfl (by decide +kernel)
set_option maxRecDepth 16384 in
theorem wd_1608 : Jvm.Cond.instanceMethod yX12_errs ∈ gTbl := gL_of tl1_7 44 rfl (by decide +kernel)
theorem wd_59 : Jvm.Cond.selects RX12 yX12_errs yX12_errs ∈ gTbl := gT_of (i := 59) (by decide +kernel) (by decide +kernel)
set_option maxRecDepth 16384 in
theorem wd_1599 : Jvm.Cond.code yX12_takes cX12_takes 3 (some .boolean) ∈ gTbl := gL_of tl1_7 35 rfl (by decide +kernel)
set_option maxRecDepth 16384 in
theorem wd_1596 : Jvm.Cond.methodLink RX12 172 yX12_takes ∈ gTbl := gL_of tl1_7 32 rfl (by decide +kernel)
set_option maxRecDepth 16384 in
theorem wd_1598 : Jvm.Cond.instanceMethod yX12_takes ∈ gTbl := gL_of tl1_7 34 rfl (by decide +kernel)
theorem wd_57 : Jvm.Cond.selects RX12 yX12_takes yX12_takes ∈ gTbl := gT_of (i := 57) (by decide +kernel) (by decide +kernel)
set_option maxRecDepth 16384 in
theorem wd_1618 : Jvm.Cond.code yX12_number cX12_number 4 (some .int) ∈ gTbl := gL_of tl1_7 54 rfl (by decide +kernel)
set_option maxRecDepth 16384 in
theorem wd_1615 : Jvm.Cond.methodLink RX12 183 yX12_number ∈ gTbl := gL_of tl1_7 51 rfl (by decide +kernel)
set_option maxRecDepth 16384 in
theorem wd_1617 : Jvm.Cond.instanceMethod yX12_number ∈ gTbl := gL_of tl1_7 53 rfl (by decide +kernel)
theorem wd_61 : Jvm.Cond.selects RX12 yX12_number yX12_number ∈ gTbl := gT_of (i := 61) (by decide +kernel) (by decide +kernel)
set_option maxRecDepth 16384 in
theorem wd_1595 : Jvm.Cond.code yX12_expects cX12_expects 2 none ∈ gTbl := gL_of tl1_7 31 rfl (by decide +kernel)
set_option maxRecDepth 16384 in
theorem wd_1592 : Jvm.Cond.methodLink RX12 179 yX12_expects ∈ gTbl := gL_of tl1_7 28 rfl (by decide +kernel)
set_option maxRecDepth 16384 in
theorem wd_1594 : Jvm.Cond.instanceMethod yX12_expects ∈ gTbl := gL_of tl1_7 30 rfl (by decide +kernel)
theorem wd_56 : Jvm.Cond.selects RX12 yX12_expects yX12_expects ∈ gTbl := gT_of (i := 56) (by decide +kernel) (by decide +kernel)
set_option maxRecDepth 16384 in
theorem wd_1414 : Jvm.Cond.fieldLink RX12 31 "RookHustingModel" "fresh" "[I" ∈ gTbl := gL_of tl1_6 90 rfl (by decide +kernel)
set_option maxRecDepth 16384 in
theorem wd_1614 : Jvm.Cond.code yX12_told cX12_told 4 (some .int) ∈ gTbl := gL_of tl1_7 50 rfl (by decide +kernel)
set_option maxRecDepth 16384 in
theorem wd_1611 : Jvm.Cond.methodLink RX12 189 yX12_told ∈ gTbl := gL_of tl1_7 47 rfl (by decide +kernel)
set_option maxRecDepth 16384 in
theorem wd_1613 : Jvm.Cond.instanceMethod yX12_told ∈ gTbl := gL_of tl1_7 49 rfl (by decide +kernel)
theorem wd_60 : Jvm.Cond.selects RX12 yX12_told yX12_told ∈ gTbl := gT_of (i := 60) (by decide +kernel) (by decide +kernel)
set_option maxRecDepth 16384 in
theorem wd_1590 : Jvm.Cond.code yX12_readFirst cX12_readFirst 1 none ∈ gTbl := gL_of tl1_7 26 rfl (by decide +kernel)
set_option maxRecDepth 16384 in
theorem wd_1587 : Jvm.Cond.methodLink RX12 227 yX12_readFirst ∈ gTbl := gL_of tl1_7 23 rfl (by decide +kernel)
set_option maxRecDepth 16384 in
theorem wd_1589 : Jvm.Cond.instanceMethod yX12_readFirst ∈ gTbl := gL_of tl1_7 25 rfl (by decide +kernel)
theorem wd_55 : Jvm.Cond.selects RX12 yX12_readFirst yX12_readFirst ∈ gTbl := gT_of (i := 55) (by decide +kernel) (by decide +kernel)
set_option maxRecDepth 16384 in
theorem wd_1648 : Jvm.Cond.code yX12_bit cX12_bit 2 (some .int) ∈ gTbl := gL_of tl1_7 84 rfl (by decide +kernel)
set_option maxRecDepth 16384 in
theorem wd_1646 : Jvm.Cond.methodLink RX12 199 yX12_bit ∈ gTbl := gL_of tl1_7 82 rfl (by decide +kernel)
set_option maxRecDepth 16384 in
theorem wd_1647 : Jvm.Cond.static yX12_bit ∈ gTbl := gL_of tl1_7 83 rfl (by decide +kernel)
set_option maxRecDepth 16384 in
theorem wd_1632 : Jvm.Cond.code yX12_isFull cX12_isFull 1 (some .boolean) ∈ gTbl := gL_of tl1_7 68 rfl (by decide +kernel)
set_option maxRecDepth 16384 in
theorem wd_1629 : Jvm.Cond.methodLink RX12 210 yX12_isFull ∈ gTbl := gL_of tl1_7 65 rfl (by decide +kernel)
set_option maxRecDepth 16384 in
theorem wd_1631 : Jvm.Cond.instanceMethod yX12_isFull ∈ gTbl := gL_of tl1_7 67 rfl (by decide +kernel)
theorem wd_63 : Jvm.Cond.selects RX12 yX12_isFull yX12_isFull ∈ gTbl := gT_of (i := 63) (by decide +kernel) (by decide +kernel)
set_option maxRecDepth 16384 in
theorem wd_1644 : Jvm.Cond.code yX12_readVoter cX12_readVoter 4 none ∈ gTbl := gL_of tl1_7 80 rfl (by decide +kernel)
set_option maxRecDepth 16384 in
theorem wd_1641 : Jvm.Cond.methodLink RX12 224 yX12_readVoter ∈ gTbl := gL_of tl1_7 77 rfl (by decide +kernel)
set_option maxRecDepth 16384 in
theorem wd_1643 : Jvm.Cond.instanceMethod yX12_readVoter ∈ gTbl := gL_of tl1_7 79 rfl (by decide +kernel)
theorem wd_65 : Jvm.Cond.selects RX12 yX12_readVoter yX12_readVoter ∈ gTbl := gT_of (i := 65) (by decide +kernel) (by decide +kernel)
set_option maxRecDepth 16384 in
theorem wd_1638 : Jvm.Cond.code yX12_readHedge cX12_readHedge 2 none ∈ gTbl := gL_of tl1_7 74 rfl (by decide +kernel)
set_option maxRecDepth 16384 in
theorem wd_1635 : Jvm.Cond.methodLink RX12 217 yX12_readHedge ∈ gTbl := gL_of tl1_7 71 rfl (by decide +kernel)
set_option maxRecDepth 16384 in
theorem wd_1637 : Jvm.Cond.instanceMethod yX12_readHedge ∈ gTbl := gL_of tl1_7 73 rfl (by decide +kernel)
theorem wd_64 : Jvm.Cond.selects RX12 yX12_readHedge yX12_readHedge ∈ gTbl := gT_of (i := 64) (by decide +kernel) (by decide +kernel)
set_option maxRecDepth 16384 in
theorem wd_1624 : Jvm.Cond.code yX12_readNext cX12_readNext 3 none ∈ gTbl := gL_of tl1_7 60 rfl (by decide +kernel)
set_option maxRecDepth 16384 in
theorem wd_1621 : Jvm.Cond.methodLink RX12 230 yX12_readNext ∈ gTbl := gL_of tl1_7 57 rfl (by decide +kernel)
set_option maxRecDepth 16384 in
theorem wd_1623 : Jvm.Cond.instanceMethod yX12_readNext ∈ gTbl := gL_of tl1_7 59 rfl (by decide +kernel)
theorem wd_62 : Jvm.Cond.selects RX12 yX12_readNext yX12_readNext ∈ gTbl := gT_of (i := 62) (by decide +kernel) (by decide +kernel)
set_option maxRecDepth 16384 in
theorem wd_1401 : Jvm.Cond.fieldLink RX12 9 "RookHustingModel" "world" "[I" ∈ gTbl := gL_of tl1_6 77 rfl (by decide +kernel)
set_option maxRecDepth 16384 in
theorem wd_1586 : Jvm.Cond.code yX12_readLine cX12_readLine 1 none ∈ gTbl := gL_of tl1_7 22 rfl (by decide +kernel)
set_option maxRecDepth 16384 in
theorem wd_1583 : Jvm.Cond.methodLink RX12 233 yX12_readLine ∈ gTbl := gL_of tl1_7 19 rfl (by decide +kernel)
set_option maxRecDepth 16384 in
theorem wd_1585 : Jvm.Cond.instanceMethod yX12_readLine ∈ gTbl := gL_of tl1_7 21 rfl (by decide +kernel)
theorem wd_54 : Jvm.Cond.selects RX12 yX12_readLine yX12_readLine ∈ gTbl := gT_of (i := 54) (by decide +kernel) (by decide +kernel)
set_option maxRecDepth 16384 in
theorem wd_293 : Jvm.Cond.fieldLink RX11 136 "RookHusting$Reader" "place" "I" ∈ gTbl := gL_of tl1_1 169 rfl (by decide +kernel)
set_option maxRecDepth 16384 in
theorem wd_214 : Jvm.Cond.fieldLink RX11 291 "RookHusting$Hundred" "fields" "I" ∈ gTbl := gL_of tl1_1 90 rfl (by decide +kernel)
set_option maxRecDepth 16384 in
theorem wd_229 : Jvm.Cond.fieldLink RX11 146 "RookHusting$Hundred" "corn" "[I" ∈ gTbl := gL_of tl1_1 105 rfl (by decide +kernel)
set_option maxRecDepth 16384 in
theorem wd_232 : Jvm.Cond.fieldLink RX11 150 "RookHusting$Hundred" "rooks" "[I" ∈ gTbl := gL_of tl1_1 108 rfl (by decide +kernel)
set_option maxRecDepth 16384 in
theorem wd_759 : Jvm.Cond.code yX11_isPair cX11_isPair 1 (some .boolean) ∈ gTbl := gL_of tl1_3 155 rfl (by decide +kernel)
set_option maxRecDepth 16384 in
theorem wd_757 : Jvm.Cond.methodLink RX11 143 yX11_isPair ∈ gTbl := gL_of tl1_3 153 rfl (by decide +kernel)
set_option maxRecDepth 16384 in
theorem wd_758 : Jvm.Cond.static yX11_isPair ∈ gTbl := gL_of tl1_3 154 rfl (by decide +kernel)
set_option maxRecDepth 16384 in
theorem wd_756 : Jvm.Cond.code yX11_isField cX11_isField 2 (some .boolean) ∈ gTbl := gL_of tl1_3 152 rfl (by decide +kernel)
set_option maxRecDepth 16384 in
theorem wd_753 : Jvm.Cond.methodLink RX11 139 yX11_isField ∈ gTbl := gL_of tl1_3 149 rfl (by decide +kernel)
set_option maxRecDepth 16384 in
theorem wd_755 : Jvm.Cond.instanceMethod yX11_isField ∈ gTbl := gL_of tl1_3 151 rfl (by decide +kernel)
theorem wd_11 : Jvm.Cond.selects RX11 yX11_isField yX11_isField ∈ gTbl := gT_of (i := 11) (by decide +kernel) (by decide +kernel)
set_option maxRecDepth 16384 in
theorem wd_1660 : Jvm.Cond.code yX12_fields cX12_fields 1 (some .int) ∈ gTbl := gL_of tl1_7 96 rfl (by decide +kernel)
set_option maxRecDepth 16384 in
theorem wd_1657 : Jvm.Cond.methodLink RX12 106 yX12_fields ∈ gTbl := gL_of tl1_7 93 rfl (by decide +kernel)
set_option maxRecDepth 16384 in
theorem wd_1659 : Jvm.Cond.instanceMethod yX12_fields ∈ gTbl := gL_of tl1_7 95 rfl (by decide +kernel)
theorem wd_67 : Jvm.Cond.selects RX12 yX12_fields yX12_fields ∈ gTbl := gT_of (i := 67) (by decide +kernel) (by decide +kernel)
set_option maxRecDepth 16384 in
theorem wd_1656 : Jvm.Cond.code yX12_isField cX12_isField 3 (some .boolean) ∈ gTbl := gL_of tl1_7 92 rfl (by decide +kernel)
set_option maxRecDepth 16384 in
theorem wd_1653 : Jvm.Cond.methodLink RX12 109 yX12_isField ∈ gTbl := gL_of tl1_7 89 rfl (by decide +kernel)
set_option maxRecDepth 16384 in
theorem wd_1655 : Jvm.Cond.instanceMethod yX12_isField ∈ gTbl := gL_of tl1_7 91 rfl (by decide +kernel)
theorem wd_66 : Jvm.Cond.selects RX12 yX12_isField yX12_isField ∈ gTbl := gT_of (i := 66) (by decide +kernel) (by decide +kernel)
set_option maxRecDepth 16384 in
theorem wd_235 : Jvm.Cond.fieldLink RX11 153 "RookHusting$Hundred" "joined" "[I" ∈ gTbl := gL_of tl1_1 111 rfl (by decide +kernel)
set_option maxRecDepth 16384 in
theorem wd_1423 : Jvm.Cond.fieldLink RX12 329 "RookHustingModel" "moreOne" "I" ∈ gTbl := gL_of tl1_6 99 rfl (by decide +kernel)
set_option maxRecDepth 16384 in
theorem wd_1424 : Jvm.Cond.fieldLink RX12 332 "RookHustingModel" "moreOther" "I" ∈ gTbl := gL_of tl1_6 100 rfl (by decide +kernel)
set_option maxRecDepth 16384 in
theorem wd_1865 : Jvm.Cond.code yX12_hedgesOf cX12_hedgesOf 6 (some .int) ∈ gTbl := gL_of tl1_8 61 rfl (by decide +kernel)
set_option maxRecDepth 16384 in
theorem wd_1862 : Jvm.Cond.methodLink RX12 348 yX12_hedgesOf ∈ gTbl := gL_of tl1_8 58 rfl (by decide +kernel)
set_option maxRecDepth 16384 in
theorem wd_1864 : Jvm.Cond.instanceMethod yX12_hedgesOf ∈ gTbl := gL_of tl1_8 60 rfl (by decide +kernel)
theorem wd_93 : Jvm.Cond.selects RX12 yX12_hedgesOf yX12_hedgesOf ∈ gTbl := gT_of (i := 93) (by decide +kernel) (by decide +kernel)
set_option maxRecDepth 16384 in
theorem wd_222 : Jvm.Cond.fieldLink RX11 303 "RookHusting$Hundred" "men" "I" ∈ gTbl := gL_of tl1_1 98 rfl (by decide +kernel)
set_option maxRecDepth 16384 in
theorem wd_238 : Jvm.Cond.fieldLink RX11 159 "RookHusting$Hundred" "frights" "[I" ∈ gTbl := gL_of tl1_1 114 rfl (by decide +kernel)
set_option maxRecDepth 16384 in
theorem wd_241 : Jvm.Cond.fieldLink RX11 162 "RookHusting$Hundred" "tires" "[I" ∈ gTbl := gL_of tl1_1 117 rfl (by decide +kernel)
set_option maxRecDepth 16384 in
theorem wd_771 : Jvm.Cond.code yX11_isMan cX11_isMan 2 (some .boolean) ∈ gTbl := gL_of tl1_3 167 rfl (by decide +kernel)
set_option maxRecDepth 16384 in
theorem wd_768 : Jvm.Cond.methodLink RX11 156 yX11_isMan ∈ gTbl := gL_of tl1_3 164 rfl (by decide +kernel)
set_option maxRecDepth 16384 in
theorem wd_770 : Jvm.Cond.instanceMethod yX11_isMan ∈ gTbl := gL_of tl1_3 166 rfl (by decide +kernel)
theorem wd_12 : Jvm.Cond.selects RX11 yX11_isMan yX11_isMan ∈ gTbl := gT_of (i := 12) (by decide +kernel) (by decide +kernel)
set_option maxRecDepth 16384 in
theorem wd_1672 : Jvm.Cond.code yX12_men cX12_men 1 (some .int) ∈ gTbl := gL_of tl1_7 108 rfl (by decide +kernel)
set_option maxRecDepth 16384 in
theorem wd_1669 : Jvm.Cond.methodLink RX12 95 yX12_men ∈ gTbl := gL_of tl1_7 105 rfl (by decide +kernel)
set_option maxRecDepth 16384 in
theorem wd_1671 : Jvm.Cond.instanceMethod yX12_men ∈ gTbl := gL_of tl1_7 107 rfl (by decide +kernel)
theorem wd_69 : Jvm.Cond.selects RX12 yX12_men yX12_men ∈ gTbl := gT_of (i := 69) (by decide +kernel) (by decide +kernel)
set_option maxRecDepth 16384 in
theorem wd_1668 : Jvm.Cond.code yX12_isMan cX12_isMan 2 (some .boolean) ∈ gTbl := gL_of tl1_7 104 rfl (by decide +kernel)
set_option maxRecDepth 16384 in
theorem wd_1665 : Jvm.Cond.methodLink RX12 236 yX12_isMan ∈ gTbl := gL_of tl1_7 101 rfl (by decide +kernel)
set_option maxRecDepth 16384 in
theorem wd_1667 : Jvm.Cond.instanceMethod yX12_isMan ∈ gTbl := gL_of tl1_7 103 rfl (by decide +kernel)
theorem wd_68 : Jvm.Cond.selects RX12 yX12_isMan yX12_isMan ∈ gTbl := gT_of (i := 68) (by decide +kernel) (by decide +kernel)
set_option maxRecDepth 16384 in
theorem wd_226 : Jvm.Cond.fieldLink RX11 244 "RookHusting$Hundred" "voters" "I" ∈ gTbl := gL_of tl1_1 102 rfl (by decide +kernel)
set_option maxRecDepth 16384 in
theorem wd_244 : Jvm.Cond.fieldLink RX11 168 "RookHusting$Hundred" "hats" "[I" ∈ gTbl := gL_of tl1_1 120 rfl (by decide +kernel)
set_option maxRecDepth 16384 in
theorem wd_779 : Jvm.Cond.code yX11_isVoter cX11_isVoter 2 (some .boolean) ∈ gTbl := gL_of tl1_3 175 rfl (by decide +kernel)
set_option maxRecDepth 16384 in
theorem wd_776 : Jvm.Cond.methodLink RX11 165 yX11_isVoter ∈ gTbl := gL_of tl1_3 172 rfl (by decide +kernel)
set_option maxRecDepth 16384 in
theorem wd_778 : Jvm.Cond.instanceMethod yX11_isVoter ∈ gTbl := gL_of tl1_3 174 rfl (by decide +kernel)
theorem wd_13 : Jvm.Cond.selects RX11 yX11_isVoter yX11_isVoter ∈ gTbl := gT_of (i := 13) (by decide +kernel) (by decide +kernel)
set_option maxRecDepth 16384 in
theorem wd_1684 : Jvm.Cond.code yX12_hatsOf cX12_hatsOf 2 (some .int) ∈ gTbl := gL_of tl1_7 120 rfl (by decide +kernel)
set_option maxRecDepth 16384 in
theorem wd_1681 : Jvm.Cond.methodLink RX12 243 yX12_hatsOf ∈ gTbl := gL_of tl1_7 117 rfl (by decide +kernel)
set_option maxRecDepth 16384 in
theorem wd_1683 : Jvm.Cond.instanceMethod yX12_hatsOf ∈ gTbl := gL_of tl1_7 119 rfl (by decide +kernel)
theorem wd_71 : Jvm.Cond.selects RX12 yX12_hatsOf yX12_hatsOf ∈ gTbl := gT_of (i := 71) (by decide +kernel) (by decide +kernel)
set_option maxRecDepth 16384 in
theorem wd_1680 : Jvm.Cond.code yX12_isVoter cX12_isVoter 2 (some .boolean) ∈ gTbl := gL_of tl1_7 116 rfl (by decide +kernel)
set_option maxRecDepth 16384 in
theorem wd_1677 : Jvm.Cond.methodLink RX12 240 yX12_isVoter ∈ gTbl := gL_of tl1_7 113 rfl (by decide +kernel)
set_option maxRecDepth 16384 in
theorem wd_1679 : Jvm.Cond.instanceMethod yX12_isVoter ∈ gTbl := gL_of tl1_7 115 rfl (by decide +kernel)
theorem wd_70 : Jvm.Cond.selects RX12 yX12_isVoter yX12_isVoter ∈ gTbl := gT_of (i := 70) (by decide +kernel) (by decide +kernel)
set_option maxRecDepth 16384 in
theorem wd_246 : Jvm.Cond.fieldLink RX11 171 "RookHusting$Hundred" "rowLength" "[I" ∈ gTbl := gL_of tl1_1 122 rfl (by decide +kernel)
set_option maxRecDepth 16384 in
theorem wd_248 : Jvm.Cond.fieldLink RX11 174 "RookHusting$Hundred" "rows" "[I" ∈ gTbl := gL_of tl1_1 124 rfl (by decide +kernel)
set_option maxRecDepth 16384 in
theorem wd_1417 : Jvm.Cond.fieldLink RX12 246 "RookHustingModel" "awaySet" "I" ∈ gTbl := gL_of tl1_6 93 rfl (by decide +kernel)
set_option maxRecDepth 16384 in
theorem wd_1416 : Jvm.Cond.fieldLink RX12 37 "RookHustingModel" "longOf" "[I" ∈ gTbl := gL_of tl1_6 92 rfl (by decide +kernel)
set_option maxRecDepth 16384 in
theorem wd_1415 : Jvm.Cond.fieldLink RX12 34 "RookHustingModel" "rowOf" "[I" ∈ gTbl := gL_of tl1_6 91 rfl (by decide +kernel)
set_option maxRecDepth 16384 in
theorem wd_1692 : Jvm.Cond.code yX12_rowsAsTold cX12_rowsAsTold 3 none ∈ gTbl := gL_of tl1_7 128 rfl (by decide +kernel)
set_option maxRecDepth 16384 in
theorem wd_1689 : Jvm.Cond.methodLink RX12 249 yX12_rowsAsTold ∈ gTbl := gL_of tl1_7 125 rfl (by decide +kernel)
set_option maxRecDepth 16384 in
theorem wd_1691 : Jvm.Cond.instanceMethod yX12_rowsAsTold ∈ gTbl := gL_of tl1_7 127 rfl (by decide +kernel)
theorem wd_72 : Jvm.Cond.selects RX12 yX12_rowsAsTold yX12_rowsAsTold ∈ gTbl := gT_of (i := 72) (by decide +kernel) (by decide +kernel)
set_option maxRecDepth 16384 in
theorem wd_795 : Jvm.Cond.code yX11_isTold cX11_isTold 1 (some .boolean) ∈ gTbl := gL_of tl1_3 191 rfl (by decide +kernel)
set_option maxRecDepth 16384 in
theorem wd_792 : Jvm.Cond.methodLink RX11 219 yX11_isTold ∈ gTbl := gL_of tl1_3 188 rfl (by decide +kernel)
set_option maxRecDepth 16384 in
theorem wd_794 : Jvm.Cond.instanceMethod yX11_isTold ∈ gTbl := gL_of tl1_3 190 rfl (by decide +kernel)
theorem wd_15 : Jvm.Cond.selects RX11 yX11_isTold yX11_isTold ∈ gTbl := gT_of (i := 15) (by decide +kernel) (by decide +kernel)
set_option maxRecDepth 16384 in
theorem wd_807 : Jvm.Cond.constant RJ6 265 1431655765 ∈ gTbl := gL_of tl1_3 203 rfl (by decide +kernel)
set_option maxRecDepth 16384 in
theorem wd_808 : Jvm.Cond.constant RJ6 266 858993459 ∈ gTbl := gL_of tl1_3 204 rfl (by decide +kernel)
set_option maxRecDepth 16384 in
theorem wd_809 : Jvm.Cond.constant RJ6 267 252645135 ∈ gTbl := gL_of tl1_3 205 rfl (by decide +kernel)
set_option maxRecDepth 16384 in
theorem wd_368 : Jvm.Cond.fieldLink RX1 15 "RookHusting$Election" "told" "LRookHusting$Hundred;" ∈ gTbl := gL_of tl1_2 4 rfl (by decide +kernel)
set_option maxRecDepth 16384 in
theorem wd_223 : Jvm.Cond.fieldLink RX1 25 "RookHusting$Hundred" "voters" "I" ∈ gTbl := gL_of tl1_1 99 rfl (by decide +kernel)
set_option maxRecDepth 16384 in
theorem wd_243 : Jvm.Cond.fieldLink RX1 31 "RookHusting$Hundred" "hats" "[I" ∈ gTbl := gL_of tl1_1 119 rfl (by decide +kernel)
set_option maxRecDepth 16384 in
theorem wd_806 : Jvm.Cond.code yJ6_bitCount_0f7a4 cJ6_bitCount_0f7a4 1 (some .int) ∈ gTbl := gL_of tl1_3 202 rfl (by decide +kernel)
set_option maxRecDepth 16384 in
theorem wd_144 : Jvm.Cond.initialized RJ6 ∈ gTbl := gL_of tl1_1 20 rfl (by decide +kernel)
set_option maxRecDepth 16384 in
theorem wd_804 : Jvm.Cond.methodLink RX1 19 yJ6_bitCount_0f7a4 ∈ gTbl := gL_of tl1_3 200 rfl (by decide +kernel)
set_option maxRecDepth 16384 in
theorem wd_805 : Jvm.Cond.static yJ6_bitCount_0f7a4 ∈ gTbl := gL_of tl1_3 201 rfl (by decide +kernel)
set_option maxRecDepth 16384 in
theorem wd_508 : Jvm.Cond.fieldLink RX11 52 "RookHusting" "election" "LRookHusting$Election;" ∈ gTbl := gL_of tl1_2 144 rfl (by decide +kernel)
set_option maxRecDepth 16384 in
theorem wd_251 : Jvm.Cond.fieldLink RX11 187 "RookHusting$Hundred" "ahead" "[I" ∈ gTbl := gL_of tl1_1 127 rfl (by decide +kernel)
set_option maxRecDepth 16384 in
theorem wd_803 : Jvm.Cond.code yX1_hatsFor cX1_hatsFor 13 (some .int) ∈ gTbl := gL_of tl1_3 199 rfl (by decide +kernel)
set_option maxRecDepth 16384 in
theorem wd_132 : Jvm.Cond.initialized RX1 ∈ gTbl := gL_of tl1_1 8 rfl (by decide +kernel)
set_option maxRecDepth 16384 in
theorem wd_800 : Jvm.Cond.methodLink RX11 190 yX1_hatsFor ∈ gTbl := gL_of tl1_3 196 rfl (by decide +kernel)
set_option maxRecDepth 16384 in
theorem wd_801 : Jvm.Cond.instanceMethod yX1_hatsFor ∈ gTbl := gL_of tl1_3 197 rfl (by decide +kernel)
set_option maxRecDepth 16384 in
theorem wd_802 : Jvm.Cond.selects RX1 yX1_hatsFor yX1_hatsFor ∈ gTbl := gL_of tl1_3 198 rfl (by decide +kernel)
set_option maxRecDepth 16384 in
theorem wd_799 : Jvm.Cond.methodLink RX11 183 yX11_hasBit ∈ gTbl := gL_of tl1_3 195 rfl (by decide +kernel)
set_option maxRecDepth 16384 in
theorem wd_798 : Jvm.Cond.code yX11_isLaw cX11_isLaw 1 (some .boolean) ∈ gTbl := gL_of tl1_3 194 rfl (by decide +kernel)
set_option maxRecDepth 16384 in
theorem wd_796 : Jvm.Cond.methodLink RX11 180 yX11_isLaw ∈ gTbl := gL_of tl1_3 192 rfl (by decide +kernel)
set_option maxRecDepth 16384 in
theorem wd_797 : Jvm.Cond.static yX11_isLaw ∈ gTbl := gL_of tl1_3 193 rfl (by decide +kernel)
set_option maxRecDepth 16384 in
theorem wd_791 : Jvm.Cond.code yX11_isSet cX11_isSet 2 (some .boolean) ∈ gTbl := gL_of tl1_3 187 rfl (by decide +kernel)
set_option maxRecDepth 16384 in
theorem wd_788 : Jvm.Cond.methodLink RX11 177 yX11_isSet ∈ gTbl := gL_of tl1_3 184 rfl (by decide +kernel)
set_option maxRecDepth 16384 in
theorem wd_790 : Jvm.Cond.instanceMethod yX11_isSet ∈ gTbl := gL_of tl1_3 186 rfl (by decide +kernel)
theorem wd_14 : Jvm.Cond.selects RX11 yX11_isSet yX11_isSet ∈ gTbl := gT_of (i := 14) (by decide +kernel) (by decide +kernel)
set_option maxRecDepth 16384 in
theorem wd_1708 : Jvm.Cond.code yX12_allMen cX12_allMen 1 (some .int) ∈ gTbl := gL_of tl1_7 144 rfl (by decide +kernel)
set_option maxRecDepth 16384 in
theorem wd_1705 : Jvm.Cond.methodLink RX12 269 yX12_allMen ∈ gTbl := gL_of tl1_7 141 rfl (by decide +kernel)
set_option maxRecDepth 16384 in
theorem wd_1707 : Jvm.Cond.instanceMethod yX12_allMen ∈ gTbl := gL_of tl1_7 143 rfl (by decide +kernel)
theorem wd_75 : Jvm.Cond.selects RX12 yX12_allMen yX12_allMen ∈ gTbl := gT_of (i := 75) (by decide +kernel) (by decide +kernel)
set_option maxRecDepth 16384 in
theorem wd_1704 : Jvm.Cond.code yX12_isHundred cX12_isHundred 1 (some .boolean) ∈ gTbl := gL_of tl1_7 140 rfl (by decide +kernel)
set_option maxRecDepth 16384 in
theorem wd_1701 : Jvm.Cond.methodLink RX12 99 yX12_isHundred ∈ gTbl := gL_of tl1_7 137 rfl (by decide +kernel)
set_option maxRecDepth 16384 in
theorem wd_1703 : Jvm.Cond.instanceMethod yX12_isHundred ∈ gTbl := gL_of tl1_7 139 rfl (by decide +kernel)
theorem wd_74 : Jvm.Cond.selects RX12 yX12_isHundred yX12_isHundred ∈ gTbl := gT_of (i := 74) (by decide +kernel) (by decide +kernel)
set_option maxRecDepth 16384 in
theorem wd_1720 : Jvm.Cond.code yX12_bits cX12_bits 3 (some .int) ∈ gTbl := gL_of tl1_7 156 rfl (by decide +kernel)
set_option maxRecDepth 16384 in
theorem wd_1718 : Jvm.Cond.methodLink RX12 252 yX12_bits ∈ gTbl := gL_of tl1_7 154 rfl (by decide +kernel)
set_option maxRecDepth 16384 in
theorem wd_1719 : Jvm.Cond.static yX12_bits ∈ gTbl := gL_of tl1_7 155 rfl (by decide +kernel)
set_option maxRecDepth 16384 in
theorem wd_1717 : Jvm.Cond.code yX12_timesOf cX12_timesOf 8 (some .int) ∈ gTbl := gL_of tl1_7 153 rfl (by decide +kernel)
set_option maxRecDepth 16384 in
theorem wd_1714 : Jvm.Cond.methodLink RX12 255 yX12_timesOf ∈ gTbl := gL_of tl1_7 150 rfl (by decide +kernel)
set_option maxRecDepth 16384 in
theorem wd_1716 : Jvm.Cond.instanceMethod yX12_timesOf ∈ gTbl := gL_of tl1_7 152 rfl (by decide +kernel)
theorem wd_77 : Jvm.Cond.selects RX12 yX12_timesOf yX12_timesOf ∈ gTbl := gT_of (i := 77) (by decide +kernel) (by decide +kernel)
set_option maxRecDepth 16384 in
theorem wd_1709 : Jvm.Cond.constantLong RX12 275 3 ∈ gTbl := gL_of tl1_7 145 rfl (by decide +kernel)
set_option maxRecDepth 16384 in
theorem wd_1713 : Jvm.Cond.code yX12_votesOf cX12_votesOf 6 (some .int) ∈ gTbl := gL_of tl1_7 149 rfl (by decide +kernel)
set_option maxRecDepth 16384 in
theorem wd_1710 : Jvm.Cond.methodLink RX12 259 yX12_votesOf ∈ gTbl := gL_of tl1_7 146 rfl (by decide +kernel)
set_option maxRecDepth 16384 in
theorem wd_1712 : Jvm.Cond.instanceMethod yX12_votesOf ∈ gTbl := gL_of tl1_7 148 rfl (by decide +kernel)
theorem wd_76 : Jvm.Cond.selects RX12 yX12_votesOf yX12_votesOf ∈ gTbl := gT_of (i := 76) (by decide +kernel) (by decide +kernel)
set_option maxRecDepth 16384 in
theorem wd_1700 : Jvm.Cond.code yX12_isSet cX12_isSet 2 (some .boolean) ∈ gTbl := gL_of tl1_7 136 rfl (by decide +kernel)
set_option maxRecDepth 16384 in
theorem wd_1697 : Jvm.Cond.methodLink RX12 272 yX12_isSet ∈ gTbl := gL_of tl1_7 133 rfl (by decide +kernel)
set_option maxRecDepth 16384 in
theorem wd_1699 : Jvm.Cond.instanceMethod yX12_isSet ∈ gTbl := gL_of tl1_7 135 rfl (by decide +kernel)
theorem wd_73 : Jvm.Cond.selects RX12 yX12_isSet yX12_isSet ∈ gTbl := gT_of (i := 73) (by decide +kernel) (by decide +kernel)
set_option maxRecDepth 16384 in
theorem wd_220 : Jvm.Cond.fieldLink RX1 42 "RookHusting$Hundred" "men" "I" ∈ gTbl := gL_of tl1_1 96 rfl (by decide +kernel)
set_option maxRecDepth 16384 in
theorem wd_824 : Jvm.Cond.methodLink RX1 49 yX1_hatsFor ∈ gTbl := gL_of tl1_3 220 rfl (by decide +kernel)
set_option maxRecDepth 16384 in
theorem wd_822 : Jvm.Cond.constant RX1 53 1000000 ∈ gTbl := gL_of tl1_3 218 rfl (by decide +kernel)
set_option maxRecDepth 16384 in
theorem wd_828 : Jvm.Cond.code yX1_firstOfMost cX1_firstOfMost 9 (some .int) ∈ gTbl := gL_of tl1_3 224 rfl (by decide +kernel)
set_option maxRecDepth 16384 in
theorem wd_825 : Jvm.Cond.methodLink RX1 38 yX1_firstOfMost ∈ gTbl := gL_of tl1_3 221 rfl (by decide +kernel)
set_option maxRecDepth 16384 in
theorem wd_827 : Jvm.Cond.instanceMethod yX1_firstOfMost ∈ gTbl := gL_of tl1_3 223 rfl (by decide +kernel)
theorem wd_17 : Jvm.Cond.selects RX1 yX1_firstOfMost yX1_firstOfMost ∈ gTbl := gT_of (i := 17) (by decide +kernel) (by decide +kernel)
set_option maxRecDepth 16384 in
theorem wd_821 : Jvm.Cond.code yX1_lastOfFewest cX1_lastOfFewest 8 (some .int) ∈ gTbl := gL_of tl1_3 217 rfl (by decide +kernel)
set_option maxRecDepth 16384 in
theorem wd_818 : Jvm.Cond.methodLink RX1 34 yX1_lastOfFewest ∈ gTbl := gL_of tl1_3 214 rfl (by decide +kernel)
set_option maxRecDepth 16384 in
theorem wd_820 : Jvm.Cond.instanceMethod yX1_lastOfFewest ∈ gTbl := gL_of tl1_3 216 rfl (by decide +kernel)
theorem wd_16 : Jvm.Cond.selects RX1 yX1_lastOfFewest yX1_lastOfFewest ∈ gTbl := gT_of (i := 16) (by decide +kernel) (by decide +kernel)
set_option maxRecDepth 16384 in
theorem wd_817 : Jvm.Cond.code yX1_winner cX1_winner 7 (some .int) ∈ gTbl := gL_of tl1_3 213 rfl (by decide +kernel)
set_option maxRecDepth 16384 in
theorem wd_814 : Jvm.Cond.methodLink RX11 194 yX1_winner ∈ gTbl := gL_of tl1_3 210 rfl (by decide +kernel)
set_option maxRecDepth 16384 in
theorem wd_815 : Jvm.Cond.instanceMethod yX1_winner ∈ gTbl := gL_of tl1_3 211 rfl (by decide +kernel)
set_option maxRecDepth 16384 in
theorem wd_816 : Jvm.Cond.selects RX1 yX1_winner yX1_winner ∈ gTbl := gL_of tl1_3 212 rfl (by decide +kernel)
set_option maxRecDepth 16384 in
theorem wd_1736 : Jvm.Cond.code yX12_mostOf cX12_mostOf 5 (some .int) ∈ gTbl := gL_of tl1_7 172 rfl (by decide +kernel)
set_option maxRecDepth 16384 in
theorem wd_1733 : Jvm.Cond.methodLink RX12 266 yX12_mostOf ∈ gTbl := gL_of tl1_7 169 rfl (by decide +kernel)
set_option maxRecDepth 16384 in
theorem wd_1735 : Jvm.Cond.instanceMethod yX12_mostOf ∈ gTbl := gL_of tl1_7 171 rfl (by decide +kernel)
theorem wd_80 : Jvm.Cond.selects RX12 yX12_mostOf yX12_mostOf ∈ gTbl := gT_of (i := 80) (by decide +kernel) (by decide +kernel)
set_option maxRecDepth 16384 in
theorem wd_1732 : Jvm.Cond.code yX12_fewestOf cX12_fewestOf 4 (some .int) ∈ gTbl := gL_of tl1_7 168 rfl (by decide +kernel)
set_option maxRecDepth 16384 in
theorem wd_1729 : Jvm.Cond.methodLink RX12 263 yX12_fewestOf ∈ gTbl := gL_of tl1_7 165 rfl (by decide +kernel)
set_option maxRecDepth 16384 in
theorem wd_1731 : Jvm.Cond.instanceMethod yX12_fewestOf ∈ gTbl := gL_of tl1_7 167 rfl (by decide +kernel)
theorem wd_79 : Jvm.Cond.selects RX12 yX12_fewestOf yX12_fewestOf ∈ gTbl := gT_of (i := 79) (by decide +kernel) (by decide +kernel)
set_option maxRecDepth 16384 in
theorem wd_1728 : Jvm.Cond.code yX12_electsOf cX12_electsOf 4 (some .int) ∈ gTbl := gL_of tl1_7 164 rfl (by decide +kernel)
set_option maxRecDepth 16384 in
theorem wd_1725 : Jvm.Cond.methodLink RX12 277 yX12_electsOf ∈ gTbl := gL_of tl1_7 161 rfl (by decide +kernel)
set_option maxRecDepth 16384 in
theorem wd_1727 : Jvm.Cond.instanceMethod yX12_electsOf ∈ gTbl := gL_of tl1_7 163 rfl (by decide +kernel)
theorem wd_78 : Jvm.Cond.selects RX12 yX12_electsOf yX12_electsOf ∈ gTbl := gT_of (i := 78) (by decide +kernel) (by decide +kernel)
set_option maxRecDepth 16384 in
theorem wd_213 : Jvm.Cond.fieldLink RX1 67 "RookHusting$Hundred" "fields" "I" ∈ gTbl := gL_of tl1_1 89 rfl (by decide +kernel)
set_option maxRecDepth 16384 in
theorem wd_250 : Jvm.Cond.fieldLink RX1 54 "RookHusting$Hundred" "ahead" "[I" ∈ gTbl := gL_of tl1_1 126 rfl (by decide +kernel)
set_option maxRecDepth 16384 in
theorem wd_841 : Jvm.Cond.methodLink RX1 64 yX1_winner ∈ gTbl := gL_of tl1_3 237 rfl (by decide +kernel)
set_option maxRecDepth 16384 in
theorem wd_840 : Jvm.Cond.code yX1_allMen cX1_allMen 1 (some .int) ∈ gTbl := gL_of tl1_3 236 rfl (by decide +kernel)
set_option maxRecDepth 16384 in
theorem wd_837 : Jvm.Cond.methodLink RX1 57 yX1_allMen ∈ gTbl := gL_of tl1_3 233 rfl (by decide +kernel)
set_option maxRecDepth 16384 in
theorem wd_839 : Jvm.Cond.instanceMethod yX1_allMen ∈ gTbl := gL_of tl1_3 235 rfl (by decide +kernel)
theorem wd_18 : Jvm.Cond.selects RX1 yX1_allMen yX1_allMen ∈ gTbl := gT_of (i := 18) (by decide +kernel) (by decide +kernel)
set_option maxRecDepth 16384 in
theorem wd_510 : Jvm.Cond.fieldLink RX11 63 "RookHusting" "trial" "LRookHusting$Scene;" ∈ gTbl := gL_of tl1_2 146 rfl (by decide +kernel)
set_option maxRecDepth 16384 in
theorem wd_384 : Jvm.Cond.fieldLink RX11 198 "RookHusting$Scene" "standing" "[I" ∈ gTbl := gL_of tl1_2 20 rfl (by decide +kernel)
set_option maxRecDepth 16384 in
theorem wd_205 : Jvm.Cond.fieldLink RX11 201 "RookHusting$Hundred" "law" "I" ∈ gTbl := gL_of tl1_1 81 rfl (by decide +kernel)
set_option maxRecDepth 16384 in
theorem wd_836 : Jvm.Cond.code yX1_fillFields cX1_fillFields 6 none ∈ gTbl := gL_of tl1_3 232 rfl (by decide +kernel)
set_option maxRecDepth 16384 in
theorem wd_833 : Jvm.Cond.methodLink RX11 204 yX1_fillFields ∈ gTbl := gL_of tl1_3 229 rfl (by decide +kernel)
set_option maxRecDepth 16384 in
theorem wd_834 : Jvm.Cond.instanceMethod yX1_fillFields ∈ gTbl := gL_of tl1_3 230 rfl (by decide +kernel)
set_option maxRecDepth 16384 in
theorem wd_835 : Jvm.Cond.selects RX1 yX1_fillFields yX1_fillFields ∈ gTbl := gL_of tl1_3 231 rfl (by decide +kernel)
set_option maxRecDepth 16384 in
theorem wd_1418 : Jvm.Cond.fieldLink RX12 40 "RookHustingModel" "electedIn" "[I" ∈ gTbl := gL_of tl1_6 94 rfl (by decide +kernel)
set_option maxRecDepth 16384 in
theorem wd_1744 : Jvm.Cond.code yX12_electAll cX12_electAll 4 none ∈ gTbl := gL_of tl1_7 180 rfl (by decide +kernel)
set_option maxRecDepth 16384 in
theorem wd_1741 : Jvm.Cond.methodLink RX12 280 yX12_electAll ∈ gTbl := gL_of tl1_7 177 rfl (by decide +kernel)
set_option maxRecDepth 16384 in
theorem wd_1743 : Jvm.Cond.instanceMethod yX12_electAll ∈ gTbl := gL_of tl1_7 179 rfl (by decide +kernel)
theorem wd_81 : Jvm.Cond.selects RX12 yX12_electAll yX12_electAll ∈ gTbl := gT_of (i := 81) (by decide +kernel) (by decide +kernel)
set_option maxRecDepth 16384 in
theorem wd_381 : Jvm.Cond.fieldLink RX7 9 "RookHusting$Scene" "standing" "[I" ∈ gTbl := gL_of tl1_2 17 rfl (by decide +kernel)
set_option maxRecDepth 16384 in
theorem wd_385 : Jvm.Cond.fieldLink RX7 15 "RookHusting$Scene" "speeches" "[I" ∈ gTbl := gL_of tl1_2 21 rfl (by decide +kernel)
set_option maxRecDepth 16384 in
theorem wd_234 : Jvm.Cond.fieldLink RX7 21 "RookHusting$Hundred" "joined" "[I" ∈ gTbl := gL_of tl1_1 110 rfl (by decide +kernel)
set_option maxRecDepth 16384 in
theorem wd_389 : Jvm.Cond.fieldLink RX7 18 "RookHusting$Scene" "joined" "[I" ∈ gTbl := gL_of tl1_2 25 rfl (by decide +kernel)
set_option maxRecDepth 16384 in
theorem wd_392 : Jvm.Cond.fieldLink RX7 30 "RookHusting$Scene" "wind" "I" ∈ gTbl := gL_of tl1_2 28 rfl (by decide +kernel)
set_option maxRecDepth 16384 in
theorem wd_866 : Jvm.Cond.code yX7_placeOf cX7_placeOf 3 (some .int) ∈ gTbl := gL_of tl1_4 22 rfl (by decide +kernel)
set_option maxRecDepth 16384 in
theorem wd_133 : Jvm.Cond.initialized RX7 ∈ gTbl := gL_of tl1_1 9 rfl (by decide +kernel)
set_option maxRecDepth 16384 in
theorem wd_863 : Jvm.Cond.methodLink RX7 34 yX7_placeOf ∈ gTbl := gL_of tl1_4 19 rfl (by decide +kernel)
set_option maxRecDepth 16384 in
theorem wd_864 : Jvm.Cond.instanceMethod yX7_placeOf ∈ gTbl := gL_of tl1_4 20 rfl (by decide +kernel)
set_option maxRecDepth 16384 in
theorem wd_865 : Jvm.Cond.selects RX7 yX7_placeOf yX7_placeOf ∈ gTbl := gL_of tl1_4 21 rfl (by decide +kernel)
set_option maxRecDepth 16384 in
theorem wd_318 : Jvm.Cond.fieldLink RX0 21 "RookHusting$Acts" "size" "I" ∈ gTbl := gL_of tl1_1 194 rfl (by decide +kernel)
set_option maxRecDepth 16384 in
theorem wd_320 : Jvm.Cond.fieldLink RX0 9 "RookHusting$Acts" "kinds" "[I" ∈ gTbl := gL_of tl1_1 196 rfl (by decide +kernel)
set_option maxRecDepth 16384 in
theorem wd_387 : Jvm.Cond.fieldLink RX0 25 "RookHusting$Scene" "speeches" "[I" ∈ gTbl := gL_of tl1_2 23 rfl (by decide +kernel)
set_option maxRecDepth 16384 in
theorem wd_321 : Jvm.Cond.fieldLink RX0 15 "RookHusting$Acts" "fields" "[I" ∈ gTbl := gL_of tl1_1 197 rfl (by decide +kernel)
set_option maxRecDepth 16384 in
theorem wd_322 : Jvm.Cond.fieldLink RX0 18 "RookHusting$Acts" "values" "[I" ∈ gTbl := gL_of tl1_1 198 rfl (by decide +kernel)
set_option maxRecDepth 16384 in
theorem wd_862 : Jvm.Cond.code yX7_placeMan cX7_placeMan 4 none ∈ gTbl := gL_of tl1_4 18 rfl (by decide +kernel)
set_option maxRecDepth 16384 in
theorem wd_859 : Jvm.Cond.methodLink RX0 30 yX7_placeMan ∈ gTbl := gL_of tl1_4 15 rfl (by decide +kernel)
set_option maxRecDepth 16384 in
theorem wd_860 : Jvm.Cond.instanceMethod yX7_placeMan ∈ gTbl := gL_of tl1_4 16 rfl (by decide +kernel)
set_option maxRecDepth 16384 in
theorem wd_861 : Jvm.Cond.selects RX7 yX7_placeMan yX7_placeMan ∈ gTbl := gL_of tl1_4 17 rfl (by decide +kernel)
set_option maxRecDepth 16384 in
theorem wd_424 : Jvm.Cond.fieldLink RX3 39 "RookHusting$Harvest" "fields" "I" ∈ gTbl := gL_of tl1_2 60 rfl (by decide +kernel)
set_option maxRecDepth 16384 in
theorem wd_410 : Jvm.Cond.fieldLink RX3 9 "RookHusting$Harvest" "fear" "[I" ∈ gTbl := gL_of tl1_2 46 rfl (by decide +kernel)
set_option maxRecDepth 16384 in
theorem wd_386 : Jvm.Cond.fieldLink RX3 66 "RookHusting$Scene" "speeches" "[I" ∈ gTbl := gL_of tl1_2 22 rfl (by decide +kernel)
set_option maxRecDepth 16384 in
theorem wd_423 : Jvm.Cond.fieldLink RX3 30 "RookHusting$Harvest" "since" "[I" ∈ gTbl := gL_of tl1_2 59 rfl (by decide +kernel)
set_option maxRecDepth 16384 in
theorem wd_383 : Jvm.Cond.fieldLink RX3 69 "RookHusting$Scene" "standing" "[I" ∈ gTbl := gL_of tl1_2 19 rfl (by decide +kernel)
set_option maxRecDepth 16384 in
theorem wd_237 : Jvm.Cond.fieldLink RX3 72 "RookHusting$Hundred" "frights" "[I" ∈ gTbl := gL_of tl1_1 113 rfl (by decide +kernel)
set_option maxRecDepth 16384 in
theorem wd_240 : Jvm.Cond.fieldLink RX3 75 "RookHusting$Hundred" "tires" "[I" ∈ gTbl := gL_of tl1_1 116 rfl (by decide +kernel)
set_option maxRecDepth 16384 in
theorem wd_412 : Jvm.Cond.fieldLink RX3 15 "RookHusting$Harvest" "rooks" "[I" ∈ gTbl := gL_of tl1_2 48 rfl (by decide +kernel)
set_option maxRecDepth 16384 in
theorem wd_414 : Jvm.Cond.fieldLink RX3 18 "RookHusting$Harvest" "corn" "[I" ∈ gTbl := gL_of tl1_2 50 rfl (by decide +kernel)
set_option maxRecDepth 16384 in
theorem wd_417 : Jvm.Cond.fieldLink RX3 21 "RookHusting$Harvest" "eaten" "[I" ∈ gTbl := gL_of tl1_2 53 rfl (by decide +kernel)
set_option maxRecDepth 16384 in
theorem wd_419 : Jvm.Cond.fieldLink RX3 24 "RookHusting$Harvest" "flown" "[I" ∈ gTbl := gL_of tl1_2 55 rfl (by decide +kernel)
set_option maxRecDepth 16384 in
theorem wd_421 : Jvm.Cond.fieldLink RX3 27 "RookHusting$Harvest" "goal" "[I" ∈ gTbl := gL_of tl1_2 57 rfl (by decide +kernel)
set_option maxRecDepth 16384 in
theorem wd_390 : Jvm.Cond.fieldLink RX3 87 "RookHusting$Scene" "joined" "[I" ∈ gTbl := gL_of tl1_2 26 rfl (by decide +kernel)
set_option maxRecDepth 16384 in
theorem wd_891 : Jvm.Cond.code yX3_leastFeared cX3_leastFeared 5 (some .int) ∈ gTbl := gL_of tl1_4 47 rfl (by decide +kernel)
set_option maxRecDepth 16384 in
theorem wd_134 : Jvm.Cond.initialized RX3 ∈ gTbl := gL_of tl1_1 10 rfl (by decide +kernel)
set_option maxRecDepth 16384 in
theorem wd_888 : Jvm.Cond.methodLink RX3 90 yX3_leastFeared ∈ gTbl := gL_of tl1_4 44 rfl (by decide +kernel)
set_option maxRecDepth 16384 in
theorem wd_890 : Jvm.Cond.instanceMethod yX3_leastFeared ∈ gTbl := gL_of tl1_4 46 rfl (by decide +kernel)
theorem wd_23 : Jvm.Cond.selects RX3 yX3_leastFeared yX3_leastFeared ∈ gTbl := gT_of (i := 23) (by decide +kernel) (by decide +kernel)
set_option maxRecDepth 16384 in
theorem wd_209 : Jvm.Cond.fieldLink RX3 33 "RookHusting$Hundred" "fields" "I" ∈ gTbl := gL_of tl1_1 85 rfl (by decide +kernel)
set_option maxRecDepth 16384 in
theorem wd_425 : Jvm.Cond.fieldLink RX3 40 "RookHusting$Harvest" "lastDay" "I" ∈ gTbl := gL_of tl1_2 61 rfl (by decide +kernel)
set_option maxRecDepth 16384 in
theorem wd_231 : Jvm.Cond.fieldLink RX3 43 "RookHusting$Hundred" "rooks" "[I" ∈ gTbl := gL_of tl1_1 107 rfl (by decide +kernel)
set_option maxRecDepth 16384 in
theorem wd_228 : Jvm.Cond.fieldLink RX3 44 "RookHusting$Hundred" "corn" "[I" ∈ gTbl := gL_of tl1_1 104 rfl (by decide +kernel)
set_option maxRecDepth 16384 in
theorem wd_393 : Jvm.Cond.fieldLink RX3 53 "RookHusting$Scene" "wind" "I" ∈ gTbl := gL_of tl1_2 29 rfl (by decide +kernel)
set_option maxRecDepth 16384 in
theorem wd_874 : Jvm.Cond.code yX3_frighten cX3_frighten 8 none ∈ gTbl := gL_of tl1_4 30 rfl (by decide +kernel)
set_option maxRecDepth 16384 in
theorem wd_871 : Jvm.Cond.methodLink RX3 45 yX3_frighten ∈ gTbl := gL_of tl1_4 27 rfl (by decide +kernel)
set_option maxRecDepth 16384 in
theorem wd_873 : Jvm.Cond.instanceMethod yX3_frighten ∈ gTbl := gL_of tl1_4 29 rfl (by decide +kernel)
theorem wd_20 : Jvm.Cond.selects RX3 yX3_frighten yX3_frighten ∈ gTbl := gT_of (i := 20) (by decide +kernel) (by decide +kernel)
set_option maxRecDepth 16384 in
theorem wd_886 : Jvm.Cond.code yX3_eatAndFly cX3_eatAndFly 7 none ∈ gTbl := gL_of tl1_4 42 rfl (by decide +kernel)
set_option maxRecDepth 16384 in
theorem wd_883 : Jvm.Cond.methodLink RX3 62 yX3_eatAndFly ∈ gTbl := gL_of tl1_4 39 rfl (by decide +kernel)
set_option maxRecDepth 16384 in
theorem wd_885 : Jvm.Cond.instanceMethod yX3_eatAndFly ∈ gTbl := gL_of tl1_4 41 rfl (by decide +kernel)
theorem wd_22 : Jvm.Cond.selects RX3 yX3_eatAndFly yX3_eatAndFly ∈ gTbl := gT_of (i := 22) (by decide +kernel) (by decide +kernel)
set_option maxRecDepth 16384 in
theorem wd_882 : Jvm.Cond.code yX3_beginNextDay cX3_beginNextDay 4 none ∈ gTbl := gL_of tl1_4 38 rfl (by decide +kernel)
set_option maxRecDepth 16384 in
theorem wd_879 : Jvm.Cond.methodLink RX3 49 yX3_beginNextDay ∈ gTbl := gL_of tl1_4 35 rfl (by decide +kernel)
set_option maxRecDepth 16384 in
theorem wd_881 : Jvm.Cond.instanceMethod yX3_beginNextDay ∈ gTbl := gL_of tl1_4 37 rfl (by decide +kernel)
theorem wd_21 : Jvm.Cond.selects RX3 yX3_beginNextDay yX3_beginNextDay ∈ gTbl := gT_of (i := 21) (by decide +kernel) (by decide +kernel)
set_option maxRecDepth 16384 in
theorem wd_509 : Jvm.Cond.fieldLink RX11 59 "RookHusting" "now" "LRookHusting$Scene;" ∈ gTbl := gL_of tl1_2 145 rfl (by decide +kernel)
set_option maxRecDepth 16384 in
theorem wd_511 : Jvm.Cond.fieldLink RX11 69 "RookHusting" "harvest" "LRookHusting$Harvest;" ∈ gTbl := gL_of tl1_2 147 rfl (by decide +kernel)
set_option maxRecDepth 16384 in
theorem wd_201 : Jvm.Cond.fieldLink RX11 297 "RookHusting$Hundred" "days" "I" ∈ gTbl := gL_of tl1_1 77 rfl (by decide +kernel)
set_option maxRecDepth 16384 in
theorem wd_870 : Jvm.Cond.code yX3_passDays cX3_passDays 5 none ∈ gTbl := gL_of tl1_4 26 rfl (by decide +kernel)
set_option maxRecDepth 16384 in
theorem wd_867 : Jvm.Cond.methodLink RX11 372 yX3_passDays ∈ gTbl := gL_of tl1_4 23 rfl (by decide +kernel)
set_option maxRecDepth 16384 in
theorem wd_868 : Jvm.Cond.instanceMethod yX3_passDays ∈ gTbl := gL_of tl1_4 24 rfl (by decide +kernel)
set_option maxRecDepth 16384 in
theorem wd_869 : Jvm.Cond.selects RX3 yX3_passDays yX3_passDays ∈ gTbl := gL_of tl1_4 25 rfl (by decide +kernel)
set_option maxRecDepth 16384 in
theorem wd_858 : Jvm.Cond.code yX0_playOn cX0_playOn 4 none ∈ gTbl := gL_of tl1_4 14 rfl (by decide +kernel)
set_option maxRecDepth 16384 in
theorem wd_130 : Jvm.Cond.initialized RX0 ∈ gTbl := gL_of tl1_1 6 rfl (by decide +kernel)
set_option maxRecDepth 16384 in
theorem wd_855 : Jvm.Cond.methodLink RX11 460 yX0_playOn ∈ gTbl := gL_of tl1_4 11 rfl (by decide +kernel)
set_option maxRecDepth 16384 in
theorem wd_856 : Jvm.Cond.instanceMethod yX0_playOn ∈ gTbl := gL_of tl1_4 12 rfl (by decide +kernel)
set_option maxRecDepth 16384 in
theorem wd_857 : Jvm.Cond.selects RX0 yX0_playOn yX0_playOn ∈ gTbl := gL_of tl1_4 13 rfl (by decide +kernel)
set_option maxRecDepth 16384 in
theorem wd_853 : Jvm.Cond.code yX7_begin cX7_begin 3 none ∈ gTbl := gL_of tl1_4 9 rfl (by decide +kernel)
set_option maxRecDepth 16384 in
theorem wd_850 : Jvm.Cond.methodLink RX11 458 yX7_begin ∈ gTbl := gL_of tl1_4 6 rfl (by decide +kernel)
set_option maxRecDepth 16384 in
theorem wd_851 : Jvm.Cond.instanceMethod yX7_begin ∈ gTbl := gL_of tl1_4 7 rfl (by decide +kernel)
set_option maxRecDepth 16384 in
theorem wd_852 : Jvm.Cond.selects RX7 yX7_begin yX7_begin ∈ gTbl := gL_of tl1_4 8 rfl (by decide +kernel)
set_option maxRecDepth 16384 in
theorem wd_849 : Jvm.Cond.code yX11_settle cX11_settle 1 none ∈ gTbl := gL_of tl1_4 5 rfl (by decide +kernel)
set_option maxRecDepth 16384 in
theorem wd_846 : Jvm.Cond.methodLink RX11 208 yX11_settle ∈ gTbl := gL_of tl1_4 2 rfl (by decide +kernel)
set_option maxRecDepth 16384 in
theorem wd_848 : Jvm.Cond.instanceMethod yX11_settle ∈ gTbl := gL_of tl1_4 4 rfl (by decide +kernel)
theorem wd_19 : Jvm.Cond.selects RX11 yX11_settle yX11_settle ∈ gTbl := gT_of (i := 19) (by decide +kernel) (by decide +kernel)
set_option maxRecDepth 16384 in
theorem wd_1420 : Jvm.Cond.fieldLink RX12 46 "RookHustingModel" "spokeOn" "[I" ∈ gTbl := gL_of tl1_6 96 rfl (by decide +kernel)
set_option maxRecDepth 16384 in
theorem wd_1421 : Jvm.Cond.fieldLink RX12 323 "RookHustingModel" "windSet" "I" ∈ gTbl := gL_of tl1_6 97 rfl (by decide +kernel)
set_option maxRecDepth 16384 in
theorem wd_1422 : Jvm.Cond.fieldLink RX12 326 "RookHustingModel" "alwaysSet" "I" ∈ gTbl := gL_of tl1_6 98 rfl (by decide +kernel)
set_option maxRecDepth 16384 in
theorem wd_1419 : Jvm.Cond.fieldLink RX12 43 "RookHustingModel" "standsIn" "[I" ∈ gTbl := gL_of tl1_6 95 rfl (by decide +kernel)
set_option maxRecDepth 16384 in
theorem wd_1845 : Jvm.Cond.code yX12_speeches cX12_speeches 3 none ∈ gTbl := gL_of tl1_8 41 rfl (by decide +kernel)
set_option maxRecDepth 16384 in
theorem wd_1842 : Jvm.Cond.methodLink RX12 335 yX12_speeches ∈ gTbl := gL_of tl1_8 38 rfl (by decide +kernel)
set_option maxRecDepth 16384 in
theorem wd_1844 : Jvm.Cond.instanceMethod yX12_speeches ∈ gTbl := gL_of tl1_8 40 rfl (by decide +kernel)
theorem wd_91 : Jvm.Cond.selects RX12 yX12_speeches yX12_speeches ∈ gTbl := gT_of (i := 91) (by decide +kernel) (by decide +kernel)
set_option maxRecDepth 16384 in
theorem wd_1849 : Jvm.Cond.code yX12_putMan cX12_putMan 4 none ∈ gTbl := gL_of tl1_8 45 rfl (by decide +kernel)
set_option maxRecDepth 16384 in
theorem wd_1846 : Jvm.Cond.methodLink RX12 341 yX12_putMan ∈ gTbl := gL_of tl1_8 42 rfl (by decide +kernel)
set_option maxRecDepth 16384 in
theorem wd_1848 : Jvm.Cond.instanceMethod yX12_putMan ∈ gTbl := gL_of tl1_8 44 rfl (by decide +kernel)
theorem wd_92 : Jvm.Cond.selects RX12 yX12_putMan yX12_putMan ∈ gTbl := gT_of (i := 92) (by decide +kernel) (by decide +kernel)
set_option maxRecDepth 16384 in
theorem wd_1841 : Jvm.Cond.code yX12_asElected cX12_asElected 3 none ∈ gTbl := gL_of tl1_8 37 rfl (by decide +kernel)
set_option maxRecDepth 16384 in
theorem wd_1838 : Jvm.Cond.methodLink RX12 338 yX12_asElected ∈ gTbl := gL_of tl1_8 34 rfl (by decide +kernel)
set_option maxRecDepth 16384 in
theorem wd_1840 : Jvm.Cond.instanceMethod yX12_asElected ∈ gTbl := gL_of tl1_8 36 rfl (by decide +kernel)
theorem wd_90 : Jvm.Cond.selects RX12 yX12_asElected yX12_asElected ∈ gTbl := gT_of (i := 90) (by decide +kernel) (by decide +kernel)
set_option maxRecDepth 16384 in
theorem wd_1837 : Jvm.Cond.code yX12_asItIs cX12_asItIs 3 none ∈ gTbl := gL_of tl1_8 33 rfl (by decide +kernel)
set_option maxRecDepth 16384 in
theorem wd_1834 : Jvm.Cond.methodLink RX12 345 yX12_asItIs ∈ gTbl := gL_of tl1_8 30 rfl (by decide +kernel)
set_option maxRecDepth 16384 in
theorem wd_1836 : Jvm.Cond.instanceMethod yX12_asItIs ∈ gTbl := gL_of tl1_8 32 rfl (by decide +kernel)
theorem wd_89 : Jvm.Cond.selects RX12 yX12_asItIs yX12_asItIs ∈ gTbl := gT_of (i := 89) (by decide +kernel) (by decide +kernel)
set_option maxRecDepth 16384 in
theorem wd_896 : Jvm.Cond.methodLink RX11 211 yX7_placeOf ∈ gTbl := gL_of tl1_4 52 rfl (by decide +kernel)
set_option maxRecDepth 16384 in
theorem wd_908 : Jvm.Cond.code yX1_isWantedMore cX1_isWantedMore 5 (some .boolean) ∈ gTbl := gL_of tl1_4 64 rfl (by decide +kernel)
set_option maxRecDepth 16384 in
theorem wd_905 : Jvm.Cond.methodLink RX1 70 yX1_isWantedMore ∈ gTbl := gL_of tl1_4 61 rfl (by decide +kernel)
set_option maxRecDepth 16384 in
theorem wd_907 : Jvm.Cond.instanceMethod yX1_isWantedMore ∈ gTbl := gL_of tl1_4 63 rfl (by decide +kernel)
theorem wd_24 : Jvm.Cond.selects RX1 yX1_isWantedMore yX1_isWantedMore ∈ gTbl := gT_of (i := 24) (by decide +kernel) (by decide +kernel)
set_option maxRecDepth 16384 in
theorem wd_904 : Jvm.Cond.code yX1_hatsOver cX1_hatsOver 5 (some .int) ∈ gTbl := gL_of tl1_4 60 rfl (by decide +kernel)
set_option maxRecDepth 16384 in
theorem wd_901 : Jvm.Cond.methodLink RX11 215 yX1_hatsOver ∈ gTbl := gL_of tl1_4 57 rfl (by decide +kernel)
set_option maxRecDepth 16384 in
theorem wd_902 : Jvm.Cond.instanceMethod yX1_hatsOver ∈ gTbl := gL_of tl1_4 58 rfl (by decide +kernel)
set_option maxRecDepth 16384 in
theorem wd_903 : Jvm.Cond.selects RX1 yX1_hatsOver yX1_hatsOver ∈ gTbl := gL_of tl1_4 59 rfl (by decide +kernel)
set_option maxRecDepth 16384 in
theorem wd_1756 : Jvm.Cond.code yX12_wantsMore cX12_wantsMore 6 (some .boolean) ∈ gTbl := gL_of tl1_7 192 rfl (by decide +kernel)
set_option maxRecDepth 16384 in
theorem wd_1753 : Jvm.Cond.methodLink RX12 283 yX12_wantsMore ∈ gTbl := gL_of tl1_7 189 rfl (by decide +kernel)
set_option maxRecDepth 16384 in
theorem wd_1755 : Jvm.Cond.instanceMethod yX12_wantsMore ∈ gTbl := gL_of tl1_7 191 rfl (by decide +kernel)
theorem wd_83 : Jvm.Cond.selects RX12 yX12_wantsMore yX12_wantsMore ∈ gTbl := gT_of (i := 83) (by decide +kernel) (by decide +kernel)
set_option maxRecDepth 16384 in
theorem wd_1752 : Jvm.Cond.code yX12_overOf cX12_overOf 5 (some .int) ∈ gTbl := gL_of tl1_7 188 rfl (by decide +kernel)
set_option maxRecDepth 16384 in
theorem wd_1749 : Jvm.Cond.methodLink RX12 287 yX12_overOf ∈ gTbl := gL_of tl1_7 185 rfl (by decide +kernel)
set_option maxRecDepth 16384 in
theorem wd_1751 : Jvm.Cond.instanceMethod yX12_overOf ∈ gTbl := gL_of tl1_7 187 rfl (by decide +kernel)
theorem wd_82 : Jvm.Cond.selects RX12 yX12_overOf yX12_overOf ∈ gTbl := gT_of (i := 82) (by decide +kernel) (by decide +kernel)
set_option maxRecDepth 16384 in
theorem wd_921 : Jvm.Cond.methodLink RX1 74 yX1_hatsOver ∈ gTbl := gL_of tl1_4 77 rfl (by decide +kernel)
set_option maxRecDepth 16384 in
theorem wd_920 : Jvm.Cond.code yX1_isOver cX1_isOver 3 (some .boolean) ∈ gTbl := gL_of tl1_4 76 rfl (by decide +kernel)
set_option maxRecDepth 16384 in
theorem wd_917 : Jvm.Cond.methodLink RX1 78 yX1_isOver ∈ gTbl := gL_of tl1_4 73 rfl (by decide +kernel)
set_option maxRecDepth 16384 in
theorem wd_919 : Jvm.Cond.instanceMethod yX1_isOver ∈ gTbl := gL_of tl1_4 75 rfl (by decide +kernel)
theorem wd_25 : Jvm.Cond.selects RX1 yX1_isOver yX1_isOver ∈ gTbl := gT_of (i := 25) (by decide +kernel) (by decide +kernel)
set_option maxRecDepth 16384 in
theorem wd_916 : Jvm.Cond.code yX1_manOverAll cX1_manOverAll 4 (some .int) ∈ gTbl := gL_of tl1_4 72 rfl (by decide +kernel)
set_option maxRecDepth 16384 in
theorem wd_913 : Jvm.Cond.methodLink RX11 222 yX1_manOverAll ∈ gTbl := gL_of tl1_4 69 rfl (by decide +kernel)
set_option maxRecDepth 16384 in
theorem wd_914 : Jvm.Cond.instanceMethod yX1_manOverAll ∈ gTbl := gL_of tl1_4 70 rfl (by decide +kernel)
set_option maxRecDepth 16384 in
theorem wd_915 : Jvm.Cond.selects RX1 yX1_manOverAll yX1_manOverAll ∈ gTbl := gL_of tl1_4 71 rfl (by decide +kernel)
set_option maxRecDepth 16384 in
theorem wd_1764 : Jvm.Cond.code yX12_isOver cX12_isOver 3 (some .boolean) ∈ gTbl := gL_of tl1_7 200 rfl (by decide +kernel)
set_option maxRecDepth 16384 in
theorem wd_1761 : Jvm.Cond.methodLink RX12 290 yX12_isOver ∈ gTbl := gL_of tl1_7 197 rfl (by decide +kernel)
set_option maxRecDepth 16384 in
theorem wd_1763 : Jvm.Cond.instanceMethod yX12_isOver ∈ gTbl := gL_of tl1_7 199 rfl (by decide +kernel)
theorem wd_84 : Jvm.Cond.selects RX12 yX12_isOver yX12_isOver ∈ gTbl := gT_of (i := 84) (by decide +kernel) (by decide +kernel)
set_option maxRecDepth 16384 in
theorem wd_933 : Jvm.Cond.code yX1_isRing cX1_isRing 4 (some .boolean) ∈ gTbl := gL_of tl1_4 89 rfl (by decide +kernel)
set_option maxRecDepth 16384 in
theorem wd_930 : Jvm.Cond.methodLink RX1 81 yX1_isRing ∈ gTbl := gL_of tl1_4 86 rfl (by decide +kernel)
set_option maxRecDepth 16384 in
theorem wd_932 : Jvm.Cond.instanceMethod yX1_isRing ∈ gTbl := gL_of tl1_4 88 rfl (by decide +kernel)
theorem wd_26 : Jvm.Cond.selects RX1 yX1_isRing yX1_isRing ∈ gTbl := gT_of (i := 26) (by decide +kernel) (by decide +kernel)
set_option maxRecDepth 16384 in
theorem wd_929 : Jvm.Cond.code yX1_countRings cX1_countRings 5 (some .int) ∈ gTbl := gL_of tl1_4 85 rfl (by decide +kernel)
set_option maxRecDepth 16384 in
theorem wd_926 : Jvm.Cond.methodLink RX11 226 yX1_countRings ∈ gTbl := gL_of tl1_4 82 rfl (by decide +kernel)
set_option maxRecDepth 16384 in
theorem wd_927 : Jvm.Cond.instanceMethod yX1_countRings ∈ gTbl := gL_of tl1_4 83 rfl (by decide +kernel)
set_option maxRecDepth 16384 in
theorem wd_928 : Jvm.Cond.selects RX1 yX1_countRings yX1_countRings ∈ gTbl := gL_of tl1_4 84 rfl (by decide +kernel)
set_option maxRecDepth 16384 in
theorem wd_1772 : Jvm.Cond.code yX12_isRing cX12_isRing 4 (some .boolean) ∈ gTbl := gL_of tl1_7 208 rfl (by decide +kernel)
set_option maxRecDepth 16384 in
theorem wd_1769 : Jvm.Cond.methodLink RX12 294 yX12_isRing ∈ gTbl := gL_of tl1_7 205 rfl (by decide +kernel)
set_option maxRecDepth 16384 in
theorem wd_1771 : Jvm.Cond.instanceMethod yX12_isRing ∈ gTbl := gL_of tl1_7 207 rfl (by decide +kernel)
theorem wd_85 : Jvm.Cond.selects RX12 yX12_isRing yX12_isRing ∈ gTbl := gT_of (i := 85) (by decide +kernel) (by decide +kernel)
set_option maxRecDepth 16384 in
theorem wd_204 : Jvm.Cond.fieldLink RX1 61 "RookHusting$Hundred" "law" "I" ∈ gTbl := gL_of tl1_1 80 rfl (by decide +kernel)
set_option maxRecDepth 16384 in
theorem wd_949 : Jvm.Cond.code yX1_winnerOfAll cX1_winnerOfAll 2 (some .int) ∈ gTbl := gL_of tl1_4 105 rfl (by decide +kernel)
set_option maxRecDepth 16384 in
theorem wd_946 : Jvm.Cond.methodLink RX1 87 yX1_winnerOfAll ∈ gTbl := gL_of tl1_4 102 rfl (by decide +kernel)
set_option maxRecDepth 16384 in
theorem wd_948 : Jvm.Cond.instanceMethod yX1_winnerOfAll ∈ gTbl := gL_of tl1_4 104 rfl (by decide +kernel)
theorem wd_28 : Jvm.Cond.selects RX1 yX1_winnerOfAll yX1_winnerOfAll ∈ gTbl := gT_of (i := 28) (by decide +kernel) (by decide +kernel)
set_option maxRecDepth 16384 in
theorem wd_945 : Jvm.Cond.code yX1_hatsOf cX1_hatsOf 4 (some .int) ∈ gTbl := gL_of tl1_4 101 rfl (by decide +kernel)
set_option maxRecDepth 16384 in
theorem wd_942 : Jvm.Cond.methodLink RX1 84 yX1_hatsOf ∈ gTbl := gL_of tl1_4 98 rfl (by decide +kernel)
set_option maxRecDepth 16384 in
theorem wd_944 : Jvm.Cond.instanceMethod yX1_hatsOf ∈ gTbl := gL_of tl1_4 100 rfl (by decide +kernel)
theorem wd_27 : Jvm.Cond.selects RX1 yX1_hatsOf yX1_hatsOf ∈ gTbl := gT_of (i := 27) (by decide +kernel) (by decide +kernel)
set_option maxRecDepth 16384 in
theorem wd_941 : Jvm.Cond.code yX1_fewestAway cX1_fewestAway 5 (some .int) ∈ gTbl := gL_of tl1_4 97 rfl (by decide +kernel)
set_option maxRecDepth 16384 in
theorem wd_938 : Jvm.Cond.methodLink RX11 229 yX1_fewestAway ∈ gTbl := gL_of tl1_4 94 rfl (by decide +kernel)
set_option maxRecDepth 16384 in
theorem wd_939 : Jvm.Cond.instanceMethod yX1_fewestAway ∈ gTbl := gL_of tl1_4 95 rfl (by decide +kernel)
set_option maxRecDepth 16384 in
theorem wd_940 : Jvm.Cond.selects RX1 yX1_fewestAway yX1_fewestAway ∈ gTbl := gL_of tl1_4 96 rfl (by decide +kernel)
set_option maxRecDepth 16384 in
theorem wd_1777 : Jvm.Cond.constant RX12 297 1000000000 ∈ gTbl := gL_of tl1_7 213 rfl (by decide +kernel)
set_option maxRecDepth 16384 in
theorem wd_1781 : Jvm.Cond.code yX12_hatsIn cX12_hatsIn 4 (some .int) ∈ gTbl := gL_of tl1_7 217 rfl (by decide +kernel)
set_option maxRecDepth 16384 in
theorem wd_1778 : Jvm.Cond.methodLink RX12 298 yX12_hatsIn ∈ gTbl := gL_of tl1_7 214 rfl (by decide +kernel)
set_option maxRecDepth 16384 in
theorem wd_1780 : Jvm.Cond.instanceMethod yX12_hatsIn ∈ gTbl := gL_of tl1_7 216 rfl (by decide +kernel)
theorem wd_86 : Jvm.Cond.selects RX12 yX12_hatsIn yX12_hatsIn ∈ gTbl := gT_of (i := 86) (by decide +kernel) (by decide +kernel)
set_option maxRecDepth 16384 in
theorem wd_369 : Jvm.Cond.fieldLink RX1 9 "RookHusting$Election" "feigned" "[I" ∈ gTbl := gL_of tl1_2 5 rfl (by decide +kernel)
set_option maxRecDepth 16384 in
theorem wd_966 : Jvm.Cond.code yX1_gainsBehind cX1_gainsBehind 7 (some .boolean) ∈ gTbl := gL_of tl1_4 122 rfl (by decide +kernel)
set_option maxRecDepth 16384 in
theorem wd_963 : Jvm.Cond.methodLink RX1 96 yX1_gainsBehind ∈ gTbl := gL_of tl1_4 119 rfl (by decide +kernel)
set_option maxRecDepth 16384 in
theorem wd_965 : Jvm.Cond.instanceMethod yX1_gainsBehind ∈ gTbl := gL_of tl1_4 121 rfl (by decide +kernel)
theorem wd_30 : Jvm.Cond.selects RX1 yX1_gainsBehind yX1_gainsBehind ∈ gTbl := gT_of (i := 30) (by decide +kernel) (by decide +kernel)
set_option maxRecDepth 16384 in
theorem wd_518 : Jvm.Cond.fieldLink RX11 235 "RookHusting" "plainVoters" "I" ∈ gTbl := gL_of tl1_2 154 rfl (by decide +kernel)
set_option maxRecDepth 16384 in
theorem wd_961 : Jvm.Cond.code yX1_isGainer cX1_isGainer 3 (some .boolean) ∈ gTbl := gL_of tl1_4 117 rfl (by decide +kernel)
set_option maxRecDepth 16384 in
theorem wd_958 : Jvm.Cond.methodLink RX11 470 yX1_isGainer ∈ gTbl := gL_of tl1_4 114 rfl (by decide +kernel)
set_option maxRecDepth 16384 in
theorem wd_959 : Jvm.Cond.instanceMethod yX1_isGainer ∈ gTbl := gL_of tl1_4 115 rfl (by decide +kernel)
set_option maxRecDepth 16384 in
theorem wd_960 : Jvm.Cond.selects RX1 yX1_isGainer yX1_isGainer ∈ gTbl := gL_of tl1_4 116 rfl (by decide +kernel)
set_option maxRecDepth 16384 in
theorem wd_957 : Jvm.Cond.code yX11_learnPlain cX11_learnPlain 2 none ∈ gTbl := gL_of tl1_4 113 rfl (by decide +kernel)
set_option maxRecDepth 16384 in
theorem wd_954 : Jvm.Cond.methodLink RX11 232 yX11_learnPlain ∈ gTbl := gL_of tl1_4 110 rfl (by decide +kernel)
set_option maxRecDepth 16384 in
theorem wd_956 : Jvm.Cond.instanceMethod yX11_learnPlain ∈ gTbl := gL_of tl1_4 112 rfl (by decide +kernel)
theorem wd_29 : Jvm.Cond.selects RX11 yX11_learnPlain yX11_learnPlain ∈ gTbl := gT_of (i := 29) (by decide +kernel) (by decide +kernel)
set_option maxRecDepth 16384 in
theorem wd_1793 : Jvm.Cond.code yX12_doesGain cX12_doesGain 9 (some .boolean) ∈ gTbl := gL_of tl1_7 229 rfl (by decide +kernel)
set_option maxRecDepth 16384 in
theorem wd_1790 : Jvm.Cond.methodLink RX12 301 yX12_doesGain ∈ gTbl := gL_of tl1_7 226 rfl (by decide +kernel)
set_option maxRecDepth 16384 in
theorem wd_1792 : Jvm.Cond.instanceMethod yX12_doesGain ∈ gTbl := gL_of tl1_7 228 rfl (by decide +kernel)
theorem wd_88 : Jvm.Cond.selects RX12 yX12_doesGain yX12_doesGain ∈ gTbl := gT_of (i := 88) (by decide +kernel) (by decide +kernel)
set_option maxRecDepth 16384 in
theorem wd_1789 : Jvm.Cond.code yX12_gainsOf cX12_gainsOf 6 (some .boolean) ∈ gTbl := gL_of tl1_7 225 rfl (by decide +kernel)
set_option maxRecDepth 16384 in
theorem wd_1786 : Jvm.Cond.methodLink RX12 305 yX12_gainsOf ∈ gTbl := gL_of tl1_7 222 rfl (by decide +kernel)
set_option maxRecDepth 16384 in
theorem wd_1788 : Jvm.Cond.instanceMethod yX12_gainsOf ∈ gTbl := gL_of tl1_7 224 rfl (by decide +kernel)
theorem wd_87 : Jvm.Cond.selects RX12 yX12_gainsOf yX12_gainsOf ∈ gTbl := gT_of (i := 87) (by decide +kernel) (by decide +kernel)
set_option maxRecDepth 16384 in
theorem wd_987 : Jvm.Cond.code yX11_commonDivisor cX11_commonDivisor 7 (some .long) ∈ gTbl := gL_of tl1_4 143 rfl (by decide +kernel)
set_option maxRecDepth 16384 in
theorem wd_985 : Jvm.Cond.methodLink RX11 492 yX11_commonDivisor ∈ gTbl := gL_of tl1_4 141 rfl (by decide +kernel)
set_option maxRecDepth 16384 in
theorem wd_986 : Jvm.Cond.static yX11_commonDivisor ∈ gTbl := gL_of tl1_4 142 rfl (by decide +kernel)
set_option maxRecDepth 16384 in
theorem wd_984 : Jvm.Cond.code yX11_partOf cX11_partOf 7 (some .long) ∈ gTbl := gL_of tl1_4 140 rfl (by decide +kernel)
set_option maxRecDepth 16384 in
theorem wd_982 : Jvm.Cond.methodLink RX11 247 yX11_partOf ∈ gTbl := gL_of tl1_4 138 rfl (by decide +kernel)
set_option maxRecDepth 16384 in
theorem wd_983 : Jvm.Cond.static yX11_partOf ∈ gTbl := gL_of tl1_4 139 rfl (by decide +kernel)
set_option maxRecDepth 16384 in
theorem wd_978 : Jvm.Cond.code yX1_ordersDecided cX1_ordersDecided 8 (some .int) ∈ gTbl := gL_of tl1_4 134 rfl (by decide +kernel)
set_option maxRecDepth 16384 in
theorem wd_975 : Jvm.Cond.methodLink RX11 238 yX1_ordersDecided ∈ gTbl := gL_of tl1_4 131 rfl (by decide +kernel)
set_option maxRecDepth 16384 in
theorem wd_976 : Jvm.Cond.instanceMethod yX1_ordersDecided ∈ gTbl := gL_of tl1_4 132 rfl (by decide +kernel)
set_option maxRecDepth 16384 in
theorem wd_977 : Jvm.Cond.selects RX1 yX1_ordersDecided yX1_ordersDecided ∈ gTbl := gL_of tl1_4 133 rfl (by decide +kernel)
set_option maxRecDepth 16384 in
theorem wd_1810 : Jvm.Cond.code yX12_divisor cX12_divisor 10 (some .long) ∈ gTbl := gL_of tl1_8 6 rfl (by decide +kernel)
set_option maxRecDepth 16384 in
theorem wd_1808 : Jvm.Cond.methodLink RX12 312 yX12_divisor ∈ gTbl := gL_of tl1_8 4 rfl (by decide +kernel)
set_option maxRecDepth 16384 in
theorem wd_1809 : Jvm.Cond.static yX12_divisor ∈ gTbl := gL_of tl1_8 5 rfl (by decide +kernel)
set_option maxRecDepth 16384 in
theorem wd_1807 : Jvm.Cond.code yX12_part cX12_part 5 (some .long) ∈ gTbl := gL_of tl1_8 3 rfl (by decide +kernel)
set_option maxRecDepth 16384 in
theorem wd_1805 : Jvm.Cond.methodLink RX12 319 yX12_part ∈ gTbl := gL_of tl1_8 1 rfl (by decide +kernel)
set_option maxRecDepth 16384 in
theorem wd_1806 : Jvm.Cond.static yX12_part ∈ gTbl := gL_of tl1_8 2 rfl (by decide +kernel)
set_option maxRecDepth 16384 in
theorem wd_1804 : Jvm.Cond.code yX12_factorial cX12_factorial 3 (some .int) ∈ gTbl := gL_of tl1_8 0 rfl (by decide +kernel)
set_option maxRecDepth 16384 in
theorem wd_1802 : Jvm.Cond.methodLink RX12 316 yX12_factorial ∈ gTbl := gL_of tl1_7 238 rfl (by decide +kernel)
set_option maxRecDepth 16384 in
theorem wd_1803 : Jvm.Cond.static yX12_factorial ∈ gTbl := gL_of tl1_7 239 rfl (by decide +kernel)
set_option maxRecDepth 16384 in
theorem wd_411 : Jvm.Cond.fieldLink RX11 263 "RookHusting$Harvest" "fear" "[I" ∈ gTbl := gL_of tl1_2 47 rfl (by decide +kernel)
set_option maxRecDepth 16384 in
theorem wd_1023 : Jvm.Cond.code yX11_cellNow cX11_cellNow 4 (some .int) ∈ gTbl := gL_of tl1_4 179 rfl (by decide +kernel)
set_option maxRecDepth 16384 in
theorem wd_1020 : Jvm.Cond.methodLink RX11 266 yX11_cellNow ∈ gTbl := gL_of tl1_4 176 rfl (by decide +kernel)
set_option maxRecDepth 16384 in
theorem wd_1022 : Jvm.Cond.instanceMethod yX11_cellNow ∈ gTbl := gL_of tl1_4 178 rfl (by decide +kernel)
theorem wd_32 : Jvm.Cond.selects RX11 yX11_cellNow yX11_cellNow ∈ gTbl := gT_of (i := 32) (by decide +kernel) (by decide +kernel)
set_option maxRecDepth 16384 in
theorem wd_1019 : Jvm.Cond.code yX11_isDay cX11_isDay 2 (some .boolean) ∈ gTbl := gL_of tl1_4 175 rfl (by decide +kernel)
set_option maxRecDepth 16384 in
theorem wd_1016 : Jvm.Cond.methodLink RX11 260 yX11_isDay ∈ gTbl := gL_of tl1_4 172 rfl (by decide +kernel)
set_option maxRecDepth 16384 in
theorem wd_1018 : Jvm.Cond.instanceMethod yX11_isDay ∈ gTbl := gL_of tl1_4 174 rfl (by decide +kernel)
theorem wd_31 : Jvm.Cond.selects RX11 yX11_isDay yX11_isDay ∈ gTbl := gT_of (i := 31) (by decide +kernel) (by decide +kernel)
set_option maxRecDepth 16384 in
theorem wd_1425 : Jvm.Cond.fieldLink RX12 49 "RookHustingModel" "fearAt" "[I" ∈ gTbl := gL_of tl1_6 101 rfl (by decide +kernel)
set_option maxRecDepth 16384 in
theorem wd_1430 : Jvm.Cond.fieldLink RX12 64 "RookHustingModel" "flownOn" "[I" ∈ gTbl := gL_of tl1_6 106 rfl (by decide +kernel)
set_option maxRecDepth 16384 in
theorem wd_1426 : Jvm.Cond.fieldLink RX12 52 "RookHustingModel" "rooksAt" "[I" ∈ gTbl := gL_of tl1_6 102 rfl (by decide +kernel)
set_option maxRecDepth 16384 in
theorem wd_1427 : Jvm.Cond.fieldLink RX12 55 "RookHustingModel" "cornAt" "[I" ∈ gTbl := gL_of tl1_6 103 rfl (by decide +kernel)
set_option maxRecDepth 16384 in
theorem wd_1428 : Jvm.Cond.fieldLink RX12 58 "RookHustingModel" "eatenAt" "[I" ∈ gTbl := gL_of tl1_6 104 rfl (by decide +kernel)
set_option maxRecDepth 16384 in
theorem wd_1429 : Jvm.Cond.fieldLink RX12 61 "RookHustingModel" "flyAt" "[I" ∈ gTbl := gL_of tl1_6 105 rfl (by decide +kernel)
set_option maxRecDepth 16384 in
theorem wd_1898 : Jvm.Cond.code yX12_flyTo cX12_flyTo 5 (some .int) ∈ gTbl := gL_of tl1_8 94 rfl (by decide +kernel)
set_option maxRecDepth 16384 in
theorem wd_1895 : Jvm.Cond.methodLink RX12 354 yX12_flyTo ∈ gTbl := gL_of tl1_8 91 rfl (by decide +kernel)
set_option maxRecDepth 16384 in
theorem wd_1897 : Jvm.Cond.instanceMethod yX12_flyTo ∈ gTbl := gL_of tl1_8 93 rfl (by decide +kernel)
theorem wd_100 : Jvm.Cond.selects RX12 yX12_flyTo yX12_flyTo ∈ gTbl := gT_of (i := 100) (by decide +kernel) (by decide +kernel)
set_option maxRecDepth 16384 in
theorem wd_1894 : Jvm.Cond.code yX12_goDay cX12_goDay 7 none ∈ gTbl := gL_of tl1_8 90 rfl (by decide +kernel)
set_option maxRecDepth 16384 in
theorem wd_1891 : Jvm.Cond.methodLink RX12 360 yX12_goDay ∈ gTbl := gL_of tl1_8 87 rfl (by decide +kernel)
set_option maxRecDepth 16384 in
theorem wd_1893 : Jvm.Cond.instanceMethod yX12_goDay ∈ gTbl := gL_of tl1_8 89 rfl (by decide +kernel)
theorem wd_99 : Jvm.Cond.selects RX12 yX12_goDay yX12_goDay ∈ gTbl := gT_of (i := 99) (by decide +kernel) (by decide +kernel)
set_option maxRecDepth 16384 in
theorem wd_1885 : Jvm.Cond.code yX12_days cX12_days 1 (some .int) ∈ gTbl := gL_of tl1_8 81 rfl (by decide +kernel)
set_option maxRecDepth 16384 in
theorem wd_1882 : Jvm.Cond.methodLink RX12 103 yX12_days ∈ gTbl := gL_of tl1_8 78 rfl (by decide +kernel)
set_option maxRecDepth 16384 in
theorem wd_1884 : Jvm.Cond.instanceMethod yX12_days ∈ gTbl := gL_of tl1_8 80 rfl (by decide +kernel)
theorem wd_97 : Jvm.Cond.selects RX12 yX12_days yX12_days ∈ gTbl := gT_of (i := 97) (by decide +kernel) (by decide +kernel)
set_option maxRecDepth 16384 in
theorem wd_1889 : Jvm.Cond.code yX12_fearOf cX12_fearOf 5 (some .int) ∈ gTbl := gL_of tl1_8 85 rfl (by decide +kernel)
set_option maxRecDepth 16384 in
theorem wd_1886 : Jvm.Cond.methodLink RX12 357 yX12_fearOf ∈ gTbl := gL_of tl1_8 82 rfl (by decide +kernel)
set_option maxRecDepth 16384 in
theorem wd_1888 : Jvm.Cond.instanceMethod yX12_fearOf ∈ gTbl := gL_of tl1_8 84 rfl (by decide +kernel)
theorem wd_98 : Jvm.Cond.selects RX12 yX12_fearOf yX12_fearOf ∈ gTbl := gT_of (i := 98) (by decide +kernel) (by decide +kernel)
set_option maxRecDepth 16384 in
theorem wd_1881 : Jvm.Cond.code yX12_goAll cX12_goAll 3 none ∈ gTbl := gL_of tl1_8 77 rfl (by decide +kernel)
set_option maxRecDepth 16384 in
theorem wd_1878 : Jvm.Cond.methodLink RX12 363 yX12_goAll ∈ gTbl := gL_of tl1_8 74 rfl (by decide +kernel)
set_option maxRecDepth 16384 in
theorem wd_1880 : Jvm.Cond.instanceMethod yX12_goAll ∈ gTbl := gL_of tl1_8 76 rfl (by decide +kernel)
theorem wd_96 : Jvm.Cond.selects RX12 yX12_goAll yX12_goAll ∈ gTbl := gT_of (i := 96) (by decide +kernel) (by decide +kernel)
set_option maxRecDepth 16384 in
theorem wd_1902 : Jvm.Cond.code yX12_isDay cX12_isDay 3 (some .boolean) ∈ gTbl := gL_of tl1_8 98 rfl (by decide +kernel)
set_option maxRecDepth 16384 in
theorem wd_1899 : Jvm.Cond.methodLink RX12 369 yX12_isDay ∈ gTbl := gL_of tl1_8 95 rfl (by decide +kernel)
set_option maxRecDepth 16384 in
theorem wd_1901 : Jvm.Cond.instanceMethod yX12_isDay ∈ gTbl := gL_of tl1_8 97 rfl (by decide +kernel)
theorem wd_101 : Jvm.Cond.selects RX12 yX12_isDay yX12_isDay ∈ gTbl := gT_of (i := 101) (by decide +kernel) (by decide +kernel)
set_option maxRecDepth 16384 in
theorem wd_1877 : Jvm.Cond.code yX12_asksHundred cX12_asksHundred 1 (some .boolean) ∈ gTbl := gL_of tl1_8 73 rfl (by decide +kernel)
set_option maxRecDepth 16384 in
theorem wd_1874 : Jvm.Cond.methodLink RX12 366 yX12_asksHundred ∈ gTbl := gL_of tl1_8 70 rfl (by decide +kernel)
set_option maxRecDepth 16384 in
theorem wd_1876 : Jvm.Cond.instanceMethod yX12_asksHundred ∈ gTbl := gL_of tl1_8 72 rfl (by decide +kernel)
theorem wd_95 : Jvm.Cond.selects RX12 yX12_asksHundred yX12_asksHundred ∈ gTbl := gT_of (i := 95) (by decide +kernel) (by decide +kernel)
set_option maxRecDepth 16384 in
theorem wd_1873 : Jvm.Cond.code yX12_asksDay cX12_asksDay 2 (some .boolean) ∈ gTbl := gL_of tl1_8 69 rfl (by decide +kernel)
set_option maxRecDepth 16384 in
theorem wd_1870 : Jvm.Cond.methodLink RX12 378 yX12_asksDay ∈ gTbl := gL_of tl1_8 66 rfl (by decide +kernel)
set_option maxRecDepth 16384 in
theorem wd_1872 : Jvm.Cond.instanceMethod yX12_asksDay ∈ gTbl := gL_of tl1_8 68 rfl (by decide +kernel)
theorem wd_94 : Jvm.Cond.selects RX12 yX12_asksDay yX12_asksDay ∈ gTbl := gT_of (i := 94) (by decide +kernel) (by decide +kernel)
set_option maxRecDepth 16384 in
theorem wd_413 : Jvm.Cond.fieldLink RX11 270 "RookHusting$Harvest" "rooks" "[I" ∈ gTbl := gL_of tl1_2 49 rfl (by decide +kernel)
set_option maxRecDepth 16384 in
theorem wd_416 : Jvm.Cond.fieldLink RX11 271 "RookHusting$Harvest" "corn" "[I" ∈ gTbl := gL_of tl1_2 52 rfl (by decide +kernel)
set_option maxRecDepth 16384 in
theorem wd_418 : Jvm.Cond.fieldLink RX11 275 "RookHusting$Harvest" "eaten" "[I" ∈ gTbl := gL_of tl1_2 54 rfl (by decide +kernel)
set_option maxRecDepth 16384 in
theorem wd_1039 : Jvm.Cond.code yX11_isEatingDay cX11_isEatingDay 2 (some .boolean) ∈ gTbl := gL_of tl1_4 195 rfl (by decide +kernel)
set_option maxRecDepth 16384 in
theorem wd_1036 : Jvm.Cond.methodLink RX11 272 yX11_isEatingDay ∈ gTbl := gL_of tl1_4 192 rfl (by decide +kernel)
set_option maxRecDepth 16384 in
theorem wd_1038 : Jvm.Cond.instanceMethod yX11_isEatingDay ∈ gTbl := gL_of tl1_4 194 rfl (by decide +kernel)
theorem wd_33 : Jvm.Cond.selects RX11 yX11_isEatingDay yX11_isEatingDay ∈ gTbl := gT_of (i := 33) (by decide +kernel) (by decide +kernel)
set_option maxRecDepth 16384 in
theorem wd_1922 : Jvm.Cond.code yX12_isAhead cX12_isAhead 3 (some .boolean) ∈ gTbl := gL_of tl1_8 118 rfl (by decide +kernel)
set_option maxRecDepth 16384 in
theorem wd_1919 : Jvm.Cond.methodLink RX12 372 yX12_isAhead ∈ gTbl := gL_of tl1_8 115 rfl (by decide +kernel)
set_option maxRecDepth 16384 in
theorem wd_1921 : Jvm.Cond.instanceMethod yX12_isAhead ∈ gTbl := gL_of tl1_8 117 rfl (by decide +kernel)
theorem wd_103 : Jvm.Cond.selects RX12 yX12_isAhead yX12_isAhead ∈ gTbl := gT_of (i := 103) (by decide +kernel) (by decide +kernel)
set_option maxRecDepth 16384 in
theorem wd_1918 : Jvm.Cond.code yX12_asksAhead cX12_asksAhead 2 (some .boolean) ∈ gTbl := gL_of tl1_8 114 rfl (by decide +kernel)
set_option maxRecDepth 16384 in
theorem wd_1915 : Jvm.Cond.methodLink RX12 381 yX12_asksAhead ∈ gTbl := gL_of tl1_8 111 rfl (by decide +kernel)
set_option maxRecDepth 16384 in
theorem wd_1917 : Jvm.Cond.instanceMethod yX12_asksAhead ∈ gTbl := gL_of tl1_8 113 rfl (by decide +kernel)
theorem wd_102 : Jvm.Cond.selects RX12 yX12_asksAhead yX12_asksAhead ∈ gTbl := gT_of (i := 102) (by decide +kernel) (by decide +kernel)
set_option maxRecDepth 16384 in
theorem wd_422 : Jvm.Cond.fieldLink RX11 278 "RookHusting$Harvest" "goal" "[I" ∈ gTbl := gL_of tl1_2 58 rfl (by decide +kernel)
set_option maxRecDepth 16384 in
theorem wd_1055 : Jvm.Cond.code yX3_sumOf cX3_sumOf 5 (some .int) ∈ gTbl := gL_of tl1_4 211 rfl (by decide +kernel)
set_option maxRecDepth 16384 in
theorem wd_1052 : Jvm.Cond.methodLink RX11 300 yX3_sumOf ∈ gTbl := gL_of tl1_4 208 rfl (by decide +kernel)
set_option maxRecDepth 16384 in
theorem wd_1053 : Jvm.Cond.instanceMethod yX3_sumOf ∈ gTbl := gL_of tl1_4 209 rfl (by decide +kernel)
set_option maxRecDepth 16384 in
theorem wd_1054 : Jvm.Cond.selects RX3 yX3_sumOf yX3_sumOf ∈ gTbl := gL_of tl1_4 210 rfl (by decide +kernel)
set_option maxRecDepth 16384 in
theorem wd_1051 : Jvm.Cond.code yX11_sumNow cX11_sumNow 3 (some .int) ∈ gTbl := gL_of tl1_4 207 rfl (by decide +kernel)
set_option maxRecDepth 16384 in
theorem wd_1048 : Jvm.Cond.methodLink RX11 281 yX11_sumNow ∈ gTbl := gL_of tl1_4 204 rfl (by decide +kernel)
set_option maxRecDepth 16384 in
theorem wd_1050 : Jvm.Cond.instanceMethod yX11_sumNow ∈ gTbl := gL_of tl1_4 206 rfl (by decide +kernel)
theorem wd_34 : Jvm.Cond.selects RX11 yX11_sumNow yX11_sumNow ∈ gTbl := gT_of (i := 34) (by decide +kernel) (by decide +kernel)
set_option maxRecDepth 16384 in
theorem wd_1934 : Jvm.Cond.code yX12_allCorn cX12_allCorn 4 (some .int) ∈ gTbl := gL_of tl1_8 130 rfl (by decide +kernel)
set_option maxRecDepth 16384 in
theorem wd_1931 : Jvm.Cond.methodLink RX12 375 yX12_allCorn ∈ gTbl := gL_of tl1_8 127 rfl (by decide +kernel)
set_option maxRecDepth 16384 in
theorem wd_1933 : Jvm.Cond.instanceMethod yX12_allCorn ∈ gTbl := gL_of tl1_8 129 rfl (by decide +kernel)
theorem wd_104 : Jvm.Cond.selects RX12 yX12_allCorn yX12_allCorn ∈ gTbl := gT_of (i := 104) (by decide +kernel) (by decide +kernel)
set_option maxRecDepth 16384 in
theorem wd_1067 : Jvm.Cond.code yX3_fieldOfMost cX3_fieldOfMost 5 (some .int) ∈ gTbl := gL_of tl1_4 223 rfl (by decide +kernel)
set_option maxRecDepth 16384 in
theorem wd_1064 : Jvm.Cond.methodLink RX11 464 yX3_fieldOfMost ∈ gTbl := gL_of tl1_4 220 rfl (by decide +kernel)
set_option maxRecDepth 16384 in
theorem wd_1065 : Jvm.Cond.instanceMethod yX3_fieldOfMost ∈ gTbl := gL_of tl1_4 221 rfl (by decide +kernel)
set_option maxRecDepth 16384 in
theorem wd_1066 : Jvm.Cond.selects RX3 yX3_fieldOfMost yX3_fieldOfMost ∈ gTbl := gL_of tl1_4 222 rfl (by decide +kernel)
set_option maxRecDepth 16384 in
theorem wd_1063 : Jvm.Cond.code yX11_mostNow cX11_mostNow 3 (some .int) ∈ gTbl := gL_of tl1_4 219 rfl (by decide +kernel)
set_option maxRecDepth 16384 in
theorem wd_1060 : Jvm.Cond.methodLink RX11 285 yX11_mostNow ∈ gTbl := gL_of tl1_4 216 rfl (by decide +kernel)
set_option maxRecDepth 16384 in
theorem wd_1062 : Jvm.Cond.instanceMethod yX11_mostNow ∈ gTbl := gL_of tl1_4 218 rfl (by decide +kernel)
theorem wd_35 : Jvm.Cond.selects RX11 yX11_mostNow yX11_mostNow ∈ gTbl := gT_of (i := 35) (by decide +kernel) (by decide +kernel)
set_option maxRecDepth 16384 in
theorem wd_1083 : Jvm.Cond.code yX3_firstZero cX3_firstZero 4 (some .int) ∈ gTbl := gL_of tl1_4 239 rfl (by decide +kernel)
set_option maxRecDepth 16384 in
theorem wd_1080 : Jvm.Cond.methodLink RX11 467 yX3_firstZero ∈ gTbl := gL_of tl1_4 236 rfl (by decide +kernel)
set_option maxRecDepth 16384 in
theorem wd_1081 : Jvm.Cond.instanceMethod yX3_firstZero ∈ gTbl := gL_of tl1_4 237 rfl (by decide +kernel)
set_option maxRecDepth 16384 in
theorem wd_1082 : Jvm.Cond.selects RX3 yX3_firstZero yX3_firstZero ∈ gTbl := gL_of tl1_4 238 rfl (by decide +kernel)
set_option maxRecDepth 16384 in
theorem wd_1079 : Jvm.Cond.code yX11_firstZeroNow cX11_firstZeroNow 3 (some .int) ∈ gTbl := gL_of tl1_4 235 rfl (by decide +kernel)
set_option maxRecDepth 16384 in
theorem wd_1076 : Jvm.Cond.methodLink RX11 288 yX11_firstZeroNow ∈ gTbl := gL_of tl1_4 232 rfl (by decide +kernel)
set_option maxRecDepth 16384 in
theorem wd_1078 : Jvm.Cond.instanceMethod yX11_firstZeroNow ∈ gTbl := gL_of tl1_4 234 rfl (by decide +kernel)
theorem wd_36 : Jvm.Cond.selects RX11 yX11_firstZeroNow yX11_firstZeroNow ∈ gTbl := gT_of (i := 36) (by decide +kernel) (by decide +kernel)
set_option maxRecDepth 16384 in
theorem wd_1946 : Jvm.Cond.code yX12_asksField cX12_asksField 2 (some .boolean) ∈ gTbl := gL_of tl1_8 142 rfl (by decide +kernel)
set_option maxRecDepth 16384 in
theorem wd_1943 : Jvm.Cond.methodLink RX12 384 yX12_asksField ∈ gTbl := gL_of tl1_8 139 rfl (by decide +kernel)
set_option maxRecDepth 16384 in
theorem wd_1945 : Jvm.Cond.instanceMethod yX12_asksField ∈ gTbl := gL_of tl1_8 141 rfl (by decide +kernel)
theorem wd_105 : Jvm.Cond.selects RX12 yX12_asksField yX12_asksField ∈ gTbl := gT_of (i := 105) (by decide +kernel) (by decide +kernel)
set_option maxRecDepth 16384 in
theorem wd_1095 : Jvm.Cond.code yX3_daysEaten cX3_daysEaten 4 (some .int) ∈ gTbl := gL_of tl1_5 11 rfl (by decide +kernel)
set_option maxRecDepth 16384 in
theorem wd_1092 : Jvm.Cond.methodLink RX11 294 yX3_daysEaten ∈ gTbl := gL_of tl1_5 8 rfl (by decide +kernel)
set_option maxRecDepth 16384 in
theorem wd_1093 : Jvm.Cond.instanceMethod yX3_daysEaten ∈ gTbl := gL_of tl1_5 9 rfl (by decide +kernel)
set_option maxRecDepth 16384 in
theorem wd_1094 : Jvm.Cond.selects RX3 yX3_daysEaten yX3_daysEaten ∈ gTbl := gL_of tl1_5 10 rfl (by decide +kernel)
set_option maxRecDepth 16384 in
theorem wd_995 : Jvm.Cond.code yX1_hatsFirst cX1_hatsFirst 4 (some .int) ∈ gTbl := gL_of tl1_4 151 rfl (by decide +kernel)
set_option maxRecDepth 16384 in
theorem wd_992 : Jvm.Cond.methodLink RX11 251 yX1_hatsFirst ∈ gTbl := gL_of tl1_4 148 rfl (by decide +kernel)
set_option maxRecDepth 16384 in
theorem wd_993 : Jvm.Cond.instanceMethod yX1_hatsFirst ∈ gTbl := gL_of tl1_4 149 rfl (by decide +kernel)
set_option maxRecDepth 16384 in
theorem wd_994 : Jvm.Cond.selects RX1 yX1_hatsFirst yX1_hatsFirst ∈ gTbl := gL_of tl1_4 150 rfl (by decide +kernel)
set_option maxRecDepth 16384 in
theorem wd_1003 : Jvm.Cond.code yX1_hatsWithout cX1_hatsWithout 4 (some .int) ∈ gTbl := gL_of tl1_4 159 rfl (by decide +kernel)
set_option maxRecDepth 16384 in
theorem wd_1000 : Jvm.Cond.methodLink RX11 254 yX1_hatsWithout ∈ gTbl := gL_of tl1_4 156 rfl (by decide +kernel)
set_option maxRecDepth 16384 in
theorem wd_1001 : Jvm.Cond.instanceMethod yX1_hatsWithout ∈ gTbl := gL_of tl1_4 157 rfl (by decide +kernel)
set_option maxRecDepth 16384 in
theorem wd_1002 : Jvm.Cond.selects RX1 yX1_hatsWithout yX1_hatsWithout ∈ gTbl := gL_of tl1_4 158 rfl (by decide +kernel)
set_option maxRecDepth 16384 in
theorem wd_1011 : Jvm.Cond.code yX1_swingVoters cX1_swingVoters 4 (some .int) ∈ gTbl := gL_of tl1_4 167 rfl (by decide +kernel)
set_option maxRecDepth 16384 in
theorem wd_1008 : Jvm.Cond.methodLink RX11 257 yX1_swingVoters ∈ gTbl := gL_of tl1_4 164 rfl (by decide +kernel)
set_option maxRecDepth 16384 in
theorem wd_1009 : Jvm.Cond.instanceMethod yX1_swingVoters ∈ gTbl := gL_of tl1_4 165 rfl (by decide +kernel)
set_option maxRecDepth 16384 in
theorem wd_1010 : Jvm.Cond.selects RX1 yX1_swingVoters yX1_swingVoters ∈ gTbl := gL_of tl1_4 166 rfl (by decide +kernel)
set_option maxRecDepth 16384 in
theorem wd_1132 : Jvm.Cond.code yX3_mostRooks cX3_mostRooks 4 (some .int) ∈ gTbl := gL_of tl1_5 48 rfl (by decide +kernel)
set_option maxRecDepth 16384 in
theorem wd_1129 : Jvm.Cond.methodLink RX11 311 yX3_mostRooks ∈ gTbl := gL_of tl1_5 45 rfl (by decide +kernel)
set_option maxRecDepth 16384 in
theorem wd_1130 : Jvm.Cond.instanceMethod yX3_mostRooks ∈ gTbl := gL_of tl1_5 46 rfl (by decide +kernel)
set_option maxRecDepth 16384 in
theorem wd_1131 : Jvm.Cond.selects RX3 yX3_mostRooks yX3_mostRooks ∈ gTbl := gL_of tl1_5 47 rfl (by decide +kernel)
set_option maxRecDepth 16384 in
theorem wd_420 : Jvm.Cond.fieldLink RX11 314 "RookHusting$Harvest" "flown" "[I" ∈ gTbl := gL_of tl1_2 56 rfl (by decide +kernel)
set_option maxRecDepth 16384 in
theorem wd_463 : Jvm.Cond.fieldLink RX5 23 "RookHusting$PutSearch" "tried" "LRookHusting$Harvest;" ∈ gTbl := gL_of tl1_2 99 rfl (by decide +kernel)
set_option maxRecDepth 16384 in
theorem wd_461 : Jvm.Cond.fieldLink RX5 15 "RookHusting$PutSearch" "told" "LRookHusting$Hundred;" ∈ gTbl := gL_of tl1_2 97 rfl (by decide +kernel)
set_option maxRecDepth 16384 in
theorem wd_462 : Jvm.Cond.fieldLink RX5 19 "RookHusting$PutSearch" "trial" "LRookHusting$Scene;" ∈ gTbl := gL_of tl1_2 98 rfl (by decide +kernel)
set_option maxRecDepth 16384 in
theorem wd_199 : Jvm.Cond.fieldLink RX5 74 "RookHusting$Hundred" "days" "I" ∈ gTbl := gL_of tl1_1 75 rfl (by decide +kernel)
set_option maxRecDepth 16384 in
theorem wd_415 : Jvm.Cond.fieldLink RX5 83 "RookHusting$Harvest" "corn" "[I" ∈ gTbl := gL_of tl1_2 51 rfl (by decide +kernel)
set_option maxRecDepth 16384 in
theorem wd_453 : Jvm.Cond.fieldLink RX5 37 "RookHusting$PutSearch" "corn" "I" ∈ gTbl := gL_of tl1_2 89 rfl (by decide +kernel)
set_option maxRecDepth 16384 in
theorem wd_455 : Jvm.Cond.fieldLink RX5 41 "RookHusting$PutSearch" "rows" "I" ∈ gTbl := gL_of tl1_2 91 rfl (by decide +kernel)
set_option maxRecDepth 16384 in
theorem wd_457 : Jvm.Cond.fieldLink RX5 44 "RookHusting$PutSearch" "men" "I" ∈ gTbl := gL_of tl1_2 93 rfl (by decide +kernel)
set_option maxRecDepth 16384 in
theorem wd_382 : Jvm.Cond.fieldLink RX5 66 "RookHusting$Scene" "standing" "[I" ∈ gTbl := gL_of tl1_2 18 rfl (by decide +kernel)
set_option maxRecDepth 16384 in
theorem wd_451 : Jvm.Cond.fieldLink RX5 9 "RookHusting$PutSearch" "first" "[I" ∈ gTbl := gL_of tl1_2 87 rfl (by decide +kernel)
set_option maxRecDepth 16384 in
theorem wd_1159 : Jvm.Cond.methodLink RX5 85 yX3_sumOf ∈ gTbl := gL_of tl1_5 75 rfl (by decide +kernel)
set_option maxRecDepth 16384 in
theorem wd_1158 : Jvm.Cond.methodLink RX5 77 yX3_passDays ∈ gTbl := gL_of tl1_5 74 rfl (by decide +kernel)
set_option maxRecDepth 16384 in
theorem wd_211 : Jvm.Cond.fieldLink RX5 51 "RookHusting$Hundred" "fields" "I" ∈ gTbl := gL_of tl1_1 87 rfl (by decide +kernel)
set_option maxRecDepth 16384 in
theorem wd_219 : Jvm.Cond.fieldLink RX5 69 "RookHusting$Hundred" "men" "I" ∈ gTbl := gL_of tl1_1 95 rfl (by decide +kernel)
set_option maxRecDepth 16384 in
theorem wd_1157 : Jvm.Cond.code yX5_weighRow cX5_weighRow 3 none ∈ gTbl := gL_of tl1_5 73 rfl (by decide +kernel)
set_option maxRecDepth 16384 in
theorem wd_135 : Jvm.Cond.initialized RX5 ∈ gTbl := gL_of tl1_1 11 rfl (by decide +kernel)
set_option maxRecDepth 16384 in
theorem wd_1154 : Jvm.Cond.methodLink RX5 62 yX5_weighRow ∈ gTbl := gL_of tl1_5 70 rfl (by decide +kernel)
set_option maxRecDepth 16384 in
theorem wd_1156 : Jvm.Cond.instanceMethod yX5_weighRow ∈ gTbl := gL_of tl1_5 72 rfl (by decide +kernel)
theorem wd_38 : Jvm.Cond.selects RX5 yX5_weighRow yX5_weighRow ∈ gTbl := gT_of (i := 38) (by decide +kernel) (by decide +kernel)
set_option maxRecDepth 16384 in
theorem wd_1153 : Jvm.Cond.methodLink RX5 56 yJ6_bitCount_0f7a4 ∈ gTbl := gL_of tl1_5 69 rfl (by decide +kernel)
set_option maxRecDepth 16384 in
theorem wd_1152 : Jvm.Cond.code yX5_fillFrom cX5_fillFrom 4 none ∈ gTbl := gL_of tl1_5 68 rfl (by decide +kernel)
set_option maxRecDepth 16384 in
theorem wd_1149 : Jvm.Cond.methodLink RX5 47 yX5_fillFrom ∈ gTbl := gL_of tl1_5 65 rfl (by decide +kernel)
set_option maxRecDepth 16384 in
theorem wd_1151 : Jvm.Cond.instanceMethod yX5_fillFrom ∈ gTbl := gL_of tl1_5 67 rfl (by decide +kernel)
theorem wd_37 : Jvm.Cond.selects RX5 yX5_fillFrom yX5_fillFrom ∈ gTbl := gT_of (i := 37) (by decide +kernel) (by decide +kernel)
set_option maxRecDepth 16384 in
theorem wd_459 : Jvm.Cond.fieldLink RX5 27 "RookHusting$PutSearch" "known" "Z" ∈ gTbl := gL_of tl1_2 95 rfl (by decide +kernel)
set_option maxRecDepth 16384 in
theorem wd_1148 : Jvm.Cond.code yX7_copyFrom cX7_copyFrom 2 none ∈ gTbl := gL_of tl1_5 64 rfl (by decide +kernel)
set_option maxRecDepth 16384 in
theorem wd_1145 : Jvm.Cond.methodLink RX5 31 yX7_copyFrom ∈ gTbl := gL_of tl1_5 61 rfl (by decide +kernel)
set_option maxRecDepth 16384 in
theorem wd_1146 : Jvm.Cond.instanceMethod yX7_copyFrom ∈ gTbl := gL_of tl1_5 62 rfl (by decide +kernel)
set_option maxRecDepth 16384 in
theorem wd_1147 : Jvm.Cond.selects RX7 yX7_copyFrom yX7_copyFrom ∈ gTbl := gL_of tl1_5 63 rfl (by decide +kernel)
set_option maxRecDepth 16384 in
theorem wd_454 : Jvm.Cond.fieldLink RX11 321 "RookHusting$PutSearch" "corn" "I" ∈ gTbl := gL_of tl1_2 90 rfl (by decide +kernel)
set_option maxRecDepth 16384 in
theorem wd_1144 : Jvm.Cond.code yX5_searchFrom cX5_searchFrom 2 none ∈ gTbl := gL_of tl1_5 60 rfl (by decide +kernel)
set_option maxRecDepth 16384 in
theorem wd_1141 : Jvm.Cond.methodLink RX11 317 yX5_searchFrom ∈ gTbl := gL_of tl1_5 57 rfl (by decide +kernel)
set_option maxRecDepth 16384 in
theorem wd_1142 : Jvm.Cond.instanceMethod yX5_searchFrom ∈ gTbl := gL_of tl1_5 58 rfl (by decide +kernel)
set_option maxRecDepth 16384 in
theorem wd_1143 : Jvm.Cond.selects RX5 yX5_searchFrom yX5_searchFrom ∈ gTbl := gL_of tl1_5 59 rfl (by decide +kernel)
set_option maxRecDepth 16384 in
theorem wd_1432 : Jvm.Cond.fieldLink RX12 393 "RookHustingModel" "rowMost" "I" ∈ gTbl := gL_of tl1_6 108 rfl (by decide +kernel)
set_option maxRecDepth 16384 in
theorem wd_1433 : Jvm.Cond.fieldLink RX12 396 "RookHustingModel" "rowMany" "I" ∈ gTbl := gL_of tl1_6 109 rfl (by decide +kernel)
set_option maxRecDepth 16384 in
theorem wd_1434 : Jvm.Cond.fieldLink RX12 399 "RookHustingModel" "rowFewest" "I" ∈ gTbl := gL_of tl1_6 110 rfl (by decide +kernel)
set_option maxRecDepth 16384 in
theorem wd_1431 : Jvm.Cond.fieldLink RX12 67 "RookHustingModel" "firstRow" "[I" ∈ gTbl := gL_of tl1_6 107 rfl (by decide +kernel)
set_option maxRecDepth 16384 in
theorem wd_2006 : Jvm.Cond.code yX12_allLast cX12_allLast 1 (some .int) ∈ gTbl := gL_of tl1_8 202 rfl (by decide +kernel)
set_option maxRecDepth 16384 in
theorem wd_2003 : Jvm.Cond.methodLink RX12 390 yX12_allLast ∈ gTbl := gL_of tl1_8 199 rfl (by decide +kernel)
set_option maxRecDepth 16384 in
theorem wd_2005 : Jvm.Cond.instanceMethod yX12_allLast ∈ gTbl := gL_of tl1_8 201 rfl (by decide +kernel)
theorem wd_109 : Jvm.Cond.selects RX12 yX12_allLast yX12_allLast ∈ gTbl := gT_of (i := 109) (by decide +kernel) (by decide +kernel)
set_option maxRecDepth 16384 in
theorem wd_2002 : Jvm.Cond.code yX12_menIn cX12_menIn 3 (some .int) ∈ gTbl := gL_of tl1_8 198 rfl (by decide +kernel)
set_option maxRecDepth 16384 in
theorem wd_1999 : Jvm.Cond.methodLink RX12 387 yX12_menIn ∈ gTbl := gL_of tl1_8 195 rfl (by decide +kernel)
set_option maxRecDepth 16384 in
theorem wd_2001 : Jvm.Cond.instanceMethod yX12_menIn ∈ gTbl := gL_of tl1_8 197 rfl (by decide +kernel)
theorem wd_108 : Jvm.Cond.selects RX12 yX12_menIn yX12_menIn ∈ gTbl := gT_of (i := 108) (by decide +kernel) (by decide +kernel)
set_option maxRecDepth 16384 in
theorem wd_2010 : Jvm.Cond.code yX12_nextRow cX12_nextRow 2 (some .boolean) ∈ gTbl := gL_of tl1_8 206 rfl (by decide +kernel)
set_option maxRecDepth 16384 in
theorem wd_2007 : Jvm.Cond.methodLink RX12 405 yX12_nextRow ∈ gTbl := gL_of tl1_8 203 rfl (by decide +kernel)
set_option maxRecDepth 16384 in
theorem wd_2009 : Jvm.Cond.instanceMethod yX12_nextRow ∈ gTbl := gL_of tl1_8 205 rfl (by decide +kernel)
theorem wd_110 : Jvm.Cond.selects RX12 yX12_nextRow yX12_nextRow ∈ gTbl := gT_of (i := 110) (by decide +kernel) (by decide +kernel)
set_option maxRecDepth 16384 in
theorem wd_1998 : Jvm.Cond.code yX12_tryRow cX12_tryRow 4 none ∈ gTbl := gL_of tl1_8 194 rfl (by decide +kernel)
set_option maxRecDepth 16384 in
theorem wd_1995 : Jvm.Cond.methodLink RX12 402 yX12_tryRow ∈ gTbl := gL_of tl1_8 191 rfl (by decide +kernel)
set_option maxRecDepth 16384 in
theorem wd_1997 : Jvm.Cond.instanceMethod yX12_tryRow ∈ gTbl := gL_of tl1_8 193 rfl (by decide +kernel)
theorem wd_107 : Jvm.Cond.selects RX12 yX12_tryRow yX12_tryRow ∈ gTbl := gT_of (i := 107) (by decide +kernel) (by decide +kernel)
set_option maxRecDepth 16384 in
theorem wd_1994 : Jvm.Cond.code yX12_asksRows cX12_asksRows 2 (some .boolean) ∈ gTbl := gL_of tl1_8 190 rfl (by decide +kernel)
set_option maxRecDepth 16384 in
theorem wd_1991 : Jvm.Cond.methodLink RX12 408 yX12_asksRows ∈ gTbl := gL_of tl1_8 187 rfl (by decide +kernel)
set_option maxRecDepth 16384 in
theorem wd_1993 : Jvm.Cond.instanceMethod yX12_asksRows ∈ gTbl := gL_of tl1_8 189 rfl (by decide +kernel)
theorem wd_106 : Jvm.Cond.selects RX12 yX12_asksRows yX12_asksRows ∈ gTbl := gT_of (i := 106) (by decide +kernel) (by decide +kernel)
set_option maxRecDepth 16384 in
theorem wd_452 : Jvm.Cond.fieldLink RX11 323 "RookHusting$PutSearch" "first" "[I" ∈ gTbl := gL_of tl1_2 88 rfl (by decide +kernel)
set_option maxRecDepth 16384 in
theorem wd_456 : Jvm.Cond.fieldLink RX11 326 "RookHusting$PutSearch" "rows" "I" ∈ gTbl := gL_of tl1_2 92 rfl (by decide +kernel)
set_option maxRecDepth 16384 in
theorem wd_458 : Jvm.Cond.fieldLink RX11 328 "RookHusting$PutSearch" "men" "I" ∈ gTbl := gL_of tl1_2 94 rfl (by decide +kernel)
set_option maxRecDepth 16384 in
theorem wd_512 : Jvm.Cond.fieldLink RX11 73 "RookHusting" "tried" "LRookHusting$Harvest;" ∈ gTbl := gL_of tl1_2 148 rfl (by decide +kernel)
set_option maxRecDepth 16384 in
theorem wd_1186 : Jvm.Cond.code yX11_leftOnTrial cX11_leftOnTrial 1 (some .int) ∈ gTbl := gL_of tl1_5 102 rfl (by decide +kernel)
set_option maxRecDepth 16384 in
theorem wd_1183 : Jvm.Cond.methodLink RX11 337 yX11_leftOnTrial ∈ gTbl := gL_of tl1_5 99 rfl (by decide +kernel)
set_option maxRecDepth 16384 in
theorem wd_1185 : Jvm.Cond.instanceMethod yX11_leftOnTrial ∈ gTbl := gL_of tl1_5 101 rfl (by decide +kernel)
theorem wd_40 : Jvm.Cond.selects RX11 yX11_leftOnTrial yX11_leftOnTrial ∈ gTbl := gT_of (i := 40) (by decide +kernel) (by decide +kernel)
set_option maxRecDepth 16384 in
theorem wd_1182 : Jvm.Cond.code yX11_leftByLaw cX11_leftByLaw 2 (some .int) ∈ gTbl := gL_of tl1_5 98 rfl (by decide +kernel)
set_option maxRecDepth 16384 in
theorem wd_1179 : Jvm.Cond.methodLink RX11 329 yX11_leftByLaw ∈ gTbl := gL_of tl1_5 95 rfl (by decide +kernel)
set_option maxRecDepth 16384 in
theorem wd_1181 : Jvm.Cond.instanceMethod yX11_leftByLaw ∈ gTbl := gL_of tl1_5 97 rfl (by decide +kernel)
theorem wd_39 : Jvm.Cond.selects RX11 yX11_leftByLaw yX11_leftByLaw ∈ gTbl := gT_of (i := 39) (by decide +kernel) (by decide +kernel)
set_option maxRecDepth 16384 in
theorem wd_2030 : Jvm.Cond.code yX12_leftBy cX12_leftBy 2 (some .int) ∈ gTbl := gL_of tl1_8 226 rfl (by decide +kernel)
set_option maxRecDepth 16384 in
theorem wd_2027 : Jvm.Cond.methodLink RX12 411 yX12_leftBy ∈ gTbl := gL_of tl1_8 223 rfl (by decide +kernel)
set_option maxRecDepth 16384 in
theorem wd_2029 : Jvm.Cond.instanceMethod yX12_leftBy ∈ gTbl := gL_of tl1_8 225 rfl (by decide +kernel)
theorem wd_111 : Jvm.Cond.selects RX12 yX12_leftBy yX12_leftBy ∈ gTbl := gT_of (i := 111) (by decide +kernel) (by decide +kernel)
set_option maxRecDepth 16384 in
theorem wd_388 : Jvm.Cond.fieldLink RX11 334 "RookHusting$Scene" "speeches" "[I" ∈ gTbl := gL_of tl1_2 24 rfl (by decide +kernel)
set_option maxRecDepth 16384 in
theorem wd_1195 : Jvm.Cond.methodLink RX11 332 yX7_copyFrom ∈ gTbl := gL_of tl1_5 111 rfl (by decide +kernel)
set_option maxRecDepth 16384 in
theorem wd_391 : Jvm.Cond.fieldLink RX11 340 "RookHusting$Scene" "joined" "[I" ∈ gTbl := gL_of tl1_2 27 rfl (by decide +kernel)
set_option maxRecDepth 16384 in
theorem wd_507 : Jvm.Cond.fieldLink RX11 39 "RookHusting" "slots" "LRookHusting$Slots;" ∈ gTbl := gL_of tl1_2 143 rfl (by decide +kernel)
set_option maxRecDepth 16384 in
theorem wd_353 : Jvm.Cond.fieldLink RX11 423 "RookHusting$Slots" "lengths" "[I" ∈ gTbl := gL_of tl1_1 229 rfl (by decide +kernel)
set_option maxRecDepth 16384 in
theorem wd_1210 : Jvm.Cond.code yX8_isSlot cX8_isSlot 1 (some .boolean) ∈ gTbl := gL_of tl1_5 126 rfl (by decide +kernel)
set_option maxRecDepth 16384 in
theorem wd_131 : Jvm.Cond.initialized RX8 ∈ gTbl := gL_of tl1_1 7 rfl (by decide +kernel)
set_option maxRecDepth 16384 in
theorem wd_1208 : Jvm.Cond.methodLink RX11 414 yX8_isSlot ∈ gTbl := gL_of tl1_5 124 rfl (by decide +kernel)
set_option maxRecDepth 16384 in
theorem wd_1209 : Jvm.Cond.static yX8_isSlot ∈ gTbl := gL_of tl1_5 125 rfl (by decide +kernel)
set_option maxRecDepth 16384 in
theorem wd_352 : Jvm.Cond.fieldLink RX8 19 "RookHusting$Slots" "lengths" "[I" ∈ gTbl := gL_of tl1_1 228 rfl (by decide +kernel)
set_option maxRecDepth 16384 in
theorem wd_348 : Jvm.Cond.fieldLink RX8 9 "RookHusting$Slots" "numbers" "[J" ∈ gTbl := gL_of tl1_1 224 rfl (by decide +kernel)
set_option maxRecDepth 16384 in
theorem wd_1221 : Jvm.Cond.code yX11_isBetween cX11_isBetween 3 (some .boolean) ∈ gTbl := gL_of tl1_5 137 rfl (by decide +kernel)
set_option maxRecDepth 16384 in
theorem wd_1219 : Jvm.Cond.methodLink RX11 476 yX11_isBetween ∈ gTbl := gL_of tl1_5 135 rfl (by decide +kernel)
set_option maxRecDepth 16384 in
theorem wd_1220 : Jvm.Cond.static yX11_isBetween ∈ gTbl := gL_of tl1_5 136 rfl (by decide +kernel)
set_option maxRecDepth 16384 in
theorem wd_1218 : Jvm.Cond.code yX8_at cX8_at 3 (some .long) ∈ gTbl := gL_of tl1_5 134 rfl (by decide +kernel)
set_option maxRecDepth 16384 in
theorem wd_1215 : Jvm.Cond.methodLink RX11 473 yX8_at ∈ gTbl := gL_of tl1_5 131 rfl (by decide +kernel)
set_option maxRecDepth 16384 in
theorem wd_1216 : Jvm.Cond.instanceMethod yX8_at ∈ gTbl := gL_of tl1_5 132 rfl (by decide +kernel)
set_option maxRecDepth 16384 in
theorem wd_1217 : Jvm.Cond.selects RX8 yX8_at yX8_at ∈ gTbl := gL_of tl1_5 133 rfl (by decide +kernel)
set_option maxRecDepth 16384 in
theorem wd_1214 : Jvm.Cond.code yX8_hasRow cX8_hasRow 2 (some .boolean) ∈ gTbl := gL_of tl1_5 130 rfl (by decide +kernel)
set_option maxRecDepth 16384 in
theorem wd_1211 : Jvm.Cond.methodLink RX11 420 yX8_hasRow ∈ gTbl := gL_of tl1_5 127 rfl (by decide +kernel)
set_option maxRecDepth 16384 in
theorem wd_1212 : Jvm.Cond.instanceMethod yX8_hasRow ∈ gTbl := gL_of tl1_5 128 rfl (by decide +kernel)
set_option maxRecDepth 16384 in
theorem wd_1213 : Jvm.Cond.selects RX8 yX8_hasRow yX8_hasRow ∈ gTbl := gL_of tl1_5 129 rfl (by decide +kernel)
set_option maxRecDepth 16384 in
theorem wd_487 : Jvm.Cond.fieldLink RX2 15 "RookHusting$Guesses" "fitting" "I" ∈ gTbl := gL_of tl1_2 123 rfl (by decide +kernel)
set_option maxRecDepth 16384 in
theorem wd_493 : Jvm.Cond.fieldLink RX2 9 "RookHusting$Guesses" "rooks" "[I" ∈ gTbl := gL_of tl1_2 129 rfl (by decide +kernel)
set_option maxRecDepth 16384 in
theorem wd_514 : Jvm.Cond.fieldLink RX11 88 "RookHusting" "guesses" "LRookHusting$Guesses;" ∈ gTbl := gL_of tl1_2 150 rfl (by decide +kernel)
set_option maxRecDepth 16384 in
theorem wd_488 : Jvm.Cond.fieldLink RX11 348 "RookHusting$Guesses" "fitting" "I" ∈ gTbl := gL_of tl1_2 124 rfl (by decide +kernel)
set_option maxRecDepth 16384 in
theorem wd_1234 : Jvm.Cond.code yX2_keep cX2_keep 3 none ∈ gTbl := gL_of tl1_5 150 rfl (by decide +kernel)
set_option maxRecDepth 16384 in
theorem wd_136 : Jvm.Cond.initialized RX2 ∈ gTbl := gL_of tl1_1 12 rfl (by decide +kernel)
set_option maxRecDepth 16384 in
theorem wd_1231 : Jvm.Cond.methodLink RX11 486 yX2_keep ∈ gTbl := gL_of tl1_5 147 rfl (by decide +kernel)
set_option maxRecDepth 16384 in
theorem wd_1232 : Jvm.Cond.instanceMethod yX2_keep ∈ gTbl := gL_of tl1_5 148 rfl (by decide +kernel)
set_option maxRecDepth 16384 in
theorem wd_1233 : Jvm.Cond.selects RX2 yX2_keep yX2_keep ∈ gTbl := gL_of tl1_5 149 rfl (by decide +kernel)
set_option maxRecDepth 16384 in
theorem wd_1230 : Jvm.Cond.code yX11_isAsSeen cX11_isAsSeen 4 (some .boolean) ∈ gTbl := gL_of tl1_5 146 rfl (by decide +kernel)
set_option maxRecDepth 16384 in
theorem wd_1227 : Jvm.Cond.methodLink RX11 483 yX11_isAsSeen ∈ gTbl := gL_of tl1_5 143 rfl (by decide +kernel)
set_option maxRecDepth 16384 in
theorem wd_1229 : Jvm.Cond.instanceMethod yX11_isAsSeen ∈ gTbl := gL_of tl1_5 145 rfl (by decide +kernel)
theorem wd_43 : Jvm.Cond.selects RX11 yX11_isAsSeen yX11_isAsSeen ∈ gTbl := gT_of (i := 43) (by decide +kernel) (by decide +kernel)
set_option maxRecDepth 16384 in
theorem wd_1226 : Jvm.Cond.methodLink RX11 480 yX7_placeMan ∈ gTbl := gL_of tl1_5 142 rfl (by decide +kernel)
set_option maxRecDepth 16384 in
theorem wd_1225 : Jvm.Cond.code yX11_guessAll cX11_guessAll 4 none ∈ gTbl := gL_of tl1_5 141 rfl (by decide +kernel)
set_option maxRecDepth 16384 in
theorem wd_1222 : Jvm.Cond.methodLink RX11 344 yX11_guessAll ∈ gTbl := gL_of tl1_5 138 rfl (by decide +kernel)
set_option maxRecDepth 16384 in
theorem wd_1224 : Jvm.Cond.instanceMethod yX11_guessAll ∈ gTbl := gL_of tl1_5 140 rfl (by decide +kernel)
theorem wd_42 : Jvm.Cond.selects RX11 yX11_guessAll yX11_guessAll ∈ gTbl := gT_of (i := 42) (by decide +kernel) (by decide +kernel)
set_option maxRecDepth 16384 in
theorem wd_1207 : Jvm.Cond.code yX11_wrongSeen cX11_wrongSeen 5 (some .int) ∈ gTbl := gL_of tl1_5 123 rfl (by decide +kernel)
set_option maxRecDepth 16384 in
theorem wd_1204 : Jvm.Cond.methodLink RX11 341 yX11_wrongSeen ∈ gTbl := gL_of tl1_5 120 rfl (by decide +kernel)
set_option maxRecDepth 16384 in
theorem wd_1206 : Jvm.Cond.instanceMethod yX11_wrongSeen ∈ gTbl := gL_of tl1_5 122 rfl (by decide +kernel)
theorem wd_41 : Jvm.Cond.selects RX11 yX11_wrongSeen yX11_wrongSeen ∈ gTbl := gT_of (i := 41) (by decide +kernel) (by decide +kernel)
set_option maxRecDepth 16384 in
theorem wd_1441 : Jvm.Cond.fieldLink RX12 73 "RookHustingModel" "many" "[I" ∈ gTbl := gL_of tl1_6 117 rfl (by decide +kernel)
set_option maxRecDepth 16384 in
theorem wd_2062 : Jvm.Cond.constantLong RX12 421 250 ∈ gTbl := gL_of tl1_9 18 rfl (by decide +kernel)
set_option maxRecDepth 16384 in
theorem wd_2057 : Jvm.Cond.code yX12_isSlot cX12_isSlot 1 (some .boolean) ∈ gTbl := gL_of tl1_9 13 rfl (by decide +kernel)
set_option maxRecDepth 16384 in
theorem wd_2055 : Jvm.Cond.methodLink RX12 414 yX12_isSlot ∈ gTbl := gL_of tl1_9 11 rfl (by decide +kernel)
set_option maxRecDepth 16384 in
theorem wd_2056 : Jvm.Cond.static yX12_isSlot ∈ gTbl := gL_of tl1_9 12 rfl (by decide +kernel)
set_option maxRecDepth 16384 in
theorem wd_1436 : Jvm.Cond.fieldLink RX12 426 "RookHustingModel" "maySet" "I" ∈ gTbl := gL_of tl1_6 112 rfl (by decide +kernel)
set_option maxRecDepth 16384 in
theorem wd_1435 : Jvm.Cond.fieldLink RX12 70 "RookHustingModel" "rooksBy" "[I" ∈ gTbl := gL_of tl1_6 111 rfl (by decide +kernel)
set_option maxRecDepth 16384 in
theorem wd_2054 : Jvm.Cond.code yX12_askSeen cX12_askSeen 4 (some .int) ∈ gTbl := gL_of tl1_9 10 rfl (by decide +kernel)
set_option maxRecDepth 16384 in
theorem wd_2051 : Jvm.Cond.methodLink RX12 423 yX12_askSeen ∈ gTbl := gL_of tl1_9 7 rfl (by decide +kernel)
set_option maxRecDepth 16384 in
theorem wd_2053 : Jvm.Cond.instanceMethod yX12_askSeen ∈ gTbl := gL_of tl1_9 9 rfl (by decide +kernel)
theorem wd_113 : Jvm.Cond.selects RX12 yX12_askSeen yX12_askSeen ∈ gTbl := gT_of (i := 113) (by decide +kernel) (by decide +kernel)
set_option maxRecDepth 16384 in
theorem wd_1443 : Jvm.Cond.fieldLink RX12 79 "RookHustingModel" "numbers" "[J" ∈ gTbl := gL_of tl1_6 119 rfl (by decide +kernel)
set_option maxRecDepth 16384 in
theorem wd_2061 : Jvm.Cond.code yX12_numberAt cX12_numberAt 3 (some .long) ∈ gTbl := gL_of tl1_9 17 rfl (by decide +kernel)
set_option maxRecDepth 16384 in
theorem wd_2058 : Jvm.Cond.methodLink RX12 417 yX12_numberAt ∈ gTbl := gL_of tl1_9 14 rfl (by decide +kernel)
set_option maxRecDepth 16384 in
theorem wd_2060 : Jvm.Cond.instanceMethod yX12_numberAt ∈ gTbl := gL_of tl1_9 16 rfl (by decide +kernel)
theorem wd_114 : Jvm.Cond.selects RX12 yX12_numberAt yX12_numberAt ∈ gTbl := gT_of (i := 114) (by decide +kernel) (by decide +kernel)
set_option maxRecDepth 16384 in
theorem wd_2066 : Jvm.Cond.code yX12_isSeen cX12_isSeen 3 (some .boolean) ∈ gTbl := gL_of tl1_9 22 rfl (by decide +kernel)
set_option maxRecDepth 16384 in
theorem wd_2063 : Jvm.Cond.methodLink RX12 429 yX12_isSeen ∈ gTbl := gL_of tl1_9 19 rfl (by decide +kernel)
set_option maxRecDepth 16384 in
theorem wd_2065 : Jvm.Cond.instanceMethod yX12_isSeen ∈ gTbl := gL_of tl1_9 21 rfl (by decide +kernel)
theorem wd_115 : Jvm.Cond.selects RX12 yX12_isSeen yX12_isSeen ∈ gTbl := gT_of (i := 115) (by decide +kernel) (by decide +kernel)
set_option maxRecDepth 16384 in
theorem wd_2050 : Jvm.Cond.code yX12_layMay cX12_layMay 6 (some .int) ∈ gTbl := gL_of tl1_9 6 rfl (by decide +kernel)
set_option maxRecDepth 16384 in
theorem wd_2047 : Jvm.Cond.methodLink RX12 432 yX12_layMay ∈ gTbl := gL_of tl1_9 3 rfl (by decide +kernel)
set_option maxRecDepth 16384 in
theorem wd_2049 : Jvm.Cond.instanceMethod yX12_layMay ∈ gTbl := gL_of tl1_9 5 rfl (by decide +kernel)
theorem wd_112 : Jvm.Cond.selects RX12 yX12_layMay yX12_layMay ∈ gTbl := gT_of (i := 112) (by decide +kernel) (by decide +kernel)
set_option maxRecDepth 16384 in
theorem wd_1253 : Jvm.Cond.code yX2_countAlike cX2_countAlike 5 (some .int) ∈ gTbl := gL_of tl1_5 169 rfl (by decide +kernel)
set_option maxRecDepth 16384 in
theorem wd_1250 : Jvm.Cond.methodLink RX2 44 yX2_countAlike ∈ gTbl := gL_of tl1_5 166 rfl (by decide +kernel)
set_option maxRecDepth 16384 in
theorem wd_1252 : Jvm.Cond.instanceMethod yX2_countAlike ∈ gTbl := gL_of tl1_5 168 rfl (by decide +kernel)
theorem wd_45 : Jvm.Cond.selects RX2 yX2_countAlike yX2_countAlike ∈ gTbl := gT_of (i := 45) (by decide +kernel) (by decide +kernel)
set_option maxRecDepth 16384 in
theorem wd_489 : Jvm.Cond.fieldLink RX2 25 "RookHusting$Guesses" "question" "I" ∈ gTbl := gL_of tl1_2 125 rfl (by decide +kernel)
set_option maxRecDepth 16384 in
theorem wd_491 : Jvm.Cond.fieldLink RX2 34 "RookHusting$Guesses" "left" "I" ∈ gTbl := gL_of tl1_2 127 rfl (by decide +kernel)
set_option maxRecDepth 16384 in
theorem wd_1248 : Jvm.Cond.code yX2_mostAlike cX2_mostAlike 4 (some .int) ∈ gTbl := gL_of tl1_5 164 rfl (by decide +kernel)
set_option maxRecDepth 16384 in
theorem wd_1245 : Jvm.Cond.methodLink RX2 37 yX2_mostAlike ∈ gTbl := gL_of tl1_5 161 rfl (by decide +kernel)
set_option maxRecDepth 16384 in
theorem wd_1247 : Jvm.Cond.instanceMethod yX2_mostAlike ∈ gTbl := gL_of tl1_5 163 rfl (by decide +kernel)
theorem wd_44 : Jvm.Cond.selects RX2 yX2_mostAlike yX2_mostAlike ∈ gTbl := gT_of (i := 44) (by decide +kernel) (by decide +kernel)
set_option maxRecDepth 16384 in
theorem wd_1244 : Jvm.Cond.methodLink RX2 28 yJ6_bitCount_0f7a4 ∈ gTbl := gL_of tl1_5 160 rfl (by decide +kernel)
set_option maxRecDepth 16384 in
theorem wd_490 : Jvm.Cond.fieldLink RX11 354 "RookHusting$Guesses" "question" "I" ∈ gTbl := gL_of tl1_2 126 rfl (by decide +kernel)
set_option maxRecDepth 16384 in
theorem wd_1243 : Jvm.Cond.code yX2_findQuestion cX2_findQuestion 6 none ∈ gTbl := gL_of tl1_5 159 rfl (by decide +kernel)
set_option maxRecDepth 16384 in
theorem wd_1240 : Jvm.Cond.methodLink RX11 351 yX2_findQuestion ∈ gTbl := gL_of tl1_5 156 rfl (by decide +kernel)
set_option maxRecDepth 16384 in
theorem wd_1241 : Jvm.Cond.instanceMethod yX2_findQuestion ∈ gTbl := gL_of tl1_5 157 rfl (by decide +kernel)
set_option maxRecDepth 16384 in
theorem wd_1242 : Jvm.Cond.selects RX2 yX2_findQuestion yX2_findQuestion ∈ gTbl := gL_of tl1_5 158 rfl (by decide +kernel)
set_option maxRecDepth 16384 in
theorem wd_1437 : Jvm.Cond.fieldLink RX12 435 "RookHustingModel" "askWorst" "I" ∈ gTbl := gL_of tl1_6 113 rfl (by decide +kernel)
set_option maxRecDepth 16384 in
theorem wd_2078 : Jvm.Cond.code yX12_sameBy cX12_sameBy 5 (some .int) ∈ gTbl := gL_of tl1_9 34 rfl (by decide +kernel)
set_option maxRecDepth 16384 in
theorem wd_2075 : Jvm.Cond.methodLink RX12 438 yX12_sameBy ∈ gTbl := gL_of tl1_9 31 rfl (by decide +kernel)
set_option maxRecDepth 16384 in
theorem wd_2077 : Jvm.Cond.instanceMethod yX12_sameBy ∈ gTbl := gL_of tl1_9 33 rfl (by decide +kernel)
theorem wd_117 : Jvm.Cond.selects RX12 yX12_sameBy yX12_sameBy ∈ gTbl := gT_of (i := 117) (by decide +kernel) (by decide +kernel)
set_option maxRecDepth 16384 in
theorem wd_2074 : Jvm.Cond.code yX12_askOf cX12_askOf 6 (some .int) ∈ gTbl := gL_of tl1_9 30 rfl (by decide +kernel)
set_option maxRecDepth 16384 in
theorem wd_2071 : Jvm.Cond.methodLink RX12 441 yX12_askOf ∈ gTbl := gL_of tl1_9 27 rfl (by decide +kernel)
set_option maxRecDepth 16384 in
theorem wd_2073 : Jvm.Cond.instanceMethod yX12_askOf ∈ gTbl := gL_of tl1_9 29 rfl (by decide +kernel)
theorem wd_116 : Jvm.Cond.selects RX12 yX12_askOf yX12_askOf ∈ gTbl := gT_of (i := 116) (by decide +kernel) (by decide +kernel)
set_option maxRecDepth 16384 in
theorem wd_492 : Jvm.Cond.fieldLink RX11 357 "RookHusting$Guesses" "left" "I" ∈ gTbl := gL_of tl1_2 128 rfl (by decide +kernel)
set_option maxRecDepth 16384 in
theorem wd_1266 : Jvm.Cond.code yX11_gainOf cX11_gainOf 6 (some .int) ∈ gTbl := gL_of tl1_5 182 rfl (by decide +kernel)
set_option maxRecDepth 16384 in
theorem wd_1263 : Jvm.Cond.methodLink RX11 360 yX11_gainOf ∈ gTbl := gL_of tl1_5 179 rfl (by decide +kernel)
set_option maxRecDepth 16384 in
theorem wd_1265 : Jvm.Cond.instanceMethod yX11_gainOf ∈ gTbl := gL_of tl1_5 181 rfl (by decide +kernel)
theorem wd_46 : Jvm.Cond.selects RX11 yX11_gainOf yX11_gainOf ∈ gTbl := gT_of (i := 46) (by decide +kernel) (by decide +kernel)
set_option maxRecDepth 16384 in
theorem wd_2094 : Jvm.Cond.code yX12_getsBy cX12_getsBy 6 (some .int) ∈ gTbl := gL_of tl1_9 50 rfl (by decide +kernel)
set_option maxRecDepth 16384 in
theorem wd_2091 : Jvm.Cond.methodLink RX12 447 yX12_getsBy ∈ gTbl := gL_of tl1_9 47 rfl (by decide +kernel)
set_option maxRecDepth 16384 in
theorem wd_2093 : Jvm.Cond.instanceMethod yX12_getsBy ∈ gTbl := gL_of tl1_9 49 rfl (by decide +kernel)
theorem wd_119 : Jvm.Cond.selects RX12 yX12_getsBy yX12_getsBy ∈ gTbl := gT_of (i := 119) (by decide +kernel) (by decide +kernel)
set_option maxRecDepth 16384 in
theorem wd_2090 : Jvm.Cond.code yX12_areFields cX12_areFields 3 (some .boolean) ∈ gTbl := gL_of tl1_9 46 rfl (by decide +kernel)
set_option maxRecDepth 16384 in
theorem wd_2087 : Jvm.Cond.methodLink RX12 444 yX12_areFields ∈ gTbl := gL_of tl1_9 43 rfl (by decide +kernel)
set_option maxRecDepth 16384 in
theorem wd_2089 : Jvm.Cond.instanceMethod yX12_areFields ∈ gTbl := gL_of tl1_9 45 rfl (by decide +kernel)
theorem wd_118 : Jvm.Cond.selects RX12 yX12_areFields yX12_areFields ∈ gTbl := gT_of (i := 118) (by decide +kernel) (by decide +kernel)
set_option maxRecDepth 16384 in
theorem wd_1287 : Jvm.Cond.constantLong RX11 490 10 ∈ gTbl := gL_of tl1_5 203 rfl (by decide +kernel)
set_option maxRecDepth 16384 in
theorem wd_208 : Jvm.Cond.fieldLink RX11 399 "RookHusting$Hundred" "odds" "I" ∈ gTbl := gL_of tl1_1 84 rfl (by decide +kernel)
set_option maxRecDepth 16384 in
theorem wd_394 : Jvm.Cond.fieldLink RX11 369 "RookHusting$Scene" "wind" "I" ∈ gTbl := gL_of tl1_2 30 rfl (by decide +kernel)
set_option maxRecDepth 16384 in
theorem wd_1279 : Jvm.Cond.constantLong RX11 367 (-2) ∈ gTbl := gL_of tl1_5 195 rfl (by decide +kernel)
set_option maxRecDepth 16384 in
theorem wd_1286 : Jvm.Cond.code yX11_power10 cX11_power10 4 (some .long) ∈ gTbl := gL_of tl1_5 202 rfl (by decide +kernel)
set_option maxRecDepth 16384 in
theorem wd_1284 : Jvm.Cond.methodLink RX11 380 yX11_power10 ∈ gTbl := gL_of tl1_5 200 rfl (by decide +kernel)
set_option maxRecDepth 16384 in
theorem wd_1285 : Jvm.Cond.static yX11_power10 ∈ gTbl := gL_of tl1_5 201 rfl (by decide +kernel)
set_option maxRecDepth 16384 in
theorem wd_1283 : Jvm.Cond.code yX11_windWeight cX11_windWeight 6 (some .long) ∈ gTbl := gL_of tl1_5 199 rfl (by decide +kernel)
set_option maxRecDepth 16384 in
theorem wd_1280 : Jvm.Cond.methodLink RX11 376 yX11_windWeight ∈ gTbl := gL_of tl1_5 196 rfl (by decide +kernel)
set_option maxRecDepth 16384 in
theorem wd_1282 : Jvm.Cond.instanceMethod yX11_windWeight ∈ gTbl := gL_of tl1_5 198 rfl (by decide +kernel)
theorem wd_48 : Jvm.Cond.selects RX11 yX11_windWeight yX11_windWeight ∈ gTbl := gT_of (i := 48) (by decide +kernel) (by decide +kernel)
set_option maxRecDepth 16384 in
theorem wd_1278 : Jvm.Cond.code yX11_isChanceDay cX11_isChanceDay 2 (some .boolean) ∈ gTbl := gL_of tl1_5 194 rfl (by decide +kernel)
set_option maxRecDepth 16384 in
theorem wd_1275 : Jvm.Cond.methodLink RX11 364 yX11_isChanceDay ∈ gTbl := gL_of tl1_5 191 rfl (by decide +kernel)
set_option maxRecDepth 16384 in
theorem wd_1277 : Jvm.Cond.instanceMethod yX11_isChanceDay ∈ gTbl := gL_of tl1_5 193 rfl (by decide +kernel)
theorem wd_47 : Jvm.Cond.selects RX11 yX11_isChanceDay yX11_isChanceDay ∈ gTbl := gT_of (i := 47) (by decide +kernel) (by decide +kernel)
set_option maxRecDepth 16384 in
theorem wd_2108 : Jvm.Cond.constantLong RX12 461 7 ∈ gTbl := gL_of tl1_9 64 rfl (by decide +kernel)
set_option maxRecDepth 16384 in
theorem wd_1438 : Jvm.Cond.fieldLink RX12 451 "RookHustingModel" "oftenAll" "J" ∈ gTbl := gL_of tl1_6 114 rfl (by decide +kernel)
set_option maxRecDepth 16384 in
theorem wd_1439 : Jvm.Cond.fieldLink RX12 455 "RookHustingModel" "oftenLeft" "J" ∈ gTbl := gL_of tl1_6 115 rfl (by decide +kernel)
set_option maxRecDepth 16384 in
theorem wd_1440 : Jvm.Cond.fieldLink RX12 458 "RookHustingModel" "oftenCorn" "J" ∈ gTbl := gL_of tl1_6 116 rfl (by decide +kernel)
set_option maxRecDepth 16384 in
theorem wd_2103 : Jvm.Cond.constantLong RX12 463 300 ∈ gTbl := gL_of tl1_9 59 rfl (by decide +kernel)
set_option maxRecDepth 16384 in
theorem wd_2109 : Jvm.Cond.constantLong RX12 468 (-2) ∈ gTbl := gL_of tl1_9 65 rfl (by decide +kernel)
set_option maxRecDepth 16384 in
theorem wd_2113 : Jvm.Cond.code yX12_layWinds cX12_layWinds 8 none ∈ gTbl := gL_of tl1_9 69 rfl (by decide +kernel)
set_option maxRecDepth 16384 in
theorem wd_2110 : Jvm.Cond.methodLink RX12 470 yX12_layWinds ∈ gTbl := gL_of tl1_9 66 rfl (by decide +kernel)
set_option maxRecDepth 16384 in
theorem wd_2112 : Jvm.Cond.instanceMethod yX12_layWinds ∈ gTbl := gL_of tl1_9 68 rfl (by decide +kernel)
theorem wd_121 : Jvm.Cond.selects RX12 yX12_layWinds yX12_layWinds ∈ gTbl := gT_of (i := 121) (by decide +kernel) (by decide +kernel)
set_option maxRecDepth 16384 in
theorem wd_2107 : Jvm.Cond.code yX12_isWinds cX12_isWinds 3 (some .boolean) ∈ gTbl := gL_of tl1_9 63 rfl (by decide +kernel)
set_option maxRecDepth 16384 in
theorem wd_2104 : Jvm.Cond.methodLink RX12 465 yX12_isWinds ∈ gTbl := gL_of tl1_9 60 rfl (by decide +kernel)
set_option maxRecDepth 16384 in
theorem wd_2106 : Jvm.Cond.instanceMethod yX12_isWinds ∈ gTbl := gL_of tl1_9 62 rfl (by decide +kernel)
theorem wd_120 : Jvm.Cond.selects RX12 yX12_isWinds yX12_isWinds ∈ gTbl := gT_of (i := 120) (by decide +kernel) (by decide +kernel)
set_option maxRecDepth 16384 in
theorem wd_1323 : Jvm.Cond.code yX0_add cX0_add 4 none ∈ gTbl := gL_of tl1_5 239 rfl (by decide +kernel)
set_option maxRecDepth 16384 in
theorem wd_1320 : Jvm.Cond.methodLink RX11 395 yX0_add ∈ gTbl := gL_of tl1_5 236 rfl (by decide +kernel)
set_option maxRecDepth 16384 in
theorem wd_1321 : Jvm.Cond.instanceMethod yX0_add ∈ gTbl := gL_of tl1_5 237 rfl (by decide +kernel)
set_option maxRecDepth 16384 in
theorem wd_1322 : Jvm.Cond.selects RX0 yX0_add yX0_add ∈ gTbl := gL_of tl1_5 238 rfl (by decide +kernel)
set_option maxRecDepth 16384 in
theorem wd_2125 : Jvm.Cond.code yX12_keepAct cX12_keepAct 2 (some .boolean) ∈ gTbl := gL_of tl1_9 81 rfl (by decide +kernel)
set_option maxRecDepth 16384 in
theorem wd_2122 : Jvm.Cond.methodLink RX12 474 yX12_keepAct ∈ gTbl := gL_of tl1_9 78 rfl (by decide +kernel)
set_option maxRecDepth 16384 in
theorem wd_2124 : Jvm.Cond.instanceMethod yX12_keepAct ∈ gTbl := gL_of tl1_9 80 rfl (by decide +kernel)
theorem wd_122 : Jvm.Cond.selects RX12 yX12_keepAct yX12_keepAct ∈ gTbl := gT_of (i := 122) (by decide +kernel) (by decide +kernel)
set_option maxRecDepth 16384 in
theorem wd_1299 : Jvm.Cond.constant RX11 447 2000000000 ∈ gTbl := gL_of tl1_5 215 rfl (by decide +kernel)
set_option maxRecDepth 16384 in
theorem wd_1304 : Jvm.Cond.constantLong RX11 496 1103515245 ∈ gTbl := gL_of tl1_5 220 rfl (by decide +kernel)
set_option maxRecDepth 16384 in
theorem wd_1305 : Jvm.Cond.constantLong RX11 498 12345 ∈ gTbl := gL_of tl1_5 221 rfl (by decide +kernel)
set_option maxRecDepth 16384 in
theorem wd_1306 : Jvm.Cond.constantLong RX11 500 2147483648 ∈ gTbl := gL_of tl1_5 222 rfl (by decide +kernel)
set_option maxRecDepth 16384 in
theorem wd_1307 : Jvm.Cond.constantLong RX11 502 65536 ∈ gTbl := gL_of tl1_5 223 rfl (by decide +kernel)
set_option maxRecDepth 16384 in
theorem wd_1303 : Jvm.Cond.code yX11_drawWind cX11_drawWind 7 (some .int) ∈ gTbl := gL_of tl1_5 219 rfl (by decide +kernel)
set_option maxRecDepth 16384 in
theorem wd_1300 : Jvm.Cond.methodLink RX11 387 yX11_drawWind ∈ gTbl := gL_of tl1_5 216 rfl (by decide +kernel)
set_option maxRecDepth 16384 in
theorem wd_1302 : Jvm.Cond.instanceMethod yX11_drawWind ∈ gTbl := gL_of tl1_5 218 rfl (by decide +kernel)
theorem wd_49 : Jvm.Cond.selects RX11 yX11_drawWind yX11_drawWind ∈ gTbl := gT_of (i := 49) (by decide +kernel) (by decide +kernel)
set_option maxRecDepth 16384 in
theorem wd_1311 : Jvm.Cond.code yX11_drawHarvest cX11_drawHarvest 3 none ∈ gTbl := gL_of tl1_5 227 rfl (by decide +kernel)
set_option maxRecDepth 16384 in
theorem wd_1308 : Jvm.Cond.methodLink RX11 391 yX11_drawHarvest ∈ gTbl := gL_of tl1_5 224 rfl (by decide +kernel)
set_option maxRecDepth 16384 in
theorem wd_1310 : Jvm.Cond.instanceMethod yX11_drawHarvest ∈ gTbl := gL_of tl1_5 226 rfl (by decide +kernel)
theorem wd_50 : Jvm.Cond.selects RX11 yX11_drawHarvest yX11_drawHarvest ∈ gTbl := gT_of (i := 50) (by decide +kernel) (by decide +kernel)
set_option maxRecDepth 16384 in
theorem wd_1298 : Jvm.Cond.code yX11_isSeed cX11_isSeed 1 (some .boolean) ∈ gTbl := gL_of tl1_5 214 rfl (by decide +kernel)
set_option maxRecDepth 16384 in
theorem wd_1296 : Jvm.Cond.methodLink RX11 384 yX11_isSeed ∈ gTbl := gL_of tl1_5 212 rfl (by decide +kernel)
set_option maxRecDepth 16384 in
theorem wd_1297 : Jvm.Cond.static yX11_isSeed ∈ gTbl := gL_of tl1_5 213 rfl (by decide +kernel)
set_option maxRecDepth 16384 in
theorem wd_2145 : Jvm.Cond.constantLong RX12 487 2000000000 ∈ gTbl := gL_of tl1_9 101 rfl (by decide +kernel)
set_option maxRecDepth 16384 in
theorem wd_2150 : Jvm.Cond.constantLong RX12 477 1103515245 ∈ gTbl := gL_of tl1_9 106 rfl (by decide +kernel)
set_option maxRecDepth 16384 in
theorem wd_2151 : Jvm.Cond.constantLong RX12 479 12345 ∈ gTbl := gL_of tl1_9 107 rfl (by decide +kernel)
set_option maxRecDepth 16384 in
theorem wd_2152 : Jvm.Cond.constantLong RX12 481 2147483648 ∈ gTbl := gL_of tl1_9 108 rfl (by decide +kernel)
set_option maxRecDepth 16384 in
theorem wd_2153 : Jvm.Cond.constantLong RX12 483 65536 ∈ gTbl := gL_of tl1_9 109 rfl (by decide +kernel)
set_option maxRecDepth 16384 in
theorem wd_2154 : Jvm.Cond.constantLong RX12 485 10 ∈ gTbl := gL_of tl1_9 110 rfl (by decide +kernel)
set_option maxRecDepth 16384 in
theorem wd_2149 : Jvm.Cond.code yX12_goDrawn cX12_goDrawn 6 none ∈ gTbl := gL_of tl1_9 105 rfl (by decide +kernel)
set_option maxRecDepth 16384 in
theorem wd_2146 : Jvm.Cond.methodLink RX12 492 yX12_goDrawn ∈ gTbl := gL_of tl1_9 102 rfl (by decide +kernel)
set_option maxRecDepth 16384 in
theorem wd_2148 : Jvm.Cond.instanceMethod yX12_goDrawn ∈ gTbl := gL_of tl1_9 104 rfl (by decide +kernel)
theorem wd_123 : Jvm.Cond.selects RX12 yX12_goDrawn yX12_goDrawn ∈ gTbl := gT_of (i := 123) (by decide +kernel) (by decide +kernel)
set_option maxRecDepth 16384 in
theorem wd_2144 : Jvm.Cond.code yX12_isSeed cX12_isSeed 1 (some .boolean) ∈ gTbl := gL_of tl1_9 100 rfl (by decide +kernel)
set_option maxRecDepth 16384 in
theorem wd_2142 : Jvm.Cond.methodLink RX12 489 yX12_isSeed ∈ gTbl := gL_of tl1_9 98 rfl (by decide +kernel)
set_option maxRecDepth 16384 in
theorem wd_2143 : Jvm.Cond.static yX12_isSeed ∈ gTbl := gL_of tl1_9 99 rfl (by decide +kernel)
set_option maxRecDepth 16384 in
theorem wd_2159 : Jvm.Cond.constantLong RX12 496 20 ∈ gTbl := gL_of tl1_9 115 rfl (by decide +kernel)
set_option maxRecDepth 16384 in
theorem wd_2164 : Jvm.Cond.constantLong RX12 498 40 ∈ gTbl := gL_of tl1_9 120 rfl (by decide +kernel)
set_option maxRecDepth 16384 in
theorem wd_1348 : Jvm.Cond.methodLink RX8 22 yX8_hasRow ∈ gTbl := gL_of tl1_6 24 rfl (by decide +kernel)
set_option maxRecDepth 16384 in
theorem wd_217 : Jvm.Cond.fieldLink RX11 402 "RookHusting$Hundred" "hedges" "I" ∈ gTbl := gL_of tl1_1 93 rfl (by decide +kernel)
set_option maxRecDepth 16384 in
theorem wd_1347 : Jvm.Cond.code yX8_countRows cX8_countRows 3 (some .int) ∈ gTbl := gL_of tl1_6 23 rfl (by decide +kernel)
set_option maxRecDepth 16384 in
theorem wd_1344 : Jvm.Cond.methodLink RX11 405 yX8_countRows ∈ gTbl := gL_of tl1_6 20 rfl (by decide +kernel)
set_option maxRecDepth 16384 in
theorem wd_1345 : Jvm.Cond.instanceMethod yX8_countRows ∈ gTbl := gL_of tl1_6 21 rfl (by decide +kernel)
set_option maxRecDepth 16384 in
theorem wd_1346 : Jvm.Cond.selects RX8 yX8_countRows yX8_countRows ∈ gTbl := gL_of tl1_6 22 rfl (by decide +kernel)
set_option maxRecDepth 16384 in
theorem wd_2169 : Jvm.Cond.constantLong RX12 500 8 ∈ gTbl := gL_of tl1_9 125 rfl (by decide +kernel)
set_option maxRecDepth 16384 in
theorem wd_332 : Jvm.Cond.fieldLink RX9 10 "RookHusting$State" "told" "LRookHusting$Hundred;" ∈ gTbl := gL_of tl1_1 208 rfl (by decide +kernel)
set_option maxRecDepth 16384 in
theorem wd_334 : Jvm.Cond.fieldLink RX9 19 "RookHusting$State" "acts" "LRookHusting$Acts;" ∈ gTbl := gL_of tl1_1 210 rfl (by decide +kernel)
set_option maxRecDepth 16384 in
theorem wd_1361 : Jvm.Cond.code yX0_copyFrom cX0_copyFrom 2 none ∈ gTbl := gL_of tl1_6 37 rfl (by decide +kernel)
set_option maxRecDepth 16384 in
theorem wd_1358 : Jvm.Cond.methodLink RX9 27 yX0_copyFrom ∈ gTbl := gL_of tl1_6 34 rfl (by decide +kernel)
set_option maxRecDepth 16384 in
theorem wd_1359 : Jvm.Cond.instanceMethod yX0_copyFrom ∈ gTbl := gL_of tl1_6 35 rfl (by decide +kernel)
set_option maxRecDepth 16384 in
theorem wd_1360 : Jvm.Cond.selects RX0 yX0_copyFrom yX0_copyFrom ∈ gTbl := gL_of tl1_6 36 rfl (by decide +kernel)
set_option maxRecDepth 16384 in
theorem wd_1357 : Jvm.Cond.methodLink RX9 23 yX4_copyFrom ∈ gTbl := gL_of tl1_6 33 rfl (by decide +kernel)
set_option maxRecDepth 16384 in
theorem wd_506 : Jvm.Cond.fieldLink RX11 32 "RookHusting" "images" "[LRookHusting$State;" ∈ gTbl := gL_of tl1_2 142 rfl (by decide +kernel)
set_option maxRecDepth 16384 in
theorem wd_515 : Jvm.Cond.fieldLink RX11 411 "RookHusting" "keptImages" "I" ∈ gTbl := gL_of tl1_2 151 rfl (by decide +kernel)
set_option maxRecDepth 16384 in
theorem wd_1356 : Jvm.Cond.code yX9_copyFrom cX9_copyFrom 2 none ∈ gTbl := gL_of tl1_6 32 rfl (by decide +kernel)
set_option maxRecDepth 16384 in
theorem wd_129 : Jvm.Cond.initialized RX9 ∈ gTbl := gL_of tl1_1 5 rfl (by decide +kernel)
set_option maxRecDepth 16384 in
theorem wd_1353 : Jvm.Cond.methodLink RX11 408 yX9_copyFrom ∈ gTbl := gL_of tl1_6 29 rfl (by decide +kernel)
set_option maxRecDepth 16384 in
theorem wd_1354 : Jvm.Cond.instanceMethod yX9_copyFrom ∈ gTbl := gL_of tl1_6 30 rfl (by decide +kernel)
set_option maxRecDepth 16384 in
theorem wd_1355 : Jvm.Cond.selects RX9 yX9_copyFrom yX9_copyFrom ∈ gTbl := gL_of tl1_6 31 rfl (by decide +kernel)
set_option maxRecDepth 16384 in
theorem wd_1402 : Jvm.Cond.fieldLink RX12 13 "RookHustingModel" "images" "[I" ∈ gTbl := gL_of tl1_6 78 rfl (by decide +kernel)
set_option maxRecDepth 16384 in
theorem wd_1403 : Jvm.Cond.fieldLink RX12 16 "RookHustingModel" "hasImage" "[Z" ∈ gTbl := gL_of tl1_6 79 rfl (by decide +kernel)
set_option maxRecDepth 16384 in
theorem wd_1541 : Jvm.Cond.constantLong RX12 89 2 ∈ gTbl := gL_of tl1_6 217 rfl (by decide +kernel)
set_option maxRecDepth 16384 in
theorem wd_350 : Jvm.Cond.fieldLink RX8 15 "RookHusting$Slots" "widths" "[I" ∈ gTbl := gL_of tl1_1 226 rfl (by decide +kernel)
set_option maxRecDepth 16384 in
theorem wd_1374 : Jvm.Cond.code yX8_renew cX8_renew 5 none ∈ gTbl := gL_of tl1_6 50 rfl (by decide +kernel)
set_option maxRecDepth 16384 in
theorem wd_1371 : Jvm.Cond.methodLink RX11 417 yX8_renew ∈ gTbl := gL_of tl1_6 47 rfl (by decide +kernel)
set_option maxRecDepth 16384 in
theorem wd_1372 : Jvm.Cond.instanceMethod yX8_renew ∈ gTbl := gL_of tl1_6 48 rfl (by decide +kernel)
set_option maxRecDepth 16384 in
theorem wd_1373 : Jvm.Cond.selects RX8 yX8_renew yX8_renew ∈ gTbl := gL_of tl1_6 49 rfl (by decide +kernel)
set_option maxRecDepth 16384 in
theorem wd_1442 : Jvm.Cond.fieldLink RX12 76 "RookHustingModel" "width" "[I" ∈ gTbl := gL_of tl1_6 118 rfl (by decide +kernel)
set_option maxRecDepth 16384 in
theorem wd_1385 : Jvm.Cond.code yX8_cut cX8_cut 3 (some .long) ∈ gTbl := gL_of tl1_6 61 rfl (by decide +kernel)
set_option maxRecDepth 16384 in
theorem wd_1383 : Jvm.Cond.methodLink RX8 26 yX8_cut ∈ gTbl := gL_of tl1_6 59 rfl (by decide +kernel)
set_option maxRecDepth 16384 in
theorem wd_1384 : Jvm.Cond.static yX8_cut ∈ gTbl := gL_of tl1_6 60 rfl (by decide +kernel)
set_option maxRecDepth 16384 in
theorem wd_1382 : Jvm.Cond.code yX8_set cX8_set 5 none ∈ gTbl := gL_of tl1_6 58 rfl (by decide +kernel)
set_option maxRecDepth 16384 in
theorem wd_1379 : Jvm.Cond.methodLink RX11 426 yX8_set ∈ gTbl := gL_of tl1_6 55 rfl (by decide +kernel)
set_option maxRecDepth 16384 in
theorem wd_1380 : Jvm.Cond.instanceMethod yX8_set ∈ gTbl := gL_of tl1_6 56 rfl (by decide +kernel)
set_option maxRecDepth 16384 in
theorem wd_1381 : Jvm.Cond.selects RX8 yX8_set yX8_set ∈ gTbl := gL_of tl1_6 57 rfl (by decide +kernel)
set_option maxRecDepth 16384 in
theorem wd_2180 : Jvm.Cond.code yX12_clipped cX12_clipped 4 (some .long) ∈ gTbl := gL_of tl1_9 136 rfl (by decide +kernel)
set_option maxRecDepth 16384 in
theorem wd_2178 : Jvm.Cond.methodLink RX12 502 yX12_clipped ∈ gTbl := gL_of tl1_9 134 rfl (by decide +kernel)
set_option maxRecDepth 16384 in
theorem wd_2179 : Jvm.Cond.static yX12_clipped ∈ gTbl := gL_of tl1_9 135 rfl (by decide +kernel)
set_option maxRecDepth 16384 in
theorem wd_351 : Jvm.Cond.fieldLink RX11 430 "RookHusting$Slots" "widths" "[I" ∈ gTbl := gL_of tl1_1 227 rfl (by decide +kernel)
set_option maxRecDepth 16384 in
theorem wd_349 : Jvm.Cond.fieldLink RX11 437 "RookHusting$Slots" "numbers" "[J" ∈ gTbl := gL_of tl1_1 225 rfl (by decide +kernel)
set_option maxRecDepth 16384 in
theorem wd_1444 : Jvm.Cond.fieldLink RX12 83 "RookHustingModel" "moving" "[J" ∈ gTbl := gL_of tl1_6 120 rfl (by decide +kernel)
set_option maxRecDepth 16384 in
theorem wd_1393 : Jvm.Cond.code yX8_holds cX8_holds 4 (some .boolean) ∈ gTbl := gL_of tl1_6 69 rfl (by decide +kernel)
set_option maxRecDepth 16384 in
theorem wd_1390 : Jvm.Cond.methodLink RX11 433 yX8_holds ∈ gTbl := gL_of tl1_6 66 rfl (by decide +kernel)
set_option maxRecDepth 16384 in
theorem wd_1391 : Jvm.Cond.instanceMethod yX8_holds ∈ gTbl := gL_of tl1_6 67 rfl (by decide +kernel)
set_option maxRecDepth 16384 in
theorem wd_1392 : Jvm.Cond.selects RX8 yX8_holds yX8_holds ∈ gTbl := gL_of tl1_6 68 rfl (by decide +kernel)
set_option maxRecDepth 16384 in
theorem wd_555 : Jvm.Cond.code yX11_feed cX11_feed 6 (some .int) ∈ gTbl := gL_of tl1_2 191 rfl (by decide +kernel)
set_option maxRecDepth 16384 in
theorem wd_552 : Jvm.Cond.methodLink RL 13 yX11_feed ∈ gTbl := gL_of tl1_2 188 rfl (by decide +kernel)
set_option maxRecDepth 16384 in
theorem wd_553 : Jvm.Cond.instanceMethod yX11_feed ∈ gTbl := gL_of tl1_2 189 rfl (by decide +kernel)
set_option maxRecDepth 16384 in
theorem wd_554 : Jvm.Cond.selects RX11 yX11_feed yX11_feed ∈ gTbl := gL_of tl1_2 190 rfl (by decide +kernel)
set_option maxRecDepth 16384 in
theorem wd_1552 : Jvm.Cond.code yX12_feed cX12_feed 7 (some .int) ∈ gTbl := gL_of tl1_6 228 rfl (by decide +kernel)
set_option maxRecDepth 16384 in
theorem wd_1549 : Jvm.Cond.methodLink RL 17 yX12_feed ∈ gTbl := gL_of tl1_6 225 rfl (by decide +kernel)
set_option maxRecDepth 16384 in
theorem wd_1550 : Jvm.Cond.instanceMethod yX12_feed ∈ gTbl := gL_of tl1_6 226 rfl (by decide +kernel)
set_option maxRecDepth 16384 in
theorem wd_1551 : Jvm.Cond.selects RX12 yX12_feed yX12_feed ∈ gTbl := gL_of tl1_6 227 rfl (by decide +kernel)
set_option maxRecDepth 16384 in
theorem wd_563 : Jvm.Cond.code yX11_end cX11_end 2 (some .int) ∈ gTbl := gL_of tl1_2 199 rfl (by decide +kernel)
set_option maxRecDepth 16384 in
theorem wd_560 : Jvm.Cond.methodLink RL 18 yX11_end ∈ gTbl := gL_of tl1_2 196 rfl (by decide +kernel)
set_option maxRecDepth 16384 in
theorem wd_561 : Jvm.Cond.instanceMethod yX11_end ∈ gTbl := gL_of tl1_2 197 rfl (by decide +kernel)
set_option maxRecDepth 16384 in
theorem wd_562 : Jvm.Cond.selects RX11 yX11_end yX11_end ∈ gTbl := gL_of tl1_2 198 rfl (by decide +kernel)
set_option maxRecDepth 16384 in
theorem wd_1556 : Jvm.Cond.code yX12_end cX12_end 2 (some .int) ∈ gTbl := gL_of tl1_6 232 rfl (by decide +kernel)
set_option maxRecDepth 16384 in
theorem wd_1553 : Jvm.Cond.methodLink RL 22 yX12_end ∈ gTbl := gL_of tl1_6 229 rfl (by decide +kernel)
set_option maxRecDepth 16384 in
theorem wd_1554 : Jvm.Cond.instanceMethod yX12_end ∈ gTbl := gL_of tl1_6 230 rfl (by decide +kernel)
set_option maxRecDepth 16384 in
theorem wd_1555 : Jvm.Cond.selects RX12 yX12_end yX12_end ∈ gTbl := gL_of tl1_6 231 rfl (by decide +kernel)
set_option maxRecDepth 16384 in
theorem wd_567 : Jvm.Cond.code yX11_hundred cX11_hundred 2 (some .int) ∈ gTbl := gL_of tl1_2 203 rfl (by decide +kernel)
set_option maxRecDepth 16384 in
theorem wd_564 : Jvm.Cond.methodLink RL 23 yX11_hundred ∈ gTbl := gL_of tl1_2 200 rfl (by decide +kernel)
set_option maxRecDepth 16384 in
theorem wd_565 : Jvm.Cond.instanceMethod yX11_hundred ∈ gTbl := gL_of tl1_2 201 rfl (by decide +kernel)
set_option maxRecDepth 16384 in
theorem wd_566 : Jvm.Cond.selects RX11 yX11_hundred yX11_hundred ∈ gTbl := gL_of tl1_2 202 rfl (by decide +kernel)
set_option maxRecDepth 16384 in
theorem wd_1564 : Jvm.Cond.code yX12_hundred cX12_hundred 2 (some .int) ∈ gTbl := gL_of tl1_7 0 rfl (by decide +kernel)
set_option maxRecDepth 16384 in
theorem wd_1561 : Jvm.Cond.methodLink RL 27 yX12_hundred ∈ gTbl := gL_of tl1_6 237 rfl (by decide +kernel)
set_option maxRecDepth 16384 in
theorem wd_1562 : Jvm.Cond.instanceMethod yX12_hundred ∈ gTbl := gL_of tl1_6 238 rfl (by decide +kernel)
set_option maxRecDepth 16384 in
theorem wd_1563 : Jvm.Cond.selects RX12 yX12_hundred yX12_hundred ∈ gTbl := gL_of tl1_6 239 rfl (by decide +kernel)
set_option maxRecDepth 16384 in
theorem wd_748 : Jvm.Cond.code yX11_fault cX11_fault 2 (some .int) ∈ gTbl := gL_of tl1_3 144 rfl (by decide +kernel)
set_option maxRecDepth 16384 in
theorem wd_745 : Jvm.Cond.methodLink RL 28 yX11_fault ∈ gTbl := gL_of tl1_3 141 rfl (by decide +kernel)
set_option maxRecDepth 16384 in
theorem wd_746 : Jvm.Cond.instanceMethod yX11_fault ∈ gTbl := gL_of tl1_3 142 rfl (by decide +kernel)
set_option maxRecDepth 16384 in
theorem wd_747 : Jvm.Cond.selects RX11 yX11_fault yX11_fault ∈ gTbl := gL_of tl1_3 143 rfl (by decide +kernel)
set_option maxRecDepth 16384 in
theorem wd_1560 : Jvm.Cond.code yX12_fault cX12_fault 2 (some .int) ∈ gTbl := gL_of tl1_6 236 rfl (by decide +kernel)
set_option maxRecDepth 16384 in
theorem wd_1557 : Jvm.Cond.methodLink RL 31 yX12_fault ∈ gTbl := gL_of tl1_6 233 rfl (by decide +kernel)
set_option maxRecDepth 16384 in
theorem wd_1558 : Jvm.Cond.instanceMethod yX12_fault ∈ gTbl := gL_of tl1_6 234 rfl (by decide +kernel)
set_option maxRecDepth 16384 in
theorem wd_1559 : Jvm.Cond.selects RX12 yX12_fault yX12_fault ∈ gTbl := gL_of tl1_6 235 rfl (by decide +kernel)
set_option maxRecDepth 16384 in
theorem wd_752 : Jvm.Cond.code yX11_field cX11_field 3 (some .int) ∈ gTbl := gL_of tl1_3 148 rfl (by decide +kernel)
set_option maxRecDepth 16384 in
theorem wd_749 : Jvm.Cond.methodLink RL 32 yX11_field ∈ gTbl := gL_of tl1_3 145 rfl (by decide +kernel)
set_option maxRecDepth 16384 in
theorem wd_750 : Jvm.Cond.instanceMethod yX11_field ∈ gTbl := gL_of tl1_3 146 rfl (by decide +kernel)
set_option maxRecDepth 16384 in
theorem wd_751 : Jvm.Cond.selects RX11 yX11_field yX11_field ∈ gTbl := gL_of tl1_3 147 rfl (by decide +kernel)
set_option maxRecDepth 16384 in
theorem wd_1652 : Jvm.Cond.code yX12_field cX12_field 3 (some .int) ∈ gTbl := gL_of tl1_7 88 rfl (by decide +kernel)
set_option maxRecDepth 16384 in
theorem wd_1649 : Jvm.Cond.methodLink RL 36 yX12_field ∈ gTbl := gL_of tl1_7 85 rfl (by decide +kernel)
set_option maxRecDepth 16384 in
theorem wd_1650 : Jvm.Cond.instanceMethod yX12_field ∈ gTbl := gL_of tl1_7 86 rfl (by decide +kernel)
set_option maxRecDepth 16384 in
theorem wd_1651 : Jvm.Cond.selects RX12 yX12_field yX12_field ∈ gTbl := gL_of tl1_7 87 rfl (by decide +kernel)
set_option maxRecDepth 16384 in
theorem wd_763 : Jvm.Cond.code yX11_hedges cX11_hedges 2 (some .int) ∈ gTbl := gL_of tl1_3 159 rfl (by decide +kernel)
set_option maxRecDepth 16384 in
theorem wd_760 : Jvm.Cond.methodLink RL 37 yX11_hedges ∈ gTbl := gL_of tl1_3 156 rfl (by decide +kernel)
set_option maxRecDepth 16384 in
theorem wd_761 : Jvm.Cond.instanceMethod yX11_hedges ∈ gTbl := gL_of tl1_3 157 rfl (by decide +kernel)
set_option maxRecDepth 16384 in
theorem wd_762 : Jvm.Cond.selects RX11 yX11_hedges yX11_hedges ∈ gTbl := gL_of tl1_3 158 rfl (by decide +kernel)
set_option maxRecDepth 16384 in
theorem wd_1861 : Jvm.Cond.code yX12_hedges cX12_hedges 2 (some .int) ∈ gTbl := gL_of tl1_8 57 rfl (by decide +kernel)
set_option maxRecDepth 16384 in
theorem wd_1858 : Jvm.Cond.methodLink RL 40 yX12_hedges ∈ gTbl := gL_of tl1_8 54 rfl (by decide +kernel)
set_option maxRecDepth 16384 in
theorem wd_1859 : Jvm.Cond.instanceMethod yX12_hedges ∈ gTbl := gL_of tl1_8 55 rfl (by decide +kernel)
set_option maxRecDepth 16384 in
theorem wd_1860 : Jvm.Cond.selects RX12 yX12_hedges yX12_hedges ∈ gTbl := gL_of tl1_8 56 rfl (by decide +kernel)
set_option maxRecDepth 16384 in
theorem wd_767 : Jvm.Cond.code yX11_man cX11_man 3 (some .int) ∈ gTbl := gL_of tl1_3 163 rfl (by decide +kernel)
set_option maxRecDepth 16384 in
theorem wd_764 : Jvm.Cond.methodLink RL 41 yX11_man ∈ gTbl := gL_of tl1_3 160 rfl (by decide +kernel)
set_option maxRecDepth 16384 in
theorem wd_765 : Jvm.Cond.instanceMethod yX11_man ∈ gTbl := gL_of tl1_3 161 rfl (by decide +kernel)
set_option maxRecDepth 16384 in
theorem wd_766 : Jvm.Cond.selects RX11 yX11_man yX11_man ∈ gTbl := gL_of tl1_3 162 rfl (by decide +kernel)
set_option maxRecDepth 16384 in
theorem wd_1664 : Jvm.Cond.code yX12_man cX12_man 3 (some .int) ∈ gTbl := gL_of tl1_7 100 rfl (by decide +kernel)
set_option maxRecDepth 16384 in
theorem wd_1661 : Jvm.Cond.methodLink RL 44 yX12_man ∈ gTbl := gL_of tl1_7 97 rfl (by decide +kernel)
set_option maxRecDepth 16384 in
theorem wd_1662 : Jvm.Cond.instanceMethod yX12_man ∈ gTbl := gL_of tl1_7 98 rfl (by decide +kernel)
set_option maxRecDepth 16384 in
theorem wd_1663 : Jvm.Cond.selects RX12 yX12_man yX12_man ∈ gTbl := gL_of tl1_7 99 rfl (by decide +kernel)
set_option maxRecDepth 16384 in
theorem wd_775 : Jvm.Cond.code yX11_hats cX11_hats 2 (some .int) ∈ gTbl := gL_of tl1_3 171 rfl (by decide +kernel)
set_option maxRecDepth 16384 in
theorem wd_772 : Jvm.Cond.methodLink RL 45 yX11_hats ∈ gTbl := gL_of tl1_3 168 rfl (by decide +kernel)
set_option maxRecDepth 16384 in
theorem wd_773 : Jvm.Cond.instanceMethod yX11_hats ∈ gTbl := gL_of tl1_3 169 rfl (by decide +kernel)
set_option maxRecDepth 16384 in
theorem wd_774 : Jvm.Cond.selects RX11 yX11_hats yX11_hats ∈ gTbl := gL_of tl1_3 170 rfl (by decide +kernel)
set_option maxRecDepth 16384 in
theorem wd_1676 : Jvm.Cond.code yX12_hats cX12_hats 2 (some .int) ∈ gTbl := gL_of tl1_7 112 rfl (by decide +kernel)
set_option maxRecDepth 16384 in
theorem wd_1673 : Jvm.Cond.methodLink RL 48 yX12_hats ∈ gTbl := gL_of tl1_7 109 rfl (by decide +kernel)
set_option maxRecDepth 16384 in
theorem wd_1674 : Jvm.Cond.instanceMethod yX12_hats ∈ gTbl := gL_of tl1_7 110 rfl (by decide +kernel)
set_option maxRecDepth 16384 in
theorem wd_1675 : Jvm.Cond.selects RX12 yX12_hats yX12_hats ∈ gTbl := gL_of tl1_7 111 rfl (by decide +kernel)
set_option maxRecDepth 16384 in
theorem wd_783 : Jvm.Cond.code yX11_wants cX11_wants 3 (some .int) ∈ gTbl := gL_of tl1_3 179 rfl (by decide +kernel)
set_option maxRecDepth 16384 in
theorem wd_780 : Jvm.Cond.methodLink RL 49 yX11_wants ∈ gTbl := gL_of tl1_3 176 rfl (by decide +kernel)
set_option maxRecDepth 16384 in
theorem wd_781 : Jvm.Cond.instanceMethod yX11_wants ∈ gTbl := gL_of tl1_3 177 rfl (by decide +kernel)
set_option maxRecDepth 16384 in
theorem wd_782 : Jvm.Cond.selects RX11 yX11_wants yX11_wants ∈ gTbl := gL_of tl1_3 178 rfl (by decide +kernel)
set_option maxRecDepth 16384 in
theorem wd_1688 : Jvm.Cond.code yX12_wants cX12_wants 3 (some .int) ∈ gTbl := gL_of tl1_7 124 rfl (by decide +kernel)
set_option maxRecDepth 16384 in
theorem wd_1685 : Jvm.Cond.methodLink RL 52 yX12_wants ∈ gTbl := gL_of tl1_7 121 rfl (by decide +kernel)
set_option maxRecDepth 16384 in
theorem wd_1686 : Jvm.Cond.instanceMethod yX12_wants ∈ gTbl := gL_of tl1_7 122 rfl (by decide +kernel)
set_option maxRecDepth 16384 in
theorem wd_1687 : Jvm.Cond.selects RX12 yX12_wants yX12_wants ∈ gTbl := gL_of tl1_7 123 rfl (by decide +kernel)
set_option maxRecDepth 16384 in
theorem wd_787 : Jvm.Cond.code yX11_votes cX11_votes 4 (some .int) ∈ gTbl := gL_of tl1_3 183 rfl (by decide +kernel)
set_option maxRecDepth 16384 in
theorem wd_784 : Jvm.Cond.methodLink RL 53 yX11_votes ∈ gTbl := gL_of tl1_3 180 rfl (by decide +kernel)
set_option maxRecDepth 16384 in
theorem wd_785 : Jvm.Cond.instanceMethod yX11_votes ∈ gTbl := gL_of tl1_3 181 rfl (by decide +kernel)
set_option maxRecDepth 16384 in
theorem wd_786 : Jvm.Cond.selects RX11 yX11_votes yX11_votes ∈ gTbl := gL_of tl1_3 182 rfl (by decide +kernel)
set_option maxRecDepth 16384 in
theorem wd_1696 : Jvm.Cond.code yX12_votes cX12_votes 4 (some .int) ∈ gTbl := gL_of tl1_7 132 rfl (by decide +kernel)
set_option maxRecDepth 16384 in
theorem wd_1693 : Jvm.Cond.methodLink RL 57 yX12_votes ∈ gTbl := gL_of tl1_7 129 rfl (by decide +kernel)
set_option maxRecDepth 16384 in
theorem wd_1694 : Jvm.Cond.instanceMethod yX12_votes ∈ gTbl := gL_of tl1_7 130 rfl (by decide +kernel)
set_option maxRecDepth 16384 in
theorem wd_1695 : Jvm.Cond.selects RX12 yX12_votes yX12_votes ∈ gTbl := gL_of tl1_7 131 rfl (by decide +kernel)
set_option maxRecDepth 16384 in
theorem wd_813 : Jvm.Cond.code yX11_elects cX11_elects 3 (some .int) ∈ gTbl := gL_of tl1_3 209 rfl (by decide +kernel)
set_option maxRecDepth 16384 in
theorem wd_810 : Jvm.Cond.methodLink RL 58 yX11_elects ∈ gTbl := gL_of tl1_3 206 rfl (by decide +kernel)
set_option maxRecDepth 16384 in
theorem wd_811 : Jvm.Cond.instanceMethod yX11_elects ∈ gTbl := gL_of tl1_3 207 rfl (by decide +kernel)
set_option maxRecDepth 16384 in
theorem wd_812 : Jvm.Cond.selects RX11 yX11_elects yX11_elects ∈ gTbl := gL_of tl1_3 208 rfl (by decide +kernel)
set_option maxRecDepth 16384 in
theorem wd_1724 : Jvm.Cond.code yX12_elects cX12_elects 3 (some .int) ∈ gTbl := gL_of tl1_7 160 rfl (by decide +kernel)
set_option maxRecDepth 16384 in
theorem wd_1721 : Jvm.Cond.methodLink RL 61 yX12_elects ∈ gTbl := gL_of tl1_7 157 rfl (by decide +kernel)
set_option maxRecDepth 16384 in
theorem wd_1722 : Jvm.Cond.instanceMethod yX12_elects ∈ gTbl := gL_of tl1_7 158 rfl (by decide +kernel)
set_option maxRecDepth 16384 in
theorem wd_1723 : Jvm.Cond.selects RX12 yX12_elects yX12_elects ∈ gTbl := gL_of tl1_7 159 rfl (by decide +kernel)
set_option maxRecDepth 16384 in
theorem wd_832 : Jvm.Cond.code yX11_elected cX11_elected 2 (some .int) ∈ gTbl := gL_of tl1_3 228 rfl (by decide +kernel)
set_option maxRecDepth 16384 in
theorem wd_829 : Jvm.Cond.methodLink RL 62 yX11_elected ∈ gTbl := gL_of tl1_3 225 rfl (by decide +kernel)
set_option maxRecDepth 16384 in
theorem wd_830 : Jvm.Cond.instanceMethod yX11_elected ∈ gTbl := gL_of tl1_3 226 rfl (by decide +kernel)
set_option maxRecDepth 16384 in
theorem wd_831 : Jvm.Cond.selects RX11 yX11_elected yX11_elected ∈ gTbl := gL_of tl1_3 227 rfl (by decide +kernel)
set_option maxRecDepth 16384 in
theorem wd_1740 : Jvm.Cond.code yX12_elected cX12_elected 2 (some .int) ∈ gTbl := gL_of tl1_7 176 rfl (by decide +kernel)
set_option maxRecDepth 16384 in
theorem wd_1737 : Jvm.Cond.methodLink RL 65 yX12_elected ∈ gTbl := gL_of tl1_7 173 rfl (by decide +kernel)
set_option maxRecDepth 16384 in
theorem wd_1738 : Jvm.Cond.instanceMethod yX12_elected ∈ gTbl := gL_of tl1_7 174 rfl (by decide +kernel)
set_option maxRecDepth 16384 in
theorem wd_1739 : Jvm.Cond.selects RX12 yX12_elected yX12_elected ∈ gTbl := gL_of tl1_7 175 rfl (by decide +kernel)
set_option maxRecDepth 16384 in
theorem wd_845 : Jvm.Cond.code yX11_stands cX11_stands 2 (some .int) ∈ gTbl := gL_of tl1_4 1 rfl (by decide +kernel)
set_option maxRecDepth 16384 in
theorem wd_842 : Jvm.Cond.methodLink RL 66 yX11_stands ∈ gTbl := gL_of tl1_3 238 rfl (by decide +kernel)
set_option maxRecDepth 16384 in
theorem wd_843 : Jvm.Cond.instanceMethod yX11_stands ∈ gTbl := gL_of tl1_3 239 rfl (by decide +kernel)
set_option maxRecDepth 16384 in
theorem wd_844 : Jvm.Cond.selects RX11 yX11_stands yX11_stands ∈ gTbl := gL_of tl1_4 0 rfl (by decide +kernel)
set_option maxRecDepth 16384 in
theorem wd_1833 : Jvm.Cond.code yX12_stands cX12_stands 2 (some .int) ∈ gTbl := gL_of tl1_8 29 rfl (by decide +kernel)
set_option maxRecDepth 16384 in
theorem wd_1830 : Jvm.Cond.methodLink RL 69 yX12_stands ∈ gTbl := gL_of tl1_8 26 rfl (by decide +kernel)
set_option maxRecDepth 16384 in
theorem wd_1831 : Jvm.Cond.instanceMethod yX12_stands ∈ gTbl := gL_of tl1_8 27 rfl (by decide +kernel)
set_option maxRecDepth 16384 in
theorem wd_1832 : Jvm.Cond.selects RX12 yX12_stands yX12_stands ∈ gTbl := gL_of tl1_8 28 rfl (by decide +kernel)
set_option maxRecDepth 16384 in
theorem wd_895 : Jvm.Cond.code yX11_where cX11_where 2 (some .int) ∈ gTbl := gL_of tl1_4 51 rfl (by decide +kernel)
set_option maxRecDepth 16384 in
theorem wd_892 : Jvm.Cond.methodLink RL 70 yX11_where ∈ gTbl := gL_of tl1_4 48 rfl (by decide +kernel)
set_option maxRecDepth 16384 in
theorem wd_893 : Jvm.Cond.instanceMethod yX11_where ∈ gTbl := gL_of tl1_4 49 rfl (by decide +kernel)
set_option maxRecDepth 16384 in
theorem wd_894 : Jvm.Cond.selects RX11 yX11_where yX11_where ∈ gTbl := gL_of tl1_4 50 rfl (by decide +kernel)
set_option maxRecDepth 16384 in
theorem wd_1853 : Jvm.Cond.code yX12_where cX12_where 3 (some .int) ∈ gTbl := gL_of tl1_8 49 rfl (by decide +kernel)
set_option maxRecDepth 16384 in
theorem wd_1850 : Jvm.Cond.methodLink RL 73 yX12_where ∈ gTbl := gL_of tl1_8 46 rfl (by decide +kernel)
set_option maxRecDepth 16384 in
theorem wd_1851 : Jvm.Cond.instanceMethod yX12_where ∈ gTbl := gL_of tl1_8 47 rfl (by decide +kernel)
set_option maxRecDepth 16384 in
theorem wd_1852 : Jvm.Cond.selects RX12 yX12_where yX12_where ∈ gTbl := gL_of tl1_8 48 rfl (by decide +kernel)
set_option maxRecDepth 16384 in
theorem wd_900 : Jvm.Cond.code yX11_over cX11_over 3 (some .int) ∈ gTbl := gL_of tl1_4 56 rfl (by decide +kernel)
set_option maxRecDepth 16384 in
theorem wd_897 : Jvm.Cond.methodLink RL 74 yX11_over ∈ gTbl := gL_of tl1_4 53 rfl (by decide +kernel)
set_option maxRecDepth 16384 in
theorem wd_898 : Jvm.Cond.instanceMethod yX11_over ∈ gTbl := gL_of tl1_4 54 rfl (by decide +kernel)
set_option maxRecDepth 16384 in
theorem wd_899 : Jvm.Cond.selects RX11 yX11_over yX11_over ∈ gTbl := gL_of tl1_4 55 rfl (by decide +kernel)
set_option maxRecDepth 16384 in
theorem wd_1748 : Jvm.Cond.code yX12_over cX12_over 3 (some .int) ∈ gTbl := gL_of tl1_7 184 rfl (by decide +kernel)
set_option maxRecDepth 16384 in
theorem wd_1745 : Jvm.Cond.methodLink RL 77 yX12_over ∈ gTbl := gL_of tl1_7 181 rfl (by decide +kernel)
set_option maxRecDepth 16384 in
theorem wd_1746 : Jvm.Cond.instanceMethod yX12_over ∈ gTbl := gL_of tl1_7 182 rfl (by decide +kernel)
set_option maxRecDepth 16384 in
theorem wd_1747 : Jvm.Cond.selects RX12 yX12_over yX12_over ∈ gTbl := gL_of tl1_7 183 rfl (by decide +kernel)
set_option maxRecDepth 16384 in
theorem wd_912 : Jvm.Cond.code yX11_beats cX11_beats 1 (some .int) ∈ gTbl := gL_of tl1_4 68 rfl (by decide +kernel)
set_option maxRecDepth 16384 in
theorem wd_909 : Jvm.Cond.methodLink RL 78 yX11_beats ∈ gTbl := gL_of tl1_4 65 rfl (by decide +kernel)
set_option maxRecDepth 16384 in
theorem wd_910 : Jvm.Cond.instanceMethod yX11_beats ∈ gTbl := gL_of tl1_4 66 rfl (by decide +kernel)
set_option maxRecDepth 16384 in
theorem wd_911 : Jvm.Cond.selects RX11 yX11_beats yX11_beats ∈ gTbl := gL_of tl1_4 67 rfl (by decide +kernel)
set_option maxRecDepth 16384 in
theorem wd_1760 : Jvm.Cond.code yX12_beats cX12_beats 4 (some .int) ∈ gTbl := gL_of tl1_7 196 rfl (by decide +kernel)
set_option maxRecDepth 16384 in
theorem wd_1757 : Jvm.Cond.methodLink RL 81 yX12_beats ∈ gTbl := gL_of tl1_7 193 rfl (by decide +kernel)
set_option maxRecDepth 16384 in
theorem wd_1758 : Jvm.Cond.instanceMethod yX12_beats ∈ gTbl := gL_of tl1_7 194 rfl (by decide +kernel)
set_option maxRecDepth 16384 in
theorem wd_1759 : Jvm.Cond.selects RX12 yX12_beats yX12_beats ∈ gTbl := gL_of tl1_7 195 rfl (by decide +kernel)
set_option maxRecDepth 16384 in
theorem wd_925 : Jvm.Cond.code yX11_rings cX11_rings 1 (some .int) ∈ gTbl := gL_of tl1_4 81 rfl (by decide +kernel)
set_option maxRecDepth 16384 in
theorem wd_922 : Jvm.Cond.methodLink RL 82 yX11_rings ∈ gTbl := gL_of tl1_4 78 rfl (by decide +kernel)
set_option maxRecDepth 16384 in
theorem wd_923 : Jvm.Cond.instanceMethod yX11_rings ∈ gTbl := gL_of tl1_4 79 rfl (by decide +kernel)
set_option maxRecDepth 16384 in
theorem wd_924 : Jvm.Cond.selects RX11 yX11_rings yX11_rings ∈ gTbl := gL_of tl1_4 80 rfl (by decide +kernel)
set_option maxRecDepth 16384 in
theorem wd_1768 : Jvm.Cond.code yX12_rings cX12_rings 5 (some .int) ∈ gTbl := gL_of tl1_7 204 rfl (by decide +kernel)
set_option maxRecDepth 16384 in
theorem wd_1765 : Jvm.Cond.methodLink RL 85 yX12_rings ∈ gTbl := gL_of tl1_7 201 rfl (by decide +kernel)
set_option maxRecDepth 16384 in
theorem wd_1766 : Jvm.Cond.instanceMethod yX12_rings ∈ gTbl := gL_of tl1_7 202 rfl (by decide +kernel)
set_option maxRecDepth 16384 in
theorem wd_1767 : Jvm.Cond.selects RX12 yX12_rings yX12_rings ∈ gTbl := gL_of tl1_7 203 rfl (by decide +kernel)
set_option maxRecDepth 16384 in
theorem wd_937 : Jvm.Cond.code yX11_least cX11_least 2 (some .int) ∈ gTbl := gL_of tl1_4 93 rfl (by decide +kernel)
set_option maxRecDepth 16384 in
theorem wd_934 : Jvm.Cond.methodLink RL 86 yX11_least ∈ gTbl := gL_of tl1_4 90 rfl (by decide +kernel)
set_option maxRecDepth 16384 in
theorem wd_935 : Jvm.Cond.instanceMethod yX11_least ∈ gTbl := gL_of tl1_4 91 rfl (by decide +kernel)
set_option maxRecDepth 16384 in
theorem wd_936 : Jvm.Cond.selects RX11 yX11_least yX11_least ∈ gTbl := gL_of tl1_4 92 rfl (by decide +kernel)
set_option maxRecDepth 16384 in
theorem wd_1776 : Jvm.Cond.code yX12_least cX12_least 3 (some .int) ∈ gTbl := gL_of tl1_7 212 rfl (by decide +kernel)
set_option maxRecDepth 16384 in
theorem wd_1773 : Jvm.Cond.methodLink RL 89 yX12_least ∈ gTbl := gL_of tl1_7 209 rfl (by decide +kernel)
set_option maxRecDepth 16384 in
theorem wd_1774 : Jvm.Cond.instanceMethod yX12_least ∈ gTbl := gL_of tl1_7 210 rfl (by decide +kernel)
set_option maxRecDepth 16384 in
theorem wd_1775 : Jvm.Cond.selects RX12 yX12_least yX12_least ∈ gTbl := gL_of tl1_7 211 rfl (by decide +kernel)
set_option maxRecDepth 16384 in
theorem wd_953 : Jvm.Cond.code yX11_gains cX11_gains 2 (some .int) ∈ gTbl := gL_of tl1_4 109 rfl (by decide +kernel)
set_option maxRecDepth 16384 in
theorem wd_950 : Jvm.Cond.methodLink RL 90 yX11_gains ∈ gTbl := gL_of tl1_4 106 rfl (by decide +kernel)
set_option maxRecDepth 16384 in
theorem wd_951 : Jvm.Cond.instanceMethod yX11_gains ∈ gTbl := gL_of tl1_4 107 rfl (by decide +kernel)
set_option maxRecDepth 16384 in
theorem wd_952 : Jvm.Cond.selects RX11 yX11_gains yX11_gains ∈ gTbl := gL_of tl1_4 108 rfl (by decide +kernel)
set_option maxRecDepth 16384 in
theorem wd_1785 : Jvm.Cond.code yX12_gains cX12_gains 2 (some .int) ∈ gTbl := gL_of tl1_7 221 rfl (by decide +kernel)
set_option maxRecDepth 16384 in
theorem wd_1782 : Jvm.Cond.methodLink RL 93 yX12_gains ∈ gTbl := gL_of tl1_7 218 rfl (by decide +kernel)
set_option maxRecDepth 16384 in
theorem wd_1783 : Jvm.Cond.instanceMethod yX12_gains ∈ gTbl := gL_of tl1_7 219 rfl (by decide +kernel)
set_option maxRecDepth 16384 in
theorem wd_1784 : Jvm.Cond.selects RX12 yX12_gains yX12_gains ∈ gTbl := gL_of tl1_7 220 rfl (by decide +kernel)
set_option maxRecDepth 16384 in
theorem wd_970 : Jvm.Cond.code yX11_plain cX11_plain 1 (some .int) ∈ gTbl := gL_of tl1_4 126 rfl (by decide +kernel)
set_option maxRecDepth 16384 in
theorem wd_967 : Jvm.Cond.methodLink RL 94 yX11_plain ∈ gTbl := gL_of tl1_4 123 rfl (by decide +kernel)
set_option maxRecDepth 16384 in
theorem wd_968 : Jvm.Cond.instanceMethod yX11_plain ∈ gTbl := gL_of tl1_4 124 rfl (by decide +kernel)
set_option maxRecDepth 16384 in
theorem wd_969 : Jvm.Cond.selects RX11 yX11_plain yX11_plain ∈ gTbl := gL_of tl1_4 125 rfl (by decide +kernel)
set_option maxRecDepth 16384 in
theorem wd_1797 : Jvm.Cond.code yX12_plain cX12_plain 3 (some .int) ∈ gTbl := gL_of tl1_7 233 rfl (by decide +kernel)
set_option maxRecDepth 16384 in
theorem wd_1794 : Jvm.Cond.methodLink RL 97 yX12_plain ∈ gTbl := gL_of tl1_7 230 rfl (by decide +kernel)
set_option maxRecDepth 16384 in
theorem wd_1795 : Jvm.Cond.instanceMethod yX12_plain ∈ gTbl := gL_of tl1_7 231 rfl (by decide +kernel)
set_option maxRecDepth 16384 in
theorem wd_1796 : Jvm.Cond.selects RX12 yX12_plain yX12_plain ∈ gTbl := gL_of tl1_7 232 rfl (by decide +kernel)
set_option maxRecDepth 16384 in
theorem wd_974 : Jvm.Cond.code yX11_power cX11_power 3 (some .int) ∈ gTbl := gL_of tl1_4 130 rfl (by decide +kernel)
set_option maxRecDepth 16384 in
theorem wd_971 : Jvm.Cond.methodLink RL 98 yX11_power ∈ gTbl := gL_of tl1_4 127 rfl (by decide +kernel)
set_option maxRecDepth 16384 in
theorem wd_972 : Jvm.Cond.instanceMethod yX11_power ∈ gTbl := gL_of tl1_4 128 rfl (by decide +kernel)
set_option maxRecDepth 16384 in
theorem wd_973 : Jvm.Cond.selects RX11 yX11_power yX11_power ∈ gTbl := gL_of tl1_4 129 rfl (by decide +kernel)
set_option maxRecDepth 16384 in
theorem wd_1801 : Jvm.Cond.code yX12_power cX12_power 8 (some .int) ∈ gTbl := gL_of tl1_7 237 rfl (by decide +kernel)
set_option maxRecDepth 16384 in
theorem wd_1798 : Jvm.Cond.methodLink RL 101 yX12_power ∈ gTbl := gL_of tl1_7 234 rfl (by decide +kernel)
set_option maxRecDepth 16384 in
theorem wd_1799 : Jvm.Cond.instanceMethod yX12_power ∈ gTbl := gL_of tl1_7 235 rfl (by decide +kernel)
set_option maxRecDepth 16384 in
theorem wd_1800 : Jvm.Cond.selects RX12 yX12_power yX12_power ∈ gTbl := gL_of tl1_7 236 rfl (by decide +kernel)
set_option maxRecDepth 16384 in
theorem wd_1015 : Jvm.Cond.code yX11_fear cX11_fear 3 (some .int) ∈ gTbl := gL_of tl1_4 171 rfl (by decide +kernel)
set_option maxRecDepth 16384 in
theorem wd_1012 : Jvm.Cond.methodLink RL 102 yX11_fear ∈ gTbl := gL_of tl1_4 168 rfl (by decide +kernel)
set_option maxRecDepth 16384 in
theorem wd_1013 : Jvm.Cond.instanceMethod yX11_fear ∈ gTbl := gL_of tl1_4 169 rfl (by decide +kernel)
set_option maxRecDepth 16384 in
theorem wd_1014 : Jvm.Cond.selects RX11 yX11_fear yX11_fear ∈ gTbl := gL_of tl1_4 170 rfl (by decide +kernel)
set_option maxRecDepth 16384 in
theorem wd_1869 : Jvm.Cond.code yX12_fear cX12_fear 3 (some .int) ∈ gTbl := gL_of tl1_8 65 rfl (by decide +kernel)
set_option maxRecDepth 16384 in
theorem wd_1866 : Jvm.Cond.methodLink RL 105 yX12_fear ∈ gTbl := gL_of tl1_8 62 rfl (by decide +kernel)
set_option maxRecDepth 16384 in
theorem wd_1867 : Jvm.Cond.instanceMethod yX12_fear ∈ gTbl := gL_of tl1_8 63 rfl (by decide +kernel)
set_option maxRecDepth 16384 in
theorem wd_1868 : Jvm.Cond.selects RX12 yX12_fear yX12_fear ∈ gTbl := gL_of tl1_8 64 rfl (by decide +kernel)
set_option maxRecDepth 16384 in
theorem wd_1027 : Jvm.Cond.code yX11_rooks cX11_rooks 3 (some .int) ∈ gTbl := gL_of tl1_4 183 rfl (by decide +kernel)
set_option maxRecDepth 16384 in
theorem wd_1024 : Jvm.Cond.methodLink RL 106 yX11_rooks ∈ gTbl := gL_of tl1_4 180 rfl (by decide +kernel)
set_option maxRecDepth 16384 in
theorem wd_1025 : Jvm.Cond.instanceMethod yX11_rooks ∈ gTbl := gL_of tl1_4 181 rfl (by decide +kernel)
set_option maxRecDepth 16384 in
theorem wd_1026 : Jvm.Cond.selects RX11 yX11_rooks yX11_rooks ∈ gTbl := gL_of tl1_4 182 rfl (by decide +kernel)
set_option maxRecDepth 16384 in
theorem wd_1906 : Jvm.Cond.code yX12_rooks cX12_rooks 3 (some .int) ∈ gTbl := gL_of tl1_8 102 rfl (by decide +kernel)
set_option maxRecDepth 16384 in
theorem wd_1903 : Jvm.Cond.methodLink RL 109 yX12_rooks ∈ gTbl := gL_of tl1_8 99 rfl (by decide +kernel)
set_option maxRecDepth 16384 in
theorem wd_1904 : Jvm.Cond.instanceMethod yX12_rooks ∈ gTbl := gL_of tl1_8 100 rfl (by decide +kernel)
set_option maxRecDepth 16384 in
theorem wd_1905 : Jvm.Cond.selects RX12 yX12_rooks yX12_rooks ∈ gTbl := gL_of tl1_8 101 rfl (by decide +kernel)
set_option maxRecDepth 16384 in
theorem wd_1031 : Jvm.Cond.code yX11_corn cX11_corn 3 (some .int) ∈ gTbl := gL_of tl1_4 187 rfl (by decide +kernel)
set_option maxRecDepth 16384 in
theorem wd_1028 : Jvm.Cond.methodLink RL 110 yX11_corn ∈ gTbl := gL_of tl1_4 184 rfl (by decide +kernel)
set_option maxRecDepth 16384 in
theorem wd_1029 : Jvm.Cond.instanceMethod yX11_corn ∈ gTbl := gL_of tl1_4 185 rfl (by decide +kernel)
set_option maxRecDepth 16384 in
theorem wd_1030 : Jvm.Cond.selects RX11 yX11_corn yX11_corn ∈ gTbl := gL_of tl1_4 186 rfl (by decide +kernel)
set_option maxRecDepth 16384 in
theorem wd_1910 : Jvm.Cond.code yX12_corn cX12_corn 3 (some .int) ∈ gTbl := gL_of tl1_8 106 rfl (by decide +kernel)
set_option maxRecDepth 16384 in
theorem wd_1907 : Jvm.Cond.methodLink RL 113 yX12_corn ∈ gTbl := gL_of tl1_8 103 rfl (by decide +kernel)
set_option maxRecDepth 16384 in
theorem wd_1908 : Jvm.Cond.instanceMethod yX12_corn ∈ gTbl := gL_of tl1_8 104 rfl (by decide +kernel)
set_option maxRecDepth 16384 in
theorem wd_1909 : Jvm.Cond.selects RX12 yX12_corn yX12_corn ∈ gTbl := gL_of tl1_8 105 rfl (by decide +kernel)
set_option maxRecDepth 16384 in
theorem wd_1035 : Jvm.Cond.code yX11_eaten cX11_eaten 3 (some .int) ∈ gTbl := gL_of tl1_4 191 rfl (by decide +kernel)
set_option maxRecDepth 16384 in
theorem wd_1032 : Jvm.Cond.methodLink RL 114 yX11_eaten ∈ gTbl := gL_of tl1_4 188 rfl (by decide +kernel)
set_option maxRecDepth 16384 in
theorem wd_1033 : Jvm.Cond.instanceMethod yX11_eaten ∈ gTbl := gL_of tl1_4 189 rfl (by decide +kernel)
set_option maxRecDepth 16384 in
theorem wd_1034 : Jvm.Cond.selects RX11 yX11_eaten yX11_eaten ∈ gTbl := gL_of tl1_4 190 rfl (by decide +kernel)
set_option maxRecDepth 16384 in
theorem wd_1914 : Jvm.Cond.code yX12_eaten cX12_eaten 3 (some .int) ∈ gTbl := gL_of tl1_8 110 rfl (by decide +kernel)
set_option maxRecDepth 16384 in
theorem wd_1911 : Jvm.Cond.methodLink RL 117 yX12_eaten ∈ gTbl := gL_of tl1_8 107 rfl (by decide +kernel)
set_option maxRecDepth 16384 in
theorem wd_1912 : Jvm.Cond.instanceMethod yX12_eaten ∈ gTbl := gL_of tl1_8 108 rfl (by decide +kernel)
set_option maxRecDepth 16384 in
theorem wd_1913 : Jvm.Cond.selects RX12 yX12_eaten yX12_eaten ∈ gTbl := gL_of tl1_8 109 rfl (by decide +kernel)
set_option maxRecDepth 16384 in
theorem wd_1043 : Jvm.Cond.code yX11_flies cX11_flies 3 (some .int) ∈ gTbl := gL_of tl1_4 199 rfl (by decide +kernel)
set_option maxRecDepth 16384 in
theorem wd_1040 : Jvm.Cond.methodLink RL 118 yX11_flies ∈ gTbl := gL_of tl1_4 196 rfl (by decide +kernel)
set_option maxRecDepth 16384 in
theorem wd_1041 : Jvm.Cond.instanceMethod yX11_flies ∈ gTbl := gL_of tl1_4 197 rfl (by decide +kernel)
set_option maxRecDepth 16384 in
theorem wd_1042 : Jvm.Cond.selects RX11 yX11_flies yX11_flies ∈ gTbl := gL_of tl1_4 198 rfl (by decide +kernel)
set_option maxRecDepth 16384 in
theorem wd_1926 : Jvm.Cond.code yX12_flies cX12_flies 3 (some .int) ∈ gTbl := gL_of tl1_8 122 rfl (by decide +kernel)
set_option maxRecDepth 16384 in
theorem wd_1923 : Jvm.Cond.methodLink RL 121 yX12_flies ∈ gTbl := gL_of tl1_8 119 rfl (by decide +kernel)
set_option maxRecDepth 16384 in
theorem wd_1924 : Jvm.Cond.instanceMethod yX12_flies ∈ gTbl := gL_of tl1_8 120 rfl (by decide +kernel)
set_option maxRecDepth 16384 in
theorem wd_1925 : Jvm.Cond.selects RX12 yX12_flies yX12_flies ∈ gTbl := gL_of tl1_8 121 rfl (by decide +kernel)
set_option maxRecDepth 16384 in
theorem wd_1047 : Jvm.Cond.code yX11_all cX11_all 2 (some .int) ∈ gTbl := gL_of tl1_4 203 rfl (by decide +kernel)
set_option maxRecDepth 16384 in
theorem wd_1044 : Jvm.Cond.methodLink RL 122 yX11_all ∈ gTbl := gL_of tl1_4 200 rfl (by decide +kernel)
set_option maxRecDepth 16384 in
theorem wd_1045 : Jvm.Cond.instanceMethod yX11_all ∈ gTbl := gL_of tl1_4 201 rfl (by decide +kernel)
set_option maxRecDepth 16384 in
theorem wd_1046 : Jvm.Cond.selects RX11 yX11_all yX11_all ∈ gTbl := gL_of tl1_4 202 rfl (by decide +kernel)
set_option maxRecDepth 16384 in
theorem wd_1930 : Jvm.Cond.code yX12_all cX12_all 2 (some .int) ∈ gTbl := gL_of tl1_8 126 rfl (by decide +kernel)
set_option maxRecDepth 16384 in
theorem wd_1927 : Jvm.Cond.methodLink RL 125 yX12_all ∈ gTbl := gL_of tl1_8 123 rfl (by decide +kernel)
set_option maxRecDepth 16384 in
theorem wd_1928 : Jvm.Cond.instanceMethod yX12_all ∈ gTbl := gL_of tl1_8 124 rfl (by decide +kernel)
set_option maxRecDepth 16384 in
theorem wd_1929 : Jvm.Cond.selects RX12 yX12_all yX12_all ∈ gTbl := gL_of tl1_8 125 rfl (by decide +kernel)
set_option maxRecDepth 16384 in
theorem wd_1059 : Jvm.Cond.code yX11_black cX11_black 2 (some .int) ∈ gTbl := gL_of tl1_4 215 rfl (by decide +kernel)
set_option maxRecDepth 16384 in
theorem wd_1056 : Jvm.Cond.methodLink RL 126 yX11_black ∈ gTbl := gL_of tl1_4 212 rfl (by decide +kernel)
set_option maxRecDepth 16384 in
theorem wd_1057 : Jvm.Cond.instanceMethod yX11_black ∈ gTbl := gL_of tl1_4 213 rfl (by decide +kernel)
set_option maxRecDepth 16384 in
theorem wd_1058 : Jvm.Cond.selects RX11 yX11_black yX11_black ∈ gTbl := gL_of tl1_4 214 rfl (by decide +kernel)
set_option maxRecDepth 16384 in
theorem wd_1938 : Jvm.Cond.code yX12_black cX12_black 4 (some .int) ∈ gTbl := gL_of tl1_8 134 rfl (by decide +kernel)
set_option maxRecDepth 16384 in
theorem wd_1935 : Jvm.Cond.methodLink RL 129 yX12_black ∈ gTbl := gL_of tl1_8 131 rfl (by decide +kernel)
set_option maxRecDepth 16384 in
theorem wd_1936 : Jvm.Cond.instanceMethod yX12_black ∈ gTbl := gL_of tl1_8 132 rfl (by decide +kernel)
set_option maxRecDepth 16384 in
theorem wd_1937 : Jvm.Cond.selects RX12 yX12_black yX12_black ∈ gTbl := gL_of tl1_8 133 rfl (by decide +kernel)
set_option maxRecDepth 16384 in
theorem wd_1075 : Jvm.Cond.code yX11_shoulder cX11_shoulder 2 (some .int) ∈ gTbl := gL_of tl1_4 231 rfl (by decide +kernel)
set_option maxRecDepth 16384 in
theorem wd_1072 : Jvm.Cond.methodLink RL 130 yX11_shoulder ∈ gTbl := gL_of tl1_4 228 rfl (by decide +kernel)
set_option maxRecDepth 16384 in
theorem wd_1073 : Jvm.Cond.instanceMethod yX11_shoulder ∈ gTbl := gL_of tl1_4 229 rfl (by decide +kernel)
set_option maxRecDepth 16384 in
theorem wd_1074 : Jvm.Cond.selects RX11 yX11_shoulder yX11_shoulder ∈ gTbl := gL_of tl1_4 230 rfl (by decide +kernel)
set_option maxRecDepth 16384 in
theorem wd_1942 : Jvm.Cond.code yX12_shoulder cX12_shoulder 3 (some .int) ∈ gTbl := gL_of tl1_8 138 rfl (by decide +kernel)
set_option maxRecDepth 16384 in
theorem wd_1939 : Jvm.Cond.methodLink RL 133 yX12_shoulder ∈ gTbl := gL_of tl1_8 135 rfl (by decide +kernel)
set_option maxRecDepth 16384 in
theorem wd_1940 : Jvm.Cond.instanceMethod yX12_shoulder ∈ gTbl := gL_of tl1_8 136 rfl (by decide +kernel)
set_option maxRecDepth 16384 in
theorem wd_1941 : Jvm.Cond.selects RX12 yX12_shoulder yX12_shoulder ∈ gTbl := gL_of tl1_8 137 rfl (by decide +kernel)
set_option maxRecDepth 16384 in
theorem wd_1087 : Jvm.Cond.code yX11_bare cX11_bare 2 (some .int) ∈ gTbl := gL_of tl1_5 3 rfl (by decide +kernel)
set_option maxRecDepth 16384 in
theorem wd_1084 : Jvm.Cond.methodLink RL 134 yX11_bare ∈ gTbl := gL_of tl1_5 0 rfl (by decide +kernel)
set_option maxRecDepth 16384 in
theorem wd_1085 : Jvm.Cond.instanceMethod yX11_bare ∈ gTbl := gL_of tl1_5 1 rfl (by decide +kernel)
set_option maxRecDepth 16384 in
theorem wd_1086 : Jvm.Cond.selects RX11 yX11_bare yX11_bare ∈ gTbl := gL_of tl1_5 2 rfl (by decide +kernel)
set_option maxRecDepth 16384 in
theorem wd_1950 : Jvm.Cond.code yX12_bare cX12_bare 3 (some .int) ∈ gTbl := gL_of tl1_8 146 rfl (by decide +kernel)
set_option maxRecDepth 16384 in
theorem wd_1947 : Jvm.Cond.methodLink RL 137 yX12_bare ∈ gTbl := gL_of tl1_8 143 rfl (by decide +kernel)
set_option maxRecDepth 16384 in
theorem wd_1948 : Jvm.Cond.instanceMethod yX12_bare ∈ gTbl := gL_of tl1_8 144 rfl (by decide +kernel)
set_option maxRecDepth 16384 in
theorem wd_1949 : Jvm.Cond.selects RX12 yX12_bare yX12_bare ∈ gTbl := gL_of tl1_8 145 rfl (by decide +kernel)
set_option maxRecDepth 16384 in
theorem wd_1091 : Jvm.Cond.code yX11_kept cX11_kept 3 (some .int) ∈ gTbl := gL_of tl1_5 7 rfl (by decide +kernel)
set_option maxRecDepth 16384 in
theorem wd_1088 : Jvm.Cond.methodLink RL 138 yX11_kept ∈ gTbl := gL_of tl1_5 4 rfl (by decide +kernel)
set_option maxRecDepth 16384 in
theorem wd_1089 : Jvm.Cond.instanceMethod yX11_kept ∈ gTbl := gL_of tl1_5 5 rfl (by decide +kernel)
set_option maxRecDepth 16384 in
theorem wd_1090 : Jvm.Cond.selects RX11 yX11_kept yX11_kept ∈ gTbl := gL_of tl1_5 6 rfl (by decide +kernel)
set_option maxRecDepth 16384 in
theorem wd_1954 : Jvm.Cond.code yX12_kept cX12_kept 3 (some .int) ∈ gTbl := gL_of tl1_8 150 rfl (by decide +kernel)
set_option maxRecDepth 16384 in
theorem wd_1951 : Jvm.Cond.methodLink RL 141 yX12_kept ∈ gTbl := gL_of tl1_8 147 rfl (by decide +kernel)
set_option maxRecDepth 16384 in
theorem wd_1952 : Jvm.Cond.instanceMethod yX12_kept ∈ gTbl := gL_of tl1_8 148 rfl (by decide +kernel)
set_option maxRecDepth 16384 in
theorem wd_1953 : Jvm.Cond.selects RX12 yX12_kept yX12_kept ∈ gTbl := gL_of tl1_8 149 rfl (by decide +kernel)
set_option maxRecDepth 16384 in
theorem wd_1099 : Jvm.Cond.code yX11_worst cX11_worst 3 (some .int) ∈ gTbl := gL_of tl1_5 15 rfl (by decide +kernel)
set_option maxRecDepth 16384 in
theorem wd_1096 : Jvm.Cond.methodLink RL 142 yX11_worst ∈ gTbl := gL_of tl1_5 12 rfl (by decide +kernel)
set_option maxRecDepth 16384 in
theorem wd_1097 : Jvm.Cond.instanceMethod yX11_worst ∈ gTbl := gL_of tl1_5 13 rfl (by decide +kernel)
set_option maxRecDepth 16384 in
theorem wd_1098 : Jvm.Cond.selects RX11 yX11_worst yX11_worst ∈ gTbl := gL_of tl1_5 14 rfl (by decide +kernel)
set_option maxRecDepth 16384 in
theorem wd_1958 : Jvm.Cond.code yX12_worst cX12_worst 3 (some .int) ∈ gTbl := gL_of tl1_8 154 rfl (by decide +kernel)
set_option maxRecDepth 16384 in
theorem wd_1955 : Jvm.Cond.methodLink RL 145 yX12_worst ∈ gTbl := gL_of tl1_8 151 rfl (by decide +kernel)
set_option maxRecDepth 16384 in
theorem wd_1956 : Jvm.Cond.instanceMethod yX12_worst ∈ gTbl := gL_of tl1_8 152 rfl (by decide +kernel)
set_option maxRecDepth 16384 in
theorem wd_1957 : Jvm.Cond.selects RX12 yX12_worst yX12_worst ∈ gTbl := gL_of tl1_8 153 rfl (by decide +kernel)
set_option maxRecDepth 16384 in
theorem wd_991 : Jvm.Cond.code yX11_loved cX11_loved 2 (some .int) ∈ gTbl := gL_of tl1_4 147 rfl (by decide +kernel)
set_option maxRecDepth 16384 in
theorem wd_988 : Jvm.Cond.methodLink RL 146 yX11_loved ∈ gTbl := gL_of tl1_4 144 rfl (by decide +kernel)
set_option maxRecDepth 16384 in
theorem wd_989 : Jvm.Cond.instanceMethod yX11_loved ∈ gTbl := gL_of tl1_4 145 rfl (by decide +kernel)
set_option maxRecDepth 16384 in
theorem wd_990 : Jvm.Cond.selects RX11 yX11_loved yX11_loved ∈ gTbl := gL_of tl1_4 146 rfl (by decide +kernel)
set_option maxRecDepth 16384 in
theorem wd_1817 : Jvm.Cond.code yX12_loved cX12_loved 4 (some .int) ∈ gTbl := gL_of tl1_8 13 rfl (by decide +kernel)
set_option maxRecDepth 16384 in
theorem wd_1814 : Jvm.Cond.methodLink RL 149 yX12_loved ∈ gTbl := gL_of tl1_8 10 rfl (by decide +kernel)
set_option maxRecDepth 16384 in
theorem wd_1815 : Jvm.Cond.instanceMethod yX12_loved ∈ gTbl := gL_of tl1_8 11 rfl (by decide +kernel)
set_option maxRecDepth 16384 in
theorem wd_1816 : Jvm.Cond.selects RX12 yX12_loved yX12_loved ∈ gTbl := gL_of tl1_8 12 rfl (by decide +kernel)
set_option maxRecDepth 16384 in
theorem wd_999 : Jvm.Cond.code yX11_shunned cX11_shunned 2 (some .int) ∈ gTbl := gL_of tl1_4 155 rfl (by decide +kernel)
set_option maxRecDepth 16384 in
theorem wd_996 : Jvm.Cond.methodLink RL 150 yX11_shunned ∈ gTbl := gL_of tl1_4 152 rfl (by decide +kernel)
set_option maxRecDepth 16384 in
theorem wd_997 : Jvm.Cond.instanceMethod yX11_shunned ∈ gTbl := gL_of tl1_4 153 rfl (by decide +kernel)
set_option maxRecDepth 16384 in
theorem wd_998 : Jvm.Cond.selects RX11 yX11_shunned yX11_shunned ∈ gTbl := gL_of tl1_4 154 rfl (by decide +kernel)
set_option maxRecDepth 16384 in
theorem wd_1821 : Jvm.Cond.code yX12_shunned cX12_shunned 4 (some .int) ∈ gTbl := gL_of tl1_8 17 rfl (by decide +kernel)
set_option maxRecDepth 16384 in
theorem wd_1818 : Jvm.Cond.methodLink RL 153 yX12_shunned ∈ gTbl := gL_of tl1_8 14 rfl (by decide +kernel)
set_option maxRecDepth 16384 in
theorem wd_1819 : Jvm.Cond.instanceMethod yX12_shunned ∈ gTbl := gL_of tl1_8 15 rfl (by decide +kernel)
set_option maxRecDepth 16384 in
theorem wd_1820 : Jvm.Cond.selects RX12 yX12_shunned yX12_shunned ∈ gTbl := gL_of tl1_8 16 rfl (by decide +kernel)
set_option maxRecDepth 16384 in
theorem wd_1007 : Jvm.Cond.code yX11_swings cX11_swings 1 (some .int) ∈ gTbl := gL_of tl1_4 163 rfl (by decide +kernel)
set_option maxRecDepth 16384 in
theorem wd_1004 : Jvm.Cond.methodLink RL 154 yX11_swings ∈ gTbl := gL_of tl1_4 160 rfl (by decide +kernel)
set_option maxRecDepth 16384 in
theorem wd_1005 : Jvm.Cond.instanceMethod yX11_swings ∈ gTbl := gL_of tl1_4 161 rfl (by decide +kernel)
set_option maxRecDepth 16384 in
theorem wd_1006 : Jvm.Cond.selects RX11 yX11_swings yX11_swings ∈ gTbl := gL_of tl1_4 162 rfl (by decide +kernel)
set_option maxRecDepth 16384 in
theorem wd_1825 : Jvm.Cond.code yX12_swings cX12_swings 4 (some .int) ∈ gTbl := gL_of tl1_8 21 rfl (by decide +kernel)
set_option maxRecDepth 16384 in
theorem wd_1822 : Jvm.Cond.methodLink RL 157 yX12_swings ∈ gTbl := gL_of tl1_8 18 rfl (by decide +kernel)
set_option maxRecDepth 16384 in
theorem wd_1823 : Jvm.Cond.instanceMethod yX12_swings ∈ gTbl := gL_of tl1_8 19 rfl (by decide +kernel)
set_option maxRecDepth 16384 in
theorem wd_1824 : Jvm.Cond.selects RX12 yX12_swings yX12_swings ∈ gTbl := gL_of tl1_8 20 rfl (by decide +kernel)
set_option maxRecDepth 16384 in
theorem wd_1103 : Jvm.Cond.code yX11_tired cX11_tired 4 (some .int) ∈ gTbl := gL_of tl1_5 19 rfl (by decide +kernel)
set_option maxRecDepth 16384 in
theorem wd_1100 : Jvm.Cond.methodLink RL 158 yX11_tired ∈ gTbl := gL_of tl1_5 16 rfl (by decide +kernel)
set_option maxRecDepth 16384 in
theorem wd_1101 : Jvm.Cond.instanceMethod yX11_tired ∈ gTbl := gL_of tl1_5 17 rfl (by decide +kernel)
set_option maxRecDepth 16384 in
theorem wd_1102 : Jvm.Cond.selects RX11 yX11_tired yX11_tired ∈ gTbl := gL_of tl1_5 18 rfl (by decide +kernel)
set_option maxRecDepth 16384 in
theorem wd_1829 : Jvm.Cond.code yX12_tired cX12_tired 4 (some .int) ∈ gTbl := gL_of tl1_8 25 rfl (by decide +kernel)
set_option maxRecDepth 16384 in
theorem wd_1826 : Jvm.Cond.methodLink RL 161 yX12_tired ∈ gTbl := gL_of tl1_8 22 rfl (by decide +kernel)
set_option maxRecDepth 16384 in
theorem wd_1827 : Jvm.Cond.instanceMethod yX12_tired ∈ gTbl := gL_of tl1_8 23 rfl (by decide +kernel)
set_option maxRecDepth 16384 in
theorem wd_1828 : Jvm.Cond.selects RX12 yX12_tired yX12_tired ∈ gTbl := gL_of tl1_8 24 rfl (by decide +kernel)
set_option maxRecDepth 16384 in
theorem wd_1107 : Jvm.Cond.code yX11_guards cX11_guards 3 (some .int) ∈ gTbl := gL_of tl1_5 23 rfl (by decide +kernel)
set_option maxRecDepth 16384 in
theorem wd_1104 : Jvm.Cond.methodLink RL 162 yX11_guards ∈ gTbl := gL_of tl1_5 20 rfl (by decide +kernel)
set_option maxRecDepth 16384 in
theorem wd_1105 : Jvm.Cond.instanceMethod yX11_guards ∈ gTbl := gL_of tl1_5 21 rfl (by decide +kernel)
set_option maxRecDepth 16384 in
theorem wd_1106 : Jvm.Cond.selects RX11 yX11_guards yX11_guards ∈ gTbl := gL_of tl1_5 22 rfl (by decide +kernel)
set_option maxRecDepth 16384 in
theorem wd_1857 : Jvm.Cond.code yX12_guards cX12_guards 3 (some .int) ∈ gTbl := gL_of tl1_8 53 rfl (by decide +kernel)
set_option maxRecDepth 16384 in
theorem wd_1854 : Jvm.Cond.methodLink RL 165 yX12_guards ∈ gTbl := gL_of tl1_8 50 rfl (by decide +kernel)
set_option maxRecDepth 16384 in
theorem wd_1855 : Jvm.Cond.instanceMethod yX12_guards ∈ gTbl := gL_of tl1_8 51 rfl (by decide +kernel)
set_option maxRecDepth 16384 in
theorem wd_1856 : Jvm.Cond.selects RX12 yX12_guards yX12_guards ∈ gTbl := gL_of tl1_8 52 rfl (by decide +kernel)
set_option maxRecDepth 16384 in
theorem wd_1111 : Jvm.Cond.code yX11_eats cX11_eats 2 (some .int) ∈ gTbl := gL_of tl1_5 27 rfl (by decide +kernel)
set_option maxRecDepth 16384 in
theorem wd_1108 : Jvm.Cond.methodLink RL 166 yX11_eats ∈ gTbl := gL_of tl1_5 24 rfl (by decide +kernel)
set_option maxRecDepth 16384 in
theorem wd_1109 : Jvm.Cond.instanceMethod yX11_eats ∈ gTbl := gL_of tl1_5 25 rfl (by decide +kernel)
set_option maxRecDepth 16384 in
theorem wd_1110 : Jvm.Cond.selects RX11 yX11_eats yX11_eats ∈ gTbl := gL_of tl1_5 26 rfl (by decide +kernel)
set_option maxRecDepth 16384 in
theorem wd_1962 : Jvm.Cond.code yX12_eats cX12_eats 2 (some .int) ∈ gTbl := gL_of tl1_8 158 rfl (by decide +kernel)
set_option maxRecDepth 16384 in
theorem wd_1959 : Jvm.Cond.methodLink RL 169 yX12_eats ∈ gTbl := gL_of tl1_8 155 rfl (by decide +kernel)
set_option maxRecDepth 16384 in
theorem wd_1960 : Jvm.Cond.instanceMethod yX12_eats ∈ gTbl := gL_of tl1_8 156 rfl (by decide +kernel)
set_option maxRecDepth 16384 in
theorem wd_1961 : Jvm.Cond.selects RX12 yX12_eats yX12_eats ∈ gTbl := gL_of tl1_8 157 rfl (by decide +kernel)
set_option maxRecDepth 16384 in
theorem wd_1115 : Jvm.Cond.code yX11_quiet cX11_quiet 4 (some .int) ∈ gTbl := gL_of tl1_5 31 rfl (by decide +kernel)
set_option maxRecDepth 16384 in
theorem wd_1112 : Jvm.Cond.methodLink RL 170 yX11_quiet ∈ gTbl := gL_of tl1_5 28 rfl (by decide +kernel)
set_option maxRecDepth 16384 in
theorem wd_1113 : Jvm.Cond.instanceMethod yX11_quiet ∈ gTbl := gL_of tl1_5 29 rfl (by decide +kernel)
set_option maxRecDepth 16384 in
theorem wd_1114 : Jvm.Cond.selects RX11 yX11_quiet yX11_quiet ∈ gTbl := gL_of tl1_5 30 rfl (by decide +kernel)
set_option maxRecDepth 16384 in
theorem wd_1966 : Jvm.Cond.code yX12_quiet cX12_quiet 4 (some .int) ∈ gTbl := gL_of tl1_8 162 rfl (by decide +kernel)
set_option maxRecDepth 16384 in
theorem wd_1963 : Jvm.Cond.methodLink RL 173 yX12_quiet ∈ gTbl := gL_of tl1_8 159 rfl (by decide +kernel)
set_option maxRecDepth 16384 in
theorem wd_1964 : Jvm.Cond.instanceMethod yX12_quiet ∈ gTbl := gL_of tl1_8 160 rfl (by decide +kernel)
set_option maxRecDepth 16384 in
theorem wd_1965 : Jvm.Cond.selects RX12 yX12_quiet yX12_quiet ∈ gTbl := gL_of tl1_8 161 rfl (by decide +kernel)
set_option maxRecDepth 16384 in
theorem wd_1119 : Jvm.Cond.code yX11_peace cX11_peace 4 (some .int) ∈ gTbl := gL_of tl1_5 35 rfl (by decide +kernel)
set_option maxRecDepth 16384 in
theorem wd_1116 : Jvm.Cond.methodLink RL 174 yX11_peace ∈ gTbl := gL_of tl1_5 32 rfl (by decide +kernel)
set_option maxRecDepth 16384 in
theorem wd_1117 : Jvm.Cond.instanceMethod yX11_peace ∈ gTbl := gL_of tl1_5 33 rfl (by decide +kernel)
set_option maxRecDepth 16384 in
theorem wd_1118 : Jvm.Cond.selects RX11 yX11_peace yX11_peace ∈ gTbl := gL_of tl1_5 34 rfl (by decide +kernel)
set_option maxRecDepth 16384 in
theorem wd_1970 : Jvm.Cond.code yX12_peace cX12_peace 4 (some .int) ∈ gTbl := gL_of tl1_8 166 rfl (by decide +kernel)
set_option maxRecDepth 16384 in
theorem wd_1967 : Jvm.Cond.methodLink RL 177 yX12_peace ∈ gTbl := gL_of tl1_8 163 rfl (by decide +kernel)
set_option maxRecDepth 16384 in
theorem wd_1968 : Jvm.Cond.instanceMethod yX12_peace ∈ gTbl := gL_of tl1_8 164 rfl (by decide +kernel)
set_option maxRecDepth 16384 in
theorem wd_1969 : Jvm.Cond.selects RX12 yX12_peace yX12_peace ∈ gTbl := gL_of tl1_8 165 rfl (by decide +kernel)
set_option maxRecDepth 16384 in
theorem wd_1124 : Jvm.Cond.code yX11_bold cX11_bold 2 (some .int) ∈ gTbl := gL_of tl1_5 40 rfl (by decide +kernel)
set_option maxRecDepth 16384 in
theorem wd_1121 : Jvm.Cond.methodLink RL 178 yX11_bold ∈ gTbl := gL_of tl1_5 37 rfl (by decide +kernel)
set_option maxRecDepth 16384 in
theorem wd_1122 : Jvm.Cond.instanceMethod yX11_bold ∈ gTbl := gL_of tl1_5 38 rfl (by decide +kernel)
set_option maxRecDepth 16384 in
theorem wd_1123 : Jvm.Cond.selects RX11 yX11_bold yX11_bold ∈ gTbl := gL_of tl1_5 39 rfl (by decide +kernel)
set_option maxRecDepth 16384 in
theorem wd_1974 : Jvm.Cond.code yX12_bold cX12_bold 4 (some .int) ∈ gTbl := gL_of tl1_8 170 rfl (by decide +kernel)
set_option maxRecDepth 16384 in
theorem wd_1971 : Jvm.Cond.methodLink RL 181 yX12_bold ∈ gTbl := gL_of tl1_8 167 rfl (by decide +kernel)
set_option maxRecDepth 16384 in
theorem wd_1972 : Jvm.Cond.instanceMethod yX12_bold ∈ gTbl := gL_of tl1_8 168 rfl (by decide +kernel)
set_option maxRecDepth 16384 in
theorem wd_1973 : Jvm.Cond.selects RX12 yX12_bold yX12_bold ∈ gTbl := gL_of tl1_8 169 rfl (by decide +kernel)
set_option maxRecDepth 16384 in
theorem wd_1128 : Jvm.Cond.code yX11_most cX11_most 2 (some .int) ∈ gTbl := gL_of tl1_5 44 rfl (by decide +kernel)
set_option maxRecDepth 16384 in
theorem wd_1125 : Jvm.Cond.methodLink RL 182 yX11_most ∈ gTbl := gL_of tl1_5 41 rfl (by decide +kernel)
set_option maxRecDepth 16384 in
theorem wd_1126 : Jvm.Cond.instanceMethod yX11_most ∈ gTbl := gL_of tl1_5 42 rfl (by decide +kernel)
set_option maxRecDepth 16384 in
theorem wd_1127 : Jvm.Cond.selects RX11 yX11_most yX11_most ∈ gTbl := gL_of tl1_5 43 rfl (by decide +kernel)
set_option maxRecDepth 16384 in
theorem wd_1978 : Jvm.Cond.code yX12_most cX12_most 4 (some .int) ∈ gTbl := gL_of tl1_8 174 rfl (by decide +kernel)
set_option maxRecDepth 16384 in
theorem wd_1975 : Jvm.Cond.methodLink RL 185 yX12_most ∈ gTbl := gL_of tl1_8 171 rfl (by decide +kernel)
set_option maxRecDepth 16384 in
theorem wd_1976 : Jvm.Cond.instanceMethod yX12_most ∈ gTbl := gL_of tl1_8 172 rfl (by decide +kernel)
set_option maxRecDepth 16384 in
theorem wd_1977 : Jvm.Cond.selects RX12 yX12_most yX12_most ∈ gTbl := gL_of tl1_8 173 rfl (by decide +kernel)
set_option maxRecDepth 16384 in
theorem wd_1136 : Jvm.Cond.code yX11_flown cX11_flown 2 (some .int) ∈ gTbl := gL_of tl1_5 52 rfl (by decide +kernel)
set_option maxRecDepth 16384 in
theorem wd_1133 : Jvm.Cond.methodLink RL 186 yX11_flown ∈ gTbl := gL_of tl1_5 49 rfl (by decide +kernel)
set_option maxRecDepth 16384 in
theorem wd_1134 : Jvm.Cond.instanceMethod yX11_flown ∈ gTbl := gL_of tl1_5 50 rfl (by decide +kernel)
set_option maxRecDepth 16384 in
theorem wd_1135 : Jvm.Cond.selects RX11 yX11_flown yX11_flown ∈ gTbl := gL_of tl1_5 51 rfl (by decide +kernel)
set_option maxRecDepth 16384 in
theorem wd_1982 : Jvm.Cond.code yX12_flown cX12_flown 2 (some .int) ∈ gTbl := gL_of tl1_8 178 rfl (by decide +kernel)
set_option maxRecDepth 16384 in
theorem wd_1979 : Jvm.Cond.methodLink RL 189 yX12_flown ∈ gTbl := gL_of tl1_8 175 rfl (by decide +kernel)
set_option maxRecDepth 16384 in
theorem wd_1980 : Jvm.Cond.instanceMethod yX12_flown ∈ gTbl := gL_of tl1_8 176 rfl (by decide +kernel)
set_option maxRecDepth 16384 in
theorem wd_1981 : Jvm.Cond.selects RX12 yX12_flown yX12_flown ∈ gTbl := gL_of tl1_8 177 rfl (by decide +kernel)
set_option maxRecDepth 16384 in
theorem wd_1071 : Jvm.Cond.code yX11_richest cX11_richest 2 (some .int) ∈ gTbl := gL_of tl1_4 227 rfl (by decide +kernel)
set_option maxRecDepth 16384 in
theorem wd_1068 : Jvm.Cond.methodLink RL 190 yX11_richest ∈ gTbl := gL_of tl1_4 224 rfl (by decide +kernel)
set_option maxRecDepth 16384 in
theorem wd_1069 : Jvm.Cond.instanceMethod yX11_richest ∈ gTbl := gL_of tl1_4 225 rfl (by decide +kernel)
set_option maxRecDepth 16384 in
theorem wd_1070 : Jvm.Cond.selects RX11 yX11_richest yX11_richest ∈ gTbl := gL_of tl1_4 226 rfl (by decide +kernel)
set_option maxRecDepth 16384 in
theorem wd_1986 : Jvm.Cond.code yX12_richest cX12_richest 4 (some .int) ∈ gTbl := gL_of tl1_8 182 rfl (by decide +kernel)
set_option maxRecDepth 16384 in
theorem wd_1983 : Jvm.Cond.methodLink RL 193 yX12_richest ∈ gTbl := gL_of tl1_8 179 rfl (by decide +kernel)
set_option maxRecDepth 16384 in
theorem wd_1984 : Jvm.Cond.instanceMethod yX12_richest ∈ gTbl := gL_of tl1_8 180 rfl (by decide +kernel)
set_option maxRecDepth 16384 in
theorem wd_1985 : Jvm.Cond.selects RX12 yX12_richest yX12_richest ∈ gTbl := gL_of tl1_8 181 rfl (by decide +kernel)
set_option maxRecDepth 16384 in
theorem wd_1140 : Jvm.Cond.code yX11_best cX11_best 1 (some .int) ∈ gTbl := gL_of tl1_5 56 rfl (by decide +kernel)
set_option maxRecDepth 16384 in
theorem wd_1137 : Jvm.Cond.methodLink RL 194 yX11_best ∈ gTbl := gL_of tl1_5 53 rfl (by decide +kernel)
set_option maxRecDepth 16384 in
theorem wd_1138 : Jvm.Cond.instanceMethod yX11_best ∈ gTbl := gL_of tl1_5 54 rfl (by decide +kernel)
set_option maxRecDepth 16384 in
theorem wd_1139 : Jvm.Cond.selects RX11 yX11_best yX11_best ∈ gTbl := gL_of tl1_5 55 rfl (by decide +kernel)
set_option maxRecDepth 16384 in
theorem wd_1990 : Jvm.Cond.code yX12_best cX12_best 1 (some .int) ∈ gTbl := gL_of tl1_8 186 rfl (by decide +kernel)
set_option maxRecDepth 16384 in
theorem wd_1987 : Jvm.Cond.methodLink RL 197 yX12_best ∈ gTbl := gL_of tl1_8 183 rfl (by decide +kernel)
set_option maxRecDepth 16384 in
theorem wd_1988 : Jvm.Cond.instanceMethod yX12_best ∈ gTbl := gL_of tl1_8 184 rfl (by decide +kernel)
set_option maxRecDepth 16384 in
theorem wd_1989 : Jvm.Cond.selects RX12 yX12_best yX12_best ∈ gTbl := gL_of tl1_8 185 rfl (by decide +kernel)
set_option maxRecDepth 16384 in
theorem wd_1166 : Jvm.Cond.code yX11_put cX11_put 2 (some .int) ∈ gTbl := gL_of tl1_5 82 rfl (by decide +kernel)
set_option maxRecDepth 16384 in
theorem wd_1163 : Jvm.Cond.methodLink RL 198 yX11_put ∈ gTbl := gL_of tl1_5 79 rfl (by decide +kernel)
set_option maxRecDepth 16384 in
theorem wd_1164 : Jvm.Cond.instanceMethod yX11_put ∈ gTbl := gL_of tl1_5 80 rfl (by decide +kernel)
set_option maxRecDepth 16384 in
theorem wd_1165 : Jvm.Cond.selects RX11 yX11_put yX11_put ∈ gTbl := gL_of tl1_5 81 rfl (by decide +kernel)
set_option maxRecDepth 16384 in
theorem wd_2022 : Jvm.Cond.code yX12_put cX12_put 2 (some .int) ∈ gTbl := gL_of tl1_8 218 rfl (by decide +kernel)
set_option maxRecDepth 16384 in
theorem wd_2019 : Jvm.Cond.methodLink RL 201 yX12_put ∈ gTbl := gL_of tl1_8 215 rfl (by decide +kernel)
set_option maxRecDepth 16384 in
theorem wd_2020 : Jvm.Cond.instanceMethod yX12_put ∈ gTbl := gL_of tl1_8 216 rfl (by decide +kernel)
set_option maxRecDepth 16384 in
theorem wd_2021 : Jvm.Cond.selects RX12 yX12_put yX12_put ∈ gTbl := gL_of tl1_8 217 rfl (by decide +kernel)
set_option maxRecDepth 16384 in
theorem wd_1170 : Jvm.Cond.code yX11_ways cX11_ways 1 (some .int) ∈ gTbl := gL_of tl1_5 86 rfl (by decide +kernel)
set_option maxRecDepth 16384 in
theorem wd_1167 : Jvm.Cond.methodLink RL 202 yX11_ways ∈ gTbl := gL_of tl1_5 83 rfl (by decide +kernel)
set_option maxRecDepth 16384 in
theorem wd_1168 : Jvm.Cond.instanceMethod yX11_ways ∈ gTbl := gL_of tl1_5 84 rfl (by decide +kernel)
set_option maxRecDepth 16384 in
theorem wd_1169 : Jvm.Cond.selects RX11 yX11_ways yX11_ways ∈ gTbl := gL_of tl1_5 85 rfl (by decide +kernel)
set_option maxRecDepth 16384 in
theorem wd_2014 : Jvm.Cond.code yX12_ways cX12_ways 1 (some .int) ∈ gTbl := gL_of tl1_8 210 rfl (by decide +kernel)
set_option maxRecDepth 16384 in
theorem wd_2011 : Jvm.Cond.methodLink RL 205 yX12_ways ∈ gTbl := gL_of tl1_8 207 rfl (by decide +kernel)
set_option maxRecDepth 16384 in
theorem wd_2012 : Jvm.Cond.instanceMethod yX12_ways ∈ gTbl := gL_of tl1_8 208 rfl (by decide +kernel)
set_option maxRecDepth 16384 in
theorem wd_2013 : Jvm.Cond.selects RX12 yX12_ways yX12_ways ∈ gTbl := gL_of tl1_8 209 rfl (by decide +kernel)
set_option maxRecDepth 16384 in
theorem wd_1174 : Jvm.Cond.code yX11_fewest cX11_fewest 1 (some .int) ∈ gTbl := gL_of tl1_5 90 rfl (by decide +kernel)
set_option maxRecDepth 16384 in
theorem wd_1171 : Jvm.Cond.methodLink RL 206 yX11_fewest ∈ gTbl := gL_of tl1_5 87 rfl (by decide +kernel)
set_option maxRecDepth 16384 in
theorem wd_1172 : Jvm.Cond.instanceMethod yX11_fewest ∈ gTbl := gL_of tl1_5 88 rfl (by decide +kernel)
set_option maxRecDepth 16384 in
theorem wd_1173 : Jvm.Cond.selects RX11 yX11_fewest yX11_fewest ∈ gTbl := gL_of tl1_5 89 rfl (by decide +kernel)
set_option maxRecDepth 16384 in
theorem wd_2018 : Jvm.Cond.code yX12_fewest cX12_fewest 1 (some .int) ∈ gTbl := gL_of tl1_8 214 rfl (by decide +kernel)
set_option maxRecDepth 16384 in
theorem wd_2015 : Jvm.Cond.methodLink RL 209 yX12_fewest ∈ gTbl := gL_of tl1_8 211 rfl (by decide +kernel)
set_option maxRecDepth 16384 in
theorem wd_2016 : Jvm.Cond.instanceMethod yX12_fewest ∈ gTbl := gL_of tl1_8 212 rfl (by decide +kernel)
set_option maxRecDepth 16384 in
theorem wd_2017 : Jvm.Cond.selects RX12 yX12_fewest yX12_fewest ∈ gTbl := gL_of tl1_8 213 rfl (by decide +kernel)
set_option maxRecDepth 16384 in
theorem wd_1178 : Jvm.Cond.code yX11_by cX11_by 2 (some .int) ∈ gTbl := gL_of tl1_5 94 rfl (by decide +kernel)
set_option maxRecDepth 16384 in
theorem wd_1175 : Jvm.Cond.methodLink RL 210 yX11_by ∈ gTbl := gL_of tl1_5 91 rfl (by decide +kernel)
set_option maxRecDepth 16384 in
theorem wd_1176 : Jvm.Cond.instanceMethod yX11_by ∈ gTbl := gL_of tl1_5 92 rfl (by decide +kernel)
set_option maxRecDepth 16384 in
theorem wd_1177 : Jvm.Cond.selects RX11 yX11_by yX11_by ∈ gTbl := gL_of tl1_5 93 rfl (by decide +kernel)
set_option maxRecDepth 16384 in
theorem wd_2026 : Jvm.Cond.code yX12_by cX12_by 2 (some .int) ∈ gTbl := gL_of tl1_8 222 rfl (by decide +kernel)
set_option maxRecDepth 16384 in
theorem wd_2023 : Jvm.Cond.methodLink RL 213 yX12_by ∈ gTbl := gL_of tl1_8 219 rfl (by decide +kernel)
set_option maxRecDepth 16384 in
theorem wd_2024 : Jvm.Cond.instanceMethod yX12_by ∈ gTbl := gL_of tl1_8 220 rfl (by decide +kernel)
set_option maxRecDepth 16384 in
theorem wd_2025 : Jvm.Cond.selects RX12 yX12_by yX12_by ∈ gTbl := gL_of tl1_8 221 rfl (by decide +kernel)
set_option maxRecDepth 16384 in
theorem wd_1190 : Jvm.Cond.code yX11_law cX11_law 5 (some .int) ∈ gTbl := gL_of tl1_5 106 rfl (by decide +kernel)
set_option maxRecDepth 16384 in
theorem wd_1187 : Jvm.Cond.methodLink RL 214 yX11_law ∈ gTbl := gL_of tl1_5 103 rfl (by decide +kernel)
set_option maxRecDepth 16384 in
theorem wd_1188 : Jvm.Cond.instanceMethod yX11_law ∈ gTbl := gL_of tl1_5 104 rfl (by decide +kernel)
set_option maxRecDepth 16384 in
theorem wd_1189 : Jvm.Cond.selects RX11 yX11_law yX11_law ∈ gTbl := gL_of tl1_5 105 rfl (by decide +kernel)
set_option maxRecDepth 16384 in
theorem wd_2034 : Jvm.Cond.code yX12_law cX12_law 3 (some .int) ∈ gTbl := gL_of tl1_8 230 rfl (by decide +kernel)
set_option maxRecDepth 16384 in
theorem wd_2031 : Jvm.Cond.methodLink RL 217 yX12_law ∈ gTbl := gL_of tl1_8 227 rfl (by decide +kernel)
set_option maxRecDepth 16384 in
theorem wd_2032 : Jvm.Cond.instanceMethod yX12_law ∈ gTbl := gL_of tl1_8 228 rfl (by decide +kernel)
set_option maxRecDepth 16384 in
theorem wd_2033 : Jvm.Cond.selects RX12 yX12_law yX12_law ∈ gTbl := gL_of tl1_8 229 rfl (by decide +kernel)
set_option maxRecDepth 16384 in
theorem wd_1194 : Jvm.Cond.code yX11_speech cX11_speech 6 (some .int) ∈ gTbl := gL_of tl1_5 110 rfl (by decide +kernel)
set_option maxRecDepth 16384 in
theorem wd_1191 : Jvm.Cond.methodLink RL 218 yX11_speech ∈ gTbl := gL_of tl1_5 107 rfl (by decide +kernel)
set_option maxRecDepth 16384 in
theorem wd_1192 : Jvm.Cond.instanceMethod yX11_speech ∈ gTbl := gL_of tl1_5 108 rfl (by decide +kernel)
set_option maxRecDepth 16384 in
theorem wd_1193 : Jvm.Cond.selects RX11 yX11_speech yX11_speech ∈ gTbl := gL_of tl1_5 109 rfl (by decide +kernel)
set_option maxRecDepth 16384 in
theorem wd_2038 : Jvm.Cond.code yX12_speech cX12_speech 6 (some .int) ∈ gTbl := gL_of tl1_8 234 rfl (by decide +kernel)
set_option maxRecDepth 16384 in
theorem wd_2035 : Jvm.Cond.methodLink RL 221 yX12_speech ∈ gTbl := gL_of tl1_8 231 rfl (by decide +kernel)
set_option maxRecDepth 16384 in
theorem wd_2036 : Jvm.Cond.instanceMethod yX12_speech ∈ gTbl := gL_of tl1_8 232 rfl (by decide +kernel)
set_option maxRecDepth 16384 in
theorem wd_2037 : Jvm.Cond.selects RX12 yX12_speech yX12_speech ∈ gTbl := gL_of tl1_8 233 rfl (by decide +kernel)
set_option maxRecDepth 16384 in
theorem wd_1199 : Jvm.Cond.code yX11_gap cX11_gap 6 (some .int) ∈ gTbl := gL_of tl1_5 115 rfl (by decide +kernel)
set_option maxRecDepth 16384 in
theorem wd_1196 : Jvm.Cond.methodLink RL 222 yX11_gap ∈ gTbl := gL_of tl1_5 112 rfl (by decide +kernel)
set_option maxRecDepth 16384 in
theorem wd_1197 : Jvm.Cond.instanceMethod yX11_gap ∈ gTbl := gL_of tl1_5 113 rfl (by decide +kernel)
set_option maxRecDepth 16384 in
theorem wd_1198 : Jvm.Cond.selects RX11 yX11_gap yX11_gap ∈ gTbl := gL_of tl1_5 114 rfl (by decide +kernel)
set_option maxRecDepth 16384 in
theorem wd_2042 : Jvm.Cond.code yX12_gap cX12_gap 5 (some .int) ∈ gTbl := gL_of tl1_8 238 rfl (by decide +kernel)
set_option maxRecDepth 16384 in
theorem wd_2039 : Jvm.Cond.methodLink RL 225 yX12_gap ∈ gTbl := gL_of tl1_8 235 rfl (by decide +kernel)
set_option maxRecDepth 16384 in
theorem wd_2040 : Jvm.Cond.instanceMethod yX12_gap ∈ gTbl := gL_of tl1_8 236 rfl (by decide +kernel)
set_option maxRecDepth 16384 in
theorem wd_2041 : Jvm.Cond.selects RX12 yX12_gap yX12_gap ∈ gTbl := gL_of tl1_8 237 rfl (by decide +kernel)
set_option maxRecDepth 16384 in
theorem wd_1203 : Jvm.Cond.code yX11_may cX11_may 4 (some .int) ∈ gTbl := gL_of tl1_5 119 rfl (by decide +kernel)
set_option maxRecDepth 16384 in
theorem wd_1200 : Jvm.Cond.methodLink RL 226 yX11_may ∈ gTbl := gL_of tl1_5 116 rfl (by decide +kernel)
set_option maxRecDepth 16384 in
theorem wd_1201 : Jvm.Cond.instanceMethod yX11_may ∈ gTbl := gL_of tl1_5 117 rfl (by decide +kernel)
set_option maxRecDepth 16384 in
theorem wd_1202 : Jvm.Cond.selects RX11 yX11_may yX11_may ∈ gTbl := gL_of tl1_5 118 rfl (by decide +kernel)
set_option maxRecDepth 16384 in
theorem wd_2046 : Jvm.Cond.code yX12_may cX12_may 4 (some .int) ∈ gTbl := gL_of tl1_9 2 rfl (by decide +kernel)
set_option maxRecDepth 16384 in
theorem wd_2043 : Jvm.Cond.methodLink RL 229 yX12_may ∈ gTbl := gL_of tl1_8 239 rfl (by decide +kernel)
set_option maxRecDepth 16384 in
theorem wd_2044 : Jvm.Cond.instanceMethod yX12_may ∈ gTbl := gL_of tl1_9 0 rfl (by decide +kernel)
set_option maxRecDepth 16384 in
theorem wd_2045 : Jvm.Cond.selects RX12 yX12_may yX12_may ∈ gTbl := gL_of tl1_9 1 rfl (by decide +kernel)
set_option maxRecDepth 16384 in
theorem wd_1239 : Jvm.Cond.code yX11_ask cX11_ask 4 (some .int) ∈ gTbl := gL_of tl1_5 155 rfl (by decide +kernel)
set_option maxRecDepth 16384 in
theorem wd_1236 : Jvm.Cond.methodLink RL 230 yX11_ask ∈ gTbl := gL_of tl1_5 152 rfl (by decide +kernel)
set_option maxRecDepth 16384 in
theorem wd_1237 : Jvm.Cond.instanceMethod yX11_ask ∈ gTbl := gL_of tl1_5 153 rfl (by decide +kernel)
set_option maxRecDepth 16384 in
theorem wd_1238 : Jvm.Cond.selects RX11 yX11_ask yX11_ask ∈ gTbl := gL_of tl1_5 154 rfl (by decide +kernel)
set_option maxRecDepth 16384 in
theorem wd_2070 : Jvm.Cond.code yX12_ask cX12_ask 4 (some .int) ∈ gTbl := gL_of tl1_9 26 rfl (by decide +kernel)
set_option maxRecDepth 16384 in
theorem wd_2067 : Jvm.Cond.methodLink RL 233 yX12_ask ∈ gTbl := gL_of tl1_9 23 rfl (by decide +kernel)
set_option maxRecDepth 16384 in
theorem wd_2068 : Jvm.Cond.instanceMethod yX12_ask ∈ gTbl := gL_of tl1_9 24 rfl (by decide +kernel)
set_option maxRecDepth 16384 in
theorem wd_2069 : Jvm.Cond.selects RX12 yX12_ask yX12_ask ∈ gTbl := gL_of tl1_9 25 rfl (by decide +kernel)
set_option maxRecDepth 16384 in
theorem wd_1258 : Jvm.Cond.code yX11_leaves cX11_leaves 4 (some .int) ∈ gTbl := gL_of tl1_5 174 rfl (by decide +kernel)
set_option maxRecDepth 16384 in
theorem wd_1255 : Jvm.Cond.methodLink RL 234 yX11_leaves ∈ gTbl := gL_of tl1_5 171 rfl (by decide +kernel)
set_option maxRecDepth 16384 in
theorem wd_1256 : Jvm.Cond.instanceMethod yX11_leaves ∈ gTbl := gL_of tl1_5 172 rfl (by decide +kernel)
set_option maxRecDepth 16384 in
theorem wd_1257 : Jvm.Cond.selects RX11 yX11_leaves yX11_leaves ∈ gTbl := gL_of tl1_5 173 rfl (by decide +kernel)
set_option maxRecDepth 16384 in
theorem wd_2082 : Jvm.Cond.code yX12_leaves cX12_leaves 4 (some .int) ∈ gTbl := gL_of tl1_9 38 rfl (by decide +kernel)
set_option maxRecDepth 16384 in
theorem wd_2079 : Jvm.Cond.methodLink RL 237 yX12_leaves ∈ gTbl := gL_of tl1_9 35 rfl (by decide +kernel)
set_option maxRecDepth 16384 in
theorem wd_2080 : Jvm.Cond.instanceMethod yX12_leaves ∈ gTbl := gL_of tl1_9 36 rfl (by decide +kernel)
set_option maxRecDepth 16384 in
theorem wd_2081 : Jvm.Cond.selects RX12 yX12_leaves yX12_leaves ∈ gTbl := gL_of tl1_9 37 rfl (by decide +kernel)
set_option maxRecDepth 16384 in
theorem wd_1262 : Jvm.Cond.code yX11_rests cX11_rests 8 (some .int) ∈ gTbl := gL_of tl1_5 178 rfl (by decide +kernel)
set_option maxRecDepth 16384 in
theorem wd_1259 : Jvm.Cond.methodLink RL 238 yX11_rests ∈ gTbl := gL_of tl1_5 175 rfl (by decide +kernel)
set_option maxRecDepth 16384 in
theorem wd_1260 : Jvm.Cond.instanceMethod yX11_rests ∈ gTbl := gL_of tl1_5 176 rfl (by decide +kernel)
set_option maxRecDepth 16384 in
theorem wd_1261 : Jvm.Cond.selects RX11 yX11_rests yX11_rests ∈ gTbl := gL_of tl1_5 177 rfl (by decide +kernel)
set_option maxRecDepth 16384 in
theorem wd_2086 : Jvm.Cond.code yX12_rests cX12_rests 8 (some .int) ∈ gTbl := gL_of tl1_9 42 rfl (by decide +kernel)
set_option maxRecDepth 16384 in
theorem wd_2083 : Jvm.Cond.methodLink RL 241 yX12_rests ∈ gTbl := gL_of tl1_9 39 rfl (by decide +kernel)
set_option maxRecDepth 16384 in
theorem wd_2084 : Jvm.Cond.instanceMethod yX12_rests ∈ gTbl := gL_of tl1_9 40 rfl (by decide +kernel)
set_option maxRecDepth 16384 in
theorem wd_2085 : Jvm.Cond.selects RX12 yX12_rests yX12_rests ∈ gTbl := gL_of tl1_9 41 rfl (by decide +kernel)
set_option maxRecDepth 16384 in
theorem wd_1270 : Jvm.Cond.code yX11_gets cX11_gets 5 (some .int) ∈ gTbl := gL_of tl1_5 186 rfl (by decide +kernel)
set_option maxRecDepth 16384 in
theorem wd_1267 : Jvm.Cond.methodLink RL 242 yX11_gets ∈ gTbl := gL_of tl1_5 183 rfl (by decide +kernel)
set_option maxRecDepth 16384 in
theorem wd_1268 : Jvm.Cond.instanceMethod yX11_gets ∈ gTbl := gL_of tl1_5 184 rfl (by decide +kernel)
set_option maxRecDepth 16384 in
theorem wd_1269 : Jvm.Cond.selects RX11 yX11_gets yX11_gets ∈ gTbl := gL_of tl1_5 185 rfl (by decide +kernel)
set_option maxRecDepth 16384 in
theorem wd_2098 : Jvm.Cond.code yX12_gets cX12_gets 5 (some .int) ∈ gTbl := gL_of tl1_9 54 rfl (by decide +kernel)
set_option maxRecDepth 16384 in
theorem wd_2095 : Jvm.Cond.methodLink RL 246 yX12_gets ∈ gTbl := gL_of tl1_9 51 rfl (by decide +kernel)
set_option maxRecDepth 16384 in
theorem wd_2096 : Jvm.Cond.instanceMethod yX12_gets ∈ gTbl := gL_of tl1_9 52 rfl (by decide +kernel)
set_option maxRecDepth 16384 in
theorem wd_2097 : Jvm.Cond.selects RX12 yX12_gets yX12_gets ∈ gTbl := gL_of tl1_9 53 rfl (by decide +kernel)
set_option maxRecDepth 16384 in
theorem wd_1274 : Jvm.Cond.code yX11_chance cX11_chance 9 (some .long) ∈ gTbl := gL_of tl1_5 190 rfl (by decide +kernel)
set_option maxRecDepth 16384 in
theorem wd_1271 : Jvm.Cond.methodLink RL 247 yX11_chance ∈ gTbl := gL_of tl1_5 187 rfl (by decide +kernel)
set_option maxRecDepth 16384 in
theorem wd_1272 : Jvm.Cond.instanceMethod yX11_chance ∈ gTbl := gL_of tl1_5 188 rfl (by decide +kernel)
set_option maxRecDepth 16384 in
theorem wd_1273 : Jvm.Cond.selects RX11 yX11_chance yX11_chance ∈ gTbl := gL_of tl1_5 189 rfl (by decide +kernel)
set_option maxRecDepth 16384 in
theorem wd_2102 : Jvm.Cond.code yX12_chance cX12_chance 5 (some .long) ∈ gTbl := gL_of tl1_9 58 rfl (by decide +kernel)
set_option maxRecDepth 16384 in
theorem wd_2099 : Jvm.Cond.methodLink RL 251 yX12_chance ∈ gTbl := gL_of tl1_9 55 rfl (by decide +kernel)
set_option maxRecDepth 16384 in
theorem wd_2100 : Jvm.Cond.instanceMethod yX12_chance ∈ gTbl := gL_of tl1_9 56 rfl (by decide +kernel)
set_option maxRecDepth 16384 in
theorem wd_2101 : Jvm.Cond.selects RX12 yX12_chance yX12_chance ∈ gTbl := gL_of tl1_9 57 rfl (by decide +kernel)
set_option maxRecDepth 16384 in
theorem wd_1291 : Jvm.Cond.code yX11_mean cX11_mean 7 (some .long) ∈ gTbl := gL_of tl1_5 207 rfl (by decide +kernel)
set_option maxRecDepth 16384 in
theorem wd_1288 : Jvm.Cond.methodLink RL 252 yX11_mean ∈ gTbl := gL_of tl1_5 204 rfl (by decide +kernel)
set_option maxRecDepth 16384 in
theorem wd_1289 : Jvm.Cond.instanceMethod yX11_mean ∈ gTbl := gL_of tl1_5 205 rfl (by decide +kernel)
set_option maxRecDepth 16384 in
theorem wd_1290 : Jvm.Cond.selects RX11 yX11_mean yX11_mean ∈ gTbl := gL_of tl1_5 206 rfl (by decide +kernel)
set_option maxRecDepth 16384 in
theorem wd_2117 : Jvm.Cond.code yX12_mean cX12_mean 3 (some .long) ∈ gTbl := gL_of tl1_9 73 rfl (by decide +kernel)
set_option maxRecDepth 16384 in
theorem wd_2114 : Jvm.Cond.methodLink RL 256 yX12_mean ∈ gTbl := gL_of tl1_9 70 rfl (by decide +kernel)
set_option maxRecDepth 16384 in
theorem wd_2115 : Jvm.Cond.instanceMethod yX12_mean ∈ gTbl := gL_of tl1_9 71 rfl (by decide +kernel)
set_option maxRecDepth 16384 in
theorem wd_2116 : Jvm.Cond.selects RX12 yX12_mean yX12_mean ∈ gTbl := gL_of tl1_9 72 rfl (by decide +kernel)
set_option maxRecDepth 16384 in
theorem wd_1319 : Jvm.Cond.code yX11_puts cX11_puts 4 (some .int) ∈ gTbl := gL_of tl1_5 235 rfl (by decide +kernel)
set_option maxRecDepth 16384 in
theorem wd_1316 : Jvm.Cond.methodLink RL 257 yX11_puts ∈ gTbl := gL_of tl1_5 232 rfl (by decide +kernel)
set_option maxRecDepth 16384 in
theorem wd_1317 : Jvm.Cond.instanceMethod yX11_puts ∈ gTbl := gL_of tl1_5 233 rfl (by decide +kernel)
set_option maxRecDepth 16384 in
theorem wd_1318 : Jvm.Cond.selects RX11 yX11_puts yX11_puts ∈ gTbl := gL_of tl1_5 234 rfl (by decide +kernel)
set_option maxRecDepth 16384 in
theorem wd_2121 : Jvm.Cond.code yX12_puts cX12_puts 3 (some .int) ∈ gTbl := gL_of tl1_9 77 rfl (by decide +kernel)
set_option maxRecDepth 16384 in
theorem wd_2118 : Jvm.Cond.methodLink RL 260 yX12_puts ∈ gTbl := gL_of tl1_9 74 rfl (by decide +kernel)
set_option maxRecDepth 16384 in
theorem wd_2119 : Jvm.Cond.instanceMethod yX12_puts ∈ gTbl := gL_of tl1_9 75 rfl (by decide +kernel)
set_option maxRecDepth 16384 in
theorem wd_2120 : Jvm.Cond.selects RX12 yX12_puts yX12_puts ∈ gTbl := gL_of tl1_9 76 rfl (by decide +kernel)
set_option maxRecDepth 16384 in
theorem wd_1327 : Jvm.Cond.code yX11_speaks cX11_speaks 3 (some .int) ∈ gTbl := gL_of tl1_6 3 rfl (by decide +kernel)
set_option maxRecDepth 16384 in
theorem wd_1324 : Jvm.Cond.methodLink RL 261 yX11_speaks ∈ gTbl := gL_of tl1_6 0 rfl (by decide +kernel)
set_option maxRecDepth 16384 in
theorem wd_1325 : Jvm.Cond.instanceMethod yX11_speaks ∈ gTbl := gL_of tl1_6 1 rfl (by decide +kernel)
set_option maxRecDepth 16384 in
theorem wd_1326 : Jvm.Cond.selects RX11 yX11_speaks yX11_speaks ∈ gTbl := gL_of tl1_6 2 rfl (by decide +kernel)
set_option maxRecDepth 16384 in
theorem wd_2129 : Jvm.Cond.code yX12_speaks cX12_speaks 3 (some .int) ∈ gTbl := gL_of tl1_9 85 rfl (by decide +kernel)
set_option maxRecDepth 16384 in
theorem wd_2126 : Jvm.Cond.methodLink RL 264 yX12_speaks ∈ gTbl := gL_of tl1_9 82 rfl (by decide +kernel)
set_option maxRecDepth 16384 in
theorem wd_2127 : Jvm.Cond.instanceMethod yX12_speaks ∈ gTbl := gL_of tl1_9 83 rfl (by decide +kernel)
set_option maxRecDepth 16384 in
theorem wd_2128 : Jvm.Cond.selects RX12 yX12_speaks yX12_speaks ∈ gTbl := gL_of tl1_9 84 rfl (by decide +kernel)
set_option maxRecDepth 16384 in
theorem wd_1331 : Jvm.Cond.code yX11_undo cX11_undo 1 (some .int) ∈ gTbl := gL_of tl1_6 7 rfl (by decide +kernel)
set_option maxRecDepth 16384 in
theorem wd_1328 : Jvm.Cond.methodLink RL 265 yX11_undo ∈ gTbl := gL_of tl1_6 4 rfl (by decide +kernel)
set_option maxRecDepth 16384 in
theorem wd_1329 : Jvm.Cond.instanceMethod yX11_undo ∈ gTbl := gL_of tl1_6 5 rfl (by decide +kernel)
set_option maxRecDepth 16384 in
theorem wd_1330 : Jvm.Cond.selects RX11 yX11_undo yX11_undo ∈ gTbl := gL_of tl1_6 6 rfl (by decide +kernel)
set_option maxRecDepth 16384 in
theorem wd_2133 : Jvm.Cond.code yX12_undo cX12_undo 1 (some .int) ∈ gTbl := gL_of tl1_9 89 rfl (by decide +kernel)
set_option maxRecDepth 16384 in
theorem wd_2130 : Jvm.Cond.methodLink RL 268 yX12_undo ∈ gTbl := gL_of tl1_9 86 rfl (by decide +kernel)
set_option maxRecDepth 16384 in
theorem wd_2131 : Jvm.Cond.instanceMethod yX12_undo ∈ gTbl := gL_of tl1_9 87 rfl (by decide +kernel)
set_option maxRecDepth 16384 in
theorem wd_2132 : Jvm.Cond.selects RX12 yX12_undo yX12_undo ∈ gTbl := gL_of tl1_9 88 rfl (by decide +kernel)
set_option maxRecDepth 16384 in
theorem wd_1335 : Jvm.Cond.code yX11_anew cX11_anew 2 (some .int) ∈ gTbl := gL_of tl1_6 11 rfl (by decide +kernel)
set_option maxRecDepth 16384 in
theorem wd_1332 : Jvm.Cond.methodLink RL 269 yX11_anew ∈ gTbl := gL_of tl1_6 8 rfl (by decide +kernel)
set_option maxRecDepth 16384 in
theorem wd_1333 : Jvm.Cond.instanceMethod yX11_anew ∈ gTbl := gL_of tl1_6 9 rfl (by decide +kernel)
set_option maxRecDepth 16384 in
theorem wd_1334 : Jvm.Cond.selects RX11 yX11_anew yX11_anew ∈ gTbl := gL_of tl1_6 10 rfl (by decide +kernel)
set_option maxRecDepth 16384 in
theorem wd_2137 : Jvm.Cond.code yX12_anew cX12_anew 2 (some .int) ∈ gTbl := gL_of tl1_9 93 rfl (by decide +kernel)
set_option maxRecDepth 16384 in
theorem wd_2134 : Jvm.Cond.methodLink RL 272 yX12_anew ∈ gTbl := gL_of tl1_9 90 rfl (by decide +kernel)
set_option maxRecDepth 16384 in
theorem wd_2135 : Jvm.Cond.instanceMethod yX12_anew ∈ gTbl := gL_of tl1_9 91 rfl (by decide +kernel)
set_option maxRecDepth 16384 in
theorem wd_2136 : Jvm.Cond.selects RX12 yX12_anew yX12_anew ∈ gTbl := gL_of tl1_9 92 rfl (by decide +kernel)
set_option maxRecDepth 16384 in
theorem wd_1295 : Jvm.Cond.code yX11_drawn cX11_drawn 3 (some .int) ∈ gTbl := gL_of tl1_5 211 rfl (by decide +kernel)
set_option maxRecDepth 16384 in
theorem wd_1292 : Jvm.Cond.methodLink RL 273 yX11_drawn ∈ gTbl := gL_of tl1_5 208 rfl (by decide +kernel)
set_option maxRecDepth 16384 in
theorem wd_1293 : Jvm.Cond.instanceMethod yX11_drawn ∈ gTbl := gL_of tl1_5 209 rfl (by decide +kernel)
set_option maxRecDepth 16384 in
theorem wd_1294 : Jvm.Cond.selects RX11 yX11_drawn yX11_drawn ∈ gTbl := gL_of tl1_5 210 rfl (by decide +kernel)
set_option maxRecDepth 16384 in
theorem wd_2141 : Jvm.Cond.code yX12_drawn cX12_drawn 3 (some .int) ∈ gTbl := gL_of tl1_9 97 rfl (by decide +kernel)
set_option maxRecDepth 16384 in
theorem wd_2138 : Jvm.Cond.methodLink RL 276 yX12_drawn ∈ gTbl := gL_of tl1_9 94 rfl (by decide +kernel)
set_option maxRecDepth 16384 in
theorem wd_2139 : Jvm.Cond.instanceMethod yX12_drawn ∈ gTbl := gL_of tl1_9 95 rfl (by decide +kernel)
set_option maxRecDepth 16384 in
theorem wd_2140 : Jvm.Cond.selects RX12 yX12_drawn yX12_drawn ∈ gTbl := gL_of tl1_9 96 rfl (by decide +kernel)
set_option maxRecDepth 16384 in
theorem wd_1315 : Jvm.Cond.code yX11_luck cX11_luck 6 (some .int) ∈ gTbl := gL_of tl1_5 231 rfl (by decide +kernel)
set_option maxRecDepth 16384 in
theorem wd_1312 : Jvm.Cond.methodLink RL 277 yX11_luck ∈ gTbl := gL_of tl1_5 228 rfl (by decide +kernel)
set_option maxRecDepth 16384 in
theorem wd_1313 : Jvm.Cond.instanceMethod yX11_luck ∈ gTbl := gL_of tl1_5 229 rfl (by decide +kernel)
set_option maxRecDepth 16384 in
theorem wd_1314 : Jvm.Cond.selects RX11 yX11_luck yX11_luck ∈ gTbl := gL_of tl1_5 230 rfl (by decide +kernel)
set_option maxRecDepth 16384 in
theorem wd_2158 : Jvm.Cond.code yX12_luck cX12_luck 6 (some .int) ∈ gTbl := gL_of tl1_9 114 rfl (by decide +kernel)
set_option maxRecDepth 16384 in
theorem wd_2155 : Jvm.Cond.methodLink RL 280 yX12_luck ∈ gTbl := gL_of tl1_9 111 rfl (by decide +kernel)
set_option maxRecDepth 16384 in
theorem wd_2156 : Jvm.Cond.instanceMethod yX12_luck ∈ gTbl := gL_of tl1_9 112 rfl (by decide +kernel)
set_option maxRecDepth 16384 in
theorem wd_2157 : Jvm.Cond.selects RX12 yX12_luck yX12_luck ∈ gTbl := gL_of tl1_9 113 rfl (by decide +kernel)
set_option maxRecDepth 16384 in
theorem wd_1339 : Jvm.Cond.code yX11_rate cX11_rate 4 (some .int) ∈ gTbl := gL_of tl1_6 15 rfl (by decide +kernel)
set_option maxRecDepth 16384 in
theorem wd_1336 : Jvm.Cond.methodLink RL 281 yX11_rate ∈ gTbl := gL_of tl1_6 12 rfl (by decide +kernel)
set_option maxRecDepth 16384 in
theorem wd_1337 : Jvm.Cond.instanceMethod yX11_rate ∈ gTbl := gL_of tl1_6 13 rfl (by decide +kernel)
set_option maxRecDepth 16384 in
theorem wd_1338 : Jvm.Cond.selects RX11 yX11_rate yX11_rate ∈ gTbl := gL_of tl1_6 14 rfl (by decide +kernel)
set_option maxRecDepth 16384 in
theorem wd_2163 : Jvm.Cond.code yX12_rate cX12_rate 4 (some .int) ∈ gTbl := gL_of tl1_9 119 rfl (by decide +kernel)
set_option maxRecDepth 16384 in
theorem wd_2160 : Jvm.Cond.methodLink RL 284 yX12_rate ∈ gTbl := gL_of tl1_9 116 rfl (by decide +kernel)
set_option maxRecDepth 16384 in
theorem wd_2161 : Jvm.Cond.instanceMethod yX12_rate ∈ gTbl := gL_of tl1_9 117 rfl (by decide +kernel)
set_option maxRecDepth 16384 in
theorem wd_2162 : Jvm.Cond.selects RX12 yX12_rate yX12_rate ∈ gTbl := gL_of tl1_9 118 rfl (by decide +kernel)
set_option maxRecDepth 16384 in
theorem wd_1343 : Jvm.Cond.code yX11_count cX11_count 2 (some .int) ∈ gTbl := gL_of tl1_6 19 rfl (by decide +kernel)
set_option maxRecDepth 16384 in
theorem wd_1340 : Jvm.Cond.methodLink RL 285 yX11_count ∈ gTbl := gL_of tl1_6 16 rfl (by decide +kernel)
set_option maxRecDepth 16384 in
theorem wd_1341 : Jvm.Cond.instanceMethod yX11_count ∈ gTbl := gL_of tl1_6 17 rfl (by decide +kernel)
set_option maxRecDepth 16384 in
theorem wd_1342 : Jvm.Cond.selects RX11 yX11_count yX11_count ∈ gTbl := gL_of tl1_6 18 rfl (by decide +kernel)
set_option maxRecDepth 16384 in
theorem wd_2168 : Jvm.Cond.code yX12_count cX12_count 4 (some .int) ∈ gTbl := gL_of tl1_9 124 rfl (by decide +kernel)
set_option maxRecDepth 16384 in
theorem wd_2165 : Jvm.Cond.methodLink RL 288 yX12_count ∈ gTbl := gL_of tl1_9 121 rfl (by decide +kernel)
set_option maxRecDepth 16384 in
theorem wd_2166 : Jvm.Cond.instanceMethod yX12_count ∈ gTbl := gL_of tl1_9 122 rfl (by decide +kernel)
set_option maxRecDepth 16384 in
theorem wd_2167 : Jvm.Cond.selects RX12 yX12_count yX12_count ∈ gTbl := gL_of tl1_9 123 rfl (by decide +kernel)
set_option maxRecDepth 16384 in
theorem wd_1352 : Jvm.Cond.code yX11_image cX11_image 2 (some .int) ∈ gTbl := gL_of tl1_6 28 rfl (by decide +kernel)
set_option maxRecDepth 16384 in
theorem wd_1349 : Jvm.Cond.methodLink RL 289 yX11_image ∈ gTbl := gL_of tl1_6 25 rfl (by decide +kernel)
set_option maxRecDepth 16384 in
theorem wd_1350 : Jvm.Cond.instanceMethod yX11_image ∈ gTbl := gL_of tl1_6 26 rfl (by decide +kernel)
set_option maxRecDepth 16384 in
theorem wd_1351 : Jvm.Cond.selects RX11 yX11_image yX11_image ∈ gTbl := gL_of tl1_6 27 rfl (by decide +kernel)
set_option maxRecDepth 16384 in
theorem wd_1540 : Jvm.Cond.code yX12_image cX12_image 3 (some .int) ∈ gTbl := gL_of tl1_6 216 rfl (by decide +kernel)
set_option maxRecDepth 16384 in
theorem wd_1537 : Jvm.Cond.methodLink RL 292 yX12_image ∈ gTbl := gL_of tl1_6 213 rfl (by decide +kernel)
set_option maxRecDepth 16384 in
theorem wd_1538 : Jvm.Cond.instanceMethod yX12_image ∈ gTbl := gL_of tl1_6 214 rfl (by decide +kernel)
set_option maxRecDepth 16384 in
theorem wd_1539 : Jvm.Cond.selects RX12 yX12_image yX12_image ∈ gTbl := gL_of tl1_6 215 rfl (by decide +kernel)
set_option maxRecDepth 16384 in
theorem wd_1366 : Jvm.Cond.code yX11_back cX11_back 2 (some .int) ∈ gTbl := gL_of tl1_6 42 rfl (by decide +kernel)
set_option maxRecDepth 16384 in
theorem wd_1363 : Jvm.Cond.methodLink RL 293 yX11_back ∈ gTbl := gL_of tl1_6 39 rfl (by decide +kernel)
set_option maxRecDepth 16384 in
theorem wd_1364 : Jvm.Cond.instanceMethod yX11_back ∈ gTbl := gL_of tl1_6 40 rfl (by decide +kernel)
set_option maxRecDepth 16384 in
theorem wd_1365 : Jvm.Cond.selects RX11 yX11_back yX11_back ∈ gTbl := gL_of tl1_6 41 rfl (by decide +kernel)
set_option maxRecDepth 16384 in
theorem wd_1548 : Jvm.Cond.code yX12_back cX12_back 3 (some .int) ∈ gTbl := gL_of tl1_6 224 rfl (by decide +kernel)
set_option maxRecDepth 16384 in
theorem wd_1545 : Jvm.Cond.methodLink RL 296 yX12_back ∈ gTbl := gL_of tl1_6 221 rfl (by decide +kernel)
set_option maxRecDepth 16384 in
theorem wd_1546 : Jvm.Cond.instanceMethod yX12_back ∈ gTbl := gL_of tl1_6 222 rfl (by decide +kernel)
set_option maxRecDepth 16384 in
theorem wd_1547 : Jvm.Cond.selects RX12 yX12_back yX12_back ∈ gTbl := gL_of tl1_6 223 rfl (by decide +kernel)
set_option maxRecDepth 16384 in
theorem wd_1370 : Jvm.Cond.code yX11_row cX11_row 4 (some .int) ∈ gTbl := gL_of tl1_6 46 rfl (by decide +kernel)
set_option maxRecDepth 16384 in
theorem wd_1367 : Jvm.Cond.methodLink RL 297 yX11_row ∈ gTbl := gL_of tl1_6 43 rfl (by decide +kernel)
set_option maxRecDepth 16384 in
theorem wd_1368 : Jvm.Cond.instanceMethod yX11_row ∈ gTbl := gL_of tl1_6 44 rfl (by decide +kernel)
set_option maxRecDepth 16384 in
theorem wd_1369 : Jvm.Cond.selects RX11 yX11_row yX11_row ∈ gTbl := gL_of tl1_6 45 rfl (by decide +kernel)
set_option maxRecDepth 16384 in
theorem wd_2173 : Jvm.Cond.code yX12_row cX12_row 5 (some .int) ∈ gTbl := gL_of tl1_9 129 rfl (by decide +kernel)
set_option maxRecDepth 16384 in
theorem wd_2170 : Jvm.Cond.methodLink RL 300 yX12_row ∈ gTbl := gL_of tl1_9 126 rfl (by decide +kernel)
set_option maxRecDepth 16384 in
theorem wd_2171 : Jvm.Cond.instanceMethod yX12_row ∈ gTbl := gL_of tl1_9 127 rfl (by decide +kernel)
set_option maxRecDepth 16384 in
theorem wd_2172 : Jvm.Cond.selects RX12 yX12_row yX12_row ∈ gTbl := gL_of tl1_9 128 rfl (by decide +kernel)
set_option maxRecDepth 16384 in
theorem wd_1378 : Jvm.Cond.code yX11_write cX11_write 5 (some .int) ∈ gTbl := gL_of tl1_6 54 rfl (by decide +kernel)
set_option maxRecDepth 16384 in
theorem wd_1375 : Jvm.Cond.methodLink RL 303 yX11_write ∈ gTbl := gL_of tl1_6 51 rfl (by decide +kernel)
set_option maxRecDepth 16384 in
theorem wd_1376 : Jvm.Cond.instanceMethod yX11_write ∈ gTbl := gL_of tl1_6 52 rfl (by decide +kernel)
set_option maxRecDepth 16384 in
theorem wd_1377 : Jvm.Cond.selects RX11 yX11_write yX11_write ∈ gTbl := gL_of tl1_6 53 rfl (by decide +kernel)
set_option maxRecDepth 16384 in
theorem wd_2177 : Jvm.Cond.code yX12_write cX12_write 5 (some .int) ∈ gTbl := gL_of tl1_9 133 rfl (by decide +kernel)
set_option maxRecDepth 16384 in
theorem wd_2174 : Jvm.Cond.methodLink RL 307 yX12_write ∈ gTbl := gL_of tl1_9 130 rfl (by decide +kernel)
set_option maxRecDepth 16384 in
theorem wd_2175 : Jvm.Cond.instanceMethod yX12_write ∈ gTbl := gL_of tl1_9 131 rfl (by decide +kernel)
set_option maxRecDepth 16384 in
theorem wd_2176 : Jvm.Cond.selects RX12 yX12_write yX12_write ∈ gTbl := gL_of tl1_9 132 rfl (by decide +kernel)
set_option maxRecDepth 16384 in
theorem wd_1389 : Jvm.Cond.code yX11_paste cX11_paste 6 (some .int) ∈ gTbl := gL_of tl1_6 65 rfl (by decide +kernel)
set_option maxRecDepth 16384 in
theorem wd_1386 : Jvm.Cond.methodLink RL 308 yX11_paste ∈ gTbl := gL_of tl1_6 62 rfl (by decide +kernel)
set_option maxRecDepth 16384 in
theorem wd_1387 : Jvm.Cond.instanceMethod yX11_paste ∈ gTbl := gL_of tl1_6 63 rfl (by decide +kernel)
set_option maxRecDepth 16384 in
theorem wd_1388 : Jvm.Cond.selects RX11 yX11_paste yX11_paste ∈ gTbl := gL_of tl1_6 64 rfl (by decide +kernel)
set_option maxRecDepth 16384 in
theorem wd_2184 : Jvm.Cond.code yX12_paste cX12_paste 7 (some .int) ∈ gTbl := gL_of tl1_9 140 rfl (by decide +kernel)
set_option maxRecDepth 16384 in
theorem wd_2181 : Jvm.Cond.methodLink RL 311 yX12_paste ∈ gTbl := gL_of tl1_9 137 rfl (by decide +kernel)
set_option maxRecDepth 16384 in
theorem wd_2182 : Jvm.Cond.instanceMethod yX12_paste ∈ gTbl := gL_of tl1_9 138 rfl (by decide +kernel)
set_option maxRecDepth 16384 in
theorem wd_2183 : Jvm.Cond.selects RX12 yX12_paste yX12_paste ∈ gTbl := gL_of tl1_9 139 rfl (by decide +kernel)
set_option maxRecDepth 16384 in
theorem wd_2185 : Jvm.Cond.constantLong RL 301 4294967295 ∈ gTbl := gL_of tl1_9 141 rfl (by decide +kernel)
set_option maxRecDepth 16384 in
theorem wd_628 : Jvm.Cond.methodLink RX10 56 yJ0_charAt_5068e ∈ gTbl := gL_of tl1_3 24 rfl (by decide +kernel)
set_option maxRecDepth 16384 in
theorem wd_618 : Jvm.Cond.methodLink RX10 51 yJ0_length_8abf5 ∈ gTbl := gL_of tl1_3 14 rfl (by decide +kernel)
set_option maxRecDepth 16384 in
theorem wd_594 : Jvm.Cond.methodLink RX10 45 Lib.Math.min.name ∈ gTbl := gL_of tl1_2 230 rfl (by decide +kernel)
set_option maxRecDepth 16384 in
theorem wd_595 : Jvm.Cond.static Lib.Math.min.name ∈ gTbl := gL_of tl1_2 231 rfl (by decide +kernel)
set_option maxRecDepth 16384 in
theorem wd_138 : Jvm.Cond.initialized "java/lang/Math" ∈ gTbl := gL_of tl1_1 14 rfl (by decide +kernel)
set_option maxRecDepth 16384 in
theorem wd_596 : Jvm.Cond.code Lib.Math.min.name Lib.Math.min.code 2 (some .int) ∈ gTbl := gL_of tl1_2 232 rfl (by decide +kernel)
set_option maxRecDepth 16384 in
theorem wd_1394 : Jvm.Cond.methodLink RX11 441 arraycopyName ∈ gTbl := gL_of tl1_6 70 rfl (by decide +kernel)
set_option maxRecDepth 16384 in
theorem wd_740 : Jvm.Cond.native arraycopyName ∈ gTbl := gL_of tl1_3 136 rfl (by decide +kernel)
set_option maxRecDepth 16384 in
theorem wd_739 : Jvm.Cond.static arraycopyName ∈ gTbl := gL_of tl1_3 135 rfl (by decide +kernel)
set_option maxRecDepth 16384 in
theorem wd_143 : Jvm.Cond.initialized "java/lang/System" ∈ gTbl := gL_of tl1_1 19 rfl (by decide +kernel)
set_option maxRecDepth 16384 in
theorem wd_1120 : Jvm.Cond.methodLink RX11 306 Lib.Math.max.name ∈ gTbl := gL_of tl1_5 36 rfl (by decide +kernel)
set_option maxRecDepth 16384 in
theorem wd_877 : Jvm.Cond.static Lib.Math.max.name ∈ gTbl := gL_of tl1_4 33 rfl (by decide +kernel)
set_option maxRecDepth 16384 in
theorem wd_878 : Jvm.Cond.code Lib.Math.max.name Lib.Math.max.code 2 (some .int) ∈ gTbl := gL_of tl1_4 34 rfl (by decide +kernel)
set_option maxRecDepth 16384 in
theorem wd_981 : Jvm.Cond.fieldLink RX11 241 "RookHusting" "ORDERS" "[I" ∈ gTbl := gL_of tl1_4 137 rfl (by decide +kernel)
set_option maxRecDepth 16384 in
theorem wd_1890 : Jvm.Cond.methodLink RX12 351 Lib.Math.max.name ∈ gTbl := gL_of tl1_8 86 rfl (by decide +kernel)
set_option maxRecDepth 16384 in
theorem wd_1811 : Jvm.Cond.methodLink RX12 308 Lib.MathLoose.abs_long.x ∈ gTbl := gL_of tl1_8 7 rfl (by decide +kernel)
set_option maxRecDepth 16384 in
theorem wd_1812 : Jvm.Cond.static Lib.MathLoose.abs_long.x ∈ gTbl := gL_of tl1_8 8 rfl (by decide +kernel)
set_option maxRecDepth 16384 in
theorem wd_1813 : Jvm.Cond.code Lib.MathLoose.abs_long.x Lib.MathLoose.abs_long.code 2 (some .long) ∈ gTbl := gL_of tl1_8 9 rfl (by decide +kernel)
set_option maxRecDepth 16384 in
theorem wd_1578 : Jvm.Cond.methodLink RX12 144 Lib.Math.min.name ∈ gTbl := gL_of tl1_7 14 rfl (by decide +kernel)
set_option maxRecDepth 16384 in
theorem wd_738 : Jvm.Cond.methodLink RX4 64 arraycopyName ∈ gTbl := gL_of tl1_3 134 rfl (by decide +kernel)
set_option maxRecDepth 16384 in
theorem wd_962 : Jvm.Cond.methodLink RX1 90 arraycopyName ∈ gTbl := gL_of tl1_4 118 rfl (by decide +kernel)
set_option maxRecDepth 16384 in
theorem wd_854 : Jvm.Cond.methodLink RX7 24 arraycopyName ∈ gTbl := gL_of tl1_4 10 rfl (by decide +kernel)
set_option maxRecDepth 16384 in
theorem wd_1362 : Jvm.Cond.methodLink RX0 34 arraycopyName ∈ gTbl := gL_of tl1_6 38 rfl (by decide +kernel)
set_option maxRecDepth 16384 in
theorem wd_887 : Jvm.Cond.methodLink RX3 84 Lib.Math.min.name ∈ gTbl := gL_of tl1_4 43 rfl (by decide +kernel)
set_option maxRecDepth 16384 in
theorem wd_876 : Jvm.Cond.methodLink RX3 78 Lib.Math.max.name ∈ gTbl := gL_of tl1_4 32 rfl (by decide +kernel)
set_option maxRecDepth 16384 in
theorem wd_1161 : Jvm.Cond.methodLink RX5 95 Lib.Math.min.name ∈ gTbl := gL_of tl1_5 77 rfl (by decide +kernel)
set_option maxRecDepth 16384 in
theorem wd_1160 : Jvm.Cond.methodLink RX5 89 arraycopyName ∈ gTbl := gL_of tl1_5 76 rfl (by decide +kernel)
set_option maxRecDepth 16384 in
theorem wd_1254 : Jvm.Cond.methodLink RX2 48 Lib.Math.max.name ∈ gTbl := gL_of tl1_5 170 rfl (by decide +kernel)
set_option maxRecDepth 16384 in
theorem wd_1235 : Jvm.Cond.methodLink RX2 19 arraycopyName ∈ gTbl := gL_of tl1_5 151 rfl (by decide +kernel)
