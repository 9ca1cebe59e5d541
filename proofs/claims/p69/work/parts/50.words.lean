/-! ===== words of the tables, by their places ===== -/
def RL : String := "RookHustingLaw"
theorem gT_all : ∀ w ∈ gTbl, GoodIn gTbl (w :: gTbl) := fun _ h => gT_good h
theorem ae_in {ws : List Jvm.Cond} (ps : List Nat) (h : ws = ps.filterMap (fun i => lw_tbl[i]?)) (hg : ws.all goodWord = true) : ∀ w ∈ ws, w ∈ gTbl := fun w hw => by
  have h1 := List.all_eq_true.mp hg w hw
  rw [h] at hw
  obtain ⟨i, -, hi⟩ := List.mem_filterMap.mp hw
  exact gT_of hi h1
theorem wd_161 : Jvm.Cond.fieldLink RX10 15 "RookHusting$Tape" "length" "I" ∈ gTbl := gT_of (i := 161) (by decide +kernel) (by decide +kernel)
theorem wd_159 : Jvm.Cond.fieldLink RX10 9 "RookHusting$Tape" "bytes" "[B" ∈ gTbl := gT_of (i := 159) (by decide +kernel) (by decide +kernel)
theorem wd_503 : Jvm.Cond.fieldLink RX11 10 "RookHusting" "tape" "LRookHusting$Tape;" ∈ gTbl := gT_of (i := 503) (by decide +kernel) (by decide +kernel)
theorem wd_160 : Jvm.Cond.fieldLink RX11 92 "RookHusting$Tape" "length" "I" ∈ gTbl := gT_of (i := 160) (by decide +kernel) (by decide +kernel)
theorem wd_505 : Jvm.Cond.fieldLink RX11 28 "RookHusting" "state" "LRookHusting$State;" ∈ gTbl := gT_of (i := 505) (by decide +kernel) (by decide +kernel)
theorem wd_333 : Jvm.Cond.fieldLink RX11 45 "RookHusting$State" "told" "LRookHusting$Hundred;" ∈ gTbl := gT_of (i := 333) (by decide +kernel) (by decide +kernel)
theorem wd_197 : Jvm.Cond.fieldLink RX11 133 "RookHusting$Hundred" "lines" "I" ∈ gTbl := gT_of (i := 197) (by decide +kernel) (by decide +kernel)
theorem wd_222 : Jvm.Cond.fieldLink RX11 303 "RookHusting$Hundred" "men" "I" ∈ gTbl := gT_of (i := 222) (by decide +kernel) (by decide +kernel)
theorem wd_214 : Jvm.Cond.fieldLink RX11 291 "RookHusting$Hundred" "fields" "I" ∈ gTbl := gT_of (i := 214) (by decide +kernel) (by decide +kernel)
theorem wd_201 : Jvm.Cond.fieldLink RX11 297 "RookHusting$Hundred" "days" "I" ∈ gTbl := gT_of (i := 201) (by decide +kernel) (by decide +kernel)
theorem wd_381 : Jvm.Cond.fieldLink RX7 9 "RookHusting$Scene" "standing" "[I" ∈ gTbl := gT_of (i := 381) (by decide +kernel) (by decide +kernel)
theorem wd_385 : Jvm.Cond.fieldLink RX7 15 "RookHusting$Scene" "speeches" "[I" ∈ gTbl := gT_of (i := 385) (by decide +kernel) (by decide +kernel)
theorem wd_234 : Jvm.Cond.fieldLink RX7 21 "RookHusting$Hundred" "joined" "[I" ∈ gTbl := gT_of (i := 234) (by decide +kernel) (by decide +kernel)
theorem wd_389 : Jvm.Cond.fieldLink RX7 18 "RookHusting$Scene" "joined" "[I" ∈ gTbl := gT_of (i := 389) (by decide +kernel) (by decide +kernel)
theorem wd_392 : Jvm.Cond.fieldLink RX7 30 "RookHusting$Scene" "wind" "I" ∈ gTbl := gT_of (i := 392) (by decide +kernel) (by decide +kernel)
theorem wd_368 : Jvm.Cond.fieldLink RX1 15 "RookHusting$Election" "told" "LRookHusting$Hundred;" ∈ gTbl := gT_of (i := 368) (by decide +kernel) (by decide +kernel)
theorem wd_220 : Jvm.Cond.fieldLink RX1 42 "RookHusting$Hundred" "men" "I" ∈ gTbl := gT_of (i := 220) (by decide +kernel) (by decide +kernel)
theorem wd_318 : Jvm.Cond.fieldLink RX0 21 "RookHusting$Acts" "size" "I" ∈ gTbl := gT_of (i := 318) (by decide +kernel) (by decide +kernel)
theorem wd_320 : Jvm.Cond.fieldLink RX0 9 "RookHusting$Acts" "kinds" "[I" ∈ gTbl := gT_of (i := 320) (by decide +kernel) (by decide +kernel)
theorem wd_387 : Jvm.Cond.fieldLink RX0 25 "RookHusting$Scene" "speeches" "[I" ∈ gTbl := gT_of (i := 387) (by decide +kernel) (by decide +kernel)
theorem wd_321 : Jvm.Cond.fieldLink RX0 15 "RookHusting$Acts" "fields" "[I" ∈ gTbl := gT_of (i := 321) (by decide +kernel) (by decide +kernel)
theorem wd_322 : Jvm.Cond.fieldLink RX0 18 "RookHusting$Acts" "values" "[I" ∈ gTbl := gT_of (i := 322) (by decide +kernel) (by decide +kernel)
theorem wd_424 : Jvm.Cond.fieldLink RX3 39 "RookHusting$Harvest" "fields" "I" ∈ gTbl := gT_of (i := 424) (by decide +kernel) (by decide +kernel)
theorem wd_412 : Jvm.Cond.fieldLink RX3 15 "RookHusting$Harvest" "rooks" "[I" ∈ gTbl := gT_of (i := 412) (by decide +kernel) (by decide +kernel)
theorem wd_414 : Jvm.Cond.fieldLink RX3 18 "RookHusting$Harvest" "corn" "[I" ∈ gTbl := gT_of (i := 414) (by decide +kernel) (by decide +kernel)
theorem wd_417 : Jvm.Cond.fieldLink RX3 21 "RookHusting$Harvest" "eaten" "[I" ∈ gTbl := gT_of (i := 417) (by decide +kernel) (by decide +kernel)
theorem wd_419 : Jvm.Cond.fieldLink RX3 24 "RookHusting$Harvest" "flown" "[I" ∈ gTbl := gT_of (i := 419) (by decide +kernel) (by decide +kernel)
theorem wd_421 : Jvm.Cond.fieldLink RX3 27 "RookHusting$Harvest" "goal" "[I" ∈ gTbl := gT_of (i := 421) (by decide +kernel) (by decide +kernel)
theorem wd_410 : Jvm.Cond.fieldLink RX3 9 "RookHusting$Harvest" "fear" "[I" ∈ gTbl := gT_of (i := 410) (by decide +kernel) (by decide +kernel)
theorem wd_352 : Jvm.Cond.fieldLink RX8 19 "RookHusting$Slots" "lengths" "[I" ∈ gTbl := gT_of (i := 352) (by decide +kernel) (by decide +kernel)
theorem wd_487 : Jvm.Cond.fieldLink RX2 15 "RookHusting$Guesses" "fitting" "I" ∈ gTbl := gT_of (i := 487) (by decide +kernel) (by decide +kernel)
theorem wd_493 : Jvm.Cond.fieldLink RX2 9 "RookHusting$Guesses" "rooks" "[I" ∈ gTbl := gT_of (i := 493) (by decide +kernel) (by decide +kernel)
