/-! ===== words of the tables, by their places ===== -/
def RL : String := "RookHustingLaw"
theorem gT_all : ∀ w ∈ gTbl, GoodIn gTbl (w :: gTbl) := fun _ h => gT_good h
theorem ae_in {ws : List Jvm.Cond} (ps : List Nat) (h : ws = ps.filterMap (fun i => lw_tbl[i]?)) (hg : ws.all goodWord = true) : ∀ w ∈ ws, w ∈ gTbl := fun w hw => by
  have h1 := List.all_eq_true.mp hg w hw
  rw [h] at hw
  obtain ⟨i, -, hi⟩ := List.mem_filterMap.mp hw
  exact gT_of hi h1
theorem ct2_nil {l : Launch} {own : String} {cl : List vw_C} {Ts : List Jvm.Cond} : CTOK2 l own cl Ts [] := fun _ hq => absurd hq List.not_mem_nil
theorem ct2_cons {l : Launch} {own : String} {cl : List vw_C} {Ts : List Jvm.Cond} {q : Nat × Nat × Nat × Con2 × List Nat} {CT : CTB2} (h1 : Vld2 l cl Ts q.2.2.2.1) (h2 : COK2 own cl Ts q.2.1 q.2.2.1 q.2.2.2.1) (h3 : CTOK2 l own cl Ts CT) : CTOK2 l own cl Ts (q :: CT) := fun x hx => by
  rcases List.mem_cons.mp hx with rfl | hx
  · exact ⟨h1, h2⟩
  · exact h3 x hx
theorem fa2_nil {P : Nat × Nat → Prop} : ∀ q ∈ ([] : List (Nat × Nat)), P q := fun _ hq => absurd hq List.not_mem_nil
theorem fa2_cons {P : Nat × Nat → Prop} {q : Nat × Nat} {L : List (Nat × Nat)} (h1 : P q) (h2 : ∀ q ∈ L, P q) : ∀ x ∈ q :: L, P x := fun x hx => by
  rcases List.mem_cons.mp hx with rfl | hx
  · exact h1
  · exact h2 x hx
theorem wd_1412 : Jvm.Cond.fieldLink RX12 150 "RookHustingModel" "faultKind" "I" ∈ gTbl := gT_of (i := 1412) (by decide +kernel) (by decide +kernel)
theorem wd_1408 : Jvm.Cond.fieldLink RX12 119 "RookHustingModel" "at" "I" ∈ gTbl := gT_of (i := 1408) (by decide +kernel) (by decide +kernel)
theorem wd_1409 : Jvm.Cond.fieldLink RX12 126 "RookHustingModel" "from" "I" ∈ gTbl := gT_of (i := 1409) (by decide +kernel) (by decide +kernel)
theorem wd_1410 : Jvm.Cond.fieldLink RX12 129 "RookHustingModel" "token" "I" ∈ gTbl := gT_of (i := 1410) (by decide +kernel) (by decide +kernel)
theorem wd_1404 : Jvm.Cond.fieldLink RX12 20 "RookHustingModel" "tape" "[B" ∈ gTbl := gT_of (i := 1404) (by decide +kernel) (by decide +kernel)
theorem wd_1604 : Jvm.Cond.methodLink RX12 156 yJ0_length_8abf5 ∈ gTbl := gT_of (i := 1604) (by decide +kernel) (by decide +kernel)
theorem wd_1605 : Jvm.Cond.methodLink RX12 161 yJ0_charAt_5068e ∈ gTbl := gT_of (i := 1605) (by decide +kernel) (by decide +kernel)
theorem wd_1579 : Jvm.Cond.methodLink RX12 153 yX12_good ∈ gTbl := gT_of (i := 1579) (by decide +kernel) (by decide +kernel)
theorem wd_1582 : Jvm.Cond.code yX12_good cX12_good 1 (some .boolean) ∈ gTbl := gT_of (i := 1582) (by decide +kernel) (by decide +kernel)
theorem wd_137 : Jvm.Cond.initialized RX12 ∈ gTbl := gT_of (i := 137) (by decide +kernel) (by decide +kernel)
theorem wd_1581 : Jvm.Cond.instanceMethod yX12_good ∈ gTbl := gT_of (i := 1581) (by decide +kernel) (by decide +kernel)
theorem wd_53 : Jvm.Cond.selects RX12 yX12_good yX12_good ∈ gTbl := gT_of (i := 53) (by decide +kernel) (by decide +kernel)
