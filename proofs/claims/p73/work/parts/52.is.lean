theorem dX12_good_0 : decode cX12_good 0 = .ok (.aload_n 0, 1) := by decide +kernel
theorem dX12_good_1 : decode cX12_good 1 = .ok (.getfield 150, 3) := by decide +kernel
theorem dX12_good_4 : decode cX12_good 4 = .ok (.ifCond .ne 7, 3) := by decide +kernel
theorem dX12_good_7 : decode cX12_good 7 = .ok (.iconst 1, 1) := by decide +kernel
theorem dX12_good_8 : decode cX12_good 8 = .ok (.goto 4, 3) := by decide +kernel
theorem dX12_good_11 : decode cX12_good 11 = .ok (.iconst 0, 1) := by decide +kernel
theorem dX12_good_12 : decode cX12_good 12 = .ok (.ireturn, 1) := by decide +kernel
theorem dX12_is_0 : decode cX12_is 0 = .ok (.aload_n 0, 1) := by decide +kernel
theorem dX12_is_1 : decode cX12_is 1 = .ok (.invokevirtual 153, 3) := by decide +kernel
theorem dX12_is_4 : decode cX12_is 4 = .ok (.ifCond .eq 31, 3) := by decide +kernel
theorem dX12_is_7 : decode cX12_is 7 = .ok (.aload_n 0, 1) := by decide +kernel
theorem dX12_is_8 : decode cX12_is 8 = .ok (.getfield 129, 3) := by decide +kernel
theorem dX12_is_11 : decode cX12_is 11 = .ok (.iconst 1, 1) := by decide +kernel
theorem dX12_is_12 : decode cX12_is 12 = .ok (.if_icmp .ne 23, 3) := by decide +kernel
theorem dX12_is_15 : decode cX12_is 15 = .ok (.aload_n 0, 1) := by decide +kernel
theorem dX12_is_16 : decode cX12_is 16 = .ok (.getfield 119, 3) := by decide +kernel
theorem dX12_is_19 : decode cX12_is 19 = .ok (.aload_n 0, 1) := by decide +kernel
theorem dX12_is_20 : decode cX12_is 20 = .ok (.getfield 126, 3) := by decide +kernel
theorem dX12_is_23 : decode cX12_is 23 = .ok (.isub, 1) := by decide +kernel
theorem dX12_is_24 : decode cX12_is 24 = .ok (.aload_n 1, 1) := by decide +kernel
theorem dX12_is_25 : decode cX12_is 25 = .ok (.invokevirtual 156, 3) := by decide +kernel
theorem dX12_is_28 : decode cX12_is 28 = .ok (.if_icmp .ne 7, 3) := by decide +kernel
theorem dX12_is_31 : decode cX12_is 31 = .ok (.iconst 1, 1) := by decide +kernel
theorem dX12_is_32 : decode cX12_is 32 = .ok (.goto 4, 3) := by decide +kernel
theorem dX12_is_35 : decode cX12_is 35 = .ok (.iconst 0, 1) := by decide +kernel
theorem dX12_is_36 : decode cX12_is 36 = .ok (.istore_n 2, 1) := by decide +kernel
theorem dX12_is_37 : decode cX12_is 37 = .ok (.iconst 0, 1) := by decide +kernel
theorem dX12_is_38 : decode cX12_is 38 = .ok (.istore_n 3, 1) := by decide +kernel
theorem dX12_is_39 : decode cX12_is 39 = .ok (.iload_n 3, 1) := by decide +kernel
theorem dX12_is_40 : decode cX12_is 40 = .ok (.aload_n 1, 1) := by decide +kernel
theorem dX12_is_41 : decode cX12_is 41 = .ok (.invokevirtual 156, 3) := by decide +kernel
theorem dX12_is_44 : decode cX12_is 44 = .ok (.if_icmp .ge 38, 3) := by decide +kernel
theorem dX12_is_47 : decode cX12_is 47 = .ok (.iload_n 2, 1) := by decide +kernel
theorem dX12_is_48 : decode cX12_is 48 = .ok (.ifCond .eq 34, 3) := by decide +kernel
theorem dX12_is_51 : decode cX12_is 51 = .ok (.aload_n 0, 1) := by decide +kernel
theorem dX12_is_52 : decode cX12_is 52 = .ok (.getfield 20, 3) := by decide +kernel
theorem dX12_is_55 : decode cX12_is 55 = .ok (.aload_n 0, 1) := by decide +kernel
theorem dX12_is_56 : decode cX12_is 56 = .ok (.getfield 126, 3) := by decide +kernel
theorem dX12_is_59 : decode cX12_is 59 = .ok (.iload_n 3, 1) := by decide +kernel
theorem dX12_is_60 : decode cX12_is 60 = .ok (.iadd, 1) := by decide +kernel
theorem dX12_is_61 : decode cX12_is 61 = .ok (.baload, 1) := by decide +kernel
theorem dX12_is_62 : decode cX12_is 62 = .ok (.aload_n 1, 1) := by decide +kernel
theorem dX12_is_63 : decode cX12_is 63 = .ok (.iload_n 3, 1) := by decide +kernel
theorem dX12_is_64 : decode cX12_is 64 = .ok (.invokevirtual 161, 3) := by decide +kernel
theorem dX12_is_67 : decode cX12_is 67 = .ok (.if_icmp .ne 7, 3) := by decide +kernel
theorem dX12_is_70 : decode cX12_is 70 = .ok (.iconst 1, 1) := by decide +kernel
theorem dX12_is_71 : decode cX12_is 71 = .ok (.goto 4, 3) := by decide +kernel
theorem dX12_is_74 : decode cX12_is 74 = .ok (.iconst 0, 1) := by decide +kernel
theorem dX12_is_75 : decode cX12_is 75 = .ok (.istore_n 2, 1) := by decide +kernel
theorem dX12_is_76 : decode cX12_is 76 = .ok (.iinc 3 1, 3) := by decide +kernel
theorem dX12_is_79 : decode cX12_is 79 = .ok (.goto (-40), 3) := by decide +kernel
theorem dX12_is_82 : decode cX12_is 82 = .ok (.iload_n 2, 1) := by decide +kernel
theorem dX12_is_83 : decode cX12_is 83 = .ok (.ireturn, 1) := by decide +kernel
/-! ===== is(w) of cells as they are: what it answers ===== -/
section ISW
variable {l : Launch} {E : EvK} {D : va_G} {cA : Nat → ClassId} {sz r t : Nat}
theorem is_keep {cl : List vw_C} {ws : va_W} {H H1 : Heap} (hP : va_P D cl ws H) (hk : ∀ q : Nat, q < H.size → ¬ va_A (zw [] []) H.size q → H1[q]? = H[q]?) : va_P D cl ws H1 := by
  refine hP.kept (fun k q hq => hk q.1 (hP k q hq).lt (fun h => ?_))
  rcases h with ⟨k2, e2, h⟩ | h
  · exact absurd h (by show ¬ (([] : List (Nat × va_E))[k2]? = _); simp)
  · have := (hP k q hq).lt
    omega
theorem mt_good {fs : List Value} {Z : Int32} (hZ : fs[12]? = some (.int Z)) : Met l yX12_good (.code yX12_good cX12_good 1 (some .boolean) :: gTbl) (rmT 0 0) (PcE E D vwCl cA [.ref r] [r] [.inr (12, fs)] sz) (QcT (some (.int (if Z = 0 then 1 else 0))) sz) 0 0 (va_A (zw [] []) sz) := by
  refine Met.ofW (cc := cX12_good) (maxL := 1) (ret := some .boolean) (by decide +kernel) rfl ?_
  intro p e s m args below meth c s₁ B hml hv
  obtain ⟨rfl, hsz, hP, hK, hD, hN, hE, hA0⟩ := hv
  subst hsz
  have hts0 := atoms_spec (ws := .code yX12_good cX12_good 1 (some .boolean) :: gTbl) B.pre
  have hts : ∀ w ∈ gTbl, w.before [Value.ref r].toArray s = true := fun w hw => hts0 w (List.mem_cons_of_mem _ hw)
  have hown : s.vm.findClass RX12 = some m.cls := findClass_of_methodNamed B.named
  have hl := lv_entry [.ref r] (n := 1) (Nat.le_refl 1)
  rw [lg_entry_eq]
  generalize (lg_sl [Value.ref r] ++ List.replicate (1 - (lg_sl [Value.ref r]).length) Slot.unset).toArray = ls at hl ⊢
  refine lv_aload_n B.exec B.bytes dX12_good_0 rfl (lv_at hl 0 rfl) ?_
  obtain ⟨C, F, N, tyf, f1, f2, f3, f4, f5, f6, f7⟩ := fk_RX12_150
  refine va_get (D := D) B.exec B.bytes hts f3 hown hK hP 0 rfl f1 12 f2 (hts _ f4) (fun _ h9 => h9) hZ dX12_good_1 ?_
  refine lv_if_ne B.exec B.bytes dX12_good_4 (tgt := 11) rfl (fun h => ?_) (fun h => ?_)
  · refine lv_iconst B.exec B.bytes dX12_good_11 (v := 0) rfl ?_
    exact W.zret B.exec B.bytes B.returns rfl (fun t ht _ => ⟨by rw [if_neg h], va_S.rf.F ht⟩) (fun _ h => by cases h) dX12_good_12
  · refine lv_iconst B.exec B.bytes dX12_good_7 (v := 1) rfl ?_
    refine lv_goto B.exec B.bytes dX12_good_8 (tgt := 12) rfl ?_
    exact W.zret B.exec B.bytes B.returns rfl (fun t ht _ => ⟨by rw [if_pos h], va_S.rf.F ht⟩) (fun _ h => by cases h) dX12_good_12
/-- what is(w) looks at, from a place on -/
def isM (i k : Nat) (Y : Int32) (f : Nat → Int32) : Prop := ∀ j : Nat, k ≤ j → j < lnK.getD i 0 → f (Y.toInt.toNat + j) = (byK.getD i []).getD j 0 &&& 255
def isQ (i : Nat) (Z T X Y : Int32) (f : Nat → Int32) : Prop := Z = 0 ∧ T = 1 ∧ X - Y = Int32.ofNat (lnK.getD i 0) ∧ isM i 0 Y f
theorem mt_is {fs : List Value} {f : Nat → Int32} {Z T X Y : Int32} (hZ : fs[12]? = some (.int Z)) (hT : fs[10]? = some (.int T)) (hX : fs[8]? = some (.int X)) (hY : fs[9]? = some (.int Y)) (ht4 : fs[4]? = some (.ref t)) (hX0 : 0 ≤ X.toInt ∧ X.toInt ≤ 700) (hY0 : 0 ≤ Y.toInt ∧ Y.toInt ≤ 700) {i : Nat} (hi : i < 13) {b : Int32} (hb : (isQ i Z T X Y f ∧ b = 1) ∨ (¬ isQ i Z T X Y f ∧ b = 0)) {Qc : Array Value → State → Outcome → State → Prop} {free : Addr → Prop} (hQ : ∀ s u : State, s.heap.size = sz → va_P D vwCl (zw [r, t] [.inr (12, fs), .inl (cA 0, 700, .inl f)]) u.heap → va_F (va_A (zw [] []) sz) s u → Qc [Value.ref r, .ref (E.1 i)].toArray s (.returned (some (.int b))) u) (hfr : ∀ q, va_A (zw [] []) sz q → free q) : Met l yX12_is (.code yX12_is cX12_is 4 (some .boolean) :: gTbl) (rmT 8 200) (PcE E D vwCl cA [.ref r, .ref (E.1 i)] [r, t] [.inr (12, fs), .inl (cA 0, 700, .inl f)] sz) Qc 0 0 free := by
  refine Met.ofW (cc := cX12_is) (maxL := 4) (ret := some .boolean) (by decide +kernel) rfl ?_
  intro p e s m args below meth c s₁ B hml hv
  obtain ⟨rfl, hsz, hP0, hK, hD, hN, hE, hA0'⟩ := hv
  subst hsz
  have hts0 := atoms_spec (ws := .code yX12_is cX12_is 4 (some .boolean) :: gTbl) B.pre
  have hts : ∀ w ∈ gTbl, w.before [Value.ref r, .ref (E.1 i)].toArray s = true := fun w hw => hts0 w (List.mem_cons_of_mem _ hw)
  have hown : s.vm.findClass RX12 = some m.cls := findClass_of_methodNamed B.named
  have hl := lv_entry [.ref r, .ref (E.1 i)] (n := 4) (show 2 ≤ 4 by decide)
  rw [lg_entry_eq]
  generalize (lg_sl [Value.ref r, Value.ref (E.1 i)] ++ List.replicate (4 - (lg_sl [Value.ref r, Value.ref (E.1 i)]).length) Slot.unset).toArray = ls at hl ⊢
  have hA0 : ∀ q, va_A (zw [] []) s.heap.size q → E.2.2.2 q := fun q hq => hA0' q (by
    rcases hq with ⟨k, e, h⟩ | h
    · exact absurd h (by show ¬ (([] : List (Nat × va_E))[k]? = _); simp)
    · exact Or.inr h)
  have hA : ∀ q, s.heap.size ≤ q → va_A (zw [] []) s.heap.size q := fun q hq => Or.inr hq
  have hO1 := (hE.2.2.1 i hi).1.narrow hA0
  have hln := lnK_small i hi
  have hlI := lnK_int i hi
  obtain ⟨C8, F8, N8, ty8, a1, a2, a3, a4, a5, a6, a7⟩ := fk_RX12_119
  obtain ⟨C9, F9, N9, ty9, b1, b2, b3, b4, b5, b6, b7⟩ := fk_RX12_126
  obtain ⟨C10, F10, N10, ty10, c1, c2, c3, c4, c5, c6, c7⟩ := fk_RX12_129
  obtain ⟨C4, F4, N4, ty4, d1, d2, d3, d4, d5, d6, d7⟩ := fk_RX12_20
  -- the end
  have hend : ∀ (x k : Int32) (ls' : Array Slot) (H : Heap) (locs : List Loc), x = b → (b = 0 ∨ b = 1) → lv_has ls' 4 [(3, .int k), (2, .int x), (0, .ref r), (1, .ref (E.1 i))] → va_P D vwCl (zw [r, t] [.inr (12, fs), .inl (cA 0, 700, .inl f)]) H → va_S (va_A (zw [] []) s.heap.size) s.heap H locs → W p l e (headSpec (.code yX12_is cX12_is 4 (some .boolean) :: gTbl) (rmT 8 200)).room s m [Value.ref r, .ref (E.1 i)].toArray below meth c H locs 0 0 (MQ below Qc [Value.ref r, .ref (E.1 i)].toArray s 0 0 free) (F0 m 82 ls' []) := by
    intro x k ls' H locs hx hb01 hl' hP hS
    subst hx
    refine lv_iload_n B.exec B.bytes dX12_is_82 rfl (lv_at hl' 1 rfl) ?_
    rcases hb01 with h | h
    · rw [h] at hQ ⊢
      exact W.zret B.exec B.bytes B.returns rfl (fun u hu _ => hQ s u rfl (by rw [hu]; exact hP) (hS.F hu)) (fun q hq => hfr _ (hS.2.2 q hq)) dX12_is_83
    · rw [h] at hQ ⊢
      exact W.zret B.exec B.bytes B.returns rfl (fun u hu _ => hQ s u rfl (by rw [hu]; exact hP) (hS.F hu)) (fun q hq => hfr _ (hS.2.2 q hq)) dX12_is_83
  have hb01 : b = 0 ∨ b = 1 := by rcases hb with h | h; exact Or.inr h.2; exact Or.inl h.2
  -- a text's length
  have hlen : ∀ {pc : Nat} {rest : List Value} {ls' : Array Slot} {H : Heap} {locs : List Loc}, ls'.size = 4 → (rest.map fun v => v.category).sum ≤ 8 → decode cX12_is pc = .ok (.invokevirtual 156, 3) → va_P D vwCl (zw [r, t] [.inr (12, fs), .inl (cA 0, 700, .inl f)]) H → va_S (va_A (zw [] []) s.heap.size) s.heap H locs → (∀ (H1 : Heap) (locs1 : List Loc), va_P D vwCl (zw [r, t] [.inr (12, fs), .inl (cA 0, 700, .inl f)]) H1 → va_S (va_A (zw [] []) s.heap.size) s.heap H1 locs1 → W p l e (headSpec (.code yX12_is cX12_is 4 (some .boolean) :: gTbl) (rmT 8 200)).room s m [Value.ref r, .ref (E.1 i)].toArray below meth c H1 locs1 0 0 (MQ below Qc [Value.ref r, .ref (E.1 i)].toArray s 0 0 free) (F0 m (pc + 3) ls' (.int (Int32.ofNat (lnK.getD i 0)) :: rest))) → W p l e (headSpec (.code yX12_is cX12_is 4 (some .boolean) :: gTbl) (rmT 8 200)).room s m [Value.ref r, .ref (E.1 i)].toArray below meth c H locs 0 0 (MQ below Qc [Value.ref r, .ref (E.1 i)].toArray s 0 0 free) (F0 m pc ls' (.ref (E.1 i) :: rest)) := by
    intro pc rest ls' H locs hsz hcat hd hP hS kk
    have hrun := va_runV (l := l) (e := e) (R := (headSpec (.code yX12_is cX12_is 4 (some .boolean) :: gTbl) (rmT 8 200)).room) (C := RJ0) (below := below) (meth := meth) (H := H) (locs := locs) (cells := 0) (slots := 0) (b := E.1 i) (As := []) (rest := rest) (g := F0 m pc ls' (.ref (E.1 i) :: rest)) ⟨B.exec, B.bytes, hml, hown, hts⟩ (mt_len (cl := vwCl) (Ts := gTbl) (E := E) (D := D) (cA := cA) (sz := H.size) gT_all jok hi) ⟨callB_of 0 hts (gT_all _ (JOK_at jok 0 rfl)) rfl rfl rfl (hts _ (JOK_at jok 14 rfl)) (hts _ wd_1604) ⟨by decide, by decide, by decide +kernel⟩ ⟨by show (1 + 1 ≤ 8); decide, by show (8 + (1 + 11) + 20 ≤ 200); decide⟩, hts _ (JOK_at jok 26 rfl), hts _ (JOK_at jok 27 rfl)⟩ ⟨tx_blind, va_Orecv hO1 hS, tx_pre hK hN hE hA0 hA hS _⟩ rfl rfl hsz rfl (lv_room (st := rest) hcat) hd ⟨Nat.le_refl _, Nat.le_refl _⟩
    refine my_call (P := fun oc _ => oc = .returned (some (.int (Int32.ofNat (lnK.getD i 0))))) (A0 := va_A (zw [] []) s.heap.size) (H0 := s.heap) hrun hS (fun q _ h => tx_free hA hS q h) (tx_free hA hS) (fun v t H1 locs1 ht hO _ hk hS1 => ?_)
    cases hO
    exact kk H1 locs1 (is_keep hP hk) hS1
  -- the loop
  have hloop : ∀ (n k : Nat) (x : Int32) (ls' : Array Slot) (H : Heap) (locs : List Loc), k ≤ lnK.getD i 0 → lnK.getD i 0 - k < n → (x = 1 → X - Y = Int32.ofNat (lnK.getD i 0)) → ((x = 1 ∧ isM i k Y f ∧ b = 1) ∨ (x = 1 ∧ ¬ isM i k Y f ∧ b = 0) ∨ (x = 0 ∧ b = 0)) → lv_has ls' 4 [(3, .int (Int32.ofNat k)), (2, .int x), (0, .ref r), (1, .ref (E.1 i))] → va_P D vwCl (zw [r, t] [.inr (12, fs), .inl (cA 0, 700, .inl f)]) H → va_S (va_A (zw [] []) s.heap.size) s.heap H locs → W p l e (headSpec (.code yX12_is cX12_is 4 (some .boolean) :: gTbl) (rmT 8 200)).room s m [Value.ref r, .ref (E.1 i)].toArray below meth c H locs 0 0 (MQ below Qc [Value.ref r, .ref (E.1 i)].toArray s 0 0 free) (F0 m 39 ls' []) := by
    intro n
    induction n with
    | zero => intro k x ls' H locs _ h; omega
    | succ n ih =>
      intro k x ls' H locs hk hn hxy hx hl' hP hS
      have hkI : (Int32.ofNat k).toInt = (k : Int) := nI_toInt (n := k) (by omega)
      refine lv_iload_n B.exec B.bytes dX12_is_39 rfl (lv_at hl' 0 rfl) ?_
      refine lv_aload_n B.exec B.bytes dX12_is_40 rfl (lv_at hl' 3 rfl) ?_
      refine hlen hl'.1 (by show (1 + 0 ≤ 8); decide) dX12_is_41 hP hS (fun H1 locs1 hP1 hS1 => ?_)
      refine lv_icmp_ge B.exec B.bytes dX12_is_44 (tgt := 82) rfl (fun hge => ?_) (fun hlt => ?_)
      · rw [Int32.le_iff_toInt_le, hlI, hkI] at hge
        refine hend x _ ls' H1 locs1 ?_ hb01 hl' hP1 hS1
        rcases hx with ⟨h1, -, h3⟩ | ⟨-, h2, -⟩ | ⟨h1, h2⟩
        · rw [h1, h3]
        · exact absurd (fun j hj1 hj2 => by omega) h2
        · rw [h1, h2]
      · rw [Int32.le_iff_toInt_le, hlI, hkI] at hlt
        refine lv_iload_n B.exec B.bytes dX12_is_47 rfl (lv_at hl' 1 rfl) ?_
        refine lv_if_eq B.exec B.bytes dX12_is_48 (tgt := 82) rfl (fun h0 => ?_) (fun h0 => ?_)
        · refine hend x _ ls' H1 locs1 ?_ hb01 hl' hP1 hS1
          rcases hx with ⟨h1, -⟩ | ⟨h1, -⟩ | ⟨h1, h2⟩
          · rw [h0] at h1; exact absurd h1 (by decide)
          · rw [h0] at h1; exact absurd h1 (by decide)
          · rw [h1, h2]
        · have hx1 : x = 1 := by
            rcases hx with ⟨h1, -⟩ | ⟨h1, -⟩ | ⟨h1, -⟩
            · exact h1
            · exact h1
            · exact absurd h1 h0
          have hXY := hxy hx1
          have hsub : X.toInt - Y.toInt = (lnK.getD i 0 : Nat) := by
            have := congrArg Int32.toInt hXY
            rw [Int32.toInt_sub, ae_bm (by omega) (by omega), hlI] at this
            exact this
          have hYk : (Y + Int32.ofNat k).toInt = Y.toInt + k := by rw [Int32.toInt_add, hkI, ae_bm (by omega) (by omega)]
          have hYn : (Y + Int32.ofNat k).toNatClampNeg = Y.toInt.toNat + k := by rw [ae_cl, hYk]; omega
          refine lv_aload_n B.exec B.bytes dX12_is_51 rfl (lv_at hl' 2 rfl) ?_
          refine va_get (D := D) B.exec B.bytes hts d3 hown hK hP1 0 rfl d1 4 d2 (hts _ d4) (fun _ h9 => h9) ht4 dX12_is_52 ?_
          refine lv_aload_n B.exec B.bytes dX12_is_55 rfl (lv_at hl' 2 rfl) ?_
          refine va_get (D := D) B.exec B.bytes hts b3 hown hK hP1 0 rfl b1 9 b2 (hts _ b4) (fun _ h9 => h9) hY dX12_is_56 ?_
          refine lv_iload_n B.exec B.bytes dX12_is_59 rfl (lv_at hl' 0 rfl) ?_
          refine lv_iadd B.exec B.bytes dX12_is_60 ?_
          refine va_bald B.exec B.bytes hK hP1 1 0 rfl rfl (vp_in_iff.mpr ⟨by omega, by omega⟩) dX12_is_61 ?_
          rw [hYn]
          refine lv_aload_n B.exec B.bytes dX12_is_62 rfl (lv_at hl' 3 rfl) ?_
          refine lv_iload_n B.exec B.bytes dX12_is_63 rfl (lv_at hl' 0 rfl) ?_
          obtain ⟨i1, i2, i3, i4⟩ := tx_ix (k := Int32.ofNat k) (n := lnK.getD i 0) hln (by omega) (by omega)
          have hkc : (Int32.ofNat k).toNatClampNeg = k := by rw [ae_cl, hkI]; omega
          have hmc := mt_char (l := l) (cl := vwCl) (Ts := gTbl) (E := E) (D := D) (cA := cA) (sz := H1.size) gT_all jok hi i1 i2 i3
          rw [hkc] at hmc
          have hrun := va_runV (l := l) (e := e) (R := (headSpec (.code yX12_is cX12_is 4 (some .boolean) :: gTbl) (rmT 8 200)).room) (C := RJ0) (below := below) (meth := meth) (H := H1) (locs := locs1) (cells := 0) (slots := 0) (b := E.1 i) (As := [.int (Int32.ofNat k)]) (rest := [.int (f (Y.toInt.toNat + k))]) (g := F0 m 64 ls' (.int (Int32.ofNat k) :: .ref (E.1 i) :: [.int (f (Y.toInt.toNat + k))])) ⟨B.exec, B.bytes, hml, hown, hts⟩ hmc ⟨callB_of 1 hts (gT_all _ (JOK_at jok 1 rfl)) rfl rfl rfl (hts _ (JOK_at jok 14 rfl)) (hts _ wd_1605) ⟨by decide, by decide, by decide +kernel⟩ ⟨by show (3 + 1 ≤ 8); decide, by show (8 + (2 + 11) + 64 ≤ 200); decide⟩, hts _ (JOK_at jok 28 rfl), hts _ (JOK_at jok 29 rfl)⟩ ⟨tx_blind, va_Orecv hO1 hS1, tx_pre hK hN hE hA0 hA hS1 _⟩ rfl rfl hl'.1 rfl (lv_room (st := [.int (f (Y.toInt.toNat + k))]) (by show (1 + 0 ≤ 8); decide)) dX12_is_64 ⟨Nat.le_refl _, Nat.le_refl _⟩
          refine my_call (P := fun oc _ => oc = .returned (some (.int ((byK.getD i []).getD k 0 &&& 255)))) (A0 := va_A (zw [] []) s.heap.size) (H0 := s.heap) hrun hS1 (fun q _ h => tx_free hA hS1 q h) (tx_free hA hS1) (fun v t' H2 locs2 ht' hO _ hk2 hS2 => ?_)
          cases hO
          have hP2 := is_keep hP1 hk2
          have hk1 : Int32.ofNat k + Int32.ofInt 1 = Int32.ofNat (k + 1) := Int32.toInt_inj.mp (by
            rw [Int32.toInt_add, hkI, show (Int32.ofInt 1).toInt = 1 from by decide, ae_bm (by omega) (by omega)]
            exact (nI_toInt (n := k + 1) (by omega)).symm)
          refine lv_icmp_ne B.exec B.bytes dX12_is_67 (tgt := 74) rfl (fun hne => ?_) (fun heq => ?_)
          · refine lv_iconst B.exec B.bytes dX12_is_74 (v := 0) rfl ?_
            refine lv_istore_n B.exec B.bytes dX12_is_75 rfl hl' (by decide) rfl (fun ls2 hl2 => ?_)
            refine lv_iinc B.exec B.bytes dX12_is_76 (k := 1) hl2 rfl hk1 (by decide) rfl (fun ls3 hl3 => ?_)
            refine lv_goto B.exec B.bytes dX12_is_79 (tgt := 39) rfl ?_
            refine ih (k + 1) 0 ls3 H2 locs2 (by omega) (by omega) (fun h => absurd h (by decide)) (Or.inr (Or.inr ⟨rfl, ?_⟩)) hl3 hP2 hS2
            rcases hx with ⟨-, h2, -⟩ | ⟨-, -, h3⟩ | ⟨-, h2⟩
            · exact absurd (h2 k (Nat.le_refl k) (by omega)) hne
            · exact h3
            · exact h2
          · refine lv_iconst B.exec B.bytes dX12_is_70 (v := 1) rfl ?_
            refine lv_goto B.exec B.bytes dX12_is_71 (tgt := 75) rfl ?_
            refine lv_istore_n B.exec B.bytes dX12_is_75 rfl hl' (by decide) rfl (fun ls2 hl2 => ?_)
            refine lv_iinc B.exec B.bytes dX12_is_76 (k := 1) hl2 rfl hk1 (by decide) rfl (fun ls3 hl3 => ?_)
            refine lv_goto B.exec B.bytes dX12_is_79 (tgt := 39) rfl ?_
            refine ih (k + 1) 1 ls3 H2 locs2 (by omega) (by omega) (fun _ => hXY) ?_ hl3 hP2 hS2
            have hM : isM i k Y f ↔ isM i (k + 1) Y f := ⟨fun h j h1 h2 => h j (by omega) h2, fun h j h1 h2 => by
              by_cases hj : j = k
              · rw [hj]; exact heq
              · exact h j (by omega) h2⟩
            rcases hx with ⟨-, h2, h3⟩ | ⟨-, h2, h3⟩ | ⟨h1, -⟩
            · exact Or.inl ⟨rfl, hM.mp h2, h3⟩
            · exact Or.inr (Or.inl ⟨rfl, fun h => h2 (hM.mpr h), h3⟩)
            · rw [hx1] at h1; exact absurd h1 (by decide)
  -- from the flag on
  have hflag : ∀ (x : Int32) (H : Heap) (locs : List Loc), (x = 1 → X - Y = Int32.ofNat (lnK.getD i 0)) → ((x = 1 ∧ isM i 0 Y f ∧ b = 1) ∨ (x = 1 ∧ ¬ isM i 0 Y f ∧ b = 0) ∨ (x = 0 ∧ b = 0)) → va_P D vwCl (zw [r, t] [.inr (12, fs), .inl (cA 0, 700, .inl f)]) H → va_S (va_A (zw [] []) s.heap.size) s.heap H locs → W p l e (headSpec (.code yX12_is cX12_is 4 (some .boolean) :: gTbl) (rmT 8 200)).room s m [Value.ref r, .ref (E.1 i)].toArray below meth c H locs 0 0 (MQ below Qc [Value.ref r, .ref (E.1 i)].toArray s 0 0 free) (F0 m 36 ls [.int x]) := by
    intro x H locs h1 h2 hP hS
    refine lv_istore_n B.exec B.bytes dX12_is_36 rfl hl (by decide) rfl (fun ls2 hl2 => ?_)
    refine lv_iconst B.exec B.bytes dX12_is_37 (v := 0) rfl ?_
    refine lv_istore_n B.exec B.bytes dX12_is_38 rfl hl2 (by decide) rfl (fun ls3 hl3 => ?_)
    exact hloop _ 0 x ls3 H locs (Nat.zero_le _) (Nat.lt_succ_self _) h1 h2 hl3 hP hS
  have hno : ∀ (H : Heap) (locs : List Loc), ¬ isQ i Z T X Y f → va_P D vwCl (zw [r, t] [.inr (12, fs), .inl (cA 0, 700, .inl f)]) H → va_S (va_A (zw [] []) s.heap.size) s.heap H locs → W p l e (headSpec (.code yX12_is cX12_is 4 (some .boolean) :: gTbl) (rmT 8 200)).room s m [Value.ref r, .ref (E.1 i)].toArray below meth c H locs 0 0 (MQ below Qc [Value.ref r, .ref (E.1 i)].toArray s 0 0 free) (F0 m 35 ls []) := by
    intro H locs hq hP hS
    refine lv_iconst B.exec B.bytes dX12_is_35 (v := 0) rfl ?_
    refine hflag 0 H locs (fun h => absurd h (by decide)) (Or.inr (Or.inr ⟨rfl, ?_⟩)) hP hS
    rcases hb with h | h
    · exact absurd h.1 hq
    · exact h.2
  refine lv_aload_n B.exec B.bytes dX12_is_0 rfl (lv_at hl 0 rfl) ?_
  have hPg : va_P D vwCl (zw [r] [.inr (12, fs)]) s.heap := hP0.sub [0] rfl
  have hrun := va_runV (l := l) (e := e) (R := (headSpec (.code yX12_is cX12_is 4 (some .boolean) :: gTbl) (rmT 8 200)).room) (C := RX12) (below := below) (meth := meth) (H := s.heap) (locs := []) (cells := 0) (slots := 0) (b := r) (As := []) (rest := []) (g := F0 m 1 ls (.ref r :: [])) ⟨B.exec, B.bytes, hml, hown, hts⟩ (mt_good (l := l) (E := E) (D := D) (cA := cA) (r := r) (sz := s.heap.size) hZ) ⟨callB_of 0 hts (gT_all _ wd_1582) rfl rfl rfl (hts _ wd_137) (hts _ wd_1579) ⟨by decide, by decide, by decide +kernel⟩ ⟨by show (0 + 1 ≤ 8); decide, by show (8 + (1 + 11) + 0 ≤ 200); decide⟩, hts _ wd_1581, hts _ wd_53⟩ ⟨fun a' U g' mk q => by
      obtain ⟨q0, q1, qP, qK, qD, qN, qE, qA⟩ := q
      exact ⟨q0, q1, qP, va_K.moved (u := U) (U := U.calling g' mk a') (Vm.Alike.refl U.vm) qK, qD, NOK_same rfl qN, EOK_same rfl qE, qA⟩, va_recv hK hP0 (q0 := 0) (ci := 12) rfl rfl, fun U hU hW => ⟨rfl, by rw [hU], by rw [hU]; exact hPg, va_K.moved hW.alike hK, (hD.sub [0] (by decide) rfl), NOK_warm hW hN, by rw [hU]; exact EOK_warm hW hA0 va_S.rf hE, fun q hq => hA0' q (by
        rcases hq with ⟨k, e, h⟩ | h
        · match k, h with
          | 0, h => exact Or.inl ⟨0, e, h⟩
          | k + 1, h => exact absurd h (by show ¬ (([] : List (Nat × va_E))[k]? = _); simp)
        · exact Or.inr h)⟩⟩ rfl rfl hl.1 rfl (lv_room (st := []) (by decide)) dX12_is_1 ⟨Nat.le_refl _, Nat.le_refl _⟩
  refine my_call (P := fun oc _ => oc = .returned (some (.int (if Z = 0 then 1 else 0)))) (A0 := va_A (zw [] []) s.heap.size) (H0 := s.heap) hrun va_S.rf (fun _ _ h => h) (fun _ h => h) (fun v t' H1 locs1 ht' hO _ hk hS1 => ?_)
  cases hO
  have hP1 := is_keep hP0 hk
  refine lv_if_eq B.exec B.bytes dX12_is_4 (tgt := 35) rfl (fun h0 => hno H1 locs1 (fun hq => by rw [if_pos hq.1] at h0; exact absurd h0 (by decide)) hP1 hS1) (fun h0 => ?_)
  have hZ0 : Z = 0 := by
    by_cases h : Z = 0
    · exact h
    · rw [if_neg h] at h0; exact absurd rfl h0
  refine lv_aload_n B.exec B.bytes dX12_is_7 rfl (lv_at hl 0 rfl) ?_
  refine va_get (D := D) B.exec B.bytes hts c3 hown hK hP1 0 rfl c1 10 c2 (hts _ c4) (fun _ h9 => h9) hT dX12_is_8 ?_
  refine lv_iconst B.exec B.bytes dX12_is_11 (v := 1) rfl ?_
  refine lv_icmp_ne B.exec B.bytes dX12_is_12 (tgt := 35) rfl (fun hne => hno H1 locs1 (fun hq => hne hq.2.1) hP1 hS1) (fun hT1 => ?_)
  refine lv_aload_n B.exec B.bytes dX12_is_15 rfl (lv_at hl 0 rfl) ?_
  refine va_get (D := D) B.exec B.bytes hts a3 hown hK hP1 0 rfl a1 8 a2 (hts _ a4) (fun _ h9 => h9) hX dX12_is_16 ?_
  refine lv_aload_n B.exec B.bytes dX12_is_19 rfl (lv_at hl 0 rfl) ?_
  refine va_get (D := D) B.exec B.bytes hts b3 hown hK hP1 0 rfl b1 9 b2 (hts _ b4) (fun _ h9 => h9) hY dX12_is_20 ?_
  refine lv_isub B.exec B.bytes dX12_is_23 ?_
  refine lv_aload_n B.exec B.bytes dX12_is_24 rfl (lv_at hl 1 rfl) ?_
  refine hlen hl.1 (by show (1 + 0 ≤ 8); decide) dX12_is_25 hP1 hS1 (fun H2 locs2 hP2 hS2 => ?_)
  refine lv_icmp_ne B.exec B.bytes dX12_is_28 (tgt := 35) rfl (fun hne => hno H2 locs2 (fun hq => hne hq.2.2.1) hP2 hS2) (fun hXY => ?_)
  refine lv_iconst B.exec B.bytes dX12_is_31 (v := 1) rfl ?_
  refine lv_goto B.exec B.bytes dX12_is_32 (tgt := 36) rfl ?_
  refine hflag 1 H2 locs2 (fun _ => hXY) ?_ hP2 hS2
  rcases hb with ⟨h1, h2⟩ | ⟨h1, h2⟩
  · exact Or.inl ⟨rfl, h1.2.2.2, h2⟩
  · exact Or.inr (Or.inl ⟨rfl, fun h => h1 ⟨hZ0, hT1, hXY, h⟩, h2⟩)
/-- the cells' own answer -/
def isE (i : Nat) (es : List va_E) : Prop := ∃ (kA : ClassId) (n : Nat) (f : Nat → Int32) (fs : List Value) (Z T X Y : Int32), es = [.inr (12, fs), .inl (kA, n, .inl f)] ∧ fs[12]? = some (.int Z) ∧ fs[10]? = some (.int T) ∧ fs[8]? = some (.int X) ∧ fs[9]? = some (.int Y) ∧ isQ i Z T X Y f
theorem is_vld {i : Nat} (hi : i < 13) {v : Int} {G : GI} {fsA : List AV} {sg : List (Nat × AV)} (hsg : tot sg = 700) {a12 a10 a8 a9 : AV} (h12 : fsA[12]? = some a12) (h10 : fsA[10]? = some a10) (h8 : fsA[8]? = some a8) (h9 : fsA[9]? = some a9) (h4 : fsA[4]? = some (6, 1, 0)) {q12 q10 q8 q9 : Int × Int} (e12 : ivI G a12 = some q12) (e10 : ivI G a10 = some q10) (e8 : ivI G a8 = some q8) (e9 : ivI G a9 = some q9) (w8 : 0 ≤ q8.1 ∧ q8.2 ≤ 700) (w9 : 0 ≤ q9.1 ∧ q9.2 ≤ 700) {es : List va_E} (hv : (isE i es ∧ v = 1) ∨ (¬ isE i es ∧ v = 0)) :
    VldE l vwCl gTbl ((yX12_is, cX12_is, 4, some .boolean), (8, 200), ([(6, 0, 0), (13, (i : Int), 0)], G, [.inl (12, fsA), .inr (0, sg)], []), [((0, v, 0), G ++ [(0, 0)], [(false, .inl (12, fsA)), (false, .inr (0, sg))], [], [1])]) es := by
  intro E D cA g gv ad vs sz hG hRL hvs hes hlen
  match es, hes with
  | [x, y], hes =>
    obtain ⟨fs, rfl, hf⟩ := relC_obj hes.1
    obtain ⟨f, rfl, -, -⟩ := relC_arI hes.2.1 (Or.inl rfl)
    rw [hsg] at *
    match ad, hlen with
    | [r, t], _ =>
      match vs, hvs with
      | [v0, v1], hvs =>
        obtain ⟨r', p1, rfl⟩ := hvs.1
        have p1 : [r, t][0]? = some r' := p1
        cases p1
        have p2 := gam_tx (V := (gv ++ KRof E, [r, t])) (E := E) (va0 := gv) rfl hvs.2.1 rfl (by show ((i : Int)).toNat < 13; rw [Int.toNat_natCast]; exact hi)
        have p2 : v1 = .ref (E.1 i) := by rw [p2]; show Value.ref (E.1 ((i : Int)).toNat) = _; rw [Int.toNat_natCast]
        subst p2
        obtain ⟨u12, k12, g12⟩ := zf2_get hf h12
        obtain ⟨u10, k10, g10⟩ := zf2_get hf h10
        obtain ⟨u8, k8, g8⟩ := zf2_get hf h8
        obtain ⟨u9, k9, g9⟩ := zf2_get hf h9
        obtain ⟨u4, k4, g4⟩ := zf2_get hf h4
        obtain ⟨Z, rfl, -⟩ := ivI_ok hG g12 e12
        obtain ⟨T, rfl, -⟩ := ivI_ok hG g10 e10
        obtain ⟨X, rfl, x8⟩ := ivI_ok hG g8 e8
        obtain ⟨Y, rfl, x9⟩ := ivI_ok hG g9 e9
        obtain ⟨t', p4, rfl⟩ := g4
        have p4 : [r, t][1]? = some t' := p4
        cases p4
        unfold inI at x8 x9
        have hiff : isE i [.inr (12, fs), .inl (cA 0, 700, .inl f)] ↔ isQ i Z T X Y f := ⟨fun h => by
          obtain ⟨kA, n, f', fs', Z', T', X', Y', z1, z2, z3, z4, z5, z6⟩ := h
          cases z1
          rw [k12] at z2; cases z2
          rw [k10] at z3; cases z3
          rw [k8] at z4; cases z4
          rw [k9] at z5; cases z5
          exact z6, fun h => ⟨_, _, _, _, Z, T, X, Y, rfl, k12, k10, k8, k9, h⟩⟩
        have hb : ∃ b : Int32, ((isQ i Z T X Y f ∧ b = 1) ∨ (¬ isQ i Z T X Y f ∧ b = 0)) ∧ b.toInt = v := by
          rcases hv with ⟨h1, h2⟩ | ⟨h1, h2⟩
          · exact ⟨1, Or.inl ⟨hiff.mp h1, rfl⟩, by rw [h2]; decide⟩
          · exact ⟨0, Or.inr ⟨fun h => h1 (hiff.mpr h), rfl⟩, by rw [h2]; decide⟩
        obtain ⟨b, hb1, hb2⟩ := hb
        refine mt_is (l := l) (E := E) (D := D) (cA := cA) (sz := sz) k12 k10 k8 k9 k4 ⟨by omega, by omega⟩ ⟨by omega, by omega⟩ hi hb1 (fun s u hs hP hF => ⟨?_, ?_⟩) (fun q hq => ?_)
        · refine ⟨_, List.mem_singleton.mpr rfl, [.int 0], [.inr (12, fs), .inl (cA 0, 700, .inl f)], ⟨Or.inl ⟨rfl, 0, rfl⟩, trivial⟩, Or.inr ⟨by show (0 : Nat) ≠ 9; decide, _, rfl, b, rfl, hb2⟩, ?_, fun w hw => absurd hw List.not_mem_nil, ⟨fun h => absurd (show false = true from h) (by decide), fun h => absurd (show false = true from h) (by decide), trivial⟩, fun j q hq _ => rfl, hP, rfl⟩
          exact zf2_apps hG ⟨⟨Int.le_refl _, Int.le_refl _⟩, trivial⟩
        · refine ⟨hF.1, fun q hq hn => hF.2 q hq (fun h => hn ?_)⟩
          rcases h with ⟨k, e, h⟩ | h
          · exact absurd h (by show ¬ (([] : List (Nat × va_E))[k]? = _); simp)
          · exact Or.inr h
        · rcases hq with ⟨k, e, h⟩ | h
          · exact absurd h (by show ¬ (([] : List (Nat × va_E))[k]? = _); simp)
          · exact Or.inr h
end ISW
/-! ===== facts of is(w), of cells as they are ===== -/
def isFact (i v : Nat) (σ : List Nat) (es : List va_E) : Prop := ∀ ec, gAll es σ = some ec → ((v = 1 → isE i ec) ∧ (v ≠ 1 → ¬ isE i ec))
theorem fact_or (i : Nat) (σ : List Nat) (es : List va_E) : isFact i 0 σ es ∨ isFact i 1 σ es := by
  cases h : gAll es σ with
  | none => exact Or.inl (fun ec he => by rw [h] at he; cases he)
  | some ec0 =>
    by_cases hc : isE i ec0
    · exact Or.inr (fun ec he => by rw [h] at he; cases he; exact ⟨fun _ => hc, fun h => absurd rfl h⟩)
    · exact Or.inl (fun ec he => by rw [h] at he; cases he; exact ⟨fun h => absurd h (by decide), fun _ => hc⟩)
theorem gAll_at {α : Type} {m : List α} {σ : List Nat} {r : List α} (h : gAll m σ = some r) : ∀ {τ : List Nat} {x : List α}, gAll r τ = some x → (∀ j ∈ τ, j < σ.length) → gAll m (τ.map (fun j => σ.getD j 0)) = some x
  | [], x, hx, _ => by cases hx; rfl
  | j :: τ, x, hx, hj => by
    have hjl := hj j List.mem_cons_self
    obtain ⟨k1, k2⟩ := (gAll_ok h).2 j (σ.getD j 0) (by rw [List.getD_eq_getElem?_getD, List.getElem?_eq_getElem hjl]; rfl)
    unfold gAll at hx
    split at hx
    · rename_i a s h1 h2
      cases hx
      have ih := gAll_at h h2 (fun q hq => hj q (List.mem_cons_of_mem _ hq))
      rw [List.map_cons]
      unfold gAll
      rw [← k1, h1, ih]
    · cases hx
theorem fact_at {i v : Nat} {σ τ ρ : List Nat} {es ec : List va_E} (h : isFact i v ρ es) (he : gAll es σ = some ec) (hρ : τ.map (fun j => σ.getD j 0) = ρ) (hτ : τ.all (fun j => decide (j < σ.length)) = true) : isFact i v τ ec := fun x hx => h x (by
  rw [← hρ]
  exact gAll_at he hx (fun j hj => of_decide_eq_true (List.all_eq_true.mp hτ j hj)))
theorem ft2_nil {l : Launch} {own : String} {cl : List vw_C} {Ts : List Jvm.Cond} {es : List va_E} : FTOK2 l own cl Ts es [] := fun _ hq => absurd hq List.not_mem_nil
theorem ft2_cons {l : Launch} {own : String} {cl : List vw_C} {Ts : List Jvm.Cond} {es : List va_E} {q : Nat × Nat × Nat × Con2 × List Nat} {FT : CTB2} (h1 : ∀ ec, gAll es q.2.2.2.2 = some ec → VldE l cl Ts q.2.2.2.1 ec) (h2 : COK2 own cl Ts q.2.1 q.2.2.1 q.2.2.2.1) (h3 : FTOK2 l own cl Ts es FT) : FTOK2 l own cl Ts es (q :: FT) := fun x hx => by
  rcases List.mem_cons.mp hx with rfl | hx
  · exact ⟨h1, h2⟩
  · exact h3 x hx
