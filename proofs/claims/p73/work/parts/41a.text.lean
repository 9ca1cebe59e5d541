/-! ===== String.length, String.charAt of the outside's texts ===== -/
noncomputable def rmT (f n : Nat) : Room := { frames := f, cells := 0, slots := 0, locals := n }
noncomputable def QcT (v : Option Value) (sz : Nat) : Array Value → State → Outcome → State → Prop := fun _ st oc t => oc = .returned v ∧ va_F (va_A (zw [] []) sz) st t
theorem tx_blind {E : EvK} {D : va_G} {cl : List vw_C} {cA : Nat → ClassId} {vs : List Value} {sz : Nat} : FrameBlind (PcE E D cl cA vs [] [] sz) := fun a' U g' mk q => by
  obtain ⟨q0, q1, qP, qK, qD, qN, qE, qA⟩ := q
  exact ⟨q0, q1, qP, va_K.moved (u := U) (U := U.calling g' mk a') (Vm.Alike.refl U.vm) qK, qD, NOK_same rfl qN, EOK_same rfl qE, qA⟩
theorem tx_P {D : va_G} {cl : List vw_C} {H : Heap} : va_P D cl (zw [] []) H := fun k q hq => by cases hq
theorem tx_D {A : Nat → Prop} : va_D A (zw [] []) := ⟨fun i j a b ha => absurd ha (by show ¬ (([] : List (Nat × va_E))[i]? = some a); simp), fun k q hq => absurd hq (by show ¬ (([] : List (Nat × va_E))[k]? = some q); simp)⟩
section TXT
variable {l : Launch} {cl : List vw_C} {Ts : List Jvm.Cond} {E : EvK} {D : va_G} {cA : Nat → ClassId} {sz : Nat}
/-- what a call of such a method finds -/
theorem tx_pre {s : State} {A : Nat → Prop} {H : Heap} {locs : List Loc} (hK : va_K D cl (tysA cA) s) (hN : NOK s) (hE : EOK E s s.heap) (hA0 : ∀ q, A q → E.2.2.2 q) (hA : ∀ q, s.heap.size ≤ q → A q) (hS : va_S A s.heap H locs) (vs : List Value) : ∀ U : State, U.heap = H → s.WarmedH U.vm → PcE E D cl cA vs [] [] H.size vs.toArray U := fun U hU hW => ⟨rfl, by rw [hU], tx_P, va_K.moved hW.alike hK, tx_D, NOK_warm hW hN, by rw [hU]; exact EOK_warm hW hA0 hS hE, fun q hq => by
  rcases hq with ⟨k, e, h⟩ | h
  · cases h
  · exact hA0 q (hA q (Nat.le_trans hS.1 h))⟩
theorem tx_free {s : State} {A : Nat → Prop} {H : Heap} {locs : List Loc} (hA : ∀ q, s.heap.size ≤ q → A q) (hS : va_S A s.heap H locs) : ∀ q, va_A (zw [] []) H.size q → A q := fun q hq => by
  rcases hq with ⟨k, e, h⟩ | h
  · cases h
  · exact hA q (Nat.le_trans hS.1 h)
theorem mt_coder (hJ : JOK Ts) {i : Nat} (hi : i < 13) : Met l yJ0_coder_7d493 (.code yJ0_coder_7d493 cJ0_coder_7d493 1 (some .byte) :: Ts) (rmT 0 0) (PcE E D cl cA [.ref (E.1 i)] [] [] sz) (QcT (some (.int 0)) sz) 0 0 (va_A (zw [] []) sz) := by
  refine Met.ofW (cc := cJ0_coder_7d493) (maxL := 1) (ret := some .byte) (by decide +kernel) rfl ?_
  intro p e s m args below meth c s₁ B hml hv
  obtain ⟨rfl, hsz, hP, hK, hD, hN, hE, hA0⟩ := hv
  subst hsz
  have hts0 := atoms_spec (ws := .code yJ0_coder_7d493 cJ0_coder_7d493 1 (some .byte) :: Ts) B.pre
  have hown : s.vm.findClass RJ0 = some m.cls := findClass_of_methodNamed B.named
  have hl := lv_entry [.ref (E.1 i)] (n := 1) (Nat.le_refl 1)
  rw [lg_entry_eq]
  generalize (lg_sl [Value.ref (E.1 i)] ++ List.replicate (1 - (lg_sl [Value.ref (E.1 i)]).length) Slot.unset).toArray = ls at hl ⊢
  obtain ⟨-, -, h2, -, -, h5, -⟩ := hE
  refine va_gets B.exec B.bytes (h5.narrow hA0) va_S.rf hown (hts0 _ (List.mem_cons_of_mem _ (JOK_at hJ 9 rfl))) (fun _ h => h) dJ0_coder_7d493_0 ?_
  refine lv_if_eq B.exec B.bytes dJ0_coder_7d493_3 (tgt := 13) rfl (fun h => absurd h (by decide)) (fun _ => ?_)
  refine lv_aload_n B.exec B.bytes dJ0_coder_7d493_6 rfl (lv_at hl 0 rfl) ?_
  refine vk_getf B.exec B.bytes ((h2 i hi).2.1.narrow hA0) va_S.rf hown (hts0 _ (List.mem_cons_of_mem _ (JOK_at hJ 8 rfl))) (fun _ h => h) dJ0_coder_7d493_7 ?_
  refine lv_goto B.exec B.bytes dJ0_coder_7d493_10 (tgt := 14) rfl ?_
  exact W.zret B.exec B.bytes B.returns rfl (fun t ht _ => ⟨rfl, va_S.rf.F ht⟩) (fun _ h => by cases h) dJ0_coder_7d493_14
theorem mt_isLatin1 (hJ : JOK Ts) {i : Nat} (hi : i < 13) : Met l yJ0_isLatin1_aae02 (.code yJ0_isLatin1_aae02 cJ0_isLatin1_aae02 1 (some .boolean) :: Ts) (rmT 0 0) (PcE E D cl cA [.ref (E.1 i)] [] [] sz) (QcT (some (.int 1)) sz) 0 0 (va_A (zw [] []) sz) := by
  refine Met.ofW (cc := cJ0_isLatin1_aae02) (maxL := 1) (ret := some .boolean) (by decide +kernel) rfl ?_
  intro p e s m args below meth c s₁ B hml hv
  obtain ⟨rfl, hsz, hP, hK, hD, hN, hE, hA0⟩ := hv
  subst hsz
  have hts0 := atoms_spec (ws := .code yJ0_isLatin1_aae02 cJ0_isLatin1_aae02 1 (some .boolean) :: Ts) B.pre
  have hown : s.vm.findClass RJ0 = some m.cls := findClass_of_methodNamed B.named
  have hl := lv_entry [.ref (E.1 i)] (n := 1) (Nat.le_refl 1)
  rw [lg_entry_eq]
  generalize (lg_sl [Value.ref (E.1 i)] ++ List.replicate (1 - (lg_sl [Value.ref (E.1 i)]).length) Slot.unset).toArray = ls at hl ⊢
  obtain ⟨-, -, h2, -, -, h5, -⟩ := hE
  refine va_gets B.exec B.bytes (h5.narrow hA0) va_S.rf hown (hts0 _ (List.mem_cons_of_mem _ (JOK_at hJ 9 rfl))) (fun _ h => h) dJ0_isLatin1_aae02_0 ?_
  refine lv_if_eq B.exec B.bytes dJ0_isLatin1_aae02_3 (tgt := 17) rfl (fun h => absurd h (by decide)) (fun _ => ?_)
  refine lv_aload_n B.exec B.bytes dJ0_isLatin1_aae02_6 rfl (lv_at hl 0 rfl) ?_
  refine vk_getf B.exec B.bytes ((h2 i hi).2.1.narrow hA0) va_S.rf hown (hts0 _ (List.mem_cons_of_mem _ (JOK_at hJ 8 rfl))) (fun _ h => h) dJ0_isLatin1_aae02_7 ?_
  refine lv_if_ne B.exec B.bytes dJ0_isLatin1_aae02_10 (tgt := 17) rfl (fun h => absurd rfl h) (fun _ => ?_)
  refine lv_iconst B.exec B.bytes dJ0_isLatin1_aae02_13 (v := 1) rfl ?_
  refine lv_goto B.exec B.bytes dJ0_isLatin1_aae02_14 (tgt := 18) rfl ?_
  exact W.zret B.exec B.bytes B.returns rfl (fun t ht _ => ⟨rfl, va_S.rf.F ht⟩) (fun _ h => by cases h) dJ0_isLatin1_aae02_18
theorem mt_chk3 {k n : Int32} {r : Value} (hr : r.category = 1) (h0 : ¬ k < 0) (h1 : k < n) : Met l yJ3_checkIndex_8e157 (.code yJ3_checkIndex_8e157 cJ3_checkIndex_8e157 3 (some .int) :: Ts) (rmT 0 0) (PcE E D cl cA [.int k, .int n, r] [] [] sz) (QcT (some (.int k)) sz) 0 0 (va_A (zw [] []) sz) := by
  refine Met.ofW (cc := cJ3_checkIndex_8e157) (maxL := 3) (ret := some .int) (by decide +kernel) rfl ?_
  intro p e s m args below meth c s₁ B hml hv
  obtain ⟨rfl, hsz, hP, hK, hD, hN, hE, hA0⟩ := hv
  subst hsz
  have hl := lv_entry [.int k, .int n, r] (n := 3) (by
    have e1 : (Value.int k).category = 1 := rfl
    have e2 : (Value.int n).category = 1 := rfl
    simp [lg_sl, hr, e1, e2])
  rw [lg_entry_eq]
  generalize (lg_sl [Value.int k, Value.int n, r] ++ List.replicate (3 - (lg_sl [Value.int k, Value.int n, r]).length) Slot.unset).toArray = ls at hl ⊢
  refine lv_iload_n B.exec B.bytes dJ3_checkIndex_8e157_0 rfl (lv_at hl 0 rfl) ?_
  refine lv_if_lt B.exec B.bytes dJ3_checkIndex_8e157_1 (tgt := 9) rfl (fun h => absurd h h0) (fun _ => ?_)
  refine lv_iload_n B.exec B.bytes dJ3_checkIndex_8e157_4 rfl (lv_at hl 0 rfl) ?_
  refine lv_iload_n B.exec B.bytes dJ3_checkIndex_8e157_5 rfl (lv_at hl 1 rfl) ?_
  refine lv_icmp_lt B.exec B.bytes dJ3_checkIndex_8e157_6 (tgt := 16) rfl (fun _ => ?_) (fun h => absurd h1 h)
  refine lv_iload_n B.exec B.bytes dJ3_checkIndex_8e157_16 rfl (lv_at hl 0 rfl) ?_
  exact W.iret B.exec B.bytes B.returns (fun t ht _ => ⟨rfl, va_S.rf.F ht⟩) (fun _ h => by cases h) dJ3_checkIndex_8e157_17
theorem mt_chk0 (hgood : ∀ w ∈ Ts, GoodIn Ts (w :: Ts)) (hJ : JOK Ts) {k n : Int32} (h0 : ¬ k < 0) (h1 : k < n) : Met l yJ0_checkIndex_df160 (.code yJ0_checkIndex_df160 cJ0_checkIndex_df160 2 none :: Ts) (rmT 1 22) (PcE E D cl cA [.int k, .int n] [] [] sz) (QcT none sz) 0 0 (va_A (zw [] []) sz) := by
  refine Met.ofW (cc := cJ0_checkIndex_df160) (maxL := 2) (ret := none) (by decide +kernel) rfl ?_
  intro p e s m args below meth c s₁ B hml hv
  obtain ⟨rfl, hsz, hP, hK, hD, hN, hE, hA0⟩ := hv
  subst hsz
  have hts0 := atoms_spec (ws := .code yJ0_checkIndex_df160 cJ0_checkIndex_df160 2 none :: Ts) B.pre
  have hts : ∀ w ∈ Ts, w.before [Value.int k, .int n].toArray s = true := fun w hw => hts0 w (List.mem_cons_of_mem _ hw)
  have hown : s.vm.findClass RJ0 = some m.cls := findClass_of_methodNamed B.named
  have hl := lv_entry [.int k, .int n] (n := 2) (Nat.le_refl 2)
  rw [lg_entry_eq]
  generalize (lg_sl [Value.int k, Value.int n] ++ List.replicate (2 - (lg_sl [Value.int k, Value.int n]).length) Slot.unset).toArray = ls at hl ⊢
  have hE' := hE
  obtain ⟨-, -, h2, -, -, h5, r, h6, h7⟩ := hE
  have hA : ∀ q, s.heap.size ≤ q → va_A (zw [] []) s.heap.size q := fun q hq => Or.inr hq
  refine lv_iload_n B.exec B.bytes dJ0_checkIndex_df160_0 rfl (lv_at hl 0 rfl) ?_
  refine lv_iload_n B.exec B.bytes dJ0_checkIndex_df160_1 rfl (lv_at hl 1 rfl) ?_
  refine va_gets B.exec B.bytes (h6.narrow hA0) va_S.rf hown (hts _ (JOK_at hJ 10 rfl)) (fun _ h => h) dJ0_checkIndex_df160_2 ?_
  have hrun := va_runS (l := l) (e := e) (R := (headSpec (.code yJ0_checkIndex_df160 cJ0_checkIndex_df160 2 none :: Ts) (rmT 1 22)).room) (below := below) (meth := meth) (H := s.heap) (locs := []) (cells := 0) (slots := 0) (As := [.int k, .int n, r]) (rest := []) (g := F0 m 5 ls (r :: .int n :: .int k :: [])) ⟨B.exec, B.bytes, hml, hown, hts⟩ (mt_chk3 (cl := cl) (Ts := Ts) (E := E) (D := D) (cA := cA) (sz := s.heap.size) h7 h0 h1) ⟨callB_of 3 hts (hgood _ (JOK_at hJ 6 rfl)) rfl rfl rfl (hts _ (JOK_at hJ 25 rfl)) (hts _ (JOK_at hJ 23 rfl)) ⟨by decide, by decide, by decide +kernel⟩ ⟨Nat.le_refl 1, Nat.le_refl 22⟩, hts _ (JOK_at hJ 24 rfl)⟩ ⟨tx_blind, tx_pre hK hN hE' hA0 hA va_S.rf _⟩ rfl rfl hl.1 rfl (lv_room (st := []) (by decide)) dJ0_checkIndex_df160_5 ⟨Nat.le_refl _, Nat.le_refl _⟩
  refine my_call (P := fun oc _ => oc = .returned (some (.int k))) (A0 := va_A (zw [] []) s.heap.size) (H0 := s.heap) hrun va_S.rf (fun _ _ h => h) (fun _ h => h) (fun v t H1 locs1 ht hO _ _ hS1 => ?_)
  cases hO
  refine lv_pop B.exec B.bytes dJ0_checkIndex_df160_8 rfl ?_
  exact W.vret B.exec B.bytes B.returns (fun t ht _ => ⟨rfl, hS1.F ht⟩) hS1.2.2 dJ0_checkIndex_df160_9
theorem mt_char1 (hgood : ∀ w ∈ Ts, GoodIn Ts (w :: Ts)) (hJ : JOK Ts) {i : Nat} (hi : i < 13) {k : Int32} (h0 : ¬ k < 0) (h1 : k < Int32.ofNat (lnK.getD i 0)) (h2 : vp_in k (lnK.getD i 0)) : Met l yJ1_charAt_3b067 (.code yJ1_charAt_3b067 cJ1_charAt_3b067 2 (some .char) :: Ts) (rmT 2 43) (PcE E D cl cA [.ref (E.2.1 i), .int k] [] [] sz) (QcT (some (.int ((byK.getD i []).getD k.toNatClampNeg 0 &&& 255))) sz) 0 0 (va_A (zw [] []) sz) := by
  refine Met.ofW (cc := cJ1_charAt_3b067) (maxL := 2) (ret := some .char) (by decide +kernel) rfl ?_
  intro p e s m args below meth c s₁ B hml hv
  obtain ⟨rfl, hsz, hP, hK, hD, hN, hE, hA0⟩ := hv
  subst hsz
  have hts0 := atoms_spec (ws := .code yJ1_charAt_3b067 cJ1_charAt_3b067 2 (some .char) :: Ts) B.pre
  have hts : ∀ w ∈ Ts, w.before [Value.ref (E.2.1 i), .int k].toArray s = true := fun w hw => hts0 w (List.mem_cons_of_mem _ hw)
  have hown : s.vm.findClass RJ1 = some m.cls := findClass_of_methodNamed B.named
  have hl := lv_entry [.ref (E.2.1 i), .int k] (n := 2) (Nat.le_refl 2)
  rw [lg_entry_eq]
  generalize (lg_sl [Value.ref (E.2.1 i), Value.int k] ++ List.replicate (2 - (lg_sl [Value.ref (E.2.1 i), Value.int k]).length) Slot.unset).toArray = ls at hl ⊢
  have hT := (hE.2.2.1 i hi).2.2.2.narrow hA0
  have hA : ∀ q, s.heap.size ≤ q → va_A (zw [] []) s.heap.size q := fun q hq => Or.inr hq
  refine lv_iload_n B.exec B.bytes dJ1_charAt_3b067_0 rfl (lv_at hl 1 rfl) ?_
  refine lv_aload_n B.exec B.bytes dJ1_charAt_3b067_1 rfl (lv_at hl 0 rfl) ?_
  refine va_tlen B.exec B.bytes hT va_S.rf rfl dJ1_charAt_3b067_2 ?_
  have hrun := va_runS (l := l) (e := e) (R := (headSpec (.code yJ1_charAt_3b067 cJ1_charAt_3b067 2 (some .char) :: Ts) (rmT 2 43)).room) (below := below) (meth := meth) (H := s.heap) (locs := []) (cells := 0) (slots := 0) (As := [.int k, .int (Int32.ofNat (lnK.getD i 0))]) (rest := []) (g := F0 m 3 ls (.int (Int32.ofNat (lnK.getD i 0)) :: .int k :: [])) ⟨B.exec, B.bytes, hml, hown, hts⟩ (mt_chk0 (cl := cl) (Ts := Ts) (E := E) (D := D) (cA := cA) (sz := s.heap.size) hgood hJ h0 h1) ⟨callB_of 2 hts (hgood _ (JOK_at hJ 4 rfl)) rfl rfl rfl (hts _ (JOK_at hJ 14 rfl)) (hts _ (JOK_at hJ 21 rfl)) ⟨by decide, by decide, by decide +kernel⟩ ⟨Nat.le_refl 2, Nat.le_refl 43⟩, hts _ (JOK_at hJ 22 rfl)⟩ ⟨tx_blind, tx_pre hK hN hE hA0 hA va_S.rf _⟩ rfl rfl hl.1 rfl (lv_room (st := []) (by decide)) dJ1_charAt_3b067_3 ⟨Nat.le_refl _, Nat.le_refl _⟩
  refine my_call (P := fun oc _ => oc = .returned none) (A0 := va_A (zw [] []) s.heap.size) (H0 := s.heap) hrun va_S.rf (fun _ _ h => h) (fun _ h => h) (fun v t H1 locs1 ht hO _ _ hS1 => ?_)
  cases hO
  refine lv_aload_n B.exec B.bytes dJ1_charAt_3b067_6 rfl (lv_at hl 0 rfl) ?_
  refine lv_iload_n B.exec B.bytes dJ1_charAt_3b067_7 rfl (lv_at hl 1 rfl) ?_
  refine va_tb B.exec B.bytes hT hS1 h2 rfl dJ1_charAt_3b067_8 ?_
  refine lv_sipush B.exec B.bytes dJ1_charAt_3b067_9 (v := 255) rfl ?_
  refine lv_iand B.exec B.bytes dJ1_charAt_3b067_12 ?_
  refine lv_i2c B.exec B.bytes dJ1_charAt_3b067_13 (sc_c2 _) ?_
  exact W.zret B.exec B.bytes B.returns (sc_nar _) (fun t ht _ => ⟨rfl, hS1.F ht⟩) hS1.2.2 dJ1_charAt_3b067_14
theorem mt_char (hgood : ∀ w ∈ Ts, GoodIn Ts (w :: Ts)) (hJ : JOK Ts) {i : Nat} (hi : i < 13) {k : Int32} (h0 : ¬ k < 0) (h1 : k < Int32.ofNat (lnK.getD i 0)) (h2 : vp_in k (lnK.getD i 0)) : Met l yJ0_charAt_5068e (.code yJ0_charAt_5068e cJ0_charAt_5068e 2 (some .char) :: Ts) (rmT 3 64) (PcE E D cl cA [.ref (E.1 i), .int k] [] [] sz) (QcT (some (.int ((byK.getD i []).getD k.toNatClampNeg 0 &&& 255))) sz) 0 0 (va_A (zw [] []) sz) := by
  refine Met.ofW (cc := cJ0_charAt_5068e) (maxL := 2) (ret := some .char) (by decide +kernel) rfl ?_
  intro p e s m args below meth c s₁ B hml hv
  obtain ⟨rfl, hsz, hP, hK, hD, hN, hE, hA0⟩ := hv
  subst hsz
  have hts0 := atoms_spec (ws := .code yJ0_charAt_5068e cJ0_charAt_5068e 2 (some .char) :: Ts) B.pre
  have hts : ∀ w ∈ Ts, w.before [Value.ref (E.1 i), .int k].toArray s = true := fun w hw => hts0 w (List.mem_cons_of_mem _ hw)
  have hown : s.vm.findClass RJ0 = some m.cls := findClass_of_methodNamed B.named
  have hl := lv_entry [.ref (E.1 i), .int k] (n := 2) (Nat.le_refl 2)
  rw [lg_entry_eq]
  generalize (lg_sl [Value.ref (E.1 i), Value.int k] ++ List.replicate (2 - (lg_sl [Value.ref (E.1 i), Value.int k]).length) Slot.unset).toArray = ls at hl ⊢
  have hO1 := (hE.2.2.1 i hi).1.narrow hA0
  have hF := (hE.2.2.1 i hi).2.2.1.narrow hA0
  have hA : ∀ q, s.heap.size ≤ q → va_A (zw [] []) s.heap.size q := fun q hq => Or.inr hq
  refine lv_aload_n B.exec B.bytes dJ0_charAt_5068e_0 rfl (lv_at hl 0 rfl) ?_
  have hrun := va_runV (l := l) (e := e) (R := (headSpec (.code yJ0_charAt_5068e cJ0_charAt_5068e 2 (some .char) :: Ts) (rmT 3 64)).room) (C := RJ0) (below := below) (meth := meth) (H := s.heap) (locs := []) (cells := 0) (slots := 0) (b := E.1 i) (As := []) (rest := []) (g := F0 m 1 ls (.ref (E.1 i) :: [])) ⟨B.exec, B.bytes, hml, hown, hts⟩ (mt_isLatin1 (cl := cl) (Ts := Ts) (E := E) (D := D) (cA := cA) (sz := s.heap.size) hJ hi) ⟨callB_of 0 hts (hgood _ (JOK_at hJ 3 rfl)) rfl rfl rfl (hts _ (JOK_at hJ 14 rfl)) (hts _ (JOK_at hJ 15 rfl)) ⟨by decide, by decide, by decide +kernel⟩ ⟨by show (0 + 1 ≤ 3); decide, by show (8 + (1 + 11) + 0 ≤ 64); decide⟩, hts _ (JOK_at hJ 16 rfl), hts _ (JOK_at hJ 17 rfl)⟩ ⟨tx_blind, va_Orecv hO1 va_S.rf, tx_pre hK hN hE hA0 hA va_S.rf _⟩ rfl rfl hl.1 rfl (lv_room (st := []) (by decide)) dJ0_charAt_5068e_1 ⟨Nat.le_refl _, Nat.le_refl _⟩
  refine my_call (P := fun oc _ => oc = .returned (some (.int 1))) (A0 := va_A (zw [] []) s.heap.size) (H0 := s.heap) hrun va_S.rf (fun _ _ h => h) (fun _ h => h) (fun v t H1 locs1 ht hO _ _ hS1 => ?_)
  cases hO
  refine lv_if_eq B.exec B.bytes dJ0_charAt_5068e_4 (tgt := 16) rfl (fun h => absurd h (by decide)) (fun _ => ?_)
  refine lv_aload_n B.exec B.bytes dJ0_charAt_5068e_7 rfl (lv_at hl 0 rfl) ?_
  refine vk_getf B.exec B.bytes hF hS1 hown (hts _ (JOK_at hJ 7 rfl)) (fun _ h => h) dJ0_charAt_5068e_8 ?_
  refine lv_iload_n B.exec B.bytes dJ0_charAt_5068e_11 rfl (lv_at hl 1 rfl) ?_
  have hrun2 := va_runS (l := l) (e := e) (R := (headSpec (.code yJ0_charAt_5068e cJ0_charAt_5068e 2 (some .char) :: Ts) (rmT 3 64)).room) (below := below) (meth := meth) (H := H1) (locs := locs1) (cells := 0) (slots := 0) (As := [.ref (E.2.1 i), .int k]) (rest := []) (g := F0 m 12 ls (.int k :: .ref (E.2.1 i) :: [])) ⟨B.exec, B.bytes, hml, hown, hts⟩ (mt_char1 (cl := cl) (Ts := Ts) (E := E) (D := D) (cA := cA) (sz := H1.size) hgood hJ hi h0 h1 h2) ⟨callB_of 2 hts (hgood _ (JOK_at hJ 5 rfl)) rfl rfl rfl (hts _ (JOK_at hJ 20 rfl)) (hts _ (JOK_at hJ 18 rfl)) ⟨by decide, by decide, by decide +kernel⟩ ⟨Nat.le_refl 3, Nat.le_refl 64⟩, hts _ (JOK_at hJ 19 rfl)⟩ ⟨tx_blind, tx_pre hK hN hE hA0 hA hS1 _⟩ rfl rfl hl.1 rfl (lv_room (st := []) (by decide)) dJ0_charAt_5068e_12 ⟨Nat.le_refl _, Nat.le_refl _⟩
  refine my_call (P := fun oc _ => oc = .returned (some (.int ((byK.getD i []).getD k.toNatClampNeg 0 &&& 255)))) (A0 := va_A (zw [] []) s.heap.size) (H0 := s.heap) hrun2 hS1 (fun q _ h => tx_free hA hS1 q h) (tx_free hA hS1) (fun v t H2 locs2 ht hO _ _ hS2 => ?_)
  cases hO
  exact W.zret B.exec B.bytes B.returns (sc_nar _) (fun t ht _ => ⟨rfl, hS2.F ht⟩) hS2.2.2 dJ0_charAt_5068e_15
theorem tx_len0 : ∀ i : Nat, i < 13 → Int32.ofNat (lnK.getD i 0) >>> ((0 : Int32) &&& 31) = Int32.ofNat (lnK.getD i 0) := by decide
theorem mt_len (hgood : ∀ w ∈ Ts, GoodIn Ts (w :: Ts)) (hJ : JOK Ts) {i : Nat} (hi : i < 13) : Met l yJ0_length_8abf5 (.code yJ0_length_8abf5 cJ0_length_8abf5 1 (some .int) :: Ts) (rmT 1 20) (PcE E D cl cA [.ref (E.1 i)] [] [] sz) (QcT (some (.int (Int32.ofNat (lnK.getD i 0)))) sz) 0 0 (va_A (zw [] []) sz) := by
  refine Met.ofW (cc := cJ0_length_8abf5) (maxL := 1) (ret := some .int) (by decide +kernel) rfl ?_
  intro p e s m args below meth c s₁ B hml hv
  obtain ⟨rfl, hsz, hP, hK, hD, hN, hE, hA0⟩ := hv
  subst hsz
  have hts0 := atoms_spec (ws := .code yJ0_length_8abf5 cJ0_length_8abf5 1 (some .int) :: Ts) B.pre
  have hts : ∀ w ∈ Ts, w.before [Value.ref (E.1 i)].toArray s = true := fun w hw => hts0 w (List.mem_cons_of_mem _ hw)
  have hown : s.vm.findClass RJ0 = some m.cls := findClass_of_methodNamed B.named
  have hl := lv_entry [.ref (E.1 i)] (n := 1) (Nat.le_refl 1)
  rw [lg_entry_eq]
  generalize (lg_sl [Value.ref (E.1 i)] ++ List.replicate (1 - (lg_sl [Value.ref (E.1 i)]).length) Slot.unset).toArray = ls at hl ⊢
  have hO1 := (hE.2.2.1 i hi).1.narrow hA0
  have hF := (hE.2.2.1 i hi).2.2.1.narrow hA0
  have hT := (hE.2.2.1 i hi).2.2.2.narrow hA0
  have hA : ∀ q, s.heap.size ≤ q → va_A (zw [] []) s.heap.size q := fun q hq => Or.inr hq
  refine lv_aload_n B.exec B.bytes dJ0_length_8abf5_0 rfl (lv_at hl 0 rfl) ?_
  refine vk_getf B.exec B.bytes hF va_S.rf hown (hts _ (JOK_at hJ 7 rfl)) (fun _ h => h) dJ0_length_8abf5_1 ?_
  refine va_tlen B.exec B.bytes hT va_S.rf rfl dJ0_length_8abf5_4 ?_
  refine lv_aload_n B.exec B.bytes dJ0_length_8abf5_5 rfl (lv_at hl 0 rfl) ?_
  have hrun := va_runV (l := l) (e := e) (R := (headSpec (.code yJ0_length_8abf5 cJ0_length_8abf5 1 (some .int) :: Ts) (rmT 1 20)).room) (C := RJ0) (below := below) (meth := meth) (H := s.heap) (locs := []) (cells := 0) (slots := 0) (b := E.1 i) (As := []) (rest := [.int (Int32.ofNat (lnK.getD i 0))]) (g := F0 m 6 ls (.ref (E.1 i) :: [.int (Int32.ofNat (lnK.getD i 0))])) ⟨B.exec, B.bytes, hml, hown, hts⟩ (mt_coder (cl := cl) (Ts := Ts) (E := E) (D := D) (cA := cA) (sz := s.heap.size) hJ hi) ⟨callB_of 0 hts (hgood _ (JOK_at hJ 2 rfl)) rfl rfl rfl (hts _ (JOK_at hJ 14 rfl)) (hts _ (JOK_at hJ 11 rfl)) ⟨by decide, by decide, by decide +kernel⟩ ⟨Nat.le_refl 1, Nat.le_refl 20⟩, hts _ (JOK_at hJ 12 rfl), hts _ (JOK_at hJ 13 rfl)⟩ ⟨tx_blind, va_Orecv hO1 va_S.rf, tx_pre hK hN hE hA0 hA va_S.rf _⟩ rfl rfl hl.1 rfl (lv_room (st := [.int (Int32.ofNat (lnK.getD i 0))]) (by show (1 + 0 ≤ 8); decide)) dJ0_length_8abf5_6 ⟨Nat.le_refl _, Nat.le_refl _⟩
  refine my_call (P := fun oc _ => oc = .returned (some (.int 0))) (A0 := va_A (zw [] []) s.heap.size) (H0 := s.heap) hrun va_S.rf (fun _ _ h => h) (fun _ h => h) (fun v t H1 locs1 ht hO _ _ hS1 => ?_)
  cases hO
  refine lv_ishr B.exec B.bytes dJ0_length_8abf5_9 ?_
  rw [tx_len0 i hi]
  exact W.iret B.exec B.bytes B.returns (fun t ht _ => ⟨rfl, hS1.F ht⟩) hS1.2.2 dJ0_length_8abf5_10
end TXT
