/-! ===== the law from its entry ===== -/
theorem ex_D {s : State} (h : ∀ (c : Nat) (q : vw_C), vwCl[c]? = some q → ∃ (cC : ClassId) (iS : Nat → Nat), u_Kn s q.1 q.2.1 q.2.2 cC iS) : ∃ D : va_G, ∀ (c : Nat) (q : vw_C), vwCl[c]? = some q → u_Kn s q.1 q.2.1 q.2.2 (D.1 c) (D.2 c) := by
  have h2 : ∀ c : Nat, ∃ x : ClassId × (Nat → Nat), ∀ q : vw_C, vwCl[c]? = some q → u_Kn s q.1 q.2.1 q.2.2 x.1 x.2 := by
    intro c
    cases hc : vwCl[c]? with
    | none => exact ⟨((0 : Nat), fun _ => 0), fun q hq => by cases hq⟩
    | some q =>
      obtain ⟨a, b, h1⟩ := h c q hc
      exact ⟨(a, b), fun q' hq => by cases hq; exact h1⟩
  exact ⟨(fun c => (Classical.choose (h2 c)).1, fun c => (Classical.choose (h2 c)).2), fun c q hq => Classical.choose_spec (h2 c) q hq⟩
theorem ac_one {s : State} {args : Array Value} {ty : FieldType} (h : (Jvm.Cond.arrayClass ty).before args s = true) : ∃ cA : ClassId, ArrOfT s cA ty ∧ s.vm.findClass ("[" ++ ty.toString) = some cA := by
  obtain ⟨cA, kA, comp, h1, h2, h3⟩ := Cond.arrayClass_spec h
  exact ⟨cA, fun n z => ⟨fun k h => (by cases h), kA, h2, comp, h3⟩, h1⟩
theorem ex_cA {s : State} {args : Array Value} (h : (Jvm.Cond.arrayClass .byte).before args s = true ∧ (Jvm.Cond.arrayClass .int).before args s = true ∧ (Jvm.Cond.arrayClass .long).before args s = true ∧ (Jvm.Cond.arrayClass .boolean).before args s = true) (ho : va_AO "RookHusting$State" s) : ∃ cA : Nat → ClassId, ∀ (k : Nat) (q : ClassId × FieldType), (tysA cA)[k]? = some q → ArrOfT s q.1 q.2 ∧ va_RA s q.1 q.2 := by
  obtain ⟨h0, h1, h2, h3⟩ := h
  obtain ⟨a0, b0, c0⟩ := ac_one h0
  obtain ⟨a1, b1, c1⟩ := ac_one h1
  obtain ⟨a2, b2, c2⟩ := ac_one h2
  obtain ⟨a3, b3, c3⟩ := ac_one h3
  obtain ⟨comp, a4, k4, d1, d2, d3, d4, d5⟩ := Cond.arrayOver_spec ho
  refine ⟨fun k => match k with | 0 => a0 | 1 => a1 | 2 => a2 | 3 => a3 | _ => a4, fun k q hq => ?_⟩
  match k, hq with
  | 0, hq => cases hq; exact ⟨b0, c0⟩
  | 1, hq => cases hq; exact ⟨b1, c1⟩
  | 2, hq => cases hq; exact ⟨b2, c2⟩
  | 3, hq => cases hq; exact ⟨b3, c3⟩
  | 4, hq => cases hq; exact ⟨fun n z => ⟨fun k h => (by cases h), k4, d3, comp, d4⟩, k4, comp, d3, d4, d1, d5⟩
  | k + 5, hq => simp [tysA] at hq
theorem eqH_ok {V : EV} {cA : Nat → ClassId} : ∀ {xs ys : HP} {es : List va_E}, eqH xs ys = true → zf2 (fun (x : Bool × AC) (y : va_E) => relC [] V cA x.2 y) xs es → zf2 (fun (x : Bool × AC) (y : va_E) => relC [] V cA x.2 y) ys es
  | [], [], [], _, _ => trivial
  | [], [], _ :: _, _, h => h.elim
  | [], _ :: _, _, h, _ => by cases h
  | _ :: _, [], _, h, _ => by cases h
  | _ :: _, _ :: _, [], _, h => h.elim
  | x :: xs, y :: ys, en :: es, h, hz => by
    simp only [eqH, Bool.and_eq_true] at h
    exact ⟨subC_ok (g := []) (g0 := []) (G := []) (show GS [] [] from trivial) gxt_rf hz.1 h.1, eqH_ok (xs := xs) (ys := ys) (es := es) h.2 hz.2⟩
theorem toI_small {L : Nat} (h : L ≤ 6) : (L.toInt32).toInt = (L : Int) := by
  rcases (show L = 0 ∨ L = 1 ∨ L = 2 ∨ L = 3 ∨ L = 4 ∨ L = 5 ∨ L = 6 by omega) with rfl | rfl | rfl | rfl | rfl | rfl | rfl <;> decide
theorem xs_one {g gx : List Int} {V : EV} {v : Value} {xs : Nat → Int32} {j : Nat} (hj : j < 6) (hg : gxt gx g) (hgx : gx[j]? = some (xs j).toInt) (hv : gam g V (0, (j : Int), 0) v) : ∃ X : Int32, v = .int X ∧ vp_in X 6 ∧ gam g V (1, (j : Int), 0) (.int (xs X.toNatClampNeg)) := by
  obtain ⟨X, rfl, hX⟩ := hv
  have hX : X.toInt = (j : Int) := hX
  have hc : X.toNatClampNeg = j := by rw [ae_cl, hX]; rfl
  refine ⟨X, rfl, vp_in_iff.mpr ⟨by omega, by omega⟩, ?_⟩
  rw [hc]
  refine ⟨xs j, rfl, (xs j).toInt, ?_, ?_⟩
  · show g[((j : Int)).toNat]? = _
    rw [Int.toNat_natCast]
    exact gxt_get hg hgx
  · show (xs j).toInt = (xs j).toInt + 0
    omega
def a16 : AS := (16, [(2, (6, 109, 0)), (1, (6, 0, 0)), (0, (11, 0, 0))], [], [((-2147483648), 2147483647), ((-2147483648), 2147483647), ((-2147483648), 2147483647), ((-2147483648), 2147483647), ((-2147483648), 2147483647), ((-2147483648), 2147483647)], hp_0)
def a15 : AS := (16, [(2, (6, 109, 0)), (1, (6, 0, 0)), (0, (11, 0, 0))], [], [(0, 5)], hp_0)
section START
variable {p : Program} {l : Launch} {e : Env} {s : State} {m : MethodId} {below : List Frame} {meth : Method} {c : Code} {cs0 ss0 : Nat} {b L : Nat} {D : va_G} {ad : List Nat} {cA : Nat → ClassId} {es0 : List va_E} {xs : Nat → Int32}
theorem law_6 (hx : p.tables.exec = Jvm.exec) (hb : c.code = code) (hr : meth.sig.returnType = ret) (hlocks : meth.locks = false) (hml : c.maxLocals = 4) (hown : s.vm.findClass R_law = some m.cls) (hts : ∀ w ∈ gTbl, w.before #[Value.ref b] s = true) (hK : va_K D vwCl (tysA cA) s) (hN : NOK s) (hcs : cs0 ≤ 600000) (hss : ss0 ≤ 7302250) (hX : va_X b 6 xs s s.heap) (hbl : b < s.heap.size) : WA (WW p l e room_1 s m #[Value.ref b] below meth c cs0 ss0 (lw_Z below #[Value.ref b] s)) m 4 D vwCl (fun q : Nat => s.heap.size ≤ q) s.heap ([Value.ref b], ad) cA es0 [(xs 0).toInt, (xs 1).toInt, (xs 2).toInt, (xs 3).toInt, (xs 4).toInt, (xs 5).toInt] a16 := by
  have hLN : ∀ g, gxt [(xs 0).toInt, (xs 1).toInt, (xs 2).toInt, (xs 3).toInt, (xs 4).toInt, (xs 5).toInt] g → gam g ([Value.ref b], ad) (0, 6, 0) (.int (Nat.toInt32 6)) := fun g _ => ⟨_, rfl, toI_small (L := 6) (Nat.le_refl 6)⟩
  have hXS : ∀ q ∈ XS_6, ∀ (g : List Int) (v : Value), gxt [(xs 0).toInt, (xs 1).toInt, (xs 2).toInt, (xs 3).toInt, (xs 4).toInt, (xs 5).toInt] g → gam g ([Value.ref b], ad) q.1 v → ∃ X : Int32, v = .int X ∧ vp_in X 6 ∧ gam g ([Value.ref b], ad) q.2 (.int (xs X.toNatClampNeg)) := by
    unfold XS_6
    refine List.forall_mem_cons.mpr ⟨fun g v hg hv => xs_one (j := 0) (by omega) hg rfl hv, ?_⟩
    refine List.forall_mem_cons.mpr ⟨fun g v hg hv => xs_one (j := 1) (by omega) hg rfl hv, ?_⟩
    refine List.forall_mem_cons.mpr ⟨fun g v hg hv => xs_one (j := 2) (by omega) hg rfl hv, ?_⟩
    refine List.forall_mem_cons.mpr ⟨fun g v hg hv => xs_one (j := 3) (by omega) hg rfl hv, ?_⟩
    refine List.forall_mem_cons.mpr ⟨fun g v hg hv => xs_one (j := 4) (by omega) hg rfl hv, ?_⟩
    refine List.forall_mem_cons.mpr ⟨fun g v hg hv => xs_one (j := 5) (by omega) hg rfl hv, ?_⟩
    exact fun _ h => absurd h List.not_mem_nil
  obtain ⟨L1, hL1, hL2⟩ := rl_sw
  refine runS_ok (T := tb_L_law) hx hb hown hts tk_L_law hX hbl rfl hLN hXS 20 a16 aSw rl_to ?_
  have hd := tk_L_law.1 (33, _) (look_mem rl_at)
  refine stpH_ok (T := tb_L_law) (nL := 4) (a := aSw) hx hb hown hts hK tk_L_law hd hL1 (fun y hy => ?_)
  exact runL_ok (T := tb_L_law) (L := 6) hx hb hr hlocks hml hown hts hK hN gT_all tk_L_law (cto_law l) hcs hss hX hbl rfl hLN hXS _ y (List.all_eq_true.mp hL2 y hy)
theorem law_5 (hx : p.tables.exec = Jvm.exec) (hb : c.code = code) (hr : meth.sig.returnType = ret) (hlocks : meth.locks = false) (hml : c.maxLocals = 4) (hown : s.vm.findClass R_law = some m.cls) (hts : ∀ w ∈ gTbl, w.before #[Value.ref b] s = true) (hK : va_K D vwCl (tysA cA) s) (hN : NOK s) (hcs : cs0 ≤ 600000) (hss : ss0 ≤ 7302250) (hL : L ≤ 5) (hX : va_X b L xs s s.heap) (hbl : b < s.heap.size) : WA (WW p l e room_1 s m #[Value.ref b] below meth c cs0 ss0 (lw_Z below #[Value.ref b] s)) m 4 D vwCl (fun q : Nat => s.heap.size ≤ q) s.heap ([Value.ref b], ad) cA es0 [(L : Int)] a15 := by
  refine runL_ok (T := tb_L_law) (L := L) (XS := []) (LN := (1, 0, 0)) hx hb hr hlocks hml hown hts hK hN gT_all tk_L_law (cto_law l) hcs hss hX hbl rfl (fun g hg => ?_) (fun q hq => absurd hq List.not_mem_nil) _ a15 rl_5
  refine ⟨_, rfl, (L : Int), gxt_get hg rfl, ?_⟩
  show (L.toInt32).toInt = (L : Int) + 0
  rw [toI_small (by omega)]
  omega
end START
theorem whole_start {p : Program} {e : Env} {s : State} {m : MethodId} {below : List Frame} {meth : Method} {c : Code} (l : Launch) (hflags : l.flags = flags0) {b L : Nat} {xs : Nat → Int32} (hL : L ≤ 6) (C0 : lw_At p s m meth c b L xs) : W p l e room_1 s m #[Value.ref b] below meth c s.heap [] 0 0 (lw_Z below #[Value.ref b] s) (entryFrame m ([Value.ref b] : List Value).toArray 4) := by
  obtain ⟨hx, hb, hr, hml, hown, hts0, hX, hbl, hlocks, hgv⟩ := C0
  have hts : ∀ w ∈ gTbl, w.before #[Value.ref b] s = true := fun w hw => hts0 w (List.mem_filter.mp hw).1
  have hN : NOK s := nok_s hts0
  have hO : va_AO "RookHusting$State" s := ao_s hts0
  obtain ⟨D, hD⟩ := ex_D (kn_all hts)
  obtain ⟨cA, hcA⟩ := ex_cA (ac_s hts) hO
  have hK : va_K D vwCl (tysA cA) s := ⟨hD, hcA⟩
  have hl := lv_entry ([Value.ref b]) (n := 4) (Nat.le_of_ble_eq_true rfl)
  rw [lg_entry_eq]
  generalize (lg_sl ([Value.ref b]) ++ List.replicate (4 - (lg_sl ([Value.ref b])).length) Slot.unset).toArray = ls at hl ⊢
  have hpre := rl_pre
  unfold preOK at hpre
  split at hpre
  · rename_i bK hrun
    simp only [Bool.and_eq_true, decide_eq_true_eq] at hpre
    obtain ⟨q1, q2, q3, q4, q5, q6, q7⟩ := hpre
    have hKW := runK_ok (p := p) (l := l) (e := e) (R := room_1) (s := s) (m := m) (args := #[Value.ref b]) (below := below) (meth := meth) (c := c) (Q := lw_Z below #[Value.ref b] s) (D := D) (cA := cA) (A := fun q : Nat => s.heap.size ≤ q) (H0 := s.heap) (gv := [Value.ref b]) (Pf := fun _ => True) (T := tb_L_pre) hx hb hml hown hts hK hN hO cl_9 (fun q hq => hq) gT_all (fun _ _ h => h) tk_L_pre (ko_L_pre l) (Or.inl rfl) _ _ bK hrun ?_
    · exact hKW [] [] trivial [] (lv_args 0 [Value.ref b]) [] [] ls s.heap [] gxt_nil trivial hl ⟨⟨rfl, ⟨b, rfl, rfl⟩, by decide⟩, trivial⟩ trivial ⟨trivial, fun _ _ _ _ => rfl, fun k q h => by simp [zw] at h, ⟨fun i j p q h => by simp [zw] at h, fun k q h => by simp [zw] at h⟩, va_S.rf, rfl⟩
    · intro ad es0 _ g lv sv es ls' H locs _ hG hlv hl' hs hH
      rw [q4] at hG
      cases g with
      | cons _ _ => exact hG.elim
      | nil =>
        rw [q3] at hs
        rw [q2] at hl'
        cases sv with
        | cons _ _ => exact hs.elim
        | nil =>
          rw [q1]
          have hz := eqH_ok q5 hH.1
          have hlast : ∀ gx : List Int, HS D vwCl (fun q : Nat => s.heap.size ≤ q) s.heap ([Value.ref b], ad) cA es hp_0 gx es H locs := fun gx => HS_ext gxt_nil ⟨hz, fun _ _ _ _ => rfl, hH.2.2.1, hH.2.2.2.1, hH.2.2.2.2.1, hH.2.2.2.2.2⟩
          by_cases h6 : L = 6
          · subst h6
            exact law_6 hx hb hr hlocks hml hown hts hK hN q6 q7 hX hbl _ lv [] es ls' H locs gxt_rf ⟨topI_ok _, topI_ok _, topI_ok _, topI_ok _, topI_ok _, topI_ok _, trivial⟩ hlv (loc_ext gxt_nil hl') trivial (hlast _)
          · have h5 : L ≤ 5 := by omega
            exact law_5 hx hb hr hlocks hml hown hts hK hN q6 q7 h5 hX hbl _ lv [] es ls' H locs gxt_rf ⟨⟨by show (0 : Int) ≤ (L : Int); omega, by show (L : Int) ≤ 5; omega⟩, trivial⟩ hlv (loc_ext gxt_nil hl') trivial (hlast _)
  · cases hpre
