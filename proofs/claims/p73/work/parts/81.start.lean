/-! ===== the law from its entry ===== -/
theorem ex_D {s : State} (h : ∀ (c : Nat) (q : vw_C), vwCl[c]? = some q → ∃ (cC : ClassId) (iS : Nat → Nat), u_Kn s q.1 q.2.1 q.2.2 cC iS) : ∃ D : va_G, ∀ (c : Nat) (q : vw_C), vwCl[c]? = some q → u_Kn s q.1 q.2.1 q.2.2 (D.1 c) (D.2 c) := by
  have h2 : ∀ c : Nat, ∃ x : ClassId × (Nat → Nat), ∀ q : vw_C, vwCl[c]? = some q → u_Kn s q.1 q.2.1 q.2.2 x.1 x.2 := by
    intro c
    cases hc : vwCl[c]? with
    | none => exact ⟨((0 : Nat), fun _ => 0), fun q hq => by cases hq⟩
    | some q =>
      obtain ⟨a, b, h1⟩ := h c q hc
      exact ⟨(a, b), fun q' hq => by cases hq; exact h1⟩
  exact ⟨(fun c => (Classical.choose (h2 c)).1, fun c => (Classical.choose (h2 c)).2), fun c q hq => Classical.choose_spec (h2 c) q hq⟩
theorem ac_one {s : State} {args : Array Value} {ty : FieldType} (h : (Jvm.Cond.arrayClass ty).before args s = true) : ∃ cA : ClassId, ArrOfT s cA ty ∧ s.vm.findClass ("[" ++ ty.toString) = some cA := by
  obtain ⟨cA, kA, comp, h1, h2, h3⟩ := Cond.arrayClass_spec h
  exact ⟨cA, fun n z => ⟨fun k h => (by cases h), kA, h2, comp, h3⟩, h1⟩
theorem ex_cA {s : State} {args : Array Value} (h : (Jvm.Cond.arrayClass .byte).before args s = true ∧ (Jvm.Cond.arrayClass .int).before args s = true ∧ (Jvm.Cond.arrayClass .long).before args s = true ∧ (Jvm.Cond.arrayClass .boolean).before args s = true) (ho : va_AO "RookHusting$State" s) : ∃ cA : Nat → ClassId, ∀ (k : Nat) (q : ClassId × FieldType), (tysA cA)[k]? = some q → ArrOfT s q.1 q.2 ∧ va_RA s q.1 q.2 := by
  obtain ⟨h0, h1, h2, h3⟩ := h
  obtain ⟨a0, b0, c0⟩ := ac_one h0
  obtain ⟨a1, b1, c1⟩ := ac_one h1
  obtain ⟨a2, b2, c2⟩ := ac_one h2
  obtain ⟨a3, b3, c3⟩ := ac_one h3
  obtain ⟨comp, a4, k4, d1, d2, d3, d4, d5⟩ := Cond.arrayOver_spec ho
  refine ⟨fun k => match k with | 0 => a0 | 1 => a1 | 2 => a2 | 3 => a3 | _ => a4, fun k q hq => ?_⟩
  match k, hq with
  | 0, hq => cases hq; exact ⟨b0, c0⟩
  | 1, hq => cases hq; exact ⟨b1, c1⟩
  | 2, hq => cases hq; exact ⟨b2, c2⟩
  | 3, hq => cases hq; exact ⟨b3, c3⟩
  | 4, hq => cases hq; exact ⟨fun n z => ⟨fun k h => (by cases h), k4, d3, comp, d4⟩, k4, comp, d3, d4, d1, d5⟩
  | k + 5, hq => simp [tysA] at hq
theorem eqH_ok {V : EV} {cA : Nat → ClassId} : ∀ {xs ys : HP} {es : List va_E}, eqH xs ys = true → zf2 (fun (x : Bool × AC) (y : va_E) => relC [] V cA x.2 y) xs es → zf2 (fun (x : Bool × AC) (y : va_E) => relC [] V cA x.2 y) ys es
  | [], [], [], _, _ => trivial
  | [], [], _ :: _, _, h => h.elim
  | [], _ :: _, _, h, _ => by cases h
  | _ :: _, [], _, h, _ => by cases h
  | _ :: _, _ :: _, [], _, h => h.elim
  | x :: xs, y :: ys, en :: es, h, hz => by
    simp only [eqH, Bool.and_eq_true] at h
    exact ⟨subC_ok (g := []) (g0 := []) (G := []) (show GS [] [] from trivial) gxt_rf hz.1 h.1, eqH_ok (xs := xs) (ys := ys) (es := es) h.2 hz.2⟩
section START
variable {p : Program} {l : Launch} {e : Env} {s : State} {m : MethodId} {below : List Frame} {meth : Method} {c : Code} {cs0 ss0 : Nat} {b L : Nat} {D : va_G} {ad : List Nat} {cA : Nat → ClassId} {es0 : List va_E} {xs : Nat → Int32} {E : EvK}
theorem rk_law {g : List Int} (h : GS G_law g) : 0 ≤ rkv2 g k_law := by
  obtain ⟨z, h1, h2, h3⟩ := zf2_get h g3_law
  have h3 : z ≤ 3072 := h3
  have e : rkv2 g k_law = (-1) * (g.getD 3 0) + 0 + 3072 := rfl
  rw [e, List.getD_eq_getElem?_getD, h1]
  show 0 ≤ (-1) * z + 0 + 3072
  omega
theorem law_16 (hx : p.tables.exec = Jvm.exec) (hb : c.code = code) (hr : meth.sig.returnType = ret) (hlocks : meth.locks = false) (hml : c.maxLocals = 4) (hown : s.vm.findClass R_law = some m.cls) (hts : ∀ w ∈ gTbl, w.before #[Value.ref b] s = true) (hK : va_K D vwCl (tysA cA) s) (hN : NOK s) (hE : EOK E s s.heap) (hA0 : ∀ q : Nat, s.heap.size ≤ q → E.2.2.2 q) (hcs : cs0 ≤ 600000) (hss : ss0 ≤ 7302250) (hX : va_X b L xs s s.heap) (hbl : b < s.heap.size) (hL : L ≤ 3072) : WA (WW p l e room_1 s m #[Value.ref b] below meth c cs0 ss0 (lw_Z below #[Value.ref b] s)) m 4 D vwCl (fun q : Nat => s.heap.size ≤ q) s.heap ([Value.ref b] ++ KRof E, ad) cA es0 [] pre_16 := by
  have hml' : c.maxLocals = tb_L_law.2.1 := hml
  refine runS_ok (T := tb_L_law) (XS := []) (L := L) (xs := xs) hx hb hown hts tk_L_law hX hbl rfl (fun q hq => absurd hq List.not_mem_nil) 5 pre_16 pre_law rp_law ?_
  intro g lv sv es ls H locs h0 hG hlv hl hs hH
  obtain ⟨-, e2, g', lv', x1, x2, x3, x4, x5, x6, -⟩ := cutT_ok (g0 := []) (d := 1) (x := (pre_law, [])) (k := k_law) at_law (cutWG_ok cw_law) ⟨g, rfl⟩ (fun _ h => absurd h List.not_mem_nil) hG hlv hl hs hH
  rw [e2]
  exact law_loop (T := tb_L_law) (L := L) (xs := xs) (k := k_law) (aSw := aSw) (mx := 109) (G := G_law) (hp := hp_law) (rl := rl_law) hx hb hr hlocks hml' hown hts hK hN hE hA0 rfl gT_all tk_L_law (cto_law l) hcs hss hX hbl rfl hL rfl g3_law at_law xs_law dl_18 dl_19 dl_20 dl_21 dl_23 dl_24 dl_2278 dl_2279 dl_33 rfl rs_law rl_sw ((rkv2 g' k_law).toNat + 1) g' lv' es ls H locs x2 x3 x4 x5 x6 (rk_law x2) (by have := rk_law x2; omega)
end START
theorem whole_start {p : Program} {e : Env} {s : State} {m : MethodId} {below : List Frame} {meth : Method} {c : Code} (l : Launch) (hflags : l.flags = flags0) {b L : Nat} {xs : Nat → Int32} (hL : L ≤ 3072) (C0 : lw_At p s m meth c b L xs) : W p l e room_1 s m #[Value.ref b] below meth c s.heap [] 0 0 (lw_Z below #[Value.ref b] s) (entryFrame m ([Value.ref b] : List Value).toArray 4) := by
  obtain ⟨hx, hb, hr, hml, hown, hts0, hX, hbl, hlocks, hgv⟩ := C0
  have hts : ∀ w ∈ gTbl, w.before #[Value.ref b] s = true := fun w hw => hts0 w (List.mem_filter.mp hw).1
  have hN : NOK s := nok_s hts0
  have hO : va_AO "RookHusting$State" s := ao_s hts0
  obtain ⟨E, hE, hA0⟩ := env_ok hts0 hgv
  obtain ⟨D, hD⟩ := ex_D (kn_all hts)
  obtain ⟨cA, hcA⟩ := ex_cA (ac_s hts) hO
  have hK : va_K D vwCl (tysA cA) s := ⟨hD, hcA⟩
  have hl := lv_entry ([Value.ref b]) (n := 4) (Nat.le_of_ble_eq_true rfl)
  rw [lg_entry_eq]
  generalize (lg_sl ([Value.ref b]) ++ List.replicate (4 - (lg_sl ([Value.ref b])).length) Slot.unset).toArray = ls at hl ⊢
  have hpre := rl_pre
  unfold preOK at hpre
  split at hpre
  · rename_i bK hrun
    simp only [Bool.and_eq_true, decide_eq_true_eq] at hpre
    obtain ⟨q1, q2, q3, q4, q5, q6, q7⟩ := hpre
    have hKW := runK_ok (p := p) (l := l) (e := e) (R := room_1) (s := s) (m := m) (args := #[Value.ref b]) (below := below) (meth := meth) (c := c) (Q := lw_Z below #[Value.ref b] s) (D := D) (cA := cA) (A := fun q : Nat => s.heap.size ≤ q) (H0 := s.heap) (gv := [Value.ref b] ++ KRof E) (Pf := fun _ => True) (T := tb_L_pre) hx hb hml hown hts hK hN hO cl_9 (fun q hq => hq) gT_all (fun _ _ h => h) tk_L_pre (ko_L_pre l) (Or.inl rfl) _ _ bK hrun ?_
    · exact hKW [] [] trivial [] (lv_args 0 [Value.ref b]) [] [] ls s.heap [] gxt_nil trivial hl ⟨⟨rfl, ⟨b, rfl, rfl⟩, by decide⟩, trivial⟩ trivial ⟨trivial, fun _ _ _ _ => rfl, fun k q h => by simp [zw] at h, ⟨fun i j p q h => by simp [zw] at h, fun k q h => by simp [zw] at h⟩, va_S.rf, rfl⟩
    · intro ad es0 _ g lv sv es ls' H locs _ hG hlv hl' hs hH
      rw [q4] at hG
      cases g with
      | cons _ _ => exact hG.elim
      | nil =>
        rw [q3] at hs
        rw [q2] at hl'
        cases sv with
        | cons _ _ => exact hs.elim
        | nil =>
          rw [q1]
          have hz := eqH_ok q5 hH.1
          exact law_16 (b := b) (L := L) (xs := xs) hx hb hr hlocks hml hown hts hK hN hE hA0 q6 q7 hX hbl hL [] lv [] es ls' H locs gxt_rf trivial hlv hl' trivial ⟨hz, fun _ _ _ _ => rfl, hH.2.2.1, hH.2.2.2.1, hH.2.2.2.2.1, hH.2.2.2.2.2⟩
  · cases hpre
