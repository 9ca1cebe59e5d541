/-! ===== the law's own run ===== -/
/-- the script: an element by its index, the length -/
def stpE (XS : List (AV × AV)) (LN : AV) (ins : ClassFile.Instr) (len : Nat) (a : AS) : Option (List AS) := match ins with
  | .aload_n k => if len = 1 then (match fnd a.2.1 k with
    | some v => if v.1 = 11 then some (psh a 1 (a.2.2.2.1, v)) else none
    | none => none) else none
  | .arraylength => if len = 1 then (match a.2.2.1 with
    | x :: st => if x = (11, 0, 0) then some [(a.1 + 1, a.2.1, LN :: st, a.2.2.2.1, a.2.2.2.2)] else none
    | _ => none) else none
  | .iaload => if len = 1 then (match a.2.2.1 with
    | i :: x :: st => if x = (11, 0, 0) then (match XS.lookup i with
      | some v => some [(a.1 + 1, a.2.1, v :: st, a.2.2.2.1, a.2.2.2.2)]
      | none => none) else none
    | _ => none) else none
  | _ => none
def finL (ins : ClassFile.Instr) (len : Nat) (a : AS) : Bool := match ins with
  | .ireturn => match a.2.2.1 with
    | [v] => decide (len = 1) && (match ivI a.2.2.2.1 v with
      | some q => decide (q.1 = 1 ∧ q.2 = 1)
      | none => false)
    | _ => false
  | _ => false
def runL (T : TB) (CT : CTB) (R : Nat × Nat) (XS : List (AV × AV)) (LN : AV) : Nat → AS → Bool
  | 0, _ => false
  | f + 1, a => match look T.1 a.1 with
    | none => false
    | some q => finL q.1 q.2 a || (match stpE XS LN q.1 q.2 a with
      | some L => L.all (runL T CT R XS LN f)
      | none => match stp T [] CT R q.1 q.2 a with
        | some L => L.all (runL T CT R XS LN f)
        | none => false)
theorem lkp_mem {β : Type} : ∀ {l : List (AV × β)} {i : AV} {b : β}, l.lookup i = some b → (i, b) ∈ l
  | [], _, _, h => by simp at h
  | (k, c) :: r, i, b, h => by
    rw [List.lookup_cons] at h
    split at h
    · rename_i hk
      cases h
      have : i = k := by simpa using hk
      subst this
      exact List.mem_cons_self
    · exact List.mem_cons_of_mem _ (lkp_mem h)
section LAWRUN
variable {p : Program} {l : Launch} {e : Env} {s : State} {m : MethodId} {below : List Frame} {meth : Method} {c : Code} {cs0 ss0 : Nat} {b : Nat} {Ts : List Jvm.Cond} {D : va_G} {cl : List vw_C} {V : EV} {cA : Nat → ClassId} {es0 : List va_E} {g0 : List Int} {L : Nat} {xs : Nat → Int32}
theorem finL_ok (hx : p.tables.exec = Jvm.exec) (hb : c.code = code) (hr : meth.sig.returnType = ret) (hlocks : meth.locks = false) (hcs : cs0 ≤ 600000) (hss : ss0 ≤ 7302250) {nL : Nat} {a : AS} {ins : ClassFile.Instr} {len : Nat} (hd : decode code a.1 = .ok (ins, len)) (h : finL ins len a = true) : WA (WW p l e room_1 s m #[Value.ref b] below meth c cs0 ss0 (lw_Z below #[Value.ref b] s)) m nL D cl (fun q : Nat => s.heap.size ≤ q) s.heap V cA es0 g0 a := by
  intro g lv sv es ls H locs h0 hG hlv hl hs hH
  unfold finL at h
  split at h
  · split at h
    · rename_i v hst
      simp only [Bool.and_eq_true, decide_eq_true_eq] at h
      obtain ⟨rfl, h1⟩ := h
      rw [hst] at hs
      obtain ⟨w, sv1, rfl, g1, hs1⟩ := zf2_cons hs
      cases sv1 with
      | cons _ _ => exact hs1.elim
      | nil =>
        split at h1
        · rename_i q hq
          have h1 := of_decide_eq_true h1
          obtain ⟨x, rfl, e1⟩ := ivI_ok hG g1 hq
          have : x = 1 := Int32.toInt_inj.mp ((ae_int0 e1 h1.1 h1.2).trans (by decide))
          subst this
          refine va_forget (fun q hq => hH.2.2.2.2.1.2.2 q hq) ?_
          refine W.widen (k := 600000) (n := 7302250) hcs hss ?_
          exact lw_ret hx hb hr hlocks hd
        · cases h1
    · cases h
  · cases h
theorem stpE_ok (hx : p.tables.exec = Jvm.exec) (hb : c.code = code) (hX : va_X b L xs s s.heap) (hbl : b < s.heap.size) (hV : V.1[0]? = some (.ref b)) {XS : List (AV × AV)} {LN : AV} (hLN : ∀ g, gxt g0 g → gam g V LN (.int L.toInt32)) (hXS : ∀ q ∈ XS, ∀ (g : List Int) (v : Value), gxt g0 g → gam g V q.1 v → ∃ X : Int32, v = .int X ∧ vp_in X L ∧ gam g V q.2 (.int (xs X.toNatClampNeg))) {nL : Nat} {a : AS} {ins : ClassFile.Instr} {len : Nat} {Ls : List AS} (hd : decode code a.1 = .ok (ins, len)) (h : stpE XS LN ins len a = some Ls) (hL : ∀ x ∈ Ls, WA (WW p l e room_1 s m #[Value.ref b] below meth c cs0 ss0 (lw_Z below #[Value.ref b] s)) m nL D cl (fun q : Nat => s.heap.size ≤ q) s.heap V cA es0 g0 x) : WA (WW p l e room_1 s m #[Value.ref b] below meth c cs0 ss0 (lw_Z below #[Value.ref b] s)) m nL D cl (fun q : Nat => s.heap.size ≤ q) s.heap V cA es0 g0 a := by
  intro g lv sv es ls H locs h0 hG hlv hl hs hH
  have hbA : ¬ (fun q : Nat => s.heap.size ≤ q) b := Nat.not_le.mpr hbl
  have ext : ∀ {v : Value}, gam g V (11, 0, 0) v → v = .ref b := fun {v} hv => by
    obtain ⟨r, e1, e2⟩ := hv
    have e1 : V.1[0]? = some (.ref r) := e1
    rw [hV] at e1
    cases e1
    exact e2
  unfold stpE at h
  split at h
  · split at h
    · rename_i k hc
      subst hc
      split at h
      · rename_i v hv
        split at h
        · rename_i ht
          cases h
          obtain ⟨j, w, h1, h2, h3⟩ := fnd_ok hl hv
          have h2' := h2
          obtain ⟨tv, v1, v2⟩ := v
          simp only at ht
          subst ht
          obtain ⟨r, e1, rfl⟩ := h2
          exact lv_aload_n hx hb hd rfl (lv_at hlv j h1) (WA_psh hL h0 hlv hl hs hH gxt_rf hG h2')
        · cases h
      · cases h
    · cases h
  · split at h
    · rename_i hc
      subst hc
      split at h
      · rename_i x st hst
        split at h
        · rename_i hxe
          cases h
          rw [hst, hxe] at hs
          obtain ⟨w, sv1, rfl, g1, hs1⟩ := zf2_cons hs
          rw [ext g1]
          exact va_slen hx hb hX hbl hbA hH.2.2.2.2.1 hd (hL _ (List.mem_singleton.mpr rfl) g lv _ es ls H locs h0 hG hlv hl ⟨hLN g h0, hs1⟩ hH)
        · cases h
      · cases h
    · cases h
  · split at h
    · rename_i hc
      subst hc
      split at h
      · rename_i i x st hst
        split at h
        · rename_i hxe
          split at h
          · rename_i v hv
            cases h
            rw [hst, hxe] at hs
            obtain ⟨w, sv1, rfl, g1, hs1⟩ := zf2_cons hs
            obtain ⟨w2, sv2, rfl, g2, hs2⟩ := zf2_cons hs1
            rw [ext g2]
            obtain ⟨X, rfl, e1, e2⟩ := hXS _ (lkp_mem hv) g w h0 g1
            exact va_sld hx hb hX hbl hbA hH.2.2.2.2.1 e1 hd (hL _ (List.mem_singleton.mpr rfl) g lv _ es ls H locs h0 hG hlv hl ⟨e2, hs2⟩ hH)
          · cases h
        · cases h
      · cases h
    · cases h
  · cases h
theorem runL_ok (hx : p.tables.exec = Jvm.exec) (hb : c.code = code) (hr : meth.sig.returnType = ret) (hlocks : meth.locks = false) {T : TB} (hml : c.maxLocals = T.2.1) (hown : s.vm.findClass R_law = some m.cls) (hts : ∀ w ∈ Ts, w.before #[Value.ref b] s = true) (hK : va_K D cl (tysA cA) s) (hN : NOK s) (hgood : ∀ w ∈ Ts, GoodIn Ts (w :: Ts)) (hT : TOK R_law cl Ts code T) {CT : CTB} (hCT : CTOK l R_law cl Ts CT) (hcs : cs0 ≤ 600000) (hss : ss0 ≤ 7302250) (hX : va_X b L xs s s.heap) (hbl : b < s.heap.size) (hV : V.1[0]? = some (.ref b)) {XS : List (AV × AV)} {LN : AV} (hLN : ∀ g, gxt g0 g → gam g V LN (.int L.toInt32)) (hXS : ∀ q ∈ XS, ∀ (g : List Int) (v : Value), gxt g0 g → gam g V q.1 v → ∃ X : Int32, v = .int X ∧ vp_in X L ∧ gam g V q.2 (.int (xs X.toNatClampNeg))) : ∀ (f : Nat) (a : AS), runL T CT (room_1.frames, room_1.locals) XS LN f a = true →
    WA (WW p l e room_1 s m #[Value.ref b] below meth c cs0 ss0 (lw_Z below #[Value.ref b] s)) m T.2.1 D cl (fun q : Nat => s.heap.size ≤ q) s.heap V cA es0 g0 a := by
  intro f
  induction f with
  | zero => intro a h; simp [runL] at h
  | succ f ih =>
    intro a h
    unfold runL at h
    split at h
    · cases h
    · rename_i q hq
      have hd : decode code a.1 = .ok (q.1, q.2) := hT.1 (a.1, q) (look_mem hq)
      simp only [Bool.or_eq_true] at h
      rcases h with h | h
      · exact finL_ok hx hb hr hlocks hcs hss hd h
      · split at h
        · rename_i L' hL
          exact stpE_ok hx hb hX hbl hV hLN hXS hd hL (fun b' hb' => ih b' (List.all_eq_true.mp h b' hb'))
        · split at h
          · rename_i L' hL
            have hall := fun b' hb' => ih b' (List.all_eq_true.mp h b' hb')
            unfold stp at hL
            split at hL
            · rename_i L'' h1
              cases hL
              exact stpA_ok hx hb hown hts hT hd h1 hall
            · split at hL
              · rename_i L'' h1
                cases hL
                exact stpH_ok hx hb hown hts hK hT hd h1 hall
              · exact stpC_ok hx hb hml hown hts hK hN (fun q hq => hq) hcs hss hgood (fun q hq => by cases hq) hCT hd hL hall
          · cases h
end LAWRUN
