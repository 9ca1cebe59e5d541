/-! ===== the law's own run, with words ===== -/
/-- the script: an element by its index -/
noncomputable def stpE (XS : List (AV × AV)) (ins : ClassFile.Instr) (len : Nat) (a : AS) : Option (List AS) := match ins with
  | .aload_n k => if len = 1 then (match fnd a.2.1 k with
    | some v => if v.1 = 11 then some (psh a 1 (a.2.2.2.1, v)) else none
    | none => none) else none
  | .iaload => if len = 1 then (match a.2.2.1 with
    | i :: x :: st => if x = (11, 0, 0) then (match XS.lookup i with
      | some v => some [(a.1 + 1, a.2.1, v :: st, a.2.2.2.1, a.2.2.2.2)]
      | none => none) else none
    | _ => none) else none
  | .pop2 => if len = 1 then (match a.2.2.1 with
    | x :: st => if 3 ≤ x.1 ∧ x.1 ≤ 5 then some [(a.1 + 1, a.2.1, st, a.2.2.2.1, a.2.2.2.2)] else none
    | _ => none) else none
  | _ => none
noncomputable def finL (ins : ClassFile.Instr) (len : Nat) (a : AS) : Bool := match ins with
  | .ireturn => match a.2.2.1 with
    | [v] => decide (len = 1) && (match ivI a.2.2.2.1 v with
      | some q => decide (q.1 = 1 ∧ q.2 = 1)
      | none => false)
    | _ => false
  | _ => false
theorem lkp_mem {β : Type} : ∀ {l : List (AV × β)} {i : AV} {b : β}, l.lookup i = some b → (i, b) ∈ l
  | [], _, _, h => by simp at h
  | (k, c) :: r, i, b, h => by
    rw [List.lookup_cons] at h
    split at h
    · rename_i hk
      cases h
      have : i = k := by simpa using hk
      subst this
      exact List.mem_cons_self
    · exact List.mem_cons_of_mem _ (lkp_mem h)
noncomputable def stpL (T : TB) (d : Nat) (CT : CTB2) (XS : List (AV × AV)) (R : Nat × Nat) (ins : ClassFile.Instr) (len : Nat) (x : ASR) : Option (List ASR) := match stpE XS ins len x.1 with
  | some L => some (L.map (fun b => (b, x.2)))
  | none => match stpA T ins len x.1 with
    | some L => some (L.map (fun b => (b, x.2)))
    | none => match ins with
      | .invokevirtual i => if len = 3 then trcH d R x (ctAt x.1.1 0 i CT) else none
      | _ => none
/-- nobody comes here: so say so many words put together (the last digit; ahead of it: how many of the last words are left out) -/
noncomputable def noX (CX : List (Nat × Nat)) (x : ASR) : Bool := match look CX x.1.1 with
  | some d => wEnt x.1.2.2.2.1 (wTk x.2 (lenG x.2 - d / 10)) (d % 10) ([], -1)
  | none => false
noncomputable def kdL : ClassFile.Instr → Nat
  | .invokevirtual _ => 5
  | .if_icmp _ _ => 3
  | .ifCond _ _ => 3
  | .lcmp => 3
  | .land => 3
  | .lor => 3
  | .lshl => 3
  | .iinc _ _ => 2
  | _ => 1
/-- to the head again (of a smaller rank), or to an end that answers 1; TL: the instructions; CX: where words may show that nobody comes -/
noncomputable def runW (TL : List (Nat × ClassFile.Instr × Nat)) (T : TB) (d : Nat) (CT : CTB2) (RF : List (Nat × List POP)) (CX : List (Nat × Nat)) (XS : List (AV × AV)) (R : Nat × Nat) (k : CUT2) : Nat → ASR → Bool
  | 0, _ => false
  | f + 1, x => noX CX x || (if x.1.1 = k.1.1 then cutWG d 0 x k && wCtW d 0 x (some k) k else match look TL x.1.1 with
    | none => false
    | some q => match prA d ((look RF x.1.1).getD []) x with
      | none => false
      | some X => X.all (fun y => decide (y.1.1 = x.1.1) && (finL q.1 q.2 y.1 || (match stpL T d CT XS R q.1 q.2 y with
        | some L => L.all (fun z => frc (kdL q.1) z (fun pc loc st G hp r => runW TL T d CT RF CX XS R k f ((pc, loc, st, G, hp), r)))
        | none => false))))
/-- a way without branches, to a place -/
noncomputable def runS (T : TB) (XS : List (AV × AV)) (stop : Nat) : Nat → AS → Option AS
  | 0, _ => none
  | f + 1, a => if a.1 = stop then some a else match look T.1 a.1 with
    | none => none
    | some q => match stpE XS q.1 q.2 a with
      | some [b] => runS T XS stop f b
      | some _ => none
      | none => match stpA T q.1 q.2 a with
        | some [b] => runS T XS stop f b
        | _ => none
noncomputable def allIx (P : Int → Int → Prop) : List Int → Int → Prop
  | [], _ => True
  | off :: r, v => P off v ∧ allIx P r (v + 1)
noncomputable def cok (P : AS → Bool) (a : AS) (st : List AV) (x : AV) (off v : Int) : Bool := match rfI 0 a.2.2.2.1 x (0, v, 0) with
  | some L1 => decide (0 ≤ (a.1 : Int) + off ∧ -2147483648 ≤ v ∧ v ≤ 2147483647) && (L1.map fun G => ((((a.1 : Int) + off).toNat, a.2.1, st, G, a.2.2.2.2) : AS)).all P
  | none => false
noncomputable def dok (P : AS → Bool) (a : AS) (st : List AV) (x : AV) (d lo hi : Int) : Bool := match rfI 2 a.2.2.2.1 x (0, lo, 0), rfI 4 a.2.2.2.1 x (0, hi, 0) with
  | some L2, some L3 => ((L2 ++ L3).map fun G => ((((a.1 : Int) + d).toNat, a.2.1, st, G, a.2.2.2.2) : AS)).all P
  | _, _ => false
theorem tsw_all {Q : AS → Prop} {a : AS} {st : List AV} {x : AV} : ∀ {offs : List Int} {v : Int}, allIx (fun off v => ∃ P : AS → Bool, (∀ y, P y = true → Q y) ∧ cok P a st x off v = true) offs v → ∃ L, tsw a st x offs v = some L ∧ ∀ y ∈ L, Q y
  | [], _, _ => ⟨[], rfl, fun _ h => absurd h List.not_mem_nil⟩
  | off :: r, v, h => by
    obtain ⟨L2, h1, h2⟩ := tsw_all h.2
    obtain ⟨P, hP, h3⟩ := h.1
    unfold cok at h3
    split at h3
    · rename_i L1 hL1
      simp only [Bool.and_eq_true, decide_eq_true_eq] at h3
      refine ⟨(L1.map fun G => ((((a.1 : Int) + off).toNat, a.2.1, st, G, a.2.2.2.2) : AS)) ++ L2, ?_, ?_⟩
      · unfold tsw
        rw [hL1, h1]
        simp only
        rw [if_pos h3.1]
      · intro y hy
        rcases List.mem_append.mp hy with hy | hy
        · exact hP y (List.all_eq_true.mp h3.2 y hy)
        · exact h2 y hy
    · cases h3
theorem sw_ok {Q : AS → Prop} {a : AS} {st : List AV} {x : AV} {d lo hi : Int} {offs : Array Int} (hst : a.2.2.1 = x :: st) (hb : -2147483648 ≤ lo ∧ lo ≤ hi ∧ hi ≤ 2147483647 ∧ hi - lo + 1 = (offs.toList.length : Int) ∧ 0 ≤ (a.1 : Int) + d) (hc : allIx (fun off v => ∃ P : AS → Bool, (∀ y, P y = true → Q y) ∧ cok P a st x off v = true) offs.toList lo) {P : AS → Bool} (hP : ∀ y, P y = true → Q y) (hd : dok P a st x d lo hi = true) : ∃ L, tsd a d lo hi offs = some L ∧ ∀ y ∈ L, Q y := by
  obtain ⟨L1, h1, h2⟩ := tsw_all hc
  unfold dok at hd
  split at hd
  · rename_i L2 L3 e2 e3
    refine ⟨L1 ++ ((L2 ++ L3).map fun G => ((((a.1 : Int) + d).toNat, a.2.1, st, G, a.2.2.2.2) : AS)), ?_, ?_⟩
    · unfold tsd
      rw [hst]
      simp only
      rw [if_pos hb, h1, e2, e3]
    · intro y hy
      rcases List.mem_append.mp hy with hy | hy
      · exact h2 y hy
      · exact hP y (List.all_eq_true.mp hd y hy)
  · cases hd
/-- all cells are said anew -/
noncomputable def allT (hp : HP) : Bool := hp.all (fun q => q.1)
theorem relK_all {g : List Int} {V : EV} {cA : Nat → ClassId} : ∀ {hp : HP} {es : List va_E}, allT hp = true → zf2 (relK g V cA) hp es → zf2 (fun (x : Bool × AC) (y : va_E) => relC g V cA x.2 y) hp es
  | [], [], _, _ => trivial
  | [], _ :: _, _, h => h.elim
  | _ :: _, [], _, h => h.elim
  | q :: hp, e :: es, h, hz => by
    unfold allT at h
    simp only [List.all_cons, Bool.and_eq_true] at h
    exact ⟨hz.1 h.1, relK_all (hp := hp) (es := es) h.2 hz.2⟩
theorem kep_all {hp : HP} {es0 es : List va_E} (h : allT hp = true) : kep hp es0 es := fun j q hj hq => by
  have := List.all_eq_true.mp h q (List.mem_of_getElem? hj)
  rw [hq] at this
  cases this
section LAW2
variable {p : Program} {l : Launch} {e : Env} {s : State} {m : MethodId} {below : List Frame} {meth : Method} {c : Code} {cs0 ss0 : Nat} {b : Nat} {Ts : List Jvm.Cond} {D : va_G} {cl : List vw_C} {V : EV} {cA : Nat → ClassId} {es0 : List va_E} {g0 : List Int} {L : Nat} {xs : Nat → Int32}
theorem finL_ok (hx : p.tables.exec = Jvm.exec) (hb : c.code = code) (hr : meth.sig.returnType = ret) (hlocks : meth.locks = false) (hcs : cs0 ≤ 600000) (hss : ss0 ≤ 7302250) {nL : Nat} {a : AS} {ins : ClassFile.Instr} {len : Nat} (hd : decode code a.1 = .ok (ins, len)) (h : finL ins len a = true) : WA (WW p l e room_1 s m #[Value.ref b] below meth c cs0 ss0 (lw_Z below #[Value.ref b] s)) m nL D cl (fun q : Nat => s.heap.size ≤ q) s.heap V cA es0 g0 a := by
  intro g lv sv es ls H locs h0 hG hlv hl hs hH
  unfold finL at h
  split at h
  · split at h
    · rename_i v hst
      simp only [Bool.and_eq_true, decide_eq_true_eq] at h
      obtain ⟨rfl, h1⟩ := h
      rw [hst] at hs
      obtain ⟨w, sv1, rfl, g1, hs1⟩ := zf2_cons hs
      cases sv1 with
      | cons _ _ => exact hs1.elim
      | nil =>
        split at h1
        · rename_i q hq
          have h1 := of_decide_eq_true h1
          obtain ⟨x, rfl, e1⟩ := ivI_ok hG g1 hq
          have : x = 1 := Int32.toInt_inj.mp ((ae_int0 e1 h1.1 h1.2).trans (by decide))
          subst this
          refine va_forget (fun q hq => hH.2.2.2.2.1.2.2 q hq) ?_
          refine W.widen (k := 600000) (n := 7302250) hcs hss ?_
          exact lw_ret hx hb hr hlocks hd
        · cases h1
    · cases h
  · cases h
theorem stpE_ok (hx : p.tables.exec = Jvm.exec) (hb : c.code = code) (hX : va_X b L xs s s.heap) (hbl : b < s.heap.size) (hV : V.1[0]? = some (.ref b)) {XS : List (AV × AV)} (hXS : ∀ q ∈ XS, ∀ (g : List Int) (v : Value), gxt g0 g → gam g V q.1 v → ∃ X : Int32, v = .int X ∧ vp_in X L ∧ gam g V q.2 (.int (xs X.toNatClampNeg))) {nL : Nat} {a : AS} {ins : ClassFile.Instr} {len : Nat} {Ls : List AS} (hd : decode code a.1 = .ok (ins, len)) (h : stpE XS ins len a = some Ls) (hL : ∀ x ∈ Ls, WA (WW p l e room_1 s m #[Value.ref b] below meth c cs0 ss0 (lw_Z below #[Value.ref b] s)) m nL D cl (fun q : Nat => s.heap.size ≤ q) s.heap V cA es0 g0 x) : WA (WW p l e room_1 s m #[Value.ref b] below meth c cs0 ss0 (lw_Z below #[Value.ref b] s)) m nL D cl (fun q : Nat => s.heap.size ≤ q) s.heap V cA es0 g0 a := by
  intro g lv sv es ls H locs h0 hG hlv hl hs hH
  have hbA : ¬ (fun q : Nat => s.heap.size ≤ q) b := Nat.not_le.mpr hbl
  have ext : ∀ {v : Value}, gam g V (11, 0, 0) v → v = .ref b := fun {v} hv => by
    obtain ⟨r, e1, e2⟩ := hv
    have e1 : V.1[0]? = some (.ref r) := e1
    rw [hV] at e1
    cases e1
    exact e2
  unfold stpE at h
  split at h
  · split at h
    · rename_i k hc
      subst hc
      split at h
      · rename_i v hv
        split at h
        · rename_i ht
          cases h
          obtain ⟨j, w, h1, h2, h3⟩ := fnd_ok hl hv
          have h2' := h2
          obtain ⟨tv, v1, v2⟩ := v
          simp only at ht
          subst ht
          obtain ⟨r, e1, rfl⟩ := h2
          exact lv_aload_n hx hb hd rfl (lv_at hlv j h1) (WA_psh hL h0 hlv hl hs hH gxt_rf hG h2')
        · cases h
      · cases h
    · cases h
  · split at h
    · rename_i hc
      subst hc
      split at h
      · rename_i i x st hst
        split at h
        · rename_i hxe
          split at h
          · rename_i v hv
            cases h
            rw [hst, hxe] at hs
            obtain ⟨w, sv1, rfl, g1, hs1⟩ := zf2_cons hs
            obtain ⟨w2, sv2, rfl, g2, hs2⟩ := zf2_cons hs1
            rw [ext g2]
            obtain ⟨X, rfl, e1, e2⟩ := hXS _ (lkp_mem hv) g w h0 g1
            exact va_sld hx hb hX hbl hbA hH.2.2.2.2.1 e1 hd (hL _ (List.mem_singleton.mpr rfl) g lv _ es ls H locs h0 hG hlv hl ⟨e2, hs2⟩ hH)
          · cases h
        · cases h
      · cases h
    · cases h
  · split at h
    · rename_i hc
      subst hc
      split at h
      · rename_i x st hst
        split at h
        · rename_i ht
          cases h
          rw [hst] at hs
          obtain ⟨w, sv1, rfl, g1, hs1⟩ := zf2_cons hs
          obtain ⟨X, rfl⟩ := gam_long g1 ht
          exact lv_pop2_2 hx hb hd rfl (hL _ (List.mem_singleton.mpr rfl) g lv _ es ls H locs h0 hG hlv hl hs1 hH)
        · cases h
      · cases h
    · cases h
  · cases h
theorem runS_ok (hx : p.tables.exec = Jvm.exec) (hb : c.code = code) {T : TB} (hown : s.vm.findClass R_law = some m.cls) (hts : ∀ w ∈ Ts, w.before #[Value.ref b] s = true) (hT : TOK R_law cl Ts code T) (hX : va_X b L xs s s.heap) (hbl : b < s.heap.size) (hV : V.1[0]? = some (.ref b)) {XS : List (AV × AV)} (hXS : ∀ q ∈ XS, ∀ (g : List Int) (v : Value), gxt g0 g → gam g V q.1 v → ∃ X : Int32, v = .int X ∧ vp_in X L ∧ gam g V q.2 (.int (xs X.toNatClampNeg))) {stop : Nat} : ∀ (f : Nat) (a a' : AS), runS T XS stop f a = some a' →
    WA (WW p l e room_1 s m #[Value.ref b] below meth c cs0 ss0 (lw_Z below #[Value.ref b] s)) m T.2.1 D cl (fun q : Nat => s.heap.size ≤ q) s.heap V cA es0 g0 a' → WA (WW p l e room_1 s m #[Value.ref b] below meth c cs0 ss0 (lw_Z below #[Value.ref b] s)) m T.2.1 D cl (fun q : Nat => s.heap.size ≤ q) s.heap V cA es0 g0 a := by
  intro f
  induction f with
  | zero => intro a a' h; simp [runS] at h
  | succ f ih =>
    intro a a' h hW
    unfold runS at h
    split at h
    · cases h; exact hW
    · split at h
      · cases h
      · rename_i q hq
        have hd : decode code a.1 = .ok (q.1, q.2) := hT.1 (a.1, q) (look_mem hq)
        split at h
        · rename_i b1 hb1
          exact stpE_ok hx hb hX hbl hV hXS hd hb1 (fun y hy => by rw [List.mem_singleton.mp hy]; exact ih b1 a' h hW)
        · cases h
        · split at h
          · rename_i b1 hb1
            exact stpA_ok hx hb hown hts hT hd hb1 (fun y hy => by rw [List.mem_singleton.mp hy]; exact ih b1 a' h hW)
          · cases h
theorem stpL_ok (hx : p.tables.exec = Jvm.exec) (hb : c.code = code) {T : TB} (hml : c.maxLocals = T.2.1) (hown : s.vm.findClass R_law = some m.cls) (hts : ∀ w ∈ Ts, w.before #[Value.ref b] s = true) (hK : va_K D cl (tysA cA) s) (hN : NOK s) {E : EvK} (hE : EOK E s s.heap) (hA0 : ∀ q : Nat, s.heap.size ≤ q → E.2.2.2 q) {va0 : List Value} (hVK : V.1 = va0 ++ KRof E) (hgood : ∀ w ∈ Ts, GoodIn Ts (w :: Ts)) (hT : TOK R_law cl Ts code T) {CT : CTB2} (hCT : CTOK2 l R_law cl Ts CT) (hcs : cs0 ≤ 600000) (hss : ss0 ≤ 7302250) (hX : va_X b L xs s s.heap) (hbl : b < s.heap.size) (hV : V.1[0]? = some (.ref b)) {XS : List (AV × AV)} (hXS : ∀ q ∈ XS, ∀ (g : List Int) (v : Value), gxt g0 g → gam g V q.1 v → ∃ X : Int32, v = .int X ∧ vp_in X L ∧ gam g V q.2 (.int (xs X.toNatClampNeg))) {d : Nat} {x : ASR} {ins : ClassFile.Instr} {len : Nat} {L' : List ASR} (hd : decode code x.1.1 = .ok (ins, len)) (h : stpL T d CT XS (room_1.frames, room_1.locals) ins len x = some L') (hL : ∀ y ∈ L', WR (WW p l e room_1 s m #[Value.ref b] below meth c cs0 ss0 (lw_Z below #[Value.ref b] s)) m T.2.1 D cl (fun q : Nat => s.heap.size ≤ q) s.heap V cA es0 g0 y) : WR (WW p l e room_1 s m #[Value.ref b] below meth c cs0 ss0 (lw_Z below #[Value.ref b] s)) m T.2.1 D cl (fun q : Nat => s.heap.size ≤ q) s.heap V cA es0 g0 x := by
  unfold stpL at h
  split at h
  · rename_i L'' h1
    cases h
    intro gs hgs hr
    exact stpE_ok (g0 := gs) hx hb hX hbl hV (fun q hq g v hg => hXS q hq g v (gxt_tr hgs hg)) hd h1 (fun y hy => hL (y, x.2) (List.mem_map.mpr ⟨y, hy, rfl⟩) gs hgs hr)
  · split at h
    · rename_i L'' h1
      cases h
      exact pure_ok hL (fun gs hall => stpA_ok hx hb hown hts hT hd h1 hall)
    · split at h
      · split at h
        · rename_i i hc
          subst hc
          rw [trcH_eq, trcG_eq (pc := x.1.1) rfl] at h
          obtain ⟨q, q1, q2, q3, q4⟩ := trc2_mem h
          obtain ⟨v1, v2⟩ := hCT _ q1
          rw [q2, q3] at v2
          obtain ⟨a, r⟩ := x
          exact cll2_ok hx hb hml hown hts hK hN hE hA0 hVK (fun q hq => hq) hcs hss hgood v2 (fun es ec _ _ => v1 ec) (by rw [if_pos rfl]; exact hd) q4 hL
        · cases h
      · cases h
/-- a state that fits a cut point of which every cell is said -/
theorem cutT_ok {A : Nat → Prop} {H0 : Heap} {d : Nat} {x : ASR} {k : CUT2} {nL : Nat} (hT : allT k.1.2.2.2.2 = true) (h : cutW d g0.length x k = true) {g : List Int} {lv : List (Nat × Value)} {sv : List Value} {es : List va_E} {ls : Array Slot} {H : Heap} {locs : List Loc} (hx : gxt g0 g) (hr : RLok x.2 g) (hG : GS x.1.2.2.2.1 g) (hlv : lv_has ls nL lv) (hl : zf2 (locR g V) x.1.2.1 lv) (hs : zf2 (gam g V) x.1.2.2.1 sv) (hH : HS D cl A H0 V cA es0 x.1.2.2.2.2 g es H locs) :
    x.1.1 = k.1.1 ∧ sv = [] ∧ ∃ (g' : List Int) (lv' : List (Nat × Value)), gxt g0 g' ∧ GS k.1.2.2.2.1 g' ∧ RLok k.2.1 g' ∧ lv_has ls nL lv' ∧ zf2 (locR g' V) k.1.2.1 lv' ∧ HS D cl A H0 V cA es0 k.1.2.2.2.2 g' es H locs ∧
      ∃ (xs : List AV) (vs : List Value), pX x.1 k.1 = some xs ∧ zf2 (gam g V) xs vs ∧ SP g0.length g' 0 (pB k.1) vs := by
  unfold cutW at h
  split at h
  · rename_i xs hpk hsa hsb
    simp only [Bool.and_eq_true, decide_eq_true_eq] at h
    obtain ⟨h1, h2, h3⟩ := h
    obtain ⟨vs, e1, e2, e3⟩ := pkL_ok hl hpk
    have hll : (k.1.2.1.map Prod.snd).length = xs.length := by rw [List.length_map, e2, ← zf2_len e1]
    obtain ⟨g', xg, x1, x2, x3, x4, x5, x6, x7, zs, x8, x9⟩ := patM_ok rfl h3 hx hG hr hll e1 hH
    have hsv : sv = [] := by
      rw [hsa] at hs
      cases sv with
      | nil => rfl
      | cons _ _ => exact hs.elim
    refine ⟨h1, hsv, g', (k.1.2.1.map Prod.fst).zip vs, x1, x2, x3, ?_, ?_, ⟨relK_all hT x6, x7, hH.2.2.1, hH.2.2.2.1, hH.2.2.2.2.1, hH.2.2.2.2.2⟩, ?_⟩
    · refine ⟨hlv.1, hlv.2.1, fun q hq => hlv.2.2 q ?_⟩
      obtain ⟨j, hj⟩ := List.getElem?_of_mem hq
      rw [List.getElem?_zip_eq_some] at hj
      obtain ⟨j1, j2⟩ := hj
      rw [List.getElem?_map] at j1
      cases hb : k.1.2.1[j]? with
      | none => rw [hb] at j1; cases j1
      | some w =>
        rw [hb] at j1
        have j1 : some w.1 = some q.1 := j1
        have j3 := Option.some.inj j1
        exact e3 j q.1 w.2 q.2 (by rw [hb, ← j3]) j2
    · refine zf2_of (by simp [e2]) (fun i u y hu hy => ?_)
      rw [List.getElem?_zip_eq_some] at hy
      obtain ⟨y1, y2⟩ := hy
      rw [List.getElem?_map, hu] at y1
      have y1 : some u.1 = some y.1 := y1
      have hpi : (k.1.2.1.map Prod.snd)[i]? = some u.2 := by rw [List.getElem?_map, hu]; rfl
      obtain ⟨w, k1, k2⟩ := zf2_get x4 hpi
      rw [y2] at k1
      cases k1
      exact ⟨Option.some.inj y1, k2, of_decide_eq_true (List.all_eq_true.mp h2 u (List.mem_of_getElem? hu))⟩
    · refine ⟨xs ++ zs, vs ++ fVf k.1.2.2.2.2 es, ?_, x9, ?_⟩
      · unfold pX
        rw [hpk, x8]
      · intro j c v hc hv
        rw [xg, List.getElem?_append_right (by omega), show g0.length + (0 + j) - g0.length = j by omega]
        exact cvs_get hc hv
  · cases h
theorem runW_ok (hx : p.tables.exec = Jvm.exec) (hb : c.code = code) (hr : meth.sig.returnType = ret) (hlocks : meth.locks = false) {T : TB} (hml : c.maxLocals = T.2.1) (hown : s.vm.findClass R_law = some m.cls) (hts : ∀ w ∈ Ts, w.before #[Value.ref b] s = true) (hK : va_K D cl (tysA cA) s) (hN : NOK s) {E : EvK} (hE : EOK E s s.heap) (hA0 : ∀ q : Nat, s.heap.size ≤ q → E.2.2.2 q) {va0 : List Value} (hVK : V.1 = va0 ++ KRof E) (hgood : ∀ w ∈ Ts, GoodIn Ts (w :: Ts)) (hT : TOK R_law cl Ts code T) {CT : CTB2} (hCT : CTOK2 l R_law cl Ts CT) (hcs : cs0 ≤ 600000) (hss : ss0 ≤ 7302250) (hX : va_X b L xs s s.heap) (hbl : b < s.heap.size) (hV : V.1[0]? = some (.ref b)) {XS : List (AV × AV)} {gk : List Int} (hXS : ∀ q ∈ XS, ∀ (g : List Int) (v : Value), gxt gk g → gam g V q.1 v → ∃ X : Int32, v = .int X ∧ vp_in X L ∧ gam g V q.2 (.int (xs X.toNatClampNeg))) {TL : List (Nat × ClassFile.Instr × Nat)} (hTL : ∀ q ∈ TL, decode code q.1 = .ok q.2) {d : Nat} {RF : List (Nat × List POP)} {CX : List (Nat × Nat)} {k : CUT2} (hkT : allT k.1.2.2.2.2 = true) (hkg : ∀ t ∈ k.2.2.1, t.1 < gk.length)
    (hc : ∀ (g : List Int) (lv : List (Nat × Value)) (es : List va_E) (ls : Array Slot) (H : Heap) (locs : List Loc), GS k.1.2.2.2.1 g → RLok k.2.1 g → lv_has ls T.2.1 lv → zf2 (locR g V) k.1.2.1 lv → HS D cl (fun q : Nat => s.heap.size ≤ q) s.heap V cA es0 k.1.2.2.2.2 g es H locs → 0 ≤ rkv2 g k → rkv2 g k < rkv2 gk k → WW p l e room_1 s m #[Value.ref b] below meth c cs0 ss0 (lw_Z below #[Value.ref b] s) H locs (F0 m k.1.1 ls [])) :
    ∀ (f : Nat) (x : ASR), runW TL T d CT RF CX XS (room_1.frames, room_1.locals) k f x = true → WR (WW p l e room_1 s m #[Value.ref b] below meth c cs0 ss0 (lw_Z below #[Value.ref b] s)) m T.2.1 D cl (fun q : Nat => s.heap.size ≤ q) s.heap V cA es0 gk x := by
  intro f
  induction f with
  | zero => intro x h; simp [runW] at h
  | succ f ih =>
    intro x h
    unfold runW at h
    rw [Bool.or_eq_true] at h
    rcases h with h | h
    · intro gs hgs hrl g lv sv es ls H locs h0 hG hlv hl hs hH
      unfold noX at h
      split at h
      · rw [wEnt_eq] at h
        have := ent_ok hG (show RLok (wTk _ _) g from fun c hc => RLok_ext h0 hrl c (wTk_mem hc)) h
        simp [evC, evT] at this
      · cases h
    · split at h
      · simp only [Bool.and_eq_true, wCtW_eq] at h
        intro gs hgs hrl g lv sv es ls H locs h0 hG hlv hl hs hH
        have hrg : RLok x.2 g := RLok_ext h0 hrl
        have hkg' : gxt gk g := gxt_tr hgs h0
        obtain ⟨e1, e2, g', lv', x1, x2, x3, x4, x5, x6, x7⟩ := cutT_ok (g0 := []) hkT (cutWG_ok h.1) ⟨g, rfl⟩ hrg hG hlv hl hs hH
        obtain ⟨ys, vs, y1, y2, y3⟩ := x7
        have hrk := ctW_ok (g0 := []) (gk := gk) hG hrg ⟨g, rfl⟩ x1 y1 y2 y3 hkg' (fun s' hs' t ht => by cases hs'; exact hkg t ht) h.2
        rw [e1, e2]
        exact hc g' lv' es ls H locs x2 x3 x4 x5 x6 hrk.1 (hrk.2 k rfl)
      · split at h
        · cases h
        · rename_i q hq
          have hd : decode code x.1.1 = .ok (q.1, q.2) := hTL (x.1.1, q) (look_mem hq)
          split at h
          · cases h
          · rename_i X hX'
            refine prA_ok hX' (fun y hy => ?_)
            have h2 := List.all_eq_true.mp h y hy
            simp only [Bool.and_eq_true, Bool.or_eq_true, decide_eq_true_eq] at h2
            obtain ⟨h3, h4⟩ := h2
            rw [← h3] at hd
            rcases h4 with h4 | h4
            · intro gs _ _
              exact finL_ok hx hb hr hlocks hcs hss hd h4
            · split at h4
              · rename_i L' hL
                exact stpL_ok hx hb hml hown hts hK hN hE hA0 hVK hgood hT hCT hcs hss hX hbl hV hXS hd hL (fun z hz => ih z (by have := List.all_eq_true.mp h4 z hz; rw [frc_eq] at this; exact this))
              · cases h4
end LAW2
