/-! ===== words, quickly: direct recursors, shared look-ups ===== -/
noncomputable def wAny {α : Type} (f : α → Bool) (l : List α) : Bool := List.rec (motive := fun _ => Bool) false (fun a _ ih => Bool.rec (motive := fun _ => Bool) ih true (f a)) l
theorem wAny_eq {α : Type} {f g : α → Bool} (h : ∀ a, f a = g a) : ∀ {l : List α}, wAny f l = l.any g
  | [] => rfl
  | a :: r => by
    show Bool.rec (motive := fun _ => Bool) (wAny f r) true (f a) = _
    rw [wAny_eq h, h, List.any_cons]
    cases g a <;> rfl
noncomputable def wShr (e c : List (Nat × Int)) : Bool := List.rec (motive := fun _ => Bool) true (fun _ _ _ => wAny (fun t => wAny (fun u => Bool.rec (motive := fun _ => Bool) false (sgn2 t.2 u.2) (Nat.beq t.1 u.1)) c) e) e
theorem wShr_eq {e c : List (Nat × Int)} : wShr e c = shr e c := by
  cases e with
  | nil => rfl
  | cons t r =>
    show wAny (fun t => wAny (fun u => Bool.rec (motive := fun _ => Bool) false (sgn2 t.2 u.2) (Nat.beq t.1 u.1)) c) (t :: r) = (t :: r).any (fun t => c.any (fun u => Nat.beq t.1 u.1 && sgn2 t.2 u.2))
    have h1 : ∀ t u : Nat × Int, Bool.rec (motive := fun _ => Bool) false (sgn2 t.2 u.2) (Nat.beq t.1 u.1) = (Nat.beq t.1 u.1 && sgn2 t.2 u.2) := fun t u => by cases Nat.beq t.1 u.1 <;> rfl
    exact wAny_eq (fun t => wAny_eq (h1 t))
noncomputable def wAd (i : Nat) (c : Int) (ts : List (Nat × Int)) : List (Nat × Int) := List.rec (motive := fun _ => List (Nat × Int)) [(i, c)] (fun t r ih => Bool.rec (motive := fun _ => List (Nat × Int)) (t :: ih) (Bool.rec (motive := fun _ => List (Nat × Int)) ((i, t.2 + c) :: r) r (eqZ (t.2 + c) 0)) (Nat.beq t.1 i)) ts
theorem wAd_eq {i : Nat} {c : Int} : ∀ {ts : List (Nat × Int)}, wAd i c ts = adT i c ts
  | [] => by
    show [(i, c)] = adT i c []
    rw [adT]
  | t :: r => by
    show Bool.rec (motive := fun _ => List (Nat × Int)) (t :: wAd i c r) (Bool.rec (motive := fun _ => List (Nat × Int)) ((i, t.2 + c) :: r) r (eqZ (t.2 + c) 0)) (Nat.beq t.1 i) = _
    rw [wAd_eq, adT]
    cases hb : Nat.beq t.1 i with
    | true =>
      have hc : t.1 = i := Nat.eq_of_beq_eq_true hb
      cases hz : eqZ (t.2 + c) 0 with
      | true => exact ((if_pos hc).trans (if_pos (eqZ_iff.mp hz))).symm
      | false => exact ((if_pos hc).trans (if_neg (fun h => by rw [eqZ_iff.mpr h] at hz; cases hz))).symm
    | false => exact (if_neg (fun h => by rw [Nat.beq_eq.mpr h] at hb; cases hb)).symm
noncomputable def wSb (c : List (Nat × Int)) : List (Nat × Int) → List (Nat × Int) := List.rec (motive := fun _ => List (Nat × Int) → List (Nat × Int)) (fun e => e) (fun t _ ih e => ih (wAd t.1 (-t.2) e)) c
theorem wSb_eq : ∀ {c e : List (Nat × Int)}, wSb c e = sbT e c
  | [], e => by
    show e = sbT e []
    rw [sbT]
  | t :: r, e => by
    show wSb r (wAd t.1 (-t.2) e) = _
    rw [wSb_eq, wAd_eq, sbT]
noncomputable def wSbC (e c : LC) : LC := (wSb c.1 e.1, e.2 - c.2)
theorem wSbC_eq {e c : LC} : wSbC e c = sbC e c := by
  unfold wSbC sbC
  rw [wSb_eq]
noncomputable def wLb (G : GI) (ts : List (Nat × Int)) : Option Int := List.rec (motive := fun _ => Option Int) (some 0) (fun t _ ih => Option.rec (motive := fun _ => Option Int) none (fun q => Option.rec (motive := fun _ => Option Int) none (fun z => some (Bool.rec (motive := fun _ => Int) (t.2 * q.2) (t.2 * q.1) (leZ 0 t.2) + z)) ih) (nthG G t.1)) ts
theorem wLb_eq {G : GI} : ∀ {ts : List (Nat × Int)}, wLb G ts = lbT G ts
  | [] => by
    show some 0 = lbT G []
    rw [lbT]
  | t :: r => by
    show Option.rec (motive := fun _ => Option Int) none (fun q => Option.rec (motive := fun _ => Option Int) none (fun z => some (Bool.rec (motive := fun _ => Int) (t.2 * q.2) (t.2 * q.1) (leZ 0 t.2) + z)) (wLb G r)) (nthG G t.1) = _
    rw [wLb_eq, lbT]
    cases nthG G t.1 with
    | none => cases lbT G r <;> rfl
    | some q =>
      cases lbT G r with
      | none => rfl
      | some z =>
        cases hl : leZ 0 t.2 with
        | true => exact congrArg (fun y => some (y + z)) (if_pos (leZ_iff.mp hl)).symm
        | false => exact congrArg (fun y => some (y + z)) (if_neg (fun h => by rw [leZ_iff.mpr h] at hl; cases hl)).symm
noncomputable def wNn (G : GI) (e : LC) : Bool := Option.rec (motive := fun _ => Bool) false (fun z => leZ 0 (z + e.2)) (wLb G e.1)
theorem wNn_eq {G : GI} {e : LC} : wNn G e = nnI G e := by
  unfold wNn nnI
  rw [wLb_eq]
  cases lbT G e.1 with
  | none => rfl
  | some z =>
    show leZ 0 (z + e.2) = decide (0 ≤ z + e.2)
    exact Bool.eq_iff_iff.mpr ⟨fun h => decide_eq_true (leZ_iff.mp h), fun h => leZ_iff.mpr (of_decide_eq_true h)⟩
/-- they begin with the same name -/
noncomputable def wSame (e c : List (Nat × Int)) : Bool := List.rec (motive := fun _ => Bool) false (fun t _ _ => List.rec (motive := fun _ => Bool) false (fun u _ _ => Nat.beq t.1 u.1) c) e
noncomputable def wEnt (G : GI) (r : RLs) (d : Nat) : LC → Bool := Nat.rec (motive := fun _ => LC → Bool) (fun e => wNn G e) (fun _ ih e => Bool.rec (motive := fun _ => Bool) (Bool.rec (motive := fun _ => Bool) (wAny (fun c => Bool.rec (motive := fun _ => Bool) false (ih (wSbC e c)) (wShr e.1 c.1)) r) true (wAny (fun c => Bool.rec (motive := fun _ => Bool) false (Bool.rec (motive := fun _ => Bool) false (ih (wSbC e c)) (wShr e.1 c.1)) (wSame e.1 c.1)) r)) true (wNn G e)) d
theorem wEnt_eq {G : GI} {r : RLs} : ∀ {d : Nat} {e : LC}, wEnt G r d e = ent d G r e
  | 0, e => by
    show wNn G e = _
    unfold ent
    exact wNn_eq
  | d + 1, e => by
    have hF : ∀ c : LC, Bool.rec (motive := fun _ => Bool) false (wEnt G r d (wSbC e c)) (wShr e.1 c.1) = (shr e.1 c.1 && ent d G r (sbC e c)) := fun c => by
      rw [wEnt_eq (d := d), wShr_eq, wSbC_eq]
      cases shr e.1 c.1 <;> rfl
    have hA : wAny (fun c => Bool.rec (motive := fun _ => Bool) false (wEnt G r d (wSbC e c)) (wShr e.1 c.1)) r = r.any (fun c => shr e.1 c.1 && ent d G r (sbC e c)) := wAny_eq hF
    have hS : ∀ c : LC, Bool.rec (motive := fun _ => Bool) false (Bool.rec (motive := fun _ => Bool) false (wEnt G r d (wSbC e c)) (wShr e.1 c.1)) (wSame e.1 c.1) = (wSame e.1 c.1 && (shr e.1 c.1 && ent d G r (sbC e c))) := fun c => by
      rw [hF]
      cases wSame e.1 c.1 <;> rfl
    have hB : wAny (fun c => Bool.rec (motive := fun _ => Bool) false (Bool.rec (motive := fun _ => Bool) false (wEnt G r d (wSbC e c)) (wShr e.1 c.1)) (wSame e.1 c.1)) r = r.any (fun c => wSame e.1 c.1 && (shr e.1 c.1 && ent d G r (sbC e c))) := wAny_eq hS
    have hH : wAny (fun c => Bool.rec (motive := fun _ => Bool) false (Bool.rec (motive := fun _ => Bool) false (wEnt G r d (wSbC e c)) (wShr e.1 c.1)) (wSame e.1 c.1)) r = true → r.any (fun c => shr e.1 c.1 && ent d G r (sbC e c)) = true := fun h => by
      rw [hB] at h
      obtain ⟨c, hc, h2⟩ := List.any_eq_true.mp h
      rw [Bool.and_eq_true] at h2
      exact List.any_eq_true.mpr ⟨c, hc, h2.2⟩
    show Bool.rec (motive := fun _ => Bool) (Bool.rec (motive := fun _ => Bool) (wAny (fun c => Bool.rec (motive := fun _ => Bool) false (wEnt G r d (wSbC e c)) (wShr e.1 c.1)) r) true (wAny (fun c => Bool.rec (motive := fun _ => Bool) false (Bool.rec (motive := fun _ => Bool) false (wEnt G r d (wSbC e c)) (wShr e.1 c.1)) (wSame e.1 c.1)) r)) true (wNn G e) = _
    unfold ent
    rw [wNn_eq, hA]
    cases nnI G e with
    | true => rfl
    | false =>
      rw [Bool.false_or]
      cases hw : wAny (fun c => Bool.rec (motive := fun _ => Bool) false (Bool.rec (motive := fun _ => Bool) false (wEnt G r d (wSbC e c)) (wShr e.1 c.1)) (wSame e.1 c.1)) r with
      | true => exact (hH hw).symm
      | false => rfl
/-- a name's value put in -/
noncomputable def wX (t : Nat × Int) (w : LC) (x : AV) : Option LC := Bool.rec (motive := fun _ => Option LC) (Bool.rec (motive := fun _ => Option LC) none (some (w.1, w.2 + t.2 * x.2.1)) (Nat.beq x.1 0 || Nat.beq x.1 3)) (some (wAd x.2.1.toNat t.2 w.1, w.2 + t.2 * x.2.2)) (Nat.beq x.1 1 || Nat.beq x.1 4)
noncomputable def w14 (c : AV) : Bool := Nat.beq c.1 1 || Nat.beq c.1 4
theorem w14_iff {c : AV} : w14 c = true ↔ c.1 = 1 ∨ c.1 = 4 := by
  unfold w14
  rw [Bool.or_eq_true, Nat.beq_eq, Nat.beq_eq]
noncomputable def wTrT (cv xv : List AV) (ts : List (Nat × Int)) : Option LC := List.rec (motive := fun _ => Option LC) (some ([], 0)) (fun t _ ih => Option.rec (motive := fun _ => Option LC) none (fun w => Option.rec (motive := fun _ => Option LC) none (fun c => Option.rec (motive := fun _ => Option LC) none (fun x => Bool.rec (motive := fun _ => Option LC) none (wX t w x) (w14 c)) (nthG xv t.1)) (nthG cv t.1)) ih) ts
theorem wTrT_eq {cv xv : List AV} : ∀ {ts : List (Nat × Int)}, wTrT cv xv ts = trT cv xv ts
  | [] => by
    show some ([], 0) = trT cv xv []
    rw [trT]
  | t :: r => by
    show Option.rec (motive := fun _ => Option LC) none (fun w => Option.rec (motive := fun _ => Option LC) none (fun c => Option.rec (motive := fun _ => Option LC) none (fun x => Bool.rec (motive := fun _ => Option LC) none (wX t w x) (w14 c)) (nthG xv t.1)) (nthG cv t.1)) (wTrT cv xv r) = _
    rw [wTrT_eq, nthG_eq, nthG_eq, trT]
    cases trT cv xv r with
    | none => rfl
    | some w =>
      cases cv[t.1]? with
      | none => rfl
      | some c =>
        cases xv[t.1]? with
        | none => rfl
        | some x =>
          show Bool.rec (motive := fun _ => Option LC) none (wX t w x) (w14 c) = _
          cases hc : w14 c with
          | false => exact (if_neg (fun h => by rw [w14_iff.mpr h] at hc; cases hc)).symm
          | true =>
            refine Eq.trans ?_ (if_pos (w14_iff.mp hc)).symm
            show wX t w x = _
            unfold wX
            rw [wAd_eq]
            obtain ⟨xt, b, e⟩ := x
            rcases xt with _ | _ | _ | _ | _ | n <;> first | rfl | simp
theorem trT_lt {cv xv : List AV} : ∀ {ts : List (Nat × Int)} {w : LC}, trT cv xv ts = some w → ts.all (fun t => decide (t.1 < cv.length)) = true
  | [], w, _ => rfl
  | t :: r, w, h => by
    unfold trT at h
    split at h
    · rename_i w' c x h1 h2 h3
      rw [List.all_cons, trT_lt h1, Bool.and_true]
      exact decide_eq_true (List.getElem?_eq_some_iff.mp h2).1
    · cases h
noncomputable def wTrL (cv xv : List AV) (c : LC) : Option LC := Option.rec (motive := fun _ => Option LC) none (fun w => some (w.1, w.2 + c.2)) (wTrT cv xv c.1)
theorem wTrL_eq {cv xv : List AV} {c : LC} : wTrL cv xv c = trL cv xv c := by
  unfold wTrL trL
  rw [wTrT_eq]
  cases trT cv xv c.1 <;> rfl
noncomputable def wTrLs (cv xv : List AV) (r : RLs) : RLs := List.rec (motive := fun _ => RLs) [] (fun c _ ih => Option.rec (motive := fun _ => RLs) ih (fun w => w :: ih) (wTrL cv xv c)) r
theorem wTrLs_eq {cv xv : List AV} : ∀ {r : RLs}, wTrLs cv xv r = trLs cv xv r
  | [] => rfl
  | c :: r => by
    show Option.rec (motive := fun _ => RLs) (wTrLs cv xv r) (fun w => w :: wTrLs cv xv r) (wTrL cv xv c) = List.filterMap (trL cv xv) (c :: r)
    rw [wTrL_eq, wTrLs_eq, List.filterMap_cons]
    cases trL cv xv c <;> rfl
noncomputable def wEnL (d : Nat) (G : GI) (r : RLs) (cv xv : List AV) (q : RLs) : Bool := allQ (fun c => Option.rec (motive := fun _ => Bool) false (fun w => wEnt G r d w) (wTrL cv xv c)) q
theorem wEnL_eq {d : Nat} {G : GI} {r : RLs} {cv xv : List AV} {q : RLs} : wEnL d G r cv xv q = enL d G r cv xv q := by
  unfold wEnL enL
  refine allQ_eq (fun c => ?_)
  rw [wTrL_eq]
  cases ht : trL cv xv c with
  | none =>
    show false = (c.1.all (fun t => decide (t.1 < cv.length)) && false)
    rw [Bool.and_false]
  | some w =>
    have h1 : c.1.all (fun t => decide (t.1 < cv.length)) = true := by
      unfold trL at ht
      split at ht
      · rename_i u hu
        exact trT_lt hu
      · cases ht
    show wEnt G r d w = (c.1.all (fun t => decide (t.1 < cv.length)) && ent d G r w)
    rw [h1, wEnt_eq, Bool.true_and]
noncomputable def wTrN (n0 : Nat) (PB xs : List AV) (ts : List (Nat × Int)) : Option LC := List.rec (motive := fun _ => Option LC) (some ([], 0)) (fun t _ ih => Option.rec (motive := fun _ => Option LC) none (fun w => Bool.rec (motive := fun _ => Option LC) (Option.rec (motive := fun _ => Option LC) none (fun c => Option.rec (motive := fun _ => Option LC) none (fun x => Bool.rec (motive := fun _ => Option LC) none (Bool.rec (motive := fun _ => Option LC) none (wX t w x) (Nat.ble n0 c.2.1.toNat)) (w14 c)) (nthG xs (t.1 - n0))) (nthG PB (t.1 - n0))) (some (wAd t.1 t.2 w.1, w.2)) (Nat.ble (t.1 + 1) n0)) ih) ts
theorem wTrN_eq {n0 : Nat} {PB xs : List AV} : ∀ {ts : List (Nat × Int)}, wTrN n0 PB xs ts = trN n0 PB xs ts
  | [] => by
    show some ([], 0) = trN n0 PB xs []
    rw [trN]
  | t :: r => by
    show Option.rec (motive := fun _ => Option LC) none (fun w => Bool.rec (motive := fun _ => Option LC) (Option.rec (motive := fun _ => Option LC) none (fun c => Option.rec (motive := fun _ => Option LC) none (fun x => Bool.rec (motive := fun _ => Option LC) none (Bool.rec (motive := fun _ => Option LC) none (wX t w x) (Nat.ble n0 c.2.1.toNat)) (w14 c)) (nthG xs (t.1 - n0))) (nthG PB (t.1 - n0))) (some (wAd t.1 t.2 w.1, w.2)) (Nat.ble (t.1 + 1) n0)) (wTrN n0 PB xs r) = _
    rw [wTrN_eq, nthG_eq, nthG_eq, trN]
    cases trN n0 PB xs r with
    | none => rfl
    | some w =>
      cases hb : Nat.ble (t.1 + 1) n0 with
      | true =>
        show some (wAd t.1 t.2 w.1, w.2) = _
        rw [wAd_eq]
        exact (if_pos (Nat.le_of_ble_eq_true hb)).symm
      | false =>
        have hn0 : ¬ t.1 < n0 := fun h => by
          have h2 : Nat.ble (t.1 + 1) n0 = true := by rw [Nat.ble_eq]; exact h
          rw [h2] at hb
          cases hb
        refine Eq.trans ?_ (if_neg hn0).symm
        cases PB[t.1 - n0]? with
        | none => rfl
        | some c =>
          cases xs[t.1 - n0]? with
          | none => rfl
          | some x =>
            show Bool.rec (motive := fun _ => Option LC) none (Bool.rec (motive := fun _ => Option LC) none (wX t w x) (Nat.ble n0 c.2.1.toNat)) (w14 c) = _
            cases hc : w14 c with
            | false => exact (if_neg (fun h => by rw [w14_iff.mpr h.1] at hc; cases hc)).symm
            | true =>
              cases hn : Nat.ble n0 c.2.1.toNat with
              | false =>
                refine (if_neg (fun h => ?_)).symm
                have h2 : Nat.ble n0 c.2.1.toNat = true := by rw [Nat.ble_eq]; exact Nat.le_of_not_lt h.2
                rw [h2] at hn
                cases hn
              | true =>
                refine Eq.trans ?_ (if_pos ⟨w14_iff.mp hc, Nat.not_lt.mpr (Nat.le_of_ble_eq_true hn)⟩).symm
                show wX t w x = _
                unfold wX
                rw [wAd_eq]
                obtain ⟨xt, b, e⟩ := x
                rcases xt with _ | _ | _ | _ | _ | n <;> first | rfl | simp
theorem trN_lt {n0 : Nat} {PB xs : List AV} : ∀ {ts : List (Nat × Int)} {w : LC}, trN n0 PB xs ts = some w → ts.all (fun t => decide (t.1 < n0 + PB.length)) = true
  | [], w, _ => rfl
  | t :: r, w, h => by
    unfold trN at h
    split at h
    · cases h
    · rename_i w' h1
      rw [List.all_cons, trN_lt h1, Bool.and_true]
      refine decide_eq_true ?_
      split at h
      · omega
      · split at h
        · rename_i c x h2 h3
          have := (List.getElem?_eq_some_iff.mp h2).1
          omega
        · cases h
noncomputable def wEnN (d n0 : Nat) (G : GI) (r : RLs) (PB xs : List AV) (q : RLs) : Bool := allQ (fun c => Option.rec (motive := fun _ => Bool) false (fun w => wEnt G r d (w.1, w.2 + c.2)) (wTrN n0 PB xs c.1)) q
theorem wEnN_eq {d n0 : Nat} {G : GI} {r : RLs} {PB xs : List AV} {q : RLs} : wEnN d n0 G r PB xs q = enN d n0 G r PB xs q := by
  unfold wEnN enN
  refine allQ_eq (fun c => ?_)
  rw [wTrN_eq]
  cases ht : trN n0 PB xs c.1 with
  | none =>
    show false = (c.1.all (fun t => decide (t.1 < n0 + PB.length)) && false)
    rw [Bool.and_false]
  | some w =>
    show wEnt G r d (w.1, w.2 + c.2) = (c.1.all (fun t => decide (t.1 < n0 + PB.length)) && ent d G r (w.1, w.2 + c.2))
    rw [trN_lt ht, wEnt_eq, Bool.true_and]
noncomputable def wPX (a b : AS) : Option (List AV) := Option.rec (motive := fun _ => Option (List AV)) none (fun xs => Option.rec (motive := fun _ => Option (List AV)) none (fun zs => some (appG xs zs)) (fXfQ b.2.2.2.2 a.2.2.2.2)) (pkL a.2.1 b.2.1)
theorem wPX_eq {a b : AS} : wPX a b = pX a b := by
  unfold wPX pX
  rw [fXfQ_eq]
  cases pkL a.2.1 b.2.1 with
  | none => rfl
  | some xs =>
    cases fXf b.2.2.2.2 a.2.2.2.2 with
    | none => rfl
    | some zs => exact congrArg some appG_eq
noncomputable def wCtW (d n0 : Nat) (x : ASR) (src : Option CUT2) (k : CUT2) : Bool := Option.rec (motive := fun _ => Bool) false (fun xs => Option.rec (motive := fun _ => Bool) false (fun w => Bool.rec (motive := fun _ => Bool) false (Option.rec (motive := fun _ => Bool) true (fun s => wEnt x.1.2.2.2.1 x.2 d (sbC (sbC s.2.2 (w.1, w.2 + k.2.2.2)) ([], 1))) src) (wEnt x.1.2.2.2.1 x.2 d (w.1, w.2 + k.2.2.2))) (wTrN n0 (pB k.1) xs k.2.2.1)) (wPX x.1 k.1)
theorem wCtW_eq {d n0 : Nat} {x : ASR} {src : Option CUT2} {k : CUT2} : wCtW d n0 x src k = ctW d n0 x src k := by
  unfold wCtW ctW
  rw [wPX_eq]
  cases pX x.1 k.1 with
  | none => rfl
  | some xs =>
    show Option.rec (motive := fun _ => Bool) false (fun w => Bool.rec (motive := fun _ => Bool) false (Option.rec (motive := fun _ => Bool) true (fun s => wEnt x.1.2.2.2.1 x.2 d (sbC (sbC s.2.2 (w.1, w.2 + k.2.2.2)) ([], 1))) src) (wEnt x.1.2.2.2.1 x.2 d (w.1, w.2 + k.2.2.2))) (wTrN n0 (pB k.1) xs k.2.2.1) = (match trN n0 (pB k.1) xs k.2.2.1 with
      | none => false
      | some w => ent d x.1.2.2.2.1 x.2 (w.1, w.2 + k.2.2.2) && (match src with
        | none => true
        | some s => ent d x.1.2.2.2.1 x.2 (sbC (sbC s.2.2 (w.1, w.2 + k.2.2.2)) ([], 1))))
    rw [wTrN_eq]
    cases trN n0 (pB k.1) xs k.2.2.1 with
    | none => rfl
    | some w =>
      cases src with
      | none =>
        show Bool.rec (motive := fun _ => Bool) false true (wEnt x.1.2.2.2.1 x.2 d (w.1, w.2 + k.2.2.2)) = (ent d x.1.2.2.2.1 x.2 (w.1, w.2 + k.2.2.2) && true)
        rw [wEnt_eq]
        cases ent d x.1.2.2.2.1 x.2 (w.1, w.2 + k.2.2.2) <;> rfl
      | some s =>
        show Bool.rec (motive := fun _ => Bool) false (wEnt x.1.2.2.2.1 x.2 d (sbC (sbC s.2.2 (w.1, w.2 + k.2.2.2)) ([], 1))) (wEnt x.1.2.2.2.1 x.2 d (w.1, w.2 + k.2.2.2)) = (ent d x.1.2.2.2.1 x.2 (w.1, w.2 + k.2.2.2) && ent d x.1.2.2.2.1 x.2 (sbC (sbC s.2.2 (w.1, w.2 + k.2.2.2)) ([], 1)))
        rw [wEnt_eq, wEnt_eq]
        cases ent d x.1.2.2.2.1 x.2 (w.1, w.2 + k.2.2.2) <;> rfl
/-- the first ones of a list -/
noncomputable def wTk {α : Type} (l : List α) : Nat → List α := List.rec (motive := fun _ => Nat → List α) (fun _ => []) (fun a _ ih n => Nat.rec (motive := fun _ => List α) [] (fun m _ => a :: ih m) n) l
theorem wTk_eq {α : Type} : ∀ {l : List α} {n : Nat}, wTk l n = l.take n
  | [], n => by cases n <;> rfl
  | _ :: _, 0 => rfl
  | a :: r, n + 1 => congrArg (fun z => a :: z) (wTk_eq (l := r) (n := n))
theorem wTk_mem {α : Type} {l : List α} {n : Nat} {c : α} (h : c ∈ wTk l n) : c ∈ l := by
  rw [wTk_eq] at h
  exact List.mem_of_mem_take h
