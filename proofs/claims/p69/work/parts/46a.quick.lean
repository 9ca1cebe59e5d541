/-! ===== the same functions, quicker for the kernel: direct recursion, lists walked once ===== -/
noncomputable def ivIG (G : GI) (a : AV) : Option (Int × Int) := ivI G a
theorem ivIG_eq {G : GI} {a : AV} : ivIG G a = ivI G a := rfl
/-- 0 lies there -/
noncomputable def zinG (r : Option (Int × Int)) : Bool := Option.rec (motive := fun _ => Bool) false (fun q => leZ q.1 0 && leZ 0 q.2) r
theorem zinG_iff {r : Option (Int × Int)} : zinG r = true ↔ ∃ q, r = some q ∧ q.1 ≤ 0 ∧ 0 ≤ q.2 := by
  cases r with
  | none =>
    constructor
    · intro h; cases h
    · rintro ⟨q, h, -⟩; cases h
  | some q =>
    show (leZ q.1 0 && leZ 0 q.2) = true ↔ _
    rw [Bool.and_eq_true, leZ_iff, leZ_iff]
    constructor
    · intro h; exact ⟨q, rfl, h⟩
    · rintro ⟨q', h, h2⟩; cases h; exact h2
noncomputable def inG (o : Option (Int × Int)) (r : Option (Int × Int)) : Bool := Option.rec (motive := fun _ => Bool) false (fun q => Option.rec (motive := fun _ => Bool) false (fun r => leZ r.1 q.1 && leZ q.2 r.2) r) o
/-! matching at a call -/
noncomputable def mtG (σ : List Nat) (G Gc : GI) (r : Option (Int × Int)) (p : Nat) (c x : AV) : Bool := Bool.rec (motive := fun _ => Bool)
  (Bool.rec (motive := fun _ => Bool) (mt1 σ G Gc p c x) (eqZ c.2.1 (Int.ofNat p) && (eqZ c.2.2 (Int.ofNat 0) && inG (ivIG G x) r)) (Nat.beq c.1 1))
  (eqZ c.2.1 (Int.ofNat p) && zinG r) (Nat.beq c.1 8)
theorem mtG_ok {σ : List Nat} {G Gc : GI} {r : Option (Int × Int)} {p : Nat} {c x : AV} (hr : r = Gc[p]?) (h : mtG σ G Gc r p c x = true) : mt1 σ G Gc p c x = true := by
  obtain ⟨t, c1, c2⟩ := c
  unfold mtG at h
  cases h8 : Nat.beq t 8 with
  | true =>
    have h8' : t = 8 := Nat.beq_eq.mp h8
    subst h8'
    have h : (eqZ c1 (Int.ofNat p) && zinG r) = true := h
    rw [Bool.and_eq_true, eqZ_iff, zinG_iff] at h
    obtain ⟨h1, q, h2, h3⟩ := h
    show (decide (c1 = (p : Int)) && zin Gc p) = true
    rw [Bool.and_eq_true]
    refine ⟨decide_eq_true h1, ?_⟩
    unfold zin
    rw [nthG_eq, ← hr, h2]
    exact decide_eq_true h3
  | false =>
    cases h1 : Nat.beq t 1 with
    | true =>
      have h1' : t = 1 := Nat.beq_eq.mp h1
      subst h1'
      have h : (eqZ c1 (Int.ofNat p) && (eqZ c2 (Int.ofNat 0) && inG (ivIG G x) r)) = true := h
      rw [Bool.and_eq_true, Bool.and_eq_true, eqZ_iff, eqZ_iff] at h
      obtain ⟨e1, e2, e3⟩ := h
      show (decide (c1 = (p : Int) ∧ c2 = 0) && (match ivI G x, nthG Gc p with
        | some q, some r => decide (r.1 ≤ q.1 ∧ q.2 ≤ r.2)
        | _, _ => false)) = true
      rw [Bool.and_eq_true]
      refine ⟨decide_eq_true ⟨e1, e2⟩, ?_⟩
      rw [ivIG_eq] at e3
      rw [nthG_eq, ← hr]
      cases hq : ivI G x with
      | none => rw [hq] at e3; cases e3
      | some q =>
        rw [hq] at e3
        cases r with
        | none => cases e3
        | some r =>
          have e3 : (leZ r.1 q.1 && leZ q.2 r.2) = true := e3
          rw [Bool.and_eq_true, leZ_iff, leZ_iff] at e3
          exact decide_eq_true e3
    | false =>
      have h : Bool.rec (motive := fun _ => Bool) (Bool.rec (motive := fun _ => Bool) (mt1 σ G Gc p (t, c1, c2) x) _ (Nat.beq t 1)) _ (Nat.beq t 8) = true := h
      rw [h8, h1] at h
      exact h
noncomputable def mtcG (σ : List Nat) (G Gc : GI) (cs : List AV) : Nat → List AV → GI → Bool := List.rec (motive := fun _ => Nat → List AV → GI → Bool) (fun _ xs _ => List.rec (motive := fun _ => Bool) true (fun _ _ _ => false) xs)
  (fun c _ ih p xs rs => List.rec (motive := fun _ => Bool) false (fun x xs' _ => mtG σ G Gc (hdG rs) p c x && ih (Nat.succ p) xs' (tlG rs)) xs) cs
theorem mtcG_ok {σ : List Nat} {G Gc : GI} : ∀ {cs : List AV} {p : Nat} {xs : List AV} {rs : GI}, rs = Gc.drop p → mtcG σ G Gc cs p xs rs = true → mtc σ G Gc p cs xs = true
  | [], p, [], rs, _, _ => by unfold mtc; rfl
  | [], p, _ :: _, rs, _, h => by cases h
  | _ :: _, p, [], rs, _, h => by cases h
  | c :: cs, p, x :: xs, rs, hr, h => by
    have h : (mtG σ G Gc (hdG rs) p c x && mtcG σ G Gc cs (Nat.succ p) xs (tlG rs)) = true := h
    rw [Bool.and_eq_true] at h
    unfold mtc
    rw [Bool.and_eq_true]
    exact ⟨mtG_ok (by rw [hr, hdG_drop]) h.1, mtcG_ok (by rw [hr, tlG_drop]) h.2⟩
noncomputable def mtC2G (σ : List Nat) (G Gc : GI) (cs : List AC) : Nat → List AC → GI → Bool := List.rec (motive := fun _ => Nat → List AC → GI → Bool) (fun _ xs _ => List.rec (motive := fun _ => Bool) true (fun _ _ _ => false) xs)
  (fun c _ ih p xs rs => List.rec (motive := fun _ => Bool) false (fun x xs' _ => Option.rec (motive := fun _ => Bool) false (fun ys => kndC G c x && mtcG σ G Gc (fA c) p ys rs) (fX c x) && ih (p + lenG (fA c)) xs' (drpG rs (lenG (fA c)))) xs) cs
theorem mtC2G_ok {σ : List Nat} {G Gc : GI} : ∀ {cs : List AC} {p : Nat} {xs : List AC} {rs : GI}, rs = Gc.drop p → mtC2G σ G Gc cs p xs rs = true → mtC2 σ G Gc p cs xs = true
  | [], p, [], rs, _, _ => by unfold mtC2; rfl
  | [], p, _ :: _, rs, _, h => by cases h
  | _ :: _, p, [], rs, _, h => by cases h
  | c :: cs, p, x :: xs, rs, hr, h => by
    have h : (Option.rec (motive := fun _ => Bool) false (fun ys => kndC G c x && mtcG σ G Gc (fA c) p ys rs) (fX c x) && mtC2G σ G Gc cs (p + lenG (fA c)) xs (drpG rs (lenG (fA c)))) = true := h
    rw [Bool.and_eq_true] at h
    obtain ⟨h1, h2⟩ := h
    unfold mtC2
    rw [Bool.and_eq_true]
    refine ⟨?_, ?_⟩
    · cases hf : fX c x with
      | none => rw [hf] at h1; cases h1
      | some ys =>
        rw [hf] at h1
        have h1 : (kndC G c x && mtcG σ G Gc (fA c) p ys rs) = true := h1
        rw [Bool.and_eq_true] at h1
        show (kndC G c x && mtc σ G Gc p (fA c) ys) = true
        rw [Bool.and_eq_true]
        exact ⟨h1.1, mtcG_ok hr h1.2⟩
    · rw [lenG_eq] at h2
      exact mtC2G_ok (by rw [hr, drpG_eq, List.drop_drop]) h2
/-! what comes back -/
noncomputable def trVG (σ : List Nat) (cv xv : List AV) (a : AV) : Option AV := Bool.rec (motive := fun _ => Option AV) (trV σ cv xv a)
  (Option.rec (motive := fun _ => Option AV) none (fun c => Option.rec (motive := fun _ => Option AV) none (fun x => Bool.rec (motive := fun _ => Option AV) none (bas x a.2.2 0) (Nat.beq c.1 1 || Nat.beq c.1 4)) (nthG xv a.2.1.toNat)) (nthG cv a.2.1.toNat)) (Nat.beq a.1 1)
theorem trVG_eq {σ : List Nat} {cv xv : List AV} {a : AV} : trVG σ cv xv a = trV σ cv xv a := by
  obtain ⟨t, b, c⟩ := a
  unfold trVG
  cases h : Nat.beq t 1 with
  | false => rfl
  | true =>
    have h1 : t = 1 := Nat.beq_eq.mp h
    subst h1
    show Option.rec (motive := fun _ => Option AV) none (fun c' => Option.rec (motive := fun _ => Option AV) none (fun x => Bool.rec (motive := fun _ => Option AV) none (bas x c 0) (Nat.beq c'.1 1 || Nat.beq c'.1 4)) (nthG xv b.toNat)) (nthG cv b.toNat) = (match cv[b.toNat]?, xv[b.toNat]? with
      | some c', some x => if c'.1 = 1 ∨ c'.1 = 4 then bas x c 0 else none
      | _, _ => none)
    rw [nthG_eq, nthG_eq]
    cases hc : cv[b.toNat]? with
    | none => rfl
    | some c' =>
      cases hx : xv[b.toNat]? with
      | none => rfl
      | some x =>
        show Bool.rec (motive := fun _ => Option AV) none (bas x c 0) (Nat.beq c'.1 1 || Nat.beq c'.1 4) = (if c'.1 = 1 ∨ c'.1 = 4 then bas x c 0 else none)
        by_cases hq : c'.1 = 1 ∨ c'.1 = 4
        · rw [if_pos hq, show (Nat.beq c'.1 1 || Nat.beq c'.1 4) = true by rw [Bool.or_eq_true, Nat.beq_eq, Nat.beq_eq]; exact hq]
        · rw [if_neg hq]
          cases hb : (Nat.beq c'.1 1 || Nat.beq c'.1 4) with
          | false => rfl
          | true => rw [Bool.or_eq_true, Nat.beq_eq, Nat.beq_eq] at hb; exact absurd hb hq
/-- a field as it was, its place at hand -/
noncomputable def tr8 (σ : List Nat) (cv xv : List AV) (p : Nat) (oc ox : Option AV) (a : AV) : Option AV := Bool.rec (motive := fun _ => Option AV) (trVG σ cv xv a)
  (Option.rec (motive := fun _ => Option AV) none (fun c => Bool.rec (motive := fun _ => Option AV) none ox (Nat.beq c.1 8)) oc) (Nat.beq a.1 8 && eqZ a.2.1 (Int.ofNat p))
theorem tr8_eq {σ : List Nat} {cv xv : List AV} {p : Nat} {oc ox : Option AV} {a : AV} (hc : oc = cv[p]?) (hx : ox = xv[p]?) : tr8 σ cv xv p oc ox a = trV σ cv xv a := by
  obtain ⟨t, b, c⟩ := a
  unfold tr8
  cases h : (Nat.beq t 8 && eqZ b (Int.ofNat p)) with
  | false =>
    exact trVG_eq
  | true =>
    rw [Bool.and_eq_true, Nat.beq_eq, eqZ_iff] at h
    obtain ⟨h1, h2⟩ := h
    subst h1; subst h2
    show Option.rec (motive := fun _ => Option AV) none (fun c => Bool.rec (motive := fun _ => Option AV) none ox (Nat.beq c.1 8)) oc = (match cv[p]? with
      | some c' => if c'.1 = 8 then xv[p]? else none
      | none => none)
    rw [hc, hx]
    cases cv[p]? with
    | none => rfl
    | some c' =>
      show Bool.rec (motive := fun _ => Option AV) none xv[p]? (Nat.beq c'.1 8) = (if c'.1 = 8 then xv[p]? else none)
      by_cases hq : c'.1 = 8
      · rw [if_pos hq, Nat.beq_eq.mpr hq]
      · rw [if_neg hq]
        cases hb : Nat.beq c'.1 8 with
        | false => rfl
        | true => exact absurd (Nat.beq_eq.mp hb) hq
noncomputable def trFG (σ : List Nat) (cv xv : List AV) (as : List AV) : Nat → List AV → List AV → Option (List AV) := List.rec (motive := fun _ => Nat → List AV → List AV → Option (List AV)) (fun _ _ _ => some [])
  (fun a _ ih p cs xs => Option.rec (motive := fun _ => Option (List AV)) none (fun b => Option.rec (motive := fun _ => Option (List AV)) none (fun s => some (b :: s)) (ih (Nat.succ p) (tlG cs) (tlG xs))) (tr8 σ cv xv p (hdG cs) (hdG xs) a)) as
theorem trFG_eq {σ : List Nat} {cv xv : List AV} : ∀ {as : List AV} {p : Nat} {cs xs : List AV}, cs = cv.drop p → xs = xv.drop p → trFG σ cv xv as p cs xs = trF σ cv xv as
  | [], _, _, _, _, _ => by unfold trF; rfl
  | a :: as, p, cs, xs, hc, hx => by
    have ih := trFG_eq (σ := σ) (cv := cv) (xv := xv) (as := as) (p := p + 1) (cs := tlG cs) (xs := tlG xs) (by rw [hc, tlG_drop]) (by rw [hx, tlG_drop])
    show Option.rec (motive := fun _ => Option (List AV)) none (fun b => Option.rec (motive := fun _ => Option (List AV)) none (fun s => some (b :: s)) (trFG σ cv xv as (p + 1) (tlG cs) (tlG xs))) (tr8 σ cv xv p (hdG cs) (hdG xs) a) = _
    have e : trF σ cv xv (a :: as) = (match trV σ cv xv a, trF σ cv xv as with
      | some b, some s => some (b :: s)
      | _, _ => none) := by
      rw [trF]
      rfl
    rw [ih, tr8_eq (by rw [hc, hdG_drop]) (by rw [hx, hdG_drop]), e]
    cases trV σ cv xv a with
    | none => rfl
    | some b => cases trF σ cv xv as <;> rfl
noncomputable def trSG (σ : List Nat) (cv xv : List AV) (sg : List (Nat × AV)) : Option (List (Nat × AV)) := List.rec (motive := fun _ => Option (List (Nat × AV))) (some [])
  (fun q _ ih => Option.rec (motive := fun _ => Option (List (Nat × AV))) none (fun b => Option.rec (motive := fun _ => Option (List (Nat × AV))) none (fun s => some ((q.1, b) :: s)) ih) (trVG σ cv xv q.2)) sg
theorem trSG_eq {σ : List Nat} {cv xv : List AV} : ∀ {sg : List (Nat × AV)}, trSG σ cv xv sg = trS σ cv xv sg
  | [] => by unfold trS; rfl
  | q :: r => by
    show Option.rec (motive := fun _ => Option (List (Nat × AV))) none (fun b => Option.rec (motive := fun _ => Option (List (Nat × AV))) none (fun s => some ((q.1, b) :: s)) (trSG σ cv xv r)) (trVG σ cv xv q.2) = _
    have e : trS σ cv xv (q :: r) = (match trV σ cv xv q.2, trS σ cv xv r with
      | some b, some s => some ((q.1, b) :: s)
      | _, _ => none) := by
      rw [trS]
      rfl
    rw [trSG_eq, trVG_eq, e]
    cases trV σ cv xv q.2 with
    | none => rfl
    | some b => cases trS σ cv xv r <;> rfl
noncomputable def trH2G (σ : List Nat) (cv xv : List AV) : HP → HP → Nat → List AV → List AV → Option HP
  | [], [], _, _, _ => some []
  | (false, c) :: os, x :: xs, p, cs, ys => match trH2G σ cv xv os xs (p + lenG (fA c)) (drpG cs (lenG (fA c))) (drpG ys (lenG (fA c))) with
    | some r => some (x :: r)
    | none => none
  | (true, .inl o) :: os, _ :: xs, p, cs, ys => match trFG σ cv xv o.2 p cs ys, trH2G σ cv xv os xs (p + lenG (fA (.inl o))) (drpG cs (lenG (fA (.inl o)))) (drpG ys (lenG (fA (.inl o)))) with
    | some fs, some r => some ((true, .inl (o.1, fs)) :: r)
    | _, _ => none
  | (true, .inr t) :: os, _ :: xs, p, cs, ys => match trSG σ cv xv t.2, trH2G σ cv xv os xs (p + lenG (fA (.inr t))) (drpG cs (lenG (fA (.inr t)))) (drpG ys (lenG (fA (.inr t)))) with
    | some sg, some r => some ((true, .inr (t.1, sg)) :: r)
    | _, _ => none
  | _, _, _, _, _ => none
theorem trH2G_eq {σ : List Nat} {cv xv : List AV} : ∀ {os xs : HP} {p : Nat} {cs ys : List AV}, cs = cv.drop p → ys = xv.drop p → trH2G σ cv xv os xs p cs ys = trH2 σ cv xv os xs
  | [], [], _, _, _, _, _ => by unfold trH2G trH2; rfl
  | [], _ :: _, _, _, _, _, _ => by unfold trH2G trH2; rfl
  | (b, c) :: os, [], _, _, _, _, _ => by cases b <;> cases c <;> (unfold trH2G trH2; rfl)
  | (false, c) :: os, x :: xs, p, cs, ys, hc, hx => by
    have e := trH2G_eq (σ := σ) (cv := cv) (xv := xv) (os := os) (xs := xs) (p := p + lenG (fA c)) (cs := drpG cs (lenG (fA c))) (ys := drpG ys (lenG (fA c))) (by rw [hc, drpG_eq, List.drop_drop]) (by rw [hx, drpG_eq, List.drop_drop])
    rw [trH2G, trH2, e]
    rfl
  | (true, .inl o) :: os, x :: xs, p, cs, ys, hc, hx => by
    have e := trH2G_eq (σ := σ) (cv := cv) (xv := xv) (os := os) (xs := xs) (p := p + lenG (fA (.inl o))) (cs := drpG cs (lenG (fA (.inl o)))) (ys := drpG ys (lenG (fA (.inl o)))) (by rw [hc, drpG_eq, List.drop_drop]) (by rw [hx, drpG_eq, List.drop_drop])
    rw [trH2G, trH2, e, trFG_eq hc hx]
    rfl
  | (true, .inr t) :: os, x :: xs, p, cs, ys, hc, hx => by
    have e := trH2G_eq (σ := σ) (cv := cv) (xv := xv) (os := os) (xs := xs) (p := p + lenG (fA (.inr t))) (cs := drpG cs (lenG (fA (.inr t)))) (ys := drpG ys (lenG (fA (.inr t)))) (by rw [hc, drpG_eq, List.drop_drop]) (by rw [hx, drpG_eq, List.drop_drop])
    rw [trH2G, trH2, e, trSG_eq]
    rfl
