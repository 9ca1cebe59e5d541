/-! ===== quicker: a call, an end, a cut point ===== -/
/-- nothing appended: the list itself -/
noncomputable def appE {α : Type} (l m : List α) : List α := List.rec (motive := fun _ => List α) l (fun _ _ _ => appG l m) m
theorem appE_eq {α : Type} {l m : List α} : appE l m = l ++ m := by
  cases m with
  | nil => exact (List.append_nil l).symm
  | cons a r => exact appG_eq
/-! fields that a callee leaves alone are not looked at -/
noncomputable def bA (a b : Bool) : Bool := Bool.rec (motive := fun _ => Bool) false b a
theorem bA_eq {a b : Bool} : bA a b = (a && b) := by cases a <;> rfl
noncomputable def ok8 (cs : List AV) : Nat → GI → Bool := List.rec (motive := fun _ => Nat → GI → Bool) (fun _ _ => true) (fun c _ ih p rs => Bool.rec (motive := fun _ => Bool) (ih (Nat.succ p) (tlG rs)) ((eqZ c.2.1 (Int.ofNat p) && zinG (hdG rs)) && ih (Nat.succ p) (tlG rs)) (Nat.beq c.1 8)) cs
noncomputable def ndN (cs : List AV) : Nat → Nat → GI → List (Nat × Nat × AV × Option (Int × Int)) := List.rec (motive := fun _ => Nat → Nat → GI → List (Nat × Nat × AV × Option (Int × Int))) (fun _ _ _ => []) (fun c _ ih p g rs => Bool.rec (motive := fun _ => List (Nat × Nat × AV × Option (Int × Int))) ((g, p, c, hdG rs) :: ih (Nat.succ p) 0 (tlG rs)) (ih (Nat.succ p) (Nat.succ g) (tlG rs)) (Nat.beq c.1 8)) cs
noncomputable def ndE (cs : List AV) : Nat → Nat := List.rec (motive := fun _ => Nat → Nat) (fun g => g) (fun c _ ih g => Bool.rec (motive := fun _ => Nat) (ih 0) (ih (Nat.succ g)) (Nat.beq c.1 8)) cs
noncomputable def mtF (σ : List Nat) (G Gc : GI) (e : Nat) (L : List (Nat × Nat × AV × Option (Int × Int))) : List AV → Bool := List.rec (motive := fun _ => List AV → Bool) (fun xs => Nat.beq (lenG xs) e) (fun q _ ih xs => List.rec (motive := fun _ => Bool) false (fun x xs' _ => bA (mtG σ G Gc q.2.2.2 q.2.1 q.2.2.1 x) (ih xs')) (drpG xs q.1)) L
theorem mtF_sh {σ : List Nat} {G Gc : GI} : ∀ {cs : List AV} {p g : Nat} {rs : GI} {ys : List AV}, ys.length < g + cs.length → mtF σ G Gc (ndE cs g) (ndN cs p g rs) ys = false
  | [], p, g, rs, ys, h => by
    have h : ys.length < g + 0 := h
    show Nat.beq (lenG ys) g = false
    rw [lenG_eq]
    exact nb_no (by omega)
  | c :: cs, p, g, rs, ys, h => by
    have h : ys.length < g + (cs.length + 1) := h
    show mtF σ G Gc (Bool.rec (motive := fun _ => Nat) (ndE cs 0) (ndE cs (Nat.succ g)) (Nat.beq c.1 8)) (Bool.rec (motive := fun _ => List (Nat × Nat × AV × Option (Int × Int))) ((g, p, c, hdG rs) :: ndN cs (Nat.succ p) 0 (tlG rs)) (ndN cs (Nat.succ p) (Nat.succ g) (tlG rs)) (Nat.beq c.1 8)) ys = false
    cases h8 : Nat.beq c.1 8 with
    | true => exact mtF_sh (cs := cs) (p := Nat.succ p) (g := Nat.succ g) (rs := tlG rs) (by omega)
    | false =>
      show List.rec (motive := fun _ => Bool) false (fun x xs' _ => bA (mtG σ G Gc (hdG rs) p c x) (mtF σ G Gc (ndE cs 0) (ndN cs (Nat.succ p) 0 (tlG rs)) xs')) (drpG ys g) = false
      rw [drpG_eq]
      cases hd : ys.drop g with
      | nil => rfl
      | cons x xs' =>
        have hl : (ys.drop g).length = xs'.length + 1 := by rw [hd]; rfl
        rw [List.length_drop] at hl
        show bA (mtG σ G Gc (hdG rs) p c x) (mtF σ G Gc (ndE cs 0) (ndN cs (Nat.succ p) 0 (tlG rs)) xs') = false
        rw [bA_eq, mtF_sh (cs := cs) (p := Nat.succ p) (g := 0) (rs := tlG rs) (by omega), Bool.and_false]
theorem mtN_eq {σ : List Nat} {G Gc : GI} : ∀ {cs : List AV} {p g : Nat} {rs : GI} {xs ys : List AV}, ys.drop g = xs → g ≤ ys.length → (ok8 cs p rs && mtF σ G Gc (ndE cs g) (ndN cs p g rs) ys) = mtcG σ G Gc cs p xs rs
  | [], p, g, rs, xs, ys, hd, hg => by
    have hl : ys.length - g = xs.length := by rw [← List.length_drop, hd]
    show (true && Nat.beq (lenG ys) g) = List.rec (motive := fun _ => Bool) true (fun _ _ _ => false) xs
    rw [lenG_eq, Bool.true_and]
    cases xs with
    | nil =>
      have hl : ys.length - g = 0 := hl
      exact nb_iff.mpr (by omega)
    | cons x r =>
      have hl : ys.length - g = r.length + 1 := hl
      exact nb_no (by omega)
  | c :: cs, p, g, rs, xs, ys, hd, hg => by
    have e1 : ok8 (c :: cs) p rs = Bool.rec (motive := fun _ => Bool) (ok8 cs (Nat.succ p) (tlG rs)) ((eqZ c.2.1 (Int.ofNat p) && zinG (hdG rs)) && ok8 cs (Nat.succ p) (tlG rs)) (Nat.beq c.1 8) := rfl
    have e2 : ndN (c :: cs) p g rs = Bool.rec (motive := fun _ => List (Nat × Nat × AV × Option (Int × Int))) ((g, p, c, hdG rs) :: ndN cs (Nat.succ p) 0 (tlG rs)) (ndN cs (Nat.succ p) (Nat.succ g) (tlG rs)) (Nat.beq c.1 8) := rfl
    have e3 : ndE (c :: cs) g = Bool.rec (motive := fun _ => Nat) (ndE cs 0) (ndE cs (Nat.succ g)) (Nat.beq c.1 8) := rfl
    rw [e1, e2, e3]
    cases h8 : Nat.beq c.1 8 with
    | true =>
      show (((eqZ c.2.1 (Int.ofNat p) && zinG (hdG rs)) && ok8 cs (Nat.succ p) (tlG rs)) && mtF σ G Gc (ndE cs (Nat.succ g)) (ndN cs (Nat.succ p) (Nat.succ g) (tlG rs)) ys) = _
      cases xs with
      | nil =>
        have hl : (ys.drop g).length = 0 := by rw [hd]; rfl
        rw [List.length_drop] at hl
        rw [mtF_sh (cs := cs) (p := Nat.succ p) (g := Nat.succ g) (rs := tlG rs) (ys := ys) (by omega), Bool.and_false] <;> rfl
      | cons x xs' =>
        have hl : (ys.drop g).length = xs'.length + 1 := by rw [hd]; rfl
        rw [List.length_drop] at hl
        have hd' : ys.drop (Nat.succ g) = xs' := by
          show ys.drop (g + 1) = xs'
          rw [← tlG_drop, hd]
          rfl
        have ih := mtN_eq (σ := σ) (G := G) (Gc := Gc) (cs := cs) (p := Nat.succ p) (g := Nat.succ g) (rs := tlG rs) (xs := xs') (ys := ys) hd' (by omega)
        have e4 : mtG σ G Gc (hdG rs) p c x = (eqZ c.2.1 (Int.ofNat p) && zinG (hdG rs)) := by
          unfold mtG
          rw [h8] <;> rfl
        show _ = (mtG σ G Gc (hdG rs) p c x && mtcG σ G Gc cs (Nat.succ p) xs' (tlG rs))
        rw [e4, ← ih, Bool.and_assoc]
    | false =>
      show (ok8 cs (Nat.succ p) (tlG rs) && List.rec (motive := fun _ => Bool) false (fun x xs' _ => bA (mtG σ G Gc (hdG rs) p c x) (mtF σ G Gc (ndE cs 0) (ndN cs (Nat.succ p) 0 (tlG rs)) xs')) (drpG ys g)) = _
      rw [drpG_eq, hd]
      cases xs with
      | nil => exact Bool.and_false _
      | cons x xs' =>
        have ih := mtN_eq (σ := σ) (G := G) (Gc := Gc) (cs := cs) (p := Nat.succ p) (g := 0) (rs := tlG rs) (xs := xs') (ys := xs') rfl (Nat.zero_le _)
        show (ok8 cs (Nat.succ p) (tlG rs) && bA (mtG σ G Gc (hdG rs) p c x) (mtF σ G Gc (ndE cs 0) (ndN cs (Nat.succ p) 0 (tlG rs)) xs')) = (mtG σ G Gc (hdG rs) p c x && mtcG σ G Gc cs (Nat.succ p) xs' (tlG rs))
        rw [bA_eq, ← ih, Bool.and_left_comm]
noncomputable def mtcN (σ : List Nat) (G Gc : GI) (cs : List AV) (p : Nat) (xs : List AV) (rs : GI) : Bool := ok8 cs p rs && mtF σ G Gc (ndE cs 0) (ndN cs p 0 rs) xs
theorem mtcN_eq {σ : List Nat} {G Gc : GI} {cs : List AV} {p : Nat} {xs : List AV} {rs : GI} : mtcN σ G Gc cs p xs rs = mtcG σ G Gc cs p xs rs := mtN_eq rfl (Nat.zero_le _)
noncomputable def mtC2N (σ : List Nat) (G Gc : GI) (cs : List AC) : Nat → List AC → GI → Bool := List.rec (motive := fun _ => Nat → List AC → GI → Bool) (fun _ xs _ => List.rec (motive := fun _ => Bool) true (fun _ _ _ => false) xs)
  (fun c _ ih p xs rs => List.rec (motive := fun _ => Bool) false (fun x xs' _ => Option.rec (motive := fun _ => Bool) false (fun ys => kndCQ G c x && mtcN σ G Gc (fA c) p ys rs) (fXQ c x) && ih (p + lenG (fA c)) xs' (drpG rs (lenG (fA c)))) xs) cs
theorem mtC2N_eq {σ : List Nat} {G Gc : GI} : ∀ {cs : List AC} {p : Nat} {xs : List AC} {rs : GI}, mtC2N σ G Gc cs p xs rs = mtC2G σ G Gc cs p xs rs
  | [], _, _, _ => rfl
  | _ :: _, _, [], _ => rfl
  | c :: cs, p, x :: xs, rs => by
    have ih := mtC2N_eq (σ := σ) (G := G) (Gc := Gc) (cs := cs) (p := p + lenG (fA c)) (xs := xs) (rs := drpG rs (lenG (fA c)))
    show (Option.rec (motive := fun _ => Bool) false (fun ys => kndCQ G c x && mtcN σ G Gc (fA c) p ys rs) (fXQ c x) && mtC2N σ G Gc cs (p + lenG (fA c)) xs (drpG rs (lenG (fA c)))) = (Option.rec (motive := fun _ => Bool) false (fun ys => kndCQ G c x && mtcG σ G Gc (fA c) p ys rs) (fXQ c x) && mtC2G σ G Gc cs (p + lenG (fA c)) xs (drpG rs (lenG (fA c))))
    rw [ih]
    cases fXQ c x with
    | none => rfl
    | some ys =>
      show ((kndCQ G c x && mtcN σ G Gc (fA c) p ys rs) && _) = ((kndCQ G c x && mtcG σ G Gc (fA c) p ys rs) && _)
      rw [mtcN_eq]
/-! what the caller learns: names alone -/
noncomputable def rfk (kk : GI → Option GI) (o : Option (Int × Int)) (x : AV) (q : Int × Int) (G : GI) : Option GI := Option.rec (motive := fun _ => Option GI) (kk G) (fun r => Bool.rec (motive := fun _ => Option GI) (if max r.1 q.1 ≤ min r.2 q.2 then kk (setG G x (max r.1 q.1, min r.2 q.2)) else none) (kk G) (leZ q.1 r.1 && leZ r.2 q.2)) o
noncomputable def rnL (cs : List AV) : Nat → GI → List (Nat × AV × (Int × Int)) := List.rec (motive := fun _ => Nat → GI → List (Nat × AV × (Int × Int))) (fun _ _ => []) (fun c _ ih g qs => List.rec (motive := fun _ => List (Nat × AV × (Int × Int))) [] (fun q qs' _ => Bool.rec (motive := fun _ => List (Nat × AV × (Int × Int))) (ih (Nat.succ g) qs') ((g, c, q) :: ih 0 qs') (Nat.beq c.1 1 || Nat.beq c.1 4)) qs) cs
noncomputable def rfF (G0 : GI) (L : List (Nat × AV × (Int × Int))) : GI → List AV → Option GI := List.rec (motive := fun _ => GI → List AV → Option GI) (fun G _ => some G) (fun q _ ih G xs => List.rec (motive := fun _ => Option GI) (some G) (fun x xs' _ => Bool.rec (motive := fun _ => Option GI) (rfk (fun G => ih G xs') (ivL G0 x) x q.2.2 G) (rfk (fun G => ih G xs') (ivI G0 x) x q.2.2 G) (Nat.beq q.2.1.1 1)) (drpG xs q.1)) L
theorem rfF_sh {G0 : GI} : ∀ {cs : List AV} {g : Nat} {qs : GI} {ys : List AV} {G : GI}, ys.length ≤ g → rfF G0 (rnL cs g qs) G ys = some G
  | [], g, qs, ys, G, _ => rfl
  | c :: cs, g, [], ys, G, _ => rfl
  | c :: cs, g, q :: qs, ys, G, h => by
    show rfF G0 (Bool.rec (motive := fun _ => List (Nat × AV × (Int × Int))) (rnL cs (Nat.succ g) qs) ((g, c, q) :: rnL cs 0 qs) (Nat.beq c.1 1 || Nat.beq c.1 4)) G ys = some G
    cases (Nat.beq c.1 1 || Nat.beq c.1 4) with
    | false => exact rfF_sh (cs := cs) (g := Nat.succ g) (qs := qs) (ys := ys) (G := G) (by omega)
    | true =>
      have e : drpG ys g = [] := by rw [drpG_eq]; exact List.drop_eq_nil_of_le h
      show List.rec (motive := fun _ => Option GI) (some G) (fun x xs' _ => Bool.rec (motive := fun _ => Option GI) (rfk (fun G => rfF G0 (rnL cs 0 qs) G xs') (ivL G0 x) x q G) (rfk (fun G => rfF G0 (rnL cs 0 qs) G xs') (ivI G0 x) x q G) (Nat.beq c.1 1)) (drpG ys g) = some G
      rw [e] <;> rfl
theorem rfF_eq {G0 : GI} : ∀ {cs : List AV} {g : Nat} {qs : GI} {xs ys : List AV} {G : GI}, ys.drop g = xs → rfF G0 (rnL cs g qs) G ys = rfn2 G0 cs G xs qs
  | [], g, qs, xs, ys, G, _ => rfl
  | c :: cs, g, qs, [], ys, G, h => by
    have hl : (ys.drop g).length = 0 := by rw [h]; rfl
    rw [List.length_drop] at hl
    rw [rfF_sh (cs := c :: cs) (g := g) (qs := qs) (ys := ys) (G := G) (by omega)] <;> rfl
  | c :: cs, g, [], x :: xs, ys, G, h => rfl
  | c :: cs, g, q :: qs, x :: xs, ys, G, h => by
    have hn : ys.drop (Nat.succ g) = xs := by
      show ys.drop (g + 1) = xs
      rw [← tlG_drop, h]
      rfl
    have i1 := fun (G : GI) => rfF_eq (G0 := G0) (cs := cs) (g := Nat.succ g) (qs := qs) (xs := xs) (ys := ys) (G := G) hn
    have i2 := fun (G : GI) => rfF_eq (G0 := G0) (cs := cs) (g := 0) (qs := qs) (xs := xs) (ys := xs) (G := G) rfl
    have e : (fun (G : GI) => rfF G0 (rnL cs 0 qs) G xs) = (fun G => rfn2 G0 cs G xs qs) := funext i2
    show rfF G0 (Bool.rec (motive := fun _ => List (Nat × AV × (Int × Int))) (rnL cs (Nat.succ g) qs) ((g, c, q) :: rnL cs 0 qs) (Nat.beq c.1 1 || Nat.beq c.1 4)) G ys = Bool.rec (motive := fun _ => Option GI) (rfg G0 (rfn2 G0 cs) c x q G xs qs) (rfn2 G0 cs G xs qs) (Nat.beq c.1 8)
    have hyes : rfF G0 ((g, c, q) :: rnL cs 0 qs) G ys = Bool.rec (motive := fun _ => Option GI) (rfk (fun G => rfn2 G0 cs G xs qs) (ivL G0 x) x q G) (rfk (fun G => rfn2 G0 cs G xs qs) (ivI G0 x) x q G) (Nat.beq c.1 1) := by
      show List.rec (motive := fun _ => Option GI) (some G) (fun x xs' _ => Bool.rec (motive := fun _ => Option GI) (rfk (fun G => rfF G0 (rnL cs 0 qs) G xs') (ivL G0 x) x q G) (rfk (fun G => rfF G0 (rnL cs 0 qs) G xs') (ivI G0 x) x q G) (Nat.beq c.1 1)) (drpG ys g) = _
      rw [drpG_eq, h]
      show Bool.rec (motive := fun _ => Option GI) (rfk (fun G => rfF G0 (rnL cs 0 qs) G xs) (ivL G0 x) x q G) (rfk (fun G => rfF G0 (rnL cs 0 qs) G xs) (ivI G0 x) x q G) (Nat.beq c.1 1) = _
      rw [e]
    cases h1 : Nat.beq c.1 1 with
    | true =>
      have h8 : Nat.beq c.1 8 = false := nb_no (by rw [nb_iff.mp h1]; decide)
      rw [h1] at hyes
      rw [h8]
      show rfF G0 ((g, c, q) :: rnL cs 0 qs) G ys = rfg G0 (rfn2 G0 cs) c x q G xs qs
      rw [hyes]
      unfold rfg
      rw [h1] <;> rfl
    | false =>
      rw [h1] at hyes
      cases h4 : Nat.beq c.1 4 with
      | true =>
        have h8 : Nat.beq c.1 8 = false := nb_no (by rw [nb_iff.mp h4]; decide)
        rw [h8]
        show rfF G0 ((g, c, q) :: rnL cs 0 qs) G ys = rfg G0 (rfn2 G0 cs) c x q G xs qs
        rw [hyes]
        unfold rfg
        rw [h1, h4] <;> rfl
      | false =>
        show rfF G0 (rnL cs (Nat.succ g) qs) G ys = _
        rw [i1]
        cases h8 : Nat.beq c.1 8 with
        | true => rfl
        | false =>
          show _ = rfg G0 (rfn2 G0 cs) c x q G xs qs
          unfold rfg
          rw [h1, h4] <;> rfl
theorem rfF0 {G0 : GI} {cs xs : List AV} {G qs : GI} : rfF G0 (rnL cs 0 qs) G xs = rfn2 G0 cs G xs qs := rfF_eq rfl
/-! many cells -/
noncomputable def memQ (a : Nat) (l : List Nat) : Bool := List.rec (motive := fun _ => Bool) false (fun b _ ih => Nat.beq a b || ih) l
theorem memQ_iff {a : Nat} : ∀ {l : List Nat}, memQ a l = true ↔ a ∈ l
  | [] => by
    constructor
    · intro h; cases h
    · intro h; cases h
  | b :: l => by
    show (Nat.beq a b || memQ a l) = true ↔ _
    rw [Bool.or_eq_true, nb_iff, memQ_iff, List.mem_cons]
noncomputable def ndQ (l : List Nat) : Bool := List.rec (motive := fun _ => Bool) true (fun a r ih => Bool.rec (motive := fun _ => Bool) ih false (memQ a r)) l
theorem ndQ_eq : ∀ {l : List Nat}, ndQ l = va_nd l
  | [] => rfl
  | a :: l => by
    have ih := ndQ_eq (l := l)
    show Bool.rec (motive := fun _ => Bool) (ndQ l) false (memQ a l) = (decide (a ∉ l) && va_nd l)
    rw [ih]
    cases h : memQ a l with
    | true =>
      have e : decide (a ∉ l) = false := decide_eq_false (fun hn => hn (memQ_iff.mp h))
      rw [e] <;> rfl
    | false =>
      have hn : a ∉ l := fun hm => by
        rw [memQ_iff.mpr hm] at h
        cases h
      have e : decide (a ∉ l) = true := decide_eq_true hn
      rw [e] <;> rfl
noncomputable def gAllQ {α : Type} (l : List α) (σ : List Nat) : Option (List α) := List.rec (motive := fun _ => Option (List α)) (some []) (fun i _ ih => Option.rec (motive := fun _ => Option (List α)) none (fun a => Option.rec (motive := fun _ => Option (List α)) none (fun as => some (a :: as)) ih) (nthG l i)) σ
theorem gAllQ_eq {α : Type} {l : List α} : ∀ {σ : List Nat}, gAllQ l σ = gAll l σ
  | [] => by rw [gAll]; rfl
  | i :: r => by
    have ih := gAllQ_eq (l := l) (σ := r)
    show Option.rec (motive := fun _ => Option (List α)) none (fun a => Option.rec (motive := fun _ => Option (List α)) none (fun as => some (a :: as)) (gAllQ l r)) (nthG l i) = _
    rw [ih, nthG_eq, gAll]
    cases l[i]? with
    | none => rfl
    | some a => cases gAll l r <;> rfl
theorem gAll_set {α : Type} {i : Nat} {a : α} {l : List α} : ∀ {r : List Nat}, i ∉ r → gAll (l.set i a) r = gAll l r
  | [], _ => by rw [gAll, gAll]
  | j :: r, h => by
    have hj : i ≠ j := fun e => h (by rw [e]; exact List.mem_cons_self)
    have ih := gAll_set (i := i) (a := a) (l := l) (r := r) (fun hm => h (List.mem_cons_of_mem _ hm))
    rw [gAll, gAll, List.getElem?_set_ne hj, ih]
theorem set_sm {α : Type} : ∀ {l : List α} {i : Nat} {a : α}, l[i]? = some a → l.set i a = l
  | [], _, _, h => by simp at h
  | x :: r, 0, a, h => by simp at h; rw [h]; rfl
  | x :: r, i + 1, a, h => by
    rw [List.set_cons_succ, set_sm (l := r) (i := i) (a := a) (by simpa using h)]
/-- what a callee leaves alone stays the caller's -/
noncomputable def keepU : HP → HP → HP → Prop
  | o :: os, x :: xs, a :: as => (o.1 = false → a = x) ∧ keepU os xs as
  | [], [], [] => True
  | _, _, _ => False
theorem trH2_keep {σ : List Nat} {cv xv : List AV} : ∀ {os xs r : HP}, trH2 σ cv xv os xs = some r → keepU os xs r
  | [], [], r, h => by
    rw [trH2] at h
    cases h
    trivial
  | [], _ :: _, r, h => by simp [trH2] at h
  | (b, c) :: _, [], r, h => by cases b <;> cases c <;> simp [trH2] at h
  | (false, c) :: os, x :: xs, r, h => by
    rw [trH2] at h
    split at h
    · rename_i r' hr
      cases h
      exact ⟨fun _ => rfl, trH2_keep hr⟩
    · cases h
  | (true, .inl o) :: os, x :: xs, r, h => by
    rw [trH2] at h
    split at h
    · rename_i fs r' hf hr
      cases h
      exact ⟨fun hb => (by cases hb), trH2_keep hr⟩
    · cases h
  | (true, .inr t) :: os, x :: xs, r, h => by
    rw [trH2] at h
    split at h
    · rename_i fs r' hf hr
      cases h
      exact ⟨fun hb => (by cases hb), trH2_keep hr⟩
    · cases h
noncomputable def sAllF (σ : List Nat) : HP → HP → HP → HP := List.rec (motive := fun _ => HP → HP → HP → HP) (fun l _ _ => l) (fun i _ ih l os as => List.rec (motive := fun _ => HP) l (fun o os' _ => List.rec (motive := fun _ => HP) l (fun a as' _ => Bool.rec (motive := fun _ => HP) (ih l os' as') (ih (setN l i a) os' as') o.1) as) os) σ
theorem sAllF_eq : ∀ {σ : List Nat} {l os xs as : HP}, va_nd σ = true → gAll l σ = some xs → keepU os xs as → sAllF σ l os as = sAll l σ as
  | [], l, os, xs, as, _, _, _ => by rw [sAll]; rfl
  | i :: r, l, os, xs, as, hn, hg, hk => by
    rw [gAll] at hg
    split at hg
    · rename_i x xs' hx hxs
      cases hg
      cases os with
      | nil => cases as <;> exact False.elim hk
      | cons o os' =>
        cases as with
        | nil => exact False.elim hk
        | cons a as' =>
          have hk : (o.1 = false → a = x) ∧ keepU os' xs' as' := hk
          have hn' : i ∉ r ∧ va_nd r = true := by
            simp only [va_nd, Bool.and_eq_true, decide_eq_true_eq] at hn
            exact hn
          rw [sAll]
          show Bool.rec (motive := fun _ => HP) (sAllF r l os' as') (sAllF r (setN l i a) os' as') o.1 = _
          cases hb : o.1 with
          | false =>
            have e : a = x := hk.1 hb
            show sAllF r l os' as' = _
            rw [e, set_sm hx]
            exact sAllF_eq hn'.2 hxs hk.2
          | true =>
            show sAllF r (setN l i a) os' as' = _
            rw [setN_eq]
            exact sAllF_eq hn'.2 ((gAll_set hn'.1).trans hxs) hk.2
    · cases hg
noncomputable def cOut2H (a : AS) (r : RLs) (σ : List Nat) (cv xv cv2 xv2 rest : List AV) (cells : HP) (o : Out2) (G1 : GI) (na : Nat) : Option (List ASR) := match trH2G σ cv2 xv2 o.2.2.1 cells na (drpG cv2 na) (drpG xv2 na) with
  | none => none
  | some cs => match rfF a.2.2.2.1 (rnL cv 0 o.2.1) G1 xv with
    | none => some []
    | some G => if o.1.1 = 9 then some [((a.1 + 3, a.2.1, rest, G, sAllF σ a.2.2.2.2 o.2.2.1 cs), appG (wTrLs cv2 xv2 o.2.2.2.1) r)] else (match trVG σ cv2 xv2 o.1 with
      | none => none
      | some v => match nam G v with
        | none => none
        | some q => some [((a.1 + 3, a.2.1, q.2 :: rest, q.1, sAllF σ a.2.2.2.2 o.2.2.1 cs), appG (wTrLs cv2 xv2 o.2.2.2.1) r)])
noncomputable def cOut2G (a : AS) (r : RLs) (σ : List Nat) (cv xv rest : List AV) (cells : HP) (na : Nat) (o : Out2) : Option (List ASR) := if o.2.1.length = cv.length + o.2.2.2.2.length then cOut2H a r σ cv xv (appG cv (nmT (lenG cv) 0 o.2.2.2.2)) (appG xv (shfs (lenG a.2.2.2.1) (cmpR 0 o.2.2.2.2 (drpG o.2.1 (lenG cv))))) rest cells o (appE a.2.2.2.1 (cmpQ (drpG o.2.1 (lenG cv)))) na else none
theorem cOut2G_eq {a : AS} {r : RLs} {σ : List Nat} {cv xv rest : List AV} {cells : HP} {na : Nat} {o : Out2} (hnd : va_nd σ = true) (hga : gAll a.2.2.2.2 σ = some cells) : cOut2G a r σ cv xv rest cells na o = cOut2 a r σ cv xv rest cells o := by
  unfold cOut2G cOut2
  by_cases h : o.2.1.length = cv.length + o.2.2.2.2.length
  · rw [if_pos h, if_pos h]
    unfold cOut2H
    rw [wTrLs_eq, rfF0, trH2G_eq (by rw [drpG_eq]) (by rw [drpG_eq]), trVG_eq, appG_eq, appG_eq, appG_eq, appE_eq, show lenG cv = cv.length from lenG_eq, drpG_eq]
    cases hcs : trH2 σ (cv ++ nmT cv.length 0 o.2.2.2.2) (xv ++ (shfs (lenG a.2.2.2.1) (cmpR 0 o.2.2.2.2 (o.2.1.drop cv.length)))) o.2.2.1 cells with
    | none => rfl
    | some cs =>
      dsimp only
      rw [sAllF_eq hnd hga (trH2_keep hcs)] <;> rfl
  · rw [if_neg h, if_neg h]
noncomputable def cOuts2G (a : AS) (r : RLs) (σ : List Nat) (cv xv rest : List AV) (cells : HP) (na : Nat) : List Out2 → Option (List ASR)
  | [] => some []
  | o :: q => match cOut2G a r σ cv xv rest cells na o, cOuts2G a r σ cv xv rest cells na q with
    | some L1, some L2 => some (L1 ++ L2)
    | _, _ => none
theorem cOuts2G_eq {a : AS} {r : RLs} {σ : List Nat} {cv xv rest : List AV} {cells : HP} {na : Nat} (hnd : va_nd σ = true) (hga : gAll a.2.2.2.2 σ = some cells) : ∀ {os : List Out2}, cOuts2G a r σ cv xv rest cells na os = cOuts2 a r σ cv xv rest cells os
  | [] => by rw [cOuts2G, cOuts2]
  | o :: q => by
    have e := cOuts2G_eq (a := a) (r := r) (σ := σ) (cv := cv) (xv := xv) (rest := rest) (cells := cells) (na := na) (os := q) hnd hga
    rw [cOuts2G, cOuts2, e, cOut2G_eq hnd hga]
    rfl
noncomputable def fXsG (cs : List AC) : List AC → Option (List AV) := List.rec (motive := fun _ => List AC → Option (List AV)) (fun xs => List.rec (motive := fun _ => Option (List AV)) (some []) (fun _ _ _ => none) xs)
  (fun c _ ih xs => List.rec (motive := fun _ => Option (List AV)) none (fun x xs' _ => Option.rec (motive := fun _ => Option (List AV)) none (fun a => Option.rec (motive := fun _ => Option (List AV)) none (fun b => some (appG a b)) (ih xs')) (fXQ c x)) xs) cs
theorem fXsG_eq : ∀ {cs xs : List AC}, fXsG cs xs = fXs cs xs
  | [], [] => by rw [fXs]; rfl
  | [], _ :: _ => by unfold fXs; rfl
  | _ :: _, [] => by unfold fXs; rfl
  | c :: cs, x :: xs => by
    have ih := fXsG_eq (cs := cs) (xs := xs)
    show Option.rec (motive := fun _ => Option (List AV)) none (fun a => Option.rec (motive := fun _ => Option (List AV)) none (fun b => some (appG a b)) (fXsG cs xs)) (fXQ c x) = _
    rw [ih, fXQ_eq, fXs]
    cases fX c x with
    | none => rfl
    | some a =>
      cases fXs cs xs with
      | none => rfl
      | some b => show some (appG a b) = some (a ++ b); rw [appG_eq]
noncomputable def cllG (d : Nat) (R : Nat × Nat) (a : AS) (r : RLs) (k : Con2) (σ : List Nat) : Option (List ASR) :=
  if k.2.2.1.1.length ≤ a.2.2.1.length ∧ ndQ σ = true ∧ (((a.2.2.1.drop k.2.2.1.1.length).map catA).sum ≤ 8 ∧ (a.2.2.1.drop k.2.2.1.1.length).all (fun q => decide (q.1 ≠ 8)) = true) ∧ k.2.1.1 + 1 ≤ R.1 ∧ 8 + (k.1.2.2.1 + 11) + k.2.1.2 ≤ R.2 then (match gAllQ a.2.2.2.2 σ with
    | none => none
    | some cells => match fXsG k.2.2.1.2.2.1 (cells.map Prod.snd) with
      | none => none
      | some ys => if mtcG σ a.2.2.2.1 k.2.2.1.2.1 k.2.2.1.1 0 (a.2.2.1.take k.2.2.1.1.length).reverse k.2.2.1.2.1 && (mtC2N σ a.2.2.2.1 k.2.2.1.2.1 k.2.2.1.2.2.1 k.2.2.1.1.length (cells.map Prod.snd) (drpG k.2.2.1.2.1 k.2.2.1.1.length) && (decide (k.2.2.1.2.1.length = (k.2.2.1.1 ++ fAs k.2.2.1.2.2.1).length) && wEnL d a.2.2.2.1 r (k.2.2.1.1 ++ fAs k.2.2.1.2.2.1) (appG (a.2.2.1.take k.2.2.1.1.length).reverse ys) k.2.2.1.2.2.2)) then
        cOuts2G a r σ (k.2.2.1.1 ++ fAs k.2.2.1.2.2.1) (appG (a.2.2.1.take k.2.2.1.1.length).reverse ys) (a.2.2.1.drop k.2.2.1.1.length) cells k.2.2.1.1.length k.2.2.2 else none) else none
theorem mtG_eq {σ : List Nat} {G Gc : GI} {r : Option (Int × Int)} {p : Nat} {c x : AV} (hr : r = Gc[p]?) : mtG σ G Gc r p c x = mt1 σ G Gc p c x := by
  refine Bool.eq_iff_iff.mpr ⟨mtG_ok hr, fun h => ?_⟩
  obtain ⟨t, c1, c2⟩ := c
  cases h8 : Nat.beq t 8 with
  | true =>
    have h8' : t = 8 := Nat.beq_eq.mp h8
    subst h8'
    have h : (decide (c1 = (p : Int)) && zin Gc p) = true := h
    rw [Bool.and_eq_true] at h
    obtain ⟨h1, h2⟩ := h
    show (eqZ c1 (Int.ofNat p) && zinG r) = true
    rw [Bool.and_eq_true, eqZ_iff, zinG_iff]
    refine ⟨of_decide_eq_true h1, ?_⟩
    unfold zin at h2
    rw [nthG_eq, ← hr] at h2
    cases r with
    | none => cases h2
    | some q => exact ⟨q, rfl, of_decide_eq_true h2⟩
  | false =>
    cases h1 : Nat.beq t 1 with
    | true =>
      have h1' : t = 1 := Nat.beq_eq.mp h1
      subst h1'
      have h : (decide (c1 = (p : Int) ∧ c2 = 0) && (match ivI G x, nthG Gc p with
        | some q, some r => decide (r.1 ≤ q.1 ∧ q.2 ≤ r.2)
        | _, _ => false)) = true := h
      rw [Bool.and_eq_true] at h
      obtain ⟨e1, e2⟩ := h
      have e1 := of_decide_eq_true e1
      show (eqZ c1 (Int.ofNat p) && (eqZ c2 (Int.ofNat 0) && inG (ivIG G x) r)) = true
      rw [Bool.and_eq_true, Bool.and_eq_true, eqZ_iff, eqZ_iff, ivIG_eq]
      refine ⟨e1.1, e1.2, ?_⟩
      rw [nthG_eq, ← hr] at e2
      cases hq : ivI G x with
      | none => rw [hq] at e2; cases e2
      | some q =>
        rw [hq] at e2
        cases r with
        | none => cases e2
        | some r =>
          show (leZ r.1 q.1 && leZ q.2 r.2) = true
          rw [Bool.and_eq_true, leZ_iff, leZ_iff]
          exact of_decide_eq_true e2
    | false =>
      unfold mtG
      show Bool.rec (motive := fun _ => Bool) (Bool.rec (motive := fun _ => Bool) (mt2 σ G Gc r p (t, c1, c2) x) (eqZ c1 (Int.ofNat p) && (eqZ c2 (Int.ofNat 0) && inG (ivIG G x) r)) (Nat.beq t 1)) (eqZ c1 (Int.ofNat p) && zinG r) (Nat.beq t 8) = true
      rw [h8, h1]
      show mt2 σ G Gc r p (t, c1, c2) x = true
      rw [mt2_eq hr]
      exact h
theorem mtcG_eq {σ : List Nat} {G Gc : GI} : ∀ {cs : List AV} {p : Nat} {xs : List AV} {rs : GI}, rs = Gc.drop p → mtcG σ G Gc cs p xs rs = mtc σ G Gc p cs xs
  | [], p, [], rs, _ => by unfold mtc; rfl
  | [], p, _ :: _, rs, _ => by unfold mtc; rfl
  | _ :: _, p, [], rs, _ => by unfold mtc; rfl
  | c :: cs, p, x :: xs, rs, hr => by
    have ih := mtcG_eq (σ := σ) (G := G) (Gc := Gc) (cs := cs) (p := Nat.succ p) (xs := xs) (rs := tlG rs) (by rw [hr, tlG_drop])
    show (mtG σ G Gc (hdG rs) p c x && mtcG σ G Gc cs (Nat.succ p) xs (tlG rs)) = _
    rw [ih, mtG_eq (Gc := Gc) (p := p) (by rw [hr, hdG_drop]), mtc]
theorem mtC2G_eq {σ : List Nat} {G Gc : GI} : ∀ {cs : List AC} {p : Nat} {xs : List AC} {rs : GI}, rs = Gc.drop p → mtC2G σ G Gc cs p xs rs = mtC2 σ G Gc p cs xs
  | [], p, [], rs, _ => by unfold mtC2; rfl
  | [], p, _ :: _, rs, _ => by unfold mtC2; rfl
  | _ :: _, p, [], rs, _ => by unfold mtC2; rfl
  | c :: cs, p, x :: xs, rs, hr => by
    have ih := mtC2G_eq (σ := σ) (G := G) (Gc := Gc) (cs := cs) (p := p + lenG (fA c)) (xs := xs) (rs := drpG rs (lenG (fA c))) (by rw [hr, drpG_eq, List.drop_drop])
    show (Option.rec (motive := fun _ => Bool) false (fun ys => kndCQ G c x && mtcG σ G Gc (fA c) p ys rs) (fXQ c x) && mtC2G σ G Gc cs (p + lenG (fA c)) xs (drpG rs (lenG (fA c)))) = _
    rw [ih, kndCQ_eq, fXQ_eq, mtC2, lenG_eq]
    cases fX c x with
    | none => rfl
    | some ys =>
      show ((kndC G c x && mtcG σ G Gc (fA c) p ys rs) && _) = ((kndC G c x && mtc σ G Gc p (fA c) ys) && _)
      rw [mtcG_eq hr]
theorem cllG_eq {d : Nat} {R : Nat × Nat} {a : AS} {r : RLs} {k : Con2} {σ : List Nat} : cllG d R a r k σ = cll2 d R a r k σ := by
  unfold cllG cll2
  rw [ndQ_eq, gAllQ_eq]
  split
  · rename_i hcond
    cases hga : gAll a.2.2.2.2 σ with
    | none => rfl
    | some cells =>
      dsimp only
      rw [fXsG_eq]
      cases fXs k.2.2.1.2.2.1 (cells.map Prod.snd) with
      | none => rfl
      | some ys =>
        dsimp only
        rw [appG_eq, wEnL_eq, mtcG_eq (Gc := k.2.2.1.2.1) (p := 0) (rs := k.2.2.1.2.1) rfl, mtC2N_eq, mtC2G_eq (Gc := k.2.2.1.2.1) (p := k.2.2.1.1.length) drpG_eq, cOuts2G_eq hcond.2.1 hga]
  · rfl
/-- a known argument against a known one -/
noncomputable def pf1 (c x : AV) : Bool := Bool.rec (motive := fun _ => Bool) true (eqZ c.2.1 x.2.1) (Nat.beq c.1 0 && Nat.beq x.1 0)
noncomputable def pfQ (cs : List AV) : List AV → Bool := List.rec (motive := fun _ => List AV → Bool) (fun _ => true) (fun c _ ih xs => List.rec (motive := fun _ => Bool) true (fun x r _ => pf1 c x && ih r) xs) cs
theorem pf1_no {σ : List Nat} {G Gc : GI} {p : Nat} {c x : AV} (h : mt1 σ G Gc p c x = true) : pf1 c x = true := by
  obtain ⟨t, c1, c2⟩ := c
  obtain ⟨u, x1, x2⟩ := x
  show Bool.rec (motive := fun _ => Bool) true (eqZ c1 x1) (Nat.beq t 0 && Nat.beq u 0) = true
  cases hb : (Nat.beq t 0 && Nat.beq u 0) with
  | false => rfl
  | true =>
    rw [Bool.and_eq_true, nb_iff, nb_iff] at hb
    obtain ⟨rfl, rfl⟩ := hb
    have h : (decide (x1 = c1 ∧ x1 = c1) && zin Gc p) = true := h
    rw [Bool.and_eq_true] at h
    exact eqZ_iff.mpr (of_decide_eq_true h.1).1.symm
theorem pfQ_no {σ : List Nat} {G Gc : GI} : ∀ {cs : List AV} {p : Nat} {xs : List AV}, mtc σ G Gc p cs xs = true → pfQ cs xs = true
  | [], _, _, _ => rfl
  | _ :: _, _, [], _ => rfl
  | c :: cs, p, x :: xs, h => by
    rw [mtc, Bool.and_eq_true] at h
    show (pf1 c x && pfQ cs xs) = true
    rw [Bool.and_eq_true]
    exact ⟨pf1_no h.1, pfQ_no h.2⟩
/-- a call's arguments first -/
noncomputable def cllQ (d : Nat) (R : Nat × Nat) (a : AS) (r : RLs) (k : Con2) (σ : List Nat) : Option (List ASR) := Bool.rec (motive := fun _ => Option (List ASR)) none (Bool.rec (motive := fun _ => Option (List ASR)) none (cllG d R a r k σ) (mtcG σ a.2.2.2.1 k.2.2.1.2.1 k.2.2.1.1 0 (a.2.2.1.take k.2.2.1.1.length).reverse k.2.2.1.2.1)) (pfQ k.2.2.1.1 (a.2.2.1.take k.2.2.1.1.length).reverse)
theorem cllQ_eq {d : Nat} {R : Nat × Nat} {a : AS} {r : RLs} {k : Con2} {σ : List Nat} : cllQ d R a r k σ = cll2 d R a r k σ := by
  rw [← cllG_eq]
  have hno : mtcG σ a.2.2.2.1 k.2.2.1.2.1 k.2.2.1.1 0 (a.2.2.1.take k.2.2.1.1.length).reverse k.2.2.1.2.1 = false → none = cllG d R a r k σ := fun h => by
    unfold cllG
    split
    · split
      · rfl
      · split
        · rfl
        · rw [if_neg]
          intro hc
          rw [h, Bool.false_and] at hc
          cases hc
    · rfl
  unfold cllQ
  cases hp : pfQ k.2.2.1.1 (a.2.2.1.take k.2.2.1.1.length).reverse with
  | false =>
    refine hno ?_
    cases h : mtcG σ a.2.2.2.1 k.2.2.1.2.1 k.2.2.1.1 0 (a.2.2.1.take k.2.2.1.1.length).reverse k.2.2.1.2.1 with
    | false => rfl
    | true =>
      rw [mtcG_eq (Gc := k.2.2.1.2.1) (p := 0) (rs := k.2.2.1.2.1) rfl] at h
      rw [pfQ_no h] at hp
      cases hp
  | true =>
    cases h : mtcG σ a.2.2.2.1 k.2.2.1.2.1 k.2.2.1.1 0 (a.2.2.1.take k.2.2.1.1.length).reverse k.2.2.1.2.1 with
    | true => rfl
    | false => exact hno h
noncomputable def trcFG (d st i : Nat) (R : Nat × Nat) (x : ASR) : CTB2 → Option (List ASR)
  | [] => none
  | q :: r => if q.1 = x.1.1 ∧ q.2.1 = i ∧ q.2.2.1 = st ∧ unch x.1.2.2.2.2 q.2.2.2.2 = true then (match cllQ d R x.1 x.2 q.2.2.2.1 q.2.2.2.2 with
    | some L => some L
    | none => trcFG d st i R x r) else trcFG d st i R x r
theorem trcFG_eq {d st i : Nat} {R : Nat × Nat} {x : ASR} : ∀ {CT : CTB2}, trcFG d st i R x CT = trcF d st i R x CT
  | [] => by rw [trcFG, trcF]
  | q :: r => by
    have ih := trcFG_eq (d := d) (st := st) (i := i) (R := R) (x := x) (CT := r)
    rw [trcFG, trcF, cllQ_eq, ih]
    rfl
/-- the calls that may be made at a place -/
noncomputable def ctAt (pc st i : Nat) (CT : CTB2) : CTB2 := CT.filter (fun q => Nat.beq q.1 pc && (Nat.beq q.2.1 i && Nat.beq q.2.2.1 st))
noncomputable def trcG (d : Nat) (R : Nat × Nat) (x : ASR) : CTB2 → Option (List ASR)
  | [] => none
  | q :: r => match cllQ d R x.1 x.2 q.2.2.2.1 q.2.2.2.2 with
    | some L => some L
    | none => trcG d R x r
theorem trcG_eq {d st i pc : Nat} {R : Nat × Nat} {x : ASR} (hp : x.1.1 = pc) : ∀ {CT : CTB2}, trcG d R x (ctAt pc st i CT) = trc2 d st i R x CT
  | [] => by unfold ctAt; rw [List.filter_nil, trcG, trc2]
  | q :: r => by
    have ih := trcG_eq (d := d) (st := st) (i := i) (R := R) hp (CT := r)
    unfold ctAt at ih ⊢
    rw [trc2]
    by_cases hc : q.1 = x.1.1 ∧ q.2.1 = i ∧ q.2.2.1 = st
    · rw [if_pos hc, List.filter_cons_of_pos (by simp only [Bool.and_eq_true, Nat.beq_eq]; rw [← hp]; exact hc), trcG, cllQ_eq, ih]
      rfl
    · rw [if_neg hc, List.filter_cons_of_neg (by simp only [Bool.and_eq_true, Nat.beq_eq]; rw [← hp]; exact hc), ih]
/-- the arguments are taken off the stack once: what they rule out is not tried -/
noncomputable def nA (CT : CTB2) : Nat := List.rec (motive := fun _ => Nat) 0 (fun q _ _ => lenG q.2.2.2.1.2.2.1.1) CT
noncomputable def pf2 (n : Nat) (xs : List AV) (k : Con2) : Bool := Bool.rec (motive := fun _ => Bool) true (pfQ k.2.2.1.1 xs) (Nat.beq (lenG k.2.2.1.1) n)
theorem pf2_no {d : Nat} {R : Nat × Nat} {a : AS} {r : RLs} {k : Con2} {σ : List Nat} {n : Nat} (h : pf2 n (a.2.2.1.take n).reverse k = false) : cllQ d R a r k σ = none := by
  unfold pf2 at h
  cases hl : Nat.beq (lenG k.2.2.1.1) n with
  | false => rw [hl] at h; cases h
  | true =>
    rw [hl] at h
    have h : pfQ k.2.2.1.1 (a.2.2.1.take n).reverse = false := h
    have e := nb_iff.mp hl
    rw [lenG_eq] at e
    rw [← e] at h
    unfold cllQ
    rw [h] <;> rfl
noncomputable def trcN (d : Nat) (R : Nat × Nat) (x : ASR) (n : Nat) (xs : List AV) (CT : CTB2) : Option (List ASR) := List.rec (motive := fun _ => Option (List ASR)) none (fun q _ ih => Bool.rec (motive := fun _ => Option (List ASR)) ih (Option.rec (motive := fun _ => Option (List ASR)) ih (fun L => some L) (cllQ d R x.1 x.2 q.2.2.2.1 q.2.2.2.2)) (pf2 n xs q.2.2.2.1)) CT
theorem trcN_eq {d : Nat} {R : Nat × Nat} {x : ASR} {n : Nat} : ∀ {CT : CTB2}, trcN d R x n (x.1.2.2.1.take n).reverse CT = trcG d R x CT
  | [] => by rw [trcG]; rfl
  | q :: r => by
    have ih := trcN_eq (d := d) (R := R) (x := x) (n := n) (CT := r)
    show Bool.rec (motive := fun _ => Option (List ASR)) (trcN d R x n (x.1.2.2.1.take n).reverse r) (Option.rec (motive := fun _ => Option (List ASR)) (trcN d R x n (x.1.2.2.1.take n).reverse r) (fun L => some L) (cllQ d R x.1 x.2 q.2.2.2.1 q.2.2.2.2)) (pf2 n (x.1.2.2.1.take n).reverse q.2.2.2.1) = _
    rw [ih, trcG]
    cases hp : pf2 n (x.1.2.2.1.take n).reverse q.2.2.2.1 with
    | false =>
      have e := pf2_no (d := d) (R := R) (r := x.2) (σ := q.2.2.2.2) hp
      rw [e] <;> rfl
    | true => cases cllQ d R x.1 x.2 q.2.2.2.1 q.2.2.2.2 <;> rfl
/-- calls told apart by a number that is known: in groups -/
abbrev GRP : Type := List (Option Int × CTB2)
noncomputable def kyQ (n p : Nat) (k : Con2) : Option Int := Bool.rec (motive := fun _ => Option Int) none (Option.rec (motive := fun _ => Option Int) none (fun c => Bool.rec (motive := fun _ => Option Int) none (some c.2.1) (Nat.beq c.1 0)) (nthG k.2.2.1.1 p)) (Nat.beq (lenG k.2.2.1.1) n)
noncomputable def kvQ (p : Nat) (xs : List AV) : Option Int := Option.rec (motive := fun _ => Option Int) none (fun x => Bool.rec (motive := fun _ => Option Int) none (some x.2.1) (Nat.beq x.1 0)) (nthG xs p)
noncomputable def eqO (a b : Option Int) : Bool := Option.rec (motive := fun _ => Bool) (Option.rec (motive := fun _ => Bool) true (fun _ => false) b) (fun x => Option.rec (motive := fun _ => Bool) false (fun y => eqZ x y) b) a
theorem eqO_ok {a b : Option Int} (h : eqO a b = true) : a = b := by
  cases a with
  | none =>
    cases b with
    | none => rfl
    | some y => cases h
  | some x =>
    cases b with
    | none => cases h
    | some y =>
      have h : eqZ x y = true := h
      rw [eqZ_iff.mp h]
/-- the numbers are known, and not the same -/
noncomputable def noK (a b : Option Int) : Bool := Option.rec (motive := fun _ => Bool) false (fun x => Option.rec (motive := fun _ => Bool) false (fun y => Bool.rec (motive := fun _ => Bool) true false (eqZ x y)) b) a
theorem noK_ok {a b : Option Int} (h : noK a b = true) : ∃ x y, a = some x ∧ b = some y ∧ eqZ x y = false := by
  cases a with
  | none => cases h
  | some x =>
    cases b with
    | none => cases h
    | some y =>
      have h : Bool.rec (motive := fun _ => Bool) true false (eqZ x y) = true := h
      cases e : eqZ x y with
      | true => rw [e] at h; cases h
      | false => exact ⟨x, y, rfl, rfl, e⟩
noncomputable def grI (n p : Nat) (q : Nat × Nat × Nat × Con2 × List Nat) (gs : GRP) : GRP := List.rec (motive := fun _ => GRP) [(kyQ n p q.2.2.2.1, [q])] (fun g gs' _ => Bool.rec (motive := fun _ => GRP) ((kyQ n p q.2.2.2.1, [q]) :: g :: gs') ((g.1, q :: g.2) :: gs') (eqO (kyQ n p q.2.2.2.1) g.1)) gs
noncomputable def grp (n p : Nat) (CT : CTB2) : GRP := List.rec (motive := fun _ => GRP) [] (fun q _ ih => grI n p q ih) CT
noncomputable def flGr (gs : GRP) : CTB2 := List.rec (motive := fun _ => CTB2) [] (fun g _ ih => g.2 ++ ih) gs
theorem grI_fl {n p : Nat} {q : Nat × Nat × Nat × Con2 × List Nat} {gs : GRP} : flGr (grI n p q gs) = q :: flGr gs := by
  cases gs with
  | nil => rfl
  | cons g gs' =>
    show flGr (Bool.rec (motive := fun _ => GRP) ((kyQ n p q.2.2.2.1, [q]) :: g :: gs') ((g.1, q :: g.2) :: gs') (eqO (kyQ n p q.2.2.2.1) g.1)) = _
    cases eqO (kyQ n p q.2.2.2.1) g.1 <;> rfl
theorem grp_fl {n p : Nat} : ∀ {CT : CTB2}, flGr (grp n p CT) = CT
  | [] => rfl
  | q :: r => by
    have ih := grp_fl (n := n) (p := p) (CT := r)
    show flGr (grI n p q (grp n p r)) = _
    rw [grI_fl, ih]
noncomputable def KY (n p : Nat) (gs : GRP) : Prop := ∀ g ∈ gs, ∀ w, g.1 = some w → ∀ q ∈ g.2, kyQ n p q.2.2.2.1 = some w
theorem grI_ky {n p : Nat} {q : Nat × Nat × Nat × Con2 × List Nat} {gs : GRP} (h : KY n p gs) : KY n p (grI n p q gs) := by
  have h1 : ∀ w, kyQ n p q.2.2.2.1 = some w → ∀ x ∈ [q], kyQ n p x.2.2.2.1 = some w := fun w hw x hx => by
    rw [List.mem_singleton] at hx
    rw [hx]
    exact hw
  cases gs with
  | nil =>
    intro g hg
    have hg : g ∈ [(kyQ n p q.2.2.2.1, [q])] := hg
    rw [List.mem_singleton] at hg
    subst hg
    exact h1
  | cons g0 gs' =>
    intro g hg
    have hg : g ∈ (Bool.rec (motive := fun _ => GRP) ((kyQ n p q.2.2.2.1, [q]) :: g0 :: gs') ((g0.1, q :: g0.2) :: gs') (eqO (kyQ n p q.2.2.2.1) g0.1) : GRP) := hg
    cases he : eqO (kyQ n p q.2.2.2.1) g0.1 with
    | false =>
      rw [he] at hg
      rcases List.mem_cons.mp hg with hg | hg
      · subst hg
        exact h1
      · exact h g hg
    | true =>
      rw [he] at hg
      rcases List.mem_cons.mp hg with hg | hg
      · subst hg
        intro w hw x hx
        rcases List.mem_cons.mp hx with hx | hx
        · rw [hx, eqO_ok he]
          exact hw
        · exact h g0 List.mem_cons_self w hw x hx
      · exact h g (List.mem_cons_of_mem _ hg)
theorem grp_ky {n p : Nat} : ∀ {CT : CTB2}, KY n p (grp n p CT)
  | [] => fun _ hg => absurd hg List.not_mem_nil
  | q :: r => grI_ky (grp_ky (CT := r))
theorem pfQ_at : ∀ {cs xs : List AV} {p : Nat} {c x : AV}, cs[p]? = some c → xs[p]? = some x → pf1 c x = false → pfQ cs xs = false
  | [], _, _, _, _, h, _, _ => by simp at h
  | _ :: _, [], _, _, _, _, h, _ => by simp at h
  | c0 :: cs, x0 :: xs, 0, c, x, hc, hx, h => by
    have hc : some c0 = some c := hc
    have hx : some x0 = some x := hx
    cases hc
    cases hx
    show (pf1 c0 x0 && pfQ cs xs) = false
    rw [h, Bool.false_and]
  | c0 :: cs, x0 :: xs, p + 1, c, x, hc, hx, h => by
    show (pf1 c0 x0 && pfQ cs xs) = false
    rw [pfQ_at (cs := cs) (xs := xs) (p := p) (c := c) (x := x) (by simpa using hc) (by simpa using hx) h, Bool.and_false]
theorem pf2_ky {n p : Nat} {k : Con2} {xs : List AV} {w z : Int} (hk : kyQ n p k = some w) (hx : kvQ p xs = some z) (hn : eqZ w z = false) : pf2 n xs k = false := by
  unfold kyQ at hk
  unfold kvQ at hx
  unfold pf2
  cases hl : Nat.beq (lenG k.2.2.1.1) n with
  | false => rw [hl] at hk; cases hk
  | true =>
    rw [hl] at hk
    show pfQ k.2.2.1.1 xs = false
    cases hc : nthG k.2.2.1.1 p with
    | none => rw [hc] at hk; cases hk
    | some c =>
      rw [hc] at hk
      cases hy : nthG xs p with
      | none => rw [hy] at hx; cases hx
      | some x =>
        rw [hy] at hx
        have hk : Bool.rec (motive := fun _ => Option Int) none (some c.2.1) (Nat.beq c.1 0) = some w := hk
        have hx : Bool.rec (motive := fun _ => Option Int) none (some x.2.1) (Nat.beq x.1 0) = some z := hx
        cases hc0 : Nat.beq c.1 0 with
        | false => rw [hc0] at hk; cases hk
        | true =>
          cases hx0 : Nat.beq x.1 0 with
          | false => rw [hx0] at hx; cases hx
          | true =>
            rw [hc0] at hk
            rw [hx0] at hx
            have hk : some c.2.1 = some w := hk
            have hx : some x.2.1 = some z := hx
            cases hk
            cases hx
            rw [nthG_eq] at hc hy
            refine pfQ_at hc hy ?_
            unfold pf1
            rw [hc0, hx0]
            exact hn
theorem trcN_app {d : Nat} {R : Nat × Nat} {x : ASR} {n : Nat} {xs : List AV} : ∀ {A B : CTB2}, trcN d R x n xs (A ++ B) = Option.rec (motive := fun _ => Option (List ASR)) (trcN d R x n xs B) (fun L => some L) (trcN d R x n xs A)
  | [], B => rfl
  | q :: A, B => by
    have ih := trcN_app (d := d) (R := R) (x := x) (n := n) (xs := xs) (A := A) (B := B)
    show Bool.rec (motive := fun _ => Option (List ASR)) (trcN d R x n xs (A ++ B)) (Option.rec (motive := fun _ => Option (List ASR)) (trcN d R x n xs (A ++ B)) (fun L => some L) (cllQ d R x.1 x.2 q.2.2.2.1 q.2.2.2.2)) (pf2 n xs q.2.2.2.1) = Option.rec (motive := fun _ => Option (List ASR)) (trcN d R x n xs B) (fun L => some L) (Bool.rec (motive := fun _ => Option (List ASR)) (trcN d R x n xs A) (Option.rec (motive := fun _ => Option (List ASR)) (trcN d R x n xs A) (fun L => some L) (cllQ d R x.1 x.2 q.2.2.2.1 q.2.2.2.2)) (pf2 n xs q.2.2.2.1))
    rw [ih]
    cases pf2 n xs q.2.2.2.1 with
    | false => rfl
    | true => cases cllQ d R x.1 x.2 q.2.2.2.1 q.2.2.2.2 <;> rfl
theorem trcN_no {d : Nat} {R : Nat × Nat} {x : ASR} {n : Nat} {xs : List AV} : ∀ {A : CTB2}, (∀ q ∈ A, pf2 n xs q.2.2.2.1 = false) → trcN d R x n xs A = none
  | [], _ => rfl
  | q :: A, h => by
    show Bool.rec (motive := fun _ => Option (List ASR)) (trcN d R x n xs A) (Option.rec (motive := fun _ => Option (List ASR)) (trcN d R x n xs A) (fun L => some L) (cllQ d R x.1 x.2 q.2.2.2.1 q.2.2.2.2)) (pf2 n xs q.2.2.2.1) = none
    rw [h q List.mem_cons_self]
    exact trcN_no (A := A) (fun q' hq => h q' (List.mem_cons_of_mem _ hq))
noncomputable def trcL (d : Nat) (R : Nat × Nat) (x : ASR) (n : Nat) (xs : List AV) (v : Option Int) (gs : GRP) : Option (List ASR) := List.rec (motive := fun _ => Option (List ASR)) none (fun g _ ih => Bool.rec (motive := fun _ => Option (List ASR)) (Option.rec (motive := fun _ => Option (List ASR)) ih (fun L => some L) (trcN d R x n xs g.2)) ih (noK g.1 v)) gs
theorem trcL_eq {d : Nat} {R : Nat × Nat} {x : ASR} {n p : Nat} {xs : List AV} : ∀ {gs : GRP}, KY n p gs → trcL d R x n xs (kvQ p xs) gs = trcN d R x n xs (flGr gs)
  | [], _ => rfl
  | g :: gs, h => by
    have ih := trcL_eq (d := d) (R := R) (x := x) (n := n) (p := p) (xs := xs) (gs := gs) (fun g' hg => h g' (List.mem_cons_of_mem _ hg))
    show Bool.rec (motive := fun _ => Option (List ASR)) (Option.rec (motive := fun _ => Option (List ASR)) (trcL d R x n xs (kvQ p xs) gs) (fun L => some L) (trcN d R x n xs g.2)) (trcL d R x n xs (kvQ p xs) gs) (noK g.1 (kvQ p xs)) = trcN d R x n xs (g.2 ++ flGr gs)
    rw [ih, trcN_app]
    cases hn : noK g.1 (kvQ p xs) with
    | false => rfl
    | true =>
      obtain ⟨w, z, hw, hz, hne⟩ := noK_ok hn
      have e : trcN d R x n xs g.2 = none := trcN_no (fun q hq => pf2_ky (h g List.mem_cons_self w hw q hq) hz hne)
      rw [e] <;> rfl
/-- the first place where a number tells the calls apart -/
noncomputable def psQ (n : Nat) (CT : CTB2) : Nat := List.rec (motive := fun _ => Nat) 0 (fun q r _ => List.rec (motive := fun _ => Nat → Nat) (fun _ => 0) (fun c _ ih i => Bool.rec (motive := fun _ => Nat) (ih (Nat.succ i)) (Bool.rec (motive := fun _ => Nat) (ih (Nat.succ i)) i (List.rec (motive := fun _ => Bool) false (fun q' _ ih' => Bool.rec (motive := fun _ => Bool) ih' true (noK (kyQ n i q'.2.2.2.1) (some c.2.1))) r)) (Nat.beq c.1 0)) q.2.2.2.1.2.2.1.1 0) CT
noncomputable def trcM (d : Nat) (R : Nat × Nat) (x : ASR) (n p : Nat) (xs : List AV) (CT : CTB2) : Option (List ASR) := Bool.rec (motive := fun _ => Option (List ASR)) (trcN d R x n xs CT) (trcL d R x n xs (kvQ p xs) (grp n p CT)) (Nat.ble 4 (lenG CT))
theorem trcM_eq {d : Nat} {R : Nat × Nat} {x : ASR} {n p : Nat} {xs : List AV} {CT : CTB2} : trcM d R x n p xs CT = trcN d R x n xs CT := by
  unfold trcM
  cases Nat.ble 4 (lenG CT) with
  | false => rfl
  | true =>
    show trcL d R x n xs (kvQ p xs) (grp n p CT) = _
    rw [trcL_eq grp_ky, grp_fl]
noncomputable def trcH (d : Nat) (R : Nat × Nat) (x : ASR) (CT : CTB2) : Option (List ASR) := trcM d R x (nA CT) (psQ (nA CT) CT) (x.1.2.2.1.take (nA CT)).reverse CT
theorem trcH_eq {d : Nat} {R : Nat × Nat} {x : ASR} {CT : CTB2} : trcH d R x CT = trcG d R x CT := trcM_eq.trans trcN_eq
/-! ends, cut points -/
noncomputable def cm2 (n0 : Nat) (Ga Gb : GI) (r : Option (Int × Int)) (q : Nat) (c x : AV) : Bool := Bool.rec (motive := fun _ => Bool)
  (Bool.rec (motive := fun _ => Bool) (cm1 n0 Ga Gb q c x) (subVQ n0 Ga x c && zinG r) (Nat.beq c.1 0 || (Nat.beq c.1 2 || Nat.beq c.1 5)))
  (Bool.rec (motive := fun _ => Bool) (cm1 n0 Ga Gb q c x) true (eqZ c.2.1 (Int.ofNat (n0 + q)) && (eqZ c.2.2 (Int.ofNat 0) && inG (ivL Ga x) r))) (Nat.beq c.1 4)
noncomputable def cm1G (n0 : Nat) (Ga Gb : GI) (r : Option (Int × Int)) (q : Nat) (c x : AV) : Bool := Bool.rec (motive := fun _ => Bool)
  (Bool.rec (motive := fun _ => Bool) (cm2 n0 Ga Gb r q c x)
    (Bool.rec (motive := fun _ => Bool) (cm1 n0 Ga Gb q c x) true ((eqZ c.2.1 (Int.ofNat (n0 + q)) && (eqZ c.2.2 (Int.ofNat 0) && inG (ivIG Ga x) r)) || (Nat.ble (Nat.succ c.2.1.toNat) n0 && (eqAV x c && zinG r)))) (Nat.beq c.1 1))
  (eqAV x c && zinG r) (Nat.beq c.1 8 || Nat.beq c.1 6)
theorem zinG_m {r : Option (Int × Int)} : zinG r = true → (match r with
    | some r => decide (r.1 ≤ 0 ∧ 0 ≤ r.2)
    | none => false) = true := by
  intro h
  obtain ⟨q, rfl, h2⟩ := zinG_iff.mp h
  exact decide_eq_true h2
theorem cm2_ok {n0 : Nat} {Ga Gb : GI} {r : Option (Int × Int)} {q : Nat} {c x : AV} (hr : r = Gb[n0 + q]?) (h : cm2 n0 Ga Gb r q c x = true) : cm1 n0 Ga Gb q c x = true := by
  obtain ⟨t, b, c2⟩ := c
  have h : Bool.rec (motive := fun _ => Bool) (Bool.rec (motive := fun _ => Bool) (cm1 n0 Ga Gb q (t, b, c2) x) (subVQ n0 Ga x (t, b, c2) && zinG r) (Nat.beq t 0 || (Nat.beq t 2 || Nat.beq t 5))) (Bool.rec (motive := fun _ => Bool) (cm1 n0 Ga Gb q (t, b, c2) x) true (eqZ b (Int.ofNat (n0 + q)) && (eqZ c2 (Int.ofNat 0) && inG (ivL Ga x) r))) (Nat.beq t 4) = true := h
  cases h4 : Nat.beq t 4 with
  | true =>
    rw [h4] at h
    have h : Bool.rec (motive := fun _ => Bool) (cm1 n0 Ga Gb q (t, b, c2) x) true (eqZ b (Int.ofNat (n0 + q)) && (eqZ c2 (Int.ofNat 0) && inG (ivL Ga x) r)) = true := h
    cases hq : (eqZ b (Int.ofNat (n0 + q)) && (eqZ c2 (Int.ofNat 0) && inG (ivL Ga x) r)) with
    | false => rw [hq] at h; exact h
    | true =>
      have h4 := nb_iff.mp h4
      subst h4
      rw [Bool.and_eq_true, Bool.and_eq_true, eqZ_iff, eqZ_iff] at hq
      obtain ⟨e1, e2, e3⟩ := hq
      have e1 : b = Int.ofNat (n0 + q) := e1
      have e2 : c2 = 0 := e2
      show (if b.toNat < n0 then decide (x = (4, b, c2)) && (match nthG Gb (n0 + q) with
        | some r => decide (r.1 ≤ 0 ∧ 0 ≤ r.2)
        | none => false) else decide (b = ((n0 + q : Nat) : Int) ∧ c2 = 0) && (match ivL Ga x, nthG Gb (n0 + q) with
        | some p, some r => decide (r.1 ≤ p.1 ∧ p.2 ≤ r.2)
        | _, _ => false)) = true
      have hnn : ¬ b.toNat < n0 := by rw [e1]; show ¬ n0 + q < n0; omega
      rw [if_neg hnn, Bool.and_eq_true]
      refine ⟨decide_eq_true ⟨e1, e2⟩, ?_⟩
      exact (inN_eq (o := ivL Ga x) hr).symm.trans e3
  | false =>
    rw [h4] at h
    have h : Bool.rec (motive := fun _ => Bool) (cm1 n0 Ga Gb q (t, b, c2) x) (subVQ n0 Ga x (t, b, c2) && zinG r) (Nat.beq t 0 || (Nat.beq t 2 || Nat.beq t 5)) = true := h
    cases hs : (Nat.beq t 0 || (Nat.beq t 2 || Nat.beq t 5)) with
    | false => rw [hs] at h; exact h
    | true =>
      rw [hs] at h
      have h : (subVQ n0 Ga x (t, b, c2) && zinG r) = true := h
      rw [Bool.and_eq_true, subVQ_eq] at h
      have h3 := zinG_m h.2
      rw [hr, ← nthG_eq] at h3
      rw [Bool.or_eq_true, Bool.or_eq_true, nb_iff, nb_iff, nb_iff] at hs
      rcases hs with rfl | rfl | rfl
      · show ((if (0 : Nat) = 11 then decide (x = (0, b, c2)) else subV n0 Ga x (0, b, c2)) && _) = true
        rw [if_neg (by decide), Bool.and_eq_true]
        exact ⟨h.1, h3⟩
      · show ((if (2 : Nat) = 11 then decide (x = (2, b, c2)) else subV n0 Ga x (2, b, c2)) && _) = true
        rw [if_neg (by decide), Bool.and_eq_true]
        exact ⟨h.1, h3⟩
      · show ((if (5 : Nat) = 11 then decide (x = (5, b, c2)) else subV n0 Ga x (5, b, c2)) && _) = true
        rw [if_neg (by decide), Bool.and_eq_true]
        exact ⟨h.1, h3⟩
theorem cm1G_ok {n0 : Nat} {Ga Gb : GI} {r : Option (Int × Int)} {q : Nat} {c x : AV} (hr : r = Gb[n0 + q]?) (h : cm1G n0 Ga Gb r q c x = true) : cm1 n0 Ga Gb q c x = true := by
  unfold cm1G at h
  cases h8 : (Nat.beq c.1 8 || Nat.beq c.1 6) with
  | true =>
    rw [h8] at h
    have h : (eqAV x c && zinG r) = true := h
    rw [Bool.and_eq_true, eqAV_iff] at h
    obtain ⟨rfl, h2⟩ := h
    have h3 := zinG_m h2
    rw [hr, ← nthG_eq] at h3
    rw [Bool.or_eq_true, Nat.beq_eq, Nat.beq_eq] at h8
    obtain ⟨t, b, c2⟩ := x
    have h8 : t = 8 ∨ t = 6 := h8
    rcases h8 with rfl | rfl
    · show ((if (8 : Nat) = 11 then _ else decide (((8, b, c2) : AV) = (8, b, c2))) && _) = true
      rw [if_neg (by decide), Bool.and_eq_true]
      exact ⟨decide_eq_true rfl, h3⟩
    · show ((if (6 : Nat) = 11 then _ else decide (((6, b, c2) : AV) = (6, b, c2))) && _) = true
      rw [if_neg (by decide), Bool.and_eq_true]
      exact ⟨decide_eq_true rfl, h3⟩
  | false =>
    rw [h8] at h
    cases h1 : Nat.beq c.1 1 with
    | false => rw [h1] at h; exact cm2_ok hr h
    | true =>
      rw [h1] at h
      have h : Bool.rec (motive := fun _ => Bool) (cm1 n0 Ga Gb q c x) true ((eqZ c.2.1 (Int.ofNat (n0 + q)) && (eqZ c.2.2 (Int.ofNat 0) && inG (ivIG Ga x) r)) || (Nat.ble (Nat.succ c.2.1.toNat) n0 && (eqAV x c && zinG r))) = true := h
      cases hq : ((eqZ c.2.1 (Int.ofNat (n0 + q)) && (eqZ c.2.2 (Int.ofNat 0) && inG (ivIG Ga x) r)) || (Nat.ble (Nat.succ c.2.1.toNat) n0 && (eqAV x c && zinG r))) with
      | false => rw [hq] at h; exact h
      | true =>
        obtain ⟨t, b, c2⟩ := c
        have h1 : t = 1 := Nat.beq_eq.mp h1
        subst h1
        rw [Bool.or_eq_true] at hq
        show (if b.toNat < n0 then decide (x = (1, b, c2)) && (match nthG Gb (n0 + q) with
          | some r => decide (r.1 ≤ 0 ∧ 0 ≤ r.2)
          | none => false) else decide (b = ((n0 + q : Nat) : Int) ∧ c2 = 0) && (match ivI Ga x, nthG Gb (n0 + q) with
          | some p, some r => decide (r.1 ≤ p.1 ∧ p.2 ≤ r.2)
          | _, _ => false)) = true
        rcases hq with hq | hq
        · rw [Bool.and_eq_true, Bool.and_eq_true, eqZ_iff, eqZ_iff] at hq
          obtain ⟨e1, e2, e3⟩ := hq
          have e1 : b = Int.ofNat (n0 + q) := e1
          have e2 : c2 = 0 := e2
          have hnn : ¬ b.toNat < n0 := by rw [e1]; show ¬ n0 + q < n0; omega
          rw [if_neg hnn, Bool.and_eq_true]
          refine ⟨decide_eq_true ⟨e1, e2⟩, ?_⟩
          rw [ivIG_eq] at e3
          rw [nthG_eq, ← hr]
          cases hv : ivI Ga x with
          | none => rw [hv] at e3; cases e3
          | some p =>
            rw [hv] at e3
            cases r with
            | none => cases e3
            | some r =>
              have e3 : (leZ r.1 p.1 && leZ p.2 r.2) = true := e3
              rw [Bool.and_eq_true, leZ_iff, leZ_iff] at e3
              exact decide_eq_true e3
        · rw [Bool.and_eq_true, Bool.and_eq_true, Nat.ble_eq, eqAV_iff] at hq
          obtain ⟨e1, e2, e3⟩ := hq
          have e1 : Nat.succ b.toNat ≤ n0 := e1
          have hlt : b.toNat < n0 := e1
          rw [if_pos hlt, Bool.and_eq_true]
          refine ⟨decide_eq_true e2, ?_⟩
          have h3 := zinG_m e3
          rw [hr, ← nthG_eq] at h3
          exact h3
noncomputable def cmsG (n0 : Nat) (Ga Gb : GI) (cs : List AV) : Nat → List AV → GI → Bool := List.rec (motive := fun _ => Nat → List AV → GI → Bool) (fun _ xs _ => List.rec (motive := fun _ => Bool) true (fun _ _ _ => false) xs)
  (fun c _ ih q xs rs => List.rec (motive := fun _ => Bool) false (fun x xs' _ => cm1G n0 Ga Gb (hdG rs) q c x && ih (Nat.succ q) xs' (tlG rs)) xs) cs
theorem cmsG_ok {n0 : Nat} {Ga Gb : GI} : ∀ {cs : List AV} {q : Nat} {xs : List AV} {rs : GI}, rs = Gb.drop (n0 + q) → cmsG n0 Ga Gb cs q xs rs = true → cms n0 Ga Gb q cs xs = true
  | [], q, [], rs, _, _ => by unfold cms; rfl
  | [], q, _ :: _, rs, _, h => by cases h
  | _ :: _, q, [], rs, _, h => by cases h
  | c :: cs, q, x :: xs, rs, hr, h => by
    have h : (cm1G n0 Ga Gb (hdG rs) q c x && cmsG n0 Ga Gb cs (Nat.succ q) xs (tlG rs)) = true := h
    rw [Bool.and_eq_true] at h
    unfold cms
    rw [Bool.and_eq_true]
    exact ⟨cm1G_ok (by rw [hr, hdG_drop]) h.1, cmsG_ok (by rw [hr, tlG_drop]; rfl) h.2⟩
/-! untouched fields, cells' names at cut points, briefly -/
noncomputable def eqA3 (a b : AV) : Bool := Bool.rec (motive := fun _ => Bool) false (Bool.rec (motive := fun _ => Bool) false (eqZ a.2.2 b.2.2) (eqZ a.2.1 b.2.1)) (Nat.beq a.1 b.1)
theorem eqA3_eq {a b : AV} : eqA3 a b = eqAV a b := by
  unfold eqA3 eqAV
  cases Nat.beq a.1 b.1 with
  | false => rfl
  | true => cases eqZ a.2.1 b.2.1 <;> rfl
noncomputable def okCs (cs : List AV) : GI → Bool := List.rec (motive := fun _ => GI → Bool) (fun _ => true) (fun c _ ih rs => Bool.rec (motive := fun _ => Bool) (ih (tlG rs)) (zinG (hdG rs) && ih (tlG rs)) (Nat.beq c.1 8 || Nat.beq c.1 6)) cs
noncomputable def ndC (cs : List AV) : Nat → GI → List (Bool × Nat × AV × Option (Int × Int)) := List.rec (motive := fun _ => Nat → GI → List (Bool × Nat × AV × Option (Int × Int))) (fun _ _ => []) (fun c _ ih q rs => (Nat.beq c.1 8 || Nat.beq c.1 6, q, c, hdG rs) :: ih (Nat.succ q) (tlG rs)) cs
noncomputable def cmFs (n0 : Nat) (Ga Gb : GI) (L : List (Bool × Nat × AV × Option (Int × Int))) : List AV → Bool := List.rec (motive := fun _ => List AV → Bool) (fun xs => List.rec (motive := fun _ => Bool) true (fun _ _ _ => false) xs)
  (fun e _ ih xs => List.rec (motive := fun _ => Bool) false (fun x xs' _ => bA (Bool.rec (motive := fun _ => Bool) (cm1G n0 Ga Gb e.2.2.2 e.2.1 e.2.2.1 x) (eqA3 x e.2.2.1) e.1) (ih xs')) xs) L
theorem cmFs_ok {n0 : Nat} {Ga Gb : GI} : ∀ {cs : List AV} {q : Nat} {xs : List AV} {rs : GI}, okCs cs rs = true → cmFs n0 Ga Gb (ndC cs q rs) xs = true → cmsG n0 Ga Gb cs q xs rs = true
  | [], q, xs, rs, _, h => h
  | c :: cs, q, [], rs, _, h => by cases h
  | c :: cs, q, x :: xs, rs, hk, h => by
    have h : bA (Bool.rec (motive := fun _ => Bool) (cm1G n0 Ga Gb (hdG rs) q c x) (eqA3 x c) (Nat.beq c.1 8 || Nat.beq c.1 6)) (cmFs n0 Ga Gb (ndC cs (Nat.succ q) (tlG rs)) xs) = true := h
    have hk : Bool.rec (motive := fun _ => Bool) (okCs cs (tlG rs)) (zinG (hdG rs) && okCs cs (tlG rs)) (Nat.beq c.1 8 || Nat.beq c.1 6) = true := hk
    rw [bA_eq, Bool.and_eq_true] at h
    show (cm1G n0 Ga Gb (hdG rs) q c x && cmsG n0 Ga Gb cs (Nat.succ q) xs (tlG rs)) = true
    rw [Bool.and_eq_true]
    cases hb : (Nat.beq c.1 8 || Nat.beq c.1 6) with
    | false =>
      rw [hb] at h hk
      exact ⟨h.1, cmFs_ok hk h.2⟩
    | true =>
      rw [hb] at h hk
      have hk : (zinG (hdG rs) && okCs cs (tlG rs)) = true := hk
      rw [Bool.and_eq_true] at hk
      have h1 : eqA3 x c = true := h.1
      rw [eqA3_eq] at h1
      refine ⟨?_, cmFs_ok hk.2 h.2⟩
      unfold cm1G
      rw [hb]
      show (eqAV x c && zinG (hdG rs)) = true
      rw [Bool.and_eq_true]
      exact ⟨h1, hk.1⟩
noncomputable def subGG (ps : GI) : GI → Bool := List.rec (motive := fun _ => GI → Bool) (fun qs => List.rec (motive := fun _ => Bool) true (fun _ _ _ => false) qs)
  (fun p _ ih qs => List.rec (motive := fun _ => Bool) true (fun q qs' _ => bA (leZ q.1 p.1) (bA (leZ p.2 q.2) (ih qs'))) qs) ps
theorem subGG_ok : ∀ {ps qs : GI}, subGG ps qs = true → subG ps qs = true
  | [], [], _ => by unfold subG; rfl
  | [], _ :: _, h => by cases h
  | _ :: _, [], _ => by unfold subG; rfl
  | p :: ps, q :: qs, h => by
    have h : bA (leZ q.1 p.1) (bA (leZ p.2 q.2) (subGG ps qs)) = true := h
    rw [bA_eq, bA_eq, Bool.and_eq_true, Bool.and_eq_true, leZ_iff, leZ_iff] at h
    unfold subG
    rw [Bool.and_eq_true]
    exact ⟨decide_eq_true ⟨h.1, h.2.1⟩, subGG_ok h.2.2⟩
noncomputable def patG (d n0 : Nat) (a : AS) (r : RLs) (cs xs : List AV) (Gb : GI) (hp : HP) (rl : RLs) : Bool := match fXfQ hp a.2.2.2.2 with
  | none => false
  | some zs => decide (Gb.length = n0 + (cs ++ fAf hp).length) && ((okCs (cs ++ fAf hp) (drpG Gb n0) && cmFs n0 a.2.2.2.1 Gb (ndC (cs ++ fAf hp) 0 (drpG Gb n0)) (appG xs zs)) && (subGG a.2.2.2.1 (Gb.take n0) && (cmFQ n0 a.2.2.2.1 hp a.2.2.2.2 && wEnN d n0 a.2.2.2.1 r (cs ++ fAf hp) (appG xs zs) rl)))
theorem patG_ok {d n0 : Nat} {a : AS} {r : RLs} {cs xs : List AV} {Gb : GI} {hp : HP} {rl : RLs} (h : patG d n0 a r cs xs Gb hp rl = true) : patM d n0 a r cs xs Gb hp rl = true := by
  unfold patG at h
  rw [fXfQ_eq] at h
  simp only [cmFQ_eq, wEnN_eq, appG_eq] at h
  unfold patM
  split at h
  · cases h
  · rename_i zs hz
    rw [hz]
    simp only [Bool.and_eq_true] at h ⊢
    exact ⟨h.1, cmsG_ok (by rw [drpG_eq]; rfl) (cmFs_ok h.2.1.1 h.2.1.2), subGG_ok h.2.2.1, h.2.2.2⟩
noncomputable def finOG (d n0 : Nat) (a : AS) (r : RLs) (v : Option AV) (o : Out2) : Bool := match v with
  | none => decide (o.1.1 = 9) && (decide (o.2.2.2.2 = (leadO o ++ fAf o.2.2.1).map (tgN n0)) && patG d n0 a r (leadO o) [] o.2.1 o.2.2.1 o.2.2.2.1)
  | some x => decide (o.1.1 ≠ 9) && (decide (o.2.2.2.2 = (leadO o ++ fAf o.2.2.1).map (tgN n0)) && patG d n0 a r (leadO o) [x] o.2.1 o.2.2.1 o.2.2.2.1)
theorem finOG_ok {d n0 : Nat} {a : AS} {r : RLs} {v : Option AV} {o : Out2} (h : finOG d n0 a r v o = true) : finO d n0 a r v o = true := by
  cases v with
  | none =>
    unfold finOG at h
    unfold finO
    simp only [Bool.and_eq_true] at h ⊢
    exact ⟨h.1, h.2.1, patG_ok h.2.2⟩
  | some x =>
    unfold finOG at h
    unfold finO
    simp only [Bool.and_eq_true] at h ⊢
    exact ⟨h.1, h.2.1, patG_ok h.2.2⟩
theorem anyO {d n0 : Nat} {a : AS} {r : RLs} {v : Option AV} {outs : List Out2} (h : outs.any (finOG d n0 a r v) = true) : outs.any (finO d n0 a r v) = true := by
  obtain ⟨o, h1, h2⟩ := List.any_eq_true.mp h
  exact List.any_eq_true.mpr ⟨o, h1, finOG_ok h2⟩
noncomputable def finRG (ret : Option FieldType) (d n0 : Nat) (outs : List Out2) (ins : ClassFile.Instr) (len : Nat) (x : ASR) : Bool := match ins with
  | .ireturn => match x.1.2.2.1 with
    | [v] => decide (len = 1 ∧ v.1 ≤ 2) && ((decide (ret = some .int) || (decide (ret = some .boolean) && (match ivI x.1.2.2.2.1 v with
      | some q => decide (0 ≤ q.1 ∧ q.2 ≤ 1)
      | none => false))) && outs.any (finOG d n0 x.1 x.2 (some v)))
    | _ => false
  | .lreturn => match x.1.2.2.1 with
    | [v] => decide (len = 1 ∧ 3 ≤ v.1 ∧ v.1 ≤ 5 ∧ ret = some .long) && outs.any (finOG d n0 x.1 x.2 (some v))
    | _ => false
  | .return_ => match x.1.2.2.1 with
    | [] => decide (len = 1 ∧ ret = none) && outs.any (finOG d n0 x.1 x.2 none)
    | _ => false
  | _ => false
theorem finRG_ok {ret : Option FieldType} {d n0 : Nat} {outs : List Out2} {ins : ClassFile.Instr} {len : Nat} {x : ASR} (h : finRG ret d n0 outs ins len x = true) : finR ret d n0 outs ins len x = true := by
  unfold finRG at h
  unfold finR
  split at h
  · split at h
    · rename_i v hv
      simp only [hv]
      rw [Bool.and_eq_true, Bool.and_eq_true] at h
      rw [Bool.and_eq_true, Bool.and_eq_true]
      exact ⟨h.1, h.2.1, anyO h.2.2⟩
    · cases h
  · split at h
    · rename_i v hv
      simp only [hv]
      rw [Bool.and_eq_true] at h
      rw [Bool.and_eq_true]
      exact ⟨h.1, anyO h.2⟩
    · cases h
  · split at h
    · rename_i hv
      simp only [hv]
      rw [Bool.and_eq_true] at h
      rw [Bool.and_eq_true]
      exact ⟨h.1, anyO h.2⟩
    · cases h
  · cases h
noncomputable def cutWG (d n0 : Nat) (x : ASR) (k : CUT2) : Bool := match pkL x.1.2.1 k.1.2.1, x.1.2.2.1, k.1.2.2.1 with
  | some xs, [], [] => decide (x.1.1 = k.1.1) && (k.1.2.1.all (fun q => decide (q.2.1 ≠ 8)) && patG d n0 x.1 x.2 (k.1.2.1.map Prod.snd) xs k.1.2.2.2.1 k.1.2.2.2.2 k.2.1)
  | _, _, _ => false
theorem cutWG_ok {d n0 : Nat} {x : ASR} {k : CUT2} (h : cutWG d n0 x k = true) : cutW d n0 x k = true := by
  unfold cutWG at h
  unfold cutW
  split at h
  · rename_i xs h1 h2 h3
    rw [h1, h2, h3]
    simp only [Bool.and_eq_true] at h ⊢
    exact ⟨h.1, h.2.1, patG_ok h.2.2⟩
  · cases h
