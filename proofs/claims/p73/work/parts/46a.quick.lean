/-! ===== the same functions, quicker for the kernel: direct recursion, lists walked once ===== -/
noncomputable def ivIG (G : GI) (a : AV) : Option (Int × Int) := ivI G a
theorem ivIG_eq {G : GI} {a : AV} : ivIG G a = ivI G a := rfl
/-- 0 lies there -/
noncomputable def zinG (r : Option (Int × Int)) : Bool := Option.rec (motive := fun _ => Bool) false (fun q => leZ q.1 0 && leZ 0 q.2) r
theorem zinG_iff {r : Option (Int × Int)} : zinG r = true ↔ ∃ q, r = some q ∧ q.1 ≤ 0 ∧ 0 ≤ q.2 := by
  cases r with
  | none =>
    constructor
    · intro h; cases h
    · rintro ⟨q, h, -⟩; cases h
  | some q =>
    show (leZ q.1 0 && leZ 0 q.2) = true ↔ _
    rw [Bool.and_eq_true, leZ_iff, leZ_iff]
    constructor
    · intro h; exact ⟨q, rfl, h⟩
    · rintro ⟨q', h, h2⟩; cases h; exact h2
noncomputable def inG (o : Option (Int × Int)) (r : Option (Int × Int)) : Bool := Option.rec (motive := fun _ => Bool) false (fun q => Option.rec (motive := fun _ => Bool) false (fun r => leZ r.1 q.1 && leZ q.2 r.2) r) o
/-! rows, matches: Bools walked directly -/
noncomputable def eqAV (a b : AV) : Bool := Nat.beq a.1 b.1 && (eqZ a.2.1 b.2.1 && eqZ a.2.2 b.2.2)
theorem eqAV_iff {a b : AV} : eqAV a b = true ↔ a = b := by
  obtain ⟨a1, a2, a3⟩ := a
  obtain ⟨b1, b2, b3⟩ := b
  show (Nat.beq a1 b1 && (eqZ a2 b2 && eqZ a3 b3)) = true ↔ _
  rw [Bool.and_eq_true, Bool.and_eq_true, Nat.beq_eq, eqZ_iff, eqZ_iff, Prod.mk.injEq, Prod.mk.injEq]
theorem nb_iff {a b : Nat} : Nat.beq a b = true ↔ a = b := by rw [Nat.beq_eq]
theorem bd_and {a b : Prop} [Decidable a] [Decidable b] {f g : Bool} (h1 : f = true ↔ a) (h2 : g = true ↔ b) : decide (a ∧ b) = (f && g) := by
  refine Bool.eq_iff_iff.mpr ?_
  rw [decide_eq_true_iff, Bool.and_eq_true, h1, h2]
theorem bd_one {a : Prop} [Decidable a] {f : Bool} (h1 : f = true ↔ a) : decide a = f := by
  refine Bool.eq_iff_iff.mpr ?_
  rw [decide_eq_true_iff, h1]
theorem and_cg {a a' b b' : Bool} (h1 : a = a') (h2 : b = b') : (a && b) = (a' && b') := by rw [h1, h2]
noncomputable def ivb (o : Option (Int × Int)) (lo hi : Int) : Bool := Option.rec (motive := fun _ => Bool) false (fun p => leZ lo p.1 && leZ p.2 hi) o
noncomputable def ivq (o : Option (Int × Int)) (z : Int) : Bool := Option.rec (motive := fun _ => Bool) false (fun p => eqZ p.1 z && eqZ p.2 z) o
theorem ivb_eq {o : Option (Int × Int)} {lo hi : Int} : ivb o lo hi = (match o with
    | some p => decide (lo ≤ p.1 ∧ p.2 ≤ hi)
    | none => false) := by
  cases o with
  | none => rfl
  | some p => exact (bd_and leZ_iff leZ_iff).symm
theorem ivq_eq {o : Option (Int × Int)} {z : Int} : ivq o z = (match o with
    | some p => decide (p.1 = z ∧ p.2 = z)
    | none => false) := by
  cases o with
  | none => rfl
  | some p => exact (bd_and eqZ_iff eqZ_iff).symm
noncomputable def subVQ (n : Nat) (G : GI) (a b : AV) : Bool := Bool.rec (motive := fun _ => Bool)
  (Bool.rec (motive := fun _ => Bool)
    (Bool.rec (motive := fun _ => Bool)
      (Bool.rec (motive := fun _ => Bool) (subV n G a b) (eqAV a b) (Nat.beq b.1 8))
      (ivb (ivL G a) b.2.1 b.2.2) (Nat.beq b.1 5))
    (ivq (ivI G a) b.2.1) (Nat.beq b.1 0))
  (ivb (ivI G a) b.2.1 b.2.2) (Nat.beq b.1 2)
theorem subVQ_eq {n : Nat} {G : GI} {a b : AV} : subVQ n G a b = subV n G a b := by
  obtain ⟨t, b1, b2⟩ := b
  show Bool.rec (motive := fun _ => Bool) (Bool.rec (motive := fun _ => Bool) (Bool.rec (motive := fun _ => Bool) (Bool.rec (motive := fun _ => Bool) (subV n G a (t, b1, b2)) (eqAV a (t, b1, b2)) (Nat.beq t 8)) (ivb (ivL G a) b1 b2) (Nat.beq t 5)) (ivq (ivI G a) b1) (Nat.beq t 0)) (ivb (ivI G a) b1 b2) (Nat.beq t 2) = _
  cases h2 : Nat.beq t 2 with
  | true =>
    have h2 := nb_iff.mp h2
    subst h2
    exact ivb_eq (o := ivI G a) (lo := b1) (hi := b2)
  | false =>
    cases h0 : Nat.beq t 0 with
    | true =>
      have h0 := nb_iff.mp h0
      subst h0
      exact ivq_eq (o := ivI G a) (z := b1)
    | false =>
      cases h5 : Nat.beq t 5 with
      | true =>
        have h5 := nb_iff.mp h5
        subst h5
        exact ivb_eq (o := ivL G a) (lo := b1) (hi := b2)
      | false =>
        cases h8 : Nat.beq t 8 with
        | true =>
          have h8 := nb_iff.mp h8
          subst h8
          exact (bd_one (a := a = (8, b1, b2)) eqAV_iff).symm
        | false => rfl
theorem ovl_end {lo hi : Nat} : ∀ {sg : List (Nat × AV)} {s : Nat}, hi < s → ovl lo hi sg s = []
  | [], s, _ => by unfold ovl; rfl
  | (n, a) :: r, s, h => by
    rw [ovl, if_neg (by omega)]
    exact ovl_end (by omega)
noncomputable def ovlQ (lo hi : Nat) (sg : List (Nat × AV)) : Nat → List AV := List.rec (motive := fun _ => Nat → List AV) (fun _ => []) (fun q _ ih s => Bool.rec (motive := fun _ => List AV) (Bool.rec (motive := fun _ => List AV) (ih (s + q.1)) (q.2 :: ih (s + q.1)) (Nat.ble 1 q.1 && Nat.ble (lo + 1) (s + q.1))) [] (Nat.ble (hi + 1) s)) sg
theorem ovlQ_eq {lo hi : Nat} : ∀ {sg : List (Nat × AV)} {s : Nat}, ovlQ lo hi sg s = ovl lo hi sg s
  | [], s => by unfold ovl; rfl
  | (n, a) :: r, s => by
    have ih := ovlQ_eq (lo := lo) (hi := hi) (sg := r) (s := s + n)
    show Bool.rec (motive := fun _ => List AV) (Bool.rec (motive := fun _ => List AV) (ovlQ lo hi r (s + n)) (a :: ovlQ lo hi r (s + n)) (Nat.ble 1 n && Nat.ble (lo + 1) (s + n))) [] (Nat.ble (hi + 1) s) = _
    cases hs : Nat.ble (hi + 1) s with
    | true =>
      rw [Nat.ble_eq] at hs
      exact (ovl_end (by omega)).symm
    | false =>
      have hs' : ¬ hi < s := fun h => by
        have : Nat.ble (hi + 1) s = true := by rw [Nat.ble_eq]; exact h
        rw [hs] at this
        cases this
      show Bool.rec (motive := fun _ => List AV) (ovlQ lo hi r (s + n)) (a :: ovlQ lo hi r (s + n)) (Nat.ble 1 n && Nat.ble (lo + 1) (s + n)) = _
      rw [ih, ovl]
      cases hb : (Nat.ble 1 n && Nat.ble (lo + 1) (s + n)) with
      | true =>
        have hc : 0 < n ∧ s ≤ hi ∧ lo < s + n := by
          rw [Bool.and_eq_true, Nat.ble_eq, Nat.ble_eq] at hb
          exact ⟨hb.1, by omega, hb.2⟩
        exact (if_pos hc).symm
      | false =>
        have hc : ¬ (0 < n ∧ s ≤ hi ∧ lo < s + n) := fun h => by
          have : (Nat.ble 1 n && Nat.ble (lo + 1) (s + n)) = true := by
            rw [Bool.and_eq_true, Nat.ble_eq, Nat.ble_eq]
            exact ⟨h.1, h.2.2⟩
          rw [hb] at this
          cases this
        exact (if_neg hc).symm
noncomputable def lkQ (sg : List (Nat × AV)) : Nat → Option AV := List.rec (motive := fun _ => Nat → Option AV) (fun _ => none) (fun q _ ih i => Bool.rec (motive := fun _ => Option AV) (ih (i - q.1)) (some q.2) (Nat.ble (i + 1) q.1)) sg
theorem lkQ_eq : ∀ {sg : List (Nat × AV)} {i : Nat}, lkQ sg i = lk sg i
  | [], i => by unfold lk; rfl
  | (n, a) :: r, i => by
    have ih := lkQ_eq (sg := r) (i := i - n)
    show Bool.rec (motive := fun _ => Option AV) (lkQ r (i - n)) (some a) (Nat.ble (i + 1) n) = _
    rw [ih, lk]
    cases hb : Nat.ble (i + 1) n with
    | true =>
      have hc : i < n := by rw [Nat.ble_eq] at hb; exact hb
      exact (if_pos hc).symm
    | false =>
      have hc : ¬ i < n := fun h => by
        have : Nat.ble (i + 1) n = true := by rw [Nat.ble_eq]; exact h
        rw [hb] at this
        cases this
      exact (if_neg hc).symm
/-! rows side by side -/
theorem nb_no {a b : Nat} (h : ¬ a = b) : Nat.beq a b = false := by
  cases e : Nat.beq a b with
  | true => exact absurd (nb_iff.mp e) h
  | false => rfl
theorem bl_no {a b : Nat} (h : ¬ a ≤ b) : Nat.ble a b = false := by
  cases e : Nat.ble a b with
  | true =>
    rw [Nat.ble_eq] at e
    exact absurd e h
  | false => rfl
theorem bl_ok {a b : Nat} (h : a ≤ b) : Nat.ble a b = true := by rw [Nat.ble_eq]; exact h
theorem lk_cons {n : Nat} {a : AV} {r : List (Nat × AV)} {i : Nat} : lk ((n, a) :: r) i = if i < n then some a else lk r (i - n) := by rw [lk]
noncomputable def dpS (u : List (Nat × AV)) : Nat → List (Nat × AV) := List.rec (motive := fun _ => Nat → List (Nat × AV)) (fun _ => []) (fun q r ih n => Bool.rec (motive := fun _ => List (Nat × AV)) (Bool.rec (motive := fun _ => List (Nat × AV)) ((q.1 - n, q.2) :: r) (ih (n - q.1)) (Nat.ble q.1 n)) r (Nat.beq q.1 n)) u
theorem dpS_lk : ∀ {u : List (Nat × AV)} {n i : Nat}, lk (dpS u n) i = lk u (n + i)
  | [], n, i => by
    show lk [] i = lk [] (n + i)
    rw [lk, lk]
  | (m, a) :: r, n, i => by
    have ih := dpS_lk (u := r) (n := n - m) (i := i)
    show lk (Bool.rec (motive := fun _ => List (Nat × AV)) (Bool.rec (motive := fun _ => List (Nat × AV)) ((m - n, a) :: r) (dpS r (n - m)) (Nat.ble m n)) r (Nat.beq m n)) i = lk ((m, a) :: r) (n + i)
    by_cases e : m = n
    · rw [nb_iff.mpr e]
      show lk r i = _
      rw [lk_cons, if_neg (by omega), show n + i - m = i by omega]
    · rw [nb_no e]
      by_cases l : m ≤ n
      · rw [bl_ok l]
        show lk (dpS r (n - m)) i = _
        rw [ih, lk_cons, if_neg (by omega), show n + i - m = n - m + i by omega]
      · rw [bl_no l]
        show lk ((m - n, a) :: r) i = _
        rw [lk_cons, lk_cons]
        by_cases hi : i < m - n
        · rw [if_pos hi, if_pos (by omega)]
        · rw [if_neg hi, if_neg (by omega), show n + i - m = i - (m - n) by omega]
noncomputable def fXm (t : List (Nat × AV)) : List (Nat × AV) → Option (List AV) := List.rec (motive := fun _ => List (Nat × AV) → Option (List AV)) (fun _ => some []) (fun q _ ih v => Bool.rec (motive := fun _ => Option (List AV)) (ih (dpS v q.1)) (Option.rec (motive := fun _ => Option (List AV)) none (fun x => Option.rec (motive := fun _ => Option (List AV)) none (fun xs => some (x :: xs)) (ih (dpS v 1))) (lkQ v 0)) (Nat.beq q.1 1)) t
theorem fXm_eq {u : List (Nat × AV)} : ∀ {t : List (Nat × AV)} {s : Nat} {v : List (Nat × AV)}, (∀ i, lk v i = lk u (s + i)) → fXm t v = fXl u (sgl t s)
  | [], s, v, _ => by
    have e : sgl [] s = [] := by unfold sgl; rfl
    rw [e]
    unfold fXl
    rfl
  | (n, a) :: r, s, v, h => by
    have e : sgl ((n, a) :: r) s = if n = 1 then (s, a) :: sgl r (s + 1) else sgl r (s + n) := by rw [sgl]
    rw [e]
    show Bool.rec (motive := fun _ => Option (List AV)) (fXm r (dpS v n)) (Option.rec (motive := fun _ => Option (List AV)) none (fun x => Option.rec (motive := fun _ => Option (List AV)) none (fun xs => some (x :: xs)) (fXm r (dpS v 1))) (lkQ v 0)) (Nat.beq n 1) = _
    by_cases hn : n = 1
    · have ih := fXm_eq (u := u) (t := r) (s := s + 1) (v := dpS v 1) (fun i => by rw [dpS_lk, h, Nat.add_assoc])
      have e2 : fXl u ((s, a) :: sgl r (s + 1)) = (match lk u s, fXl u (sgl r (s + 1)) with
        | some x, some xs => some (x :: xs)
        | _, _ => none) := by
        conv => lhs; unfold fXl
        rfl
      rw [if_pos hn, nb_iff.mpr hn, e2]
      show Option.rec (motive := fun _ => Option (List AV)) none (fun x => Option.rec (motive := fun _ => Option (List AV)) none (fun xs => some (x :: xs)) (fXm r (dpS v 1))) (lkQ v 0) = _
      rw [ih, lkQ_eq, h 0, Nat.add_zero]
      cases lk u s with
      | none => rfl
      | some x => cases fXl u (sgl r (s + 1)) <;> rfl
    · rw [if_neg hn, nb_no hn]
      exact fXm_eq (u := u) (t := r) (s := s + n) (v := dpS v n) (fun i => by rw [dpS_lk, h, Nat.add_assoc])
noncomputable def ovP (v : List (Nat × AV)) : Nat → List AV := List.rec (motive := fun _ => Nat → List AV) (fun _ => []) (fun q _ ih n => Bool.rec (motive := fun _ => List AV) (Bool.rec (motive := fun _ => List AV) (ih n) (q.2 :: ih (n - q.1)) (Nat.ble 1 q.1)) [] (Nat.beq n 0)) v
theorem ovP_mem : ∀ {v : List (Nat × AV)} {n : Nat} {x : AV}, x ∈ ovP v n ↔ ∃ i, i < n ∧ lk v i = some x
  | [], n, x => by
    show x ∈ ([] : List AV) ↔ _
    refine ⟨fun h => absurd h List.not_mem_nil, fun ⟨i, _, h⟩ => ?_⟩
    rw [lk] at h
    cases h
  | (m, a) :: r, n, x => by
    show x ∈ (Bool.rec (motive := fun _ => List AV) (Bool.rec (motive := fun _ => List AV) (ovP r n) (a :: ovP r (n - m)) (Nat.ble 1 m)) [] (Nat.beq n 0) : List AV) ↔ _
    by_cases h0 : n = 0
    · rw [nb_iff.mpr h0]
      show x ∈ ([] : List AV) ↔ _
      exact ⟨fun h => absurd h List.not_mem_nil, fun ⟨i, hi, _⟩ => absurd hi (by omega)⟩
    · rw [nb_no h0]
      by_cases hm : 1 ≤ m
      · rw [bl_ok hm]
        show x ∈ a :: ovP r (n - m) ↔ _
        rw [List.mem_cons, ovP_mem]
        constructor
        · intro h
          rcases h with h | ⟨i, hi, h⟩
          · exact ⟨0, by omega, by rw [lk_cons, if_pos (by omega), h]⟩
          · exact ⟨m + i, by omega, by rw [lk_cons, if_neg (by omega), show m + i - m = i by omega]; exact h⟩
        · intro h
          obtain ⟨i, hi, h⟩ := h
          rw [lk_cons] at h
          by_cases hl : i < m
          · rw [if_pos hl] at h
            cases h
            exact Or.inl rfl
          · rw [if_neg hl] at h
            exact Or.inr ⟨i - m, by omega, h⟩
      · rw [bl_no hm]
        show x ∈ ovP r n ↔ _
        rw [ovP_mem]
        constructor
        · intro h
          obtain ⟨i, hi, h⟩ := h
          exact ⟨i, hi, by rw [lk_cons, if_neg (by omega), show i - m = i by omega]; exact h⟩
        · intro h
          obtain ⟨i, hi, h⟩ := h
          rw [lk_cons, if_neg (by omega), show i - m = i by omega] at h
          exact ⟨i, hi, h⟩
theorem ovl_ex {lo hi : Nat} (hlh : lo ≤ hi) : ∀ {sg : List (Nat × AV)} {s : Nat} {x : AV}, x ∈ ovl lo hi sg s → ∃ i, s ≤ i ∧ lo ≤ i ∧ i ≤ hi ∧ lk sg (i - s) = some x
  | [], s, x, h => by
    unfold ovl at h
    cases h
  | (n, a) :: r, s, x, h => by
    rw [ovl] at h
    by_cases hc : 0 < n ∧ s ≤ hi ∧ lo < s + n
    · rw [if_pos hc] at h
      rcases List.mem_cons.mp h with h | h
      · exact ⟨max s lo, by omega, by omega, by omega, by rw [lk_cons, if_pos (by omega), h]⟩
      · obtain ⟨i, h1, h2, h3, h4⟩ := ovl_ex hlh h
        exact ⟨i, by omega, h2, h3, by rw [lk_cons, if_neg (by omega), show i - s - n = i - (s + n) by omega]; exact h4⟩
    · rw [if_neg hc] at h
      obtain ⟨i, h1, h2, h3, h4⟩ := ovl_ex hlh h
      exact ⟨i, by omega, h2, h3, by rw [lk_cons, if_neg (by omega), show i - s - n = i - (s + n) by omega]; exact h4⟩
noncomputable def fXlQ (u l : List (Nat × AV)) : Option (List AV) := List.rec (motive := fun _ => Option (List AV)) (some []) (fun q _ ih => Option.rec (motive := fun _ => Option (List AV)) none (fun x => Option.rec (motive := fun _ => Option (List AV)) none (fun xs => some (x :: xs)) ih) (lkQ u q.1)) l
theorem fXlQ_eq {u : List (Nat × AV)} : ∀ {l : List (Nat × AV)}, fXlQ u l = fXl u l
  | [] => by unfold fXl; rfl
  | q :: r => by
    have ih := fXlQ_eq (u := u) (l := r)
    show Option.rec (motive := fun _ => Option (List AV)) none (fun x => Option.rec (motive := fun _ => Option (List AV)) none (fun xs => some (x :: xs)) (fXlQ u r)) (lkQ u q.1) = _
    rw [ih, lkQ_eq, fXl]
    cases lk u q.1 with
    | none => rfl
    | some x => cases fXl u r <;> rfl
noncomputable def fXQ (c x : AC) : Option (List AV) := Sum.rec (motive := fun _ => Option (List AV)) (fun _ => Sum.rec (motive := fun _ => Option (List AV)) (fun y => some y.2) (fun _ => none) x) (fun t => Sum.rec (motive := fun _ => Option (List AV)) (fun _ => none) (fun u => fXm t.2 u.2) x) c
theorem fXQ_eq {c x : AC} : fXQ c x = fX c x := by
  rcases c with o | t
  · rcases x with y | u <;> rfl
  · rcases x with y | u
    · rfl
    · exact fXm_eq (fun i => by rw [Nat.zero_add])
noncomputable def allQ {α : Type} (f : α → Bool) (l : List α) : Bool := List.rec (motive := fun _ => Bool) true (fun a _ ih => f a && ih) l
theorem allQ_eq {α : Type} {f g : α → Bool} (h : ∀ a, f a = g a) : ∀ {l : List α}, allQ f l = l.all g
  | [] => rfl
  | a :: r => by
    show (f a && allQ f r) = _
    rw [h, allQ_eq h, List.all_cons]
noncomputable def posQ (t : List (Nat × AV)) : Bool := allQ (fun q => Nat.ble 1 q.1) t
noncomputable def lgM (P : AV → AV → Bool) (t : List (Nat × AV)) : List (Nat × AV) → Bool := List.rec (motive := fun _ => List (Nat × AV) → Bool) (fun _ => true) (fun q _ ih v => Bool.rec (motive := fun _ => Bool) (allQ (fun x => P x q.2) (ovP v q.1) && ih (dpS v q.1)) (ih (dpS v 1)) (Nat.beq q.1 1)) t
theorem lgM_eq {P : AV → AV → Bool} {u : List (Nat × AV)} : ∀ {t : List (Nat × AV)} {s : Nat} {v : List (Nat × AV)}, (∀ i, lk v i = lk u (s + i)) → posQ t = true → lgM P t v = (lng t s).all (fun q => (ovl q.1 (q.1 + q.2.1 - 1) u 0).all (fun x => P x q.2.2))
  | [], s, v, _, _ => by
    have e : lng [] s = [] := by unfold lng; rfl
    rw [e]
    rfl
  | (n, a) :: r, s, v, h, hp => by
    have hp : (Nat.ble 1 n && posQ r) = true := hp
    rw [Bool.and_eq_true, Nat.ble_eq] at hp
    have e : lng ((n, a) :: r) s = if n = 1 then lng r (s + 1) else (s, n, a) :: lng r (s + n) := by rw [lng]
    rw [e]
    show Bool.rec (motive := fun _ => Bool) (allQ (fun x => P x a) (ovP v n) && lgM P r (dpS v n)) (lgM P r (dpS v 1)) (Nat.beq n 1) = _
    by_cases hn : n = 1
    · rw [if_pos hn, nb_iff.mpr hn]
      exact lgM_eq (u := u) (t := r) (s := s + 1) (v := dpS v 1) (fun i => by rw [dpS_lk, h, Nat.add_assoc]) hp.2
    · rw [if_neg hn, nb_no hn, List.all_cons]
      have e1 : allQ (fun x => P x a) (ovP v n) = (ovl s (s + n - 1) u 0).all (fun x => P x a) := by
        rw [allQ_eq (g := fun x => P x a) (fun _ => rfl)]
        refine Bool.eq_iff_iff.mpr ?_
        rw [List.all_eq_true, List.all_eq_true]
        constructor
        · intro hh x hx
          obtain ⟨i, _, h2, h3, h4⟩ := ovl_ex (by omega) hx
          exact hh x (ovP_mem.mpr ⟨i - s, by omega, by rw [h, show s + (i - s) = i by omega]; exact h4⟩)
        · intro hh x hx
          obtain ⟨i, hi, h4⟩ := ovP_mem.mp hx
          rw [h] at h4
          exact hh x (ovl_mem (i := s + i) (Nat.zero_le _) (by omega) (by omega) h4)
      exact and_cg e1 (lgM_eq (u := u) (t := r) (s := s + n) (v := dpS v n) (fun i => by rw [dpS_lk, h, Nat.add_assoc]) hp.2)
noncomputable def lgCQ (P : AV → AV → Bool) (t u : List (Nat × AV)) : Bool := Bool.rec (motive := fun _ => Bool) (allQ (fun q => allQ (fun x => P x q.2.2) (ovlQ q.1 (q.1 + q.2.1 - 1) u 0)) (lng t 0)) (lgM P t u) (posQ t)
theorem lgCQ_eq {P P' : AV → AV → Bool} (h : ∀ a b, P a b = P' a b) {t u : List (Nat × AV)} : lgCQ P t u = lgC P' t u := by
  have hP : P = P' := funext fun a => funext fun b => h a b
  subst hP
  unfold lgCQ lgC
  cases hp : posQ t with
  | true => exact lgM_eq (u := u) (s := 0) (v := u) (fun i => by rw [Nat.zero_add]) hp
  | false =>
    refine allQ_eq (fun q => ?_)
    show allQ (fun x => P x q.2.2) (ovlQ q.1 (q.1 + q.2.1 - 1) u 0) = (ovl q.1 (q.1 + q.2.1 - 1) u 0).all (fun x => P x q.2.2)
    rw [ovlQ_eq]
    exact allQ_eq (fun x => h x q.2.2)
noncomputable def numQ (b : AV) : Bool := Bool.rec (motive := fun _ => Bool) (numA b) true (Nat.beq b.1 2 || Nat.beq b.1 5)
theorem numQ_eq {b : AV} : numQ b = numA b := by
  unfold numQ
  cases h : (Nat.beq b.1 2 || Nat.beq b.1 5) with
  | false => rfl
  | true =>
    rw [Bool.or_eq_true, nb_iff, nb_iff] at h
    unfold numA
    exact (decide_eq_true (by omega)).symm
noncomputable def kndCQ (G : GI) (c x : AC) : Bool := Sum.rec (motive := fun _ => Bool) (fun o => Sum.rec (motive := fun _ => Bool) (fun y => Nat.beq o.1 y.1) (fun _ => false) x) (fun t => Sum.rec (motive := fun _ => Bool) (fun _ => false) (fun u => (Nat.beq t.1 u.1 && Nat.beq (tot u.2) (tot t.2)) && lgCQ (fun a b => numQ b && subVQ 0 G a b) t.2 u.2) x) c
theorem kndCQ_eq {G : GI} {c x : AC} : kndCQ G c x = kndC G c x := by
  rcases c with o | t
  · rcases x with y | u
    · exact (bd_one (a := o.1 = y.1) nb_iff).symm
    · rfl
  · rcases x with y | u
    · rfl
    · exact and_cg (bd_and (a := t.1 = u.1) (b := tot u.2 = tot t.2) nb_iff nb_iff).symm (lgCQ_eq (P := fun a b => numQ b && subVQ 0 G a b) (P' := fun a b => numA b && subV 0 G a b) (fun a b => and_cg numQ_eq subVQ_eq))
noncomputable def kndNQ (n0 : Nat) (G : GI) (c x : AC) : Bool := Sum.rec (motive := fun _ => Bool) (fun o => Sum.rec (motive := fun _ => Bool) (fun y => Nat.beq o.1 y.1 && Nat.beq (lenG o.2) (lenG y.2)) (fun _ => false) x) (fun t => Sum.rec (motive := fun _ => Bool) (fun _ => false) (fun u => (Nat.beq t.1 u.1 && Nat.beq (tot u.2) (tot t.2)) && lgCQ (fun a b => subVQ n0 G a b) t.2 u.2) x) c
theorem kndNQ_eq {n0 : Nat} {G : GI} {c x : AC} : kndNQ n0 G c x = kndN n0 G c x := by
  rcases c with o | t
  · rcases x with y | u
    · show (Nat.beq o.1 y.1 && Nat.beq (lenG o.2) (lenG y.2)) = decide (o.1 = y.1 ∧ o.2.length = y.2.length)
      rw [lenG_eq, lenG_eq]
      exact (bd_and (a := o.1 = y.1) (b := o.2.length = y.2.length) nb_iff nb_iff).symm
    · rfl
  · rcases x with y | u
    · rfl
    · exact and_cg (bd_and (a := t.1 = u.1) (b := tot u.2 = tot t.2) nb_iff nb_iff).symm (lgCQ_eq (P := fun a b => subVQ n0 G a b) (P' := fun a b => subV n0 G a b) (fun a b => subVQ_eq))
noncomputable def cmFQ (n0 : Nat) (G : GI) (ys : HP) : HP → Bool := List.rec (motive := fun _ => HP → Bool) (fun xs => List.rec (motive := fun _ => Bool) true (fun _ _ _ => false) xs)
  (fun y _ ih xs => List.rec (motive := fun _ => Bool) false (fun x xs' _ => Bool.rec (motive := fun _ => Bool) (!x.1) (kndNQ n0 G y.2 x.2) y.1 && ih xs') xs) ys
theorem cmFQ_eq {n0 : Nat} {G : GI} : ∀ {ys xs : HP}, cmFQ n0 G ys xs = cmF n0 G ys xs
  | [], [] => by unfold cmF; rfl
  | [], _ :: _ => by unfold cmF; rfl
  | _ :: _, [] => by unfold cmF; rfl
  | (b, c) :: ys, x :: xs => by
    have ih := cmFQ_eq (n0 := n0) (G := G) (ys := ys) (xs := xs)
    show (Bool.rec (motive := fun _ => Bool) (!x.1) (kndNQ n0 G c x.2) b && cmFQ n0 G ys xs) = _
    rw [ih, kndNQ_eq, cmF]
    cases b <;> rfl
noncomputable def fXfQ (ys : HP) : HP → Option (List AV) := List.rec (motive := fun _ => HP → Option (List AV)) (fun xs => List.rec (motive := fun _ => Option (List AV)) (some []) (fun _ _ _ => none) xs)
  (fun y _ ih xs => List.rec (motive := fun _ => Option (List AV)) none (fun x xs' _ => Bool.rec (motive := fun _ => Option (List AV)) (ih xs') (Option.rec (motive := fun _ => Option (List AV)) none (fun a => Option.rec (motive := fun _ => Option (List AV)) none (fun b => some (appG a b)) (ih xs')) (fXQ y.2 x.2)) y.1) xs) ys
theorem fXfQ_eq : ∀ {ys xs : HP}, fXfQ ys xs = fXf ys xs
  | [], [] => by unfold fXf; rfl
  | [], _ :: _ => by unfold fXf; rfl
  | _ :: _, [] => by unfold fXf; rfl
  | (b, c) :: ys, x :: xs => by
    have ih := fXfQ_eq (ys := ys) (xs := xs)
    show Bool.rec (motive := fun _ => Option (List AV)) (fXfQ ys xs) (Option.rec (motive := fun _ => Option (List AV)) none (fun a => Option.rec (motive := fun _ => Option (List AV)) none (fun b => some (appG a b)) (fXfQ ys xs)) (fXQ c x.2)) b = _
    rw [ih, fXQ_eq, fXf]
    cases b with
    | false => rfl
    | true =>
      show Option.rec (motive := fun _ => Option (List AV)) none (fun a => Option.rec (motive := fun _ => Option (List AV)) none (fun b => some (appG a b)) (fXf ys xs)) (fX c x.2) = (match fX c x.2, fXf ys xs with
        | some a, some b => some (a ++ b)
        | _, _ => none)
      cases fX c x.2 with
      | none => rfl
      | some a =>
        cases fXf ys xs with
        | none => rfl
        | some b => show some (appG a b) = some (a ++ b); rw [appG_eq]
/-! a place of a callee's start, by its kind -/
noncomputable def refB (o : Option Nat) (n : Nat) : Bool := Option.rec (motive := fun _ => Bool) false (fun i => Nat.beq i n) o
theorem refB_iff {o : Option Nat} {n : Nat} : refB o n = true ↔ o = some n := by
  cases o with
  | none =>
    constructor
    · intro h; cases h
    · intro h; cases h
  | some i =>
    show Nat.beq i n = true ↔ _
    rw [nb_iff, Option.some.injEq]
theorem zinG_eq {Gc : GI} {r : Option (Int × Int)} {p : Nat} (hr : r = Gc[p]?) : zinG r = zin Gc p := by
  unfold zin
  rw [nthG_eq, ← hr]
  cases r with
  | none => rfl
  | some q => exact (bd_and (a := q.1 ≤ 0) (b := 0 ≤ q.2) leZ_iff leZ_iff).symm
theorem inN_eq {Gc : GI} {o r : Option (Int × Int)} {p : Nat} (hr : r = Gc[p]?) : inG o r = (match o, nthG Gc p with
    | some q, some r => decide (r.1 ≤ q.1 ∧ q.2 ≤ r.2)
    | _, _ => false) := by
  rw [nthG_eq, ← hr]
  cases o with
  | none => rfl
  | some q =>
    cases r with
    | none => rfl
    | some s => exact (bd_and (a := s.1 ≤ q.1) (b := q.2 ≤ s.2) leZ_iff leZ_iff).symm
noncomputable def mt2 (σ : List Nat) (G Gc : GI) (r : Option (Int × Int)) (p : Nat) (c x : AV) : Bool := Bool.rec (motive := fun _ => Bool)
  (Bool.rec (motive := fun _ => Bool)
    (Bool.rec (motive := fun _ => Bool)
      (Bool.rec (motive := fun _ => Bool)
        (Bool.rec (motive := fun _ => Bool) (mt1 σ G Gc p c x) (ivb (ivL G x) c.2.1 c.2.2 && zinG r) (Nat.beq c.1 5))
        (ivb (ivI G x) c.2.1 c.2.2 && zinG r) (Nat.beq c.1 2))
      (eqZ c.2.1 (Int.ofNat p) && (eqZ c.2.2 (Int.ofNat 0) && inG (ivL G x) r)) (Nat.beq c.1 4))
    (ivq (ivI G x) c.2.1 && zinG r) (Nat.beq c.1 0))
  ((Nat.beq x.1 6 && refB (nthG σ c.2.1.toNat) x.2.1.toNat) && zinG r) (Nat.beq c.1 6)
theorem mt2_eq {σ : List Nat} {G Gc : GI} {r : Option (Int × Int)} {p : Nat} {c x : AV} (hr : r = Gc[p]?) : mt2 σ G Gc r p c x = mt1 σ G Gc p c x := by
  obtain ⟨t, c1, c2⟩ := c
  show Bool.rec (motive := fun _ => Bool) (Bool.rec (motive := fun _ => Bool) (Bool.rec (motive := fun _ => Bool) (Bool.rec (motive := fun _ => Bool) (Bool.rec (motive := fun _ => Bool) (mt1 σ G Gc p (t, c1, c2) x) (ivb (ivL G x) c1 c2 && zinG r) (Nat.beq t 5)) (ivb (ivI G x) c1 c2 && zinG r) (Nat.beq t 2)) (eqZ c1 (Int.ofNat p) && (eqZ c2 (Int.ofNat 0) && inG (ivL G x) r)) (Nat.beq t 4)) (ivq (ivI G x) c1 && zinG r) (Nat.beq t 0)) ((Nat.beq x.1 6 && refB (nthG σ c1.toNat) x.2.1.toNat) && zinG r) (Nat.beq t 6) = _
  cases h6 : Nat.beq t 6 with
  | true =>
    have h6 := nb_iff.mp h6
    subst h6
    have e : (Nat.beq x.1 6 && refB (nthG σ c1.toNat) x.2.1.toNat) = decide (x.1 = 6 ∧ σ[c1.toNat]? = some x.2.1.toNat) := by
      rw [nthG_eq]
      exact (bd_and nb_iff refB_iff).symm
    exact and_cg e (zinG_eq hr)
  | false =>
    cases h0 : Nat.beq t 0 with
    | true =>
      have h0 := nb_iff.mp h0
      subst h0
      exact and_cg (ivq_eq (o := ivI G x) (z := c1)) (zinG_eq hr)
    | false =>
      cases h4 : Nat.beq t 4 with
      | true =>
        have h4 := nb_iff.mp h4
        subst h4
        have e : (eqZ c1 (Int.ofNat p) && eqZ c2 (Int.ofNat 0)) = decide (c1 = (p : Int) ∧ c2 = 0) := (bd_and (a := c1 = (p : Int)) (b := c2 = 0) eqZ_iff eqZ_iff).symm
        exact (Bool.and_assoc _ _ _).symm.trans (and_cg e (inN_eq (o := ivL G x) hr))
      | false =>
        cases h2 : Nat.beq t 2 with
        | true =>
          have h2 := nb_iff.mp h2
          subst h2
          exact and_cg (ivb_eq (o := ivI G x) (lo := c1) (hi := c2)) (zinG_eq hr)
        | false =>
          cases h5 : Nat.beq t 5 with
          | true =>
            have h5 := nb_iff.mp h5
            subst h5
            exact and_cg (ivb_eq (o := ivL G x) (lo := c1) (hi := c2)) (zinG_eq hr)
          | false => rfl
/-! matching at a call -/
noncomputable def mtG (σ : List Nat) (G Gc : GI) (r : Option (Int × Int)) (p : Nat) (c x : AV) : Bool := Bool.rec (motive := fun _ => Bool)
  (Bool.rec (motive := fun _ => Bool) (mt2 σ G Gc r p c x) (eqZ c.2.1 (Int.ofNat p) && (eqZ c.2.2 (Int.ofNat 0) && inG (ivIG G x) r)) (Nat.beq c.1 1))
  (eqZ c.2.1 (Int.ofNat p) && zinG r) (Nat.beq c.1 8)
theorem mtG_ok {σ : List Nat} {G Gc : GI} {r : Option (Int × Int)} {p : Nat} {c x : AV} (hr : r = Gc[p]?) (h : mtG σ G Gc r p c x = true) : mt1 σ G Gc p c x = true := by
  obtain ⟨t, c1, c2⟩ := c
  unfold mtG at h
  cases h8 : Nat.beq t 8 with
  | true =>
    have h8' : t = 8 := Nat.beq_eq.mp h8
    subst h8'
    have h : (eqZ c1 (Int.ofNat p) && zinG r) = true := h
    rw [Bool.and_eq_true, eqZ_iff, zinG_iff] at h
    obtain ⟨h1, q, h2, h3⟩ := h
    show (decide (c1 = (p : Int)) && zin Gc p) = true
    rw [Bool.and_eq_true]
    refine ⟨decide_eq_true h1, ?_⟩
    unfold zin
    rw [nthG_eq, ← hr, h2]
    exact decide_eq_true h3
  | false =>
    cases h1 : Nat.beq t 1 with
    | true =>
      have h1' : t = 1 := Nat.beq_eq.mp h1
      subst h1'
      have h : (eqZ c1 (Int.ofNat p) && (eqZ c2 (Int.ofNat 0) && inG (ivIG G x) r)) = true := h
      rw [Bool.and_eq_true, Bool.and_eq_true, eqZ_iff, eqZ_iff] at h
      obtain ⟨e1, e2, e3⟩ := h
      show (decide (c1 = (p : Int) ∧ c2 = 0) && (match ivI G x, nthG Gc p with
        | some q, some r => decide (r.1 ≤ q.1 ∧ q.2 ≤ r.2)
        | _, _ => false)) = true
      rw [Bool.and_eq_true]
      refine ⟨decide_eq_true ⟨e1, e2⟩, ?_⟩
      rw [ivIG_eq] at e3
      rw [nthG_eq, ← hr]
      cases hq : ivI G x with
      | none => rw [hq] at e3; cases e3
      | some q =>
        rw [hq] at e3
        cases r with
        | none => cases e3
        | some r =>
          have e3 : (leZ r.1 q.1 && leZ q.2 r.2) = true := e3
          rw [Bool.and_eq_true, leZ_iff, leZ_iff] at e3
          exact decide_eq_true e3
    | false =>
      have h : Bool.rec (motive := fun _ => Bool) (Bool.rec (motive := fun _ => Bool) (mt2 σ G Gc r p (t, c1, c2) x) _ (Nat.beq t 1)) _ (Nat.beq t 8) = true := h
      rw [h8, h1] at h
      have h : mt2 σ G Gc r p (t, c1, c2) x = true := h
      rwa [mt2_eq hr] at h
noncomputable def mtcG (σ : List Nat) (G Gc : GI) (cs : List AV) : Nat → List AV → GI → Bool := List.rec (motive := fun _ => Nat → List AV → GI → Bool) (fun _ xs _ => List.rec (motive := fun _ => Bool) true (fun _ _ _ => false) xs)
  (fun c _ ih p xs rs => List.rec (motive := fun _ => Bool) false (fun x xs' _ => mtG σ G Gc (hdG rs) p c x && ih (Nat.succ p) xs' (tlG rs)) xs) cs
theorem mtcG_ok {σ : List Nat} {G Gc : GI} : ∀ {cs : List AV} {p : Nat} {xs : List AV} {rs : GI}, rs = Gc.drop p → mtcG σ G Gc cs p xs rs = true → mtc σ G Gc p cs xs = true
  | [], p, [], rs, _, _ => by unfold mtc; rfl
  | [], p, _ :: _, rs, _, h => by cases h
  | _ :: _, p, [], rs, _, h => by cases h
  | c :: cs, p, x :: xs, rs, hr, h => by
    have h : (mtG σ G Gc (hdG rs) p c x && mtcG σ G Gc cs (Nat.succ p) xs (tlG rs)) = true := h
    rw [Bool.and_eq_true] at h
    unfold mtc
    rw [Bool.and_eq_true]
    exact ⟨mtG_ok (by rw [hr, hdG_drop]) h.1, mtcG_ok (by rw [hr, tlG_drop]) h.2⟩
noncomputable def mtC2G (σ : List Nat) (G Gc : GI) (cs : List AC) : Nat → List AC → GI → Bool := List.rec (motive := fun _ => Nat → List AC → GI → Bool) (fun _ xs _ => List.rec (motive := fun _ => Bool) true (fun _ _ _ => false) xs)
  (fun c _ ih p xs rs => List.rec (motive := fun _ => Bool) false (fun x xs' _ => Option.rec (motive := fun _ => Bool) false (fun ys => kndCQ G c x && mtcG σ G Gc (fA c) p ys rs) (fXQ c x) && ih (p + lenG (fA c)) xs' (drpG rs (lenG (fA c)))) xs) cs
theorem mtC2G_ok {σ : List Nat} {G Gc : GI} : ∀ {cs : List AC} {p : Nat} {xs : List AC} {rs : GI}, rs = Gc.drop p → mtC2G σ G Gc cs p xs rs = true → mtC2 σ G Gc p cs xs = true
  | [], p, [], rs, _, _ => by unfold mtC2; rfl
  | [], p, _ :: _, rs, _, h => by cases h
  | _ :: _, p, [], rs, _, h => by cases h
  | c :: cs, p, x :: xs, rs, hr, h => by
    have h : (Option.rec (motive := fun _ => Bool) false (fun ys => kndCQ G c x && mtcG σ G Gc (fA c) p ys rs) (fXQ c x) && mtC2G σ G Gc cs (p + lenG (fA c)) xs (drpG rs (lenG (fA c)))) = true := h
    rw [kndCQ_eq, fXQ_eq, Bool.and_eq_true] at h
    obtain ⟨h1, h2⟩ := h
    unfold mtC2
    rw [Bool.and_eq_true]
    refine ⟨?_, ?_⟩
    · cases hf : fX c x with
      | none => rw [hf] at h1; cases h1
      | some ys =>
        rw [hf] at h1
        have h1 : (kndC G c x && mtcG σ G Gc (fA c) p ys rs) = true := h1
        rw [Bool.and_eq_true] at h1
        show (kndC G c x && mtc σ G Gc p (fA c) ys) = true
        rw [Bool.and_eq_true]
        exact ⟨h1.1, mtcG_ok hr h1.2⟩
    · rw [lenG_eq] at h2
      exact mtC2G_ok (by rw [hr, drpG_eq, List.drop_drop]) h2
/-! what comes back -/
noncomputable def trVG (σ : List Nat) (cv xv : List AV) (a : AV) : Option AV := Bool.rec (motive := fun _ => Option AV) (trV σ cv xv a)
  (Option.rec (motive := fun _ => Option AV) none (fun c => Option.rec (motive := fun _ => Option AV) none (fun x => Bool.rec (motive := fun _ => Option AV) none (bas x a.2.2 0) (Nat.beq c.1 1 || Nat.beq c.1 4)) (nthG xv a.2.1.toNat)) (nthG cv a.2.1.toNat)) (Nat.beq a.1 1)
theorem trVG_eq {σ : List Nat} {cv xv : List AV} {a : AV} : trVG σ cv xv a = trV σ cv xv a := by
  obtain ⟨t, b, c⟩ := a
  unfold trVG
  cases h : Nat.beq t 1 with
  | false => rfl
  | true =>
    have h1 : t = 1 := Nat.beq_eq.mp h
    subst h1
    show Option.rec (motive := fun _ => Option AV) none (fun c' => Option.rec (motive := fun _ => Option AV) none (fun x => Bool.rec (motive := fun _ => Option AV) none (bas x c 0) (Nat.beq c'.1 1 || Nat.beq c'.1 4)) (nthG xv b.toNat)) (nthG cv b.toNat) = (match cv[b.toNat]?, xv[b.toNat]? with
      | some c', some x => if c'.1 = 1 ∨ c'.1 = 4 then bas x c 0 else none
      | _, _ => none)
    rw [nthG_eq, nthG_eq]
    cases hc : cv[b.toNat]? with
    | none => rfl
    | some c' =>
      cases hx : xv[b.toNat]? with
      | none => rfl
      | some x =>
        show Bool.rec (motive := fun _ => Option AV) none (bas x c 0) (Nat.beq c'.1 1 || Nat.beq c'.1 4) = (if c'.1 = 1 ∨ c'.1 = 4 then bas x c 0 else none)
        by_cases hq : c'.1 = 1 ∨ c'.1 = 4
        · rw [if_pos hq, show (Nat.beq c'.1 1 || Nat.beq c'.1 4) = true by rw [Bool.or_eq_true, Nat.beq_eq, Nat.beq_eq]; exact hq]
        · rw [if_neg hq]
          cases hb : (Nat.beq c'.1 1 || Nat.beq c'.1 4) with
          | false => rfl
          | true => rw [Bool.or_eq_true, Nat.beq_eq, Nat.beq_eq] at hb; exact absurd hb hq
/-- a field as it was, its place at hand -/
noncomputable def tr8 (σ : List Nat) (cv xv : List AV) (p : Nat) (oc ox : Option AV) (a : AV) : Option AV := Bool.rec (motive := fun _ => Option AV) (trVG σ cv xv a)
  (Option.rec (motive := fun _ => Option AV) none (fun c => Bool.rec (motive := fun _ => Option AV) none ox (Nat.beq c.1 8)) oc) (Nat.beq a.1 8 && eqZ a.2.1 (Int.ofNat p))
theorem tr8_eq {σ : List Nat} {cv xv : List AV} {p : Nat} {oc ox : Option AV} {a : AV} (hc : oc = cv[p]?) (hx : ox = xv[p]?) : tr8 σ cv xv p oc ox a = trV σ cv xv a := by
  obtain ⟨t, b, c⟩ := a
  unfold tr8
  cases h : (Nat.beq t 8 && eqZ b (Int.ofNat p)) with
  | false =>
    exact trVG_eq
  | true =>
    rw [Bool.and_eq_true, Nat.beq_eq, eqZ_iff] at h
    obtain ⟨h1, h2⟩ := h
    subst h1; subst h2
    show Option.rec (motive := fun _ => Option AV) none (fun c => Bool.rec (motive := fun _ => Option AV) none ox (Nat.beq c.1 8)) oc = (match cv[p]? with
      | some c' => if c'.1 = 8 then xv[p]? else none
      | none => none)
    rw [hc, hx]
    cases cv[p]? with
    | none => rfl
    | some c' =>
      show Bool.rec (motive := fun _ => Option AV) none xv[p]? (Nat.beq c'.1 8) = (if c'.1 = 8 then xv[p]? else none)
      by_cases hq : c'.1 = 8
      · rw [if_pos hq, Nat.beq_eq.mpr hq]
      · rw [if_neg hq]
        cases hb : Nat.beq c'.1 8 with
        | false => rfl
        | true => exact absurd (Nat.beq_eq.mp hb) hq
noncomputable def trFG (σ : List Nat) (cv xv : List AV) (as : List AV) : Nat → List AV → List AV → Option (List AV) := List.rec (motive := fun _ => Nat → List AV → List AV → Option (List AV)) (fun _ _ _ => some [])
  (fun a _ ih p cs xs => Option.rec (motive := fun _ => Option (List AV)) none (fun b => Option.rec (motive := fun _ => Option (List AV)) none (fun s => some (b :: s)) (ih (Nat.succ p) (tlG cs) (tlG xs))) (tr8 σ cv xv p (hdG cs) (hdG xs) a)) as
theorem trFG_eq {σ : List Nat} {cv xv : List AV} : ∀ {as : List AV} {p : Nat} {cs xs : List AV}, cs = cv.drop p → xs = xv.drop p → trFG σ cv xv as p cs xs = trF σ cv xv as
  | [], _, _, _, _, _ => by unfold trF; rfl
  | a :: as, p, cs, xs, hc, hx => by
    have ih := trFG_eq (σ := σ) (cv := cv) (xv := xv) (as := as) (p := p + 1) (cs := tlG cs) (xs := tlG xs) (by rw [hc, tlG_drop]) (by rw [hx, tlG_drop])
    show Option.rec (motive := fun _ => Option (List AV)) none (fun b => Option.rec (motive := fun _ => Option (List AV)) none (fun s => some (b :: s)) (trFG σ cv xv as (p + 1) (tlG cs) (tlG xs))) (tr8 σ cv xv p (hdG cs) (hdG xs) a) = _
    have e : trF σ cv xv (a :: as) = (match trV σ cv xv a, trF σ cv xv as with
      | some b, some s => some (b :: s)
      | _, _ => none) := by
      rw [trF]
      rfl
    rw [ih, tr8_eq (by rw [hc, hdG_drop]) (by rw [hx, hdG_drop]), e]
    cases trV σ cv xv a with
    | none => rfl
    | some b => cases trF σ cv xv as <;> rfl
noncomputable def trSG (σ : List Nat) (cv xv : List AV) (sg : List (Nat × AV)) : Option (List (Nat × AV)) := List.rec (motive := fun _ => Option (List (Nat × AV))) (some [])
  (fun q _ ih => Option.rec (motive := fun _ => Option (List (Nat × AV))) none (fun b => Option.rec (motive := fun _ => Option (List (Nat × AV))) none (fun s => some ((q.1, b) :: s)) ih) (trVG σ cv xv q.2)) sg
theorem trSG_eq {σ : List Nat} {cv xv : List AV} : ∀ {sg : List (Nat × AV)}, trSG σ cv xv sg = trS σ cv xv sg
  | [] => by unfold trS; rfl
  | q :: r => by
    show Option.rec (motive := fun _ => Option (List (Nat × AV))) none (fun b => Option.rec (motive := fun _ => Option (List (Nat × AV))) none (fun s => some ((q.1, b) :: s)) (trSG σ cv xv r)) (trVG σ cv xv q.2) = _
    have e : trS σ cv xv (q :: r) = (match trV σ cv xv q.2, trS σ cv xv r with
      | some b, some s => some ((q.1, b) :: s)
      | _, _ => none) := by
      rw [trS]
      rfl
    rw [trSG_eq, trVG_eq, e]
    cases trV σ cv xv q.2 with
    | none => rfl
    | some b => cases trS σ cv xv r <;> rfl
noncomputable def trH2G (σ : List Nat) (cv xv : List AV) : HP → HP → Nat → List AV → List AV → Option HP
  | [], [], _, _, _ => some []
  | (false, c) :: os, x :: xs, p, cs, ys => match trH2G σ cv xv os xs (p + lenG (fA c)) (drpG cs (lenG (fA c))) (drpG ys (lenG (fA c))) with
    | some r => some (x :: r)
    | none => none
  | (true, .inl o) :: os, _ :: xs, p, cs, ys => match trFG σ cv xv o.2 p cs ys, trH2G σ cv xv os xs (p + lenG (fA (.inl o))) (drpG cs (lenG (fA (.inl o)))) (drpG ys (lenG (fA (.inl o)))) with
    | some fs, some r => some ((true, .inl (o.1, fs)) :: r)
    | _, _ => none
  | (true, .inr t) :: os, _ :: xs, p, cs, ys => match trSG σ cv xv t.2, trH2G σ cv xv os xs (p + lenG (fA (.inr t))) (drpG cs (lenG (fA (.inr t)))) (drpG ys (lenG (fA (.inr t)))) with
    | some sg, some r => some ((true, .inr (t.1, sg)) :: r)
    | _, _ => none
  | _, _, _, _, _ => none
theorem trH2G_eq {σ : List Nat} {cv xv : List AV} : ∀ {os xs : HP} {p : Nat} {cs ys : List AV}, cs = cv.drop p → ys = xv.drop p → trH2G σ cv xv os xs p cs ys = trH2 σ cv xv os xs
  | [], [], _, _, _, _, _ => by unfold trH2G trH2; rfl
  | [], _ :: _, _, _, _, _, _ => by unfold trH2G trH2; rfl
  | (b, c) :: os, [], _, _, _, _, _ => by cases b <;> cases c <;> (unfold trH2G trH2; rfl)
  | (false, c) :: os, x :: xs, p, cs, ys, hc, hx => by
    have e := trH2G_eq (σ := σ) (cv := cv) (xv := xv) (os := os) (xs := xs) (p := p + lenG (fA c)) (cs := drpG cs (lenG (fA c))) (ys := drpG ys (lenG (fA c))) (by rw [hc, drpG_eq, List.drop_drop]) (by rw [hx, drpG_eq, List.drop_drop])
    rw [trH2G, trH2, e]
    rfl
  | (true, .inl o) :: os, x :: xs, p, cs, ys, hc, hx => by
    have e := trH2G_eq (σ := σ) (cv := cv) (xv := xv) (os := os) (xs := xs) (p := p + lenG (fA (.inl o))) (cs := drpG cs (lenG (fA (.inl o)))) (ys := drpG ys (lenG (fA (.inl o)))) (by rw [hc, drpG_eq, List.drop_drop]) (by rw [hx, drpG_eq, List.drop_drop])
    rw [trH2G, trH2, e, trFG_eq hc hx]
    rfl
  | (true, .inr t) :: os, x :: xs, p, cs, ys, hc, hx => by
    have e := trH2G_eq (σ := σ) (cv := cv) (xv := xv) (os := os) (xs := xs) (p := p + lenG (fA (.inr t))) (cs := drpG cs (lenG (fA (.inr t)))) (ys := drpG ys (lenG (fA (.inr t)))) (by rw [hc, drpG_eq, List.drop_drop]) (by rw [hx, drpG_eq, List.drop_drop])
    rw [trH2G, trH2, e, trSG_eq]
    rfl
