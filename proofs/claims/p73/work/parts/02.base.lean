/-! ===== an interpreter over intervals: its values ===== -/
abbrev AV : Type := Nat × Int × Int
abbrev AC : Type := (Nat × List AV) ⊕ (Nat × List (Nat × AV))
abbrev GI : Type := List (Int × Int)
abbrev EV : Type := List Value × List Nat
/-- sets of intervals, by number -/
def setT : List (List (Int × Int)) := [[(0, 4), (10, 14), (20, 24), (30, 34), (40, 44), (50, 54), (10000, 10015), (10100, 10115), (10200, 10215), (10300, 10315), (10400, 10415)]]
/-- how many constants of the outside there are (13 texts, a row) -/
def nKR : Nat := 14
/-- two lists, place by place -/
def zf2 {α β : Type} (R : α → β → Prop) : List α → List β → Prop
  | [], [] => True
  | a :: as, b :: bs => R a b ∧ zf2 R as bs
  | [], _ :: _ => False
  | _ :: _, [] => False
theorem zf2_get {α β : Type} {R : α → β → Prop} : ∀ {as : List α} {bs : List β}, zf2 R as bs → ∀ {i : Nat} {a : α}, as[i]? = some a → ∃ b, bs[i]? = some b ∧ R a b
  | [], [], _, i, a, h => by simp at h
  | x :: as, y :: bs, h, 0, a, hi => ⟨y, rfl, by cases hi; exact h.1⟩
  | x :: as, y :: bs, h, i + 1, a, hi => zf2_get (as := as) (bs := bs) h.2 (i := i) (by simpa using hi)
theorem zf2_len {α β : Type} {R : α → β → Prop} : ∀ {as : List α} {bs : List β}, zf2 R as bs → as.length = bs.length
  | [], [], _ => rfl
  | _ :: as, _ :: bs, h => congrArg (· + 1) (zf2_len (as := as) (bs := bs) h.2)
theorem zf2_mono {α β : Type} {R S : α → β → Prop} (hm : ∀ a b, R a b → S a b) : ∀ {as : List α} {bs : List β}, zf2 R as bs → zf2 S as bs
  | [], [], _ => trivial
  | _ :: as, _ :: bs, h => ⟨hm _ _ h.1, zf2_mono hm (as := as) (bs := bs) h.2⟩
theorem zf2_set {α β : Type} {R : α → β → Prop} {a : α} {b : β} (hr : R a b) : ∀ {as : List α} {bs : List β}, zf2 R as bs → ∀ (i : Nat), zf2 R (as.set i a) (bs.set i b)
  | [], [], _, _ => trivial
  | _ :: as, _ :: bs, h, 0 => ⟨hr, h.2⟩
  | _ :: as, _ :: bs, h, i + 1 => ⟨h.1, zf2_set hr (as := as) (bs := bs) h.2 i⟩
theorem zf2_app {α β : Type} {R : α → β → Prop} {a : α} {b : β} (hr : R a b) : ∀ {as : List α} {bs : List β}, zf2 R as bs → zf2 R (as ++ [a]) (bs ++ [b])
  | [], [], _ => ⟨hr, trivial⟩
  | _ :: as, _ :: bs, h => ⟨h.1, zf2_app hr (as := as) (bs := bs) h.2⟩
theorem zf2_of {α β : Type} {R : α → β → Prop} : ∀ {as : List α} {bs : List β}, as.length = bs.length → (∀ (i : Nat) (a : α) (b : β), as[i]? = some a → bs[i]? = some b → R a b) → zf2 R as bs
  | [], [], _, _ => trivial
  | [], _ :: _, h, _ => by simp at h
  | _ :: _, [], h, _ => by simp at h
  | a :: as, b :: bs, h, hr => ⟨hr 0 a b rfl rfl, zf2_of (as := as) (bs := bs) (by simpa using h) (fun i x y hx hy => hr (i + 1) x y (by simpa using hx) (by simpa using hy))⟩
theorem zf2_cons {α β : Type} {R : α → β → Prop} {a : α} {as : List α} {bs : List β} (h : zf2 R (a :: as) bs) : ∃ b bs', bs = b :: bs' ∧ R a b ∧ zf2 R as bs' := by
  cases bs with
  | nil => exact h.elim
  | cons b bs' => exact ⟨b, bs', rfl, h.1, h.2⟩
def inI (q : Int × Int) (z : Int) : Prop := q.1 ≤ z ∧ z ≤ q.2
abbrev GS (G : GI) (g : List Int) : Prop := zf2 inI G g
def gxt (g g' : List Int) : Prop := ∃ e, g' = g ++ e
theorem gxt_rf {g : List Int} : gxt g g := ⟨[], by simp⟩
theorem gxt_one {g : List Int} {z : Int} : gxt g (g ++ [z]) := ⟨[z], rfl⟩
theorem gxt_tr {a b c : List Int} (h : gxt a b) (k : gxt b c) : gxt a c := by
  obtain ⟨e, rfl⟩ := h; obtain ⟨f, rfl⟩ := k; exact ⟨e ++ f, by simp⟩
theorem gxt_get {g g' : List Int} (h : gxt g g') {i : Nat} {z : Int} (hi : g[i]? = some z) : g'[i]? = some z := by
  obtain ⟨e, rfl⟩ := h
  rw [List.getElem?_append_left (List.getElem?_eq_some_iff.mp hi).1]; exact hi
/-- what a value is: 0 an int, 1 a named int and more, 2 an int between; 3, 4, 5 the same of longs; 6 a place of the world; 7 null; 8 a value as it was -/
def gam (g : List Int) (V : EV) (a : AV) (v : Value) : Prop :=
  match a.1 with
  | 0 => ∃ x : Int32, v = .int x ∧ x.toInt = a.2.1
  | 1 => ∃ x : Int32, v = .int x ∧ ∃ z, g[a.2.1.toNat]? = some z ∧ x.toInt = z + a.2.2
  | 2 => ∃ x : Int32, v = .int x ∧ a.2.1 ≤ x.toInt ∧ x.toInt ≤ a.2.2
  | 3 => ∃ x : Int64, v = .long x ∧ x.toInt = a.2.1
  | 4 => ∃ x : Int64, v = .long x ∧ ∃ z, g[a.2.1.toNat]? = some z ∧ x.toInt = z + a.2.2
  | 5 => ∃ x : Int64, v = .long x ∧ a.2.1 ≤ x.toInt ∧ x.toInt ≤ a.2.2
  | 6 => ∃ r : Nat, V.2[a.2.1.toNat]? = some r ∧ v = .ref r
  | 7 => v = .null
  | 8 => V.1[a.2.1.toNat]? = some v
  | 11 => ∃ r : Nat, V.1[a.2.1.toNat]? = some (.ref r) ∧ v = .ref r
  | 12 => ∃ x : Int32, v = .int x ∧ ∃ q ∈ setT.getD a.2.1.toNat [], inI q x.toInt
  | 13 => ∃ r : Nat, V.1.reverse[a.2.1.toNat]? = some (.ref r) ∧ v = .ref r
  | _ => False
theorem gam_ext {g g' : List Int} {V : EV} {a : AV} {v : Value} (h : gxt g g') (hg : gam g V a v) : gam g' V a v := by
  unfold gam at hg ⊢
  split at hg
  · exact hg
  · obtain ⟨x, h1, z, h2, h3⟩ := hg; exact ⟨x, h1, z, gxt_get h h2, h3⟩
  · exact hg
  · exact hg
  · obtain ⟨x, h1, z, h2, h3⟩ := hg; exact ⟨x, h1, z, gxt_get h h2, h3⟩
  · exact hg
  · exact hg
  · exact hg
  · exact hg
  · exact hg
  · exact hg
  · exact hg
  · exact hg.elim
noncomputable def hdG {α : Type} (l : List α) : Option α := List.rec (motive := fun _ => Option α) none (fun a _ _ => some a) l
noncomputable def tlG {α : Type} (l : List α) : List α := List.rec (motive := fun _ => List α) [] (fun _ r _ => r) l
theorem hdG_drop {α : Type} {l : List α} {n : Nat} : hdG (l.drop n) = l[n]? := by
  cases h : l.drop n with
  | nil =>
    have := List.drop_eq_nil_iff.mp h
    rw [List.getElem?_eq_none this]
    rfl
  | cons a r =>
    have h2 : (l.drop n)[0]? = some a := by rw [h]; rfl
    rw [List.getElem?_drop, Nat.add_zero] at h2
    rw [h2]
    rfl
theorem tlG_drop {α : Type} {l : List α} {n : Nat} : tlG (l.drop n) = l.drop (n + 1) := by
  rw [← List.drop_drop]
  cases l.drop n <;> rfl
noncomputable def drpG {α : Type} (l : List α) (n : Nat) : List α := Nat.rec (motive := fun _ => List α) l (fun _ ih => List.rec (motive := fun _ => List α) [] (fun _ r _ => r) ih) n
theorem drpG_eq {α : Type} {l : List α} : ∀ {n : Nat}, drpG l n = l.drop n
  | 0 => rfl
  | n + 1 => by
    show tlG (drpG l n) = _
    rw [drpG_eq, tlG_drop]
noncomputable def nthG {α : Type} (l : List α) (n : Nat) : Option α := hdG (drpG l n)
theorem nthG_eq {α : Type} {l : List α} {n : Nat} : nthG l n = l[n]? := by
  unfold nthG
  rw [drpG_eq, hdG_drop]
noncomputable def setN {α : Type} (l : List α) : Nat → α → List α := List.rec (motive := fun _ => Nat → α → List α) (fun _ _ => []) (fun a r ih n b => Nat.rec (motive := fun _ => List α) (b :: r) (fun m _ => a :: ih m b) n) l
theorem setN_eq {α : Type} : ∀ {l : List α} {n : Nat} {b : α}, setN l n b = l.set n b
  | [], _, _ => rfl
  | _ :: _, 0, _ => rfl
  | a :: r, n + 1, b => by
    show a :: setN r n b = _
    rw [setN_eq]
    rfl
noncomputable def lenG {α : Type} (l : List α) : Nat := List.rec (motive := fun _ => Nat) 0 (fun _ _ ih => Nat.succ ih) l
theorem lenG_eq {α : Type} : ∀ {l : List α}, lenG l = l.length
  | [] => rfl
  | a :: r => by
    show Nat.succ (lenG r) = _
    rw [lenG_eq]
    rfl
noncomputable def appG {α : Type} (l m : List α) : List α := List.rec (motive := fun _ => List α) m (fun a _ ih => a :: ih) l
theorem appG_eq {α : Type} : ∀ {l m : List α}, appG l m = l ++ m
  | [], _ => rfl
  | a :: r, m => by
    show a :: appG r m = _
    rw [appG_eq]
    rfl
noncomputable def ivI (G : GI) (a : AV) : Option (Int × Int) :=
  match a.1 with
  | 0 => some (a.2.1, a.2.1)
  | 1 => match nthG G a.2.1.toNat with
    | some q => some (q.1 + a.2.2, q.2 + a.2.2)
    | none => none
  | 2 => some (a.2.1, a.2.2)
  | _ => none
noncomputable def ivL (G : GI) (a : AV) : Option (Int × Int) :=
  match a.1 with
  | 3 => some (a.2.1, a.2.1)
  | 4 => match nthG G a.2.1.toNat with
    | some q => some (q.1 + a.2.2, q.2 + a.2.2)
    | none => none
  | 5 => some (a.2.1, a.2.2)
  | _ => none
theorem ivI_ok {G : GI} {g : List Int} {V : EV} {a : AV} {v : Value} {q : Int × Int} (hG : GS G g) (h : gam g V a v) (hi : ivI G a = some q) : ∃ x : Int32, v = .int x ∧ inI q x.toInt := by
  obtain ⟨t, b, c⟩ := a
  unfold ivI at hi
  split at hi
  · rename_i ht; simp only at ht; subst ht
    obtain ⟨x, h1, h2⟩ := h
    cases hi; exact ⟨x, h1, by simp only at h2; exact ⟨by simp [h2], by simp [h2]⟩⟩
  · rename_i ht; simp only at ht; subst ht
    obtain ⟨x, h1, z, h2, h3⟩ := h
    split at hi
    · rename_i r hr
      cases hi
      rw [nthG_eq] at hr
      obtain ⟨z', h4, h5⟩ := zf2_get hG hr
      simp only at h2 h3
      have : z = z' := Option.some.inj (h2.symm.trans h4)
      subst this
      unfold inI at h5
      exact ⟨x, h1, by unfold inI; simp only; omega⟩
    · cases hi
  · rename_i ht; simp only at ht; subst ht
    obtain ⟨x, h1, h2, h3⟩ := h
    cases hi; exact ⟨x, h1, h2, h3⟩
  · cases hi
theorem ivL_ok {G : GI} {g : List Int} {V : EV} {a : AV} {v : Value} {q : Int × Int} (hG : GS G g) (h : gam g V a v) (hi : ivL G a = some q) : ∃ x : Int64, v = .long x ∧ inI q x.toInt := by
  obtain ⟨t, b, c⟩ := a
  unfold ivL at hi
  split at hi
  · rename_i ht; simp only at ht; subst ht
    obtain ⟨x, h1, h2⟩ := h
    cases hi; exact ⟨x, h1, by simp only at h2; exact ⟨by simp [h2], by simp [h2]⟩⟩
  · rename_i ht; simp only at ht; subst ht
    obtain ⟨x, h1, z, h2, h3⟩ := h
    split at hi
    · rename_i r hr
      cases hi
      rw [nthG_eq] at hr
      obtain ⟨z', h4, h5⟩ := zf2_get hG hr
      simp only at h2 h3
      have : z = z' := Option.some.inj (h2.symm.trans h4)
      subst this
      unfold inI at h5
      exact ⟨x, h1, by unfold inI; simp only; omega⟩
    · cases hi
  · rename_i ht; simp only at ht; subst ht
    obtain ⟨x, h1, h2, h3⟩ := h
    cases hi; exact ⟨x, h1, h2, h3⟩
  · cases hi
/-- a new number between two bounds -/
noncomputable def mk2 (G : GI) (q : Int × Int) : GI × AV := if q.1 = q.2 then (G, (0, q.1, 0)) else (appG G [q], (1, ((lenG G : Nat) : Int), 0))
noncomputable def mk5 (G : GI) (q : Int × Int) : GI × AV := if q.1 = q.2 then (G, (3, q.1, 0)) else (appG G [q], (4, ((lenG G : Nat) : Int), 0))
theorem mk2_ok {G : GI} {g : List Int} {V : EV} {q : Int × Int} (hG : GS G g) (x : Int32) (hx : inI q x.toInt) : ∃ g', gxt g g' ∧ GS (mk2 G q).1 g' ∧ gam g' V (mk2 G q).2 (.int x) := by
  unfold mk2
  simp only [appG_eq, lenG_eq]
  split
  · rename_i h
    unfold inI at hx
    exact ⟨g, gxt_rf, hG, x, rfl, by simp only; omega⟩
  · refine ⟨g ++ [x.toInt], gxt_one, zf2_app hx hG, x, rfl, x.toInt, ?_, by simp⟩
    simp [zf2_len hG]
theorem mk5_ok {G : GI} {g : List Int} {V : EV} {q : Int × Int} (hG : GS G g) (x : Int64) (hx : inI q x.toInt) : ∃ g', gxt g g' ∧ GS (mk5 G q).1 g' ∧ gam g' V (mk5 G q).2 (.long x) := by
  unfold mk5
  simp only [appG_eq, lenG_eq]
  split
  · rename_i h
    unfold inI at hx
    exact ⟨g, gxt_rf, hG, x, rfl, by simp only; omega⟩
  · refine ⟨g ++ [x.toInt], gxt_one, zf2_app hx hG, x, rfl, x.toInt, ?_, by simp⟩
    simp [zf2_len hG]
noncomputable def topI : Int × Int := (-2147483648, 2147483647)
noncomputable def topL : Int × Int := (-9223372036854775808, 9223372036854775807)
theorem topI_ok (x : Int32) : inI topI x.toInt := ⟨Int32.le_toInt x, by have := Int32.toInt_lt x; show x.toInt ≤ 2147483647; omega⟩
theorem topL_ok (x : Int64) : inI topL x.toInt := ⟨Int64.le_toInt x, by have := Int64.toInt_lt x; show x.toInt ≤ 9223372036854775807; omega⟩
/-- an interval within one of a set's -/
noncomputable def inS (k : Nat) (p : Int × Int) : Bool := (setT.getD k []).any (fun q => decide (q.1 ≤ p.1 ∧ p.2 ≤ q.2))
theorem inS_ok {k : Nat} {p : Int × Int} {z : Int} (h : inS k p = true) (hz : inI p z) : ∃ q ∈ setT.getD k [], inI q z := by
  obtain ⟨q, h1, h2⟩ := List.any_eq_true.mp h
  have h2 := of_decide_eq_true h2
  unfold inI at hz
  exact ⟨q, h1, by unfold inI; omega⟩
