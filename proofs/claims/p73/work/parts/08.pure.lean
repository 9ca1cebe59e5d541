/-! ===== the machine beside the interpreter ===== -/
abbrev HP : Type := List (Bool × AC)
abbrev AS : Type := Nat × List (Nat × AV) × List AV × GI × HP
noncomputable def catA (a : AV) : Nat := if a.1 = 3 ∨ a.1 = 4 ∨ a.1 = 5 then 2 else 1
noncomputable def locR (g : List Int) (V : EV) (x : Nat × AV) (y : Nat × Value) : Prop := x.1 = y.1 ∧ gam g V x.2 y.2 ∧ x.2.1 ≠ 8
noncomputable def kep (hp : HP) (es0 es : List va_E) : Prop := ∀ (j : Nat) (q : Bool × AC), hp[j]? = some q → q.1 = false → es[j]? = es0[j]?
noncomputable def tysA (cA : Nat → ClassId) : List (ClassId × FieldType) := [(cA 0, .byte), (cA 1, .int), (cA 2, .long), (cA 3, .boolean), (cA 4, .object "RookHusting$State")]
noncomputable def HS (D : va_G) (cl : List vw_C) (A : Nat → Prop) (H0 : Heap) (V : EV) (cA : Nat → ClassId) (es0 : List va_E) (hp : HP) (g : List Int) (es : List va_E) (H : Heap) (locs : List Loc) : Prop :=
  zf2 (fun (x : Bool × AC) (y : va_E) => relC g V cA x.2 y) hp es ∧ kep hp es0 es ∧ va_P D cl (zw V.2 es) H ∧ va_D A (zw V.2 es) ∧ va_S A H0 H locs ∧ es.length = V.2.length
theorem HS_ext {D : va_G} {cl : List vw_C} {A : Nat → Prop} {H0 : Heap} {V : EV} {cA : Nat → ClassId} {es0 : List va_E} {hp : HP} {g g' : List Int} {es : List va_E} {H : Heap} {locs : List Loc} (hx : gxt g g') (h : HS D cl A H0 V cA es0 hp g es H locs) : HS D cl A H0 V cA es0 hp g' es H locs :=
  ⟨zf2_mono (fun _ _ => relC_ext hx) h.1, h.2⟩
theorem loc_ext {g g' : List Int} {V : EV} {loc : List (Nat × AV)} {lv : List (Nat × Value)} (hx : gxt g g') (h : zf2 (locR g V) loc lv) : zf2 (locR g' V) loc lv := zf2_mono (fun _ _ q => ⟨q.1, gam_ext hx q.2.1, q.2.2⟩) h
theorem st_ext {g g' : List Int} {V : EV} {st : List AV} {sv : List Value} (hx : gxt g g') (h : zf2 (gam g V) st sv) : zf2 (gam g' V) st sv := zf2_mono (fun _ _ => gam_ext hx) h
/-- all that the interpreter's state says -/
noncomputable def WA (Wf : Heap → List Loc → JFrame → Prop) (m : MethodId) (nL : Nat) (D : va_G) (cl : List vw_C) (A : Nat → Prop) (H0 : Heap) (V : EV) (cA : Nat → ClassId) (es0 : List va_E) (g0 : List Int) (a : AS) : Prop :=
  ∀ (g : List Int) (lv : List (Nat × Value)) (sv : List Value) (es : List va_E) (ls : Array Slot) (H : Heap) (locs : List Loc), gxt g0 g → GS a.2.2.2.1 g → lv_has ls nL lv → zf2 (locR g V) a.2.1 lv → zf2 (gam g V) a.2.2.1 sv → HS D cl A H0 V cA es0 a.2.2.2.2 g es H locs → Wf H locs (F0 m a.1 ls sv)
theorem gam_int {g : List Int} {V : EV} {a : AV} {v : Value} (h : gam g V a v) (ht : a.1 ≤ 2) : ∃ x : Int32, v = .int x := by
  obtain ⟨t, b, c⟩ := a
  simp only at ht
  match t, ht, h with
  | 0, _, ⟨x, h, _⟩ => exact ⟨x, h⟩
  | 1, _, ⟨x, h, _⟩ => exact ⟨x, h⟩
  | 2, _, ⟨x, h, _⟩ => exact ⟨x, h⟩
theorem gam_long {g : List Int} {V : EV} {a : AV} {v : Value} (h : gam g V a v) (ht : 3 ≤ a.1 ∧ a.1 ≤ 5) : ∃ x : Int64, v = .long x := by
  obtain ⟨t, b, c⟩ := a
  simp only at ht
  match t, ht, h with
  | 3, _, ⟨x, h, _⟩ => exact ⟨x, h⟩
  | 4, _, ⟨x, h, _⟩ => exact ⟨x, h⟩
  | 5, _, ⟨x, h, _⟩ => exact ⟨x, h⟩
theorem gam_ref {g : List Int} {V : EV} {a : AV} {v : Value} (h : gam g V a v) (ht : a.1 = 6) : ∃ r : Nat, V.2[a.2.1.toNat]? = some r ∧ v = .ref r := by
  obtain ⟨t, b, c⟩ := a
  simp only at ht
  subst ht
  exact h
theorem gam_refx {g : List Int} {V : EV} {a : AV} {v : Value} (h : gam g V a v) (ht : a.1 = 6 ∨ a.1 = 13) : ∃ r : Nat, v = .ref r := by
  obtain ⟨t, b, c⟩ := a
  simp only at ht
  rcases ht with rfl | rfl
  · obtain ⟨r, -, h2⟩ := h
    exact ⟨r, h2⟩
  · obtain ⟨r, -, h2⟩ := h
    exact ⟨r, h2⟩
theorem gam_intx {g : List Int} {V : EV} {a : AV} {v : Value} (h : gam g V a v) (ht : a.1 ≤ 2 ∨ a.1 = 12) : ∃ x : Int32, v = .int x := by
  rcases ht with ht | ht
  · exact gam_int h ht
  · obtain ⟨t, b, c⟩ := a
    simp only at ht
    subst ht
    obtain ⟨x, h1, -⟩ := h
    exact ⟨x, h1⟩
theorem gam_cat {g : List Int} {V : EV} {a : AV} {v : Value} (h : gam g V a v) (ht : a.1 ≠ 8) : v.category = catA a := by
  obtain ⟨t, b, c⟩ := a
  simp only at ht
  match t, ht, h with
  | 0, _, ⟨x, h, _⟩ => subst h; rfl
  | 1, _, ⟨x, h, _⟩ => subst h; rfl
  | 2, _, ⟨x, h, _⟩ => subst h; rfl
  | 3, _, ⟨x, h, _⟩ => subst h; rfl
  | 4, _, ⟨x, h, _⟩ => subst h; rfl
  | 5, _, ⟨x, h, _⟩ => subst h; rfl
  | 6, _, ⟨x, _, h⟩ => subst h; rfl
  | 7, _, h => cases h; rfl
  | 9, _, h => exact h.elim
  | 10, _, h => exact h.elim
  | 11, _, ⟨x, _, h⟩ => subst h; rfl
  | 12, _, ⟨x, h, _⟩ => subst h; rfl
  | 13, _, ⟨x, _, h⟩ => subst h; rfl
  | _ + 14, _, h => exact h.elim
noncomputable def fnd (l : List (Nat × AV)) (i : Nat) : Option AV := List.rec none (fun h _ ih => match Nat.beq h.1 i with
  | true => some h.2
  | false => ih) l
theorem fnd_cons {k : Nat} {a : AV} {r : List (Nat × AV)} {i : Nat} : fnd ((k, a) :: r) i = if k = i then some a else fnd r i := by
  show (match Nat.beq k i with
  | true => some a
  | false => fnd r i) = _
  cases h : Nat.beq k i with
  | true => rw [if_pos (Nat.eq_of_beq_eq_true h)]
  | false => rw [if_neg (Nat.ne_of_beq_eq_false h)]
theorem fnd_ok {g : List Int} {V : EV} : ∀ {loc : List (Nat × AV)} {lv : List (Nat × Value)} {i : Nat} {a : AV}, zf2 (locR g V) loc lv → fnd loc i = some a → ∃ (k : Nat) (v : Value), lv[k]? = some (i, v) ∧ gam g V a v ∧ a.1 ≠ 8
  | [], _, _, _, _, h => by cases h
  | (k, b) :: r, [], _, _, hz, _ => hz.elim
  | (k, b) :: r, y :: lv, i, a, hz, h => by
    rw [fnd_cons] at h
    split at h
    · rename_i hk
      cases h
      subst hk
      obtain ⟨h1, h2, h3⟩ := hz.1
      simp only at h1
      subst h1
      exact ⟨0, y.2, rfl, h2, h3⟩
    · obtain ⟨k', v, h1, h2⟩ := fnd_ok (loc := r) (lv := lv) hz.2 h
      exact ⟨k' + 1, v, by simpa using h1, h2⟩
noncomputable def flt1 (i : Nat) (loc : List (Nat × AV)) : List (Nat × AV) := loc.filter (fun q => !(q.1 == i) && !(q.1 + 1 == i && catA q.2 == 2))
theorem zf2_filter {α β : Type} {R : α → β → Prop} {f : α → Bool} {h : β → Bool} (hf : ∀ a b, R a b → f a = h b) : ∀ {as : List α} {bs : List β}, zf2 R as bs → zf2 R (as.filter f) (bs.filter h)
  | [], [], _ => trivial
  | a :: as, b :: bs, hz => by
    have ih := zf2_filter hf (as := as) (bs := bs) hz.2
    have e := hf a b hz.1
    by_cases hb : h b = true
    · rw [List.filter_cons_of_pos (e.trans hb), List.filter_cons_of_pos hb]; exact ⟨hz.1, ih⟩
    · rw [List.filter_cons_of_neg (by rw [e]; exact hb), List.filter_cons_of_neg hb]; exact ih
theorem flt1_ok {g : List Int} {V : EV} {loc : List (Nat × AV)} {lv : List (Nat × Value)} (i : Nat) (h : zf2 (locR g V) loc lv) : zf2 (locR g V) (flt1 i loc) (lv.filter (fun q => !(q.1 == i) && !(q.1 + 1 == i && q.2.category == 2))) :=
  zf2_filter (fun a b r => by obtain ⟨h1, h2, h3⟩ := r; rw [h1, gam_cat h2 h3]) h
/-- the tables of a method: its instructions, its locals, its constants (ints, longs), the fields that it names (index, kind of object, place, 0 int 1 boolean 2 long that may be written, 9 not) -/
abbrev TB : Type := List (Nat × ClassFile.Instr × Nat) × Nat × List (Nat × Int32) × List (Nat × Int64) × List (Nat × Nat × Nat × Nat)
noncomputable def look {β : Type} (l : List (Nat × β)) (i : Nat) : Option β := List.rec none (fun h _ ih => match Nat.beq h.1 i with
  | true => some h.2
  | false => ih) l
theorem look_cons {β : Type} {k : Nat} {a : β} {r : List (Nat × β)} {i : Nat} : look ((k, a) :: r) i = if k = i then some a else look r i := by
  show (match Nat.beq k i with
  | true => some a
  | false => look r i) = _
  cases h : Nat.beq k i with
  | true => rw [if_pos (Nat.eq_of_beq_eq_true h)]
  | false => rw [if_neg (Nat.ne_of_beq_eq_false h)]
theorem look_mem {β : Type} : ∀ {l : List (Nat × β)} {i : Nat} {b : β}, look l i = some b → (i, b) ∈ l
  | [], _, _, h => by cases h
  | (k, c) :: r, i, b, h => by
    rw [look_cons] at h
    split at h
    · rename_i hk; cases h; subst hk; exact List.mem_cons_self
    · exact List.mem_cons_of_mem _ (look_mem h)
noncomputable def psh (a : AS) (len : Nat) (r : GI × AV) : List AS := [(a.1 + len, a.2.1, r.2 :: a.2.2.1, r.1, a.2.2.2.2)]
noncomputable def ldI (a : AS) (i len : Nat) : Option (List AS) := match fnd a.2.1 i with
  | some v => if v.1 ≤ 2 then some (psh a len (a.2.2.2.1, v)) else none
  | none => none
noncomputable def ldL (a : AS) (i len : Nat) : Option (List AS) := match fnd a.2.1 i with
  | some v => if 3 ≤ v.1 ∧ v.1 ≤ 5 then some (psh a len (a.2.2.2.1, v)) else none
  | none => none
noncomputable def ldR (a : AS) (i len : Nat) : Option (List AS) := match fnd a.2.1 i with
  | some v => if v.1 = 6 ∨ v.1 = 13 then some (psh a len (a.2.2.2.1, v)) else none
  | none => none
noncomputable def stI (nL : Nat) (a : AS) (i len : Nat) : Option (List AS) := match a.2.2.1 with
  | v :: st => if v.1 ≤ 2 ∧ i < nL then some [(a.1 + len, (i, v) :: flt1 i a.2.1, st, a.2.2.2.1, a.2.2.2.2)] else none
  | [] => none
noncomputable def bin (f : GI → AV → AV → Option (GI × AV)) (a : AS) : Option (List AS) := match a.2.2.1 with
  | y :: x :: st => if x.1 ≤ 2 ∧ y.1 ≤ 2 then (match f a.2.2.2.1 x y with
    | some r => some [(a.1 + 1, a.2.1, r.2 :: st, r.1, a.2.2.2.2)]
    | none => none) else none
  | _ => none
noncomputable def posI (a : AS) : Bool := match a.2.2.1 with
  | y :: _ => match ivI a.2.2.2.1 y with
    | some q => decide (0 < q.1)
    | none => false
  | [] => false
noncomputable def brs (k : Nat) (a : AS) (st : List AV) (x y : AV) (tgt nxt : Nat) : Option (List AS) := match rfI k a.2.2.2.1 x y, rfI (cmpN k) a.2.2.2.1 x y with
  | some L1, some L2 => some ((L1.map fun G => (tgt, a.2.1, st, G, a.2.2.2.2)) ++ (L2.map fun G => (nxt, a.2.1, st, G, a.2.2.2.2)))
  | _, _ => none
noncomputable def if1 (k : Nat) (off : Int) (a : AS) : Option (List AS) := match a.2.2.1 with
  | x :: st => if 0 ≤ (a.1 : Int) + off then brs k a st x (0, 0, 0) ((a.1 : Int) + off).toNat (a.1 + 3) else none
  | _ => none
noncomputable def if2 (k : Nat) (off : Int) (a : AS) : Option (List AS) := match a.2.2.1 with
  | y :: x :: st => if 0 ≤ (a.1 : Int) + off then brs k a st x y ((a.1 : Int) + off).toNat (a.1 + 3) else none
  | _ => none
noncomputable def cnd : ClassFile.Cond → Nat
  | .eq => 0
  | .ne => 1
  | .lt => 2
  | .ge => 3
  | .gt => 4
  | .le => 5
/-- lcmp and the branch behind it -/
noncomputable def lcb (T : TB) (a : AS) : Option (List AS) := match a.2.2.1, look T.1 (a.1 + 1) with
  | y :: x :: st, some (.ifCond q off, 3) =>
    if 0 ≤ (a.1 : Int) + 1 + off then (match rfL (cnd q) a.2.2.2.1 x y, rfL (cmpN (cnd q)) a.2.2.2.1 x y with
      | some L1, some L2 => some ((L1.map fun G => (((a.1 : Int) + 1 + off).toNat, a.2.1, st, G, a.2.2.2.2)) ++ (L2.map fun G => (a.1 + 1 + 3, a.2.1, st, G, a.2.2.2.2)))
      | _, _ => none) else none
  | _, _ => none
