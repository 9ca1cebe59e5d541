/-! ===== a step on the heap ===== -/
noncomputable def gfd (T : TB) (i : Nat) (a : AS) : Option (List AS) := match a.2.2.1, look T.2.2.2.2 i with
  | x :: st, some (ci, k, _) => if x.1 = 6 then (match a.2.2.2.2[x.2.1.toNat]? with
    | some (fl, .inl (cj, fs)) => if ci = cj then (match fs[k]? with
      | some v => (match nam a.2.2.2.1 v with
        | some r => some [(a.1 + 3, a.2.1, r.2 :: st, r.1, a.2.2.2.2.set x.2.1.toNat (fl, .inl (cj, fs.set k r.2)))]
        | none => none)
      | none => none) else none
    | _ => none) else none
  | _, _ => none
noncomputable def okT (G : GI) (ty : Nat) (v : AV) : Bool := match ty with
  | 0 => decide (v.1 ≤ 2)
  | 1 => decide (v.1 ≤ 2) && (match ivI G v with
    | some q => decide (0 ≤ q.1 ∧ q.2 ≤ 1)
    | none => false)
  | 2 => decide (3 ≤ v.1 ∧ v.1 ≤ 5)
  | _ => false
noncomputable def pfd (T : TB) (i : Nat) (a : AS) : Option (List AS) := match a.2.2.1, look T.2.2.2.2 i with
  | v :: x :: st, some (ci, k, ty) => if x.1 = 6 ∧ okT a.2.2.2.1 ty v = true then (match a.2.2.2.2[x.2.1.toNat]? with
    | some (_, .inl (cj, fs)) => if ci = cj ∧ k < fs.length then some [(a.1 + 3, a.2.1, st, a.2.2.2.1, a.2.2.2.2.set x.2.1.toNat (true, .inl (cj, fs.set k v)))] else none
    | _ => none) else none
  | _, _ => none
noncomputable def ald (t0 t1 : Nat) (a : AS) : Option (List AS) := match a.2.2.1 with
  | i :: x :: st => if x.1 = 6 then (match a.2.2.2.2[x.2.1.toNat]?, ivI a.2.2.2.1 i with
    | some (_, .inr (t, sg)), some q => if (t = t0 ∨ t = t1) ∧ 0 ≤ q.1 ∧ q.2 < (tot sg : Int) then (match rdA a.2.2.2.1 sg q.1.toNat q.2.toNat with
      | some r => some [(a.1 + 1, a.2.1, r.2 :: st, r.1, a.2.2.2.2)]
      | none => none) else none
    | _, _ => none) else none
  | _ => none
/-- what is stored in a row of bytes (0), ints (1), longs (2), booleans (3) -/
noncomputable def stv (G : GI) (t : Nat) (v : AV) : Option AV := match t with
  | 0 => if v.1 ≤ 2 then some (2, -128, 127) else none
  | 1 => if v.1 ≤ 2 ∨ v.1 = 12 then some v else none
  | 2 => if 3 ≤ v.1 ∧ v.1 ≤ 5 then some v else none
  | 3 => match ivI G v with
    | some q => if 0 ≤ q.1 ∧ q.2 ≤ 1 then some v else none
    | none => none
  | _ => none
noncomputable def ast (t0 t1 : Nat) (a : AS) : Option (List AS) := match a.2.2.1 with
  | v :: i :: x :: st => if x.1 = 6 then (match a.2.2.2.2[x.2.1.toNat]?, ivI a.2.2.2.1 i with
    | some (_, .inr (t, sg)), some q => if (t = t0 ∨ t = t1) ∧ 0 ≤ q.1 ∧ q.2 < (tot sg : Int) then (match stv a.2.2.2.1 t v with
      | some w => (match wrA a.2.2.2.1 sg q.1.toNat q.2.toNat w with
        | some sg' => some [(a.1 + 1, a.2.1, st, a.2.2.2.1, a.2.2.2.2.set x.2.1.toNat (true, .inr (t, sg')))]
        | none => none)
      | none => none) else none
    | _, _ => none) else none
  | _ => none
noncomputable def tsw (a : AS) (st : List AV) (x : AV) : List Int → Int → Option (List AS)
  | [], _ => some []
  | off :: r, v => match rfI 0 a.2.2.2.1 x (0, v, 0), tsw a st x r (v + 1) with
    | some L1, some L2 => if 0 ≤ (a.1 : Int) + off ∧ -2147483648 ≤ v ∧ v ≤ 2147483647 then some ((L1.map fun G => (((a.1 : Int) + off).toNat, a.2.1, st, G, a.2.2.2.2)) ++ L2) else none
    | _, _ => none
noncomputable def tsd (a : AS) (dflt lo hi : Int) (offs : Array Int) : Option (List AS) := match a.2.2.1 with
  | x :: st => if -2147483648 ≤ lo ∧ lo ≤ hi ∧ hi ≤ 2147483647 ∧ hi - lo + 1 = (offs.toList.length : Int) ∧ 0 ≤ (a.1 : Int) + dflt then (match tsw a st x offs.toList lo, rfI 2 a.2.2.2.1 x (0, lo, 0), rfI 4 a.2.2.2.1 x (0, hi, 0) with
    | some L1, some L2, some L3 => some (L1 ++ ((L2 ++ L3).map fun G => (((a.1 : Int) + dflt).toNat, a.2.1, st, G, a.2.2.2.2)))
    | _, _, _ => none) else none
  | _ => none
/-- a reference out of a row of them: one way for each place -/
noncomputable def alr (a : AS) (st : List AV) (i : AV) (sg : List (Nat × AV)) : Nat → Int → Option (List AS)
  | 0, _ => some []
  | n + 1, j => match rfI 0 a.2.2.2.1 i (0, j, 0), lk sg j.toNat, alr a st i sg n (j + 1) with
    | some L1, some v, some L2 => if v.1 = 6 ∧ 0 ≤ j ∧ j ≤ 2147483647 then some ((L1.map fun G => (a.1 + 1, a.2.1, v :: st, G, a.2.2.2.2)) ++ L2) else none
    | _, _, _ => none
noncomputable def alR (a : AS) : Option (List AS) := match a.2.2.1 with
  | i :: x :: st => if x.1 = 6 then (match a.2.2.2.2[x.2.1.toNat]?, ivI a.2.2.2.1 i with
    | some (_, .inr (4, sg)), some q => if 0 ≤ q.1 ∧ q.2 < (tot sg : Int) then alr a st i sg (q.2 - q.1 + 1).toNat q.1 else none
    | _, _ => none) else none
  | _ => none
noncomputable def stpH (T : TB) (ins : ClassFile.Instr) (len : Nat) (a : AS) : Option (List AS) := match ins with
  | .getfield i => if len = 3 then gfd T i a else none
  | .putfield i => if len = 3 then pfd T i a else none
  | .iaload => if len = 1 then ald 1 1 a else none
  | .baload => if len = 1 then ald 0 3 a else none
  | .laload => if len = 1 then ald 2 2 a else none
  | .aaload => if len = 1 then alR a else none
  | .iastore => if len = 1 then ast 1 1 a else none
  | .bastore => if len = 1 then ast 0 3 a else none
  | .lastore => if len = 1 then ast 2 2 a else none
  | .tableswitch dflt lo hi offs => tsd a dflt lo hi offs
  | _ => none
theorem kep_same {hp : HP} {es0 es : List va_E} {r : Nat} {fl : Bool} {c c' : AC} (h : kep hp es0 es) (hr : hp[r]? = some (fl, c)) : kep (hp.set r (fl, c')) es0 es := by
  intro j q hj hq
  by_cases hjr : r = j
  · subst hjr
    have hlt : r < hp.length := (List.getElem?_eq_some_iff.mp hr).1
    rw [List.getElem?_set_self hlt] at hj
    cases hj
    exact h r (fl, c) hr hq
  · rw [List.getElem?_set_ne hjr] at hj
    exact h j q hj hq
theorem kep_set {hp : HP} {es0 es : List va_E} {r : Nat} {c' : AC} {e' : va_E} (h : kep hp es0 es) : kep (hp.set r (true, c')) es0 (es.set r e') := by
  intro j q hj hq
  by_cases hjr : r = j
  · subst hjr
    by_cases hlt : r < hp.length
    · rw [List.getElem?_set_self hlt] at hj
      cases hj
      cases hq
    · rw [List.getElem?_eq_none (by simpa using hlt)] at hj
      cases hj
  · rw [List.getElem?_set_ne hjr] at hj
    rw [List.getElem?_set_ne hjr]
    exact h j q hj hq
/-- a cell that the interpreter knows, in the machine -/
theorem HS_get {D : va_G} {cl : List vw_C} {A : Nat → Prop} {H0 : Heap} {V : EV} {cA : Nat → ClassId} {es0 : List va_E} {hp : HP} {g : List Int} {es : List va_E} {H : Heap} {locs : List Loc} (h : HS D cl A H0 V cA es0 hp g es H locs) {x : AV} {v : Value} (hx : gam g V x v) (ht : x.1 = 6) {q : Bool × AC} (hq : hp[x.2.1.toNat]? = some q) : ∃ (r : Nat) (en : va_E), v = .ref r ∧ V.2[x.2.1.toNat]? = some r ∧ es[x.2.1.toNat]? = some en ∧ relC g V cA q.2 en ∧ (zw V.2 es)[x.2.1.toNat]? = some (r, en) := by
  obtain ⟨r, h1, h2⟩ := gam_ref hx ht
  obtain ⟨en, h3, h4⟩ := zf2_get h.1 hq
  exact ⟨r, en, h2, h1, h3, h4, zw_get h1 h3⟩
theorem HS_put {D : va_G} {cl : List vw_C} {A : Nat → Prop} {H0 : Heap} {V : EV} {cA : Nat → ClassId} {es0 : List va_E} {hp : HP} {g : List Int} {es : List va_E} {H H1 : Heap} {locs locs1 : List Loc} (h : HS D cl A H0 V cA es0 hp g es H locs) {k r : Nat} {c' : AC} {e' : va_E} (hr : V.2[k]? = some r) (hc : relC g V cA c' e') (h1 : va_P D cl ((zw V.2 es).set k (r, e')) H1) (h2 : va_D A ((zw V.2 es).set k (r, e'))) (h3 : va_S A H0 H1 locs1) : HS D cl A H0 V cA es0 (hp.set k (true, c')) g (es.set k e') H1 locs1 := by
  obtain ⟨a1, a2, a3, a4, a5, a6⟩ := h
  rw [zw_set hr] at h1 h2
  exact ⟨zf2_set (R := fun (x : Bool × AC) (y : va_E) => relC g V cA x.2 y) hc a1 k, kep_set a2, h1, h2, h3, by simpa using a6⟩
theorem relC_obj {g : List Int} {V : EV} {cA : Nat → ClassId} {ci : Nat} {fs : List AV} {e : va_E} (h : relC g V cA (.inl (ci, fs)) e) : ∃ vs, e = .inr (ci, vs) ∧ zf2 (gam g V) fs vs := by
  unfold relC at h
  split at h
  · rename_i o q hq
    cases hq
    obtain ⟨q1, q2⟩ := q
    simp only at h
    exact ⟨q2, by rw [h.1], h.2⟩
  · rename_i hq; cases hq
  · rename_i hq; cases hq
  · rename_i hq; cases hq
  · exact h.elim
theorem relC_arI {g : List Int} {V : EV} {cA : Nat → ClassId} {t : Nat} {sg : List (Nat × AV)} {e : va_E} (h : relC g V cA (.inr (t, sg)) e) (ht : t = 0 ∨ t = 1 ∨ t = 3) : ∃ f : Nat → Int32, e = .inl (cA t, tot sg, .inl f) ∧ tot sg < 2 ^ 31 ∧ ∀ (i : Nat) (b : AV), lk sg i = some b → gam g V b (.int (f i)) := by
  unfold relC at h
  split at h
  · rename_i hq; cases hq
  · rename_i t' k n f hq
    cases hq
    simp only at h
    obtain ⟨-, rfl, rfl, h4, h5⟩ := h
    exact ⟨f, rfl, h4, h5⟩
  · rename_i hq; cases hq; simp only at h; omega
  · rename_i hq; cases hq; simp only at h; omega
  · exact h.elim
theorem relC_arL {g : List Int} {V : EV} {cA : Nat → ClassId} {sg : List (Nat × AV)} {e : va_E} (h : relC g V cA (.inr (2, sg)) e) : ∃ f : Nat → Int64, e = .inl (cA 2, tot sg, .inr (.inl f)) ∧ tot sg < 2 ^ 31 ∧ ∀ (i : Nat) (b : AV), lk sg i = some b → gam g V b (.long (f i)) := by
  unfold relC at h
  split at h
  · rename_i hq; cases hq
  · rename_i hq; cases hq; simp only at h; omega
  · rename_i t' k n f hq
    cases hq
    simp only at h
    obtain ⟨-, rfl, rfl, h4, h5⟩ := h
    exact ⟨f, rfl, h4, h5⟩
  · rename_i hq; cases hq; simp only at h; omega
  · exact h.elim
theorem relC_arR {g : List Int} {V : EV} {cA : Nat → ClassId} {sg : List (Nat × AV)} {e : va_E} (h : relC g V cA (.inr (4, sg)) e) : ∃ f : Nat → Option Nat, e = .inl (cA 4, tot sg, .inr (.inr (.inr (.inr f)))) ∧ tot sg < 2 ^ 31 ∧ ∀ (i : Nat) (b : AV), lk sg i = some b → gam g V b (va_rf (f i)) := by
  unfold relC at h
  split at h
  · rename_i hq; cases hq
  · rename_i hq; cases hq; simp only at h; omega
  · rename_i hq; cases hq; simp only at h; omega
  · rename_i t' k n f hq
    cases hq
    simp only at h
    obtain ⟨-, rfl, rfl, h4, h5⟩ := h
    exact ⟨f, rfl, h4, h5⟩
  · exact h.elim
theorem ae_cl (i : Int32) : i.toNatClampNeg = i.toInt.toNat := rfl
