/-! ===== a step without the heap ===== -/
/-- a long of two longs (false), or of a long and an int (true): any -/
noncomputable def lgt (b : Bool) (a : AS) : Option (List AS) := match a.2.2.1 with
  | y :: x :: st => if (3 ≤ x.1 ∧ x.1 ≤ 5) ∧ ((b = true ∧ y.1 ≤ 2) ∨ (b = false ∧ 3 ≤ y.1 ∧ y.1 ≤ 5)) then some [(a.1 + 1, a.2.1, (mk5 a.2.2.2.1 topL).2 :: st, (mk5 a.2.2.2.1 topL).1, a.2.2.2.2)] else none
  | _ => none
noncomputable def stpA (T : TB) (ins : ClassFile.Instr) (len : Nat) (a : AS) : Option (List AS) := match ins with
  | .iconst n => if len = 1 ∧ -2147483648 ≤ n ∧ n ≤ 2147483647 then some (psh a 1 (a.2.2.2.1, (0, n, 0))) else none
  | .bipush n => if len = 2 ∧ -128 ≤ n ∧ n ≤ 127 then some (psh a 2 (a.2.2.2.1, (0, n, 0))) else none
  | .sipush n => if len = 3 ∧ -32768 ≤ n ∧ n ≤ 32767 then some (psh a 3 (a.2.2.2.1, (0, n, 0))) else none
  | .lconst n => if len = 1 then some (psh a 1 (a.2.2.2.1, (3, ((n : Nat) : Int), 0))) else none
  | .ldc i => if len = 2 then (match look T.2.2.1 i with
    | some v => some (psh a 2 (a.2.2.2.1, (0, v.toInt, 0)))
    | none => none) else none
  | .ldc2_w i => if len = 3 then (match look T.2.2.2.1 i with
    | some v => some (psh a 3 (a.2.2.2.1, (3, v.toInt, 0)))
    | none => none) else none
  | .iload_n k => if len = 1 then ldI a k 1 else none
  | .iload i => if len = 2 then ldI a i 2 else none
  | .lload_n k => if len = 1 then ldL a k 1 else none
  | .lload i => if len = 2 then ldL a i 2 else none
  | .aload_n k => if len = 1 then ldR a k 1 else none
  | .aload i => if len = 2 then ldR a i 2 else none
  | .istore_n k => if len = 1 then stI T.2.1 a k 1 else none
  | .istore i => if len = 2 then stI T.2.1 a i 2 else none
  | .iinc i n => if len = 3 ∧ i < T.2.1 ∧ -2147483648 ≤ n ∧ n ≤ 2147483647 then (match fnd a.2.1 i with
    | some v => if v.1 ≤ 2 then (match addI a.2.2.2.1 v (0, n, 0) with
      | some r => if r.2.1 ≤ 2 then some [(a.1 + 3, (i, r.2) :: flt1 i a.2.1, a.2.2.1, r.1, a.2.2.2.2)] else none
      | none => none) else none
    | none => none) else none
  | .iadd => if len = 1 then bin addI a else none
  | .isub => if len = 1 then bin subI a else none
  | .imul => if len = 1 then bin (binF (cstF (· * ·) mulF)) a else none
  | .iand => if len = 1 then bin (binF (cstF (· &&& ·) andF)) a else none
  | .ior => if len = 1 then bin (binF (cstF (· ||| ·) topF)) a else none
  | .ixor => if len = 1 then bin (binF (cstF (· ^^^ ·) topF)) a else none
  | .ishl => if len = 1 then bin (binF (cstF (fun x y => x <<< (y &&& 31)) shlF)) a else none
  | .ishr => if len = 1 then bin (binF (cstF (fun x y => x >>> (y &&& 31)) shrF)) a else none
  | .iushr => if len = 1 then bin (binF (cstF (fun x y => (x.toUInt32 >>> (y.toUInt32 &&& Int32.toUInt32 31)).toInt32) topF)) a else none
  | .idiv => if len = 1 ∧ posI a = true then bin (binF divF) a else none
  | .irem => if len = 1 ∧ posI a = true then bin (binF remF) a else none
  | .i2l => if len = 1 then (match a.2.2.1 with
    | x :: st => (match i2lA x with
      | some r => some [(a.1 + 1, a.2.1, r :: st, a.2.2.2.1, a.2.2.2.2)]
      | none => none)
    | _ => none) else none
  | .i2b => if len = 1 then (match a.2.2.1 with
    | x :: st => if x.1 ≤ 2 then some [(a.1 + 1, a.2.1, (mk2 a.2.2.2.1 (-128, 127)).2 :: st, (mk2 a.2.2.2.1 (-128, 127)).1, a.2.2.2.2)] else none
    | _ => none) else none
  | .dup => if len = 1 then (match a.2.2.1 with
    | x :: st => if x.1 ≤ 2 ∨ x.1 = 6 then some [(a.1 + 1, a.2.1, x :: x :: st, a.2.2.2.1, a.2.2.2.2)] else none
    | _ => none) else none
  | .dup2 => if len = 1 then (match a.2.2.1 with
    | x :: y :: st => if (x.1 ≤ 2 ∨ x.1 = 6) ∧ (y.1 ≤ 2 ∨ y.1 = 6) then some [(a.1 + 1, a.2.1, x :: y :: x :: y :: st, a.2.2.2.1, a.2.2.2.2)] else none
    | _ => none) else none
  | .pop => if len = 1 then (match a.2.2.1 with
    | x :: st => if x.1 ≤ 2 ∨ x.1 = 6 then some [(a.1 + 1, a.2.1, st, a.2.2.2.1, a.2.2.2.2)] else none
    | _ => none) else none
  | .ifCond q off => if len = 3 then if1 (cnd q) off a else none
  | .if_icmp q off => if len = 3 then if2 (cnd q) off a else none
  | .goto off => if len = 3 ∧ 0 ≤ (a.1 : Int) + off then some [(((a.1 : Int) + off).toNat, a.2.1, a.2.2.1, a.2.2.2.1, a.2.2.2.2)] else none
  | .lcmp => if len = 1 then lcb T a else none
  | .land => if len = 1 then lgt false a else none
  | .lor => if len = 1 then lgt false a else none
  | .lshl => if len = 1 then lgt true a else none
  | _ => none
theorem WA_psh {Wf : Heap → List Loc → JFrame → Prop} {m : MethodId} {nL : Nat} {D : va_G} {cl : List vw_C} {A : Nat → Prop} {H0 : Heap} {V : EV} {cA : Nat → ClassId} {es0 : List va_E} {g0 : List Int} {a : AS} {len : Nat} {r : GI × AV} (hL : ∀ b ∈ psh a len r, WA Wf m nL D cl A H0 V cA es0 g0 b)
    {g g' : List Int} {lv : List (Nat × Value)} {sv : List Value} {es : List va_E} {ls : Array Slot} {H : Heap} {locs : List Loc} {v : Value} (h0 : gxt g0 g) (hlv : lv_has ls nL lv) (hl : zf2 (locR g V) a.2.1 lv) (hs : zf2 (gam g V) a.2.2.1 sv) (hH : HS D cl A H0 V cA es0 a.2.2.2.2 g es H locs) (hx : gxt g g') (hG : GS r.1 g') (hv : gam g' V r.2 v) : Wf H locs (F0 m (a.1 + len) ls (v :: sv)) :=
  hL _ (List.mem_singleton.mpr rfl) g' lv (v :: sv) es ls H locs (gxt_tr h0 hx) hG hlv (loc_ext hx hl) ⟨hv, st_ext hx hs⟩ (HS_ext hx hH)
theorem bin_ok {Wf : Heap → List Loc → JFrame → Prop} {m : MethodId} {nL : Nat} {D : va_G} {cl : List vw_C} {A : Nat → Prop} {H0 : Heap} {V : EV} {cA : Nat → ClassId} {es0 : List va_E} {g0 : List Int} {a : AS} {f : GI → AV → AV → Option (GI × AV)} {op : Int32 → Int32 → Int32} (hf : BinS f op) {L : List AS} (h : bin f a = some L) (hL : ∀ b ∈ L, WA Wf m nL D cl A H0 V cA es0 g0 b)
    (hrow : ∀ (x y : Int32) (sv : List Value) (ls : Array Slot) (H : Heap) (locs : List Loc), (∀ q, a.2.2.1.head?.bind (ivI a.2.2.2.1) = some q → inI q y.toInt) → Wf H locs (F0 m (a.1 + 1) ls (.int (op x y) :: sv)) → Wf H locs (F0 m a.1 ls (.int y :: .int x :: sv))) : WA Wf m nL D cl A H0 V cA es0 g0 a := by
  intro g lv sv es ls H locs h0 hG hlv hl hs hH
  unfold bin at h
  split at h
  · rename_i y x st hst
    split at h
    · rename_i ht
      split at h
      · rename_i r hr
        cases h
        rw [hst] at hs
        obtain ⟨vy, sv1, rfl, hy, hs1⟩ := zf2_cons hs
        obtain ⟨vx, sv2, rfl, hx, hs2⟩ := zf2_cons hs1
        obtain ⟨X, rfl⟩ := gam_int hx ht.1
        obtain ⟨Y, rfl⟩ := gam_int hy ht.2
        obtain ⟨g', e1, e2, e3⟩ := hf _ _ V _ _ _ _ _ hG hx hy hr
        refine hrow X Y sv2 ls H locs (fun q hq => ?_) ?_
        · rw [hst] at hq
          obtain ⟨z, e4, e5⟩ := ivI_ok hG hy (by simpa using hq)
          cases e4
          exact e5
        · exact hL _ (List.mem_singleton.mpr rfl) g' lv _ es ls H locs (gxt_tr h0 e1) e2 hlv (loc_ext e1 hl) ⟨e3, st_ext e1 hs2⟩ (HS_ext e1 hH)
      · cases h
    · cases h
  · cases h
theorem brs_ok {Wf : Heap → List Loc → JFrame → Prop} {m : MethodId} {nL : Nat} {D : va_G} {cl : List vw_C} {A : Nat → Prop} {H0 : Heap} {V : EV} {cA : Nat → ClassId} {es0 : List va_E} {g0 : List Int} {a : AS} {k : Nat} {st : List AV} {x y : AV} {tgt nxt : Nat} {L : List AS} (h : brs k a st x y tgt nxt = some L) (hL : ∀ b ∈ L, WA Wf m nL D cl A H0 V cA es0 g0 b)
    {g : List Int} {lv : List (Nat × Value)} {sv : List Value} {es : List va_E} {ls : Array Slot} {H : Heap} {locs : List Loc} {vx vy : Value} (h0 : gxt g0 g) (hG : GS a.2.2.2.1 g) (hlv : lv_has ls nL lv) (hl : zf2 (locR g V) a.2.1 lv) (hx : gam g V x vx) (hy : gam g V y vy) (hs : zf2 (gam g V) st sv) (hH : HS D cl A H0 V cA es0 a.2.2.2.2 g es H locs) :
    ∃ X Y : Int32, vx = .int X ∧ vy = .int Y ∧ (cmpH k X.toInt Y.toInt → Wf H locs (F0 m tgt ls sv)) ∧ (¬ cmpH k X.toInt Y.toInt → Wf H locs (F0 m nxt ls sv)) := by
  unfold brs at h
  split at h
  · rename_i L1 L2 h1 h2
    cases h
    obtain ⟨X, Y, e1, e2, e3⟩ := rfI_ok hG hx hy h1
    obtain ⟨X', Y', e4, e5, e6⟩ := rfI_ok hG hx hy h2
    subst e1; subst e2
    cases e4; cases e5
    refine ⟨X, Y, rfl, rfl, fun hc => ?_, fun hc => ?_⟩
    · obtain ⟨G', m1, m2⟩ := e3 hc
      exact hL _ (List.mem_append_left _ (List.mem_map.mpr ⟨G', m1, rfl⟩)) g lv sv es ls H locs h0 m2 hlv hl hs hH
    · obtain ⟨G', m1, m2⟩ := e6 (cmpN_ok hc)
      exact hL _ (List.mem_append_right _ (List.mem_map.mpr ⟨G', m1, rfl⟩)) g lv sv es ls H locs h0 m2 hlv hl hs hH
  · cases h
theorem ae_z : (0 : Int32).toInt = 0 := by decide
/-- what the tables of a method must be -/
noncomputable def FOK (own : String) (cl : List vw_C) (Ts : List Jvm.Cond) (q : Nat × Nat × Nat × Nat) : Prop := ∃ (C : String) (F : u_T) (N : Nat) (ty : Nat → FieldType), cl[q.2.1]? = some (C, F, N) ∧ q.2.2.1 < N ∧ (∀ w ∈ u_ws C F N, w ∈ Ts) ∧ Jvm.Cond.fieldLink own q.1 (F q.2.2.1).1 (F q.2.2.1).2.1 (F q.2.2.1).2.2.1 ∈ Ts ∧ (∀ k, k < N → parseFieldDescriptor (F k).2.2.1 = some (ty k)) ∧ (∀ a, a < N → ∀ b, b < N → a ≠ b → (F a).2.1 ≠ (F b).2.1) ∧ (q.2.2.2 ≤ 2 → (F q.2.2.1).2.2.2 = false ∧ ty q.2.2.1 = (if q.2.2.2 = 0 then .int else if q.2.2.2 = 1 then .boolean else .long))
noncomputable def TOK (own : String) (cl : List vw_C) (Ts : List Jvm.Cond) (cc : ByteArray) (T : TB) : Prop := (∀ q ∈ T.1, decode cc q.1 = .ok q.2) ∧ (∀ q ∈ T.2.2.1, Jvm.Cond.constant own q.1 q.2 ∈ Ts) ∧ (∀ q ∈ T.2.2.2.1, Jvm.Cond.constantLong own q.1 q.2 ∈ Ts) ∧ (∀ q ∈ T.2.2.2.2, FOK own cl Ts q)
