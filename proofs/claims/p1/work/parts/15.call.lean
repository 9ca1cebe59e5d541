/-! ===== contracts, and a call by one ===== -/
def nestM : List (String × Nat × MethodName × String) := [(RX11, 9, ⟨RX10, "<init>", "()V"⟩, RX11), (RX6, 11, ⟨RX4, "<init>", "()V"⟩, RX11), (RX11, 27, ⟨RX9, "<init>", "()V"⟩, RX11), (RX9, 9, ⟨RX4, "<init>", "()V"⟩, RX11), (RX9, 18, ⟨RX0, "<init>", "()V"⟩, RX11), (RX11, 38, ⟨RX8, "<init>", "()V"⟩, RX11), (RX11, 58, ⟨RX7, "<init>", "()V"⟩, RX11), (RX11, 68, ⟨RX3, "<init>", "()V"⟩, RX11), (RX11, 87, ⟨RX2, "<init>", "()V"⟩, RX11), (RX6, 147, ⟨RX11, "hasBit", "(II)Z"⟩, RX11), (RX1, 45, ⟨RX11, "hasBit", "(II)Z"⟩, RX11), (RX3, 58, ⟨RX11, "hasBit", "(II)Z"⟩, RX11), (RX5, 70, ⟨RX11, "hasBit", "(II)Z"⟩, RX11), (RX2, 40, ⟨RX11, "hasBit", "(II)Z"⟩, RX11)]
def NOK (U : State) : Prop := ∀ q ∈ nestM, va_Nw (.methodLinkNest q.1 q.2.1 q.2.2.1 q.2.2.2) U
theorem NOK_same {u U : State} (h : u.vm = U.vm) (hn : NOK u) : NOK U := fun q hq => va_Nw.same rfl h (hn q hq)
theorem NOK_warm {s U : State} (hW : s.WarmedH U.vm) (hn : NOK s) : NOK U := fun q hq => va_Nw.warmM hW (hn q hq)
/-- a method (its name, bytes, locals, what it returns), its room (frames, locals), its start (arguments, numbers, cells), its ends (answer, numbers, cells: false: as they were) -/
abbrev Con : Type := (MethodName × ByteArray × Nat × Option FieldType) × (Nat × Nat) × (List AV × GI × List AC) × List (AV × GI × HP)
def retR (g : List Int) (V : EV) (r : AV) (oc : Outcome) : Prop := (r.1 = 9 ∧ oc = .returned none) ∨ (r.1 ≠ 9 ∧ ∃ v, oc = .returned (some v) ∧ gam g V r v)
def PcC (D : va_G) (cl : List vw_C) (cA : Nat → ClassId) (vs : List Value) (ad : List Nat) (es : List va_E) (sz : Nat) : Array Value → State → Prop := va_Pc vs (fun U => U.heap.size = sz ∧ va_P D cl (zw ad es) U.heap ∧ va_K D cl (tysA cA) U ∧ va_D (fun _ => True) (zw ad es) ∧ NOK U)
def OutC (D : va_G) (cl : List vw_C) (cA : Nat → ClassId) (outs : List (AV × GI × HP)) (g : List Int) (gv : List Value) (ad : List Nat) (es : List va_E) (oc : Outcome) (t : State) : Prop := ∃ o ∈ outs, ∃ es', retR g (gv, ad) o.1 oc ∧ GS o.2.1 g ∧ zf2 (relK g (gv, ad) cA) o.2.2 es' ∧ kep o.2.2 es es' ∧ va_P D cl (zw ad es') t.heap ∧ es'.length = ad.length
def QcC (D : va_G) (cl : List vw_C) (cA : Nat → ClassId) (outs : List (AV × GI × HP)) (g : List Int) (gv : List Value) (ad : List Nat) (es : List va_E) (sz : Nat) : Array Value → State → Outcome → State → Prop := fun _ st oc t => OutC D cl cA outs g gv ad es oc t ∧ va_F (va_A (zw ad es) sz) st t
def rmC (k : Con) : Room := { frames := k.2.1.1, cells := 0, slots := 0, locals := k.2.1.2 }
def Vld (l : Launch) (cl : List vw_C) (Ts : List Jvm.Cond) (k : Con) : Prop := ∀ (D : va_G) (cA : Nat → ClassId) (g : List Int) (gv : List Value) (ad : List Nat) (es : List va_E) (vs : List Value) (sz : Nat), GS k.2.2.1.2.1 g → zf2 (gam g (gv, ad)) k.2.2.1.1 vs → zf2 (relC g (gv, ad) cA) k.2.2.1.2.2 es → es.length = ad.length →
  Met l k.1.1 (.code k.1.1 k.1.2.1 k.1.2.2.1 k.1.2.2.2 :: Ts) (rmC k) (PcC D cl cA vs ad es sz) (QcC D cl cA k.2.2.2 g gv ad es sz) 0 0 (va_A (zw ad es) sz)
/-- a call that the caller's class may make: by its index, of an object's method (false) or not (true) -/
def COK (own : String) (cl : List vw_C) (Ts : List Jvm.Cond) (i : Nat) (st : Bool) (k : Con) : Prop :=
  Jvm.Cond.code k.1.1 k.1.2.1 k.1.2.2.1 k.1.2.2.2 ∈ Ts ∧ Jvm.Cond.methodLink own i k.1.1 ∈ Ts ∧ Jvm.Cond.initialized k.1.1.cls ∈ Ts ∧ (k.1.1.cls ≠ "java/lang/invoke/MethodHandle" ∧ k.1.1.cls ≠ "java/lang/invoke/VarHandle") ∧
  (st = true → Jvm.Cond.static k.1.1 ∈ Ts ∧ (parseMethodDescriptor k.1.1.desc).map (fun d => d.parameters.length) = some k.2.2.1.1.length) ∧
  (st = false → Jvm.Cond.instanceMethod k.1.1 ∈ Ts ∧ Jvm.Cond.selects k.1.1.cls k.1.1 k.1.1 ∈ Ts ∧ (∃ as, k.2.2.1.1 = (6, 0, 0) :: as ∧ (parseMethodDescriptor k.1.1.desc).map (fun d => d.parameters.length) = some as.length) ∧ ∃ (ci : Nat) (fs : List AV) (F : u_T) (N : Nat), k.2.2.1.2.2[0]? = some (.inl (ci, fs)) ∧ cl[ci]? = some (k.1.1.cls, F, N))
def cOut (a : AS) (σ : List Nat) (cv xv : List AV) (rest : List AV) (cells : HP) (o : AV × GI × HP) : Option (List AS) :=
  if o.2.1.length = cv.length then (match trH σ cv xv o.2.2 cells with
    | none => none
    | some cs => match rfn a.2.2.2.1 cv xv o.2.1 with
      | none => some []
      | some G => if o.1.1 = 9 then some [(a.1 + 3, a.2.1, rest, G, sAll a.2.2.2.2 σ cs)] else (match trV σ cv xv o.1 with
        | none => none
        | some r => match nam G r with
          | none => none
          | some q => some [(a.1 + 3, a.2.1, q.2 :: rest, q.1, sAll a.2.2.2.2 σ cs)])) else none
def cOuts (a : AS) (σ : List Nat) (cv xv : List AV) (rest : List AV) (cells : HP) : List (AV × GI × HP) → Option (List AS)
  | [] => some []
  | o :: r => match cOut a σ cv xv rest cells o, cOuts a σ cv xv rest cells r with
    | some L1, some L2 => some (L1 ++ L2)
    | _, _ => none
theorem cOuts_mem {a : AS} {σ : List Nat} {cv xv rest : List AV} {cells : HP} : ∀ {outs : List (AV × GI × HP)} {L : List AS} {o : AV × GI × HP}, cOuts a σ cv xv rest cells outs = some L → o ∈ outs → ∃ L', cOut a σ cv xv rest cells o = some L' ∧ ∀ b ∈ L', b ∈ L
  | [], _, _, _, h => by cases h
  | x :: r, L, o, h, ho => by
    unfold cOuts at h
    split at h
    · rename_i L1 L2 h1 h2
      cases h
      rcases List.mem_cons.mp ho with rfl | ho
      · exact ⟨L1, h1, fun b hb => List.mem_append_left _ hb⟩
      · obtain ⟨L', e1, e2⟩ := cOuts_mem h2 ho
        exact ⟨L', e1, fun b hb => List.mem_append_right _ (e2 b hb)⟩
    · cases h
def cll (R : Nat × Nat) (a : AS) (k : Con) (σ : List Nat) : Option (List AS) :=
  if k.2.2.1.1.length ≤ a.2.2.1.length ∧ va_nd σ = true ∧ (((a.2.2.1.drop k.2.2.1.1.length).map catA).sum ≤ 8 ∧ (a.2.2.1.drop k.2.2.1.1.length).all (fun q => decide (q.1 ≠ 8)) = true) ∧ k.2.1.1 + 1 ≤ R.1 ∧ 8 + (k.1.2.2.1 + 11) + k.2.1.2 ≤ R.2 then (match gAll a.2.2.2.2 σ with
    | none => none
    | some cells => if mtc σ a.2.2.2.1 k.2.2.1.2.1 0 k.2.2.1.1 (a.2.2.1.take k.2.2.1.1.length).reverse && (mtC σ a.2.2.2.1 k.2.2.1.2.1 k.2.2.1.1.length k.2.2.1.2.2 (cells.map Prod.snd) && decide (k.2.2.1.2.1.length = (k.2.2.1.1 ++ k.2.2.1.2.2.flatMap fldA).length)) then
        cOuts a σ (k.2.2.1.1 ++ k.2.2.1.2.2.flatMap fldA) ((a.2.2.1.take k.2.2.1.1.length).reverse ++ (cells.map Prod.snd).flatMap fldA) (a.2.2.1.drop k.2.2.1.1.length) cells k.2.2.2 else none) else none
theorem zf2_take {α β : Type} {R : α → β → Prop} : ∀ {n : Nat} {as : List α} {bs : List β}, zf2 R as bs → zf2 R (as.take n) (bs.take n) ∧ zf2 R (as.drop n) (bs.drop n)
  | 0, as, bs, h => ⟨by simp [zf2], by simpa using h⟩
  | n + 1, [], [], _ => ⟨by simp [zf2], by simp [zf2]⟩
  | n + 1, [], _ :: _, h => h.elim
  | n + 1, _ :: _, [], h => h.elim
  | n + 1, a :: as, b :: bs, h => by
    have ih := zf2_take (n := n) h.2
    exact ⟨⟨h.1, ih.1⟩, ih.2⟩
theorem zf2_apps {α β : Type} {R : α → β → Prop} : ∀ {as as' : List α} {bs bs' : List β}, zf2 R as bs → zf2 R as' bs' → zf2 R (as ++ as') (bs ++ bs')
  | [], _, [], _, _, h => h
  | [], _, _ :: _, _, h, _ => h.elim
  | _ :: _, _, [], _, h, _ => h.elim
  | _ :: as, _, _ :: bs, _, h, h' => ⟨h.1, zf2_apps (as := as) (bs := bs) h.2 h'⟩
theorem zf2_rev {α β : Type} {R : α → β → Prop} : ∀ {as : List α} {bs : List β}, zf2 R as bs → zf2 R as.reverse bs.reverse
  | [], [], _ => trivial
  | [], _ :: _, h => h.elim
  | _ :: _, [], h => h.elim
  | a :: as, b :: bs, h => by
    rw [List.reverse_cons, List.reverse_cons]
    exact zf2_apps (zf2_rev (as := as) (bs := bs) h.2) ⟨h.1, trivial⟩
theorem zf2_fld {g : List Int} {V : EV} {cA : Nat → ClassId} : ∀ {xs : List AC} {es : List va_E}, zf2 (relC g V cA) xs es → zf2 (gam g V) (xs.flatMap fldA) (es.flatMap fldE)
  | [], [], _ => trivial
  | [], _ :: _, h => h.elim
  | _ :: _, [], h => h.elim
  | .inl x :: xs, e :: es, h => by
    obtain ⟨x1, x2⟩ := x
    obtain ⟨vs, rfl, e5⟩ := relC_obj h.1
    simp only [List.flatMap_cons]
    exact zf2_apps e5 (zf2_fld (xs := xs) (es := es) h.2)
  | .inr x :: xs, e :: es, h => by
    simp only [List.flatMap_cons, relC_arr h.1]
    exact zf2_fld (xs := xs) (es := es) h.2
theorem zf2_map {α β γ : Type} {R : γ → β → Prop} {f : α → γ} : ∀ {as : List α} {bs : List β}, zf2 (fun a b => R (f a) b) as bs → zf2 R (as.map f) bs
  | [], [], _ => trivial
  | [], _ :: _, h => h.elim
  | _ :: _, [], h => h.elim
  | _ :: as, _ :: bs, h => ⟨h.1, zf2_map (as := as) (bs := bs) h.2⟩
theorem cat_sum {g : List Int} {V : EV} : ∀ {st : List AV} {sv : List Value}, zf2 (gam g V) st sv → st.all (fun q => decide (q.1 ≠ 8)) = true → (sv.map fun v => v.category).sum = (st.map catA).sum
  | [], [], _, _ => rfl
  | [], _ :: _, h, _ => h.elim
  | _ :: _, [], h, _ => h.elim
  | a :: st, v :: sv, h, ha => by
    simp only [List.all_cons, Bool.and_eq_true, decide_eq_true_eq] at ha
    simp only [List.map_cons, List.sum_cons]
    rw [gam_cat h.1 ha.1, cat_sum h.2 ha.2]
/-- a call that ends with a contract's end -/
theorem my_call {p : Program} {l : Launch} {e : Env} {R : Room} {s : State} {m : MethodId} {args : Array Value} {below : List Frame} {meth : Method} {c : Code} {H : Heap} {locs : List Loc} {cells slots : Nat} {Q : State → Prop} {pc : Nat} {ls : Array Slot} {rest st0 : List Value} {A0 A1 : Nat → Prop} {H0 : Heap} {free : Addr → Prop} {P : Outcome → State → Prop} (hr : va_Run p l e R s m args below meth c H locs cells slots 0 0 (F0 m pc ls st0) rest (fun st oc t => P oc t ∧ va_F A1 st t) free) (hS : va_S A0 H0 H locs) (hA : ∀ q, q < H.size → A1 q → A0 q) (hf : ∀ q, free q → A0 q)
    (kk : ∀ (v : Option Value) (t : State) (H1 : Heap) (locs1 : List Loc), t.heap = H1 → P (.returned v) t → H.size ≤ H1.size → (∀ q : Nat, q < H.size → ¬ A1 q → H1[q]? = H[q]?) → va_S A0 H0 H1 locs1 → W p l e R s m args below meth c H1 locs1 cells slots Q (F0 m (pc + 3) ls (v.toList ++ rest))) : W p l e R s m args below meth c H locs cells slots Q (F0 m pc ls st0) := by
  intro T hT X
  obtain ⟨v, st₀, t, T', L, h0, X', hL, e1, e2, ⟨hp, hz, hk⟩, st⟩ := hr T hT X
  rw [h0] at hz hk
  obtain ⟨t2, a1, b1⟩ := kk v t T'.heap (locs ++ L) e1.symm hp (by rw [e1]; exact hz) (fun q h1 h2 => by rw [e1]; exact hk q h1 h2)
    ⟨Nat.le_trans hS.1 (by rw [e1]; exact hz), fun q h1 h2 => by rw [e1, hk q (Nat.lt_of_lt_of_le h1 hS.1) (fun z => h2 (hA q (Nat.lt_of_lt_of_le h1 hS.1) z))]; exact hS.2.1 q h1 h2, fun q hq => by
      rcases List.mem_append.mp hq with h | h
      · exact hS.2.2 q h
      · exact hf _ (hL q h)⟩ T' rfl X'
  exact ⟨t2, st t2 a1, b1⟩
theorem zw_sub {ad ac : List Nat} {es ec : List va_E} {σ : List Nat} (h1 : gAll ad σ = some ac) (h2 : gAll es σ = some ec) : σ.map (fun i => (zw ad es)[i]?) = (zw ac ec).map some := by
  have k1 := gAll_ok h1
  have k2 := gAll_ok h2
  apply List.ext_getElem?
  intro k
  rw [List.getElem?_map, List.getElem?_map]
  cases hk : σ[k]? with
  | none =>
    have hlen : σ.length ≤ k := by
      rcases Nat.lt_or_ge k σ.length with q | q
      · rw [List.getElem?_eq_getElem q] at hk; cases hk
      · exact q
    cases hz : (zw ac ec)[k]? with
    | none => rfl
    | some q =>
      have := (zw_inv hz).1
      rw [List.getElem?_eq_none (by rw [← k1.1]; exact hlen)] at this
      cases this
  | some i =>
    obtain ⟨e1, a, e2⟩ := k1.2 k i hk
    obtain ⟨e3, b, e4⟩ := k2.2 k i hk
    rw [zw_get (e1.trans e2) (e3.trans e4)]
    simp only [Option.map_some]
    rw [zw_get e2 e4]
theorem va_D_len {A : Nat → Prop} {ad : List Nat} {es es' : List va_E} (h : va_D A (zw ad es)) (h1 : es.length = ad.length) : va_D A (zw ad es') := by
  have key : ∀ (k : Nat) (q : Nat × va_E), (zw ad es')[k]? = some q → ∃ e0, (zw ad es)[k]? = some (q.1, e0) := fun k q hq => by
    have h3 := (zw_inv hq).1
    have hlt : k < es.length := by rw [h1]; exact (List.getElem?_eq_some_iff.mp h3).1
    exact ⟨es[k], zw_get h3 (List.getElem?_eq_getElem hlt)⟩
  refine ⟨fun i j a b ha hb hab => ?_, fun k q hq => ?_⟩
  · obtain ⟨e1, k1⟩ := key i a ha
    obtain ⟨e2, k2⟩ := key j b hb
    exact h.1 i j _ _ k1 k2 hab
  · obtain ⟨e1, k1⟩ := key k q hq
    exact h.2 k (q.1, e1) k1
