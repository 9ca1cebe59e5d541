/-! ===== contracts, and a call by one ===== -/
noncomputable def nestM : List (String × Nat × MethodName × String) := [(RX11, 9, ⟨RX10, "<init>", "()V"⟩, RX11), (RX6, 11, ⟨RX4, "<init>", "()V"⟩, RX11), (RX11, 27, ⟨RX9, "<init>", "()V"⟩, RX11), (RX9, 9, ⟨RX4, "<init>", "()V"⟩, RX11), (RX9, 18, ⟨RX0, "<init>", "()V"⟩, RX11), (RX11, 38, ⟨RX8, "<init>", "()V"⟩, RX11), (RX11, 58, ⟨RX7, "<init>", "()V"⟩, RX11), (RX11, 68, ⟨RX3, "<init>", "()V"⟩, RX11), (RX11, 87, ⟨RX2, "<init>", "()V"⟩, RX11), (RX6, 147, ⟨RX11, "hasBit", "(II)Z"⟩, RX11), (RX1, 45, ⟨RX11, "hasBit", "(II)Z"⟩, RX11), (RX3, 58, ⟨RX11, "hasBit", "(II)Z"⟩, RX11), (RX5, 70, ⟨RX11, "hasBit", "(II)Z"⟩, RX11), (RX2, 40, ⟨RX11, "hasBit", "(II)Z"⟩, RX11)]
noncomputable def NOK (U : State) : Prop := ∀ q ∈ nestM, va_Nw (.methodLinkNest q.1 q.2.1 q.2.2.1 q.2.2.2) U
theorem NOK_same {u U : State} (h : u.vm = U.vm) (hn : NOK u) : NOK U := fun q hq => va_Nw.same rfl h (hn q hq)
theorem NOK_warm {s U : State} (hW : s.WarmedH U.vm) (hn : NOK s) : NOK U := fun q hq => va_Nw.warmM hW (hn q hq)
noncomputable def retR (g : List Int) (V : EV) (r : AV) (oc : Outcome) : Prop := (r.1 = 9 ∧ oc = .returned none) ∨ (r.1 ≠ 9 ∧ ∃ v, oc = .returned (some v) ∧ gam g V r v)
theorem zf2_take {α β : Type} {R : α → β → Prop} : ∀ {n : Nat} {as : List α} {bs : List β}, zf2 R as bs → zf2 R (as.take n) (bs.take n) ∧ zf2 R (as.drop n) (bs.drop n)
  | 0, as, bs, h => ⟨by simp [zf2], by simpa using h⟩
  | n + 1, [], [], _ => ⟨by simp [zf2], by simp [zf2]⟩
  | n + 1, [], _ :: _, h => h.elim
  | n + 1, _ :: _, [], h => h.elim
  | n + 1, a :: as, b :: bs, h => by
    have ih := zf2_take (n := n) h.2
    exact ⟨⟨h.1, ih.1⟩, ih.2⟩
theorem zf2_apps {α β : Type} {R : α → β → Prop} : ∀ {as as' : List α} {bs bs' : List β}, zf2 R as bs → zf2 R as' bs' → zf2 R (as ++ as') (bs ++ bs')
  | [], _, [], _, _, h => h
  | [], _, _ :: _, _, h, _ => h.elim
  | _ :: _, _, [], _, h, _ => h.elim
  | _ :: as, _, _ :: bs, _, h, h' => ⟨h.1, zf2_apps (as := as) (bs := bs) h.2 h'⟩
theorem zf2_rev {α β : Type} {R : α → β → Prop} : ∀ {as : List α} {bs : List β}, zf2 R as bs → zf2 R as.reverse bs.reverse
  | [], [], _ => trivial
  | [], _ :: _, h => h.elim
  | _ :: _, [], h => h.elim
  | a :: as, b :: bs, h => by
    rw [List.reverse_cons, List.reverse_cons]
    exact zf2_apps (zf2_rev (as := as) (bs := bs) h.2) ⟨h.1, trivial⟩
theorem zf2_fld {g : List Int} {V : EV} {cA : Nat → ClassId} : ∀ {xs : List AC} {es : List va_E}, zf2 (relC g V cA) xs es → zf2 (gam g V) (xs.flatMap fldA) (es.flatMap fldE)
  | [], [], _ => trivial
  | [], _ :: _, h => h.elim
  | _ :: _, [], h => h.elim
  | .inl x :: xs, e :: es, h => by
    obtain ⟨x1, x2⟩ := x
    obtain ⟨vs, rfl, e5⟩ := relC_obj h.1
    simp only [List.flatMap_cons]
    exact zf2_apps e5 (zf2_fld (xs := xs) (es := es) h.2)
  | .inr x :: xs, e :: es, h => by
    simp only [List.flatMap_cons, relC_arr h.1]
    exact zf2_fld (xs := xs) (es := es) h.2
theorem zf2_map {α β γ : Type} {R : γ → β → Prop} {f : α → γ} : ∀ {as : List α} {bs : List β}, zf2 (fun a b => R (f a) b) as bs → zf2 R (as.map f) bs
  | [], [], _ => trivial
  | [], _ :: _, h => h.elim
  | _ :: _, [], h => h.elim
  | _ :: as, _ :: bs, h => ⟨h.1, zf2_map (as := as) (bs := bs) h.2⟩
theorem cat_sum {g : List Int} {V : EV} : ∀ {st : List AV} {sv : List Value}, zf2 (gam g V) st sv → st.all (fun q => decide (q.1 ≠ 8)) = true → (sv.map fun v => v.category).sum = (st.map catA).sum
  | [], [], _, _ => rfl
  | [], _ :: _, h, _ => h.elim
  | _ :: _, [], h, _ => h.elim
  | a :: st, v :: sv, h, ha => by
    simp only [List.all_cons, Bool.and_eq_true, decide_eq_true_eq] at ha
    simp only [List.map_cons, List.sum_cons]
    rw [gam_cat h.1 ha.1, cat_sum h.2 ha.2]
/-- a call that ends with a contract's end -/
theorem my_call {p : Program} {l : Launch} {e : Env} {R : Room} {s : State} {m : MethodId} {args : Array Value} {below : List Frame} {meth : Method} {c : Code} {H : Heap} {locs : List Loc} {cells slots : Nat} {Q : State → Prop} {pc : Nat} {ls : Array Slot} {rest st0 : List Value} {A0 A1 : Nat → Prop} {H0 : Heap} {free : Addr → Prop} {P : Outcome → State → Prop} (hr : va_Run p l e R s m args below meth c H locs cells slots 0 0 (F0 m pc ls st0) rest (fun st oc t => P oc t ∧ va_F A1 st t) free) (hS : va_S A0 H0 H locs) (hA : ∀ q, q < H.size → A1 q → A0 q) (hf : ∀ q, free q → A0 q)
    (kk : ∀ (v : Option Value) (t : State) (H1 : Heap) (locs1 : List Loc), t.heap = H1 → P (.returned v) t → H.size ≤ H1.size → (∀ q : Nat, q < H.size → ¬ A1 q → H1[q]? = H[q]?) → va_S A0 H0 H1 locs1 → W p l e R s m args below meth c H1 locs1 cells slots Q (F0 m (pc + 3) ls (v.toList ++ rest))) : W p l e R s m args below meth c H locs cells slots Q (F0 m pc ls st0) := by
  intro T hT X
  obtain ⟨v, st₀, t, T', L, h0, X', hL, e1, e2, ⟨hp, hz, hk⟩, st⟩ := hr T hT X
  rw [h0] at hz hk
  obtain ⟨t2, a1, b1⟩ := kk v t T'.heap (locs ++ L) e1.symm hp (by rw [e1]; exact hz) (fun q h1 h2 => by rw [e1]; exact hk q h1 h2)
    ⟨Nat.le_trans hS.1 (by rw [e1]; exact hz), fun q h1 h2 => by rw [e1, hk q (Nat.lt_of_lt_of_le h1 hS.1) (fun z => h2 (hA q (Nat.lt_of_lt_of_le h1 hS.1) z))]; exact hS.2.1 q h1 h2, fun q hq => by
      rcases List.mem_append.mp hq with h | h
      · exact hS.2.2 q h
      · exact hf _ (hL q h)⟩ T' rfl X'
  exact ⟨t2, st t2 a1, b1⟩
theorem zw_sub {ad ac : List Nat} {es ec : List va_E} {σ : List Nat} (h1 : gAll ad σ = some ac) (h2 : gAll es σ = some ec) : σ.map (fun i => (zw ad es)[i]?) = (zw ac ec).map some := by
  have k1 := gAll_ok h1
  have k2 := gAll_ok h2
  apply List.ext_getElem?
  intro k
  rw [List.getElem?_map, List.getElem?_map]
  cases hk : σ[k]? with
  | none =>
    have hlen : σ.length ≤ k := by
      rcases Nat.lt_or_ge k σ.length with q | q
      · rw [List.getElem?_eq_getElem q] at hk; cases hk
      · exact q
    cases hz : (zw ac ec)[k]? with
    | none => rfl
    | some q =>
      have := (zw_inv hz).1
      rw [List.getElem?_eq_none (by rw [← k1.1]; exact hlen)] at this
      cases this
  | some i =>
    obtain ⟨e1, a, e2⟩ := k1.2 k i hk
    obtain ⟨e3, b, e4⟩ := k2.2 k i hk
    rw [zw_get (e1.trans e2) (e3.trans e4)]
    simp only [Option.map_some]
    rw [zw_get e2 e4]
theorem va_D_len {A : Nat → Prop} {ad : List Nat} {es es' : List va_E} (h : va_D A (zw ad es)) (h1 : es.length = ad.length) : va_D A (zw ad es') := by
  have key : ∀ (k : Nat) (q : Nat × va_E), (zw ad es')[k]? = some q → ∃ e0, (zw ad es)[k]? = some (q.1, e0) := fun k q hq => by
    have h3 := (zw_inv hq).1
    have hlt : k < es.length := by rw [h1]; exact (List.getElem?_eq_some_iff.mp h3).1
    exact ⟨es[k], zw_get h3 (List.getElem?_eq_getElem hlt)⟩
  refine ⟨fun i j a b ha hb hab => ?_, fun k q hq => ?_⟩
  · obtain ⟨e1, k1⟩ := key i a ha
    obtain ⟨e2, k2⟩ := key j b hb
    exact h.1 i j _ _ k1 k2 hab
  · obtain ⟨e1, k1⟩ := key k q hq
    exact h.2 k (q.1, e1) k1
