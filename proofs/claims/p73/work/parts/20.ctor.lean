/-! ===== constructors: an interpreter that makes cells ===== -/
theorem gam_ad {g : List Int} {gv : List Value} {ad ax : List Nat} {a : AV} {v : Value} (h : gam g (gv, ad) a v) : gam g (gv, ad ++ ax) a v := by
  unfold gam at h ⊢
  split at h
  · exact h
  · exact h
  · exact h
  · exact h
  · exact h
  · exact h
  · obtain ⟨r, h1, h2⟩ := h
    refine ⟨r, ?_, h2⟩
    have h1 : ad[a.2.1.toNat]? = some r := h1
    show (ad ++ ax)[a.2.1.toNat]? = some r
    rw [List.getElem?_append_left (List.getElem?_eq_some_iff.mp h1).1]
    exact h1
  · exact h
  · exact h
  · exact h
  · exact h
  · exact h
  · exact h.elim
theorem relC_ad {g : List Int} {gv : List Value} {ad ax : List Nat} {cA : Nat → ClassId} {a : AC} {e : va_E} (h : relC g (gv, ad) cA a e) : relC g (gv, ad ++ ax) cA a e := by
  unfold relC at h ⊢
  split at h
  · exact ⟨h.1, zf2_mono (fun _ _ => gam_ad) h.2⟩
  · exact ⟨h.1, h.2.1, h.2.2.1, h.2.2.2.1, fun i b hb => gam_ad (h.2.2.2.2 i b hb)⟩
  · exact ⟨h.1, h.2.1, h.2.2.1, h.2.2.2.1, fun i b hb => gam_ad (h.2.2.2.2 i b hb)⟩
  · exact ⟨h.1, h.2.1, h.2.2.1, h.2.2.2.1, fun i b hb => gam_ad (h.2.2.2.2 i b hb)⟩
  · exact h.elim
theorem loc_ad {g : List Int} {gv : List Value} {ad ax : List Nat} {loc : List (Nat × AV)} {lv : List (Nat × Value)} (h : zf2 (locR g (gv, ad)) loc lv) : zf2 (locR g (gv, ad ++ ax)) loc lv := zf2_mono (fun _ _ q => ⟨q.1, gam_ad q.2.1, q.2.2⟩) h
theorem st_ad {g : List Int} {gv : List Value} {ad ax : List Nat} {st : List AV} {sv : List Value} (h : zf2 (gam g (gv, ad)) st sv) : zf2 (gam g (gv, ad ++ ax)) st sv := zf2_mono (fun _ _ => gam_ad) h
theorem zf2_getR {α β : Type} {R : α → β → Prop} : ∀ {as : List α} {bs : List β}, zf2 R as bs → ∀ {i : Nat} {b : β}, bs[i]? = some b → ∃ a, as[i]? = some a ∧ R a b
  | [], [], _, i, a, h => by simp at h
  | x :: as, y :: bs, h, 0, b, hi => ⟨x, rfl, by cases hi; exact h.1⟩
  | x :: as, y :: bs, h, i + 1, b, hi => zf2_getR (as := as) (bs := bs) h.2 (i := i) (by simpa using hi)
theorem zf2_mapT {g : List Int} {V : EV} {cA : Nat → ClassId} : ∀ {cs : List AC} {es : List va_E}, zf2 (relC g V cA) cs es → zf2 (fun (x : Bool × AC) (y : va_E) => relC g V cA x.2 y) (cs.map (fun c => (true, c))) es
  | [], [], _ => trivial
  | [], _ :: _, h => h.elim
  | _ :: _, [], h => h.elim
  | _ :: cs, _ :: es, h => ⟨h.1, zf2_mapT (cs := cs) (es := es) h.2⟩
theorem zw_app : ∀ {ad : List Nat} {es : List va_E} {ax : List Nat} {ex : List va_E}, es.length = ad.length → zw (ad ++ ax) (es ++ ex) = zw ad es ++ zw ax ex
  | [], [], _, _, _ => rfl
  | [], _ :: _, _, _, h => by simp at h
  | _ :: _, [], _, _, h => by simp at h
  | a :: ad, e :: es, ax, ex, h => by
    have ih := zw_app (ad := ad) (es := es) (ax := ax) (ex := ex) (by simpa using h)
    simp [zw, ih]
theorem HK_push {D : va_G} {cl : List vw_C} {A : Nat → Prop} {H0 : Heap} {gv : List Value} {ad : List Nat} {cA : Nat → ClassId} {es0 : List va_E} {hp : HP} {g : List Int} {es : List va_E} {H H1 : Heap} {locs locs1 : List Loc} {q : Nat} {en : va_E} {cn : AC} (h : HS D cl A H0 (gv, ad) cA es0 hp g es H locs) (h1 : va_P D cl (zw ad es ++ [(q, en)]) H1) (h2 : va_D A (zw ad es ++ [(q, en)])) (h3 : va_S A H0 H1 locs1) (h4 : relC g (gv, ad ++ [q]) cA cn en) : HS D cl A H0 (gv, ad ++ [q]) cA (es ++ [en]) (hp ++ [(true, cn)]) g (es ++ [en]) H1 locs1 := by
  have hz : zw (ad ++ [q]) (es ++ [en]) = zw ad es ++ [(q, en)] := zw_app h.2.2.2.2.2
  refine ⟨zf2_app (R := fun (x : Bool × AC) (y : va_E) => relC g (gv, ad ++ [q]) cA x.2 y) h4 (zf2_mono (fun _ _ => relC_ad) h.1), fun _ _ _ _ => rfl, ?_, ?_, h3, ?_⟩
  · show va_P D cl (zw (ad ++ [q]) (es ++ [en])) H1
    rw [hz]; exact h1
  · show va_D A (zw (ad ++ [q]) (es ++ [en]))
    rw [hz]; exact h2
  · have := h.2.2.2.2.2
    simp only [List.length_append, List.length_singleton] at this ⊢
    omega
/-- behind a constructor's call: its object is as it left it, its cells come behind -/
theorem HK_join {D : va_G} {cl : List vw_C} {A : Nat → Prop} {H0 : Heap} {gv : List Value} {ad : List Nat} {cA : Nat → ClassId} {es0 : List va_E} {hp : HP} {g : List Int} {es : List va_E} {H H1 : Heap} {locs locs1 : List Loc} {i r : Nat} {e0 e1 : va_E} {adn : List Nat} {en : List va_E} {c0 : AC} {cn : List AC} (h : HS D cl A H0 (gv, ad) cA es0 hp g es H locs) (hr : ad[i]? = some r) (he : es[i]? = some e0)
    (hk : ∀ q : Nat, q < H.size → ¬ va_A [(r, e0)] H.size q → H1[q]? = H[q]?) (hP1 : va_P D cl (zw (r :: adn) (e1 :: en)) H1) (hD1 : va_D (va_A [(r, e0)] H.size) (zw (r :: adn) (e1 :: en))) (hln : en.length = adn.length) (hF : ∀ q, va_A [(r, e0)] H.size q → A q) (hS1 : va_S A H0 H1 locs1)
    (hc0 : relC g (gv, ad ++ adn) cA c0 e1) (hcn : zf2 (relC g (gv, ad ++ adn) cA) cn en) :
    HS D cl A H0 (gv, ad ++ adn) cA (es.set i e1 ++ en) (hp.set i (true, c0) ++ cn.map (fun c => (true, c))) g (es.set i e1 ++ en) H1 locs1 := by
  obtain ⟨a1, a2, a3, a4, a5, a6⟩ := h
  have a6 : es.length = ad.length := a6
  have hil : i < ad.length := (List.getElem?_eq_some_iff.mp hr).1
  have old : ∀ (k : Nat) (q : Nat × va_E), k ≠ i → (zw ad es)[k]? = some q → q.1 < H.size ∧ ¬ va_A [(r, e0)] H.size q.1 := by
    intro k q hki hq
    have hl := (a3 k q hq).lt
    refine ⟨hl, fun hA => ?_⟩
    rcases hA with ⟨j, e, hj⟩ | hA
    · cases j with
      | zero =>
        have hj : some (r, e0) = some (q.1, e) := hj
        cases hj
        exact hki (a4.1 k i q (q.1, e0) hq (zw_get hr he) rfl)
      | succ j => simp at hj
    · omega
  have key : ∀ (k : Nat) (q : Nat × va_E), (zw (ad ++ adn) (es.set i e1 ++ en))[k]? = some q → (k ≠ i ∧ (zw ad es)[k]? = some q) ∨ ∃ j, (zw (r :: adn) (e1 :: en))[j]? = some q ∧ ((j = 0 ∧ k = i) ∨ (j ≠ 0 ∧ k + 1 = ad.length + j)) := by
    intro k q hq
    obtain ⟨q1, q2⟩ := zw_inv hq
    by_cases hlt : k < ad.length
    · rw [List.getElem?_append_left hlt] at q1
      rw [List.getElem?_append_left (by rw [List.length_set]; omega)] at q2
      by_cases hki : k = i
      · subst hki
        rw [List.getElem?_set_self (by omega)] at q2
        refine Or.inr ⟨0, ?_, Or.inl ⟨rfl, rfl⟩⟩
        rw [hr] at q1
        cases q1
        have q2 : some e1 = some q.2 := q2
        cases q2
        rfl
      · rw [List.getElem?_set_ne (fun e => hki e.symm)] at q2
        exact Or.inl ⟨hki, zw_get q1 q2⟩
    · rw [List.getElem?_append_right (by omega)] at q1
      rw [List.getElem?_append_right (by rw [List.length_set]; omega), List.length_set, a6] at q2
      refine Or.inr ⟨k - ad.length + 1, ?_, Or.inr ⟨by omega, by omega⟩⟩
      exact zw_get (ad := r :: adn) (es := e1 :: en) (k := k - ad.length + 1) (by simpa using q1) (by simpa using q2)
  refine ⟨?_, fun _ _ _ _ => rfl, ?_, ⟨?_, ?_⟩, hS1, ?_⟩
  · exact zf2_apps (zf2_set (R := fun (x : Bool × AC) (y : va_E) => relC g (gv, ad ++ adn) cA x.2 y) (a := (true, c0)) (b := e1) hc0 (zf2_mono (fun _ _ => relC_ad) a1) i) (zf2_mapT hcn)
  · intro k q hq
    rcases key k q hq with ⟨h1, h2⟩ | ⟨j, h1, -⟩
    · obtain ⟨o1, o2⟩ := old k q h1 h2
      exact (a3 k q h2).kept (hk q.1 o1 o2)
    · exact hP1 j q h1
  · intro k1 k2 p q hp hq hpq
    rcases key k1 p hp with ⟨h1, h2⟩ | ⟨j1, h1, h2⟩
    · rcases key k2 q hq with ⟨h3, h4⟩ | ⟨j2, h3, h4⟩
      · exact a4.1 k1 k2 p q h2 h4 hpq
      · exact absurd (by rw [hpq]; exact hD1.2 j2 q h3) (old k1 p h1 h2).2
    · rcases key k2 q hq with ⟨h3, h4⟩ | ⟨j2, h3, h4⟩
      · exact absurd (by rw [← hpq]; exact hD1.2 j1 p h1) (old k2 q h3 h4).2
      · have hj := hD1.1 j1 j2 p q h1 h3 hpq
        omega
  · intro k q hq
    rcases key k q hq with ⟨h1, h2⟩ | ⟨j, h1, -⟩
    · exact a4.2 k q h2
    · exact hF _ (hD1.2 j q h1)
  · show (es.set i e1 ++ en).length = (ad ++ adn).length
    rw [List.length_append, List.length_append, List.length_set]
    omega
/-- a field's value in a new object -/
noncomputable def dvA (a : AV) : Value := if a.1 = 0 then .int 0 else if a.1 = 3 then .long 0 else .null
noncomputable def dfl (a : AV) : Bool := decide (a = (0, 0, 0) ∨ a = (3, 0, 0) ∨ a = (7, 0, 0))
theorem ae_L0 : (0 : Int64).toInt = 0 := by decide
theorem dfl_gam {g : List Int} {V : EV} {a : AV} (h : dfl a = true) : gam g V a (dvA a) := by
  rcases of_decide_eq_true h with rfl | rfl | rfl
  · exact ⟨0, rfl, ae_z⟩
  · exact ⟨0, rfl, ae_L0⟩
  · rfl
theorem dfl_val {g : List Int} {V : EV} {a : AV} {v : Value} (h : dfl a = true) (hv : gam g V a v) : v = dvA a := by
  rcases of_decide_eq_true h with rfl | rfl | rfl
  · obtain ⟨x, rfl, hx⟩ := hv
    exact congrArg Value.int (Int32.toInt_inj.mp (hx.trans ae_z.symm))
  · obtain ⟨x, rfl, hx⟩ := hv
    exact congrArg Value.long (Int64.toInt_inj.mp (hx.trans ae_L0.symm))
  · exact hv
theorem dfl_zf {g : List Int} {V : EV} : ∀ {fs : List AV}, fs.all dfl = true → zf2 (gam g V) fs (fs.map dvA)
  | [], _ => trivial
  | a :: fs, h => by
    simp only [List.all_cons, Bool.and_eq_true] at h
    exact ⟨dfl_gam h.1, dfl_zf h.2⟩
theorem dfl_eq {g : List Int} {V : EV} : ∀ {fs : List AV} {vs : List Value}, fs.all dfl = true → zf2 (gam g V) fs vs → vs = fs.map dvA
  | [], [], _, _ => rfl
  | [], _ :: _, _, h => h.elim
  | _ :: _, [], _, h => h.elim
  | a :: fs, v :: vs, h, hz => by
    simp only [List.all_cons, Bool.and_eq_true] at h
    rw [List.map_cons, dfl_val h.1 hz.1, ← dfl_eq h.2 hz.2]
/-- a constructor: its name, bytes, locals; frames, locals; cells, slots; arguments beside the object, its class, its fields as they are born; the cells behind it, its object first (6 n: the n-th of them; 11 n: argument n) -/
abbrev KCon : Type := (MethodName × ByteArray × Nat) × (Nat × Nat) × (Nat × Nat) × (Nat × Nat × List AV) × List AC
noncomputable def trK (i n : Nat) (xs : List AV) (a : AV) : AV := match a.1 with
  | 6 => match a.2.1.toNat with
    | 0 => (6, (i : Int), 0)
    | j + 1 => (6, ((n + j : Nat) : Int), 0)
  | 11 => (xs[a.2.1.toNat]?).getD (7, 0, 0)
  | _ => a
noncomputable def okA (a : AV) : Bool := decide (a.1 = 0 ∨ a.1 = 3 ∨ a.1 = 6 ∨ a.1 = 7 ∨ a.1 = 11)
noncomputable def trKC (i n : Nat) (xs : List AV) : AC → AC
  | .inl o => .inl (o.1, o.2.map (trK i n xs))
  | .inr t => .inr (t.1, t.2.map (fun q => (q.1, trK i n xs q.2)))
noncomputable def okC : AC → Bool
  | .inl o => o.2.all okA
  | .inr t => t.2.all (fun q => okA q.2)
theorem trK_ok {g : List Int} {gv : List Value} {ad adn : List Nat} {i r : Nat} {xs : List AV} {As : List Nat} {a : AV} {v : Value} (hi : ad[i]? = some r) (hxs : zf2 (gam g (gv, ad)) xs (As.map Value.ref)) (hok : okA a = true) (h : gam [] (As.map Value.ref, r :: adn) a v) : gam g (gv, ad ++ adn) (trK i ad.length xs a) v := by
  obtain ⟨t, b, c⟩ := a
  have hok := of_decide_eq_true hok
  simp only at hok
  rcases hok with rfl | rfl | rfl | rfl | rfl
  · exact h
  · exact h
  · obtain ⟨q, h1, h2⟩ := h
    have h1 : (r :: adn)[b.toNat]? = some q := h1
    unfold trK
    simp only
    cases hb : b.toNat with
    | zero =>
      rw [hb] at h1
      have h1 : some r = some q := h1
      cases h1
      refine ⟨r, ?_, h2⟩
      show (ad ++ adn)[((i : Int)).toNat]? = some r
      rw [Int.toNat_natCast, List.getElem?_append_left (List.getElem?_eq_some_iff.mp hi).1]
      exact hi
    | succ j =>
      rw [hb] at h1
      refine ⟨q, ?_, h2⟩
      show (ad ++ adn)[(((ad.length + j : Nat) : Int)).toNat]? = some q
      rw [Int.toNat_natCast, List.getElem?_append_right (by omega)]
      simpa using h1
  · exact h
  · obtain ⟨q, h1, h2⟩ := h
    have h1 : (As.map Value.ref)[b.toNat]? = some (.ref q) := h1
    obtain ⟨x, e1, e2⟩ := zf2_getR hxs h1
    unfold trK
    simp only
    rw [e1]
    rw [h2]
    exact gam_ad e2
theorem lk_map {f : AV → AV} : ∀ {sg : List (Nat × AV)} {i : Nat} {b : AV}, lk (sg.map (fun q => (q.1, f q.2))) i = some b → ∃ a, lk sg i = some a ∧ b = f a ∧ ∃ q ∈ sg, q.2 = a
  | [], _, _, h => by cases h
  | (n, a) :: r, i, b, h => by
    simp only [List.map_cons] at h
    unfold lk at h ⊢
    split at h
    · rename_i hi
      cases h
      rw [if_pos hi]
      exact ⟨a, rfl, rfl, (n, a), List.mem_cons_self, rfl⟩
    · rename_i hi
      rw [if_neg hi]
      obtain ⟨a', h1, h2, q, h3, h4⟩ := lk_map h
      exact ⟨a', h1, h2, q, List.mem_cons_of_mem _ h3, h4⟩
theorem tot_map {f : AV → AV} : ∀ {sg : List (Nat × AV)}, tot (sg.map (fun q => (q.1, f q.2))) = tot sg
  | [] => rfl
  | (n, a) :: r => by
    have ih := tot_map (f := f) (sg := r)
    simp only [List.map_cons, tot] at ih ⊢
    rw [ih]
theorem trKF_ok {g : List Int} {gv : List Value} {ad adn : List Nat} {i r : Nat} {xs : List AV} {As : List Nat} (hi : ad[i]? = some r) (hxs : zf2 (gam g (gv, ad)) xs (As.map Value.ref)) : ∀ {fs : List AV} {vs : List Value}, fs.all okA = true → zf2 (gam [] (As.map Value.ref, r :: adn)) fs vs → zf2 (gam g (gv, ad ++ adn)) (fs.map (trK i ad.length xs)) vs
  | [], [], _, _ => trivial
  | [], _ :: _, _, h => h.elim
  | _ :: _, [], _, h => h.elim
  | a :: fs, v :: vs, hok, h => by
    simp only [List.all_cons, Bool.and_eq_true] at hok
    exact ⟨trK_ok hi hxs hok.1 h.1, trKF_ok hi hxs (fs := fs) (vs := vs) hok.2 h.2⟩
theorem trKC_ok {g : List Int} {gv : List Value} {ad adn : List Nat} {i r : Nat} {xs : List AV} {As : List Nat} {cA : Nat → ClassId} {a : AC} {e : va_E} (hi : ad[i]? = some r) (hxs : zf2 (gam g (gv, ad)) xs (As.map Value.ref)) (hok : okC a = true) (h : relC [] (As.map Value.ref, r :: adn) cA a e) : relC g (gv, ad ++ adn) cA (trKC i ad.length xs a) e := by
  unfold relC at h
  split at h
  · exact ⟨h.1, trKF_ok hi hxs hok h.2⟩
  · rename_i t k n f
    refine ⟨h.1, h.2.1, h.2.2.1.trans tot_map.symm, h.2.2.2.1, fun j b hb => ?_⟩
    obtain ⟨a', h1, rfl, q, h3, h4⟩ := lk_map hb
    subst h4
    exact trK_ok hi hxs (List.all_eq_true.mp hok q h3) (h.2.2.2.2 j _ h1)
  · rename_i t k n f
    refine ⟨h.1, h.2.1, h.2.2.1.trans tot_map.symm, h.2.2.2.1, fun j b hb => ?_⟩
    obtain ⟨a', h1, rfl, q, h3, h4⟩ := lk_map hb
    subst h4
    exact trK_ok hi hxs (List.all_eq_true.mp hok q h3) (h.2.2.2.2 j _ h1)
  · rename_i t k n f
    refine ⟨h.1, h.2.1, h.2.2.1.trans tot_map.symm, h.2.2.2.1, fun j b hb => ?_⟩
    obtain ⟨a', h1, rfl, q, h3, h4⟩ := lk_map hb
    subst h4
    exact trK_ok hi hxs (List.all_eq_true.mp hok q h3) (h.2.2.2.2 j _ h1)
  · exact h.elim
theorem trKCs_ok {g : List Int} {gv : List Value} {ad adn : List Nat} {i r : Nat} {xs : List AV} {As : List Nat} {cA : Nat → ClassId} (hi : ad[i]? = some r) (hxs : zf2 (gam g (gv, ad)) xs (As.map Value.ref)) : ∀ {cs : List AC} {es : List va_E}, cs.all okC = true → zf2 (relC [] (As.map Value.ref, r :: adn) cA) cs es → zf2 (relC g (gv, ad ++ adn) cA) (cs.map (trKC i ad.length xs)) es
  | [], [], _, _ => trivial
  | [], _ :: _, _, h => h.elim
  | _ :: _, [], _, h => h.elim
  | a :: cs, e :: es, hok, h => by
    simp only [List.all_cons, Bool.and_eq_true] at hok
    exact ⟨trKC_ok hi hxs hok.1 h.1, trKCs_ok hi hxs (cs := cs) (es := es) hok.2 h.2⟩
noncomputable def rmK (k : KCon) : Room := { frames := k.2.1.1, cells := k.2.2.1.1, slots := k.2.2.1.2, locals := k.2.1.2 }
noncomputable def e0K (k : KCon) : va_E := .inr (k.2.2.2.1.2.1, k.2.2.2.1.2.2.map dvA)
noncomputable def PcK (D : va_G) (cl : List vw_C) (cA : Nat → ClassId) (k : KCon) (r : Nat) (As : List Nat) (sz : Nat) : Array Value → State → Prop := va_Pc (.ref r :: As.map Value.ref) (fun U => U.heap.size = sz ∧ va_P D cl [(r, e0K k)] U.heap ∧ va_K D cl (tysA cA) U ∧ va_D (fun _ => True) [(r, e0K k)] ∧ NOK U ∧ va_AO "RookHusting$State" U)
noncomputable def QcK (D : va_G) (cl : List vw_C) (cA : Nat → ClassId) (k : KCon) (r : Nat) (As : List Nat) (sz : Nat) : Array Value → State → Outcome → State → Prop := va_Qv (fun u : List Nat × List va_E => zf2 (relC [] (As.map Value.ref, r :: u.1) cA) k.2.2.2.2 u.2 ∧ u.2.length = u.1.length + 1) (fun u t => va_P D cl (zw (r :: u.1) u.2) t.heap ∧ va_D (va_A [(r, e0K k)] sz) (zw (r :: u.1) u.2)) (va_A [(r, e0K k)] sz)
noncomputable def KVld (l : Launch) (cl : List vw_C) (Ts : List Jvm.Cond) (k : KCon) : Prop := ∀ (D : va_G) (cA : Nat → ClassId) (r : Nat) (As : List Nat) (sz : Nat), As.length = k.2.2.2.1.1 →
  Met l k.1.1 (.code k.1.1 k.1.2.1 k.1.2.2 none :: Ts) (rmK k) (PcK D cl cA k r As sz) (QcK D cl cA k r As sz) k.2.2.1.1 k.2.2.1.2 (va_A [(r, e0K k)] sz)
/-- may the caller's class call it by this index: as a nest mate's (true), or not -/
noncomputable def KCOK (own : String) (Ts : List Jvm.Cond) (i : Nat) (nest : Bool) (k : KCon) : Prop :=
  Jvm.Cond.code k.1.1 k.1.2.1 k.1.2.2 none ∈ Ts ∧ Jvm.Cond.initialized k.1.1.cls ∈ Ts ∧ Jvm.Cond.instanceMethod k.1.1 ∈ Ts ∧ k.1.1.name = "<init>" ∧ (k.1.1.cls ≠ "java/lang/invoke/MethodHandle" ∧ k.1.1.cls ≠ "java/lang/invoke/VarHandle" ∧ (parseMethodDescriptor k.1.1.desc).map (fun d => d.parameters.length) = some k.2.2.2.1.1) ∧
  (nest = false → Jvm.Cond.methodLink own i k.1.1 ∈ Ts) ∧ (nest = true → (own, i, k.1.1, RX11) ∈ nestM)
/-- the tables of a constructor: fields of references (index, class, place), classes (index, class, slots, fields as born), kinds of rows, Object.<init>, rows of states, constructors -/
abbrev KTB : Type := List (Nat × Nat × Nat) × List (Nat × Nat × Nat × List AV) × List Nat × List (Nat × Nat) × List (Nat × Nat) × List (Nat × Bool × KCon)
noncomputable def KPF (own : String) (cl : List vw_C) (Ts : List Jvm.Cond) (q : Nat × Nat × Nat) : Prop := ∃ (C : String) (F : u_T) (N : Nat) (ty : Nat → FieldType), cl[q.2.1]? = some (C, F, N) ∧ q.2.2 < N ∧ (∀ w ∈ u_ws C F N, w ∈ Ts) ∧ Jvm.Cond.fieldLink own q.1 (F q.2.2).1 (F q.2.2).2.1 (F q.2.2).2.2.1 ∈ Ts ∧ (∀ k, k < N → parseFieldDescriptor (F k).2.2.1 = some (ty k)) ∧ (∀ a, a < N → ∀ b, b < N → a ≠ b → (F a).2.1 ≠ (F b).2.1) ∧ (∀ r : Nat, narrow (ty q.2.2) (.ref r) = .ref r ∧ fits (ty q.2.2) (.ref r) = true) ∧ (F q.2.2).2.2.2 = true ∧ (F q.2.2).1 = own
noncomputable def KNT (own : String) (cl : List vw_C) (Ts : List Jvm.Cond) (q : Nat × Nat × Nat × List AV) : Prop := ∃ (C : String) (F : u_T) (ty : Nat → FieldType), cl[q.2.1]? = some (C, F, q.2.2.1) ∧ (∀ w ∈ u_ws C F q.2.2.1, w ∈ Ts) ∧ (∀ k, k < q.2.2.1 → parseFieldDescriptor (F k).2.2.1 = some (ty k)) ∧ Jvm.Cond.classLink own q.1 C ∈ Ts ∧ Jvm.Cond.instantiable C q.2.2.1 ∈ Ts ∧ Jvm.Cond.initialized C ∈ Ts ∧ (∀ j, j < q.2.2.1 → defaultValue (ty j) = vp_V (q.2.2.2.map dvA) j) ∧ q.2.2.2.all dfl = true
noncomputable def KAT (Ts : List Jvm.Cond) (t : Nat) : Prop := (t = 0 ∧ Jvm.Cond.arrayClass .byte ∈ Ts) ∨ (t = 1 ∧ Jvm.Cond.arrayClass .int ∈ Ts) ∨ (t = 2 ∧ Jvm.Cond.arrayClass .long ∈ Ts) ∨ (t = 3 ∧ Jvm.Cond.arrayClass .boolean ∈ Ts)
noncomputable def KOK (l : Launch) (own : String) (cl : List vw_C) (Ts : List Jvm.Cond) (K : KTB) : Prop := (∀ q ∈ K.1, KPF own cl Ts q) ∧ (∀ q ∈ K.2.1, KNT own cl Ts q) ∧ (∀ t ∈ K.2.2.1, KAT Ts t) ∧
  (∀ q ∈ K.2.2.2.1, Jvm.Cond.methodLink own q.1 Lib.objectInit ∈ Ts ∧ Jvm.Cond.instanceMethod Lib.objectInit ∈ Ts ∧ Jvm.Cond.code Lib.objectInit ⟨#[0xb1]⟩ 1 none ∈ Ts) ∧
  (∀ q ∈ K.2.2.2.2.1, Jvm.Cond.classLink own q.1 "RookHusting$State" ∈ Ts) ∧ (∀ q ∈ K.2.2.2.2.2, KVld l cl Ts q.2.2 ∧ KCOK own Ts q.1 q.2.1 q.2.2)
abbrev KS : Type := AS × Nat × Nat
noncomputable def kArr : ArrayType → Option Nat
  | .byte => some 0
  | .int => some 1
  | .long => some 2
  | .boolean => some 3
  | _ => none
noncomputable def kcl (R : Nat × Nat × Nat × Nat) (b : KS) (k : KCon) : Option KS := match b.1.2.2.1.drop k.2.2.2.1.1 with
  | x :: rest => match b.1.2.2.2.2[x.2.1.toNat]?, k.2.2.2.2 with
    | some (_, .inl (cj, fs)), o0 :: on => if (x.1 = 6 ∧ k.2.2.2.1.1 ≤ b.1.2.2.1.length ∧ (b.1.2.2.1.take k.2.2.2.1.1).all (fun q => decide (q.1 = 6 ∨ q.1 = 11)) = true) ∧ ((rest.map catA).sum ≤ 8 ∧ rest.all (fun q => decide (q.1 ≠ 8)) = true) ∧ (k.2.1.1 + 1 ≤ R.1 ∧ 8 + (k.1.2.2 + 11) + k.2.1.2 ≤ R.2.1) ∧ (b.2.1 + k.2.2.1.1 ≤ R.2.2.1 ∧ b.2.2 + k.2.2.1.2 ≤ R.2.2.2) ∧ (o0 :: on).all okC = true ∧ (cj = k.2.2.2.1.2.1 ∧ fs = k.2.2.2.1.2.2 ∧ fs.all dfl = true) then
        some ((b.1.1 + 3, b.1.2.1, rest, b.1.2.2.2.1, b.1.2.2.2.2.set x.2.1.toNat (true, trKC x.2.1.toNat b.1.2.2.2.2.length (b.1.2.2.1.take k.2.2.2.1.1).reverse o0) ++ (on.map (trKC x.2.1.toNat b.1.2.2.2.2.length (b.1.2.2.1.take k.2.2.2.1.1).reverse)).map (fun c => (true, c))), b.2.1 + k.2.2.1.1, b.2.2 + k.2.2.1.2) else none
    | _, _ => none
  | _ => none
noncomputable def kst (K : KTB) (nL : Nat) (R : Nat × Nat × Nat × Nat) (ins : ClassFile.Instr) (len : Nat) (b : KS) : Option KS := match ins with
  | .new i => match look K.2.1 i with
    | some (ci, N, fs) => if len = 3 ∧ b.2.1 + 1 ≤ R.2.2.1 ∧ b.2.2 + N ≤ R.2.2.2 then some ((b.1.1 + 3, b.1.2.1, (6, (b.1.2.2.2.2.length : Int), 0) :: b.1.2.2.1, b.1.2.2.2.1, b.1.2.2.2.2 ++ [(true, .inl (ci, fs))]), b.2.1 + 1, b.2.2 + N) else none
    | none => none
  | .newarray ty => match b.1.2.2.1, kArr ty with
    | x :: st, some t => if len = 2 ∧ x.1 = 0 ∧ 0 ≤ x.2.1 ∧ x.2.1 ≤ 1000000 ∧ t ∈ K.2.2.1 ∧ b.2.1 + 1 ≤ R.2.2.1 ∧ b.2.2 + x.2.1.toNat ≤ R.2.2.2 then some ((b.1.1 + 2, b.1.2.1, (6, (b.1.2.2.2.2.length : Int), 0) :: st, b.1.2.2.2.1, b.1.2.2.2.2 ++ [(true, .inr (t, [(x.2.1.toNat, if t = 2 then (3, 0, 0) else (0, 0, 0))]))]), b.2.1 + 1, b.2.2 + x.2.1.toNat) else none
    | _, _ => none
  | .anewarray i => match b.1.2.2.1, look K.2.2.2.2.1 i with
    | x :: st, some _ => if len = 3 ∧ x.1 = 0 ∧ 0 ≤ x.2.1 ∧ x.2.1 ≤ 1000000 ∧ b.2.1 + 1 ≤ R.2.2.1 ∧ b.2.2 + x.2.1.toNat ≤ R.2.2.2 then some ((b.1.1 + 3, b.1.2.1, (6, (b.1.2.2.2.2.length : Int), 0) :: st, b.1.2.2.2.1, b.1.2.2.2.2 ++ [(true, .inr (4, [(x.2.1.toNat, (7, 0, 0))]))]), b.2.1 + 1, b.2.2 + x.2.1.toNat) else none
    | _, _ => none
  | .putfield i => match b.1.2.2.1, look K.1 i with
    | v :: x :: st, some (ci, k) => match b.1.2.2.2.2[x.2.1.toNat]? with
      | some (_, .inl (cj, fs)) => if len = 3 ∧ x.1 = 6 ∧ (v.1 = 6 ∨ v.1 = 11) ∧ ci = cj ∧ k < fs.length then some ((b.1.1 + 3, b.1.2.1, st, b.1.2.2.2.1, b.1.2.2.2.2.set x.2.1.toNat (true, .inl (cj, fs.set k v))), b.2) else none
      | _ => none
    | _, _ => none
  | .aastore => match b.1.2.2.1 with
    | v :: i :: x :: st => match b.1.2.2.2.2[x.2.1.toNat]?, b.1.2.2.2.2[v.2.1.toNat]? with
      | some (_, .inr (4, sg)), some (_, .inl (9, _)) => if len = 1 ∧ x.1 = 6 ∧ v.1 = 6 ∧ i.1 = 0 ∧ 0 ≤ i.2.1 ∧ i.2.1 < (tot sg : Int) then some ((b.1.1 + 1, b.1.2.1, st, b.1.2.2.2.1, b.1.2.2.2.2.set x.2.1.toNat (true, .inr (4, stA sg i.2.1.toNat v))), b.2) else none
      | _, _ => none
    | _ => none
  | .astore_n k => match b.1.2.2.1 with
    | v :: st => if len = 1 ∧ v.1 = 6 ∧ (k : Nat) < nL then some ((b.1.1 + 1, ((k : Nat), v) :: flt1 k b.1.2.1, st, b.1.2.2.2.1, b.1.2.2.2.2), b.2) else none
    | _ => none
  | .aload_n k => match fnd b.1.2.1 k with
    | some v => if len = 1 ∧ v.1 = 11 then some ((b.1.1 + 1, b.1.2.1, v :: b.1.2.2.1, b.1.2.2.2.1, b.1.2.2.2.2), b.2) else none
    | none => none
  | .invokespecial i => if len = 3 then (match look K.2.2.2.1 i with
    | some _ => match b.1.2.2.1 with
      | x :: st => if x.1 = 6 ∧ 1 ≤ R.1 ∧ (st.map catA).sum + 20 ≤ R.2.1 ∧ (st.map catA).sum ≤ 8 ∧ st.all (fun q => decide (q.1 ≠ 8)) = true then some ((b.1.1 + 3, b.1.2.1, st, b.1.2.2.2.1, b.1.2.2.2.2), b.2) else none
      | _ => none
    | none => match look K.2.2.2.2.2 i with
      | some (_, k) => kcl R b k
      | none => none) else none
  | _ => none
noncomputable def kstp (T : TB) (K : KTB) (R : Nat × Nat × Nat × Nat) (ins : ClassFile.Instr) (len : Nat) (b : KS) : Option KS := match stpA T ins len b.1 with
  | some [a] => some (a, b.2)
  | some _ => none
  | none => match stpH T ins len b.1 with
    | some [a] => some (a, b.2)
    | some _ => none
    | none => kst K T.2.1 R ins len b
noncomputable def runK (T : TB) (K : KTB) (R : Nat × Nat × Nat × Nat) (stop : Nat) : Nat → KS → Option KS
  | 0, _ => none
  | f + 1, b => if b.1.1 = stop then some b else match look T.1 b.1.1 with
    | none => none
    | some q => match kstp T K R q.1 q.2 b with
      | some b' => runK T K R stop f b'
      | none => none
