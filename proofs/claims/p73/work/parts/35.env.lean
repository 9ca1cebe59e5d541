/-! ===== the outside: texts, the row ORDERS ===== -/
noncomputable def txK : List String := ["corn", "days", "field", "frights", "hats", "hedge", "hundred", "law", "man", "odds", "rooks", "tires", "voter"]
noncomputable def lnK : List Nat := [4, 4, 5, 7, 4, 5, 7, 3, 3, 4, 5, 5, 5]
noncomputable def byK : List (List Int32) := [[99, 111, 114, 110], [100, 97, 121, 115], [102, 105, 101, 108, 100], [102, 114, 105, 103, 104, 116, 115], [104, 97, 116, 115], [104, 101, 100, 103, 101], [104, 117, 110, 100, 114, 101, 100], [108, 97, 119], [109, 97, 110], [111, 100, 100, 115], [114, 111, 111, 107, 115], [116, 105, 114, 101, 115], [118, 111, 116, 101, 114]]
noncomputable def orK : List Int32 := [1, 1, 2, 6, 24, 120, 720, 5040]
/-- addresses of texts, of their bytes, of ORDERS; the cells that are ours -/
abbrev EvK : Type := (Nat → Nat) × (Nat → Nat) × Nat × (Nat → Prop)
noncomputable def oneK (E : EvK) (U : State) (H : Heap) (i : Nat) : Prop := va_O "java/lang/String" (E.1 i) E.2.2.2 U H ∧ va_OF "java/lang/String" "coder" "B" (.int 0) (E.1 i) E.2.2.2 U H ∧ va_OF "java/lang/String" "value" "[B" (.ref (E.2.1 i)) (E.1 i) E.2.2.2 U H ∧ va_T .byte (E.2.1 i) (lnK.getD i 0) (fun j => .int ((byK.getD i []).getD j 0)) E.2.2.2 U H
noncomputable def EOK (E : EvK) (U : State) (H : Heap) : Prop := (∀ q ∈ strK, vk_R q.1 q.2.1 q.2.2.1 (E.1 q.2.2.2) U) ∧ va_Nw ordN U ∧ (∀ i : Nat, i < 13 → oneK E U H i) ∧ va_Z "RookHusting" "ORDERS" "[I" (.ref E.2.2.1) E.2.2.2 U H ∧ va_T .int E.2.2.1 8 (fun j => .int (orK.getD j 0)) E.2.2.2 U H ∧ va_Z "java/lang/String" "COMPACT_STRINGS" "Z" (.int 1) E.2.2.2 U H ∧ ∃ r : Value, va_Z "jdk/internal/util/Preconditions" "SIOOBE_FORMATTER" "Ljava/util/function/BiFunction;" r E.2.2.2 U H ∧ r.category = 1
/-- the constants of the outside as values, the last first -/
noncomputable def KRof (E : EvK) : List Value := ((List.range 13).map (fun i => Value.ref (E.1 i)) ++ [Value.ref E.2.2.1]).reverse
theorem KR_len (E : EvK) : (KRof E).length = nKR := by simp [KRof, nKR]
theorem KR_get {E : EvK} {gv : List Value} {i : Nat} (hi : i < 13) : (gv ++ KRof E).reverse[i]? = some (.ref (E.1 i)) := by
  rw [List.reverse_append, List.getElem?_append_left (by rw [List.length_reverse, KR_len]; unfold nKR; omega)]
  unfold KRof
  rw [List.reverse_reverse, List.getElem?_append_left (by simpa using hi)]
  simp [hi]
theorem KR_ord {E : EvK} {gv : List Value} : (gv ++ KRof E).reverse[13]? = some (.ref E.2.2.1) := by
  rw [List.reverse_append, List.getElem?_append_left (by rw [List.length_reverse, KR_len]; decide)]
  unfold KRof
  rw [List.reverse_reverse, List.getElem?_append_right (by simp)]
  simp
theorem oneK_go {E : EvK} {s U : State} {H0 H : Heap} {i : Nat} (hvm : s.vm.Alike U.vm) (hq : ∀ a : Nat, a < H0.size → ¬ E.2.2.2 a → H[a]? = H0[a]?) (h : oneK E s H0 i) : oneK E U H i :=
  ⟨(va_O.moved hvm h.1).kept hq, (va_OF.moved hvm h.2.1).kept hq, (va_OF.moved hvm h.2.2.1).kept hq, (va_T.moved hvm h.2.2.2).kept hq⟩
theorem EOK_go {E : EvK} {s U : State} {H0 H : Heap} (hvm : s.vm.Alike U.vm) (hR : ∀ q ∈ strK, vk_R q.1 q.2.1 q.2.2.1 (E.1 q.2.2.2) U) (hn : va_Nw ordN U) (hq : ∀ a : Nat, a < H0.size → ¬ E.2.2.2 a → H[a]? = H0[a]?) (h : EOK E s H0) : EOK E U H := by
  obtain ⟨h1, -, h2, h3, h4, h5, r, h6, h7⟩ := h
  exact ⟨hR, hn, fun i hi => oneK_go hvm hq (h2 i hi), (va_Z.moved hvm h3).kept hq, (va_T.moved hvm h4).kept hq, (va_Z.moved hvm h5).kept hq, r, (va_Z.moved hvm h6).kept hq, h7⟩
theorem EOK_warm {E : EvK} {s U : State} {A : Nat → Prop} {H : Heap} {locs : List Loc} (hW : s.WarmedH U.vm) (hA : ∀ q, A q → E.2.2.2 q) (hS : va_S A s.heap H locs) (h : EOK E s s.heap) : EOK E U H :=
  EOK_go hW.alike (fun q hq => (h.1 q hq).warm hW) (va_Nw.warmF hW h.2.1) (fun a h1 h2 => hS.2.1 a h1 (fun z => h2 (hA a z))) h
theorem EOK_same {E : EvK} {s U : State} {H : Heap} (hv : U.vm = s.vm) (h : EOK E s H) : EOK E U H :=
  EOK_go (by rw [hv]; exact Vm.Alike.refl _) (fun q hq => (h.1 q hq).same hv) (va_Nw.same rfl hv.symm h.2.1) (fun _ _ _ => rfl) h
