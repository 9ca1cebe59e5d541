/-! ===== a call: the callee's cells among the caller's ===== -/
noncomputable def gvl (c : AV) (v : Value) : Int := if c.1 = 1 ∨ c.1 = 4 then (numV v).getD 0 else 0
noncomputable def zin (Gc : GI) (p : Nat) : Bool := match nthG Gc p with
  | some r => decide (r.1 ≤ 0 ∧ 0 ≤ r.2)
  | none => false
/-- the caller's value x where the callee's start has c, the p-th -/
noncomputable def mt1 (σ : List Nat) (G Gc : GI) (p : Nat) (c x : AV) : Bool := match c.1 with
  | 0 => (match ivI G x with
    | some q => decide (q.1 = c.2.1 ∧ q.2 = c.2.1)
    | none => false) && zin Gc p
  | 1 => decide (c.2.1 = (p : Int) ∧ c.2.2 = 0) && (match ivI G x, nthG Gc p with
    | some q, some r => decide (r.1 ≤ q.1 ∧ q.2 ≤ r.2)
    | _, _ => false)
  | 2 => (match ivI G x with
    | some q => decide (c.2.1 ≤ q.1 ∧ q.2 ≤ c.2.2)
    | none => false) && zin Gc p
  | 3 => (match ivL G x with
    | some q => decide (q.1 = c.2.1 ∧ q.2 = c.2.1)
    | none => false) && zin Gc p
  | 4 => decide (c.2.1 = (p : Int) ∧ c.2.2 = 0) && (match ivL G x, nthG Gc p with
    | some q, some r => decide (r.1 ≤ q.1 ∧ q.2 ≤ r.2)
    | _, _ => false)
  | 5 => (match ivL G x with
    | some q => decide (c.2.1 ≤ q.1 ∧ q.2 ≤ c.2.2)
    | none => false) && zin Gc p
  | 6 => decide (x.1 = 6 ∧ σ[c.2.1.toNat]? = some x.2.1.toNat) && zin Gc p
  | 7 => decide (x.1 = 7) && zin Gc p
  | 8 => decide (c.2.1 = (p : Int)) && zin Gc p
  | 12 => (decide (x = c) || (match ivI G x with
    | some q => inS c.2.1.toNat q
    | none => false)) && zin Gc p
  | 13 => decide (x = c ∧ c.2.1.toNat < nKR) && zin Gc p
  | _ => false
/-- the last values of a list: constants of the outside -/
theorem kr_rev {a b KR : List Value} (hn : KR.length = nKR) {i : Nat} (hi : i < nKR) : (a ++ KR).reverse[i]? = (b ++ KR).reverse[i]? := by
  rw [List.reverse_append, List.reverse_append, List.getElem?_append_left (by rw [List.length_reverse]; omega), List.getElem?_append_left (by rw [List.length_reverse]; omega)]
theorem zin_ok {Gc : GI} {p : Nat} (h : zin Gc p = true) : ∃ r, Gc[p]? = some r ∧ inI r 0 := by
  unfold zin at h
  split at h
  · rename_i r hr
    rw [nthG_eq] at hr
    have h := of_decide_eq_true h
    exact ⟨r, hr, h.1, h.2⟩
  · cases h
theorem mt1_ok {σ : List Nat} {G Gc : GI} {g ga : List Int} {V : EV} {KR va0 : List Value} (hKR : KR.length = nKR) (hVK : V.1 = va0 ++ KR) {va : List Value} {ac : List Nat} {p : Nat} {c x : AV} {v : Value} (hG : GS G g) (hx : gam g V x v) (h : mt1 σ G Gc p c x = true) (hv : va[p]? = some v) (hg : ga[p]? = some (gvl c v)) (hac : ∀ (r i : Nat), σ[r]? = some i → ac[r]? = V.2[i]?) : gam ga (va ++ KR, ac) c v ∧ ∃ r, Gc[p]? = some r ∧ inI r (gvl c v) := by
  obtain ⟨t, c1, c2⟩ := c
  unfold mt1 at h
  split at h
  · rename_i ht; simp only at ht; subst ht
    simp only [Bool.and_eq_true] at h
    obtain ⟨h1, h2⟩ := h
    split at h1
    · rename_i q hq
      have h1 := of_decide_eq_true h1
      obtain ⟨y, e1, e2⟩ := ivI_ok hG hx hq
      unfold inI at e2
      exact ⟨⟨y, e1, by simp only; omega⟩, zin_ok h2⟩
    · cases h1
  · rename_i ht; simp only at ht; subst ht
    simp only [Bool.and_eq_true, decide_eq_true_eq] at h
    obtain ⟨⟨h1, h3⟩, h2⟩ := h
    split at h2
    · rename_i q r hq hr
      rw [nthG_eq] at hr
      have h2 := of_decide_eq_true h2
      obtain ⟨y, e1, e2⟩ := ivI_ok hG hx hq
      unfold inI at e2
      subst e1
      have hgv : gvl (1, c1, c2) (.int y) = y.toInt := rfl
      rw [hgv] at hg ⊢
      refine ⟨⟨y, rfl, y.toInt, ?_, ?_⟩, r, hr, by unfold inI; omega⟩
      · simp only [h1, Int.toNat_natCast]; exact hg
      · simp only [h3]; omega
    · cases h2
  · rename_i ht; simp only at ht; subst ht
    simp only [Bool.and_eq_true] at h
    obtain ⟨h1, h2⟩ := h
    split at h1
    · rename_i q hq
      have h1 := of_decide_eq_true h1
      obtain ⟨y, e1, e2⟩ := ivI_ok hG hx hq
      unfold inI at e2
      exact ⟨⟨y, e1, by simp only; omega, by simp only; omega⟩, zin_ok h2⟩
    · cases h1
  · rename_i ht; simp only at ht; subst ht
    simp only [Bool.and_eq_true] at h
    obtain ⟨h1, h2⟩ := h
    split at h1
    · rename_i q hq
      have h1 := of_decide_eq_true h1
      obtain ⟨y, e1, e2⟩ := ivL_ok hG hx hq
      unfold inI at e2
      exact ⟨⟨y, e1, by simp only; omega⟩, zin_ok h2⟩
    · cases h1
  · rename_i ht; simp only at ht; subst ht
    simp only [Bool.and_eq_true, decide_eq_true_eq] at h
    obtain ⟨⟨h1, h3⟩, h2⟩ := h
    split at h2
    · rename_i q r hq hr
      rw [nthG_eq] at hr
      have h2 := of_decide_eq_true h2
      obtain ⟨y, e1, e2⟩ := ivL_ok hG hx hq
      unfold inI at e2
      subst e1
      have hgv : gvl (4, c1, c2) (.long y) = y.toInt := rfl
      rw [hgv] at hg ⊢
      refine ⟨⟨y, rfl, y.toInt, ?_, ?_⟩, r, hr, by unfold inI; omega⟩
      · simp only [h1, Int.toNat_natCast]; exact hg
      · simp only [h3]; omega
    · cases h2
  · rename_i ht; simp only at ht; subst ht
    simp only [Bool.and_eq_true] at h
    obtain ⟨h1, h2⟩ := h
    split at h1
    · rename_i q hq
      have h1 := of_decide_eq_true h1
      obtain ⟨y, e1, e2⟩ := ivL_ok hG hx hq
      unfold inI at e2
      exact ⟨⟨y, e1, by simp only; omega, by simp only; omega⟩, zin_ok h2⟩
    · cases h1
  · rename_i ht; simp only at ht; subst ht
    simp only [Bool.and_eq_true, decide_eq_true_eq] at h
    obtain ⟨⟨h1, h3⟩, h2⟩ := h
    obtain ⟨r, e1, e2⟩ := gam_ref hx h1
    exact ⟨⟨r, by simp only; rw [hac _ _ h3]; exact e1, e2⟩, zin_ok h2⟩
  · rename_i ht; simp only at ht; subst ht
    simp only [Bool.and_eq_true, decide_eq_true_eq] at h
    obtain ⟨h1, h2⟩ := h
    obtain ⟨tx, x1, x2⟩ := x
    simp only at h1
    subst h1
    exact ⟨hx, zin_ok h2⟩
  · rename_i ht; simp only at ht; subst ht
    simp only [Bool.and_eq_true, decide_eq_true_eq] at h
    obtain ⟨h1, h2⟩ := h
    refine ⟨?_, zin_ok h2⟩
    show (va ++ KR)[c1.toNat]? = some v
    rw [h1, Int.toNat_natCast, List.getElem?_append_left (List.getElem?_eq_some_iff.mp hv).1]; exact hv
  · rename_i ht; simp only at ht; subst ht
    simp only [Bool.and_eq_true, Bool.or_eq_true, decide_eq_true_eq] at h
    obtain ⟨h1, h2⟩ := h
    refine ⟨?_, zin_ok h2⟩
    rcases h1 with h1 | h1
    · subst h1
      exact hx
    · split at h1
      · rename_i q hq
        obtain ⟨y, e1, e2⟩ := ivI_ok hG hx hq
        exact ⟨y, e1, inS_ok h1 e2⟩
      · cases h1
  · rename_i ht; simp only at ht; subst ht
    simp only [Bool.and_eq_true, decide_eq_true_eq] at h
    obtain ⟨⟨h1, h3⟩, h2⟩ := h
    refine ⟨?_, zin_ok h2⟩
    subst h1
    obtain ⟨r, e1, e2⟩ := hx
    refine ⟨r, ?_, e2⟩
    rw [hVK] at e1
    exact (kr_rev hKR h3).trans e1
  · cases h
noncomputable def mtc (σ : List Nat) (G Gc : GI) : Nat → List AV → List AV → Bool
  | _, [], [] => true
  | p, c :: cs, x :: xs => mt1 σ G Gc p c x && mtc σ G Gc (p + 1) cs xs
  | _, _, _ => false
/-- what the callee's numbers are -/
noncomputable def gcf : List AV → List Value → List Int
  | c :: cs, v :: vs => gvl c v :: gcf cs vs
  | _, _ => []
theorem gcf_len : ∀ {cs : List AV} {vs : List Value}, cs.length = vs.length → (gcf cs vs).length = vs.length
  | [], [], _ => rfl
  | [], _ :: _, h => by simp at h
  | _ :: _, [], h => by simp at h
  | _ :: cs, _ :: vs, h => by simp only [gcf, List.length_cons]; rw [gcf_len (cs := cs) (vs := vs) (by simpa using h)]
theorem gcf_app : ∀ {c1 c2 : List AV} {v1 v2 : List Value}, c1.length = v1.length → gcf (c1 ++ c2) (v1 ++ v2) = gcf c1 v1 ++ gcf c2 v2
  | [], _, [], _, _ => rfl
  | [], _, _ :: _, _, h => by simp at h
  | _ :: _, _, [], _, h => by simp at h
  | _ :: c1, c2, _ :: v1, v2, h => by simp only [List.cons_append, gcf]; rw [gcf_app (c1 := c1) (v1 := v1) (by simpa using h)]
theorem mtc_len {σ : List Nat} {G Gc : GI} : ∀ {p : Nat} {cs xs : List AV}, mtc σ G Gc p cs xs = true → cs.length = xs.length
  | _, [], [], _ => rfl
  | _, [], _ :: _, h => by simp [mtc] at h
  | _, _ :: _, [], h => by simp [mtc] at h
  | p, _ :: cs, _ :: xs, h => by
    simp only [mtc, Bool.and_eq_true] at h
    simp only [List.length_cons]; rw [mtc_len h.2]
theorem mtc_ok {σ : List Nat} {G Gc : GI} {g : List Int} {V : EV} {KR va0 : List Value} (hKR : KR.length = nKR) (hVK : V.1 = va0 ++ KR) {ac : List Nat} (hG : GS G g) (hac : ∀ (r i : Nat), σ[r]? = some i → ac[r]? = V.2[i]?) {va : List Value} {ga : List Int} : ∀ {cs xs : List AV} {vs pre post : List Value} {pg qg : List Int}, zf2 (gam g V) xs vs → mtc σ G Gc pre.length cs xs = true → va = pre ++ vs ++ post → ga = pg ++ gcf cs vs ++ qg → pg.length = pre.length → zf2 (gam ga (va ++ KR, ac)) cs vs ∧ ∀ (i : Nat) (z : Int), (gcf cs vs)[i]? = some z → ∃ r, Gc[pre.length + i]? = some r ∧ inI r z
  | [], [], [], _, _, _, _, _, _, _, _, _ => ⟨trivial, fun i z h => by simp [gcf] at h⟩
  | [], _ :: _, _, _, _, _, _, _, h, _, _, _ => by simp [mtc] at h
  | _ :: _, [], _, _, _, _, _, _, h, _, _, _ => by simp [mtc] at h
  | _ :: _, _ :: _, [], _, _, _, _, hz, _, _, _, _ => hz.elim
  | c :: cs, x :: xs, v :: vs, pre, post, pg, qg, hz, h, hva, hga, hpl => by
    simp only [mtc, Bool.and_eq_true] at h
    obtain ⟨h1, h2⟩ := h
    have k1 := mt1_ok hKR hVK (va := va) (ga := ga) hG hz.1 h1 (by rw [hva]; simp) (by rw [hga, ← hpl]; simp [gcf]) hac
    have k2 := mtc_ok hKR hVK hG hac (va := va) (ga := ga) (pre := pre ++ [v]) (post := post) (pg := pg ++ [gvl c v]) (qg := qg) (vs := vs) hz.2 (by simpa using h2) (by rw [hva]; simp) (by rw [hga]; simp [gcf]) (by simp [hpl])
    refine ⟨⟨k1.1, k2.1⟩, fun i z hi => ?_⟩
    cases i with
    | zero => simp [gcf] at hi; subst hi; simpa using k1.2
    | succ i =>
      have := k2.2 i z (by simpa [gcf] using hi)
      simp only [List.length_append, List.length_cons, List.length_nil] at this
      rw [show pre.length + (i + 1) = pre.length + (0 + 1) + i by omega]
      exact this
noncomputable def fldA : AC → List AV
  | .inl o => o.2
  | .inr _ => []
noncomputable def fldE : va_E → List Value
  | .inr o => o.2
  | .inl _ => []
noncomputable def numS (sg : List (Nat × AV)) : Bool := sg.all (fun q => decide (q.2.1 = 0 ∨ q.2.1 = 2 ∨ q.2.1 = 3 ∨ q.2.1 = 5 ∨ q.2.1 = 12))
theorem gam_num {g g' : List Int} {V V' : EV} {b : AV} {v : Value} (ht : b.1 = 0 ∨ b.1 = 2 ∨ b.1 = 3 ∨ b.1 = 5 ∨ b.1 = 12) (h : gam g V b v) : gam g' V' b v := by
  obtain ⟨t, x, y⟩ := b
  simp only at ht
  rcases ht with rfl | rfl | rfl | rfl | rfl <;> exact h
theorem numS_lk : ∀ {sg : List (Nat × AV)} {i : Nat} {b : AV}, numS sg = true → lk sg i = some b → b.1 = 0 ∨ b.1 = 2 ∨ b.1 = 3 ∨ b.1 = 5 ∨ b.1 = 12
  | [], _, _, _, h => by cases h
  | (n, a) :: r, i, b, hn, h => by
    simp only [numS, List.all_cons, Bool.and_eq_true, decide_eq_true_eq] at hn
    unfold lk at h
    split at h
    · cases h; exact hn.1
    · exact numS_lk (sg := r) (by unfold numS; exact hn.2) h
theorem relC_num {g g' : List Int} {V V' : EV} {cA : Nat → ClassId} {t : Nat × List (Nat × AV)} {e : va_E} (hn : numS t.2 = true) (h : relC g V cA (.inr t) e) : relC g' V' cA (.inr t) e := by
  unfold relC at h ⊢
  split at h
  · rename_i hq; cases hq
  · rename_i hq; cases hq
    exact ⟨h.1, h.2.1, h.2.2.1, h.2.2.2.1, fun i b hb => gam_num (numS_lk hn hb) (h.2.2.2.2 i b hb)⟩
  · rename_i hq; cases hq
    exact ⟨h.1, h.2.1, h.2.2.1, h.2.2.2.1, fun i b hb => gam_num (numS_lk hn hb) (h.2.2.2.2 i b hb)⟩
  · rename_i hq; cases hq
    exact ⟨h.1, h.2.1, h.2.2.1, h.2.2.2.1, fun i b hb => gam_num (numS_lk hn hb) (h.2.2.2.2 i b hb)⟩
  · exact h.elim
/-- rows of references, place by place -/
noncomputable def mtR (σ : List Nat) : List (Nat × AV) → List (Nat × AV) → Bool
  | [], [] => true
  | (n, c) :: cs, (k, x) :: xs => decide (n = k ∧ c.1 = 6 ∧ x.1 = 6 ∧ σ[c.2.1.toNat]? = some x.2.1.toNat) && mtR σ cs xs
  | _, _ => false
theorem mtR_ok {σ : List Nat} : ∀ {cs xs : List (Nat × AV)}, mtR σ cs xs = true → tot xs = tot cs ∧ ∀ (i : Nat) (b : AV), lk cs i = some b → ∃ b', lk xs i = some b' ∧ b.1 = 6 ∧ b'.1 = 6 ∧ σ[b.2.1.toNat]? = some b'.2.1.toNat
  | [], [], _ => ⟨rfl, fun i b h => by cases h⟩
  | [], _ :: _, h => by simp [mtR] at h
  | _ :: _, [], h => by simp [mtR] at h
  | (n, c) :: cs, (k, x) :: xs, h => by
    simp only [mtR, Bool.and_eq_true, decide_eq_true_eq] at h
    obtain ⟨⟨rfl, h1, h2, h3⟩, h4⟩ := h
    have ih := mtR_ok h4
    refine ⟨by simp only [tot]; omega, fun i b hb => ?_⟩
    unfold lk at hb ⊢
    split at hb
    · cases hb
      rename_i hi
      exact ⟨x, by rw [if_pos hi], h1, h2, h3⟩
    · rename_i hi
      rw [if_neg hi]
      exact ih.2 _ b hb
theorem relC_arr {g : List Int} {V : EV} {cA : Nat → ClassId} {t : Nat × List (Nat × AV)} {e : va_E} (h : relC g V cA (.inr t) e) : fldE e = [] := by
  unfold relC at h
  split at h
  · rename_i hq; cases hq
  · rfl
  · rfl
  · rfl
  · exact h.elim
noncomputable def gAll {α : Type} (l : List α) : List Nat → Option (List α)
  | [] => some []
  | i :: r => match l[i]?, gAll l r with
    | some a, some as => some (a :: as)
    | _, _ => none
theorem gAll_ok {α : Type} {l : List α} : ∀ {σ : List Nat} {as : List α}, gAll l σ = some as → σ.length = as.length ∧ ∀ (k i : Nat), σ[k]? = some i → as[k]? = l[i]? ∧ ∃ a, l[i]? = some a
  | [], as, h => by cases h; exact ⟨rfl, fun k i hk => by simp at hk⟩
  | j :: r, as, h => by
    unfold gAll at h
    split at h
    · rename_i a as' h1 h2
      cases h
      have ih := gAll_ok h2
      refine ⟨by simp [ih.1], fun k i hk => ?_⟩
      cases k with
      | zero => simp at hk; subst hk; exact ⟨by simp [h1], a, h1⟩
      | succ k => simpa using ih.2 k i (by simpa using hk)
    · cases h
theorem gAll_zf {α β : Type} {R : α → β → Prop} {l : List α} {m : List β} (hz : zf2 R l m) : ∀ {σ : List Nat} {as : List α}, gAll l σ = some as → ∃ bs, gAll m σ = some bs ∧ zf2 R as bs
  | [], as, h => by cases h; exact ⟨[], rfl, trivial⟩
  | j :: r, as, h => by
    unfold gAll at h
    split at h
    · rename_i a as' h1 h2
      cases h
      obtain ⟨b, e1, e2⟩ := zf2_get hz h1
      obtain ⟨bs, e3, e4⟩ := gAll_zf hz h2
      exact ⟨b :: bs, by unfold gAll; rw [e1, e3], e2, e4⟩
    · cases h
theorem gAll_len {α β : Type} {l : List α} {m : List β} (hl : l.length = m.length) : ∀ {σ : List Nat} {as : List α}, gAll l σ = some as → ∃ bs, gAll m σ = some bs
  | [], as, h => ⟨[], rfl⟩
  | j :: r, as, h => by
    unfold gAll at h
    split at h
    · rename_i a as' h1 h2
      obtain ⟨bs, e3⟩ := gAll_len hl h2
      have hj : j < m.length := by rw [← hl]; exact (List.getElem?_eq_some_iff.mp h1).1
      exact ⟨m[j] :: bs, by unfold gAll; rw [List.getElem?_eq_getElem hj, e3]⟩
    · cases h
noncomputable def sAll {α : Type} (l : List α) : List Nat → List α → List α
  | [], _ => l
  | _ :: _, [] => l
  | i :: r, a :: as => sAll (l.set i a) r as
theorem sAll_len {α : Type} : ∀ {σ : List Nat} {l as : List α}, (sAll l σ as).length = l.length
  | [], _, _ => by simp [sAll]
  | _ :: _, _, [] => by simp [sAll]
  | i :: r, l, a :: as => by unfold sAll; rw [sAll_len (σ := r)]; simp
theorem sAll_out {α : Type} : ∀ {σ : List Nat} {l as : List α} {j : Nat}, j ∉ σ → (sAll l σ as)[j]? = l[j]?
  | [], _, _, _, _ => by simp [sAll]
  | _ :: _, _, [], _, _ => by simp [sAll]
  | i :: r, l, a :: as, j, h => by
    unfold sAll
    rw [sAll_out (σ := r) (fun q => h (List.mem_cons_of_mem _ q)), List.getElem?_set_ne (fun q => h (by rw [q]; exact List.mem_cons_self))]
theorem sAll_in {α : Type} : ∀ {σ : List Nat} {l as : List α} {k i : Nat}, va_nd σ = true → σ.length = as.length → (∀ j ∈ σ, j < l.length) → σ[k]? = some i → (sAll l σ as)[i]? = as[k]?
  | [], _, _, k, i, _, _, _, h => by simp at h
  | _ :: _, _, [], _, _, _, h, _, _ => by simp at h
  | j :: r, l, a :: as, k, i, hn, hl, hb, h => by
    unfold sAll
    simp only [va_nd, Bool.and_eq_true, decide_eq_true_eq] at hn
    cases k with
    | zero =>
      simp at h
      subst h
      rw [sAll_out (σ := r) hn.1, List.getElem?_set_self (hb j List.mem_cons_self)]
      rfl
    | succ k =>
      have := sAll_in (σ := r) (l := l.set j a) (as := as) (k := k) (i := i) hn.2 (by simpa using hl) (fun q hq => by rw [List.length_set]; exact hb q (List.mem_cons_of_mem _ hq)) (by simpa using h)
      rw [this]; simp
