/-! ===== rows of numbers by runs ===== -/
noncomputable def lk : List (Nat × AV) → Nat → Option AV
  | [], _ => none
  | (n, a) :: r, i => if i < n then some a else lk r (i - n)
noncomputable def tot : List (Nat × AV) → Nat
  | [] => 0
  | (n, _) :: r => n + tot r
theorem lk_some : ∀ {sg : List (Nat × AV)} {i : Nat}, i < tot sg → ∃ a, lk sg i = some a
  | [], i, h => by simp [tot] at h
  | (n, a) :: r, i, h => by
    unfold lk
    split
    · exact ⟨a, rfl⟩
    · exact lk_some (sg := r) (by simp [tot] at h; omega)
theorem lk_lt : ∀ {sg : List (Nat × AV)} {i : Nat} {a : AV}, lk sg i = some a → i < tot sg
  | [], i, a, h => by cases h
  | (n, b) :: r, i, a, h => by
    unfold lk at h
    simp only [tot]
    split at h
    · omega
    · have := lk_lt (sg := r) h; omega
/-- the runs that reach into lo .. hi -/
noncomputable def ovl (lo hi : Nat) : List (Nat × AV) → Nat → List AV
  | [], _ => []
  | (n, a) :: r, s => if 0 < n ∧ s ≤ hi ∧ lo < s + n then a :: ovl lo hi r (s + n) else ovl lo hi r (s + n)
theorem ovl_mem {lo hi : Nat} : ∀ {sg : List (Nat × AV)} {s i : Nat} {a : AV}, s ≤ i → lo ≤ i → i ≤ hi → lk sg (i - s) = some a → a ∈ ovl lo hi sg s
  | [], s, i, a, _, _, _, h => by cases h
  | (n, b) :: r, s, i, a, h1, h2, h3, h => by
    unfold lk at h
    unfold ovl
    split at h
    · cases h
      rw [if_pos ⟨by omega, by omega, by omega⟩]
      exact List.mem_cons_self
    · have hm := ovl_mem (sg := r) (s := s + n) (i := i) (a := a) (by omega) h2 h3 (by rw [show i - (s + n) = i - s - n by omega]; exact h)
      split
      · exact List.mem_cons_of_mem _ hm
      · exact hm
noncomputable def hulI (G : GI) : List AV → Option (Int × Int)
  | [] => none
  | [a] => ivI G a
  | a :: r => match ivI G a, hulI G r with
    | some p, some q => some (min p.1 q.1, max p.2 q.2)
    | _, _ => none
noncomputable def hulL (G : GI) : List AV → Option (Int × Int)
  | [] => none
  | [a] => ivL G a
  | a :: r => match ivL G a, hulL G r with
    | some p, some q => some (min p.1 q.1, max p.2 q.2)
    | _, _ => none
theorem hulI_ok {G : GI} {g : List Int} {V : EV} {v : Value} {x : AV} (hG : GS G g) (hx : gam g V x v) : ∀ {xs : List AV} {q : Int × Int}, x ∈ xs → hulI G xs = some q → ∃ y : Int32, v = .int y ∧ inI q y.toInt
  | [], q, h, _ => by cases h
  | [a], q, h, hq => by
    have : x = a := List.mem_singleton.mp h
    subst this
    exact ivI_ok hG hx hq
  | a :: b :: r, q, h, hq => by
    unfold hulI at hq
    split at hq
    · rename_i p q' hp hq'
      cases hq
      rcases List.mem_cons.mp h with rfl | h
      · obtain ⟨y, h1, h2⟩ := ivI_ok hG hx hp
        unfold inI at h2
        exact ⟨y, h1, by unfold inI; simp only; omega⟩
      · obtain ⟨y, h1, h2⟩ := hulI_ok hG hx (xs := b :: r) h hq'
        unfold inI at h2
        exact ⟨y, h1, by unfold inI; simp only; omega⟩
    · cases hq
theorem hulL_ok {G : GI} {g : List Int} {V : EV} {v : Value} {x : AV} (hG : GS G g) (hx : gam g V x v) : ∀ {xs : List AV} {q : Int × Int}, x ∈ xs → hulL G xs = some q → ∃ y : Int64, v = .long y ∧ inI q y.toInt
  | [], q, h, _ => by cases h
  | [a], q, h, hq => by
    have : x = a := List.mem_singleton.mp h
    subst this
    exact ivL_ok hG hx hq
  | a :: b :: r, q, h, hq => by
    unfold hulL at hq
    split at hq
    · rename_i p q' hp hq'
      cases hq
      rcases List.mem_cons.mp h with rfl | h
      · obtain ⟨y, h1, h2⟩ := ivL_ok hG hx hp
        unfold inI at h2
        exact ⟨y, h1, by unfold inI; simp only; omega⟩
      · obtain ⟨y, h1, h2⟩ := hulL_ok hG hx (xs := b :: r) h hq'
        unfold inI at h2
        exact ⟨y, h1, by unfold inI; simp only; omega⟩
    · cases hq
/-- a value gets a name -/
noncomputable def nam (G : GI) (a : AV) : Option (GI × AV) := match a.1 with
  | 2 => some (mk2 G (a.2.1, a.2.2))
  | 5 => some (mk5 G (a.2.1, a.2.2))
  | 8 => none
  | _ => some (G, a)
theorem nam_ok {G : GI} {g : List Int} {V : EV} {a : AV} {v : Value} {r : GI × AV} (hG : GS G g) (ha : gam g V a v) (hr : nam G a = some r) : ∃ g', gxt g g' ∧ GS r.1 g' ∧ gam g' V r.2 v := by
  obtain ⟨t, b, c⟩ := a
  unfold nam at hr
  split at hr
  · rename_i ht; simp only at ht; subst ht; cases hr
    obtain ⟨x, rfl, h2, h3⟩ := ha
    exact mk2_ok hG x ⟨h2, h3⟩
  · rename_i ht; simp only at ht; subst ht; cases hr
    obtain ⟨x, rfl, h2, h3⟩ := ha
    exact mk5_ok hG x ⟨h2, h3⟩
  · cases hr
  · cases hr; exact ⟨g, gxt_rf, hG, ha⟩
noncomputable def rdA (G : GI) (sg : List (Nat × AV)) (lo hi : Nat) : Option (GI × AV) := match ovl lo hi sg 0 with
  | [x] => nam G x
  | xs => match hulI G xs with
    | some q => some (mk2 G q)
    | none => match hulL G xs with
      | some q => some (mk5 G q)
      | none => none
theorem rdA_ok {G : GI} {g : List Int} {V : EV} {sg : List (Nat × AV)} {lo hi i : Nat} {val : Nat → Value} {r : GI × AV} (hG : GS G g) (hv : ∀ (j : Nat) (a : AV), lk sg j = some a → gam g V a (val j)) (h1 : lo ≤ i) (h2 : i ≤ hi) (hi' : i < tot sg) (hr : rdA G sg lo hi = some r) : ∃ g', gxt g g' ∧ GS r.1 g' ∧ gam g' V r.2 (val i) := by
  obtain ⟨a, ha⟩ := lk_some hi'
  have hm : a ∈ ovl lo hi sg 0 := ovl_mem (Nat.zero_le i) h1 h2 ha
  have hg := hv i a ha
  unfold rdA at hr
  split at hr
  · rename_i x hx
    rw [hx] at hm
    have : a = x := List.mem_singleton.mp hm
    subst this
    exact nam_ok hG hg hr
  · split at hr
    · rename_i q hq
      cases hr
      obtain ⟨y, h3, h4⟩ := hulI_ok hG hg hm hq
      rw [h3]
      exact mk2_ok hG y h4
    · split at hr
      · rename_i q hq
        cases hr
        obtain ⟨y, h3, h4⟩ := hulL_ok hG hg hm hq
        rw [h3]
        exact mk5_ok hG y h4
      · cases hr
/-- one place is written -/
noncomputable def stA : List (Nat × AV) → Nat → AV → List (Nat × AV)
  | [], _, _ => []
  | (n, a) :: r, i, x => if i < n then (if a = x then (n, a) :: r else (i, a) :: (1, x) :: (n - i - 1, a) :: r) else (n, a) :: stA r (i - n) x
theorem stA_tot : ∀ {sg : List (Nat × AV)} {i : Nat} {x : AV}, tot (stA sg i x) = tot sg
  | [], _, _ => rfl
  | (n, a) :: r, i, x => by
    unfold stA
    split
    · split
      · rfl
      · simp only [tot]; omega
    · simp only [tot]; rw [stA_tot (sg := r)]
theorem stA_lk : ∀ {sg : List (Nat × AV)} {i j : Nat} {x b : AV}, lk (stA sg i x) j = some b → (j = i ∧ b = x) ∨ (j ≠ i ∧ lk sg j = some b)
  | [], _, _, _, _, h => by cases h
  | (n, a) :: r, i, j, x, b, h => by
    unfold stA at h
    split at h
    · rename_i hin
      split at h
      · rename_i hax
        by_cases hji : j = i
        · subst hji
          unfold lk at h
          rw [if_pos hin] at h
          cases h
          exact Or.inl ⟨rfl, hax⟩
        · exact Or.inr ⟨hji, h⟩
      · unfold lk at h
        split at h
        · rename_i h1
          cases h
          exact Or.inr ⟨by omega, by unfold lk; rw [if_pos (by omega)]⟩
        · unfold lk at h
          split at h
          · cases h
            exact Or.inl ⟨by omega, rfl⟩
          · unfold lk at h
            refine Or.inr ⟨by omega, ?_⟩
            unfold lk
            split at h
            · rw [if_pos (by omega)]; exact h
            · rw [if_neg (by omega)]
              rw [show j - n = j - i - 1 - (n - i - 1) by omega]; exact h
    · rename_i hin
      unfold lk at h
      split at h
      · exact Or.inr ⟨by omega, by unfold lk; rw [if_pos (by omega)]; exact h⟩
      · rcases stA_lk (sg := r) h with ⟨h1, h2⟩ | ⟨h1, h2⟩
        · exact Or.inl ⟨by omega, h2⟩
        · exact Or.inr ⟨by omega, by unfold lk; rw [if_neg (by omega)]; exact h2⟩
/-- two values, or one: what holds of both -/
noncomputable def joi (G : GI) (a x : AV) : Option AV := if a = x then some a else if a.1 = 12 then (match ivI G x with
  | some p => if inS a.2.1.toNat p = true then some a else none
  | none => none) else match ivI G a, ivI G x with
  | some p, some q => some (2, min p.1 q.1, max p.2 q.2)
  | _, _ => match ivL G a, ivL G x with
    | some p, some q => some (5, min p.1 q.1, max p.2 q.2)
    | _, _ => none
theorem joi_l {G : GI} {g : List Int} {V : EV} {a x b : AV} {v : Value} (hG : GS G g) (h : joi G a x = some b) (hv : gam g V a v) : gam g V b v := by
  unfold joi at h
  split at h
  · cases h; exact hv
  · split at h
    · split at h
      · split at h
        · cases h; exact hv
        · cases h
      · cases h
    split at h
    · rename_i p q hp hq
      cases h
      obtain ⟨y, h1, h2⟩ := ivI_ok hG hv hp
      unfold inI at h2
      exact ⟨y, h1, by simp only; omega, by simp only; omega⟩
    · split at h
      · rename_i p q hp hq
        cases h
        obtain ⟨y, h1, h2⟩ := ivL_ok hG hv hp
        unfold inI at h2
        exact ⟨y, h1, by simp only; omega, by simp only; omega⟩
      · cases h
theorem joi_r {G : GI} {g : List Int} {V : EV} {a x b : AV} {v : Value} (hG : GS G g) (h : joi G a x = some b) (hv : gam g V x v) : gam g V b v := by
  unfold joi at h
  split at h
  · rename_i hx; subst hx; cases h; exact hv
  · split at h
    · rename_i ht
      split at h
      · rename_i p hp
        split at h
        · rename_i hs
          cases h
          obtain ⟨y, h1, h2⟩ := ivI_ok hG hv hp
          obtain ⟨t, a1, a2⟩ := a
          simp only at ht
          subst ht
          exact ⟨y, h1, inS_ok hs h2⟩
        · cases h
      · cases h
    split at h
    · rename_i p q hp hq
      cases h
      obtain ⟨y, h1, h2⟩ := ivI_ok hG hv hq
      unfold inI at h2
      exact ⟨y, h1, by simp only; omega, by simp only; omega⟩
    · split at h
      · rename_i p q hp hq
        cases h
        obtain ⟨y, h1, h2⟩ := ivL_ok hG hv hq
        unfold inI at h2
        exact ⟨y, h1, by simp only; omega, by simp only; omega⟩
      · cases h
noncomputable def wkA (G : GI) (x : AV) (lo hi : Nat) : List (Nat × AV) → Nat → Option (List (Nat × AV))
  | [], _ => some []
  | (n, a) :: r, s => match wkA G x lo hi r (s + n) with
    | none => none
    | some r' => if s ≤ hi ∧ lo < s + n then (match joi G a x with
      | some b => some ((n, b) :: r')
      | none => none) else some ((n, a) :: r')
theorem wkA_tot {G : GI} {x : AV} {lo hi : Nat} : ∀ {sg sg' : List (Nat × AV)} {s : Nat}, wkA G x lo hi sg s = some sg' → tot sg' = tot sg
  | [], _, _, h => by cases h; rfl
  | (n, a) :: r, sg', s, h => by
    unfold wkA at h
    split at h
    · cases h
    · rename_i r' hr'
      have := wkA_tot hr'
      split at h
      · split at h
        · cases h; simp only [tot]; omega
        · cases h
      · cases h; simp only [tot]; omega
theorem wkA_lk {G : GI} {g : List Int} {V : EV} {x : AV} {lo hi : Nat} {v : Value} (hG : GS G g) (hx : gam g V x v) : ∀ {sg sg' : List (Nat × AV)} {s : Nat} {val : Nat → Value}, (∀ (j : Nat) (a : AV), lk sg j = some a → gam g V a (val j)) → wkA G x lo hi sg s = some sg' → ∀ (j : Nat) (b : AV), lk sg' j = some b → gam g V b (val j) ∧ (lo ≤ s + j → s + j ≤ hi → gam g V b v)
  | [], _, _, _, _, h, j, b, hb => by cases h; cases hb
  | (n, a) :: r, sg', s, val, hv, h, j, b, hb => by
    unfold wkA at h
    split at h
    · cases h
    · rename_i r' hr'
      have ih := wkA_lk hG hx (sg := r) (sg' := r') (s := s + n) (val := fun j => val (j + n)) (fun j a ha => hv (j + n) a (by unfold lk; rw [if_neg (by omega), show j + n - n = j by omega]; exact ha)) hr'
      split at h
      · split at h
        · rename_i c hc
          cases h
          unfold lk at hb
          split at hb
          · cases hb
            rename_i hjn
            exact ⟨joi_l hG hc (hv j a (by unfold lk; rw [if_pos hjn])), fun _ _ => joi_r hG hc hx⟩
          · have := ih (j - n) b hb
            rw [show j - n + n = j by omega, show s + n + (j - n) = s + j by omega] at this
            exact this
        · cases h
      · rename_i hno
        cases h
        unfold lk at hb
        split at hb
        · cases hb
          rename_i hjn
          exact ⟨hv j a (by unfold lk; rw [if_pos hjn]), fun h1 h2 => absurd ⟨by omega, by omega⟩ hno⟩
        · have := ih (j - n) b hb
          rw [show j - n + n = j by omega, show s + n + (j - n) = s + j by omega] at this
          exact this
noncomputable def wrA (G : GI) (sg : List (Nat × AV)) (lo hi : Nat) (x : AV) : Option (List (Nat × AV)) := if lo = hi then some (stA sg lo x) else wkA G x lo hi sg 0
theorem wrA_tot {G : GI} {sg sg' : List (Nat × AV)} {lo hi : Nat} {x : AV} (h : wrA G sg lo hi x = some sg') : tot sg' = tot sg := by
  unfold wrA at h
  split at h
  · cases h; exact stA_tot
  · exact wkA_tot h
theorem wrA_ok {G : GI} {g : List Int} {V : EV} {sg sg' : List (Nat × AV)} {lo hi i : Nat} {x : AV} {v : Value} {val val' : Nat → Value} (hG : GS G g) (hx : gam g V x v) (hv : ∀ (j : Nat) (a : AV), lk sg j = some a → gam g V a (val j)) (h1 : lo ≤ i) (h2 : i ≤ hi) (he : val' i = v) (ho : ∀ j, j ≠ i → val' j = val j) (h : wrA G sg lo hi x = some sg') : ∀ (j : Nat) (a : AV), lk sg' j = some a → gam g V a (val' j) := by
  intro j a ha
  unfold wrA at h
  split at h
  · cases h
    have hil : i = lo := by omega
    subst hil
    rcases stA_lk ha with ⟨rfl, rfl⟩ | ⟨h3, h4⟩
    · rw [he]; exact hx
    · rw [ho j h3]; exact hv j a h4
  · have := wkA_lk hG hx hv h j a ha
    by_cases hji : j = i
    · subst hji
      rw [he]; exact this.2 (by omega) (by omega)
    · rw [ho j hji]; exact this.1
