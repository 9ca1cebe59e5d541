/-! ===== a case in pieces: the states that stand at a place, each of them run by itself ===== -/
section COL
variable {TL : List (Nat × ClassFile.Instr × Nat)} {T : TB} {d : Nat} {CT : CTB2} {RF : List (Nat × List POP)} {CX : List (Nat × Nat)} {XS : List (AV × AV)} {R : Nat × Nat} {k : CUT2}
/-- one step of the law's run -/
noncomputable def stW (TL : List (Nat × ClassFile.Instr × Nat)) (T : TB) (d : Nat) (CT : CTB2) (RF : List (Nat × List POP)) (CX : List (Nat × Nat)) (XS : List (AV × AV)) (R : Nat × Nat) (k : CUT2) (nxt : ASR → Bool) (x : ASR) : Bool := noX CX x || (if x.1.1 = k.1.1 then cutWG d 0 x k && wCtW d 0 x (some k) k else match look TL x.1.1 with
    | none => false
    | some q => match prA d ((look RF x.1.1).getD []) x with
      | none => false
      | some X => X.all (fun y => decide (y.1.1 = x.1.1) && (finL q.1 q.2 y.1 || (match stpL T d CT XS R q.1 q.2 y with
        | some L => L.all (fun z => frc (kdL q.1) z (fun pc loc st G hp r => nxt ((pc, loc, st, G, hp), r)))
        | none => false))))
theorem runW_suc {f : Nat} {x : ASR} : runW TL T d CT RF CX XS R k (f + 1) x = stW TL T d CT RF CX XS R k (runW TL T d CT RF CX XS R k f) x := by
  rw [runW]
  rfl
theorem stW_mono {n1 n2 : ASR → Bool} (hn : ∀ z, n1 z = true → n2 z = true) {x : ASR} (h : stW TL T d CT RF CX XS R k n1 x = true) : stW TL T d CT RF CX XS R k n2 x = true := by
  unfold stW at h ⊢
  rw [Bool.or_eq_true] at h ⊢
  rcases h with h | h
  · exact Or.inl h
  · refine Or.inr ?_
    by_cases hk : x.1.1 = k.1.1
    · rw [if_pos hk] at h ⊢
      exact h
    · rw [if_neg hk] at h ⊢
      cases hq : look TL x.1.1 with
      | none => rw [hq] at h; cases h
      | some q =>
        rw [hq] at h
        dsimp only at h ⊢
        cases hX : prA d ((look RF x.1.1).getD []) x with
        | none => rw [hX] at h; cases h
        | some X =>
          rw [hX] at h
          dsimp only at h ⊢
          refine List.all_eq_true.mpr (fun y hy => ?_)
          have h2 := List.all_eq_true.mp h y hy
          rw [Bool.and_eq_true, Bool.or_eq_true] at h2 ⊢
          refine ⟨h2.1, ?_⟩
          rcases h2.2 with h3 | h3
          · exact Or.inl h3
          · refine Or.inr ?_
            cases hL : stpL T d CT XS R q.1 q.2 y with
            | none => rw [hL] at h3; cases h3
            | some L =>
              rw [hL] at h3
              dsimp only at h3 ⊢
              refine List.all_eq_true.mpr (fun z hz => ?_)
              have h4 := List.all_eq_true.mp h3 z hz
              rw [frc_eq] at h4 ⊢
              exact hn _ h4
theorem runW_up : ∀ {f : Nat} {x : ASR}, runW TL T d CT RF CX XS R k f x = true → runW TL T d CT RF CX XS R k (f + 1) x = true
  | 0, x, h => by rw [runW] at h; cases h
  | f + 1, x, h => by
    rw [runW_suc] at h ⊢
    exact stW_mono (fun z hz => runW_up hz) h
theorem runW_add {f : Nat} {x : ASR} (h : runW TL T d CT RF CX XS R k f x = true) : ∀ {n : Nat}, runW TL T d CT RF CX XS R k (n + f) x = true
  | 0 => by rw [Nat.zero_add]; exact h
  | n + 1 => by rw [Nat.succ_add]; exact runW_up (runW_add h)
/-- the states that stand at a place; none if one ends ahead of it -/
noncomputable def runC (TL : List (Nat × ClassFile.Instr × Nat)) (T : TB) (d : Nat) (CT : CTB2) (RF : List (Nat × List POP)) (XS : List (AV × AV)) (R : Nat × Nat) (k : CUT2) (stop : Nat) : Nat → ASR → Option (List ASR)
  | 0, _ => none
  | f + 1, x => if x.1.1 = stop then some [x] else if x.1.1 = k.1.1 then none else match look TL x.1.1 with
    | none => none
    | some q => match prA d ((look RF x.1.1).getD []) x with
      | none => none
      | some X => bnd (fun y => if y.1.1 = x.1.1 then (match stpL T d CT XS R q.1 q.2 y with
        | some L => bnd (runC TL T d CT RF XS R k stop f) L
        | none => none) else none) X
theorem runC_ok {stop f2 : Nat} : ∀ {f : Nat} {x : ASR} {L : List ASR}, runC TL T d CT RF XS R k stop f x = some L → (∀ z ∈ L, runW TL T d CT RF CX XS R k f2 z = true) → runW TL T d CT RF CX XS R k (f + f2) x = true
  | 0, x, L, h, _ => by rw [runC] at h; cases h
  | f + 1, x, L, h, hz => by
    rw [runC] at h
    by_cases hs : x.1.1 = stop
    · rw [if_pos hs] at h
      cases h
      exact runW_add (hz x (List.mem_singleton.mpr rfl))
    · rw [if_neg hs] at h
      by_cases hk : x.1.1 = k.1.1
      · rw [if_pos hk] at h; cases h
      · rw [if_neg hk] at h
        rw [Nat.succ_add, runW_suc]
        unfold stW
        rw [Bool.or_eq_true]
        refine Or.inr ?_
        rw [if_neg hk]
        cases hq : look TL x.1.1 with
        | none => rw [hq] at h; cases h
        | some q =>
          rw [hq] at h
          dsimp only at h ⊢
          cases hX : prA d ((look RF x.1.1).getD []) x with
          | none => rw [hX] at h; cases h
          | some X =>
            rw [hX] at h
            dsimp only at h ⊢
            refine List.all_eq_true.mpr (fun y hy => ?_)
            obtain ⟨L1, e1, e2⟩ := bnd_mem h y hy
            rw [Bool.and_eq_true, Bool.or_eq_true]
            by_cases hy1 : y.1.1 = x.1.1
            · rw [if_pos hy1] at e1
              refine ⟨decide_eq_true hy1, Or.inr ?_⟩
              cases hL : stpL T d CT XS R q.1 q.2 y with
              | none => rw [hL] at e1; cases e1
              | some L2 =>
                rw [hL] at e1
                dsimp only at e1 ⊢
                refine List.all_eq_true.mpr (fun z hz2 => ?_)
                obtain ⟨L3, e3, e4⟩ := bnd_mem e1 z hz2
                rw [frc_eq]
                exact runC_ok e3 (fun w hw => hz w (e2 w (e4 w hw)))
            · rw [if_neg hy1] at e1; cases e1
end COL
/-- whether it holds, said as a Bool -/
noncomputable def PQ (Q : AS → Prop) (a : AS) : Bool := @decide (Q a) (Classical.propDecidable (Q a))
theorem PQ_mpr {Q : AS → Prop} {a : AS} (h : Q a) : PQ Q a = true := by
  unfold PQ
  exact @decide_eq_true (Q a) (Classical.propDecidable (Q a)) h
theorem PQ_mp {Q : AS → Prop} (a : AS) (h : PQ Q a = true) : Q a := by
  unfold PQ at h
  exact @of_decide_eq_true (Q a) (Classical.propDecidable (Q a)) h
/-- the states of a case at a place; how many; the one of them -/
noncomputable def cokL (col : AS → Option (List ASR)) (a : AS) (st : List AV) (x : AV) (off v : Int) (p : List ASR → Bool) : Bool := match rfI 0 a.2.2.2.1 x (0, v, 0) with
  | some L1 => decide (0 ≤ (a.1 : Int) + off ∧ -2147483648 ≤ v ∧ v ≤ 2147483647) && L1.all (fun G => match col (((a.1 : Int) + off).toNat, a.2.1, st, G, a.2.2.2.2) with
    | some L => p L
    | none => false)
  | none => false
noncomputable def pcN (n : Nat) (L : List ASR) : Bool := Nat.ble (lenG L) n
noncomputable def pcI (run : NXT) (i : Nat) (L : List ASR) : Bool := match nthG L i with
  | some y => frc 0 y run
  | none => true
theorem cok_col {Q : AS → Prop} {col : AS → Option (List ASR)} {run : NXT} {a : AS} {st : List AV} {x : AV} {off v : Int} {n : Nat} (hcol : ∀ y L, col y = some L → (∀ z ∈ L, run z.1.1 z.1.2.1 z.1.2.2.1 z.1.2.2.2.1 z.1.2.2.2.2 z.2 = true) → Q y) (hn : cokL col a st x off v (pcN n) = true) (hi : ∀ i, i < n → cokL col a st x off v (pcI run i) = true) : cok (PQ Q) a st x off v = true := by
  unfold cokL at hn hi
  unfold cok
  cases hr : rfI 0 a.2.2.2.1 x (0, v, 0) with
  | none => rw [hr] at hn; cases hn
  | some L1 =>
    rw [hr] at hn hi
    dsimp only at hn hi ⊢
    rw [Bool.and_eq_true] at hn ⊢
    refine ⟨hn.1, List.all_eq_true.mpr (fun y hy => ?_)⟩
    obtain ⟨G, hG, rfl⟩ := List.mem_map.mp hy
    have h1 := List.all_eq_true.mp hn.2 G hG
    refine PQ_mpr ?_
    cases hc : col (((a.1 : Int) + off).toNat, a.2.1, st, G, a.2.2.2.2) with
    | none => rw [hc] at h1; cases h1
    | some L =>
      rw [hc] at h1
      have h1 : Nat.ble (lenG L) n = true := h1
      rw [lenG_eq] at h1
      have h1 := Nat.le_of_ble_eq_true h1
      refine hcol _ L hc (fun z hz => ?_)
      obtain ⟨i, hi1, hi2⟩ := List.mem_iff_getElem.mp hz
      have h2 := hi i (Nat.lt_of_lt_of_le hi1 h1)
      rw [Bool.and_eq_true] at h2
      have h3 := List.all_eq_true.mp h2.2 G hG
      rw [hc] at h3
      have h3 : pcI run i L = true := h3
      unfold pcI at h3
      rw [nthG_eq, List.getElem?_eq_getElem hi1, hi2] at h3
      have h3 : frc 0 z run = true := h3
      rwa [frc_eq] at h3
theorem lt_all {P : Nat → Prop} : ∀ {n : Nat}, (∀ i, i < n → P i) → P n → ∀ i, i < n + 1 → P i := fun h h2 i hi => by
  rcases Nat.lt_or_ge i _ with q | q
  · exact h i q
  · rw [Nat.le_antisymm (Nat.le_of_lt_succ hi) q]; exact h2
theorem lt_none {P : Nat → Prop} : ∀ i, i < 0 → P i := fun _ hi => absurd hi (Nat.not_lt_zero _)
