/-! ===== a piece's way taken apart once more, where what is done ahead of an instruction takes it apart ===== -/
section COLJ
variable {TL : List (Nat × ClassFile.Instr × Nat)} {T : TB} {d : Nat} {CT : CTB2} {RF : List (Nat × List POP)} {CX : List (Nat × Nat)} {XS : List (AV × AV)} {R : Nat × Nat} {k : CUT2}
noncomputable def stJ (TL : List (Nat × ClassFile.Instr × Nat)) (T : TB) (d : Nat) (CT : CTB2) (RF : List (Nat × List POP)) (XS : List (AV × AV)) (R : Nat × Nat) (k : CUT2) (n j : Nat) (nxt : ASR → Bool) (x : ASR) : Bool := decide (x.1.1 ≠ k.1.1) && (match look TL x.1.1 with
  | none => false
  | some q => match prA d ((look RF x.1.1).getD []) x with
    | none => false
    | some X => Nat.ble (lenG X) n && (match nthG X j with
      | none => true
      | some y => decide (y.1.1 = x.1.1) && (finL q.1 q.2 y.1 || (match stpL T d CT XS R q.1 q.2 y with
        | some L => L.all (fun z => frc (kdL q.1) z (fun pc loc st G hp r => nxt ((pc, loc, st, G, hp), r)))
        | none => false))))
theorem stJ_ok {n : Nat} {nxt : ASR → Bool} {x : ASR} (h : ∀ j, j < n → stJ TL T d CT RF XS R k n j nxt x = true) (hn : 0 < n) : stW TL T d CT RF CX XS R k nxt x = true := by
  have h0 := h 0 hn
  unfold stJ at h0
  rw [Bool.and_eq_true] at h0
  have hk : ¬ x.1.1 = k.1.1 := of_decide_eq_true h0.1
  unfold stW
  rw [Bool.or_eq_true]
  refine Or.inr ?_
  rw [if_neg hk]
  have h1 := h0.2
  cases hq : look TL x.1.1 with
  | none => rw [hq] at h1; cases h1
  | some q =>
    rw [hq] at h1
    dsimp only at h1 ⊢
    cases hX : prA d ((look RF x.1.1).getD []) x with
    | none => rw [hX] at h1; cases h1
    | some X =>
      rw [hX] at h1
      dsimp only at h1 ⊢
      rw [Bool.and_eq_true] at h1
      have hl := h1.1
      rw [lenG_eq] at hl
      have hl := Nat.le_of_ble_eq_true hl
      refine List.all_eq_true.mpr (fun y hy => ?_)
      obtain ⟨j, hj1, hj2⟩ := List.mem_iff_getElem.mp hy
      have h2 := h j (Nat.lt_of_lt_of_le hj1 hl)
      unfold stJ at h2
      rw [Bool.and_eq_true] at h2
      have h2 := h2.2
      rw [hq] at h2
      dsimp only at h2
      rw [hX] at h2
      dsimp only at h2
      rw [Bool.and_eq_true] at h2
      have h2 := h2.2
      rw [nthG_eq, List.getElem?_eq_getElem hj1, hj2] at h2
      exact h2
theorem stW_all {n : Nat} {N : Nat → ASR → Bool} {M : ASR → Bool} (hn : 0 < n) (hN : ∀ z, (∀ j, j < n → N j z = true) → M z = true) {x : ASR} (h : ∀ j, j < n → stW TL T d CT RF CX XS R k (N j) x = true) : stW TL T d CT RF CX XS R k M x = true := by
  by_cases hx : noX CX x = true
  · unfold stW
    rw [Bool.or_eq_true]
    exact Or.inl hx
  · have h0 := h 0 hn
    unfold stW at h0 ⊢
    rw [Bool.or_eq_true] at h0 ⊢
    have h0 := h0.resolve_left hx
    refine Or.inr ?_
    by_cases hk : x.1.1 = k.1.1
    · rw [if_pos hk] at h0 ⊢
      exact h0
    · rw [if_neg hk] at h0 ⊢
      cases hq : look TL x.1.1 with
      | none => rw [hq] at h0; cases h0
      | some q =>
        rw [hq] at h0
        dsimp only at h0 ⊢
        cases hX : prA d ((look RF x.1.1).getD []) x with
        | none => rw [hX] at h0; cases h0
        | some X =>
          rw [hX] at h0
          dsimp only at h0 ⊢
          refine List.all_eq_true.mpr (fun y hy => ?_)
          have h2 := List.all_eq_true.mp h0 y hy
          rw [Bool.and_eq_true, Bool.or_eq_true] at h2 ⊢
          refine ⟨h2.1, ?_⟩
          by_cases hf : finL q.1 q.2 y.1 = true
          · exact Or.inl hf
          · refine Or.inr ?_
            have h3 := h2.2.resolve_left hf
            cases hL : stpL T d CT XS R q.1 q.2 y with
            | none => rw [hL] at h3; cases h3
            | some L =>
              dsimp only
              refine List.all_eq_true.mpr (fun z hz => ?_)
              rw [frc_eq]
              refine hN _ (fun j hj => ?_)
              have g := h j hj
              unfold stW at g
              rw [Bool.or_eq_true] at g
              have g := g.resolve_left hx
              rw [if_neg hk, hq] at g
              dsimp only at g
              rw [hX] at g
              dsimp only at g
              have g2 := List.all_eq_true.mp g y hy
              rw [Bool.and_eq_true, Bool.or_eq_true] at g2
              have g3 := g2.2.resolve_left hf
              rw [hL] at g3
              dsimp only at g3
              have g4 := List.all_eq_true.mp g3 z hz
              rw [frc_eq] at g4
              exact g4
theorem stW_nil {nxt : ASR → Bool} {x : ASR} (h : stW TL T d CT RF [] XS R k nxt x = true) : stW TL T d CT RF CX XS R k nxt x = true := by
  unfold stW at h ⊢
  rw [Bool.or_eq_true] at h ⊢
  have hx : ¬ noX [] x = true := by
    intro g
    have g : false = true := g
    cases g
  exact Or.inr (h.resolve_left hx)
noncomputable def runJ (TL : List (Nat × ClassFile.Instr × Nat)) (T : TB) (d : Nat) (CT : CTB2) (RF : List (Nat × List POP)) (CX : List (Nat × Nat)) (XS : List (AV × AV)) (R : Nat × Nat) (k : CUT2) (stop n j : Nat) (f : Nat) : ASR → Bool := Nat.rec (motive := fun _ => ASR → Bool) (fun _ => false) (fun f ih x => if x.1.1 = stop then stJ TL T d CT RF XS R k n j (runW TL T d CT RF CX XS R k f) x else stW TL T d CT RF [] XS R k ih x) f
theorem runJ_ok {stop n : Nat} (hn : 0 < n) : ∀ {f : Nat} {x : ASR}, (∀ j, j < n → runJ TL T d CT RF CX XS R k stop n j f x = true) → runW TL T d CT RF CX XS R k f x = true
  | 0, x, h => by
    have h0 : false = true := h 0 hn
    cases h0
  | f + 1, x, h => by
    rw [runW_suc]
    by_cases hs : x.1.1 = stop
    · refine stJ_ok (n := n) (fun j hj => ?_) hn
      have g : (if x.1.1 = stop then stJ TL T d CT RF XS R k n j (runW TL T d CT RF CX XS R k f) x else stW TL T d CT RF [] XS R k (runJ TL T d CT RF CX XS R k stop n j f) x) = true := h j hj
      rw [if_pos hs] at g
      exact g
    · refine stW_nil ?_
      refine stW_all (n := n) (N := fun j => runJ TL T d CT RF CX XS R k stop n j f) hn (fun z hz => runJ_ok hn hz) (fun j hj => ?_)
      have g : (if x.1.1 = stop then stJ TL T d CT RF XS R k n j (runW TL T d CT RF CX XS R k f) x else stW TL T d CT RF [] XS R k (runJ TL T d CT RF CX XS R k stop n j f) x) = true := h j hj
      rw [if_neg hs] at g
      exact g
/-- of what a step comes to, some at a time -/
noncomputable def stK (TL : List (Nat × ClassFile.Instr × Nat)) (T : TB) (d : Nat) (CT : CTB2) (RF : List (Nat × List POP)) (XS : List (AV × AV)) (R : Nat × Nat) (k : CUT2) (n w j : Nat) (nxt : ASR → Bool) (x : ASR) : Bool := decide (x.1.1 ≠ k.1.1) && (match look TL x.1.1 with
  | none => false
  | some q => match prA d ((look RF x.1.1).getD []) x with
    | none => false
    | some X => X.all (fun y => decide (y.1.1 = x.1.1) && (match stpL T d CT XS R q.1 q.2 y with
      | some L => Nat.ble (lenG L) n && (wTk (drpG L (w * j)) w).all (fun z => frc (kdL q.1) z (fun pc loc st G hp r => nxt ((pc, loc, st, G, hp), r)))
      | none => false)))
theorem stK_ok {n w m : Nat} {nxt : ASR → Bool} {x : ASR} (h : ∀ j, j < m → stK TL T d CT RF XS R k n w j nxt x = true) (hm : 0 < m) (hw : 0 < w) (hn : n ≤ w * m) : stW TL T d CT RF CX XS R k nxt x = true := by
  have h0 := h 0 hm
  unfold stK at h0
  rw [Bool.and_eq_true] at h0
  have hk : ¬ x.1.1 = k.1.1 := of_decide_eq_true h0.1
  unfold stW
  rw [Bool.or_eq_true]
  refine Or.inr ?_
  rw [if_neg hk]
  have h1 := h0.2
  cases hq : look TL x.1.1 with
  | none => rw [hq] at h1; cases h1
  | some q =>
    rw [hq] at h1
    dsimp only at h1 ⊢
    cases hX : prA d ((look RF x.1.1).getD []) x with
    | none => rw [hX] at h1; cases h1
    | some X =>
      rw [hX] at h1
      dsimp only at h1 ⊢
      refine List.all_eq_true.mpr (fun y hy => ?_)
      have h2 := List.all_eq_true.mp h1 y hy
      rw [Bool.and_eq_true] at h2 ⊢
      refine ⟨h2.1, ?_⟩
      rw [Bool.or_eq_true]
      refine Or.inr ?_
      have h3 := h2.2
      cases hL : stpL T d CT XS R q.1 q.2 y with
      | none => rw [hL] at h3; cases h3
      | some L =>
        rw [hL] at h3
        dsimp only at h3 ⊢
        rw [Bool.and_eq_true] at h3
        have hl := h3.1
        rw [lenG_eq] at hl
        have hl := Nat.le_of_ble_eq_true hl
        refine List.all_eq_true.mpr (fun z hz => ?_)
        obtain ⟨i, hi1, hi2⟩ := List.mem_iff_getElem.mp hz
        have hiw : i < w * m := Nat.lt_of_lt_of_le (Nat.lt_of_lt_of_le hi1 hl) hn
        have g := h (i / w) (Nat.div_lt_of_lt_mul hiw)
        unfold stK at g
        rw [Bool.and_eq_true] at g
        have g := g.2
        rw [hq] at g
        dsimp only at g
        rw [hX] at g
        dsimp only at g
        have g2 := List.all_eq_true.mp g y hy
        rw [Bool.and_eq_true] at g2
        have g3 := g2.2
        rw [hL] at g3
        dsimp only at g3
        rw [Bool.and_eq_true] at g3
        refine List.all_eq_true.mp g3.2 z ?_
        rw [wTk_eq, drpG_eq]
        have e1 : w * (i / w) + i % w = i := Nat.div_add_mod i w
        have e2 : i % w < w := Nat.mod_lt i hw
        have e3 : ((L.drop (w * (i / w))).take w)[i % w]? = some z := by
          rw [List.getElem?_take, if_pos e2, List.getElem?_drop, e1, List.getElem?_eq_getElem hi1, hi2]
        exact List.mem_of_getElem? e3
noncomputable def runEn (TL : List (Nat × ClassFile.Instr × Nat)) (T : TB) (d : Nat) (CT : CTB2) (RF : List (Nat × List POP)) (CX : List (Nat × Nat)) (XS : List (AV × AV)) (R : Nat × Nat) (k : CUT2) (stop n w j : Nat) (f : Nat) : ASR → Bool := Nat.rec (motive := fun _ => ASR → Bool) (fun _ => false) (fun f ih x => if x.1.1 = stop then stK TL T d CT RF XS R k n w j (runW TL T d CT RF CX XS R k f) x else stW TL T d CT RF [] XS R k ih x) f
theorem runEn_ok {stop n w m : Nat} (hm : 0 < m) (hw : 0 < w) (hn : n ≤ w * m) : ∀ {f : Nat} {x : ASR}, (∀ j, j < m → runEn TL T d CT RF CX XS R k stop n w j f x = true) → runW TL T d CT RF CX XS R k f x = true
  | 0, x, h => by
    have h0 : false = true := h 0 hm
    cases h0
  | f + 1, x, h => by
    rw [runW_suc]
    by_cases hs : x.1.1 = stop
    · refine stK_ok (n := n) (w := w) (m := m) (fun j hj => ?_) hm hw hn
      have g : (if x.1.1 = stop then stK TL T d CT RF XS R k n w j (runW TL T d CT RF CX XS R k f) x else stW TL T d CT RF [] XS R k (runEn TL T d CT RF CX XS R k stop n w j f) x) = true := h j hj
      rw [if_pos hs] at g
      exact g
    · refine stW_nil ?_
      refine stW_all (n := m) (N := fun j => runEn TL T d CT RF CX XS R k stop n w j f) hm (fun z hz => runEn_ok hm hw hn hz) (fun j hj => ?_)
      have g : (if x.1.1 = stop then stK TL T d CT RF XS R k n w j (runW TL T d CT RF CX XS R k f) x else stW TL T d CT RF [] XS R k (runEn TL T d CT RF CX XS R k stop n w j f) x) = true := h j hj
      rw [if_neg hs] at g
      exact g
end COLJ
theorem cokL_J {col : AS → Option (List ASR)} {a : AS} {st : List AV} {x : AV} {off v : Int} {i n : Nat} {N : Nat → NXT} {M : NXT} (hn : 0 < n) (hN : ∀ pc loc st G hp r, (∀ j, j < n → N j pc loc st G hp r = true) → M pc loc st G hp r = true) (h : ∀ j, j < n → cokL col a st x off v (pcI (N j) i) = true) : cokL col a st x off v (pcI M i) = true := by
  have h0 := h 0 hn
  unfold cokL at h0 ⊢
  cases hr : rfI 0 a.2.2.2.1 x (0, v, 0) with
  | none => rw [hr] at h0; cases h0
  | some L1 =>
    rw [hr] at h0
    dsimp only at h0 ⊢
    rw [Bool.and_eq_true] at h0 ⊢
    refine ⟨h0.1, List.all_eq_true.mpr (fun G hG => ?_)⟩
    have h1 := List.all_eq_true.mp h0.2 G hG
    cases hc : col (((a.1 : Int) + off).toNat, a.2.1, st, G, a.2.2.2.2) with
    | none => rw [hc] at h1; cases h1
    | some L =>
      show pcI M i L = true
      unfold pcI
      cases hy : nthG L i with
      | none => rfl
      | some y =>
        show frc 0 y M = true
        rw [frc_eq]
        refine hN _ _ _ _ _ _ (fun j hj => ?_)
        have g := h j hj
        unfold cokL at g
        rw [hr] at g
        dsimp only at g
        rw [Bool.and_eq_true] at g
        have g1 := List.all_eq_true.mp g.2 G hG
        rw [hc] at g1
        have g1 : pcI (N j) i L = true := g1
        unfold pcI at g1
        rw [hy] at g1
        have g1 : frc 0 y (N j) = true := g1
        rwa [frc_eq] at g1
