/-! ===== the run, and from it the contract ===== -/
abbrev CTB2 : Type := List (Nat × Nat × Nat × Con2 × List Nat)
noncomputable def trc2 (d st i : Nat) (R : Nat × Nat) (x : ASR) : CTB2 → Option (List ASR)
  | [] => none
  | q :: r => if q.1 = x.1.1 ∧ q.2.1 = i ∧ q.2.2.1 = st then (match cll2 d R x.1 x.2 q.2.2.2.1 q.2.2.2.2 with
    | some L => some L
    | none => trc2 d st i R x r) else trc2 d st i R x r
theorem trc2_mem {d st i : Nat} {R : Nat × Nat} {x : ASR} : ∀ {CT : CTB2} {L : List ASR}, trc2 d st i R x CT = some L → ∃ q ∈ CT, q.2.1 = i ∧ q.2.2.1 = st ∧ cll2 d R x.1 x.2 q.2.2.2.1 q.2.2.2.2 = some L
  | [], _, h => by cases h
  | q :: r, L, h => by
    unfold trc2 at h
    split at h
    · rename_i hc
      split at h
      · rename_i L' hL
        cases h
        exact ⟨q, List.mem_cons_self, hc.2.1, hc.2.2, hL⟩
      · obtain ⟨q', h1, h2⟩ := trc2_mem h
        exact ⟨q', List.mem_cons_of_mem _ h1, h2⟩
    · obtain ⟨q', h1, h2⟩ := trc2_mem h
      exact ⟨q', List.mem_cons_of_mem _ h1, h2⟩
/-- cells that nothing was written to -/
noncomputable def unch (hp : HP) (σ : List Nat) : Bool := σ.all (fun i => match hp[i]? with
  | some q => !q.1
  | none => false)
/-- contracts that hold of the cells as they were at the start -/
noncomputable def trcF (d st i : Nat) (R : Nat × Nat) (x : ASR) : CTB2 → Option (List ASR)
  | [] => none
  | q :: r => if q.1 = x.1.1 ∧ q.2.1 = i ∧ q.2.2.1 = st ∧ unch x.1.2.2.2.2 q.2.2.2.2 = true then (match cll2 d R x.1 x.2 q.2.2.2.1 q.2.2.2.2 with
    | some L => some L
    | none => trcF d st i R x r) else trcF d st i R x r
theorem trcF_mem {d st i : Nat} {R : Nat × Nat} {x : ASR} : ∀ {CT : CTB2} {L : List ASR}, trcF d st i R x CT = some L → ∃ q ∈ CT, q.2.1 = i ∧ q.2.2.1 = st ∧ unch x.1.2.2.2.2 q.2.2.2.2 = true ∧ cll2 d R x.1 x.2 q.2.2.2.1 q.2.2.2.2 = some L
  | [], _, h => by cases h
  | q :: r, L, h => by
    unfold trcF at h
    split at h
    · rename_i hc
      split at h
      · rename_i L' hL
        cases h
        exact ⟨q, List.mem_cons_self, hc.2.1, hc.2.2.1, hc.2.2.2, hL⟩
      · obtain ⟨q', h1, h2⟩ := trcF_mem h
        exact ⟨q', List.mem_cons_of_mem _ h1, h2⟩
    · obtain ⟨q', h1, h2⟩ := trcF_mem h
      exact ⟨q', List.mem_cons_of_mem _ h1, h2⟩
theorem unch_ok {hp : HP} {es0 es : List va_E} (hk : kep hp es0 es) : ∀ {σ : List Nat}, unch hp σ = true → gAll es0 σ = gAll es σ
  | [], _ => rfl
  | i :: r, h => by
    unfold unch at h
    simp only [List.all_cons, Bool.and_eq_true] at h
    have ih := unch_ok hk (σ := r) h.2
    have h1 := h.1
    split at h1
    · rename_i q hq
      have h2 := hk i q hq (by simpa using h1)
      unfold gAll
      rw [h2, ih]
    · cases h1
noncomputable def trcB (d st i : Nat) (R : Nat × Nat) (x : ASR) (FT CT : CTB2) : Option (List ASR) := match trcF d st i R x FT with
  | some L => some L
  | none => trc2 d st i R x CT
noncomputable def stpD (d : Nat) (BT : List (Nat × Nat)) (FT CT : CTB2) (R : Nat × Nat) (ins : ClassFile.Instr) (len : Nat) (x : ASR) : Option (List ASR) := match ins with
  | .invokevirtual i => if len = 3 then trcB d 0 i R x FT CT else none
  | .invokestatic i => if len = 3 then (match look BT i with
    | some 1 => (match acp R x.1 with
      | some L => some (L.map (fun b => (b, x.2)))
      | none => match acpW d R x.1 x.2 with
        | some L => some (L.map (fun b => (b, x.2)))
        | none => none)
    | some 4 => trcB d 2 i R x FT CT
    | _ => trcB d 1 i R x FT CT) else none
  | _ => none
noncomputable def stp3 (T : TB) (d : Nat) (BT : List (Nat × Nat)) (FT CT : CTB2) (RW : List Nat) (R : Nat × Nat) (ins : ClassFile.Instr) (len : Nat) (x : ASR) : Option (List ASR) := if x.1.1 ∈ RW then stpW T ins len x else (match stpA T ins len x.1 with
  | some L => some (L.map (fun b => (b, x.2)))
  | none => match stpH T ins len x.1 with
    | some L => some (L.map (fun b => (b, x.2)))
    | none => match stpX T BT R ins len x.1 with
      | some L => some (L.map (fun b => (b, x.2)))
      | none => match stpB T BT R ins len x.1 with
        | some L => some (L.map (fun b => (b, x.2)))
        | none => stpD d BT FT CT R ins len x)
noncomputable def bnd (f : ASR → Option (List ASR)) : List ASR → Option (List ASR)
  | [] => some []
  | x :: xs => match f x, bnd f xs with
    | some a, some b => some (a ++ b)
    | _, _ => none
noncomputable def prA (d : Nat) : List POP → ASR → Option (List ASR)
  | [], x => some [x]
  | o :: os, x => match prS d o x with
    | none => none
    | some L => bnd (prA d os) L
noncomputable def runR (T : TB) (d : Nat) (BT : List (Nat × Nat)) (FT CT : CTB2) (RF : List (Nat × List POP)) (RW : List Nat) (R : Nat × Nat) (ret : Option FieldType) (n0 : Nat) (outs : List Out2) (CU : List CUT2) (src : Option CUT2) : Nat → Bool → ASR → Bool
  | 0, _, _ => false
  | f + 1, first, x => if !first && CU.any (fun k => decide (k.1.1 = x.1.1)) then CU.any (fun k => cutW d n0 x k && ctW d n0 x src k) else match look T.1 x.1.1 with
    | none => false
    | some q => match prA d ((look RF x.1.1).getD []) x with
      | none => false
      | some X => X.all (fun y => decide (y.1.1 = x.1.1) && (finR ret d n0 outs q.1 q.2 y || (match stp3 T d BT FT CT RW R q.1 q.2 y with
        | some L => L.all (runR T d BT FT CT RF RW R ret n0 outs CU src f false)
        | none => false)))
noncomputable def FTOK2 (l : Launch) (own : String) (cl : List vw_C) (Ts : List Jvm.Cond) (es0 : List va_E) (FT : CTB2) : Prop := ∀ q ∈ FT, (∀ ec, gAll es0 q.2.2.2.2 = some ec → VldE l cl Ts q.2.2.2.1 ec) ∧ COK2 own cl Ts q.2.1 q.2.2.1 q.2.2.2.1
noncomputable def CTOK2 (l : Launch) (own : String) (cl : List vw_C) (Ts : List Jvm.Cond) (CT : CTB2) : Prop := ∀ q ∈ CT, Vld2 l cl Ts q.2.2.2.1 ∧ COK2 own cl Ts q.2.1 q.2.2.1 q.2.2.2.1
noncomputable def ceq : List AC → HP → Bool
  | [], [] => true
  | c :: cs, q :: hp => (q.1 || eqC c q.2) && ceq cs hp
  | _, _ => false
theorem ceq_ok {g0 g' : List Int} {V : EV} {cA : Nat → ClassId} (hx : gxt g0 g') : ∀ {cs : List AC} {hp : HP} {es0 es : List va_E}, zf2 (relC g0 V cA) cs es0 → ceq cs hp = true → zf2 (relK g' V cA) hp es → kep hp es0 es → zf2 (fun (x : Bool × AC) (y : va_E) => relC g' V cA x.2 y) hp es
  | [], [], [], [], _, _, _, _ => trivial
  | [], [], _ :: _, _, h, _, _, _ => h.elim
  | [], [], [], _ :: _, _, _, h, _ => h.elim
  | [], _ :: _, _, _, _, h, _, _ => by simp [ceq] at h
  | _ :: _, [], _, _, _, h, _, _ => by simp [ceq] at h
  | _ :: _, _ :: _, [], _, h, _, _, _ => h.elim
  | _ :: _, _ :: _, _ :: _, [], _, _, h, _ => h.elim
  | c :: cs, (f, q) :: hp, e0 :: es0, e :: es, h1, h2, h3, h4 => by
    simp only [ceq, Bool.and_eq_true] at h2
    have ih := ceq_ok hx h1.2 h2.2 h3.2 (fun j z hj hf => by simpa using h4 (j + 1) z (by simpa using hj) hf)
    refine ⟨?_, ih⟩
    cases f with
    | true => exact h3.1 rfl
    | false =>
      have h5 : e = e0 := Option.some.inj (show some e = some e0 from h4 0 (false, q) rfl rfl)
      have h6 : eqC c q = true := by simpa using h2.1
      have h7 := eqC_ok h6
      show relC g' V cA q e
      rw [h5, ← h7]
      exact relC_ext hx h1.1
noncomputable def cuG2 (cells : List AC) (CU : List CUT2) : Bool := CU.all (fun k => ceq cells k.1.2.2.2.2 && k.2.2.1.all (fun t => decide (t.1 < k.1.2.2.2.1.length)))
theorem linA_t {a : AV} {w : LC} (h : linA a = some w) : a.1 = 0 ∨ a.1 = 1 ∨ a.1 = 3 ∨ a.1 = 4 := by
  unfold linA at h
  split at h
  · rename_i e; exact Or.inl e
  · rename_i e; exact Or.inr (Or.inr (Or.inl e))
  · rename_i e; exact Or.inr (Or.inl e)
  · rename_i e; exact Or.inr (Or.inr (Or.inr e))
  · cases h
theorem linA_ev {g : List Int} {V : EV} {a : AV} {v : Value} {w : LC} (h : gam g V a v) (hw : linA a = some w) : ∃ z, numV v = some z ∧ evT g w.1 + w.2 = z ∧ evA g a = z := by
  obtain ⟨z, hz⟩ := gam_isn h (linA_t hw)
  exact ⟨z, hz, (linA_ok h hw hz).2, evA_gam h (linA_t hw) hz⟩
/-- ranks: what the check says -/
theorem ctW_ok {g0 g g' gk : List Int} {V : EV} {d : Nat} {x : ASR} {k : CUT2} {src : Option CUT2} {xs : List AV} {vs : List Value} (hG : GS x.1.2.2.2.1 g) (hr : RLok x.2 g) (hx0 : gxt g0 g) (hx1 : gxt g0 g') (hpx : pX x.1 k.1 = some xs) (hz : zf2 (gam g V) xs vs) (hSP : SP g0.length g' 0 (pB k.1) vs) (hkg : gxt gk g) (hsrc : ∀ s, src = some s → ∀ t ∈ s.2.2.1, t.1 < gk.length) (h : ctW d g0.length x src k = true) :
    0 ≤ rkv2 g' k ∧ ∀ s, src = some s → rkv2 g' k < rkv2 gk s := by
  unfold ctW at h
  rw [hpx] at h
  dsimp only at h
  split at h
  · cases h
  · rename_i w hw
    simp only [Bool.and_eq_true] at h
    obtain ⟨h1, h2⟩ := h
    have e1 := ent_ok hG hr h1
    have e2 := (trN_ok hx0 hx1 rfl hz hSP hw).2
    have e3 : evC g (w.1, w.2 + k.2.2.2) = rkv2 g' k := by
      unfold rkv2 evC at *
      simp only
      omega
    rw [e3] at e1
    refine ⟨e1, fun s hs => ?_⟩
    subst hs
    dsimp only at h2
    have e4 := ent_ok hG hr h2
    rw [sbC_ev, sbC_ev, e3] at e4
    have e5 : evC g (([], 1) : LC) = 1 := by simp [evC, evT]
    rw [e5] at e4
    have e6 : evC g s.2.2 = rkv2 gk s := by
      unfold rkv2 evC
      rw [evT_ext hkg (hsrc s rfl)]
    rw [e6] at e4
    omega
section RUNR
variable {p : Program} {l : Launch} {e : Env} {R : Room} {s : State} {m : MethodId} {args : Array Value} {below : List Frame} {meth : Method} {c : Code} {cc : ByteArray} {own : String} {Ts : List Jvm.Cond} {D : va_G} {cl : List vw_C} {cA : Nat → ClassId} {es0 : List va_E} {g0 : List Int}
theorem pure_ok {nL : Nat} {A : Nat → Prop} {H0 : Heap} {V : EV} {cs0 ss0 : Nat} {Q : State → Prop} {x : ASR} {L : List AS} (hL : ∀ b ∈ L.map (fun b => ((b, x.2) : ASR)), WR (WW p l e R s m args below meth c cs0 ss0 Q) m nL D cl A H0 V cA es0 g0 b) (hst : ∀ gs, (∀ b ∈ L, WA (WW p l e R s m args below meth c cs0 ss0 Q) m nL D cl A H0 V cA es0 gs b) → WA (WW p l e R s m args below meth c cs0 ss0 Q) m nL D cl A H0 V cA es0 gs x.1) : WR (WW p l e R s m args below meth c cs0 ss0 Q) m nL D cl A H0 V cA es0 g0 x := fun gs hgs hr => hst gs (fun b hb => hL (b, x.2) (List.mem_map.mpr ⟨b, hb, rfl⟩) gs hgs hr)
theorem bnd_mem {f : ASR → Option (List ASR)} : ∀ {X L : List ASR}, bnd f X = some L → ∀ x ∈ X, ∃ L', f x = some L' ∧ ∀ b ∈ L', b ∈ L
  | [], _, _, x, hx => by cases hx
  | y :: ys, L, h, x, hx => by
    unfold bnd at h
    split at h
    · rename_i a b h1 h2
      cases h
      rcases List.mem_cons.mp hx with rfl | hx
      · exact ⟨a, h1, fun q hq => List.mem_append_left _ hq⟩
      · obtain ⟨L', e1, e2⟩ := bnd_mem h2 x hx
        exact ⟨L', e1, fun q hq => List.mem_append_right _ (e2 q hq)⟩
    · cases h
theorem prA_ok {nL : Nat} {A : Nat → Prop} {H0 : Heap} {V : EV} {cs0 ss0 : Nat} {Q : State → Prop} {d : Nat} : ∀ {os : List POP} {x : ASR} {L : List ASR}, prA d os x = some L → (∀ b ∈ L, WR (WW p l e R s m args below meth c cs0 ss0 Q) m nL D cl A H0 V cA es0 g0 b) → WR (WW p l e R s m args below meth c cs0 ss0 Q) m nL D cl A H0 V cA es0 g0 x
  | [], x, L, h, hL => by
    cases h
    exact hL x (List.mem_singleton.mpr rfl)
  | o :: os, x, L, h, hL => by
    unfold prA at h
    split at h
    · cases h
    · rename_i X hX
      refine prS_ok hX (fun b hb => ?_)
      obtain ⟨L', e1, e2⟩ := bnd_mem h b hb
      exact prA_ok e1 (fun q hq => hL q (e2 q hq))
end RUNR
