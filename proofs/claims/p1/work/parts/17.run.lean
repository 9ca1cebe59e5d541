/-! ===== a whole method ===== -/
/-- System.arraycopy of a whole row of ints -/
def acp (R : Nat × Nat) (a : AS) : Option (List AS) := match a.2.2.1 with
  | n :: dp :: y :: sp :: x :: st => if x.1 = 6 ∧ y.1 = 6 ∧ 1 ≤ R.1 ∧ (st.map catA).sum + (nativeFrameWords "java/lang/System" "arraycopy" 5 + 11) ≤ R.2 ∧ st.all (fun q => decide (q.1 ≠ 8)) = true then (match a.2.2.2.2[x.2.1.toNat]?, a.2.2.2.2[y.2.1.toNat]?, ivI a.2.2.2.1 n, ivI a.2.2.2.1 dp, ivI a.2.2.2.1 sp with
    | some (_, .inr (1, s1)), some (_, .inr (1, s2)), some qn, some qd, some qs => if qn.1 = (tot s1 : Int) ∧ qn.2 = (tot s1 : Int) ∧ tot s1 = tot s2 ∧ qd.1 = 0 ∧ qd.2 = 0 ∧ qs.1 = 0 ∧ qs.2 = 0 then some [(a.1 + 3, a.2.1, st, a.2.2.2.1, a.2.2.2.2.set y.2.1.toNat (true, .inr (1, s1)))] else none
    | _, _, _, _, _ => none) else none
  | _ => none
abbrev CTB : Type := List (Nat × Nat × Bool × Con × List Nat)
/-- the first contract for this place that fits -/
def trc (b : Bool) (i : Nat) (R : Nat × Nat) (a : AS) : CTB → Option (List AS)
  | [] => none
  | q :: r => if q.1 = a.1 ∧ q.2.1 = i ∧ q.2.2.1 = b then (match cll R a q.2.2.2.1 q.2.2.2.2 with
    | some L => some L
    | none => trc b i R a r) else trc b i R a r
theorem trc_mem {b : Bool} {i : Nat} {R : Nat × Nat} {a : AS} : ∀ {CT : CTB} {L : List AS}, trc b i R a CT = some L → ∃ q ∈ CT, q.2.1 = i ∧ q.2.2.1 = b ∧ cll R a q.2.2.2.1 q.2.2.2.2 = some L
  | [], _, h => by cases h
  | q :: r, L, h => by
    unfold trc at h
    split at h
    · rename_i hc
      split at h
      · rename_i L' hL
        cases h
        exact ⟨q, List.mem_cons_self, hc.2.1, hc.2.2, hL⟩
      · obtain ⟨q', h1, h2⟩ := trc_mem h
        exact ⟨q', List.mem_cons_of_mem _ h1, h2⟩
    · obtain ⟨q', h1, h2⟩ := trc_mem h
      exact ⟨q', List.mem_cons_of_mem _ h1, h2⟩
def stpC (BT : List (Nat × Nat)) (CT : CTB) (R : Nat × Nat) (ins : ClassFile.Instr) (len : Nat) (a : AS) : Option (List AS) := match ins with
  | .invokevirtual i => if len = 3 then trc false i R a CT else none
  | .invokestatic i => if len = 3 then (match look BT i with
    | some 1 => acp R a
    | _ => trc true i R a CT) else none
  | _ => none
def stp (T : TB) (BT : List (Nat × Nat)) (CT : CTB) (R : Nat × Nat) (ins : ClassFile.Instr) (len : Nat) (a : AS) : Option (List AS) := match stpA T ins len a with
  | some L => some L
  | none => match stpH T ins len a with
    | some L => some L
    | none => stpC BT CT R ins len a
def subG : GI → GI → Bool
  | _, [] => true
  | p :: ps, q :: qs => decide (q.1 ≤ p.1 ∧ p.2 ≤ q.2) && subG ps qs
  | [], _ :: _ => false
def subH (n : Nat) (G : GI) : HP → HP → Bool
  | [], [] => true
  | x :: xs, y :: ys => (if y.1 = true then subC n G x.2 y.2 else decide (x.1 = false)) && subH n G xs ys
  | _, _ => false
def subO (n : Nat) (a : AS) (v : AV) (o : AV × GI × HP) : Bool := (if v.1 = 9 then decide (o.1.1 = 9) else decide (o.1.1 ≠ 9) && subV n a.2.2.2.1 v o.1) && (decide (o.2.1.length = n) && (subG a.2.2.2.1 o.2.1 && subH n a.2.2.2.1 a.2.2.2.2 o.2.2))
def fin (ret : Option FieldType) (n : Nat) (outs : List (AV × GI × HP)) (ins : ClassFile.Instr) (len : Nat) (a : AS) : Bool := match ins with
  | .ireturn => match a.2.2.1 with
    | [v] => decide (len = 1 ∧ v.1 ≤ 2) && ((decide (ret = some .int) || (decide (ret = some .boolean) && (match ivI a.2.2.2.1 v with
      | some q => decide (0 ≤ q.1 ∧ q.2 ≤ 1)
      | none => false))) && outs.any (subO n a v))
    | _ => false
  | .lreturn => match a.2.2.1 with
    | [v] => decide (len = 1 ∧ 3 ≤ v.1 ∧ v.1 ≤ 5 ∧ ret = some .long) && outs.any (subO n a v)
    | _ => false
  | .return_ => match a.2.2.1 with
    | [] => decide (len = 1 ∧ ret = none) && outs.any (subO n a (9, 0, 0))
    | _ => false
  | _ => false
def run (T : TB) (BT : List (Nat × Nat)) (CT : CTB) (R : Nat × Nat) (ret : Option FieldType) (n : Nat) (outs : List (AV × GI × HP)) : Nat → AS → Bool
  | 0, _ => false
  | f + 1, a => match look T.1 a.1 with
    | none => false
    | some q => fin ret n outs q.1 q.2 a || (match stp T BT CT R q.1 q.2 a with
      | some L => L.all (run T BT CT R ret n outs f)
      | none => false)
def BOK (own : String) (Ts : List Jvm.Cond) (BT : List (Nat × Nat)) : Prop := ∀ q ∈ BT, q.2 = 1 → Jvm.Cond.methodLink own q.1 arraycopyName ∈ Ts ∧ Jvm.Cond.native arraycopyName ∈ Ts ∧ Jvm.Cond.static arraycopyName ∈ Ts ∧ Jvm.Cond.initialized "java/lang/System" ∈ Ts
def CTOK (l : Launch) (own : String) (cl : List vw_C) (Ts : List Jvm.Cond) (CT : CTB) : Prop := ∀ q ∈ CT, Vld l cl Ts q.2.2.2.1 ∧ COK own cl Ts q.2.1 q.2.2.1 q.2.2.2.1
section RUN
variable {p : Program} {l : Launch} {e : Env} {R : Room} {s : State} {m : MethodId} {args : Array Value} {below : List Frame} {meth : Method} {c : Code} {cs0 ss0 : Nat} {Q : State → Prop} {cc : ByteArray} {own : String} {Ts : List Jvm.Cond} {D : va_G} {cl : List vw_C} {A : Nat → Prop} {V : EV} {cA : Nat → ClassId} {es0 : List va_E} {g0 : List Int}
theorem ae_int0 {q : Int × Int} {x : Int32} {z : Int} (h : inI q x.toInt) (h1 : q.1 = z) (h2 : q.2 = z) : x.toInt = z := by unfold inI at h; omega
theorem acp_ok (hx : p.tables.exec = Jvm.exec) (hb : c.code = cc) {nL : Nat} (hml : c.maxLocals = nL) (hown : s.vm.findClass own = some m.cls) (hts : ∀ w ∈ Ts, w.before args s = true) (hK : va_K D cl (tysA cA) s) {i : Nat} (hB : Jvm.Cond.methodLink own i arraycopyName ∈ Ts ∧ Jvm.Cond.native arraycopyName ∈ Ts ∧ Jvm.Cond.static arraycopyName ∈ Ts ∧ Jvm.Cond.initialized "java/lang/System" ∈ Ts) {a : AS} {L : List AS}
    (hd : decode cc a.1 = .ok (.invokestatic i, 3)) (h : acp (R.frames, R.locals) a = some L) (hL : ∀ x ∈ L, WA (WW p l e R s m args below meth c cs0 ss0 Q) m nL D cl A s.heap V cA es0 g0 x) : WA (WW p l e R s m args below meth c cs0 ss0 Q) m nL D cl A s.heap V cA es0 g0 a := by
  intro g lv sv es ls H locs h0 hG hlv hl hs hH
  unfold acp at h
  split at h
  · rename_i n dp y sp x st hst
    split at h
    · rename_i hc0
      obtain ⟨ht1, ht2, hf1, hf2, hall⟩ := hc0
      split at h
      · rename_i f1 s1 f2 s2 qn qd qs hc1 hc2 hqn hqd hqs
        split at h
        · rename_i hc
          cases h
          rw [hst] at hs
          obtain ⟨w1, sv1, rfl, g1, hs1⟩ := zf2_cons hs
          obtain ⟨w2, sv2, rfl, g2, hs2⟩ := zf2_cons hs1
          obtain ⟨w3, sv3, rfl, g3, hs3⟩ := zf2_cons hs2
          obtain ⟨w4, sv4, rfl, g4, hs4⟩ := zf2_cons hs3
          obtain ⟨w5, sv5, rfl, g5, hs5⟩ := zf2_cons hs4
          obtain ⟨xn, rfl, en⟩ := ivI_ok hG g1 hqn
          obtain ⟨xd, rfl, ed⟩ := ivI_ok hG g2 hqd
          obtain ⟨xs, rfl, exs⟩ := ivI_ok hG g4 hqs
          have en' := ae_int0 en hc.1 hc.2.1
          have ed' := ae_int0 ed hc.2.2.2.1 hc.2.2.2.2.1
          have es' := ae_int0 exs hc.2.2.2.2.2.1 hc.2.2.2.2.2.2
          obtain ⟨a1, n1, rfl, b1, b2, b3, b4⟩ := HS_get hH g5 ht1 hc1
          obtain ⟨a2, n2, rfl, d1, d2, d3, d4⟩ := HS_get hH g3 ht2 hc2
          obtain ⟨ff, rfl, k1, k2⟩ := relC_arI b3 (Or.inr (Or.inl rfl))
          obtain ⟨fg, rfl, k3, k4⟩ := relC_arI d3 (Or.inr (Or.inl rfl))
          have zn : xn.toNatClampNeg = tot s1 := by rw [ae_cl, en']; omega
          have zd : xd.toNatClampNeg = 0 := by rw [ae_cl, ed']; rfl
          have zs : xs.toNatClampNeg = 0 := by rw [ae_cl, es']; rfl
          refine va_copyi hx hb (hml.trans hlv.1.symm) hown (hts _ hB.1) (hts _ hB.2.1) (hts _ hB.2.2.1) (hts _ hB.2.2.2) hK hH.2.2.1 hH.2.2.2.1 hH.2.2.2.2.1 _ _ 1 1 b4 d4 rfl rfl rfl (by rw [ae_lt0, es']; omega) (by rw [ae_lt0, ed']; omega) (by rw [ae_lt0, en']; omega) (by rw [zn, zs]; omega) (by rw [zn, zd]; omega) (fun _ _ => rfl) hf1 (by rw [cat_sum hs5 hall]; exact hf2) hd (fun H1 locs1 p1 e1 s1' => ?_)
          refine hL _ (List.mem_singleton.mpr rfl) g lv _ _ ls H1 locs1 h0 hG hlv hl hs5 (HS_put hH d1 ?_ p1 e1 s1')
          refine ⟨Or.inr (Or.inl rfl), rfl, hc.2.2.1.symm, by rw [← hc.2.2.1]; exact k1, fun j bb hbb => ?_⟩
          have hj : j < tot s1 := lk_lt hbb
          rw [zs, zd, zn, pk_cpy_in (sp := 0) (dp := 0) (n := tot s1) (Nat.zero_le j) (by omega)]
          simpa using k2 j bb hbb
        · cases h
      · cases h
    · cases h
  · cases h
theorem stpC_ok (hx : p.tables.exec = Jvm.exec) (hb : c.code = cc) {nL : Nat} (hml : c.maxLocals = nL) (hown : s.vm.findClass own = some m.cls) (hts : ∀ w ∈ Ts, w.before args s = true) (hK : va_K D cl (tysA cA) s) (hN : NOK s) (hA : ∀ q, s.heap.size ≤ q → A q) (hcs : cs0 ≤ R.cells) (hss : ss0 ≤ R.slots) (hgood : ∀ w ∈ Ts, GoodIn Ts (w :: Ts)) {BT : List (Nat × Nat)} (hBT : BOK own Ts BT) {CT : CTB} (hCT : CTOK l own cl Ts CT) {a : AS} {ins : ClassFile.Instr} {len : Nat} {L : List AS}
    (hd : decode cc a.1 = .ok (ins, len)) (h : stpC BT CT (R.frames, R.locals) ins len a = some L) (hL : ∀ x ∈ L, WA (WW p l e R s m args below meth c cs0 ss0 Q) m nL D cl A s.heap V cA es0 g0 x) : WA (WW p l e R s m args below meth c cs0 ss0 Q) m nL D cl A s.heap V cA es0 g0 a := by
  unfold stpC at h
  split at h
  · split at h
    · rename_i i hc
      subst hc
      obtain ⟨q, q1, q2, q3, q4⟩ := trc_mem h
      obtain ⟨v1, v2⟩ := hCT _ q1
      rw [q2, q3] at v2
      exact cll_ok hx hb hml hown hts hK hN hA hcs hss hgood v1 v2 hd q4 hL
    · cases h
  · split at h
    · rename_i i hc
      subst hc
      split at h
      · rename_i hlk2
        exact acp_ok hx hb hml hown hts hK (hBT _ (look_mem hlk2) rfl) hd h hL
      · obtain ⟨q, q1, q2, q3, q4⟩ := trc_mem h
        obtain ⟨v1, v2⟩ := hCT _ q1
        rw [q2, q3] at v2
        exact cll_ok hx hb hml hown hts hK hN hA hcs hss hgood v1 v2 hd q4 hL
    · cases h
  · cases h
theorem subG_ok {g0 : List Int} : ∀ {G G' : GI} {g : List Int}, GS G g → gxt g0 g → G'.length = g0.length → subG G G' = true → GS G' g0 := by
  intro G G' g hG hx hl hs
  obtain ⟨ex, rfl⟩ := hx
  induction g0 generalizing G G' with
  | nil => cases G' with
    | nil => trivial
    | cons _ _ => simp at hl
  | cons z zs ih => cases G' with
    | nil => simp at hl
    | cons q qs => cases G with
      | nil => exact hG.elim
      | cons r rs =>
        simp only [subG, Bool.and_eq_true, decide_eq_true_eq] at hs
        have h1 := hG.1
        unfold inI at h1
        exact ⟨by unfold inI; omega, ih (G := rs) (G' := qs) (by simpa using hl) hs.2 hG.2⟩
theorem subH_ok {G : GI} {g g0 : List Int} {V : EV} {cA : Nat → ClassId} (hG : GS G g) (hx : gxt g0 g) : ∀ {xs ys : HP} {es : List va_E}, zf2 (fun (x : Bool × AC) (y : va_E) => relC g V cA x.2 y) xs es → subH g0.length G xs ys = true → zf2 (relK g0 V cA) ys es ∧ ∀ (j : Nat) (q : Bool × AC), ys[j]? = some q → q.1 = false → ∃ q', xs[j]? = some q' ∧ q'.1 = false
  | [], [], [], _, _ => ⟨trivial, fun j q hj => by simp at hj⟩
  | [], [], _ :: _, h, _ => h.elim
  | [], _ :: _, _, _, h => by simp [subH] at h
  | _ :: _, [], _, _, h => by simp [subH] at h
  | _ :: _, _ :: _, [], h, _ => h.elim
  | x :: xs, y :: ys, en :: es, h, hs => by
    simp only [subH, Bool.and_eq_true] at hs
    obtain ⟨h1, h2⟩ := hs
    have ih := subH_ok hG hx (xs := xs) (ys := ys) (es := es) h.2 h2
    refine ⟨⟨fun hy => ?_, ih.1⟩, fun j q hj hq => ?_⟩
    · rw [if_pos hy] at h1
      exact subC_ok hG hx h.1 h1
    · cases j with
      | zero =>
        simp at hj
        subst hj
        rw [if_neg (by rw [hq]; decide)] at h1
        exact ⟨x, rfl, of_decide_eq_true h1⟩
      | succ j => simpa using ih.2 j q (by simpa using hj) hq
theorem subO_ok {D : va_G} {cl : List vw_C} {H0 : Heap} {gv : List Value} {ad : List Nat} {outs : List (AV × GI × HP)} {a : AS} {v : AV} (h : outs.any (subO g0.length a v) = true) {g : List Int} {es : List va_E} {H : Heap} {locs : List Loc} {oc : Outcome} (hG : GS a.2.2.2.1 g) (hx : gxt g0 g) (hH : HS D cl A H0 (gv, ad) cA es0 a.2.2.2.2 g es H locs) (hoc : (v.1 = 9 ∧ oc = .returned none) ∨ (v.1 ≠ 9 ∧ ∃ w, oc = .returned (some w) ∧ gam g (gv, ad) v w)) {t : State} (ht : t.heap = H) : OutC D cl cA outs g0 gv ad es0 oc t := by
  obtain ⟨o, ho, h1⟩ := List.any_eq_true.mp h
  unfold subO at h1
  simp only [Bool.and_eq_true, decide_eq_true_eq] at h1
  obtain ⟨h1, h2, h3, h4⟩ := h1
  obtain ⟨k1, k2⟩ := subH_ok hG hx hH.1 h4
  refine ⟨o, ho, es, ?_, subG_ok hG hx h2 h3, k1, fun j q hj hq => ?_, by rw [ht]; exact hH.2.2.1, hH.2.2.2.2.2⟩
  · rcases hoc with ⟨e1, e2⟩ | ⟨e1, w, e2, e3⟩
    · rw [if_pos e1] at h1
      exact Or.inl ⟨of_decide_eq_true h1, e2⟩
    · rw [if_neg e1] at h1
      simp only [Bool.and_eq_true, decide_eq_true_eq] at h1
      exact Or.inr ⟨h1.1, w, e2, subV_ok hG hx e3 h1.2⟩
  · obtain ⟨q', e1, e2⟩ := k2 j q hj hq
    exact hH.2.1 j q' e1 e2
theorem fin_ok (hx : p.tables.exec = Jvm.exec) (hb : c.code = cc) {nL : Nat} {ret : Option FieldType} (hr : meth.sig.returnType = ret) (hlocks : meth.locks = false) {gv : List Value} {ad : List Nat} {outs : List (AV × GI × HP)} {a : AS} {ins : ClassFile.Instr} {len : Nat} (hd : decode cc a.1 = .ok (ins, len)) (h : fin ret g0.length outs ins len a = true) :
    WA (WW p l e R s m args below meth c 0 0 (MQ below (QcC D cl cA outs g0 gv ad es0 s.heap.size) args s 0 0 (va_A (zw ad es0) s.heap.size))) m nL D cl (va_A (zw ad es0) s.heap.size) s.heap (gv, ad) cA es0 g0 a := by
  intro g lv sv es ls H locs h0 hG hlv hl hs hH
  unfold fin at h
  split at h
  · split at h
    · rename_i v hst
      simp only [Bool.and_eq_true, decide_eq_true_eq] at h
      obtain ⟨⟨rfl, h1⟩, h2, h3⟩ := h
      rw [hst] at hs
      obtain ⟨w, sv1, rfl, g1, hs1⟩ := zf2_cons hs
      cases sv1 with
      | cons _ _ => exact hs1.elim
      | nil =>
        obtain ⟨x, rfl⟩ := gam_int g1 h1
        have hout : ∀ t : State, t.heap = H → s.WarmedH t.vm → QcC D cl cA outs g0 gv ad es0 s.heap.size args s (.returned (some (.int x))) t := fun t ht _ => ⟨subO_ok h3 hG h0 hH (Or.inr ⟨by omega, _, rfl, g1⟩) ht, hH.2.2.2.2.1.F ht⟩
        simp only [Bool.or_eq_true, Bool.and_eq_true, decide_eq_true_eq] at h2
        rcases h2 with rfl | ⟨rfl, h2⟩
        · exact W.iret hx hb hr hout hH.2.2.2.2.1.2.2 hd hlocks
        · split at h2
          · rename_i q hq
            have h2 := of_decide_eq_true h2
            obtain ⟨y, e1, e2⟩ := ivI_ok hG g1 hq
            cases e1
            unfold inI at e2
            rcases ae_b01 (x := x) (by omega) (by omega) with rfl | rfl
            · exact W.zret hx hb hr rfl hout hH.2.2.2.2.1.2.2 hd hlocks
            · exact W.zret hx hb hr rfl hout hH.2.2.2.2.1.2.2 hd hlocks
          · cases h2
    · cases h
  · split at h
    · rename_i v hst
      simp only [Bool.and_eq_true, decide_eq_true_eq] at h
      obtain ⟨⟨rfl, h1, h1', rfl⟩, h3⟩ := h
      rw [hst] at hs
      obtain ⟨w, sv1, rfl, g1, hs1⟩ := zf2_cons hs
      cases sv1 with
      | cons _ _ => exact hs1.elim
      | nil =>
        obtain ⟨x, rfl⟩ := gam_long g1 ⟨h1, h1'⟩
        have hout : ∀ t : State, t.heap = H → s.WarmedH t.vm → QcC D cl cA outs g0 gv ad es0 s.heap.size args s (.returned (some (.long x))) t := fun t ht _ => ⟨subO_ok h3 hG h0 hH (Or.inr ⟨by omega, _, rfl, g1⟩) ht, hH.2.2.2.2.1.F ht⟩
        exact W.lret hx hb hr hout hH.2.2.2.2.1.2.2 hd hlocks
    · cases h
  · split at h
    · rename_i hst
      simp only [Bool.and_eq_true, decide_eq_true_eq] at h
      obtain ⟨⟨rfl, rfl⟩, h3⟩ := h
      rw [hst] at hs
      cases sv with
      | cons _ _ => exact hs.elim
      | nil =>
        have hout : ∀ t : State, t.heap = H → s.WarmedH t.vm → QcC D cl cA outs g0 gv ad es0 s.heap.size args s (.returned none) t := fun t ht _ => ⟨subO_ok h3 hG h0 hH (Or.inl ⟨rfl, rfl⟩) ht, hH.2.2.2.2.1.F ht⟩
        exact W.vret hx hb hr hout hH.2.2.2.2.1.2.2 hd hlocks
    · cases h
  · cases h
end RUN
