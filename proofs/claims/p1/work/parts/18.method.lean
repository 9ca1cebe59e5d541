/-! ===== from a run to a contract ===== -/
def lva : Nat → List AV → List (Nat × AV)
  | _, [] => []
  | i, a :: r => (i, a) :: lva (if catA a = 2 then i + 2 else i + 1) r
theorem lva_ok {g : List Int} {V : EV} : ∀ {as : List AV} {vs : List Value} {i : Nat}, zf2 (gam g V) as vs → as.all (fun q => decide (q.1 ≠ 8)) = true → zf2 (locR g V) (lva i as) (lv_args i vs)
  | [], [], _, _, _ => trivial
  | [], _ :: _, _, h, _ => h.elim
  | _ :: _, [], _, h, _ => h.elim
  | a :: as, v :: vs, i, h, ha => by
    simp only [List.all_cons, Bool.and_eq_true, decide_eq_true_eq] at ha
    simp only [lva, lv_args]
    rw [← gam_cat h.1 ha.1]
    exact ⟨⟨rfl, h.1, ha.1⟩, lva_ok h.2 ha.2⟩
theorem sl_len {g : List Int} {V : EV} : ∀ {as : List AV} {vs : List Value}, zf2 (gam g V) as vs → as.all (fun q => decide (q.1 ≠ 8)) = true → (lg_sl vs).length = (as.map catA).sum
  | [], [], _, _ => rfl
  | [], _ :: _, h, _ => h.elim
  | _ :: _, [], h, _ => h.elim
  | a :: as, v :: vs, h, ha => by
    simp only [List.all_cons, Bool.and_eq_true, decide_eq_true_eq] at ha
    have ih := sl_len h.2 ha.2
    have hc := gam_cat h.1 ha.1
    unfold lg_sl at ih ⊢
    simp only [List.flatMap_cons, List.length_append, List.map_cons, List.sum_cons, ih]
    rcases lv_cat v with h1 | h1
    · rw [if_neg (by omega)]
      simp only [List.length_cons, List.length_nil]; omega
    · rw [if_pos h1]
      simp only [List.length_cons, List.length_nil]; omega
section MTH
variable {p : Program} {l : Launch} {e : Env} {R : Room} {s : State} {m : MethodId} {args : Array Value} {below : List Frame} {meth : Method} {c : Code} {cc : ByteArray} {own : String} {Ts : List Jvm.Cond} {D : va_G} {cl : List vw_C} {cA : Nat → ClassId} {es0 : List va_E} {g0 : List Int}
theorem run_ok (hx : p.tables.exec = Jvm.exec) (hb : c.code = cc) {T : TB} (hml : c.maxLocals = T.2.1) (hown : s.vm.findClass own = some m.cls) (hts : ∀ w ∈ Ts, w.before args s = true) (hK : va_K D cl (tysA cA) s) (hN : NOK s) (hgood : ∀ w ∈ Ts, GoodIn Ts (w :: Ts)) (hT : TOK own cl Ts cc T) {BT : List (Nat × Nat)} (hBT : BOK own Ts BT) {CT : CTB} (hCT : CTOK l own cl Ts CT) {ret : Option FieldType} (hr : meth.sig.returnType = ret) (hlocks : meth.locks = false) {gv : List Value} {ad : List Nat} {outs : List (AV × GI × HP)} : ∀ (f : Nat) (a : AS), run T BT CT (R.frames, R.locals) ret g0.length outs f a = true →
    WA (WW p l e R s m args below meth c 0 0 (MQ below (QcC D cl cA outs g0 gv ad es0 s.heap.size) args s 0 0 (va_A (zw ad es0) s.heap.size))) m T.2.1 D cl (va_A (zw ad es0) s.heap.size) s.heap (gv, ad) cA es0 g0 a := by
  intro f
  induction f with
  | zero => intro a h; simp [run] at h
  | succ f ih =>
    intro a h
    unfold run at h
    split at h
    · cases h
    · rename_i q hq
      have hd : decode cc a.1 = .ok (q.1, q.2) := hT.1 (a.1, q) (look_mem hq)
      simp only [Bool.or_eq_true] at h
      rcases h with h | h
      · exact fin_ok hx hb hr hlocks hd h
      · split at h
        · rename_i L hL
          have hall : ∀ b ∈ L, WA (WW p l e R s m args below meth c 0 0 (MQ below (QcC D cl cA outs g0 gv ad es0 s.heap.size) args s 0 0 (va_A (zw ad es0) s.heap.size))) m T.2.1 D cl (va_A (zw ad es0) s.heap.size) s.heap (gv, ad) cA es0 g0 b := fun b hb' => ih b (List.all_eq_true.mp h b hb')
          unfold stp at hL
          split at hL
          · rename_i L' h1
            cases hL
            exact stpA_ok hx hb hown hts hT hd h1 hall
          · split at hL
            · rename_i L' h1
              cases hL
              exact stpH_ok hx hb hown hts hK hT hd h1 hall
            · exact stpC_ok hx hb hml hown hts hK hN (fun q hq => Or.inr hq) (Nat.zero_le _) (Nat.zero_le _) hgood hBT hCT hd hL hall
        · cases h
end MTH
/-- the interpreter over a contract -/
def chk (T : TB) (BT : List (Nat × Nat)) (CT : CTB) (f : Nat) (k : Con) : Bool := k.2.2.1.1.all (fun q => decide (q.1 ≠ 8)) && (decide ((k.2.2.1.1.map catA).sum ≤ k.1.2.2.1) && (decide (T.2.1 = k.1.2.2.1) && run T BT CT k.2.1 k.1.2.2.2 k.2.2.1.2.1.length k.2.2.2 f (0, lva 0 k.2.2.1.1, [], k.2.2.1.2.1, k.2.2.1.2.2.map (fun c => (false, c)))))
theorem zf2_mapL {g : List Int} {V : EV} {cA : Nat → ClassId} : ∀ {cs : List AC} {es : List va_E}, zf2 (relC g V cA) cs es → zf2 (fun (x : Bool × AC) (y : va_E) => relC g V cA x.2 y) (cs.map (fun c => (false, c))) es
  | [], [], _ => trivial
  | [], _ :: _, h => h.elim
  | _ :: _, [], h => h.elim
  | _ :: cs, _ :: es, h => ⟨h.1, zf2_mapL (cs := cs) (es := es) h.2⟩
theorem con_ok {l : Launch} {cl : List vw_C} {Ts : List Jvm.Cond} (hgood : ∀ w ∈ Ts, GoodIn Ts (w :: Ts)) {k : Con} {T : TB} {BT : List (Nat × Nat)} {CT : CTB} {f : Nat} (hy : plainName k.1.1.cls = true) (hT : TOK k.1.1.cls cl Ts k.1.2.1 T) (hBT : BOK k.1.1.cls Ts BT) (hCT : CTOK l k.1.1.cls cl Ts CT) (h : chk T BT CT f k = true) : Vld l cl Ts k := by
  unfold chk at h
  simp only [Bool.and_eq_true, decide_eq_true_eq] at h
  obtain ⟨h1, h2, h3, h4⟩ := h
  intro D cA g gv ad es vs sz hG hvs hes hlen
  refine Met.ofW (cc := k.1.2.1) (maxL := k.1.2.2.1) (ret := k.1.2.2.2) hy rfl ?_
  intro p e s m args below meth c s₁ B hml hv
  obtain ⟨rfl, hsz, hP, hK, hD, hN⟩ := hv
  subst hsz
  have hts0 := atoms_spec (ws := .code k.1.1 k.1.2.1 k.1.2.2.1 k.1.2.2.2 :: Ts) B.pre
  have hts : ∀ w ∈ Ts, w.before vs.toArray s = true := fun w hw => hts0 w (List.mem_cons_of_mem _ hw)
  have hown : s.vm.findClass k.1.1.cls = some m.cls := findClass_of_methodNamed B.named
  have hlg : GS k.2.2.1.2.1 g := hG
  have hgl : g.length = k.2.2.1.2.1.length := (zf2_len hG).symm
  have hl := lv_entry vs (n := k.1.2.2.1) (by rw [sl_len hvs h1]; exact h2)
  rw [lg_entry_eq]
  generalize (lg_sl vs ++ List.replicate (k.1.2.2.1 - (lg_sl vs).length) Slot.unset).toArray = ls at hl ⊢
  rw [← hgl] at h4
  have hW := run_ok (l := l) (e := e) (R := rmC k) (below := below) (D := D) (cA := cA) (es0 := es) (g0 := g) (gv := gv) (ad := ad) B.exec B.bytes (hml.trans h3.symm) hown hts hK hN hgood hT hBT hCT B.returns B.notSynchronized f _ h4
  exact hW g (lv_args 0 vs) [] es ls s.heap [] gxt_rf hG (by rw [h3]; exact hl) (lva_ok hvs h1) trivial ⟨zf2_mapL hes, fun _ _ _ _ => rfl, hP, hD.self (sz := s.heap.size), va_S.rf, hlen⟩
