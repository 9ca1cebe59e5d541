/-! ===== from a run to a contract ===== -/
theorem cuG2_ok {cells : List AC} {CU : List CUT2} (h : cuG2 cells CU = true) {k : CUT2} (hk : k ∈ CU) : ceq cells k.1.2.2.2.2 = true ∧ ∀ t ∈ k.2.2.1, t.1 < k.1.2.2.2.1.length := by
  have h := List.all_eq_true.mp h k hk
  simp only [Bool.and_eq_true] at h
  exact ⟨h.1, fun t ht => of_decide_eq_true (List.all_eq_true.mp h.2 t ht)⟩
section CONR
variable {p : Program} {l : Launch} {e : Env} {R : Room} {s : State} {m : MethodId} {args : Array Value} {below : List Frame} {meth : Method} {c : Code} {cc : ByteArray} {own : String} {Ts : List Jvm.Cond} {D : va_G} {cl : List vw_C} {cA : Nat → ClassId} {es0 : List va_E} {g0 : List Int} {gv : List Value} {ad : List Nat} {outs : List Out2}
theorem runR_ok (hx : p.tables.exec = Jvm.exec) (hb : c.code = cc) {T : TB} (hml : c.maxLocals = T.2.1) (hown : s.vm.findClass own = some m.cls) (hts : ∀ w ∈ Ts, w.before args s = true) (hK : va_K D cl (tysA cA) s) (hN : NOK s) {E : EvK} (hE : EOK E s s.heap) (hA0 : ∀ q, va_A (zw ad es0) s.heap.size q → E.2.2.2 q) {va0 : List Value} (hVK : gv = va0 ++ KRof E) (hgood : ∀ w ∈ Ts, GoodIn Ts (w :: Ts)) (hT : TOK own cl Ts cc T) {BT : List (Nat × Nat)} (hBT : BOK own Ts BT) (hXT : XOK own Ts BT) {FT : CTB2} (hFT : FTOK2 l own cl Ts es0 FT) {CT : CTB2} (hCT : CTOK2 l own cl Ts CT) {ret : Option FieldType} (hr : meth.sig.returnType = ret) (hlocks : meth.locks = false) {d : Nat} {RF : List (Nat × List POP)} {RW : List Nat} {CU : List CUT2} {cells : List AC} (hcells : zf2 (relC g0 (gv, ad) cA) cells es0) (hCU : cuG2 cells CU = true) {src : Option CUT2} {gk : List Int} (hgk : gxt g0 gk)
    (hsrc : ∀ k, src = some k → k ∈ CU ∧ GS k.1.2.2.2.1 gk)
    (hc : ∀ k ∈ CU, ∀ (g : List Int) (lv : List (Nat × Value)) (es : List va_E) (ls : Array Slot) (H : Heap) (locs : List Loc), gxt g0 g → GS k.1.2.2.2.1 g → RLok k.2.1 g → lv_has ls T.2.1 lv → zf2 (locR g (gv, ad)) k.1.2.1 lv → HS D cl (va_A (zw ad es0) s.heap.size) s.heap (gv, ad) cA es0 k.1.2.2.2.2 g es H locs → 0 ≤ rkv2 g k → (∀ s', src = some s' → rkv2 g k < rkv2 gk s') → WW p l e R s m args below meth c 0 0 (MQ below (QcC2 D cl cA outs g0 gv ad es0 s.heap.size) args s 0 0 (va_A (zw ad es0) s.heap.size)) H locs (F0 m k.1.1 ls [])) :
    ∀ (f : Nat) (first : Bool) (x : ASR), runR T d BT FT CT RF RW (R.frames, R.locals) ret g0.length outs CU src f first x = true →
    WR (WW p l e R s m args below meth c 0 0 (MQ below (QcC2 D cl cA outs g0 gv ad es0 s.heap.size) args s 0 0 (va_A (zw ad es0) s.heap.size))) m T.2.1 D cl (va_A (zw ad es0) s.heap.size) s.heap (gv, ad) cA es0 gk x := by
  intro f
  induction f with
  | zero => intro first x h; simp [runR] at h
  | succ f ih =>
    intro first x h
    unfold runR at h
    split at h
    · obtain ⟨k, hk, h1⟩ := List.any_eq_true.mp h
      simp only [Bool.and_eq_true] at h1
      intro gs hgs hrl g lv sv es ls H locs h0 hG hlv hl hs hH
      have hrg : RLok x.2 g := RLok_ext h0 hrl
      have hkg : gxt gk g := gxt_tr hgs h0
      obtain ⟨hq1, hq2⟩ := cuG2_ok hCU hk
      obtain ⟨e1, e2, g', lv', x1, x2, x3, x4, x5, x6, x7⟩ := cutW_ok hq1 hcells h1.1 (gxt_tr hgk hkg) hrg hG hlv hl hs hH
      obtain ⟨xs, vs, y1, y2, y3⟩ := x7
      have hrk := ctW_ok hG hrg (gxt_tr hgk hkg) x1 y1 y2 y3 hkg (fun s' hs' t ht => by
        obtain ⟨k1, k2⟩ := hsrc s' hs'
        rw [← zf2_len k2]
        exact (cuG2_ok hCU k1).2 t ht) h1.2
      rw [e1, e2]
      exact hc k hk g' lv' es ls H locs x1 x2 x3 x4 x5 x6 hrk.1 hrk.2
    · split at h
      · cases h
      · rename_i q hq
        have hd : decode cc x.1.1 = .ok (q.1, q.2) := hT.1 (x.1.1, q) (look_mem hq)
        split at h
        · cases h
        · rename_i X hX
          refine prA_ok hX (fun y hy => ?_)
          have h2 := List.all_eq_true.mp h y hy
          simp only [Bool.and_eq_true, Bool.or_eq_true, decide_eq_true_eq] at h2
          obtain ⟨h3, h4⟩ := h2
          rw [← h3] at hd
          rcases h4 with h4 | h4
          · intro gs hgs hrl
            exact finR_ok hx hb hr hlocks hd h4 gs (gxt_tr hgk hgs) hrl
          · split at h4
            · rename_i L hL
              exact stp3_ok hx hb hml hown hts hK hN hE hgood hT hBT hXT hFT hCT (fun q hq => Or.inr hq) hA0 hVK hd hL (fun b hb' => ih false b (List.all_eq_true.mp h4 b hb'))
            · cases h4
theorem cutsR_ok (hx : p.tables.exec = Jvm.exec) (hb : c.code = cc) {T : TB} (hml : c.maxLocals = T.2.1) (hown : s.vm.findClass own = some m.cls) (hts : ∀ w ∈ Ts, w.before args s = true) (hK : va_K D cl (tysA cA) s) (hN : NOK s) {E : EvK} (hE : EOK E s s.heap) (hA0 : ∀ q, va_A (zw ad es0) s.heap.size q → E.2.2.2 q) {va0 : List Value} (hVK : gv = va0 ++ KRof E) (hgood : ∀ w ∈ Ts, GoodIn Ts (w :: Ts)) (hT : TOK own cl Ts cc T) {BT : List (Nat × Nat)} (hBT : BOK own Ts BT) (hXT : XOK own Ts BT) {FT : CTB2} (hFT : FTOK2 l own cl Ts es0 FT) {CT : CTB2} (hCT : CTOK2 l own cl Ts CT) {ret : Option FieldType} (hr : meth.sig.returnType = ret) (hlocks : meth.locks = false) {d : Nat} {RF : List (Nat × List POP)} {RW : List Nat} {CU : List CUT2} {cells : List AC} (hcells : zf2 (relC g0 (gv, ad) cA) cells es0) (hCU : cuG2 cells CU = true) {f : Nat} (hruns : ∀ k ∈ CU, k.1.2.2.1 = [] ∧ runR T d BT FT CT RF RW (R.frames, R.locals) ret g0.length outs CU (some k) f true (k.1, k.2.1) = true) :
    ∀ (N : Nat) (k : CUT2), k ∈ CU → ∀ (g : List Int) (lv : List (Nat × Value)) (es : List va_E) (ls : Array Slot) (H : Heap) (locs : List Loc), gxt g0 g → GS k.1.2.2.2.1 g → RLok k.2.1 g → lv_has ls T.2.1 lv → zf2 (locR g (gv, ad)) k.1.2.1 lv → HS D cl (va_A (zw ad es0) s.heap.size) s.heap (gv, ad) cA es0 k.1.2.2.2.2 g es H locs → 0 ≤ rkv2 g k → rkv2 g k < (N : Int) → WW p l e R s m args below meth c 0 0 (MQ below (QcC2 D cl cA outs g0 gv ad es0 s.heap.size) args s 0 0 (va_A (zw ad es0) s.heap.size)) H locs (F0 m k.1.1 ls []) := by
  intro N
  induction N with
  | zero => intro k _ g lv es ls H locs _ _ _ _ _ _ h0 h1; omega
  | succ N ih =>
    intro k hk g lv es ls H locs h0 hG hRL hlv hl hH hr0 hrN
    obtain ⟨hst, hrun⟩ := hruns k hk
    have hW := runR_ok (src := some k) (gk := g) hx hb hml hown hts hK hN hE hA0 hVK hgood hT hBT hXT hFT hCT hr hlocks hcells hCU h0 (fun k' hk' => by cases hk'; exact ⟨hk, hG⟩) (fun k' hk' g1 lv1 es1 ls1 H1 locs1 a1 a2 a2' a3 a4 a5 a6 a7 => ih k' hk' g1 lv1 es1 ls1 H1 locs1 a1 a2 a2' a3 a4 a5 a6 (by have := a7 k rfl; omega)) f true (k.1, k.2.1) hrun
    exact hW g gxt_rf hRL g lv [] es ls H locs gxt_rf hG hlv hl (by show zf2 _ k.1.2.2.1 []; rw [hst]; trivial) hH
end CONR
/-- the interpreter over a contract -/
noncomputable def chkR (T : TB) (d : Nat) (BT : List (Nat × Nat)) (FT CT : CTB2) (RF : List (Nat × List POP)) (RW : List Nat) (CU : List CUT2) (f : Nat) (k : Con2) : Bool := k.2.2.1.1.all (fun q => decide (q.1 ≠ 8)) && (decide ((k.2.2.1.1.map catA).sum ≤ k.1.2.2.1) && (decide (T.2.1 = k.1.2.2.1) && (cuG2 k.2.2.1.2.2.1 CU && (runR T d BT FT CT RF RW k.2.1 k.1.2.2.2 k.2.2.1.2.1.length k.2.2.2 CU none f true ((0, lva 0 k.2.2.1.1, [], k.2.2.1.2.1, k.2.2.1.2.2.1.map (fun c => (false, c))), k.2.2.1.2.2.2) && CU.all (fun q => (match q.1.2.2.1 with
  | [] => true
  | _ => false) && runR T d BT FT CT RF RW k.2.1 k.1.2.2.2 k.2.2.1.2.1.length k.2.2.2 CU (some q) f true (q.1, q.2.1))))))
theorem conE_ok {l : Launch} {cl : List vw_C} {Ts : List Jvm.Cond} (hgood : ∀ w ∈ Ts, GoodIn Ts (w :: Ts)) {k : Con2} {T : TB} {d : Nat} {BT : List (Nat × Nat)} {FT CT : CTB2} {RF : List (Nat × List POP)} {RW : List Nat} {CU : List CUT2} {f : Nat} (hy : plainName k.1.1.cls = true) (hT : TOK k.1.1.cls cl Ts k.1.2.1 T) (hBT : BOK k.1.1.cls Ts BT) (hXT : XOK k.1.1.cls Ts BT) {es : List va_E} (hFT : FTOK2 l k.1.1.cls cl Ts es FT) (hCT : CTOK2 l k.1.1.cls cl Ts CT) (h : chkR T d BT FT CT RF RW CU f k = true) : VldE l cl Ts k es := by
  unfold chkR at h
  simp only [Bool.and_eq_true, decide_eq_true_eq] at h
  obtain ⟨h1, h2, h3, h4, h5, h6⟩ := h
  intro E D cA g gv ad vs sz hG hRL hvs hes hlen
  refine Met.ofW (cc := k.1.2.1) (maxL := k.1.2.2.1) (ret := k.1.2.2.2) hy rfl ?_
  intro p e s m args below meth c s₁ B hml hv
  obtain ⟨rfl, hsz, hP, hK, hD, hN, hE, hA0⟩ := hv
  subst hsz
  have hts0 := atoms_spec (ws := .code k.1.1 k.1.2.1 k.1.2.2.1 k.1.2.2.2 :: Ts) B.pre
  have hts : ∀ w ∈ Ts, w.before vs.toArray s = true := fun w hw => hts0 w (List.mem_cons_of_mem _ hw)
  have hown : s.vm.findClass k.1.1.cls = some m.cls := findClass_of_methodNamed B.named
  have hgl : g.length = k.2.2.1.2.1.length := (zf2_len hG).symm
  have hl := lv_entry vs (n := k.1.2.2.1) (by rw [sl_len hvs h1]; exact h2)
  rw [lg_entry_eq]
  generalize (lg_sl vs ++ List.replicate (k.1.2.2.1 - (lg_sl vs).length) Slot.unset).toArray = ls at hl ⊢
  rw [← hgl] at h5 h6
  have hruns : ∀ q ∈ CU, q.1.2.2.1 = [] ∧ runR T d BT FT CT RF RW ((rmC2 k).frames, (rmC2 k).locals) k.1.2.2.2 g.length k.2.2.2 CU (some q) f true (q.1, q.2.1) = true := fun q hq => by
    have := List.all_eq_true.mp h6 q hq
    simp only [Bool.and_eq_true] at this
    refine ⟨?_, this.2⟩
    have h7 := this.1
    split at h7
    · assumption
    · cases h7
  have hcuts := fun N => cutsR_ok (p := p) (l := l) (e := e) (R := rmC2 k) (s := s) (m := m) (args := vs.toArray) (below := below) (meth := meth) (c := c) (D := D) (cA := cA) (es0 := es) (g0 := g) (gv := gv ++ KRof E) (ad := ad) B.exec B.bytes (hml.trans h3.symm) hown hts hK hN hE hA0 rfl hgood hT hBT hXT hFT hCT B.returns B.notSynchronized hes h4 hruns N
  have hW := runR_ok (p := p) (l := l) (e := e) (R := rmC2 k) (below := below) (D := D) (cA := cA) (es0 := es) (g0 := g) (gv := gv ++ KRof E) (ad := ad) (src := none) (gk := g) B.exec B.bytes (hml.trans h3.symm) hown hts hK hN hE hA0 rfl hgood hT hBT hXT hFT hCT B.returns B.notSynchronized hes h4 gxt_rf (fun q hq => by cases hq) (fun q hq g1 lv1 es1 ls1 H1 locs1 a1 a2 a2' a3 a4 a5 a6 _ => hcuts ((rkv2 g1 q).toNat + 1) q hq g1 lv1 es1 ls1 H1 locs1 a1 a2 a2' a3 a4 a5 a6 (by omega)) f true _ h5
  exact hW g gxt_rf hRL g (lv_args 0 vs) [] es ls s.heap [] gxt_rf hG (by rw [h3]; exact hl) (lva_ok hvs h1) trivial ⟨zf2_mapL hes, fun _ _ _ _ => rfl, hP, hD.self (sz := s.heap.size), va_S.rf, hlen⟩
theorem conR_ok {l : Launch} {cl : List vw_C} {Ts : List Jvm.Cond} (hgood : ∀ w ∈ Ts, GoodIn Ts (w :: Ts)) {k : Con2} {T : TB} {d : Nat} {BT : List (Nat × Nat)} {CT : CTB2} {RF : List (Nat × List POP)} {RW : List Nat} {CU : List CUT2} {f : Nat} (hy : plainName k.1.1.cls = true) (hT : TOK k.1.1.cls cl Ts k.1.2.1 T) (hBT : BOK k.1.1.cls Ts BT) (hXT : XOK k.1.1.cls Ts BT) (hCT : CTOK2 l k.1.1.cls cl Ts CT) (h : chkR T d BT [] CT RF RW CU f k = true) : Vld2 l cl Ts k := fun es => conE_ok hgood hy hT hBT hXT (FT := []) (fun _ hq => absurd hq List.not_mem_nil) hCT h
