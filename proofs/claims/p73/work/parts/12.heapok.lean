/-! ===== a step on the heap is right ===== -/
section STH
variable {p : Program} {l : Launch} {e : Env} {R : Room} {s : State} {m : MethodId} {args : Array Value} {below : List Frame} {meth : Method} {c : Code} {cs0 ss0 : Nat} {Q : State → Prop} {cc : ByteArray} {own : String} {Ts : List Jvm.Cond} {D : va_G} {cl : List vw_C} {A : Nat → Prop} {H0 : Heap} {V : EV} {cA : Nat → ClassId} {es0 : List va_E} {g0 : List Int}
theorem ae_nb0 : narrow .boolean (.int 0) = .int 0 := rfl
theorem ae_b01 {x : Int32} (h1 : 0 ≤ x.toInt) (h2 : x.toInt ≤ 1) : x = 0 ∨ x = 1 := by
  rcases (show x.toInt = 0 ∨ x.toInt = 1 by omega) with h | h
  · exact Or.inl (Int32.toInt_inj.mp (h.trans ae_z.symm))
  · exact Or.inr (Int32.toInt_inj.mp (h.trans (by decide)))
theorem gfd_ok (hx : p.tables.exec = Jvm.exec) (hb : c.code = cc) (hown : s.vm.findClass own = some m.cls) (hts : ∀ w ∈ Ts, w.before args s = true) (hK : va_K D cl (tysA cA) s) {T : TB} (hT : TOK own cl Ts cc T) {nL : Nat} {a : AS} {i : Nat} {L : List AS} (hd : decode cc a.1 = .ok (.getfield i, 3)) (h : gfd T i a = some L) (hL : ∀ b ∈ L, WA (WW p l e R s m args below meth c cs0 ss0 Q) m nL D cl A H0 V cA es0 g0 b) : WA (WW p l e R s m args below meth c cs0 ss0 Q) m nL D cl A H0 V cA es0 g0 a := by
  intro g lv sv es ls H locs h0 hG hlv hl hs hH
  unfold gfd at h
  split at h
  · rename_i x st ci k ty hst hlk
    split at h
    · rename_i htg
      split at h
      · rename_i fl cj fs hcell
        split at h
        · rename_i hcc
          subst hcc
          split at h
          · rename_i v hv
            split at h
            · rename_i r hr
              cases h
              rw [hst] at hs
              obtain ⟨w, sv1, rfl, g2, hs1⟩ := zf2_cons hs
              obtain ⟨ad, en, rfl, e1, e2, e3, e4⟩ := HS_get hH g2 htg hcell
              obtain ⟨vs, rfl, e5⟩ := relC_obj e3
              obtain ⟨u, e6, e7⟩ := zf2_get e5 hv
              obtain ⟨g', x1, x2, x3⟩ := nam_ok hG e7 hr
              obtain ⟨C, F, N, tyf, f1, f2, f3, f4, f5, f6, f7⟩ := hT.2.2.2 _ (look_mem hlk)
              refine va_get (D := D) hx hb hts f3 hown hK hH.2.2.1 _ e4 f1 k f2 (hts _ f4) (fun _ h9 => h9) e6 hd ?_
              refine hL _ (List.mem_singleton.mpr rfl) g' lv _ es ls H locs (gxt_tr h0 x1) x2 hlv (loc_ext x1 hl) ⟨x3, st_ext x1 hs1⟩ ?_
              have hH' := HS_ext x1 hH
              refine ⟨zf2_setL (R := fun (x : Bool × AC) (y : va_E) => relC g' V cA x.2 y) (b := .inr (ci, vs)) ?_ hH'.1 e2, kep_same hH'.2.1 hcell, hH'.2.2⟩
              exact ⟨rfl, zf2_setL x3 (zf2_mono (fun _ _ => gam_ext x1) e5) e6⟩
            · cases h
          · cases h
        · cases h
      · cases h
    · cases h
  · cases h
theorem okT_ok {G : GI} {g : List Int} {ty : Nat} {v : AV} {w : Value} (hG : GS G g) (hv : gam g V v w) (h : okT G ty v = true) : ty ≤ 2 ∧ narrow (if ty = 0 then .int else if ty = 1 then .boolean else .long) w = w ∧ fits (if ty = 0 then .int else if ty = 1 then .boolean else .long) w = true := by
  unfold okT at h
  split at h
  · have h := of_decide_eq_true h
    obtain ⟨x, rfl⟩ := gam_int hv h
    exact ⟨by omega, rfl, rfl⟩
  · simp only [Bool.and_eq_true, decide_eq_true_eq] at h
    obtain ⟨h1, h2⟩ := h
    split at h2
    · rename_i q hq
      obtain ⟨x, rfl, h3⟩ := ivI_ok hG hv hq
      have h2 := of_decide_eq_true h2
      unfold inI at h3
      rcases ae_b01 (x := x) (by omega) (by omega) with rfl | rfl
      · exact ⟨by omega, rfl, rfl⟩
      · exact ⟨by omega, rfl, rfl⟩
    · cases h2
  · have h := of_decide_eq_true h
    obtain ⟨x, rfl⟩ := gam_long hv h
    exact ⟨by omega, rfl, rfl⟩
  · cases h
theorem pfd_ok (hx : p.tables.exec = Jvm.exec) (hb : c.code = cc) (hown : s.vm.findClass own = some m.cls) (hts : ∀ w ∈ Ts, w.before args s = true) (hK : va_K D cl (tysA cA) s) {T : TB} (hT : TOK own cl Ts cc T) {nL : Nat} {a : AS} {i : Nat} {L : List AS} (hd : decode cc a.1 = .ok (.putfield i, 3)) (h : pfd T i a = some L) (hL : ∀ b ∈ L, WA (WW p l e R s m args below meth c cs0 ss0 Q) m nL D cl A H0 V cA es0 g0 b) : WA (WW p l e R s m args below meth c cs0 ss0 Q) m nL D cl A H0 V cA es0 g0 a := by
  intro g lv sv es ls H locs h0 hG hlv hl hs hH
  unfold pfd at h
  split at h
  · rename_i v x st ci k ty hst hlk
    split at h
    · rename_i htg
      split at h
      · rename_i fl cj fs hcell
        split at h
        · rename_i hcc
          obtain ⟨rfl, hkl⟩ := hcc
          cases h
          rw [hst] at hs
          obtain ⟨w, sv1, rfl, g2, hs1⟩ := zf2_cons hs
          obtain ⟨w2, sv2, rfl, g3, hs2⟩ := zf2_cons hs1
          obtain ⟨ad, en, rfl, e1, e2, e3, e4⟩ := HS_get hH g3 htg.1 hcell
          obtain ⟨vs, rfl, e5⟩ := relC_obj e3
          obtain ⟨C, F, N, tyf, f1, f2, f3, f4, f5, f6, f7⟩ := hT.2.2.2 _ (look_mem hlk)
          obtain ⟨t1, t2, t3⟩ := okT_ok hG g2 htg.2
          obtain ⟨f8, f9⟩ := f7 t1
          simp only at f2 f8 f9
          refine va_put (D := D) hx hb hts f3 tyf f5 f6 hown hK hH.2.2.1 hH.2.2.2.1 hH.2.2.2.2.1 _ e4 f1 k f2 (hts _ f4) (fun _ h9 => h9) f8 (f5 k f2) (by rw [f9]; exact t2) (by rw [f9]; exact t3) (by rw [← zf2_len e5]; exact hkl) hd (fun H1 locs1 p1 d1 s1 => ?_)
          exact hL _ (List.mem_singleton.mpr rfl) g lv _ _ ls H1 locs1 h0 hG hlv hl hs2 (HS_put (c' := .inl (ci, fs.set k v)) (e' := .inr (ci, vs.set k w)) hH e1 ⟨rfl, zf2_set g2 e5 k⟩ p1 d1 s1)
        · cases h
      · cases h
    · cases h
  · cases h
theorem ald_ok {nL t0 t1 : Nat} {a : AS} {L : List AS} (h : ald t0 t1 a = some L) (hL : ∀ b ∈ L, WA (WW p l e R s m args below meth c cs0 ss0 Q) m nL D cl A H0 V cA es0 g0 b)
    (hrow : ∀ (t : Nat) (sg : List (Nat × AV)) (g : List Int) (es : List va_E) (k r : Nat) (en : va_E) (X : Int32) (sv : List Value) (ls : Array Slot) (H : Heap) (locs : List Loc), (t = t0 ∨ t = t1) → va_P D cl (zw V.2 es) H → (zw V.2 es)[k]? = some (r, en) → relC g V cA (.inr (t, sg)) en → vp_in X (tot sg) → ∃ val : Nat → Value, (∀ (i : Nat) (b : AV), lk sg i = some b → gam g V b (val i)) ∧ (WW p l e R s m args below meth c cs0 ss0 Q H locs (F0 m (a.1 + 1) ls (val X.toInt.toNat :: sv)) → WW p l e R s m args below meth c cs0 ss0 Q H locs (F0 m a.1 ls (.int X :: .ref r :: sv)))) : WA (WW p l e R s m args below meth c cs0 ss0 Q) m nL D cl A H0 V cA es0 g0 a := by
  intro g lv sv es ls H locs h0 hG hlv hl hs hH
  unfold ald at h
  split at h
  · rename_i i x st hst
    split at h
    · rename_i htg
      split at h
      · rename_i fl t sg q hcell hq
        split at h
        · rename_i hc
          split at h
          · rename_i r hr
            cases h
            rw [hst] at hs
            obtain ⟨w, sv1, rfl, g2, hs1⟩ := zf2_cons hs
            obtain ⟨w2, sv2, rfl, g3, hs2⟩ := zf2_cons hs1
            obtain ⟨ad, en, rfl, e1, e2, e3, e4⟩ := HS_get hH g3 htg hcell
            obtain ⟨X, rfl, e5⟩ := ivI_ok hG g2 hq
            unfold inI at e5
            obtain ⟨val, v1, v2⟩ := hrow t sg g es _ ad en X sv2 ls H locs hc.1 hH.2.2.1 e4 e3 (vp_in_iff.mpr ⟨by omega, by omega⟩)
            obtain ⟨g', x1, x2, x3⟩ := rdA_ok hG v1 (i := X.toInt.toNat) (by omega) (by omega) (by omega) hr
            exact v2 (hL _ (List.mem_singleton.mpr rfl) g' lv _ es ls H locs (gxt_tr h0 x1) x2 hlv (loc_ext x1 hl) ⟨x3, st_ext x1 hs2⟩ (HS_ext x1 hH))
          · cases h
        · cases h
      · cases h
    · cases h
  · cases h
theorem stv_ok {G : GI} {g : List Int} {t : Nat} {v w : AV} {u : Value} (hG : GS G g) (hv : gam g V v u) (h : stv G t v = some w) : (t = 0 ∧ ∃ x : Int32, u = .int x ∧ gam g V w (.int (vp_nar .byte x))) ∨ (t = 1 ∧ ∃ x : Int32, u = .int x ∧ gam g V w (.int x)) ∨ (t = 2 ∧ ∃ x : Int64, u = .long x ∧ gam g V w (.long x)) ∨ (t = 3 ∧ ∃ x : Int32, u = .int x ∧ gam g V w (.int (vp_nar .boolean x))) := by
  unfold stv at h
  split at h
  · split at h
    · rename_i ht
      cases h
      obtain ⟨x, rfl⟩ := gam_int hv ht
      exact Or.inl ⟨rfl, x, rfl, _, rfl, ae_i2b x⟩
    · cases h
  · split at h
    · rename_i ht
      cases h
      obtain ⟨x, rfl⟩ := gam_intx hv ht
      exact Or.inr (Or.inl ⟨rfl, x, rfl, hv⟩)
    · cases h
  · split at h
    · rename_i ht
      cases h
      obtain ⟨x, rfl⟩ := gam_long hv ht
      exact Or.inr (Or.inr (Or.inl ⟨rfl, x, rfl, hv⟩))
    · cases h
  · split at h
    · rename_i q hq
      split at h
      · rename_i ht
        cases h
        obtain ⟨x, rfl, h3⟩ := ivI_ok hG hv hq
        unfold inI at h3
        refine Or.inr (Or.inr (Or.inr ⟨rfl, x, rfl, ?_⟩))
        rcases ae_b01 (x := x) (by omega) (by omega) with rfl | rfl
        · exact hv
        · exact hv
      · cases h
    · cases h
  · cases h
theorem upd_v {f : Nat → Int32} {i : Nat} {x : Int32} : (fun j => Value.int (upd f i x j)) i = .int x := by simp [upd]
theorem ast_ok (hK : va_K D cl (tysA cA) s) {nL t0 t1 : Nat} {a : AS} {L : List AS} (h : ast t0 t1 a = some L) (hL : ∀ b ∈ L, WA (WW p l e R s m args below meth c cs0 ss0 Q) m nL D cl A H0 V cA es0 g0 b)
    (hB : ∀ (f : Nat → Int32) (ws : va_W) (k r n : Nat) (X Y : Int32) (sv : List Value) (ls : Array Slot) (H : Heap) (locs : List Loc), (t0 = 0 ∨ t1 = 0) → va_P D cl ws H → va_D A ws → va_S A H0 H locs → ws[k]? = some (r, .inl (cA 0, n, .inl f)) → vp_in X n → (∀ (H1 : Heap) (locs1 : List Loc), va_P D cl (ws.set k (r, .inl (cA 0, n, .inl (upd f X.toNatClampNeg (vp_nar .byte Y))))) H1 → va_D A (ws.set k (r, .inl (cA 0, n, .inl (upd f X.toNatClampNeg (vp_nar .byte Y))))) → va_S A H0 H1 locs1 → WW p l e R s m args below meth c cs0 ss0 Q H1 locs1 (F0 m (a.1 + 1) ls sv)) → WW p l e R s m args below meth c cs0 ss0 Q H locs (F0 m a.1 ls (.int Y :: .int X :: .ref r :: sv)))
    (hI : ∀ (f : Nat → Int32) (ws : va_W) (k r n : Nat) (X Y : Int32) (sv : List Value) (ls : Array Slot) (H : Heap) (locs : List Loc), (t0 = 1 ∨ t1 = 1) → va_P D cl ws H → va_D A ws → va_S A H0 H locs → ws[k]? = some (r, .inl (cA 1, n, .inl f)) → vp_in X n → (∀ (H1 : Heap) (locs1 : List Loc), va_P D cl (ws.set k (r, .inl (cA 1, n, .inl (upd f X.toNatClampNeg Y)))) H1 → va_D A (ws.set k (r, .inl (cA 1, n, .inl (upd f X.toNatClampNeg Y)))) → va_S A H0 H1 locs1 → WW p l e R s m args below meth c cs0 ss0 Q H1 locs1 (F0 m (a.1 + 1) ls sv)) → WW p l e R s m args below meth c cs0 ss0 Q H locs (F0 m a.1 ls (.int Y :: .int X :: .ref r :: sv)))
    (hJ : ∀ (f : Nat → Int64) (ws : va_W) (k r n : Nat) (X : Int32) (Y : Int64) (sv : List Value) (ls : Array Slot) (H : Heap) (locs : List Loc), (t0 = 2 ∨ t1 = 2) → va_P D cl ws H → va_D A ws → va_S A H0 H locs → ws[k]? = some (r, .inl (cA 2, n, .inr (.inl f))) → vp_in X n → (∀ (H1 : Heap) (locs1 : List Loc), va_P D cl (ws.set k (r, .inl (cA 2, n, .inr (.inl (vp_updL f X.toNatClampNeg Y))))) H1 → va_D A (ws.set k (r, .inl (cA 2, n, .inr (.inl (vp_updL f X.toNatClampNeg Y))))) → va_S A H0 H1 locs1 → WW p l e R s m args below meth c cs0 ss0 Q H1 locs1 (F0 m (a.1 + 1) ls sv)) → WW p l e R s m args below meth c cs0 ss0 Q H locs (F0 m a.1 ls (.long Y :: .int X :: .ref r :: sv)))
    (hZ : ∀ (f : Nat → Int32) (ws : va_W) (k r n : Nat) (X Y : Int32) (sv : List Value) (ls : Array Slot) (H : Heap) (locs : List Loc), (t0 = 3 ∨ t1 = 3) → va_P D cl ws H → va_D A ws → va_S A H0 H locs → ws[k]? = some (r, .inl (cA 3, n, .inl f)) → vp_in X n → (∀ (H1 : Heap) (locs1 : List Loc), va_P D cl (ws.set k (r, .inl (cA 3, n, .inl (upd f X.toNatClampNeg (vp_nar .boolean Y))))) H1 → va_D A (ws.set k (r, .inl (cA 3, n, .inl (upd f X.toNatClampNeg (vp_nar .boolean Y))))) → va_S A H0 H1 locs1 → WW p l e R s m args below meth c cs0 ss0 Q H1 locs1 (F0 m (a.1 + 1) ls sv)) → WW p l e R s m args below meth c cs0 ss0 Q H locs (F0 m a.1 ls (.int Y :: .int X :: .ref r :: sv))) : WA (WW p l e R s m args below meth c cs0 ss0 Q) m nL D cl A H0 V cA es0 g0 a := by
  intro g lv sv es ls H locs h0 hG hlv hl hs hH
  unfold ast at h
  split at h
  · rename_i v i x st hst
    split at h
    · rename_i htg
      split at h
      · rename_i fl t sg q hcell hq
        split at h
        · rename_i hc
          split at h
          · rename_i w hw
            split at h
            · rename_i sg' hsg
              cases h
              rw [hst] at hs
              obtain ⟨w1, sv1, rfl, g1, hs1⟩ := zf2_cons hs
              obtain ⟨w2, sv2, rfl, g2, hs2⟩ := zf2_cons hs1
              obtain ⟨w3, sv3, rfl, g3, hs3⟩ := zf2_cons hs2
              obtain ⟨ad, en, rfl, e1, e2, e3, e4⟩ := HS_get hH g3 htg hcell
              obtain ⟨X, rfl, e5⟩ := ivI_ok hG g2 hq
              unfold inI at e5
              have hin : vp_in X (tot sg) := vp_in_iff.mpr ⟨by omega, by omega⟩
              have hto := wrA_tot hsg
              rcases stv_ok hG g1 hw with ⟨rfl, y, rfl, k1⟩ | ⟨rfl, y, rfl, k1⟩ | ⟨rfl, y, rfl, k1⟩ | ⟨rfl, y, rfl, k1⟩
              · obtain ⟨f, rfl, b1, b2⟩ := relC_arI e3 (Or.inl rfl)
                refine hB f _ _ ad _ X y sv3 ls H locs (by omega) hH.2.2.1 hH.2.2.2.1 hH.2.2.2.2.1 e4 hin (fun H1 locs1 p1 d1 s1 => ?_)
                refine hL _ (List.mem_singleton.mpr rfl) g lv _ _ ls H1 locs1 h0 hG hlv hl hs3 (HS_put hH e1 ?_ p1 d1 s1)
                exact ⟨Or.inl rfl, rfl, hto.symm, b1, wrA_ok (i := X.toNatClampNeg) (val := fun j => .int (f j)) (val' := fun j => .int (upd f X.toNatClampNeg (vp_nar .byte y) j)) hG k1 b2 (by rw [ae_cl]; omega) (by rw [ae_cl]; omega) upd_v (fun j hj => by simp [upd, hj]) hsg⟩
              · obtain ⟨f, rfl, b1, b2⟩ := relC_arI e3 (Or.inr (Or.inl rfl))
                refine hI f _ _ ad _ X y sv3 ls H locs (by omega) hH.2.2.1 hH.2.2.2.1 hH.2.2.2.2.1 e4 hin (fun H1 locs1 p1 d1 s1 => ?_)
                refine hL _ (List.mem_singleton.mpr rfl) g lv _ _ ls H1 locs1 h0 hG hlv hl hs3 (HS_put hH e1 ?_ p1 d1 s1)
                exact ⟨Or.inr (Or.inl rfl), rfl, hto.symm, b1, wrA_ok (i := X.toNatClampNeg) (val := fun j => .int (f j)) (val' := fun j => .int (upd f X.toNatClampNeg y j)) hG k1 b2 (by rw [ae_cl]; omega) (by rw [ae_cl]; omega) upd_v (fun j hj => by simp [upd, hj]) hsg⟩
              · obtain ⟨f, rfl, b1, b2⟩ := relC_arL e3
                refine hJ f _ _ ad _ X y sv3 ls H locs (by omega) hH.2.2.1 hH.2.2.2.1 hH.2.2.2.2.1 e4 hin (fun H1 locs1 p1 d1 s1 => ?_)
                refine hL _ (List.mem_singleton.mpr rfl) g lv _ _ ls H1 locs1 h0 hG hlv hl hs3 (HS_put hH e1 ?_ p1 d1 s1)
                exact ⟨rfl, rfl, hto.symm, b1, wrA_ok (i := X.toNatClampNeg) (val := fun j => .long (f j)) (val' := fun j => .long (vp_updL f X.toNatClampNeg y j)) hG k1 b2 (by rw [ae_cl]; omega) (by rw [ae_cl]; omega) (by simp [vp_updL]) (fun j hj => by simp [vp_updL, hj]) hsg⟩
              · obtain ⟨f, rfl, b1, b2⟩ := relC_arI e3 (Or.inr (Or.inr rfl))
                refine hZ f _ _ ad _ X y sv3 ls H locs (by omega) hH.2.2.1 hH.2.2.2.1 hH.2.2.2.2.1 e4 hin (fun H1 locs1 p1 d1 s1 => ?_)
                refine hL _ (List.mem_singleton.mpr rfl) g lv _ _ ls H1 locs1 h0 hG hlv hl hs3 (HS_put hH e1 ?_ p1 d1 s1)
                exact ⟨Or.inr (Or.inr rfl), rfl, hto.symm, b1, wrA_ok (i := X.toNatClampNeg) (val := fun j => .int (f j)) (val' := fun j => .int (upd f X.toNatClampNeg (vp_nar .boolean y) j)) hG k1 b2 (by rw [ae_cl]; omega) (by rw [ae_cl]; omega) upd_v (fun j hj => by simp [upd, hj]) hsg⟩
            · cases h
          · cases h
        · cases h
      · cases h
    · cases h
  · cases h
theorem tsw_ok {Wf : Heap → List Loc → JFrame → Prop} {nL : Nat} {a : AS} {st : List AV} {x : AV} {g : List Int} {X : Int32} (hG : GS a.2.2.2.1 g) (hx : gam g V x (.int X)) : ∀ {offs : List Int} {v : Int} {L : List AS}, tsw a st x offs v = some L → v ≤ X.toInt → X.toInt < v + offs.length → ∃ off G', offs[(X.toInt - v).toNat]? = some off ∧ 0 ≤ (a.1 : Int) + off ∧ (((a.1 : Int) + off).toNat, a.2.1, st, G', a.2.2.2.2) ∈ L ∧ GS G' g
  | [], v, L, _, h1, h2 => by simp at h2; omega
  | off :: r, v, L, h, h1, h2 => by
    unfold tsw at h
    split at h
    · rename_i L1 L2 q1 q2
      split at h
      · rename_i hc
        cases h
        by_cases hv : X.toInt = v
        · obtain ⟨X', Y, e1, e2, e3⟩ := rfI_ok hG hx (w := .int (Int32.ofInt v)) (show gam g V (0, v, 0) (.int (Int32.ofInt v)) from ⟨_, rfl, ae_ofInt hc.2.1 hc.2.2⟩) q1
          cases e1; cases e2
          obtain ⟨G', m1, m2⟩ := e3 (by rw [ae_ofInt hc.2.1 hc.2.2]; exact hv)
          exact ⟨off, G', by rw [hv]; simp, hc.1, List.mem_append_left _ (List.mem_map.mpr ⟨G', m1, rfl⟩), m2⟩
        · obtain ⟨off', G', e1, e2, e3, e4⟩ := tsw_ok (Wf := Wf) (nL := nL) hG hx q2 (by omega) (by simp at h2; omega)
          refine ⟨off', G', ?_, e2, List.mem_append_right _ e3, e4⟩
          rw [show (X.toInt - v).toNat = (X.toInt - (v + 1)).toNat + 1 by omega]
          simpa using e1
      · cases h
    · cases h
theorem tsd_ok (hx : p.tables.exec = Jvm.exec) (hb : c.code = cc) {nL : Nat} {a : AS} {dflt lo hi : Int} {offs : Array Int} {len : Nat} {L : List AS} (hd : decode cc a.1 = .ok (.tableswitch dflt lo hi offs, len)) (h : tsd a dflt lo hi offs = some L) (hL : ∀ b ∈ L, WA (WW p l e R s m args below meth c cs0 ss0 Q) m nL D cl A H0 V cA es0 g0 b) : WA (WW p l e R s m args below meth c cs0 ss0 Q) m nL D cl A H0 V cA es0 g0 a := by
  intro g lv sv es ls H locs h0 hG hlv hl hs hH
  unfold tsd at h
  split at h
  · rename_i x st hst
    split at h
    · rename_i hc
      split at h
      · rename_i L1 L2 L3 q1 q2 q3
        cases h
        rw [hst] at hs
        obtain ⟨w, sv1, rfl, g2, hs1⟩ := zf2_cons hs
        obtain ⟨X, Y, e1, e2, e3⟩ := rfI_ok hG g2 (w := .int (Int32.ofInt lo)) (show gam g V (0, lo, 0) (.int (Int32.ofInt lo)) from ⟨_, rfl, ae_ofInt (by omega) (by omega)⟩) q2
        obtain ⟨X', Z, e4, e5, e6⟩ := rfI_ok hG g2 (w := .int (Int32.ofInt hi)) (show gam g V (0, hi, 0) (.int (Int32.ofInt hi)) from ⟨_, rfl, ae_ofInt (by omega) (by omega)⟩) q3
        subst e1
        cases e4; cases e2; cases e5
        rw [ae_ofInt (by omega) (by omega)] at e3
        rw [ae_ofInt (by omega) (by omega)] at e6
        by_cases hlo : X.toInt < lo
        · obtain ⟨G', m1, m2⟩ := e3 hlo
          exact lv_tableOut hx hb hd (Or.inl hlo) (by omega : (a.1 : Int) + dflt = ((((a.1 : Int) + dflt).toNat : Nat) : Int)) (hL _ (List.mem_append_right _ (List.mem_map.mpr ⟨G', List.mem_append_left _ m1, rfl⟩)) g lv sv1 es ls H locs h0 m2 hlv hl hs1 hH)
        · by_cases hhi : hi < X.toInt
          · obtain ⟨G', m1, m2⟩ := e6 hhi
            exact lv_tableOut hx hb hd (Or.inr hhi) (by omega : (a.1 : Int) + dflt = ((((a.1 : Int) + dflt).toNat : Nat) : Int)) (hL _ (List.mem_append_right _ (List.mem_map.mpr ⟨G', List.mem_append_right _ m1, rfl⟩)) g lv sv1 es ls H locs h0 m2 hlv hl hs1 hH)
          · obtain ⟨off, G', t1, t2, t3, t4⟩ := tsw_ok (Wf := WW p l e R s m args below meth c cs0 ss0 Q) (nL := nL) hG g2 q1 (by omega) (by omega)
            exact lv_tableIn hx hb hd hlo hhi (by rw [← Array.getElem?_toList]; exact t1) (by omega : (a.1 : Int) + off = ((((a.1 : Int) + off).toNat : Nat) : Int)) (hL _ (List.mem_append_left _ t3) g lv sv1 es ls H locs h0 t4 hlv hl hs1 hH)
      · cases h
    · cases h
  · cases h
theorem alr_ok {a : AS} {st : List AV} {i : AV} {sg : List (Nat × AV)} {g : List Int} {X : Int32} (hG : GS a.2.2.2.1 g) (hi : gam g V i (.int X)) : ∀ {n : Nat} {j : Int} {L : List AS}, alr a st i sg n j = some L → j ≤ X.toInt → X.toInt < j + n → ∃ v G', lk sg X.toInt.toNat = some v ∧ v.1 = 6 ∧ (a.1 + 1, a.2.1, v :: st, G', a.2.2.2.2) ∈ L ∧ GS G' g
  | 0, j, L, _, h1, h2 => by simp at h2; omega
  | n + 1, j, L, h, h1, h2 => by
    unfold alr at h
    split at h
    · rename_i L1 v L2 q1 q2 q3
      split at h
      · rename_i hc
        cases h
        by_cases hv : X.toInt = j
        · obtain ⟨X', Y, e1, e2, e3⟩ := rfI_ok hG hi (w := .int (Int32.ofInt j)) (show gam g V (0, j, 0) (.int (Int32.ofInt j)) from ⟨_, rfl, ae_ofInt (by omega) hc.2.2⟩) q1
          cases e1; cases e2
          obtain ⟨G', m1, m2⟩ := e3 (by rw [ae_ofInt (by omega) hc.2.2]; exact hv)
          exact ⟨v, G', by rw [hv]; exact q2, hc.1, List.mem_append_left _ (List.mem_map.mpr ⟨G', m1, rfl⟩), m2⟩
        · obtain ⟨v', G', e1, e2, e3, e4⟩ := alr_ok hG hi q3 (by omega) (by push_cast at h2; omega)
          exact ⟨v', G', e1, e2, List.mem_append_right _ e3, e4⟩
      · cases h
    · cases h
theorem alR_ok (hx : p.tables.exec = Jvm.exec) (hb : c.code = cc) (hK : va_K D cl (tysA cA) s) {nL : Nat} {a : AS} {L : List AS} (hd : decode cc a.1 = .ok (.aaload, 1)) (h : alR a = some L) (hL : ∀ b ∈ L, WA (WW p l e R s m args below meth c cs0 ss0 Q) m nL D cl A H0 V cA es0 g0 b) : WA (WW p l e R s m args below meth c cs0 ss0 Q) m nL D cl A H0 V cA es0 g0 a := by
  intro g lv sv es ls H locs h0 hG hlv hl hs hH
  unfold alR at h
  split at h
  · rename_i i x st hst
    split at h
    · rename_i htg
      split at h
      · rename_i fl sg q hcell hq
        split at h
        · rename_i hc
          rw [hst] at hs
          obtain ⟨w, sv1, rfl, g2, hs1⟩ := zf2_cons hs
          obtain ⟨w2, sv2, rfl, g3, hs2⟩ := zf2_cons hs1
          obtain ⟨ad, en, rfl, e1, e2, e3, e4⟩ := HS_get hH g3 htg hcell
          obtain ⟨X, rfl, e5⟩ := ivI_ok hG g2 hq
          unfold inI at e5
          obtain ⟨f, rfl, b1, b2⟩ := relC_arR e3
          obtain ⟨v, G', r1, r2, r3, r4⟩ := alr_ok hG g2 h (by omega) (by omega)
          refine va_aldq hx hb hK hH.2.2.1 _ 4 e4 rfl (vp_in_iff.mpr ⟨by omega, by omega⟩) hd ?_
          exact hL _ r3 g lv _ es ls H locs h0 r4 hlv hl ⟨b2 _ v r1, hs2⟩ hH
        · cases h
      · cases h
    · cases h
  · cases h
theorem stpH_ok (hx : p.tables.exec = Jvm.exec) (hb : c.code = cc) (hown : s.vm.findClass own = some m.cls) (hts : ∀ w ∈ Ts, w.before args s = true) (hK : va_K D cl (tysA cA) s) {T : TB} (hT : TOK own cl Ts cc T) {nL : Nat} {a : AS} {ins : ClassFile.Instr} {len : Nat} {L : List AS} (hd : decode cc a.1 = .ok (ins, len)) (h : stpH T ins len a = some L) (hL : ∀ b ∈ L, WA (WW p l e R s m args below meth c cs0 ss0 Q) m nL D cl A H0 V cA es0 g0 b) : WA (WW p l e R s m args below meth c cs0 ss0 Q) m nL D cl A H0 V cA es0 g0 a := by
  unfold stpH at h
  split at h
  · split at h
    · rename_i i hc; subst hc
      exact gfd_ok hx hb hown hts hK hT hd h hL
    · cases h
  · split at h
    · rename_i i hc; subst hc
      exact pfd_ok hx hb hown hts hK hT hd h hL
    · cases h
  · split at h
    · rename_i hc; subst hc
      refine ald_ok h hL (fun t sg g es k r en X sv ls H locs ht hP he hr hin => ?_)
      have : t = 1 := by omega
      subst this
      obtain ⟨f, rfl, b1, b2⟩ := relC_arI hr (Or.inr (Or.inl rfl))
      exact ⟨fun j => .int (f j), b2, fun k9 => va_iald hx hb hK hP k 1 he rfl hin hd k9⟩
    · cases h
  · split at h
    · rename_i hc; subst hc
      refine ald_ok h hL (fun t sg g es k r en X sv ls H locs ht hP he hr hin => ?_)
      rcases ht with rfl | rfl
      · obtain ⟨f, rfl, b1, b2⟩ := relC_arI hr (Or.inl rfl)
        exact ⟨fun j => .int (f j), b2, fun k9 => va_bald hx hb hK hP k 0 he rfl hin hd k9⟩
      · obtain ⟨f, rfl, b1, b2⟩ := relC_arI hr (Or.inr (Or.inr rfl))
        exact ⟨fun j => .int (f j), b2, fun k9 => va_zald hx hb hK hP k 3 he rfl hin hd k9⟩
    · cases h
  · split at h
    · rename_i hc; subst hc
      refine ald_ok h hL (fun t sg g es k r en X sv ls H locs ht hP he hr hin => ?_)
      have : t = 2 := by omega
      subst this
      obtain ⟨f, rfl, b1, b2⟩ := relC_arL hr
      exact ⟨fun j => .long (f j), b2, fun k9 => va_lald hx hb hK hP k 2 he rfl hin hd k9⟩
    · cases h
  · split at h
    · rename_i hc; subst hc
      exact alR_ok hx hb hK hd h hL
    · cases h
  · split at h
    · rename_i hc; subst hc
      exact ast_ok hK h hL (fun f ws k r n X Y sv ls H locs ht _ _ _ _ _ _ => by omega) (fun f ws k r n X Y sv ls H locs ht hP hD hS he hin kk => va_iast hx hb hK hP hD hS k 1 he rfl hin hd kk) (fun f ws k r n X Y sv ls H locs ht _ _ _ _ _ _ => by omega) (fun f ws k r n X Y sv ls H locs ht _ _ _ _ _ _ => by omega)
    · cases h
  · split at h
    · rename_i hc; subst hc
      exact ast_ok hK h hL (fun f ws k r n X Y sv ls H locs ht hP hD hS he hin kk => va_bast hx hb hK hP hD hS k 0 he rfl hin hd kk) (fun f ws k r n X Y sv ls H locs ht _ _ _ _ _ _ => by omega) (fun f ws k r n X Y sv ls H locs ht _ _ _ _ _ _ => by omega) (fun f ws k r n X Y sv ls H locs ht hP hD hS he hin kk => va_zast hx hb hK hP hD hS k 3 he rfl hin hd kk)
    · cases h
  · split at h
    · rename_i hc; subst hc
      exact ast_ok hK h hL (fun f ws k r n X Y sv ls H locs ht _ _ _ _ _ _ => by omega) (fun f ws k r n X Y sv ls H locs ht _ _ _ _ _ _ => by omega) (fun f ws k r n X Y sv ls H locs ht hP hD hS he hin kk => va_last hx hb hK hP hD hS k 2 he rfl hin hd kk) (fun f ws k r n X Y sv ls H locs ht _ _ _ _ _ _ => by omega)
    · cases h
  · exact tsd_ok hx hb hd h hL
  · cases h
end STH
