/-! ===== the constructors' interpreter is right ===== -/
/-- all that the interpreter's state says, whatever cells there are -/
noncomputable def KW (Wf : Nat → Nat → Heap → List Loc → JFrame → Prop) (Pf : List Nat → Prop) (m : MethodId) (nL : Nat) (D : va_G) (cl : List vw_C) (A : Nat → Prop) (H0 : Heap) (gv : List Value) (cA : Nat → ClassId) (b : KS) : Prop := ∀ (ad : List Nat) (es0 : List va_E), Pf ad → WA (Wf b.2.1 b.2.2) m nL D cl A H0 (gv, ad) cA es0 [] b.1
theorem gxt_nil {g : List Int} : gxt [] g := ⟨g, rfl⟩
theorem lk_one {n i : Nat} {a b : AV} (h : lk [(n, a)] i = some b) : b = a := by
  unfold lk at h
  split at h
  · cases h; rfl
  · cases h
section KST
variable {p : Program} {l : Launch} {e : Env} {R : Room} {s : State} {m : MethodId} {args : Array Value} {below : List Frame} {meth : Method} {c : Code} {Q : State → Prop} {cc : ByteArray} {own : String} {Ts : List Jvm.Cond} {D : va_G} {cl : List vw_C} {A : Nat → Prop} {H0 : Heap} {gv : List Value} {cA : Nat → ClassId} {Pf : List Nat → Prop} {nL : Nat}
theorem kcl_ok (hx : p.tables.exec = Jvm.exec) (hb : c.code = cc) (hml : c.maxLocals = nL) (hown : s.vm.findClass own = some m.cls) (hts : ∀ w ∈ Ts, w.before args s = true) (hK : va_K D cl (tysA cA) s) (hN : NOK s) (hO : va_AO "RookHusting$State" s) (hA : ∀ q, H0.size ≤ q → A q) (hgood : ∀ w ∈ Ts, GoodIn Ts (w :: Ts)) (hPf : ∀ ad ax, Pf ad → Pf (ad ++ ax)) {i : Nat} {nest : Bool} {k : KCon} (hv : KVld l cl Ts k) (hC : KCOK own Ts i nest k) {b b' : KS} (hd : decode cc b.1.1 = .ok (.invokespecial i, 3)) (h : kcl (R.frames, R.locals, R.cells, R.slots) b k = some b') (hL : KW (fun cs ss => WW p l e R s m args below meth c cs ss Q) Pf m nL D cl A H0 gv cA b') : KW (fun cs ss => WW p l e R s m args below meth c cs ss Q) Pf m nL D cl A H0 gv cA b := by
  intro ad es0 hpf g lv sv es ls H locs h0 hG hlv hl hs hH
  unfold kcl at h
  split at h
  · rename_i x rest hdr
    split at h
    · rename_i fl cj fs o0 on hcell hout
      split at h
      · rename_i hc
        obtain ⟨⟨hx6, hnl, htag⟩, ⟨hsum, hall⟩, ⟨hfr, hlo⟩, ⟨hce, hsl⟩, hokc, rfl, hfs, hdf⟩ := hc
        cases h
        obtain ⟨hz1, hz2⟩ := zf2_take (n := k.2.2.2.1.1) hs
        have hzr := zf2_rev hz1
        rw [hdr] at hz2
        obtain ⟨w, rs, hsvd, hw, hrs⟩ := zf2_cons hz2
        obtain ⟨r, en, rfl, e1, e2, e3, e4⟩ := HS_get hH hw hx6 hcell
        obtain ⟨vs, rfl, e5⟩ := relC_obj e3
        have hvs : vs = k.2.2.2.1.2.2.map dvA := by rw [← hfs]; exact dfl_eq hdf e5
        -- the arguments are references
        have hrefs : ∀ {xs : List AV} {us : List Value}, zf2 (gam g (gv, ad)) xs us → xs.all (fun q => decide (q.1 = 6 ∨ q.1 = 11)) = true → ∃ As : List Nat, us = As.map Value.ref := by
          intro xs
          induction xs with
          | nil =>
            intro us hz _
            cases us with
            | nil => exact ⟨[], rfl⟩
            | cons _ _ => exact hz.elim
          | cons y ys ih =>
            intro us hz ha
            obtain ⟨u, us', rfl, k1, k2⟩ := zf2_cons hz
            simp only [List.all_cons, Bool.and_eq_true] at ha
            obtain ⟨As, rfl⟩ := ih k2 ha.2
            obtain ⟨ty, y1, y2⟩ := y
            have hty := of_decide_eq_true ha.1
            simp only at hty
            rcases hty with rfl | rfl
            · obtain ⟨q, -, rfl⟩ := k1
              exact ⟨q :: As, rfl⟩
            · obtain ⟨q, -, rfl⟩ := k1
              exact ⟨q :: As, rfl⟩
        obtain ⟨As, hAs⟩ := hrefs hzr (by rw [List.all_reverse]; exact htag)
        rw [hAs] at hzr
        have hAl : As.length = k.2.2.2.1.1 := by
          have h1 := zf2_len hzr
          rw [List.length_reverse, List.length_take, Nat.min_eq_left hnl, List.length_map] at h1
          exact h1.symm
        have hM := hv D cA r As H.size hAl
        have hsub : [x.2.1.toNat].map (fun j => (zw ad es)[j]?) = ([(r, e0K k)] : va_W).map some := by
          show [(zw ad es)[x.2.1.toNat]?] = [some (r, e0K k)]
          rw [show (zw ad es)[x.2.1.toNat]? = some (r, .inr (k.2.2.2.1.2.1, vs)) from e4, hvs]
          rfl
        have hPs := va_P_sub hH.2.2.1 hsub
        have hDs : va_D A [(r, e0K k)] := hH.2.2.2.1.sub [x.2.1.toNat] rfl hsub
        have hFc := va_free hH.2.2.2.1 hH.2.2.2.2.1 hA [x.2.1.toNat] hsub
        obtain ⟨c1, c2, c3, c4, c5, c6, c7⟩ := hC
        have hblind : FrameBlind (PcK D cl cA k r As H.size) := fun a' U g' mk q => by
          obtain ⟨q0, q1, qP, qK, qD, qN, qO⟩ := q
          exact ⟨q0, q1, qP, va_K.moved (u := U) (U := U.calling g' mk a') (Vm.Alike.refl U.vm) qK, qD, NOK_same rfl qN, va_AO.moved (Vm.Alike.refl U.vm) qO⟩
        have hpre : ∀ U : State, U.heap = H → s.WarmedH U.vm → PcK D cl cA k r As H.size (Value.ref r :: As.map Value.ref).toArray U := fun U hU hW => ⟨rfl, by rw [hU], by rw [hU]; exact hPs, va_K.moved hW.alike hK, hDs.weaken (fun _ _ _ _ => trivial), NOK_warm hW hN, va_AO.moved hW.alike hO⟩
        have hroom : 2 * (F0 m b.1.1 ls rs).monitorRoom + (rs.map fun v => v.category).sum ≤ 8 := lv_room (m := m) (pc := b.1.1) (ls := ls) (rest := rs) (st := rs) (by rw [cat_sum hrs hall]; exact hsum)
        have hsv : sv = (As.map Value.ref).reverse ++ .ref r :: rs := by
          rw [← hAs, List.reverse_reverse, ← hsvd, List.take_append_drop]
        have hrun : va_Run p l e R s m args below meth c H locs b.2.1 b.2.2 k.2.2.1.1 k.2.2.1.2 (F0 m b.1.1 ls sv) rs (QcK D cl cA k r As H.size (Value.ref r :: As.map Value.ref).toArray) (va_A [(r, e0K k)] H.size) := by
          cases nest with
          | true => exact va_runIN (As := As.map Value.ref) (rest := rs) ⟨hx, hb, hml, hown, hts⟩ hM ⟨va_cnB k.2.2.2.1.1 hts (hgood _ c1) rfl rfl rfl (hN _ (c7 rfl)) (hts _ c2) c5 ⟨hfr, hlo⟩, c4, hts _ c3⟩ ⟨hblind, hpre⟩ rfl (by rw [List.length_map]; exact hAl) hlv.1 hsv hroom hd ⟨hce, hsl⟩
          | false => exact va_runI (As := As.map Value.ref) (rest := rs) ⟨hx, hb, hml, hown, hts⟩ hM ⟨callB_of k.2.2.2.1.1 hts (hgood _ c1) rfl rfl rfl (hts _ c2) (hts _ (c6 rfl)) c5 ⟨hfr, hlo⟩, c4, hts _ c3⟩ ⟨hblind, hpre⟩ rfl (by rw [List.length_map]; exact hAl) hlv.1 hsv hroom hd ⟨hce, hsl⟩
        refine va_callv hrun hH.2.2.2.2.1 (fun q _ hq => hFc q hq) hFc (fun u t H1 locs1 ht _ hpost hB hsz hk hS1 => ?_)
        obtain ⟨adn, eu⟩ := u
        obtain ⟨hzo, hle⟩ := hpost
        obtain ⟨hP1, hD1⟩ := hB
        rw [ht] at hP1
        simp only at hzo hle hP1 hD1
        rw [hout] at hzo
        obtain ⟨e1', en, rfl, z1, z2⟩ := zf2_cons hzo
        simp only [List.all_cons, Bool.and_eq_true] at hokc
        have hhp : b.1.2.2.2.2.length = ad.length := (zf2_len hH.1).trans hH.2.2.2.2.2
        have ee : e0K k = .inr (k.2.2.2.1.2.1, vs) := by rw [hvs]; rfl
        have hJ := HK_join (c0 := trKC x.2.1.toNat ad.length (b.1.2.2.1.take k.2.2.2.1.1).reverse o0) (cn := on.map (trKC x.2.1.toNat ad.length (b.1.2.2.1.take k.2.2.2.1.1).reverse)) hH e1 e2 (by rw [← ee]; exact hk) hP1 (by rw [← ee]; exact hD1) (by simpa using hle) (by rw [← ee]; exact hFc) hS1 (trKC_ok e1 hzr hokc.1 z1) (trKCs_ok e1 hzr hokc.2 z2)
        rw [← hhp] at hJ
        exact hL (ad ++ adn) _ (hPf _ _ hpf) g lv rs _ ls H1 locs1 gxt_nil hG hlv (loc_ad hl) (st_ad hrs) hJ
      · cases h
    · cases h
  · cases h
theorem knew_ok (hx : p.tables.exec = Jvm.exec) (hb : c.code = cc) (hown : s.vm.findClass own = some m.cls) (hts : ∀ w ∈ Ts, w.before args s = true) (hK : va_K D cl (tysA cA) s) (hA : ∀ q, H0.size ≤ q → A q) (hPf : ∀ ad ax, Pf ad → Pf (ad ++ ax)) {i ci N : Nat} {fs : List AV} (hq : KNT own cl Ts (i, ci, N, fs)) {b : KS} (hd : decode cc b.1.1 = .ok (.new i, 3)) (h1 : b.2.1 + 1 ≤ R.cells) (h2 : b.2.2 + N ≤ R.slots)
    (hL : KW (fun cs ss => WW p l e R s m args below meth c cs ss Q) Pf m nL D cl A H0 gv cA ((b.1.1 + 3, b.1.2.1, (6, (b.1.2.2.2.2.length : Int), 0) :: b.1.2.2.1, b.1.2.2.2.1, b.1.2.2.2.2 ++ [(true, .inl (ci, fs))]), b.2.1 + 1, b.2.2 + N)) : KW (fun cs ss => WW p l e R s m args below meth c cs ss Q) Pf m nL D cl A H0 gv cA b := by
  intro ad es0 hpf g lv sv es ls H locs h0 hG hlv hl hs hH
  obtain ⟨C, F, ty, q1, q2, q3, q4, q5, q6, q7, q8⟩ := hq
  have hhp : b.1.2.2.2.2.length = ad.length := (zf2_len hH.1).trans hH.2.2.2.2.2
  refine va_new (ci := ci) (fs := fs.map dvA) hx hb hts q2 ty q3 hown (hts _ q4) (hts _ q5) (hts _ q6) hK hH.2.2.1 hH.2.2.2.1 hH.2.2.2.2.1 hA q1 q7 h1 h2 hd (fun q H1 p1 d1 s1 => ?_)
  refine hL (ad ++ [q]) (es ++ [.inr (ci, fs.map dvA)]) (hPf _ _ hpf) g lv (.ref q :: sv) _ ls H1 locs gxt_nil hG hlv (loc_ad hl) ⟨⟨q, ?_, rfl⟩, st_ad hs⟩ (HK_push (en := .inr (ci, fs.map dvA)) (cn := .inl (ci, fs)) hH p1 d1 s1 ⟨rfl, dfl_zf q8⟩)
  show (ad ++ [q])[((b.1.2.2.2.2.length : Int)).toNat]? = some q
  rw [Int.toNat_natCast, hhp]
  simp
theorem ae_i0 {x : Int32} {n : Int} (h : x.toInt = n) (h0 : 0 ≤ n) : ¬ x < 0 := by rw [ae_lt0, h]; omega
/-- a new row: what every kind of it needs -/
theorem karr_go (hPf : ∀ ad ax, Pf ad → Pf (ad ++ ax)) {b : KS} {st : List AV} {pc' dc ds : Nat} {cn : AC} (hL : KW (fun cs ss => WW p l e R s m args below meth c cs ss Q) Pf m nL D cl A H0 gv cA ((pc', b.1.2.1, (6, (b.1.2.2.2.2.length : Int), 0) :: st, b.1.2.2.2.1, b.1.2.2.2.2 ++ [(true, cn)]), dc, ds)) {ad : List Nat} {es0 : List va_E} (hpf : Pf ad) {g : List Int} {lv : List (Nat × Value)} {sv : List Value} {es : List va_E} {ls : Array Slot} {H : Heap} {locs : List Loc} (hG : GS b.1.2.2.2.1 g) (hlv : lv_has ls nL lv) (hl : zf2 (locR g (gv, ad)) b.1.2.1 lv) (hs : zf2 (gam g (gv, ad)) st sv) (hH : HS D cl A H0 (gv, ad) cA es0 b.1.2.2.2.2 g es H locs)
    {q : Nat} {H1 : Heap} {en : va_E} (p1 : va_P D cl (zw ad es ++ [(q, en)]) H1) (d1 : va_D A (zw ad es ++ [(q, en)])) (s1 : va_S A H0 H1 locs) (hr : relC g (gv, ad ++ [q]) cA cn en) : W p l e R s m args below meth c H1 locs dc ds Q (F0 m pc' ls (.ref q :: sv)) := by
  have hhp : b.1.2.2.2.2.length = ad.length := (zf2_len hH.1).trans hH.2.2.2.2.2
  refine hL (ad ++ [q]) (es ++ [en]) (hPf _ _ hpf) g lv (.ref q :: sv) _ ls H1 locs gxt_nil hG hlv (loc_ad hl) ⟨⟨q, ?_, rfl⟩, st_ad hs⟩ (HK_push hH p1 d1 s1 hr)
  show (ad ++ [q])[((b.1.2.2.2.2.length : Int)).toNat]? = some q
  rw [Int.toNat_natCast, hhp]
  simp
theorem knewa_ok (hx : p.tables.exec = Jvm.exec) (hb : c.code = cc) (hts : ∀ w ∈ Ts, w.before args s = true) (hK : va_K D cl (tysA cA) s) (hA : ∀ q, H0.size ≤ q → A q) (hPf : ∀ ad ax, Pf ad → Pf (ad ++ ax)) {ty : ArrayType} {t : Nat} (ht : kArr ty = some t) (hq : KAT Ts t) {b : KS} {x : AV} {st : List AV} (hst : b.1.2.2.1 = x :: st) (hx0 : x.1 = 0) (hx1 : 0 ≤ x.2.1) (hx2 : x.2.1 ≤ 1000000) (hd : decode cc b.1.1 = .ok (.newarray ty, 2)) (h1 : b.2.1 + 1 ≤ R.cells) (h2 : b.2.2 + x.2.1.toNat ≤ R.slots)
    (hL : KW (fun cs ss => WW p l e R s m args below meth c cs ss Q) Pf m nL D cl A H0 gv cA ((b.1.1 + 2, b.1.2.1, (6, (b.1.2.2.2.2.length : Int), 0) :: st, b.1.2.2.2.1, b.1.2.2.2.2 ++ [(true, .inr (t, [(x.2.1.toNat, if t = 2 then (3, 0, 0) else (0, 0, 0))]))]), b.2.1 + 1, b.2.2 + x.2.1.toNat)) : KW (fun cs ss => WW p l e R s m args below meth c cs ss Q) Pf m nL D cl A H0 gv cA b := by
  intro ad es0 hpf g lv sv es ls H locs h0 hG hlv hl hs hH
  rw [hst] at hs
  obtain ⟨w, sv1, rfl, g1, hs1⟩ := zf2_cons hs
  obtain ⟨xt, xa, xb⟩ := x
  simp only at hx0 hx1 hx2
  subst hx0
  obtain ⟨X, rfl, hX⟩ := g1
  simp only at hX
  have hn : ¬ X < 0 := ae_i0 hX hx1
  have hN : X.toNatClampNeg = xa.toNat := by rw [ae_cl, hX]
  have hbig : xa.toNat ≤ 1000000 := by omega
  have htot : ∀ a : AV, tot [(xa.toNat, a)] = xa.toNat := fun a => by simp [tot]
  have hK' := hK.2
  rcases hq with ⟨rfl, hw⟩ | ⟨rfl, hw⟩ | ⟨rfl, hw⟩ | ⟨rfl, hw⟩
  · cases ty with
    | byte =>
      refine va_newa (atype := .byte) (ty := .byte) (N' := xa.toNat) (a0 := (xa.toNat, .inl (fun _ => 0))) hx hb (hts _ hw) rfl hK hH.2.2.1 hH.2.2.2.1 hH.2.2.2.2.1 hA (fun _ => rfl) hn hN (by show xa.toNat * 1 ≤ _; omega) h1 h2 hd (fun q cB H1 k1 p1 d1 s1 => ?_)
      have e1 : s.vm.findClass ("[" ++ FieldType.byte.toString) = some cB := (k1.2 5 _ rfl).2
      have e2 : s.vm.findClass ("[" ++ FieldType.byte.toString) = some (cA 0) := (hK' 0 _ rfl).2
      have e3 : cB = cA 0 := Option.some.inj (e1.symm.trans e2)
      subst e3
      exact karr_go (st := st) hPf hL hpf hG hlv hl hs1 hH p1 d1 s1 ⟨Or.inl rfl, rfl, (htot _).symm, by omega, fun i a ha => by rw [lk_one ha]; exact ⟨0, rfl, ae_z⟩⟩
    | _ => cases ht
  · cases ty with
    | int =>
      refine va_newa (atype := .int) (ty := .int) (N' := xa.toNat) (a0 := (xa.toNat, .inl (fun _ => 0))) hx hb (hts _ hw) rfl hK hH.2.2.1 hH.2.2.2.1 hH.2.2.2.2.1 hA (fun _ => rfl) hn hN (by show xa.toNat * 4 ≤ _; omega) h1 h2 hd (fun q cB H1 k1 p1 d1 s1 => ?_)
      have e1 : s.vm.findClass ("[" ++ FieldType.int.toString) = some cB := (k1.2 5 _ rfl).2
      have e2 : s.vm.findClass ("[" ++ FieldType.int.toString) = some (cA 1) := (hK' 1 _ rfl).2
      have e3 : cB = cA 1 := Option.some.inj (e1.symm.trans e2)
      subst e3
      exact karr_go (st := st) hPf hL hpf hG hlv hl hs1 hH p1 d1 s1 ⟨Or.inr (Or.inl rfl), rfl, (htot _).symm, by omega, fun i a ha => by rw [lk_one ha]; exact ⟨0, rfl, ae_z⟩⟩
    | _ => cases ht
  · cases ty with
    | long =>
      refine va_newa (atype := .long) (ty := .long) (N' := xa.toNat) (a0 := (xa.toNat, .inr (.inl (fun _ => 0)))) hx hb (hts _ hw) rfl hK hH.2.2.1 hH.2.2.2.1 hH.2.2.2.2.1 hA (fun _ => rfl) hn hN (by show xa.toNat * 8 ≤ _; omega) h1 h2 hd (fun q cB H1 k1 p1 d1 s1 => ?_)
      have e1 : s.vm.findClass ("[" ++ FieldType.long.toString) = some cB := (k1.2 5 _ rfl).2
      have e2 : s.vm.findClass ("[" ++ FieldType.long.toString) = some (cA 2) := (hK' 2 _ rfl).2
      have e3 : cB = cA 2 := Option.some.inj (e1.symm.trans e2)
      subst e3
      exact karr_go (st := st) hPf hL hpf hG hlv hl hs1 hH p1 d1 s1 ⟨rfl, rfl, (htot _).symm, by omega, fun i a ha => by rw [lk_one ha]; exact ⟨0, rfl, ae_L0⟩⟩
    | _ => cases ht
  · cases ty with
    | boolean =>
      refine va_newa (atype := .boolean) (ty := .boolean) (N' := xa.toNat) (a0 := (xa.toNat, .inl (fun _ => 0))) hx hb (hts _ hw) rfl hK hH.2.2.1 hH.2.2.2.1 hH.2.2.2.2.1 hA (fun _ => rfl) hn hN (by show xa.toNat * 1 ≤ _; omega) h1 h2 hd (fun q cB H1 k1 p1 d1 s1 => ?_)
      have e1 : s.vm.findClass ("[" ++ FieldType.boolean.toString) = some cB := (k1.2 5 _ rfl).2
      have e2 : s.vm.findClass ("[" ++ FieldType.boolean.toString) = some (cA 3) := (hK' 3 _ rfl).2
      have e3 : cB = cA 3 := Option.some.inj (e1.symm.trans e2)
      subst e3
      exact karr_go (st := st) hPf hL hpf hG hlv hl hs1 hH p1 d1 s1 ⟨Or.inr (Or.inr rfl), rfl, (htot _).symm, by omega, fun i a ha => by rw [lk_one ha]; exact ⟨0, rfl, ae_z⟩⟩
    | _ => cases ht
theorem kst_ok (hx : p.tables.exec = Jvm.exec) (hb : c.code = cc) (hml : c.maxLocals = nL) (hown : s.vm.findClass own = some m.cls) (hts : ∀ w ∈ Ts, w.before args s = true) (hK : va_K D cl (tysA cA) s) (hN : NOK s) (hO : va_AO "RookHusting$State" s) (h9 : ∃ (F : u_T) (N : Nat), cl[9]? = some ("RookHusting$State", F, N)) (hA : ∀ q, H0.size ≤ q → A q) (hgood : ∀ w ∈ Ts, GoodIn Ts (w :: Ts)) (hPf : ∀ ad ax, Pf ad → Pf (ad ++ ax)) {K : KTB} (hKO : KOK l own cl Ts K) (hin : K.1 = [] ∨ meth.name = "<init>") {b b' : KS} {ins : ClassFile.Instr} {len : Nat} (hd : decode cc b.1.1 = .ok (ins, len)) (h : kst K nL (R.frames, R.locals, R.cells, R.slots) ins len b = some b') (hL : KW (fun cs ss => WW p l e R s m args below meth c cs ss Q) Pf m nL D cl A H0 gv cA b') : KW (fun cs ss => WW p l e R s m args below meth c cs ss Q) Pf m nL D cl A H0 gv cA b := by
  unfold kst at h
  split at h
  · split at h
    · rename_i i ci N fs hlk
      split at h
      · rename_i hc
        obtain ⟨rfl, h1, h2⟩ := hc
        cases h
        exact knew_ok hx hb hown hts hK hA hPf (hKO.2.1 _ (look_mem hlk)) hd h1 h2 hL
      · cases h
    · cases h
  · split at h
    · rename_i ty x st t hst ht
      split at h
      · rename_i hc
        obtain ⟨rfl, h0, h1, h2, h3, h4, h5⟩ := hc
        cases h
        exact knewa_ok hx hb hts hK hA hPf ht (hKO.2.2.1 _ h3) hst h0 h1 h2 hd h4 h5 hL
      · cases h
    · cases h
  · split at h
    · rename_i i x st z hst hlk
      split at h
      · rename_i hc
        obtain ⟨rfl, h0, h1, h2, h4, h5⟩ := hc
        cases h
        intro ad es0 hpf g lv sv es ls H locs _ hG hlv hl hs hH
        rw [hst] at hs
        obtain ⟨w, sv1, rfl, g1, hs1⟩ := zf2_cons hs
        obtain ⟨xt, xa, xb⟩ := x
        simp only at h0 h1 h2
        subst h0
        obtain ⟨X, rfl, hX⟩ := g1
        simp only at hX
        have hn : ¬ X < 0 := ae_i0 hX h1
        have hNx : X.toNatClampNeg = xa.toNat := by rw [ae_cl, hX]
        refine va_newq (N' := xa.toNat) hx hb hown (hts _ (hKO.2.2.2.2.1 _ (look_mem hlk))) hO hK hH.2.2.1 hH.2.2.2.1 hH.2.2.2.2.1 hA hn hNx (by omega) h4 h5 hd (fun q cB H1 k1 p1 d1 s1 => ?_)
        obtain ⟨_, _, _, _, _, e1⟩ := (k1.2 5 _ rfl).2
        obtain ⟨_, _, _, _, _, e2⟩ := (hK.2 4 _ rfl).2
        have e3 : cB = cA 4 := Option.some.inj (e1.symm.trans e2)
        subst e3
        exact karr_go (st := st) hPf hL hpf hG hlv hl hs1 hH p1 d1 s1 ⟨rfl, rfl, by simp [tot], by omega, fun i a ha => by rw [lk_one ha]; rfl⟩
      · cases h
    · cases h
  · split at h
    · rename_i i v x st ci k hst hlk
      split at h
      · rename_i fl cj fs hcell
        split at h
        · rename_i hc
          obtain ⟨rfl, hx6, hv6, rfl, hkl⟩ := hc
          cases h
          intro ad es0 hpf g lv sv es ls H locs _ hG hlv hl hs hH
          rw [hst] at hs
          obtain ⟨w, sv1, rfl, g2, hs1⟩ := zf2_cons hs
          obtain ⟨w2, sv2, rfl, g3, hs2⟩ := zf2_cons hs1
          obtain ⟨adr, en, rfl, e1, e2, e3, e4⟩ := HS_get hH g3 hx6 hcell
          obtain ⟨vs, rfl, e5⟩ := relC_obj e3
          have hvr : ∃ q : Nat, w = .ref q := by
            obtain ⟨vt, va, vb⟩ := v
            simp only at hv6
            rcases hv6 with rfl | rfl
            · obtain ⟨q, -, rfl⟩ := g2
              exact ⟨q, rfl⟩
            · obtain ⟨q, -, rfl⟩ := g2
              exact ⟨q, rfl⟩
          obtain ⟨q, rfl⟩ := hvr
          obtain ⟨C, F, N, tyf, f1, f2, f3, f4, f5, f6, f7, f8, f9⟩ := hKO.1 _ (look_mem hlk)
          have hin2 : meth.name = "<init>" := by
            rcases hin with hin | hin
            · rw [hin] at hlk
              cases hlk
            · exact hin
          refine va_putF (D := D) hx hb hts f3 tyf f5 f6 hown hK hH.2.2.1 hH.2.2.2.1 hH.2.2.2.2.1 _ e4 f1 k f2 (hts _ f4) (fun _ h9 => h9) f8 hin2 f9 (f5 k f2) (f7 q).1 (f7 q).2 (by rw [← zf2_len e5]; exact hkl) hd (fun H1 locs1 p1 d1 s1 => ?_)
          exact hL ad es0 hpf g lv _ _ ls H1 locs1 gxt_nil hG hlv hl hs2 (HS_put (c' := .inl (ci, fs.set k v)) (e' := .inr (ci, vs.set k (.ref q))) hH e1 ⟨rfl, zf2_set g2 e5 k⟩ p1 d1 s1)
        · cases h
      · cases h
    · cases h
  · split at h
    · rename_i v i x st hst
      split at h
      · rename_i fl sg fl2 fs2 hcell hcell2
        split at h
        · rename_i hc
          obtain ⟨rfl, hx6, hv6, hi0, hi1, hi2⟩ := hc
          cases h
          intro ad es0 hpf g lv sv es ls H locs _ hG hlv hl hs hH
          rw [hst] at hs
          obtain ⟨w, sv1, rfl, g1, hs1⟩ := zf2_cons hs
          obtain ⟨w2, sv2, rfl, g2, hs2⟩ := zf2_cons hs1
          obtain ⟨w3, sv3, rfl, g3, hs3⟩ := zf2_cons hs2
          obtain ⟨adr, en, rfl, e1, e2, e3, e4⟩ := HS_get hH g3 hx6 hcell
          obtain ⟨adv, env, rfl, d1, d2, d3, d4⟩ := HS_get hH g1 hv6 hcell2
          obtain ⟨vs, rfl, d5⟩ := relC_obj d3
          obtain ⟨f, rfl, e5, e6⟩ := relC_arR e3
          obtain ⟨it, ia, ib⟩ := i
          simp only at hi0 hi1 hi2
          subst hi0
          obtain ⟨X, rfl, hX⟩ := g2
          simp only at hX
          obtain ⟨F9, N9, hc9⟩ := h9
          refine va_astq hx hb hK hH.2.2.1 hH.2.2.2.1 hH.2.2.2.2.1 _ 4 _ 9 e4 rfl d4 hc9 (vp_in_iff.mpr ⟨by omega, by omega⟩) hd (fun H1 locs1 p1 q1 s1 => ?_)
          refine hL ad es0 hpf g lv _ _ ls H1 locs1 gxt_nil hG hlv hl hs3 (HS_put hH e1 ?_ p1 q1 s1)
          refine ⟨rfl, rfl, stA_tot.symm, e5, fun j a ha => ?_⟩
          have hXn : X.toNatClampNeg = ia.toNat := by rw [ae_cl, hX]
          rw [hXn]
          rcases stA_lk ha with ⟨rfl, rfl⟩ | ⟨h1, h2⟩
          · simp only [va_up, if_pos]
            exact g1
          · simp only [va_up, if_neg h1]
            exact e6 j a h2
        · cases h
      · cases h
    · cases h
  · split at h
    · rename_i k v st hst
      split at h
      · rename_i hc
        obtain ⟨rfl, hv6, hk⟩ := hc
        cases h
        intro ad es0 hpf g lv sv es ls H locs _ hG hlv hl hs hH
        rw [hst] at hs
        obtain ⟨w, sv1, rfl, g1, hs1⟩ := zf2_cons hs
        obtain ⟨q, -, rfl⟩ := gam_ref g1 hv6
        refine lv_astore_n hx hb hd rfl hlv hk rfl (fun ls' hls' => ?_)
        exact hL ad es0 hpf g _ sv1 es ls' H locs gxt_nil hG hls' ⟨⟨rfl, g1, by show v.1 ≠ 8; omega⟩, flt1_ok _ hl⟩ hs1 hH
      · cases h
    · cases h
  · split at h
    · rename_i k v hv
      split at h
      · rename_i hc
        obtain ⟨rfl, ht⟩ := hc
        cases h
        intro ad es0 hpf g lv sv es ls H locs _ hG hlv hl hs hH
        obtain ⟨j, w, h1, h2, h3⟩ := fnd_ok hl hv
        have h2' := h2
        obtain ⟨tv, v1, v2⟩ := v
        simp only at ht
        subst ht
        obtain ⟨r, e1, rfl⟩ := h2
        exact lv_aload_n hx hb hd rfl (lv_at hlv j h1) (hL ad es0 hpf g lv _ es ls H locs gxt_nil hG hlv hl ⟨h2', hs⟩ hH)
      · cases h
    · cases h
  · split at h
    · rename_i i hc
      subst hc
      split at h
      · rename_i z hlk
        split at h
        · rename_i x st hst
          split at h
          · rename_i hc2
            obtain ⟨hx6, hf1, hf2, hf3, hall⟩ := hc2
            cases h
            intro ad es0 hpf g lv sv es ls H locs _ hG hlv hl hs hH
            rw [hst] at hs
            obtain ⟨w, sv1, rfl, g1, hs1⟩ := zf2_cons hs
            obtain ⟨q, -, rfl⟩ := gam_ref g1 hx6
            obtain ⟨o1, o2, o3⟩ := hKO.2.2.2.1 _ (look_mem hlk)
            have hsum := cat_sum hs1 hall
            have hroom : 2 * (F0 m b.1.1 ls sv1).monitorRoom + (sv1.map fun v => v.category).sum ≤ 8 := lv_room (m := m) (pc := b.1.1) (ls := ls) (rest := sv1) (st := sv1) (by rw [hsum]; exact hf3)
            refine W.objInit hx hb hown (hts _ o1) (hts _ o2) (hts _ o3) (g := F0 m b.1.1 ls (.ref q :: sv1)) rfl (by rw [hml]; exact hlv.1) rfl hd hf1 ?_ ?_
            · have h8 : 2 * (F0 m b.1.1 ls (.ref q :: sv1)).monitorRoom + (sv1.map fun v => v.category).sum ≤ 8 := hroom
              show 2 * (F0 m b.1.1 ls (.ref q :: sv1)).monitorRoom + (sv1.map fun v => v.category).sum + 12 ≤ R.locals
              have hf2 : (st.map catA).sum + 20 ≤ R.locals := hf2
              omega
            · exact hL ad es0 hpf g lv sv1 es ls H locs gxt_nil hG hlv hl hs1 hH
          · cases h
        · cases h
      · split at h
        · rename_i nest k hlk2
          obtain ⟨v1, v2⟩ := hKO.2.2.2.2.2 _ (look_mem hlk2)
          exact kcl_ok hx hb hml hown hts hK hN hO hA hgood hPf v1 v2 hd h hL
        · cases h
    · cases h
  · cases h
theorem runK_ok (hx : p.tables.exec = Jvm.exec) (hb : c.code = cc) {T : TB} (hml : c.maxLocals = T.2.1) (hown : s.vm.findClass own = some m.cls) (hts : ∀ w ∈ Ts, w.before args s = true) (hK : va_K D cl (tysA cA) s) (hN : NOK s) (hO : va_AO "RookHusting$State" s) (h9 : ∃ (F : u_T) (N : Nat), cl[9]? = some ("RookHusting$State", F, N)) (hA : ∀ q, H0.size ≤ q → A q) (hgood : ∀ w ∈ Ts, GoodIn Ts (w :: Ts)) (hPf : ∀ ad ax, Pf ad → Pf (ad ++ ax)) (hT : TOK own cl Ts cc T) {K : KTB} (hKO : KOK l own cl Ts K) (hin : K.1 = [] ∨ meth.name = "<init>") {stop : Nat} : ∀ (f : Nat) (b b' : KS), runK T K (R.frames, R.locals, R.cells, R.slots) stop f b = some b' → KW (fun cs ss => WW p l e R s m args below meth c cs ss Q) Pf m T.2.1 D cl A H0 gv cA b' → KW (fun cs ss => WW p l e R s m args below meth c cs ss Q) Pf m T.2.1 D cl A H0 gv cA b := by
  intro f
  induction f with
  | zero => intro b b' h; simp [runK] at h
  | succ f ih =>
    intro b b' h hW
    unfold runK at h
    split at h
    · cases h; exact hW
    · split at h
      · cases h
      · rename_i q hq
        have hd : decode cc b.1.1 = .ok (q.1, q.2) := hT.1 (b.1.1, q) (look_mem hq)
        split at h
        · rename_i b1 hb1
          have hW1 := ih b1 b' h hW
          unfold kstp at hb1
          split at hb1
          · rename_i a ha
            cases hb1
            intro ad es0 hpf
            exact stpA_ok hx hb hown hts hT hd ha (fun y hy => by rw [List.mem_singleton.mp hy]; exact hW1 ad es0 hpf)
          · cases hb1
          · split at hb1
            · rename_i a ha
              cases hb1
              intro ad es0 hpf
              exact stpH_ok hx hb hown hts hK hT hd ha (fun y hy => by rw [List.mem_singleton.mp hy]; exact hW1 ad es0 hpf)
            · cases hb1
            · exact kst_ok hx hb hml hown hts hK hN hO h9 hA hgood hPf hKO hin hd hb1 hW1
        · cases h
end KST
noncomputable def kArgs (n : Nat) : List AV := (6, 0, 0) :: (List.range n).map (fun j : Nat => (11, (j : Int), 0))
noncomputable def eqC : AC → AC → Bool
  | .inl x, .inl y => decide (x = y)
  | .inr x, .inr y => decide (x = y)
  | _, _ => false
noncomputable def eqCs : List AC → List AC → Bool
  | [], [] => true
  | a :: as, b :: bs => eqC a b && eqCs as bs
  | _, _ => false
theorem eqC_ok : ∀ {a b : AC}, eqC a b = true → a = b
  | .inl _, .inl _, h => congrArg Sum.inl (of_decide_eq_true h)
  | .inr _, .inr _, h => congrArg Sum.inr (of_decide_eq_true h)
  | .inl _, .inr _, h => by cases h
  | .inr _, .inl _, h => by cases h
theorem eqCs_ok : ∀ {as bs : List AC}, eqCs as bs = true → as = bs
  | [], [], _ => rfl
  | [], _ :: _, h => by cases h
  | _ :: _, [], h => by cases h
  | a :: as, b :: bs, h => by
    simp only [eqCs, Bool.and_eq_true] at h
    rw [eqC_ok h.1, eqCs_ok h.2]
/-- the interpreter over a constructor -/
noncomputable def kchk (T : TB) (K : KTB) (stop f : Nat) (k : KCon) : Bool := match runK T K (k.2.1.1, k.2.1.2, k.2.2.1.1, k.2.2.1.2) stop f ((0, lva 0 (kArgs k.2.2.2.1.1), [], [], [(false, .inl (k.2.2.2.1.2.1, k.2.2.2.1.2.2))]), 0, 0) with
  | some b => match look T.1 b.1.1, b.1.2.2.1, b.1.2.2.2.1 with
    | some (.return_, 1), [], [] => (decide (b.2 = k.2.2.1) && eqCs (b.1.2.2.2.2.map Prod.snd) k.2.2.2.2) && (decide (T.2.1 = k.1.2.2) && (decide (k.2.2.2.1.1 + 1 ≤ k.1.2.2) && k.2.2.2.1.2.2.all dfl))
    | _, _, _ => false
  | none => false
theorem kArgs_zf {r : Nat} {As : List Nat} {adn : List Nat} : zf2 (gam [] (As.map Value.ref, r :: adn)) (kArgs As.length) (Value.ref r :: As.map Value.ref) := by
  refine ⟨⟨r, rfl, rfl⟩, zf2_of (by simp) (fun i a b ha hb => ?_)⟩
  rw [List.getElem?_map] at ha
  cases hi : (List.range As.length)[i]? with
  | none => rw [hi] at ha; cases ha
  | some j =>
    rw [hi] at ha
    cases ha
    obtain ⟨h1, h2⟩ := List.getElem?_eq_some_iff.mp hi
    rw [List.getElem_range] at h2
    subst h2
    have hb' := hb
    rw [List.getElem?_map] at hb
    cases hj : As[i]? with
    | none => rw [hj] at hb; cases hb
    | some q =>
      rw [hj] at hb
      cases hb
      exact ⟨q, by show (As.map Value.ref)[((i : Int)).toNat]? = _; rw [Int.toNat_natCast]; exact hb', rfl⟩
theorem kArgs_all (n : Nat) : (kArgs n).all (fun q => decide (q.1 ≠ 8)) = true := by
  simp [kArgs]
theorem kArgs_cat (n : Nat) : ((kArgs n).map catA).sum = n + 1 := by
  have h : ∀ l : List Nat, ((l.map (fun j : Nat => ((11, (j : Int), 0) : AV))).map catA).sum = l.length := by
    intro l
    induction l with
    | nil => rfl
    | cons a l ih =>
      simp only [List.map_cons, List.sum_cons, List.length_cons, ih]
      show 1 + _ = _
      omega
  unfold kArgs
  rw [List.map_cons, List.sum_cons, h, List.length_range]
  show 1 + n = n + 1
  omega
theorem kcon_ok {l : Launch} {cl : List vw_C} {Ts : List Jvm.Cond} (h9 : ∃ (F : u_T) (N : Nat), cl[9]? = some ("RookHusting$State", F, N)) (hgood : ∀ w ∈ Ts, GoodIn Ts (w :: Ts)) {k : KCon} {T : TB} {K : KTB} {stop f : Nat} (hy : plainName k.1.1.cls = true) (hnm : k.1.1.name = "<init>") (hT : TOK k.1.1.cls cl Ts k.1.2.1 T) (hKO : KOK l k.1.1.cls cl Ts K) (h : kchk T K stop f k = true) : KVld l cl Ts k := by
  unfold kchk at h
  split at h
  · rename_i b hrun
    split at h
    · rename_i hlk hst hG0
      simp only [Bool.and_eq_true, decide_eq_true_eq] at h
      obtain ⟨⟨h1, h2⟩, h3, h4, h5⟩ := h
      have h2 := eqCs_ok h2
      intro D cA r As sz hAl
      refine Met.ofW (cc := k.1.2.1) (maxL := k.1.2.2) (ret := none) hy rfl ?_
      intro p e s m args below meth c s₁ B hml hv
      obtain ⟨rfl, hsz, hP, hK, hD, hN, hO⟩ := hv
      subst hsz
      have hts0 := atoms_spec (ws := .code k.1.1 k.1.2.1 k.1.2.2 none :: Ts) B.pre
      have hts : ∀ w ∈ Ts, w.before (Value.ref r :: As.map Value.ref).toArray s = true := fun w hw => hts0 w (List.mem_cons_of_mem _ hw)
      have hown : s.vm.findClass k.1.1.cls = some m.cls := findClass_of_methodNamed B.named
      have hin : meth.name = "<init>" := (name_of_methodNamed B.named B.method).1.trans hnm
      have hz0 : zf2 (gam [] (As.map Value.ref, [r])) (kArgs k.2.2.2.1.1) (Value.ref r :: As.map Value.ref) := by rw [← hAl]; exact kArgs_zf
      have hl := lv_entry (Value.ref r :: As.map Value.ref) (n := k.1.2.2) (by rw [sl_len hz0 (kArgs_all _), kArgs_cat]; exact h4)
      rw [lg_entry_eq]
      generalize (lg_sl (Value.ref r :: As.map Value.ref) ++ List.replicate (k.1.2.2 - (lg_sl (Value.ref r :: As.map Value.ref)).length) Slot.unset).toArray = ls at hl ⊢
      have hKW := runK_ok (p := p) (e := e) (R := rmK k) (s := s) (m := m) (args := (Value.ref r :: As.map Value.ref).toArray) (below := below) (meth := meth) (c := c) (Q := MQ below (QcK D cl cA k r As s.heap.size) (Value.ref r :: As.map Value.ref).toArray s k.2.2.1.1 k.2.2.1.2 (va_A [(r, e0K k)] s.heap.size)) (D := D) (cA := cA) (A := va_A [(r, e0K k)] s.heap.size) (H0 := s.heap) (gv := As.map Value.ref) (Pf := fun ad => ∃ adn, ad = r :: adn) B.exec B.bytes (hml.trans h3.symm) hown hts hK hN hO h9 (fun q hq => Or.inr hq) hgood (fun ad ax hp => by obtain ⟨adn, rfl⟩ := hp; exact ⟨adn ++ ax, rfl⟩) hT hKO (Or.inr hin) f _ b hrun ?_
      · exact hKW [r] [e0K k] ⟨[], rfl⟩ [] (lv_args 0 (Value.ref r :: As.map Value.ref)) [] [e0K k] ls s.heap [] gxt_nil trivial (by rw [h3]; exact hl) (lva_ok hz0 (kArgs_all _)) trivial ⟨⟨⟨rfl, dfl_zf h5⟩, trivial⟩, fun _ _ _ _ => rfl, hP, hD.self (sz := s.heap.size), va_S.rf, rfl⟩
      · intro ad es0 hpf g lv sv es ls' H locs _ hG hlv hl' hs hH
        obtain ⟨adn, rfl⟩ := hpf
        rw [hG0] at hG
        cases g with
        | cons _ _ => exact hG.elim
        | nil =>
          rw [hst] at hs
          cases sv with
          | cons _ _ => exact hs.elim
          | nil =>
            have hd : decode k.1.2.1 b.1.1 = .ok (.return_, 1) := hT.1 (b.1.1, (.return_, 1)) (look_mem hlk)
            rw [h1]
            refine W.vret B.exec B.bytes B.returns (fun t ht hW => ⟨⟨(adn, es), rfl, ⟨?_, hH.2.2.2.2.2⟩, by rw [ht]; exact hH.2.2.1, hH.2.2.2.1⟩, hH.2.2.2.2.1.F ht⟩) hH.2.2.2.2.1.2.2 hd B.notSynchronized
            rw [← h2]
            exact zf2_map hH.1
    · cases h
  · cases h
