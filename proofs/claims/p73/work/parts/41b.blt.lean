/-! ===== built-ins: texts, ORDERS, Math.abs of a long ===== -/
noncomputable def chI : List (List Int) := [[99, 111, 114, 110], [100, 97, 121, 115], [102, 105, 101, 108, 100], [102, 114, 105, 103, 104, 116, 115], [104, 97, 116, 115], [104, 101, 100, 103, 101], [104, 117, 110, 100, 114, 101, 100], [108, 97, 119], [109, 97, 110], [111, 100, 100, 115], [114, 111, 111, 107, 115], [116, 105, 114, 101, 115], [118, 111, 116, 101, 114]]
theorem chI_len : ∀ i : Nat, i < 13 → (chI.getD i []).length = lnK.getD i 0 := by decide
theorem chI_ok : ∀ i : Nat, i < 13 → ∀ j : Nat, j < lnK.getD i 0 → (chI.getD i [])[j]? = some (((byK.getD i []).getD j 0 &&& 255).toInt) := by decide
theorem lnK_small : ∀ i : Nat, i < 13 → lnK.getD i 0 < 100 := by decide
theorem lnK_int : ∀ i : Nat, i < 13 → (Int32.ofNat (lnK.getD i 0)).toInt = (lnK.getD i 0 : Nat) := by decide
noncomputable def hulZ : List Int → Option (Int × Int)
  | [] => none
  | x :: r => match hulZ r with
    | some q => some (min x q.1, max x q.2)
    | none => some (x, x)
theorem hulZ_ok : ∀ {L : List Int} {q : Int × Int} {x : Int}, hulZ L = some q → x ∈ L → inI q x
  | [], _, _, h, _ => by cases h
  | y :: r, q, x, h, hx => by
    unfold hulZ at h
    split at h
    · rename_i q' hq'
      cases h
      rcases List.mem_cons.mp hx with rfl | hx
      · unfold inI; simp only; omega
      · have := hulZ_ok hq' hx
        unfold inI at this ⊢
        simp only
        omega
    · rename_i hn
      cases h
      rcases List.mem_cons.mp hx with rfl | hx
      · unfold inI; simp only; omega
      · cases r with
        | nil => cases hx
        | cons a b =>
          exfalso
          unfold hulZ at hn
          split at hn <;> cases hn
theorem orK_ok : ∀ j : Nat, j < 8 → 1 ≤ (orK.getD j 0).toInt ∧ (orK.getD j 0).toInt ≤ 5040 := by decide
theorem tx_ix {k : Int32} {n : Nat} (hn : n < 100) (h1 : 0 ≤ k.toInt) (h2 : k.toInt < (n : Int)) : ¬ k < 0 ∧ k < Int32.ofNat n ∧ vp_in k n ∧ (k.toNatClampNeg : Int) = k.toInt := by
  have e1 : ¬ k < 0 := by rw [ae_lt0]; omega
  have e2 : (Int32.ofNat n).toInt = (n : Int) := nI_toInt (n := n) (by omega)
  have e3 : (k.toNatClampNeg : Int) = k.toInt := by rw [ae_cl]; omega
  refine ⟨e1, by rw [Int32.lt_iff_toInt_lt, e2]; exact h2, ?_, e3⟩
  intro h
  rcases h with h | h
  · exact e1 h
  · omega
/-- a text's length -/
noncomputable def txL (R : Nat × Nat) (a : AS) : Option (List AS) := match a.2.2.1 with
  | x :: st => if x.1 = 13 ∧ x.2.1.toNat < 13 ∧ 2 ≤ R.1 ∧ 40 ≤ R.2 ∧ (st.map catA).sum ≤ 8 ∧ st.all (fun q => decide (q.1 ≠ 8)) = true then some [(a.1 + 3, a.2.1, (0, ((lnK.getD x.2.1.toNat 0 : Nat) : Int), 0) :: st, a.2.2.2.1, a.2.2.2.2)] else none
  | _ => none
/-- a text's char -/
noncomputable def txC (R : Nat × Nat) (a : AS) : Option (List AS) := match a.2.2.1 with
  | i :: x :: st => if x.1 = 13 ∧ x.2.1.toNat < 13 ∧ 4 ≤ R.1 ∧ 85 ≤ R.2 ∧ (st.map catA).sum ≤ 8 ∧ st.all (fun q => decide (q.1 ≠ 8)) = true then (match ivI a.2.2.2.1 i with
    | some q => if 0 ≤ q.1 ∧ q.2 < ((lnK.getD x.2.1.toNat 0 : Nat) : Int) then (match hulZ (((chI.getD x.2.1.toNat []).drop q.1.toNat).take (q.2.toNat + 1 - q.1.toNat)) with
      | some r => some [(a.1 + 3, a.2.1, (mk2 a.2.2.2.1 r).2 :: st, (mk2 a.2.2.2.1 r).1, a.2.2.2.2)]
      | none => none) else none
    | none => none) else none
  | _ => none
noncomputable def absA (R : Nat × Nat) (a : AS) : Option (List AS) := match a.2.2.1 with
  | x :: st => if 1 ≤ R.1 ∧ (st.map catA).sum + 13 ≤ R.2 ∧ st.all (fun q => decide (q.1 ≠ 8)) = true then (match ivL a.2.2.2.1 x with
    | some p => if 0 ≤ p.1 then some [(a.1 + 3, a.2.1, x :: st, a.2.2.2.1, a.2.2.2.2)] else some [(a.1 + 3, a.2.1, (mk5 a.2.2.2.1 (-9223372036854775808, 9223372036854775807)).2 :: st, (mk5 a.2.2.2.1 (-9223372036854775808, 9223372036854775807)).1, a.2.2.2.2)]
    | none => none) else none
  | _ => none
noncomputable def orL (a : AS) : Option (List AS) := match a.2.2.1 with
  | i :: x :: st => if x = (13, 13, 0) then (match ivI a.2.2.2.1 i with
    | some q => if 0 ≤ q.1 ∧ q.2 < 8 then some [(a.1 + 1, a.2.1, (mk2 a.2.2.2.1 (1, 5040)).2 :: st, (mk2 a.2.2.2.1 (1, 5040)).1, a.2.2.2.2)] else none
    | none => none) else none
  | _ => none
noncomputable def stpB (_ : TB) (BT : List (Nat × Nat)) (R : Nat × Nat) (ins : ClassFile.Instr) (len : Nat) (a : AS) : Option (List AS) := match ins with
  | .ldc i => if len = 2 then (match look BT i with
    | some b => if 100 ≤ b then some (psh a 2 (a.2.2.2.1, (13, ((b - 100 : Nat) : Int), 0))) else none
    | none => none) else none
  | .getstatic i => if len = 3 then (match look BT i with
    | some b => if b = 8 ∨ b = 9 then some (psh a 3 (a.2.2.2.1, (13, 13, 0))) else none
    | none => none) else none
  | .iaload => if len = 1 then orL a else none
  | .invokevirtual i => if len = 3 then (match look BT i with
    | some b => if b = 6 then txL R a else if b = 7 then txC R a else none
    | none => none) else none
  | .invokestatic i => if len = 3 then (match look BT i with
    | some b => if b = 5 then absA R a else none
    | none => none) else none
  | _ => none
/-- a call that leaves all that is ours as it was -/
theorem HS_tx {D : va_G} {cl : List vw_C} {A : Nat → Prop} {H0 : Heap} {V : EV} {cA : Nat → ClassId} {es0 : List va_E} {hp : HP} {g : List Int} {es : List va_E} {H H1 : Heap} {locs locs1 : List Loc} (hH : HS D cl A H0 V cA es0 hp g es H locs) (hk : ∀ q : Nat, q < H.size → ¬ va_A (zw [] []) H.size q → H1[q]? = H[q]?) (hS1 : va_S A H0 H1 locs1) : HS D cl A H0 V cA es0 hp g es H1 locs1 := by
  obtain ⟨h1, h2, h3, h4, h5, h6⟩ := hH
  refine ⟨h1, h2, ?_, h4, hS1, h6⟩
  refine h3.kept (fun k q hq => hk q.1 (h3 k q hq).lt (fun h => ?_))
  rcases h with ⟨k2, e2, h⟩ | h
  · exact absurd h (by show ¬ (([] : List (Nat × va_E))[k2]? = _); simp)
  · have := (h3 k q hq).lt
    omega
section BLT
variable {p : Program} {l : Launch} {e : Env} {R : Room} {s : State} {m : MethodId} {args : Array Value} {below : List Frame} {meth : Method} {c : Code} {cs0 ss0 : Nat} {Q : State → Prop} {cc : ByteArray} {own : String} {Ts : List Jvm.Cond} {D : va_G} {cl : List vw_C} {A : Nat → Prop} {V : EV} {cA : Nat → ClassId} {es0 : List va_E} {g0 : List Int}
theorem kr_tx {E : EvK} {va0 : List Value} (hVK : V.1 = va0 ++ KRof E) {i : Nat} (hi : i < 13) : V.1.reverse[i]? = some (.ref (E.1 i)) := by rw [hVK]; exact KR_get hi
theorem kr_or {E : EvK} {va0 : List Value} (hVK : V.1 = va0 ++ KRof E) : V.1.reverse[13]? = some (.ref E.2.2.1) := by rw [hVK]; exact KR_ord
theorem gam_tx {g : List Int} {x : AV} {w : Value} {E : EvK} {va0 : List Value} (hVK : V.1 = va0 ++ KRof E) (h : gam g V x w) (h1 : x.1 = 13) (h2 : x.2.1.toNat < 13) : w = .ref (E.1 x.2.1.toNat) := by
  obtain ⟨t, a, b⟩ := x
  simp only at h1 h2
  subst h1
  obtain ⟨r, e1, rfl⟩ := h
  have e1 : V.1.reverse[a.toNat]? = some (.ref r) := e1
  rw [kr_tx hVK h2] at e1
  cases e1
  rfl
theorem stpB_ok (hx : p.tables.exec = Jvm.exec) (hb : c.code = cc) {T : TB} (hml : c.maxLocals = T.2.1) (hown : s.vm.findClass own = some m.cls) (hts : ∀ w ∈ Ts, w.before args s = true) (hgood : ∀ w ∈ Ts, GoodIn Ts (w :: Ts)) (hN : NOK s) (hA : ∀ q, s.heap.size ≤ q → A q) (hK : va_K D cl (tysA cA) s) {BT : List (Nat × Nat)} (hXT : XOK own Ts BT) {E : EvK} (hE : EOK E s s.heap) (hA0 : ∀ q, A q → E.2.2.2 q) {va0 : List Value} (hVK : V.1 = va0 ++ KRof E) (hcs : cs0 ≤ R.cells) (hss : ss0 ≤ R.slots) {a : AS} {ins : ClassFile.Instr} {len : Nat} {L : List AS} (hd : decode cc a.1 = .ok (ins, len)) (h : stpB T BT (R.frames, R.locals) ins len a = some L) (hL : ∀ x ∈ L, WA (WW p l e R s m args below meth c cs0 ss0 Q) m T.2.1 D cl A s.heap V cA es0 g0 x) : WA (WW p l e R s m args below meth c cs0 ss0 Q) m T.2.1 D cl A s.heap V cA es0 g0 a := by
  unfold stpB at h
  split at h
  · split at h
    · rename_i i hc; subst hc
      split at h
      · rename_i b hlk
        split at h
        · rename_i h100
          cases h
          obtain ⟨tx, w1, w2⟩ := (hXT _ (look_mem hlk)).2.2.2.2.2.2.2 h100
          intro g lv sv es ls H locs h0 hG hlv hl hs hH
          refine va_ldcS hx hb hown (hE.1 _ w1) hd (WA_psh hL h0 hlv hl hs hH gxt_rf hG ?_)
          refine ⟨_, ?_, rfl⟩
          show V.1.reverse[((b - 100 : Nat) : Int).toNat]? = _
          rw [Int.toNat_natCast]
          exact kr_tx hVK (by simp only at w2; omega)
        · cases h
      · cases h
    · cases h
  · split at h
    · rename_i i hc; subst hc
      split at h
      · rename_i b hlk
        split at h
        · rename_i h89
          cases h
          intro g lv sv es ls H locs h0 hG hlv hl hs hH
          have hg : gam g V (13, 13, 0) (.ref E.2.2.1) := ⟨_, kr_or hVK, rfl⟩
          rcases h89 with rfl | rfl
          · have w1 := (hXT _ (look_mem hlk)).2.2.2.2.2.1 rfl
            exact va_gets hx hb (hE.2.2.2.1.narrow hA0) hH.2.2.2.2.1 hown (hts _ w1) (fun _ h => h) hd (WA_psh hL h0 hlv hl hs hH gxt_rf hG hg)
          · obtain ⟨w1, w2⟩ := (hXT _ (look_mem hlk)).2.2.2.2.2.2.1 rfl
            simp only at w2
            subst w1
            subst w2
            exact va_getsN hx hb (hE.2.2.2.1.narrow hA0) hH.2.2.2.2.1 hown (va_Nw.use rfl hE.2.1) (fun _ h => h) hd (WA_psh hL h0 hlv hl hs hH gxt_rf hG hg)
        · cases h
      · cases h
    · cases h
  · split at h
    · rename_i hc; subst hc
      intro g lv sv es ls H locs h0 hG hlv hl hs hH
      unfold orL at h
      split at h
      · rename_i i x st hst
        split at h
        · rename_i hxe
          split at h
          · rename_i q hq
            split at h
            · rename_i hb2
              cases h
              rw [hst] at hs
              obtain ⟨vi, sv1, rfl, hi, hs1⟩ := zf2_cons hs
              obtain ⟨vx, sv2, rfl, hx2, hs2⟩ := zf2_cons hs1
              obtain ⟨X, rfl, hX⟩ := ivI_ok hG hi hq
              rw [hxe] at hx2
              obtain ⟨r, e1, rfl⟩ := hx2
              have e1 : V.1.reverse[13]? = some (.ref r) := e1
              rw [kr_or hVK] at e1
              cases e1
              unfold inI at hX
              obtain ⟨i1, i2, i3, i4⟩ := tx_ix (k := X) (n := 8) (by decide) (by omega) (by omega)
              have i5 := orK_ok X.toNatClampNeg (by omega)
              obtain ⟨g', e1, e2, e3⟩ := mk2_ok (V := V) (q := (1, 5040)) hG (orK.getD X.toNatClampNeg 0) i5
              exact va_ti hx hb (hE.2.2.2.2.1.narrow hA0) hH.2.2.2.2.1 i3 rfl hd (hL _ (List.mem_singleton.mpr rfl) g' lv _ es ls H locs (gxt_tr h0 e1) e2 hlv (loc_ext e1 hl) ⟨e3, st_ext e1 hs2⟩ (HS_ext e1 hH))
            · cases h
          · cases h
        · cases h
      · cases h
    · cases h
  · split at h
    · rename_i i hc; subst hc
      split at h
      · rename_i b hlk
        split at h
        · rename_i h6
          subst h6
          obtain ⟨w1, hJ⟩ := (hXT _ (look_mem hlk)).2.2.2.1 rfl
          intro g lv sv es ls H locs h0 hG hlv hl hs hH
          unfold txL at h
          split at h
          · rename_i x st hst
            split at h
            · rename_i hr
              obtain ⟨r1, r2, r3, r4, r5, r6⟩ := hr
              cases h
              rw [hst] at hs
              obtain ⟨vx, sv1, rfl, hx2, hs1⟩ := zf2_cons hs
              have hxv := gam_tx hVK hx2 r1 r2
              subst hxv
              have hO1 := (hE.2.2.1 _ r2).1.narrow hA0
              have hrun := va_runV (l := l) (e := e) (R := R) (C := RJ0) (below := below) (meth := meth) (H := H) (locs := locs) (cells := cs0) (slots := ss0) (b := E.1 x.2.1.toNat) (As := []) (rest := sv1) (g := F0 m a.1 ls (.ref (E.1 x.2.1.toNat) :: sv1)) ⟨hx, hb, hml, hown, hts⟩ (mt_len (cl := cl) (Ts := Ts) (E := E) (D := D) (cA := cA) (sz := H.size) hgood hJ r2) ⟨callB_of 0 hts (hgood _ (JOK_at hJ 0 rfl)) rfl rfl rfl (hts _ (JOK_at hJ 14 rfl)) (hts _ w1) ⟨by decide, by decide, by decide +kernel⟩ ⟨r3, r4⟩, hts _ (JOK_at hJ 26 rfl), hts _ (JOK_at hJ 27 rfl)⟩ ⟨tx_blind, va_Orecv hO1 hH.2.2.2.2.1, tx_pre hK hN hE hA0 hA hH.2.2.2.2.1 _⟩ rfl rfl hlv.1 rfl (lv_room (st := sv1) (by rw [cat_sum hs1 r6]; exact r5)) hd ⟨hcs, hss⟩
              refine my_call (P := fun oc _ => oc = .returned (some (.int (Int32.ofNat (lnK.getD x.2.1.toNat 0))))) (A0 := A) (H0 := s.heap) hrun hH.2.2.2.2.1 (fun q _ h => tx_free hA hH.2.2.2.2.1 q h) (tx_free hA hH.2.2.2.2.1) (fun v t H1 locs1 ht hO hz hk hS1 => ?_)
              cases hO
              exact hL _ (List.mem_singleton.mpr rfl) g lv _ es ls H1 locs1 h0 hG hlv hl ⟨⟨_, rfl, lnK_int _ r2⟩, hs1⟩ (HS_tx hH hk hS1)
            · cases h
          · cases h
        · split at h
          · rename_i h7
            subst h7
            obtain ⟨w1, hJ⟩ := (hXT _ (look_mem hlk)).2.2.2.2.1 rfl
            intro g lv sv es ls H locs h0 hG hlv hl hs hH
            unfold txC at h
            split at h
            · rename_i i' x st hst
              split at h
              · rename_i hr
                obtain ⟨r1, r2, r3, r4, r5, r6⟩ := hr
                split at h
                · rename_i q hq
                  split at h
                  · rename_i hin
                    split at h
                    · rename_i rr hrr
                      cases h
                      rw [hst] at hs
                      obtain ⟨vi, sv1, rfl, hi, hs1⟩ := zf2_cons hs
                      obtain ⟨vx, sv2, rfl, hx2, hs2⟩ := zf2_cons hs1
                      obtain ⟨X, rfl, hX⟩ := ivI_ok hG hi hq
                      have hxv := gam_tx hVK hx2 r1 r2
                      subst hxv
                      unfold inI at hX
                      obtain ⟨i1, i2, i3, i4⟩ := tx_ix (k := X) (n := lnK.getD x.2.1.toNat 0) (lnK_small _ r2) (by omega) (by omega)
                      have i5 := chI_ok _ r2 X.toNatClampNeg (by omega)
                      have i6 : ((byK.getD x.2.1.toNat []).getD X.toNatClampNeg 0 &&& 255).toInt ∈ ((chI.getD x.2.1.toNat []).drop q.1.toNat).take (q.2.toNat + 1 - q.1.toNat) := by
                        refine List.mem_of_getElem? (i := X.toNatClampNeg - q.1.toNat) ?_
                        rw [List.getElem?_take_of_lt (by omega), List.getElem?_drop, show q.1.toNat + (X.toNatClampNeg - q.1.toNat) = X.toNatClampNeg by omega]
                        exact i5
                      have i7 := hulZ_ok hrr i6
                      have hO1 := (hE.2.2.1 _ r2).1.narrow hA0
                      have hrun := va_runV (l := l) (e := e) (R := R) (C := RJ0) (below := below) (meth := meth) (H := H) (locs := locs) (cells := cs0) (slots := ss0) (b := E.1 x.2.1.toNat) (As := [.int X]) (rest := sv2) (g := F0 m a.1 ls (.int X :: .ref (E.1 x.2.1.toNat) :: sv2)) ⟨hx, hb, hml, hown, hts⟩ (mt_char (cl := cl) (Ts := Ts) (E := E) (D := D) (cA := cA) (sz := H.size) hgood hJ r2 i1 i2 i3) ⟨callB_of 1 hts (hgood _ (JOK_at hJ 1 rfl)) rfl rfl rfl (hts _ (JOK_at hJ 14 rfl)) (hts _ w1) ⟨by decide, by decide, by decide +kernel⟩ ⟨r3, r4⟩, hts _ (JOK_at hJ 28 rfl), hts _ (JOK_at hJ 29 rfl)⟩ ⟨tx_blind, va_Orecv hO1 hH.2.2.2.2.1, tx_pre hK hN hE hA0 hA hH.2.2.2.2.1 _⟩ rfl rfl hlv.1 rfl (lv_room (st := sv2) (by rw [cat_sum hs2 r6]; exact r5)) hd ⟨hcs, hss⟩
                      refine my_call (P := fun oc _ => oc = .returned (some (.int ((byK.getD x.2.1.toNat []).getD X.toNatClampNeg 0 &&& 255)))) (A0 := A) (H0 := s.heap) hrun hH.2.2.2.2.1 (fun q _ h => tx_free hA hH.2.2.2.2.1 q h) (tx_free hA hH.2.2.2.2.1) (fun v t H1 locs1 ht hO hz hk hS1 => ?_)
                      cases hO
                      obtain ⟨g', e1, e2, e3⟩ := mk2_ok (V := V) (q := rr) hG _ i7
                      exact hL _ (List.mem_singleton.mpr rfl) g' lv _ es ls H1 locs1 (gxt_tr h0 e1) e2 hlv (loc_ext e1 hl) ⟨e3, st_ext e1 hs2⟩ (HS_ext e1 (HS_tx hH hk hS1))
                    · cases h
                  · cases h
                · cases h
              · cases h
            · cases h
          · cases h
      · cases h
    · cases h
  · split at h
    · rename_i i hc; subst hc
      split at h
      · rename_i b hlk
        split at h
        · rename_i h5
          subst h5
          obtain ⟨w1, w2, w3, w4⟩ := (hXT _ (look_mem hlk)).2.2.1 rfl
          intro g lv sv es ls H locs h0 hG hlv hl hs hH
          unfold absA at h
          split at h
          · rename_i x st hst
            split at h
            · rename_i hr
              split at h
              · rename_i pp hp
                rw [hst] at hs
                obtain ⟨vx, sv1, rfl, hx2, hs1⟩ := zf2_cons hs
                obtain ⟨X, rfl, hX⟩ := ivL_ok hG hx2 hp
                refine va_mabs_long hx hb (hml.trans hlv.1.symm) hown (hts _ w1) (hts _ w2) (hts _ w3) (hts _ w4) hr.1 (by rw [cat_sum hs1 hr.2.2]; exact hr.2.1) hcs hss hd ?_
                split at h
                · rename_i h00
                  cases h
                  have hX2 : (if 0 < X then X else -X) = X := by
                    unfold inI at hX
                    split
                    · rfl
                    · rename_i hn
                      rw [Int64.lt_iff_toInt_lt, show (0 : Int64).toInt = 0 from by decide] at hn
                      have hz : X = 0 := Int64.toInt_inj.mp (by rw [show (0 : Int64).toInt = 0 from by decide]; omega)
                      rw [hz]
                      decide
                  rw [hX2]
                  exact hL _ (List.mem_singleton.mpr rfl) g lv _ es ls H locs h0 hG hlv hl ⟨hx2, hs1⟩ hH
                · cases h
                  obtain ⟨g', e1, e2, e3⟩ := mk5_ok (V := V) (q := (-9223372036854775808, 9223372036854775807)) hG (if 0 < X then X else -X) (topL_ok _)
                  exact hL _ (List.mem_singleton.mpr rfl) g' lv _ es ls H locs (gxt_tr h0 e1) e2 hlv (loc_ext e1 hl) ⟨e3, st_ext e1 hs1⟩ (HS_ext e1 hH)
              · cases h
            · cases h
          · cases h
        · cases h
      · cases h
    · cases h
  · cases h
end BLT
