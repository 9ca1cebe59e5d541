/-! ===== System.arraycopy of any stretch ===== -/
noncomputable def joA (G : GI) (h : AV) : List (Nat × AV) → Option (List (Nat × AV))
  | [] => some []
  | q :: r => match joi G q.2 h, joA G h r with
    | some b, some s => some ((q.1, b) :: s)
    | _, _ => none
theorem joA_ok {G : GI} {h : AV} : ∀ {sg sg' : List (Nat × AV)}, joA G h sg = some sg' → tot sg' = tot sg ∧ ∀ (i : Nat) (b : AV), lk sg' i = some b → ∃ a, lk sg i = some a ∧ joi G a h = some b
  | [], sg', hh => by cases hh; exact ⟨rfl, fun i b hb => by cases hb⟩
  | (n, a) :: r, sg', hh => by
    unfold joA at hh
    split at hh
    · rename_i b s h1 h2
      cases hh
      have ih := joA_ok h2
      refine ⟨by simp only [tot]; rw [ih.1], fun i c hc => ?_⟩
      unfold lk at hc ⊢
      split at hc
      · rename_i hi
        cases hc
        rw [if_pos hi]
        exact ⟨a, rfl, h1⟩
      · rename_i hi
        rw [if_neg hi]
        exact ih.2 _ c hc
    · cases hh
theorem lk_mem : ∀ {sg : List (Nat × AV)} {i : Nat} {a : AV}, lk sg i = some a → a ∈ sg.map Prod.snd
  | [], _, _, h => by cases h
  | (n, b) :: r, i, a, h => by
    unfold lk at h
    split at h
    · cases h; exact List.mem_cons_self
    · exact List.mem_cons_of_mem _ (lk_mem h)
noncomputable def hulA (G : GI) (t : Nat) (sg : List (Nat × AV)) : Option AV := if t = 1 then (match hulI G (sg.map Prod.snd) with
  | some q => some (2, q.1, q.2)
  | none => none) else (match hulL G (sg.map Prod.snd) with
  | some q => some (5, q.1, q.2)
  | none => none)
noncomputable def acpW (d : Nat) (R : Nat × Nat) (a : AS) (r : RLs) : Option (List AS) := match a.2.2.1 with
  | n :: dp :: y :: sp :: x :: st => if x.1 = 6 ∧ y.1 = 6 ∧ 1 ≤ R.1 ∧ (st.map catA).sum + (nativeFrameWords "java/lang/System" "arraycopy" 5 + 11) ≤ R.2 ∧ st.all (fun q => decide (q.1 ≠ 8)) = true ∧ n.1 ≤ 2 ∧ dp.1 ≤ 2 ∧ sp.1 ≤ 2 then (match a.2.2.2.2[x.2.1.toNat]?, a.2.2.2.2[y.2.1.toNat]?, linA n, linA dp, linA sp with
    | some (_, .inr (t1, s1)), some (_, .inr (t2, s2)), some wn, some wd, some ws => if t1 = t2 ∧ (t1 = 1 ∨ t1 = 2) ∧ (ent d a.2.2.2.1 r wn && (ent d a.2.2.2.1 r wd && (ent d a.2.2.2.1 r ws && (ent d a.2.2.2.1 r (sbC (sbC ([], (tot s1 : Int)) ws) wn) && ent d a.2.2.2.1 r (sbC (sbC ([], (tot s2 : Int)) wd) wn))))) = true then (match hulA a.2.2.2.1 t1 s1 with
      | some h => (match joA a.2.2.2.1 h s2 with
        | some s3 => some [(a.1 + 3, a.2.1, st, a.2.2.2.1, a.2.2.2.2.set y.2.1.toNat (true, .inr (t1, s3)))]
        | none => none)
      | none => none) else none
    | _, _, _, _, _ => none) else none
  | _ => none
section ACPW
variable {p : Program} {l : Launch} {e : Env} {R : Room} {s : State} {m : MethodId} {args : Array Value} {below : List Frame} {meth : Method} {c : Code} {cs0 ss0 : Nat} {Q : State → Prop} {cc : ByteArray} {own : String} {Ts : List Jvm.Cond} {D : va_G} {cl : List vw_C} {A : Nat → Prop} {V : EV} {cA : Nat → ClassId} {es0 : List va_E} {g0 : List Int}
theorem acpW_ok (hx : p.tables.exec = Jvm.exec) (hb : c.code = cc) {nL : Nat} (hml : c.maxLocals = nL) (hown : s.vm.findClass own = some m.cls) (hts : ∀ w ∈ Ts, w.before args s = true) (hK : va_K D cl (tysA cA) s) {i : Nat} (hB : Jvm.Cond.methodLink own i arraycopyName ∈ Ts ∧ Jvm.Cond.native arraycopyName ∈ Ts ∧ Jvm.Cond.static arraycopyName ∈ Ts ∧ Jvm.Cond.initialized "java/lang/System" ∈ Ts) {a : AS} {r : RLs} {d : Nat} {L : List AS}
    (hd : decode cc a.1 = .ok (.invokestatic i, 3)) (h : acpW d (R.frames, R.locals) a r = some L) {gs : List Int} (hrl : RLok r gs) (hL : ∀ x ∈ L, WA (WW p l e R s m args below meth c cs0 ss0 Q) m nL D cl A s.heap V cA es0 gs x) : WA (WW p l e R s m args below meth c cs0 ss0 Q) m nL D cl A s.heap V cA es0 gs a := by
  intro g lv sv es ls H locs h0 hG hlv hl hs hH
  have hrg : RLok r g := RLok_ext h0 hrl
  unfold acpW at h
  split at h
  · rename_i n dp y sp x st hst
    split at h
    · rename_i hc0
      obtain ⟨ht1, ht2, hf1, hf2, hall, hn2, hd2, hs2'⟩ := hc0
      split at h
      · rename_i f1 t1 s1 f2 t2 s2 wn wd ws hc1 hc2 hwn hwd hws
        split at h
        · rename_i hc
          obtain ⟨rfl, ht, hen⟩ := hc
          simp only [Bool.and_eq_true] at hen
          obtain ⟨n1, n2, n3, n4, n5⟩ := hen
          split at h
          · rename_i hh hhul
            split at h
            · rename_i s3 hs3
              cases h
              rw [hst] at hs
              obtain ⟨w1, sv1, rfl, g1, hs1⟩ := zf2_cons hs
              obtain ⟨w2, sv2, rfl, g2, hs2⟩ := zf2_cons hs1
              obtain ⟨w3, sv3, rfl, g3, hs3'⟩ := zf2_cons hs2
              obtain ⟨w4, sv4, rfl, g4, hs4⟩ := zf2_cons hs3'
              obtain ⟨w5, sv5, rfl, g5, hs5⟩ := zf2_cons hs4
              obtain ⟨xn, rfl⟩ := gam_int g1 hn2
              obtain ⟨xd, rfl⟩ := gam_int g2 hd2
              obtain ⟨xs, rfl⟩ := gam_int g4 hs2'
              have en := (linA_ok g1 hwn rfl).2
              have ed := (linA_ok g2 hwd rfl).2
              have exs := (linA_ok g4 hws rfl).2
              have m1 := ent_ok hG hrg n1
              have m2 := ent_ok hG hrg n2
              have m3 := ent_ok hG hrg n3
              have m4 := ent_ok hG hrg n4
              have m5 := ent_ok hG hrg n5
              rw [sbC_ev, sbC_ev] at m4 m5
              have c4 : evC g (([], (tot s1 : Int)) : LC) = (tot s1 : Int) := by simp [evC, evT]
              have c5 : evC g (([], (tot s2 : Int)) : LC) = (tot s2 : Int) := by simp [evC, evT]
              rw [c4] at m4
              rw [c5] at m5
              rw [en] at m1 m4 m5
              rw [ed] at m2 m5
              rw [exs] at m3 m4
              obtain ⟨a1, e1, rfl, b1, b2, b3, b4⟩ := HS_get hH g5 ht1 hc1
              obtain ⟨a2, e2, rfl, d1, d2, d3, d4⟩ := HS_get hH g3 ht2 hc2
              have cn := ae_cl xn
              have cd := ae_cl xd
              have cs := ae_cl xs
              obtain ⟨j1, j2⟩ := joA_ok hs3
              rcases ht with rfl | rfl
              · unfold hulA at hhul
                rw [if_pos rfl] at hhul
                split at hhul
                · rename_i q hq
                  cases hhul
                  obtain ⟨ff, rfl, k1, k2⟩ := relC_arI b3 (Or.inr (Or.inl rfl))
                  obtain ⟨fg, rfl, k3, k4⟩ := relC_arI d3 (Or.inr (Or.inl rfl))
                  refine va_copyi hx hb (hml.trans hlv.1.symm) hown (hts _ hB.1) (hts _ hB.2.1) (hts _ hB.2.2.1) (hts _ hB.2.2.2) hK hH.2.2.1 hH.2.2.2.1 hH.2.2.2.2.1 _ _ 1 1 b4 d4 rfl rfl rfl (by rw [ae_lt0]; omega) (by rw [ae_lt0]; omega) (by rw [ae_lt0]; omega) (by omega) (by omega) (fun _ _ => rfl) hf1 (by rw [cat_sum hs5 hall]; exact hf2) hd (fun H1 locs1 p1 q1 s1' => ?_)
                  refine hL _ (List.mem_singleton.mpr rfl) g lv _ _ ls H1 locs1 h0 hG hlv hl hs5 (HS_put hH d1 ?_ p1 q1 s1')
                  refine ⟨Or.inr (Or.inl rfl), rfl, j1.symm, k3, fun j bb hbb => ?_⟩
                  obtain ⟨ba, hba, hjo⟩ := j2 j bb hbb
                  by_cases hin : xd.toNatClampNeg ≤ j ∧ j < xd.toNatClampNeg + xn.toNatClampNeg
                  · rw [pk_cpy_in hin.1 hin.2]
                    obtain ⟨aa, haa⟩ := lk_some (sg := s1) (i := xs.toNatClampNeg + (j - xd.toNatClampNeg)) (by omega)
                    obtain ⟨yy, hy1, hy2⟩ := hulI_ok hG (k2 _ aa haa) (lk_mem haa) hq
                    exact joi_r hG hjo ⟨yy, hy1, hy2.1, hy2.2⟩
                  · rw [pk_cpy_out (by omega)]
                    exact joi_l hG hjo (k4 j ba hba)
                · cases hhul
              · unfold hulA at hhul
                rw [if_neg (by decide)] at hhul
                split at hhul
                · rename_i q hq
                  cases hhul
                  obtain ⟨ff, rfl, k1, k2⟩ := relC_arL b3
                  obtain ⟨fg, rfl, k3, k4⟩ := relC_arL d3
                  refine va_copyl hx hb (hml.trans hlv.1.symm) hown (hts _ hB.1) (hts _ hB.2.1) (hts _ hB.2.2.1) (hts _ hB.2.2.2) hK hH.2.2.1 hH.2.2.2.1 hH.2.2.2.2.1 _ _ 2 2 b4 d4 rfl rfl rfl (by rw [ae_lt0]; omega) (by rw [ae_lt0]; omega) (by rw [ae_lt0]; omega) (by omega) (by omega) (fun _ _ => rfl) hf1 (by rw [cat_sum hs5 hall]; exact hf2) hd (fun H1 locs1 p1 q1 s1' => ?_)
                  refine hL _ (List.mem_singleton.mpr rfl) g lv _ _ ls H1 locs1 h0 hG hlv hl hs5 (HS_put hH d1 ?_ p1 q1 s1')
                  refine ⟨rfl, rfl, j1.symm, k3, fun j bb hbb => ?_⟩
                  obtain ⟨ba, hba, hjo⟩ := j2 j bb hbb
                  by_cases hin : xd.toNatClampNeg ≤ j ∧ j < xd.toNatClampNeg + xn.toNatClampNeg
                  · rw [pk_cpy_in hin.1 hin.2]
                    obtain ⟨aa, haa⟩ := lk_some (sg := s1) (i := xs.toNatClampNeg + (j - xd.toNatClampNeg)) (by omega)
                    obtain ⟨yy, hy1, hy2⟩ := hulL_ok hG (k2 _ aa haa) (lk_mem haa) hq
                    exact joi_r hG hjo ⟨yy, hy1, hy2.1, hy2.2⟩
                  · rw [pk_cpy_out (by omega)]
                    exact joi_l hG hjo (k4 j ba hba)
                · cases hhul
            · cases h
          · cases h
        · cases h
      · cases h
    · cases h
  · cases h
end ACPW
