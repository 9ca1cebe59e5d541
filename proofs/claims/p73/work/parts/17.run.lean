/-! ===== a whole method ===== -/
/-- System.arraycopy of a whole row of ints -/
noncomputable def acp (R : Nat × Nat) (a : AS) : Option (List AS) := match a.2.2.1 with
  | n :: dp :: y :: sp :: x :: st => if x.1 = 6 ∧ y.1 = 6 ∧ 1 ≤ R.1 ∧ (st.map catA).sum + (nativeFrameWords "java/lang/System" "arraycopy" 5 + 11) ≤ R.2 ∧ st.all (fun q => decide (q.1 ≠ 8)) = true then (match a.2.2.2.2[x.2.1.toNat]?, a.2.2.2.2[y.2.1.toNat]?, ivI a.2.2.2.1 n, ivI a.2.2.2.1 dp, ivI a.2.2.2.1 sp with
    | some (_, .inr (1, s1)), some (_, .inr (1, s2)), some qn, some qd, some qs => if qn.1 = (tot s1 : Int) ∧ qn.2 = (tot s1 : Int) ∧ tot s1 = tot s2 ∧ qd.1 = 0 ∧ qd.2 = 0 ∧ qs.1 = 0 ∧ qs.2 = 0 then some [(a.1 + 3, a.2.1, st, a.2.2.2.1, a.2.2.2.2.set y.2.1.toNat (true, .inr (1, s1)))] else none
    | _, _, _, _, _ => none) else none
  | _ => none
noncomputable def subG : GI → GI → Bool
  | _, [] => true
  | p :: ps, q :: qs => decide (q.1 ≤ p.1 ∧ p.2 ≤ q.2) && subG ps qs
  | [], _ :: _ => false
noncomputable def BOK (own : String) (Ts : List Jvm.Cond) (BT : List (Nat × Nat)) : Prop := ∀ q ∈ BT, q.2 = 1 → Jvm.Cond.methodLink own q.1 arraycopyName ∈ Ts ∧ Jvm.Cond.native arraycopyName ∈ Ts ∧ Jvm.Cond.static arraycopyName ∈ Ts ∧ Jvm.Cond.initialized "java/lang/System" ∈ Ts
section RUN
variable {p : Program} {l : Launch} {e : Env} {R : Room} {s : State} {m : MethodId} {args : Array Value} {below : List Frame} {meth : Method} {c : Code} {cs0 ss0 : Nat} {Q : State → Prop} {cc : ByteArray} {own : String} {Ts : List Jvm.Cond} {D : va_G} {cl : List vw_C} {A : Nat → Prop} {V : EV} {cA : Nat → ClassId} {es0 : List va_E} {g0 : List Int}
theorem ae_int0 {q : Int × Int} {x : Int32} {z : Int} (h : inI q x.toInt) (h1 : q.1 = z) (h2 : q.2 = z) : x.toInt = z := by unfold inI at h; omega
theorem acp_ok (hx : p.tables.exec = Jvm.exec) (hb : c.code = cc) {nL : Nat} (hml : c.maxLocals = nL) (hown : s.vm.findClass own = some m.cls) (hts : ∀ w ∈ Ts, w.before args s = true) (hK : va_K D cl (tysA cA) s) {i : Nat} (hB : Jvm.Cond.methodLink own i arraycopyName ∈ Ts ∧ Jvm.Cond.native arraycopyName ∈ Ts ∧ Jvm.Cond.static arraycopyName ∈ Ts ∧ Jvm.Cond.initialized "java/lang/System" ∈ Ts) {a : AS} {L : List AS}
    (hd : decode cc a.1 = .ok (.invokestatic i, 3)) (h : acp (R.frames, R.locals) a = some L) (hL : ∀ x ∈ L, WA (WW p l e R s m args below meth c cs0 ss0 Q) m nL D cl A s.heap V cA es0 g0 x) : WA (WW p l e R s m args below meth c cs0 ss0 Q) m nL D cl A s.heap V cA es0 g0 a := by
  intro g lv sv es ls H locs h0 hG hlv hl hs hH
  unfold acp at h
  split at h
  · rename_i n dp y sp x st hst
    split at h
    · rename_i hc0
      obtain ⟨ht1, ht2, hf1, hf2, hall⟩ := hc0
      split at h
      · rename_i f1 s1 f2 s2 qn qd qs hc1 hc2 hqn hqd hqs
        split at h
        · rename_i hc
          cases h
          rw [hst] at hs
          obtain ⟨w1, sv1, rfl, g1, hs1⟩ := zf2_cons hs
          obtain ⟨w2, sv2, rfl, g2, hs2⟩ := zf2_cons hs1
          obtain ⟨w3, sv3, rfl, g3, hs3⟩ := zf2_cons hs2
          obtain ⟨w4, sv4, rfl, g4, hs4⟩ := zf2_cons hs3
          obtain ⟨w5, sv5, rfl, g5, hs5⟩ := zf2_cons hs4
          obtain ⟨xn, rfl, en⟩ := ivI_ok hG g1 hqn
          obtain ⟨xd, rfl, ed⟩ := ivI_ok hG g2 hqd
          obtain ⟨xs, rfl, exs⟩ := ivI_ok hG g4 hqs
          have en' := ae_int0 en hc.1 hc.2.1
          have ed' := ae_int0 ed hc.2.2.2.1 hc.2.2.2.2.1
          have es' := ae_int0 exs hc.2.2.2.2.2.1 hc.2.2.2.2.2.2
          obtain ⟨a1, n1, rfl, b1, b2, b3, b4⟩ := HS_get hH g5 ht1 hc1
          obtain ⟨a2, n2, rfl, d1, d2, d3, d4⟩ := HS_get hH g3 ht2 hc2
          obtain ⟨ff, rfl, k1, k2⟩ := relC_arI b3 (Or.inr (Or.inl rfl))
          obtain ⟨fg, rfl, k3, k4⟩ := relC_arI d3 (Or.inr (Or.inl rfl))
          have zn : xn.toNatClampNeg = tot s1 := by rw [ae_cl, en']; omega
          have zd : xd.toNatClampNeg = 0 := by rw [ae_cl, ed']; rfl
          have zs : xs.toNatClampNeg = 0 := by rw [ae_cl, es']; rfl
          refine va_copyi hx hb (hml.trans hlv.1.symm) hown (hts _ hB.1) (hts _ hB.2.1) (hts _ hB.2.2.1) (hts _ hB.2.2.2) hK hH.2.2.1 hH.2.2.2.1 hH.2.2.2.2.1 _ _ 1 1 b4 d4 rfl rfl rfl (by rw [ae_lt0, es']; omega) (by rw [ae_lt0, ed']; omega) (by rw [ae_lt0, en']; omega) (by rw [zn, zs]; omega) (by rw [zn, zd]; omega) (fun _ _ => rfl) hf1 (by rw [cat_sum hs5 hall]; exact hf2) hd (fun H1 locs1 p1 e1 s1' => ?_)
          refine hL _ (List.mem_singleton.mpr rfl) g lv _ _ ls H1 locs1 h0 hG hlv hl hs5 (HS_put hH d1 ?_ p1 e1 s1')
          refine ⟨Or.inr (Or.inl rfl), rfl, hc.2.2.1.symm, by rw [← hc.2.2.1]; exact k1, fun j bb hbb => ?_⟩
          have hj : j < tot s1 := lk_lt hbb
          rw [zs, zd, zn, pk_cpy_in (sp := 0) (dp := 0) (n := tot s1) (Nat.zero_le j) (by omega)]
          simpa using k2 j bb hbb
        · cases h
      · cases h
    · cases h
  · cases h
theorem subG_ok {g0 : List Int} : ∀ {G G' : GI} {g : List Int}, GS G g → gxt g0 g → G'.length = g0.length → subG G G' = true → GS G' g0 := by
  intro G G' g hG hx hl hs
  obtain ⟨ex, rfl⟩ := hx
  induction g0 generalizing G G' with
  | nil => cases G' with
    | nil => trivial
    | cons _ _ => simp at hl
  | cons z zs ih => cases G' with
    | nil => simp at hl
    | cons q qs => cases G with
      | nil => exact hG.elim
      | cons r rs =>
        simp only [subG, Bool.and_eq_true, decide_eq_true_eq] at hs
        have h1 := hG.1
        unfold inI at h1
        exact ⟨by unfold inI; omega, ih (G := rs) (G' := qs) (by simpa using hl) hs.2 hG.2⟩
end RUN
