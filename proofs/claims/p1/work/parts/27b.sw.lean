/-! ===== the law's switch, case by case ===== -/
/-- a way without branches, to a place -/
def runS (T : TB) (XS : List (AV × AV)) (LN : AV) (stop : Nat) : Nat → AS → Option AS
  | 0, _ => none
  | f + 1, a => if a.1 = stop then some a else match look T.1 a.1 with
    | none => none
    | some q => match stpE XS LN q.1 q.2 a with
      | some [b] => runS T XS LN stop f b
      | some _ => none
      | none => match stpA T q.1 q.2 a with
        | some [b] => runS T XS LN stop f b
        | _ => none
def allIx (P : Int → Int → Prop) : List Int → Int → Prop
  | [], _ => True
  | off :: r, v => P off v ∧ allIx P r (v + 1)
def cok (P : AS → Bool) (a : AS) (st : List AV) (x : AV) (off v : Int) : Bool := match rfI 0 a.2.2.2.1 x (0, v, 0) with
  | some L1 => decide (0 ≤ (a.1 : Int) + off ∧ -2147483648 ≤ v ∧ v ≤ 2147483647) && (L1.map fun G => ((((a.1 : Int) + off).toNat, a.2.1, st, G, a.2.2.2.2) : AS)).all P
  | none => false
def dok (P : AS → Bool) (a : AS) (st : List AV) (x : AV) (d lo hi : Int) : Bool := match rfI 2 a.2.2.2.1 x (0, lo, 0), rfI 4 a.2.2.2.1 x (0, hi, 0) with
  | some L2, some L3 => ((L2 ++ L3).map fun G => ((((a.1 : Int) + d).toNat, a.2.1, st, G, a.2.2.2.2) : AS)).all P
  | _, _ => false
theorem tsw_all {P : AS → Bool} {a : AS} {st : List AV} {x : AV} : ∀ {offs : List Int} {v : Int}, allIx (fun off v => cok P a st x off v = true) offs v → ∃ L, tsw a st x offs v = some L ∧ L.all P = true
  | [], _, _ => ⟨[], rfl, rfl⟩
  | off :: r, v, h => by
    obtain ⟨L2, h1, h2⟩ := tsw_all h.2
    have h3 : cok P a st x off v = true := h.1
    unfold cok at h3
    split at h3
    · rename_i L1 hL1
      simp only [Bool.and_eq_true, decide_eq_true_eq] at h3
      refine ⟨(L1.map fun G => ((((a.1 : Int) + off).toNat, a.2.1, st, G, a.2.2.2.2) : AS)) ++ L2, ?_, ?_⟩
      · unfold tsw
        rw [hL1, h1]
        simp only
        rw [if_pos h3.1]
      · rw [List.all_append, h3.2, h2]
        rfl
    · cases h3
theorem sw_ok {P : AS → Bool} {a : AS} {st : List AV} {x : AV} {d lo hi : Int} {offs : Array Int} (hst : a.2.2.1 = x :: st) (hb : -2147483648 ≤ lo ∧ lo ≤ hi ∧ hi ≤ 2147483647 ∧ hi - lo + 1 = (offs.toList.length : Int) ∧ 0 ≤ (a.1 : Int) + d) (hc : allIx (fun off v => cok P a st x off v = true) offs.toList lo) (hd : dok P a st x d lo hi = true) : ∃ L, tsd a d lo hi offs = some L ∧ L.all P = true := by
  obtain ⟨L1, h1, h2⟩ := tsw_all hc
  unfold dok at hd
  split at hd
  · rename_i L2 L3 e2 e3
    refine ⟨L1 ++ ((L2 ++ L3).map fun G => ((((a.1 : Int) + d).toNat, a.2.1, st, G, a.2.2.2.2) : AS)), ?_, ?_⟩
    · unfold tsd
      rw [hst]
      simp only
      rw [if_pos hb, h1, e2, e3]
    · rw [List.all_append, h2, hd]
      rfl
  · cases hd
section RUNS
variable {p : Program} {l : Launch} {e : Env} {s : State} {m : MethodId} {below : List Frame} {meth : Method} {c : Code} {cs0 ss0 : Nat} {b : Nat} {Ts : List Jvm.Cond} {D : va_G} {cl : List vw_C} {V : EV} {cA : Nat → ClassId} {es0 : List va_E} {g0 : List Int} {L : Nat} {xs : Nat → Int32}
theorem runS_ok (hx : p.tables.exec = Jvm.exec) (hb : c.code = code) {T : TB} (hown : s.vm.findClass R_law = some m.cls) (hts : ∀ w ∈ Ts, w.before #[Value.ref b] s = true) (hT : TOK R_law cl Ts code T) (hX : va_X b L xs s s.heap) (hbl : b < s.heap.size) (hV : V.1[0]? = some (.ref b)) {XS : List (AV × AV)} {LN : AV} (hLN : ∀ g, gxt g0 g → gam g V LN (.int L.toInt32)) (hXS : ∀ q ∈ XS, ∀ (g : List Int) (v : Value), gxt g0 g → gam g V q.1 v → ∃ X : Int32, v = .int X ∧ vp_in X L ∧ gam g V q.2 (.int (xs X.toNatClampNeg))) {stop : Nat} : ∀ (f : Nat) (a a' : AS), runS T XS LN stop f a = some a' →
    WA (WW p l e room_1 s m #[Value.ref b] below meth c cs0 ss0 (lw_Z below #[Value.ref b] s)) m T.2.1 D cl (fun q : Nat => s.heap.size ≤ q) s.heap V cA es0 g0 a' → WA (WW p l e room_1 s m #[Value.ref b] below meth c cs0 ss0 (lw_Z below #[Value.ref b] s)) m T.2.1 D cl (fun q : Nat => s.heap.size ≤ q) s.heap V cA es0 g0 a := by
  intro f
  induction f with
  | zero => intro a a' h; simp [runS] at h
  | succ f ih =>
    intro a a' h hW
    unfold runS at h
    split at h
    · cases h; exact hW
    · split at h
      · cases h
      · rename_i q hq
        have hd : decode code a.1 = .ok (q.1, q.2) := hT.1 (a.1, q) (look_mem hq)
        split at h
        · rename_i b1 hb1
          exact stpE_ok hx hb hX hbl hV hLN hXS hd hb1 (fun y hy => by rw [List.mem_singleton.mp hy]; exact ih b1 a' h hW)
        · cases h
        · split at h
          · rename_i b1 hb1
            exact stpA_ok hx hb hown hts hT hd hb1 (fun y hy => by rw [List.mem_singleton.mp hy]; exact ih b1 a' h hW)
          · cases h
end RUNS
def aSw : AS := (33, [(3, (0, 0, 0)), (2, (6, 109, 0)), (1, (6, 0, 0)), (0, (11, 0, 0))], [(1, 6, 0)], [((-2147483648), 2147483647), ((-2147483648), 2147483647), ((-2147483648), 2147483647), ((-2147483648), 2147483647), ((-2147483648), 2147483647), ((-2147483648), 2147483647), (0, 127)], hp_0)
theorem rl_to : runS tb_L_law XS_6 (0, 6, 0) 33 20 (16, [(2, (6, 109, 0)), (1, (6, 0, 0)), (0, (11, 0, 0))], [], [((-2147483648), 2147483647), ((-2147483648), 2147483647), ((-2147483648), 2147483647), ((-2147483648), 2147483647), ((-2147483648), 2147483647), ((-2147483648), 2147483647)], hp_0) = some aSw := by rfl
