/-! ===== more steps: longs, Math, a nest mate's static method ===== -/
noncomputable def BinL (F : Int × Int → Int × Int → Int × Int) (op : Int64 → Int64 → Int64) : Prop := ∀ (p q : Int × Int) (x y : Int64), inI p x.toInt → inI q y.toInt → inI (F p q) (op x y).toInt
noncomputable def clL (q : Int × Int) : Int × Int := if -9223372036854775808 ≤ q.1 ∧ q.2 ≤ 9223372036854775807 then q else topL
noncomputable def laddF (p q : Int × Int) : Int × Int := clL (p.1 + q.1, p.2 + q.2)
noncomputable def lsubF (p q : Int × Int) : Int × Int := clL (p.1 - q.2, p.2 - q.1)
noncomputable def lmulF (p q : Int × Int) : Int × Int := if 0 ≤ p.1 ∧ 0 ≤ q.1 then clL (p.1 * q.1, p.2 * q.2) else topL
noncomputable def ldivF (p q : Int × Int) : Int × Int := if 0 ≤ p.1 ∧ 0 < q.1 then (0, p.2 / q.1) else topL
noncomputable def lremF (p q : Int × Int) : Int × Int := if 0 ≤ p.1 ∧ 0 < q.1 then (0, min p.2 (q.2 - 1)) else topL
theorem laddF_ok : BinL laddF (fun x y => x + y) := by
  intro p q x y hx hy
  unfold laddF clL
  unfold inI at hx hy
  split
  · rename_i h
    simp only at h
    unfold inI
    simp only
    rw [Int64.toInt_add, ae_bmL (by omega) (by omega)]
    omega
  · exact topL_ok _
theorem lsubF_ok : BinL lsubF (fun x y => x - y) := by
  intro p q x y hx hy
  unfold lsubF clL
  unfold inI at hx hy
  split
  · rename_i h
    simp only at h
    unfold inI
    simp only
    rw [Int64.toInt_sub, ae_bmL (by omega) (by omega)]
    omega
  · exact topL_ok _
theorem lmulF_ok : BinL lmulF (fun x y => x * y) := by
  intro p q x y hx hy
  unfold lmulF clL
  unfold inI at hx hy
  split
  · rename_i h0
    split
    · rename_i h
      simp only at h
      have m1 : p.1 * q.1 ≤ x.toInt * y.toInt := Int.mul_le_mul hx.1 hy.1 h0.2 (by omega)
      have m2 : x.toInt * y.toInt ≤ p.2 * q.2 := Int.mul_le_mul hx.2 hy.2 (by omega) (by omega)
      unfold inI
      simp only
      rw [Int64.toInt_mul, ae_bmL (by omega) (by omega)]
      omega
    · exact topL_ok _
  · exact topL_ok _
theorem ae_ldiv {x y : Int64} (hx : 0 ≤ x.toInt) : (x / y).toInt = x.toInt / y.toInt := by
  rw [Int64.toInt_div_of_ne_left x y (fun h => by rw [h] at hx; exact absurd hx (by decide)), Int.tdiv_eq_ediv_of_nonneg hx]
theorem ae_lrem {x y : Int64} (hx : 0 ≤ x.toInt) (hy : 0 < y.toInt) : (x - x / y * y).toInt = x.toInt % y.toInt := by
  have b1 := Int64.toInt_lt x
  have h1 : x.toInt / y.toInt * y.toInt ≤ x.toInt := Int.ediv_mul_le _ (by omega)
  have h2 : 0 ≤ x.toInt / y.toInt * y.toInt := Int.mul_nonneg (Int.ediv_nonneg hx (by omega)) (by omega)
  have h3 := Int.emod_add_mul_ediv x.toInt y.toInt
  rw [Int.mul_comm] at h3
  rw [Int64.toInt_sub, Int64.toInt_mul, ae_ldiv hx, ae_bmL (z := x.toInt / y.toInt * y.toInt) (by omega) (by omega), ae_bmL (by omega) (by omega)]
  omega
theorem ldivF_ok : BinL ldivF (fun x y => x / y) := by
  intro p q x y hx hy
  unfold ldivF
  unfold inI at hx hy
  split
  · rename_i h
    simp only
    rw [ae_ldiv (by omega)]
    refine ⟨Int.ediv_nonneg (by omega) (by omega), ?_⟩
    show x.toInt / y.toInt ≤ p.2 / q.1
    refine Int.le_trans (Int.ediv_le_ediv (by omega) hx.2) ?_
    apply Int.le_ediv_of_mul_le h.2
    have h5 : p.2 / y.toInt * q.1 ≤ p.2 / y.toInt * y.toInt := Int.mul_le_mul_of_nonneg_left hy.1 (Int.ediv_nonneg (by omega) (by omega))
    have h6 : p.2 / y.toInt * y.toInt ≤ p.2 := Int.ediv_mul_le _ (by omega)
    omega
  · exact topL_ok _
theorem lremF_ok : BinL lremF (fun x y => x - x / y * y) := by
  intro p q x y hx hy
  unfold lremF
  unfold inI at hx hy
  split
  · rename_i h
    simp only
    rw [ae_lrem (by omega) (by omega)]
    have h1 := Int.emod_nonneg x.toInt (show y.toInt ≠ 0 by omega)
    have h2 := Int.emod_lt_of_pos x.toInt (show 0 < y.toInt by omega)
    have h3 : x.toInt % y.toInt ≤ x.toInt := by
      have := Int.emod_add_mul_ediv x.toInt y.toInt
      have h4 : 0 ≤ y.toInt * (x.toInt / y.toInt) := Int.mul_nonneg (by omega) (Int.ediv_nonneg (by omega) (by omega))
      omega
    exact ⟨h1, by simp only; omega⟩
  · exact topL_ok _
noncomputable def binL (F : Int × Int → Int × Int → Int × Int) (a : AS) : Option (List AS) := match a.2.2.1 with
  | y :: x :: st => (match ivL a.2.2.2.1 x, ivL a.2.2.2.1 y with
    | some p, some q => some [(a.1 + 1, a.2.1, (mk5 a.2.2.2.1 (F p q)).2 :: st, (mk5 a.2.2.2.1 (F p q)).1, a.2.2.2.2)]
    | _, _ => none)
  | _ => none
/-- is the divisor on the stack not 0 -/
noncomputable def posL (a : AS) : Bool := match a.2.2.1 with
  | y :: _ => match ivL a.2.2.2.1 y with
    | some q => decide (0 < q.1 ∨ q.2 < 0)
    | none => false
  | [] => false
noncomputable def l2iA (G : GI) (a : AV) : Option (GI × AV) := match ivL G a with
  | some p => if -2147483648 ≤ p.1 ∧ p.2 ≤ 2147483647 then (match a.1 with
    | 3 => some (G, (0, a.2.1, a.2.2))
    | 4 => some (G, (1, a.2.1, a.2.2))
    | _ => some (mk2 G p)) else some (mk2 G topI)
  | none => none
theorem l2iA_ok {G : GI} {g : List Int} {V : EV} {a : AV} {v : Value} {r : GI × AV} (hG : GS G g) (h : gam g V a v) (hr : l2iA G a = some r) : ∃ x : Int64, v = .long x ∧ ∃ g', gxt g g' ∧ GS r.1 g' ∧ gam g' V r.2 (.int x.toInt32) := by
  unfold l2iA at hr
  split at hr
  · rename_i p hp
    obtain ⟨x, rfl, hx⟩ := ivL_ok hG h hp
    refine ⟨x, rfl, ?_⟩
    unfold inI at hx
    split at hr
    · rename_i hc
      have he : x.toInt32.toInt = x.toInt := by rw [Int64.toInt_toInt32, ae_bm (by omega) (by omega)]
      obtain ⟨t, b, c⟩ := a
      split at hr
      · rename_i ht
        simp only at ht
        subst ht
        cases hr
        obtain ⟨y, e1, e2⟩ := h
        cases e1
        exact ⟨g, gxt_rf, hG, _, rfl, by rw [he]; exact e2⟩
      · rename_i ht
        simp only at ht
        subst ht
        cases hr
        obtain ⟨y, e1, z, e2, e3⟩ := h
        cases e1
        exact ⟨g, gxt_rf, hG, _, rfl, z, e2, by rw [he]; exact e3⟩
      · cases hr
        exact mk2_ok hG _ (by unfold inI; rw [he]; exact hx)
    · cases hr
      exact mk2_ok hG _ (topI_ok _)
  · cases hr
noncomputable def flt2 (i : Nat) (loc : List (Nat × AV)) : List (Nat × AV) := loc.filter (fun q => !(q.1 == i) && (!(q.1 == i + 1) && !(q.1 + 1 == i && catA q.2 == 2)))
theorem flt2_ok {g : List Int} {V : EV} {loc : List (Nat × AV)} {lv : List (Nat × Value)} (i : Nat) (h : zf2 (locR g V) loc lv) : zf2 (locR g V) (flt2 i loc) (lv.filter (fun q => !(q.1 == i) && (!(q.1 == i + 1) && !(q.1 + 1 == i && q.2.category == 2)))) :=
  zf2_filter (fun a b r => by obtain ⟨h1, h2, h3⟩ := r; rw [h1, gam_cat h2 h3]) h
noncomputable def stL (nL : Nat) (a : AS) (i len : Nat) : Option (List AS) := match a.2.2.1 with
  | v :: st => if (3 ≤ v.1 ∧ v.1 ≤ 5) ∧ i + 1 < nL then some [(a.1 + len, (i, v) :: flt2 i a.2.1, st, a.2.2.2.1, a.2.2.2.2)] else none
  | [] => none
/-- Math.max (true), Math.min (false) of two ints -/
noncomputable def mxm (b : Bool) (R : Nat × Nat) (a : AS) : Option (List AS) := match a.2.2.1 with
  | y :: x :: st => (match ivI a.2.2.2.1 x, ivI a.2.2.2.1 y with
    | some p, some q => if 1 ≤ R.1 ∧ (st.map catA).sum + 13 ≤ R.2 ∧ st.all (fun q => decide (q.1 ≠ 8)) = true then (if b = true then some [(a.1 + 3, a.2.1, (mk2 a.2.2.2.1 (max p.1 q.1, max p.2 q.2)).2 :: st, (mk2 a.2.2.2.1 (max p.1 q.1, max p.2 q.2)).1, a.2.2.2.2)] else some [(a.1 + 3, a.2.1, (mk2 a.2.2.2.1 (min p.1 q.1, min p.2 q.2)).2 :: st, (mk2 a.2.2.2.1 (min p.1 q.1, min p.2 q.2)).1, a.2.2.2.2)]) else none
    | _, _ => none)
  | _ => none
noncomputable def stpX (T : TB) (BT : List (Nat × Nat)) (R : Nat × Nat) (ins : ClassFile.Instr) (len : Nat) (a : AS) : Option (List AS) := match ins with
  | .lstore_n k => if len = 1 then stL T.2.1 a k 1 else none
  | .lstore i => if len = 2 then stL T.2.1 a i 2 else none
  | .ladd => if len = 1 then binL laddF a else none
  | .lsub => if len = 1 then binL lsubF a else none
  | .lmul => if len = 1 then binL lmulF a else none
  | .ldiv => if len = 1 ∧ posL a = true then binL ldivF a else none
  | .lrem => if len = 1 ∧ posL a = true then binL lremF a else none
  | .lshr => if len = 1 then lgt true a else none
  | .l2i => if len = 1 then (match a.2.2.1 with
    | x :: st => (match l2iA a.2.2.2.1 x with
      | some r => some [(a.1 + 1, a.2.1, r.2 :: st, r.1, a.2.2.2.2)]
      | none => none)
    | _ => none) else none
  | .i2s => if len = 1 then (match a.2.2.1 with
    | x :: st => if x.1 ≤ 2 then some [(a.1 + 1, a.2.1, (mk2 a.2.2.2.1 (-32768, 32767)).2 :: st, (mk2 a.2.2.2.1 (-32768, 32767)).1, a.2.2.2.2)] else none
    | _ => none) else none
  | .ldc_w i => if len = 3 then (match look T.2.2.1 i with
    | some v => some (psh a 3 (a.2.2.2.1, (0, v.toInt, 0)))
    | none => none) else none
  | .invokestatic i => if len = 3 then (match look BT i with
    | some 2 => mxm true R a
    | some 3 => mxm false R a
    | _ => none) else none
  | _ => none
noncomputable def XOK (own : String) (Ts : List Jvm.Cond) (BT : List (Nat × Nat)) : Prop := ∀ q ∈ BT, (q.2 = 2 → Jvm.Cond.methodLink own q.1 Lib.Math.max.name ∈ Ts ∧ Jvm.Cond.static Lib.Math.max.name ∈ Ts ∧ Jvm.Cond.initialized "java/lang/Math" ∈ Ts ∧ Jvm.Cond.code Lib.Math.max.name Lib.Math.max.code 2 (some .int) ∈ Ts) ∧ (q.2 = 3 → Jvm.Cond.methodLink own q.1 Lib.Math.min.name ∈ Ts ∧ Jvm.Cond.static Lib.Math.min.name ∈ Ts ∧ Jvm.Cond.initialized "java/lang/Math" ∈ Ts ∧ Jvm.Cond.code Lib.Math.min.name Lib.Math.min.code 2 (some .int) ∈ Ts) ∧ (q.2 = 5 → Jvm.Cond.methodLink own q.1 Lib.MathLoose.abs_long.x ∈ Ts ∧ Jvm.Cond.static Lib.MathLoose.abs_long.x ∈ Ts ∧ Jvm.Cond.initialized "java/lang/Math" ∈ Ts ∧ Jvm.Cond.code Lib.MathLoose.abs_long.x Lib.MathLoose.abs_long.code 2 (some .long) ∈ Ts) ∧ (q.2 = 6 → Jvm.Cond.methodLink own q.1 yJ0_length_8abf5 ∈ Ts ∧ JOK Ts) ∧ (q.2 = 7 → Jvm.Cond.methodLink own q.1 yJ0_charAt_5068e ∈ Ts ∧ JOK Ts) ∧ (q.2 = 8 → Jvm.Cond.fieldLink own q.1 "RookHusting" "ORDERS" "[I" ∈ Ts) ∧ (q.2 = 9 → own = "RookHusting$Election" ∧ q.1 = 100) ∧ (100 ≤ q.2 → ∃ tx : String, (own, q.1, tx, q.2 - 100) ∈ strK ∧ q.2 < 113)
theorem ae_i2s (x : Int32) : inI (-32768, 32767) x.toInt16.toInt32.toInt := by
  rw [Int16.toInt_toInt32, Int32.toInt_toInt16]
  unfold inI
  have h1 := Int.le_bmod (x := x.toInt) (m := 2 ^ 16) (by decide)
  have h2 := Int.bmod_lt (x := x.toInt) (m := 2 ^ 16) (by decide)
  constructor <;> simp only <;> omega
theorem ae_max (x y : Int32) : (if x < y then y else x).toInt = max x.toInt y.toInt := by
  split
  · rename_i h
    rw [Int32.lt_iff_toInt_lt] at h
    omega
  · rename_i h
    rw [Int32.lt_iff_toInt_lt] at h
    omega
section STX
variable {p : Program} {l : Launch} {e : Env} {R : Room} {s : State} {m : MethodId} {args : Array Value} {below : List Frame} {meth : Method} {c : Code} {cs0 ss0 : Nat} {Q : State → Prop} {cc : ByteArray} {own : String} {Ts : List Jvm.Cond} {D : va_G} {cl : List vw_C} {A : Nat → Prop} {H0 : Heap} {V : EV} {cA : Nat → ClassId} {es0 : List va_E} {g0 : List Int}
theorem binL_ok {F : Int × Int → Int × Int → Int × Int} {op : Int64 → Int64 → Int64} (hF : BinL F op) {nL : Nat} {a : AS} {L : List AS} (h : binL F a = some L) (hL : ∀ b ∈ L, WA (WW p l e R s m args below meth c cs0 ss0 Q) m nL D cl A H0 V cA es0 g0 b)
    (hrow : ∀ (x y : Int64) (sv : List Value) (ls : Array Slot) (H : Heap) (locs : List Loc), (∀ q, a.2.2.1.head?.bind (ivL a.2.2.2.1) = some q → inI q y.toInt) → WW p l e R s m args below meth c cs0 ss0 Q H locs (F0 m (a.1 + 1) ls (.long (op x y) :: sv)) → WW p l e R s m args below meth c cs0 ss0 Q H locs (F0 m a.1 ls (.long y :: .long x :: sv))) : WA (WW p l e R s m args below meth c cs0 ss0 Q) m nL D cl A H0 V cA es0 g0 a := by
  intro g lv sv es ls H locs h0 hG hlv hl hs hH
  unfold binL at h
  split at h
  · rename_i y x st hst
    split at h
    · rename_i pp qq hp hq
      cases h
      rw [hst] at hs
      obtain ⟨vy, sv1, rfl, hy, hs1⟩ := zf2_cons hs
      obtain ⟨vx, sv2, rfl, hx, hs2⟩ := zf2_cons hs1
      obtain ⟨X, rfl, hX⟩ := ivL_ok hG hx hp
      obtain ⟨Y, rfl, hY⟩ := ivL_ok hG hy hq
      obtain ⟨g', e1, e2, e3⟩ := mk5_ok (V := V) hG (op X Y) (hF _ _ _ _ hX hY)
      refine hrow X Y sv2 ls H locs (fun q hq' => ?_) ?_
      · rw [hst] at hq'
        obtain ⟨z, e4, e5⟩ := ivL_ok hG hy (by simpa using hq')
        cases e4
        exact e5
      · exact hL _ (List.mem_singleton.mpr rfl) g' lv _ es ls H locs (gxt_tr h0 e1) e2 hlv (loc_ext e1 hl) ⟨e3, st_ext e1 hs2⟩ (HS_ext e1 hH)
    · cases h
  · cases h
theorem ae_lne {a : AS} {y : Int64} (h : posL a = true) (hq : ∀ q, a.2.2.1.head?.bind (ivL a.2.2.2.1) = some q → inI q y.toInt) : ¬ y = 0 := by
  unfold posL at h
  split at h
  · rename_i v st hst
    split at h
    · rename_i q hv
      have h := of_decide_eq_true h
      have := hq q (by rw [hst]; simpa using hv)
      unfold inI at this
      intro e
      rw [e, show (0 : Int64).toInt = 0 from by decide] at this
      omega
    · cases h
  · cases h
theorem stL_ok {a : AS} {i len : Nat} {L : List AS} {nL : Nat} (h : stL nL a i len = some L) (hL : ∀ b ∈ L, WA (WW p l e R s m args below meth c cs0 ss0 Q) m nL D cl A H0 V cA es0 g0 b)
    (hrow : ∀ (x : Int64) (sv : List Value) (ls : Array Slot) (H : Heap) (locs : List Loc) (lv : List (Nat × Value)), lv_has ls nL lv → i + 1 < nL → (∀ ls' : Array Slot, lv_has ls' nL ((i, Value.long x) :: lv.filter (fun q => !(q.1 == i) && (!(q.1 == i + 1) && !(q.1 + 1 == i && q.2.category == 2)))) → WW p l e R s m args below meth c cs0 ss0 Q H locs (F0 m (a.1 + len) ls' sv)) → WW p l e R s m args below meth c cs0 ss0 Q H locs (F0 m a.1 ls (.long x :: sv))) : WA (WW p l e R s m args below meth c cs0 ss0 Q) m nL D cl A H0 V cA es0 g0 a := by
  intro g lv sv es ls H locs h0 hG hlv hl hs hH
  unfold stL at h
  split at h
  · rename_i v st hst
    split at h
    · rename_i ht
      cases h
      rw [hst] at hs
      obtain ⟨w, sv1, rfl, h2, hs1⟩ := zf2_cons hs
      obtain ⟨x, rfl⟩ := gam_long h2 ht.1
      refine hrow x sv1 ls H locs lv hlv ht.2 (fun ls' hls' => ?_)
      exact hL _ (List.mem_singleton.mpr rfl) g _ sv1 es ls' H locs h0 hG hls' ⟨⟨rfl, h2, by show v.1 ≠ 8; have := ht.1; omega⟩, flt2_ok i hl⟩ hs1 hH
    · cases h
  · cases h
theorem stpX_ok (hx : p.tables.exec = Jvm.exec) (hb : c.code = cc) {T : TB} (hml : c.maxLocals = T.2.1) (hown : s.vm.findClass own = some m.cls) (hts : ∀ w ∈ Ts, w.before args s = true) (hT : TOK own cl Ts cc T) {BT : List (Nat × Nat)} (hXT : XOK own Ts BT) (hcs : cs0 ≤ R.cells) (hss : ss0 ≤ R.slots) {a : AS} {ins : ClassFile.Instr} {len : Nat} {L : List AS} (hd : decode cc a.1 = .ok (ins, len)) (h : stpX T BT (R.frames, R.locals) ins len a = some L) (hL : ∀ b ∈ L, WA (WW p l e R s m args below meth c cs0 ss0 Q) m T.2.1 D cl A H0 V cA es0 g0 b) : WA (WW p l e R s m args below meth c cs0 ss0 Q) m T.2.1 D cl A H0 V cA es0 g0 a := by
  unfold stpX at h
  split at h
  · split at h
    · rename_i k hc; subst hc
      exact stL_ok h hL (fun x sv ls H locs lv h1 h2 h3 => lv_lstore_n hx hb hd rfl h1 h2 rfl h3)
    · cases h
  · split at h
    · rename_i k hc; subst hc
      exact stL_ok h hL (fun x sv ls H locs lv h1 h2 h3 => lv_lstore hx hb hd h1 h2 rfl h3)
    · cases h
  · split at h
    · rename_i hc; subst hc
      exact binL_ok laddF_ok h hL (fun x y sv ls H locs _ k => lv_ladd hx hb hd k)
    · cases h
  · split at h
    · rename_i hc; subst hc
      exact binL_ok lsubF_ok h hL (fun x y sv ls H locs _ k => lv_lsub hx hb hd k)
    · cases h
  · split at h
    · rename_i hc; subst hc
      exact binL_ok lmulF_ok h hL (fun x y sv ls H locs _ k => lv_lmul hx hb hd k)
    · cases h
  · split at h
    · rename_i hc; obtain ⟨rfl, hp⟩ := hc
      exact binL_ok ldivF_ok h hL (fun x y sv ls H locs hq k => lv_ldiv hx hb hd (ae_lne hp hq) k)
    · cases h
  · split at h
    · rename_i hc; obtain ⟨rfl, hp⟩ := hc
      exact binL_ok lremF_ok h hL (fun x y sv ls H locs hq k => lv_lrem hx hb hd (ae_lne hp hq) k)
    · cases h
  · split at h
    · rename_i hc; subst hc
      intro g lv sv es ls H locs h0 hG hlv hl hs hH
      unfold lgt at h
      split at h
      · rename_i y x st hst
        split at h
        · rename_i ht
          cases h
          rw [hst] at hs
          obtain ⟨vy, sv1, rfl, hy, hs1⟩ := zf2_cons hs
          obtain ⟨vx, sv2, rfl, hx2, hs2⟩ := zf2_cons hs1
          obtain ⟨X, rfl⟩ := gam_long hx2 ht.1
          have hy2 : y.1 ≤ 2 := by
            rcases ht.2 with h1 | h1
            · exact h1.2
            · exact absurd h1.1 (by decide)
          obtain ⟨Y, rfl⟩ := gam_int hy hy2
          obtain ⟨g', e1, e2, e3⟩ := mk5_ok (V := V) hG (X >>> (Y.toInt64 &&& 63)) (topL_ok _)
          exact lv_lshr hx hb hd rfl (hL _ (List.mem_singleton.mpr rfl) g' lv _ es ls H locs (gxt_tr h0 e1) e2 hlv (loc_ext e1 hl) ⟨e3, st_ext e1 hs2⟩ (HS_ext e1 hH))
        · cases h
      · cases h
    · cases h
  · split at h
    · rename_i hc; subst hc
      split at h
      · rename_i x st hst
        split at h
        · rename_i r hr
          cases h
          intro g lv sv es ls H locs h0 hG hlv hl hs hH
          rw [hst] at hs
          obtain ⟨v, sv1, rfl, hv, hs1⟩ := zf2_cons hs
          obtain ⟨X, rfl, g', e1, e2, e3⟩ := l2iA_ok hG hv hr
          exact lv_l2i hx hb hd rfl (hL _ (List.mem_singleton.mpr rfl) g' lv _ es ls H locs (gxt_tr h0 e1) e2 hlv (loc_ext e1 hl) ⟨e3, st_ext e1 hs1⟩ (HS_ext e1 hH))
        · cases h
      · cases h
    · cases h
  · split at h
    · rename_i hc; subst hc
      split at h
      · rename_i x st hst
        split at h
        · rename_i ht
          cases h
          intro g lv sv es ls H locs h0 hG hlv hl hs hH
          rw [hst] at hs
          obtain ⟨v, sv1, rfl, hv, hs1⟩ := zf2_cons hs
          obtain ⟨X, rfl⟩ := gam_int hv ht
          obtain ⟨g', e1, e2, e3⟩ := mk2_ok (V := V) hG _ (ae_i2s X)
          exact lv_i2s hx hb hd rfl (hL _ (List.mem_singleton.mpr rfl) g' lv _ es ls H locs (gxt_tr h0 e1) e2 hlv (loc_ext e1 hl) ⟨e3, st_ext e1 hs1⟩ (HS_ext e1 hH))
        · cases h
      · cases h
    · cases h
  · split at h
    · rename_i i hc; subst hc
      split at h
      · rename_i v hv
        cases h
        intro g lv sv es ls H locs h0 hG hlv hl hs hH
        exact lv_ldcw hx hb hown (hts _ (hT.2.1 _ (look_mem hv))) hd (WA_psh hL h0 hlv hl hs hH gxt_rf hG ⟨v, rfl, rfl⟩)
      · cases h
    · cases h
  · split at h
    · rename_i i hc; subst hc
      split at h
      · rename_i hlk
        obtain ⟨w1, w2, w3, w4⟩ := (hXT _ (look_mem hlk)).1 rfl
        intro g lv sv es ls H locs h0 hG hlv hl hs hH
        unfold mxm at h
        split at h
        · rename_i y x st hst
          split at h
          · rename_i pp qq hp hq
            split at h
            · rename_i hr
              rw [if_pos rfl] at h
              cases h
              rw [hst] at hs
              obtain ⟨vy, sv1, rfl, hy, hs1⟩ := zf2_cons hs
              obtain ⟨vx, sv2, rfl, hx2, hs2⟩ := zf2_cons hs1
              obtain ⟨X, rfl, hX⟩ := ivI_ok hG hx2 hp
              obtain ⟨Y, rfl, hY⟩ := ivI_ok hG hy hq
              obtain ⟨g', e1, e2, e3⟩ := mk2_ok (V := V) (q := (max pp.1 qq.1, max pp.2 qq.2)) hG (if X < Y then Y else X) (by unfold inI at hX hY ⊢; rw [ae_max]; simp only; omega)
              exact va_mmax hx hb (hml.trans hlv.1.symm) hown (hts _ w1) (hts _ w2) (hts _ w3) (hts _ w4) hr.1 (by rw [cat_sum hs2 hr.2.2]; exact hr.2.1) hcs hss hd (hL _ (List.mem_singleton.mpr rfl) g' lv _ es ls H locs (gxt_tr h0 e1) e2 hlv (loc_ext e1 hl) ⟨e3, st_ext e1 hs2⟩ (HS_ext e1 hH))
            · cases h
          · cases h
        · cases h
      · rename_i hlk
        obtain ⟨w1, w2, w3, w4⟩ := (hXT _ (look_mem hlk)).2.1 rfl
        intro g lv sv es ls H locs h0 hG hlv hl hs hH
        unfold mxm at h
        split at h
        · rename_i y x st hst
          split at h
          · rename_i pp qq hp hq
            split at h
            · rename_i hr
              rw [if_neg (by decide)] at h
              cases h
              rw [hst] at hs
              obtain ⟨vy, sv1, rfl, hy, hs1⟩ := zf2_cons hs
              obtain ⟨vx, sv2, rfl, hx2, hs2⟩ := zf2_cons hs1
              obtain ⟨X, rfl, hX⟩ := ivI_ok hG hx2 hp
              obtain ⟨Y, rfl, hY⟩ := ivI_ok hG hy hq
              obtain ⟨g', e1, e2, e3⟩ := mk2_ok (V := V) (q := (min pp.1 qq.1, min pp.2 qq.2)) hG (if Y < X then Y else X) (by unfold inI at hX hY ⊢; rw [show (if Y < X then Y else X).toInt = min X.toInt Y.toInt from by split <;> rename_i hh <;> rw [Int32.lt_iff_toInt_lt] at hh <;> omega]; simp only; omega)
              exact va_mmin hx hb (hml.trans hlv.1.symm) hown (hts _ w1) (hts _ w2) (hts _ w3) (hts _ w4) hr.1 (by rw [cat_sum hs2 hr.2.2]; exact hr.2.1) hcs hss hd (hL _ (List.mem_singleton.mpr rfl) g' lv _ es ls H locs (gxt_tr h0 e1) e2 hlv (loc_ext e1 hl) ⟨e3, st_ext e1 hs2⟩ (HS_ext e1 hH))
            · cases h
          · cases h
        · cases h
      · cases h
    · cases h
  · cases h
end STX
