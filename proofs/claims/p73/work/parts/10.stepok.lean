/-! ===== a step without the heap is right ===== -/
section STA
variable {p : Program} {l : Launch} {e : Env} {R : Room} {s : State} {m : MethodId} {args : Array Value} {below : List Frame} {meth : Method} {c : Code} {cs0 ss0 : Nat} {Q : State → Prop} {cc : ByteArray} {own : String} {Ts : List Jvm.Cond} {D : va_G} {cl : List vw_C} {A : Nat → Prop} {H0 : Heap} {V : EV} {cA : Nat → ClassId} {es0 : List va_E} {g0 : List Int}
abbrev WW (p : Program) (l : Launch) (e : Env) (R : Room) (s : State) (m : MethodId) (args : Array Value) (below : List Frame) (meth : Method) (c : Code) (cs0 ss0 : Nat) (Q : State → Prop) : Heap → List Loc → JFrame → Prop := fun H locs g => W p l e R s m args below meth c H locs cs0 ss0 Q g
theorem ae_ofInt {n : Int} (h1 : -2147483648 ≤ n) (h2 : n ≤ 2147483647) : (Int32.ofInt n).toInt = n := by rw [Int32.toInt_ofInt, ae_bm h1 h2]
theorem ldI_ok {a : AS} {i len : Nat} {L : List AS} {nL : Nat} (h : ldI a i len = some L) (hL : ∀ b ∈ L, WA (WW p l e R s m args below meth c cs0 ss0 Q) m nL D cl A H0 V cA es0 g0 b)
    (hrow : ∀ (x : Int32) (sv : List Value) (ls : Array Slot) (H : Heap) (locs : List Loc), ls[i]? = some (.val (.int x)) → WW p l e R s m args below meth c cs0 ss0 Q H locs (F0 m (a.1 + len) ls (.int x :: sv)) → WW p l e R s m args below meth c cs0 ss0 Q H locs (F0 m a.1 ls sv)) : WA (WW p l e R s m args below meth c cs0 ss0 Q) m nL D cl A H0 V cA es0 g0 a := by
  intro g lv sv es ls H locs h0 hG hlv hl hs hH
  unfold ldI at h
  split at h
  · rename_i v hv
    split at h
    · rename_i ht
      cases h
      obtain ⟨k, w, h1, h2, h3⟩ := fnd_ok hl hv
      obtain ⟨x, rfl⟩ := gam_int h2 ht
      exact hrow x sv ls H locs (lv_at hlv k h1) (WA_psh hL h0 hlv hl hs hH gxt_rf hG h2)
    · cases h
  · cases h
theorem ldL_ok {a : AS} {i len : Nat} {L : List AS} {nL : Nat} (h : ldL a i len = some L) (hL : ∀ b ∈ L, WA (WW p l e R s m args below meth c cs0 ss0 Q) m nL D cl A H0 V cA es0 g0 b)
    (hrow : ∀ (x : Int64) (sv : List Value) (ls : Array Slot) (H : Heap) (locs : List Loc), ls[i]? = some (.val (.long x)) → WW p l e R s m args below meth c cs0 ss0 Q H locs (F0 m (a.1 + len) ls (.long x :: sv)) → WW p l e R s m args below meth c cs0 ss0 Q H locs (F0 m a.1 ls sv)) : WA (WW p l e R s m args below meth c cs0 ss0 Q) m nL D cl A H0 V cA es0 g0 a := by
  intro g lv sv es ls H locs h0 hG hlv hl hs hH
  unfold ldL at h
  split at h
  · rename_i v hv
    split at h
    · rename_i ht
      cases h
      obtain ⟨k, w, h1, h2, h3⟩ := fnd_ok hl hv
      obtain ⟨x, rfl⟩ := gam_long h2 ht
      exact hrow x sv ls H locs (lv_at hlv k h1) (WA_psh hL h0 hlv hl hs hH gxt_rf hG h2)
    · cases h
  · cases h
theorem ldR_ok {a : AS} {i len : Nat} {L : List AS} {nL : Nat} (h : ldR a i len = some L) (hL : ∀ b ∈ L, WA (WW p l e R s m args below meth c cs0 ss0 Q) m nL D cl A H0 V cA es0 g0 b)
    (hrow : ∀ (x : Nat) (sv : List Value) (ls : Array Slot) (H : Heap) (locs : List Loc), ls[i]? = some (.val (.ref x)) → WW p l e R s m args below meth c cs0 ss0 Q H locs (F0 m (a.1 + len) ls (.ref x :: sv)) → WW p l e R s m args below meth c cs0 ss0 Q H locs (F0 m a.1 ls sv)) : WA (WW p l e R s m args below meth c cs0 ss0 Q) m nL D cl A H0 V cA es0 g0 a := by
  intro g lv sv es ls H locs h0 hG hlv hl hs hH
  unfold ldR at h
  split at h
  · rename_i v hv
    split at h
    · rename_i ht
      cases h
      obtain ⟨k, w, h1, h2, h3⟩ := fnd_ok hl hv
      obtain ⟨x, rfl⟩ := gam_refx h2 ht
      exact hrow x sv ls H locs (lv_at hlv k h1) (WA_psh hL h0 hlv hl hs hH gxt_rf hG h2)
    · cases h
  · cases h
theorem stI_ok {a : AS} {i len : Nat} {L : List AS} {nL : Nat} (h : stI nL a i len = some L) (hL : ∀ b ∈ L, WA (WW p l e R s m args below meth c cs0 ss0 Q) m nL D cl A H0 V cA es0 g0 b)
    (hrow : ∀ (x : Int32) (sv : List Value) (ls : Array Slot) (H : Heap) (locs : List Loc) (lv : List (Nat × Value)), lv_has ls nL lv → i < nL → (∀ ls' : Array Slot, lv_has ls' nL ((i, Value.int x) :: lv.filter (fun q => !(q.1 == i) && !(q.1 + 1 == i && q.2.category == 2))) → WW p l e R s m args below meth c cs0 ss0 Q H locs (F0 m (a.1 + len) ls' sv)) → WW p l e R s m args below meth c cs0 ss0 Q H locs (F0 m a.1 ls (.int x :: sv))) : WA (WW p l e R s m args below meth c cs0 ss0 Q) m nL D cl A H0 V cA es0 g0 a := by
  intro g lv sv es ls H locs h0 hG hlv hl hs hH
  unfold stI at h
  split at h
  · rename_i v st hst
    split at h
    · rename_i ht
      cases h
      rw [hst] at hs
      obtain ⟨w, sv1, rfl, h2, hs1⟩ := zf2_cons hs
      obtain ⟨x, rfl⟩ := gam_int h2 ht.1
      refine hrow x sv1 ls H locs lv hlv ht.2 (fun ls' hls' => ?_)
      exact hL _ (List.mem_singleton.mpr rfl) g _ sv1 es ls' H locs h0 hG hls' ⟨⟨rfl, h2, by show v.1 ≠ 8; have := ht.1; omega⟩, flt1_ok i hl⟩ hs1 hH
    · cases h
  · cases h
theorem ae_l0 : (Int64.ofNat 0).toInt = 0 := by decide
theorem ae_l1 : (Int64.ofNat 1).toInt = 1 := by decide
theorem ae_lt0 (x : Int32) : x < 0 ↔ x.toInt < 0 := by rw [Int32.lt_iff_toInt_lt, ae_z]
theorem ae_ge0 (x : Int32) : 0 ≤ x ↔ 0 ≤ x.toInt := by rw [Int32.le_iff_toInt_le, ae_z]
theorem ae_gt0 (x : Int32) : 0 < x ↔ 0 < x.toInt := by rw [Int32.lt_iff_toInt_lt, ae_z]
theorem ae_le0 (x : Int32) : x ≤ 0 ↔ x.toInt ≤ 0 := by rw [Int32.le_iff_toInt_le, ae_z]
theorem ae_eq0 (x : Int32) : x = 0 ↔ x.toInt = 0 := by rw [← Int32.toInt_inj, ae_z]
set_option maxHeartbeats 1000000 in
theorem if1_ok (hx : p.tables.exec = Jvm.exec) (hb : c.code = cc) {nL : Nat} {a : AS} {q : ClassFile.Cond} {off : Int} {L : List AS} (hd : decode cc a.1 = .ok (.ifCond q off, 3)) (h : if1 (cnd q) off a = some L) (hL : ∀ b ∈ L, WA (WW p l e R s m args below meth c cs0 ss0 Q) m nL D cl A H0 V cA es0 g0 b) : WA (WW p l e R s m args below meth c cs0 ss0 Q) m nL D cl A H0 V cA es0 g0 a := by
  intro g lv sv es ls H locs h0 hG hlv hl hs hH
  unfold if1 at h
  split at h
  · rename_i x st hst
    split at h
    · rename_i hp
      rw [hst] at hs
      obtain ⟨w, sv1, rfl, h2, hs1⟩ := zf2_cons hs
      obtain ⟨X, Y, rfl, hY, kt, kf⟩ := brs_ok h hL (vy := .int 0) h0 hG hlv hl h2 ⟨0, rfl, ae_z⟩ hs1 hH
      cases hY
      rw [ae_z] at kt kf
      have ht : (a.1 : Int) + off = ((((a.1 : Int) + off).toNat : Nat) : Int) := by omega
      cases q with
      | eq => exact lv_if_eq hx hb hd ht (fun hc => kt ((ae_eq0 X).mp hc)) (fun hc => kf (fun k => hc ((ae_eq0 X).mpr k)))
      | ne => exact lv_if_ne hx hb hd ht (fun hc => kt (fun k => hc ((ae_eq0 X).mpr k))) (fun hc => kf (fun k => k ((ae_eq0 X).mp hc)))
      | lt => exact lv_if_lt hx hb hd ht (fun hc => kt ((ae_lt0 X).mp hc)) (fun hc => kf (fun k => hc ((ae_lt0 X).mpr k)))
      | ge => exact lv_if_ge hx hb hd ht (fun hc => kt ((ae_ge0 X).mp hc)) (fun hc => kf (fun k => hc ((ae_ge0 X).mpr k)))
      | gt => exact lv_if_gt hx hb hd ht (fun hc => kt ((ae_gt0 X).mp hc)) (fun hc => kf (fun k => hc ((ae_gt0 X).mpr k)))
      | le => exact lv_if_le hx hb hd ht (fun hc => kt ((ae_le0 X).mp hc)) (fun hc => kf (fun k => hc ((ae_le0 X).mpr k)))
    · cases h
  · cases h
set_option maxHeartbeats 1000000 in
theorem if2_ok (hx : p.tables.exec = Jvm.exec) (hb : c.code = cc) {nL : Nat} {a : AS} {q : ClassFile.Cond} {off : Int} {L : List AS} (hd : decode cc a.1 = .ok (.if_icmp q off, 3)) (h : if2 (cnd q) off a = some L) (hL : ∀ b ∈ L, WA (WW p l e R s m args below meth c cs0 ss0 Q) m nL D cl A H0 V cA es0 g0 b) : WA (WW p l e R s m args below meth c cs0 ss0 Q) m nL D cl A H0 V cA es0 g0 a := by
  intro g lv sv es ls H locs h0 hG hlv hl hs hH
  unfold if2 at h
  split at h
  · rename_i y x st hst
    split at h
    · rename_i hp
      rw [hst] at hs
      obtain ⟨w, sv1, rfl, h2, hs1⟩ := zf2_cons hs
      obtain ⟨w2, sv2, rfl, h3, hs2⟩ := zf2_cons hs1
      obtain ⟨X, Y, rfl, rfl, kt, kf⟩ := brs_ok h hL h0 hG hlv hl h3 h2 hs2 hH
      have ht : (a.1 : Int) + off = ((((a.1 : Int) + off).toNat : Nat) : Int) := by omega
      cases q with
      | eq => exact lv_icmp_eq hx hb hd ht (fun hc => kt (Int32.toInt_inj.mpr hc)) (fun hc => kf (fun k => hc (Int32.toInt_inj.mp k)))
      | ne => exact lv_icmp_ne hx hb hd ht (fun hc => kt (fun k => hc (Int32.toInt_inj.mp k))) (fun hc => kf (fun k => k (Int32.toInt_inj.mpr hc)))
      | lt => exact lv_icmp_lt hx hb hd ht (fun hc => kt (Int32.lt_iff_toInt_lt.mp hc)) (fun hc => kf (fun k => hc (Int32.lt_iff_toInt_lt.mpr k)))
      | ge => exact lv_icmp_ge hx hb hd ht (fun hc => kt (Int32.le_iff_toInt_le.mp hc)) (fun hc => kf (fun k => hc (Int32.le_iff_toInt_le.mpr k)))
      | gt => exact lv_icmp_gt hx hb hd ht (fun hc => kt (Int32.lt_iff_toInt_lt.mp hc)) (fun hc => kf (fun k => hc (Int32.lt_iff_toInt_lt.mpr k)))
      | le => exact lv_icmp_le hx hb hd ht (fun hc => kt (Int32.le_iff_toInt_le.mp hc)) (fun hc => kf (fun k => hc (Int32.le_iff_toInt_le.mpr k)))
    · cases h
  · cases h
set_option maxHeartbeats 1000000 in
theorem lcb_ok (hx : p.tables.exec = Jvm.exec) (hb : c.code = cc) {nL : Nat} {T : TB} (hT : ∀ q ∈ T.1, decode cc q.1 = .ok q.2) {a : AS} {L : List AS} (hd : decode cc a.1 = .ok (.lcmp, 1)) (h : lcb T a = some L) (hL : ∀ b ∈ L, WA (WW p l e R s m args below meth c cs0 ss0 Q) m nL D cl A H0 V cA es0 g0 b) : WA (WW p l e R s m args below meth c cs0 ss0 Q) m nL D cl A H0 V cA es0 g0 a := by
  intro g lv sv es ls H locs h0 hG hlv hl hs hH
  unfold lcb at h
  split at h
  · rename_i y x st q off hst hlk
    split at h
    · rename_i hp
      split at h
      · rename_i L1 L2 h1 h2
        cases h
        rw [hst] at hs
        obtain ⟨w, sv1, rfl, g2, hs1⟩ := zf2_cons hs
        obtain ⟨w2, sv2, rfl, g3, hs2⟩ := zf2_cons hs1
        obtain ⟨X, Y, e1, e2, e3⟩ := rfL_ok hG g3 g2 h1
        obtain ⟨X', Y', e4, e5, e6⟩ := rfL_ok hG g3 g2 h2
        subst e1; subst e2
        cases e4; cases e5
        have kt : cmpH (cnd q) X.toInt Y.toInt → WW p l e R s m args below meth c cs0 ss0 Q H locs (F0 m (((a.1 : Int) + 1 + off).toNat) ls sv2) := fun hc => by
          obtain ⟨G', m1, m2⟩ := e3 hc
          exact hL _ (List.mem_append_left _ (List.mem_map.mpr ⟨G', m1, rfl⟩)) g lv sv2 es ls H locs h0 m2 hlv hl hs2 hH
        have kf : ¬ cmpH (cnd q) X.toInt Y.toInt → WW p l e R s m args below meth c cs0 ss0 Q H locs (F0 m (a.1 + 1 + 3) ls sv2) := fun hc => by
          obtain ⟨G', m1, m2⟩ := e6 (cmpN_ok hc)
          exact hL _ (List.mem_append_right _ (List.mem_map.mpr ⟨G', m1, rfl⟩)) g lv sv2 es ls H locs h0 m2 hlv hl hs2 hH
        have hd2 : decode cc (a.1 + 1) = .ok (.ifCond q off, 3) := hT (a.1 + 1, .ifCond q off, 3) (look_mem hlk)
        have ht : ((a.1 + 1 : Nat) : Int) + off = ((((a.1 : Int) + 1 + off).toNat : Nat) : Int) := by omega
        refine W.lcmp hx hb hd ?_
        cases q with
        | eq => exact lv_if_eq hx hb hd2 ht (fun hc => kt (Int64.toInt_inj.mpr ((lg_cmp_eq X Y).mp hc))) (fun hc => kf (fun k => hc ((lg_cmp_eq X Y).mpr (Int64.toInt_inj.mp k))))
        | ne => exact lv_if_ne hx hb hd2 ht (fun hc => kt (fun k => hc ((lg_cmp_eq X Y).mpr (Int64.toInt_inj.mp k)))) (fun hc => kf (fun k => k (Int64.toInt_inj.mpr ((lg_cmp_eq X Y).mp hc))))
        | lt => exact lv_if_lt hx hb hd2 ht (fun hc => kt (Int64.lt_iff_toInt_lt.mp ((lg_cmp_lt X Y).mp hc))) (fun hc => kf (fun k => hc ((lg_cmp_lt X Y).mpr (Int64.lt_iff_toInt_lt.mpr k))))
        | ge => exact lv_if_ge hx hb hd2 ht (fun hc => kt (Int64.le_iff_toInt_le.mp ((lg_cmp_ge X Y).mp hc))) (fun hc => kf (fun k => hc ((lg_cmp_ge X Y).mpr (Int64.le_iff_toInt_le.mpr k))))
        | gt => exact lv_if_gt hx hb hd2 ht (fun hc => kt (Int64.lt_iff_toInt_lt.mp ((lg_cmp_gt X Y).mp hc))) (fun hc => kf (fun k => hc ((lg_cmp_gt X Y).mpr (Int64.lt_iff_toInt_lt.mpr k))))
        | le => exact lv_if_le hx hb hd2 ht (fun hc => kt (Int64.le_iff_toInt_le.mp ((lg_cmp_le X Y).mp hc))) (fun hc => kf (fun k => hc ((lg_cmp_le X Y).mpr (Int64.le_iff_toInt_le.mpr k))))
      · cases h
    · cases h
  · cases h
theorem cat_ok {g : List Int} {a : AV} {v : Value} (h : gam g V a v) (ht : a.1 ≤ 2 ∨ a.1 = 6) : v.category = 1 := by
  rw [gam_cat h (by omega)]
  unfold catA
  rw [if_neg (by omega)]
theorem lgt_ok {nL : Nat} {a : AS} {b : Bool} {L : List AS} (h : lgt b a = some L) (hL : ∀ x ∈ L, WA (WW p l e R s m args below meth c cs0 ss0 Q) m nL D cl A H0 V cA es0 g0 x)
    (hrow : ∀ (x : Int64) (y : Value) (sv : List Value) (ls : Array Slot) (H : Heap) (locs : List Loc), (if b then ∃ z : Int32, y = .int z else ∃ z : Int64, y = .long z) → ∃ r : Int64, WW p l e R s m args below meth c cs0 ss0 Q H locs (F0 m (a.1 + 1) ls (.long r :: sv)) → WW p l e R s m args below meth c cs0 ss0 Q H locs (F0 m a.1 ls (y :: .long x :: sv))) : WA (WW p l e R s m args below meth c cs0 ss0 Q) m nL D cl A H0 V cA es0 g0 a := by
  intro g lv sv es ls H locs h0 hG hlv hl hs hH
  unfold lgt at h
  split at h
  · rename_i y x st hst
    split at h
    · rename_i ht
      cases h
      rw [hst] at hs
      obtain ⟨vy, sv1, rfl, hy, hs1⟩ := zf2_cons hs
      obtain ⟨vx, sv2, rfl, hx, hs2⟩ := zf2_cons hs1
      obtain ⟨X, rfl⟩ := gam_long hx ht.1
      obtain ⟨r, hk⟩ := hrow X vy sv2 ls H locs (by
        rcases ht.2 with ⟨rfl, h2⟩ | ⟨rfl, h2⟩
        · exact gam_int hy h2
        · exact gam_long hy h2)
      obtain ⟨g', e4, e5, e6⟩ := mk5_ok (V := V) hG r (topL_ok r)
      exact hk (hL _ (List.mem_singleton.mpr rfl) g' lv _ es ls H locs (gxt_tr h0 e4) e5 hlv (loc_ext e4 hl) ⟨e6, st_ext e4 hs2⟩ (HS_ext e4 hH))
    · cases h
  · cases h
set_option maxHeartbeats 4000000 in
theorem stpA_ok (hx : p.tables.exec = Jvm.exec) (hb : c.code = cc) (hown : s.vm.findClass own = some m.cls) (hts : ∀ w ∈ Ts, w.before args s = true) {T : TB} (hT : TOK own cl Ts cc T) {a : AS} {ins : ClassFile.Instr} {len : Nat} {L : List AS} (hd : decode cc a.1 = .ok (ins, len)) (h : stpA T ins len a = some L) (hL : ∀ b ∈ L, WA (WW p l e R s m args below meth c cs0 ss0 Q) m T.2.1 D cl A H0 V cA es0 g0 b) : WA (WW p l e R s m args below meth c cs0 ss0 Q) m T.2.1 D cl A H0 V cA es0 g0 a := by
  unfold stpA at h
  split at h
  · split at h
    · rename_i n hc; obtain ⟨rfl, h1, h2⟩ := hc; cases h
      intro g lv sv es ls H locs h0 hG hlv hl hs hH
      exact lv_iconst hx hb hd rfl (WA_psh hL h0 hlv hl hs hH gxt_rf hG ⟨_, rfl, ae_ofInt h1 h2⟩)
    · cases h
  · split at h
    · rename_i n hc; obtain ⟨rfl, h1, h2⟩ := hc; cases h
      intro g lv sv es ls H locs h0 hG hlv hl hs hH
      exact lv_bipush hx hb hd rfl (WA_psh hL h0 hlv hl hs hH gxt_rf hG ⟨_, rfl, by rw [Int8.toInt_toInt32, Int8.toInt_ofInt, show Int8.size = 256 from rfl, Int.bmod_eq_of_le (by omega) (by omega)]⟩)
    · cases h
  · split at h
    · rename_i n hc; obtain ⟨rfl, h1, h2⟩ := hc; cases h
      intro g lv sv es ls H locs h0 hG hlv hl hs hH
      exact lv_sipush hx hb hd rfl (WA_psh hL h0 hlv hl hs hH gxt_rf hG ⟨_, rfl, by rw [Int16.toInt_toInt32, Int16.toInt_ofInt, show Int16.size = 65536 from rfl, Int.bmod_eq_of_le (by omega) (by omega)]⟩)
    · cases h
  · split at h
    · rename_i n hc; subst hc; cases h
      intro g lv sv es ls H locs h0 hG hlv hl hs hH
      exact lv_lconst hx hb hd rfl (WA_psh hL h0 hlv hl hs hH gxt_rf hG ⟨_, rfl, by match n with | 0 => exact ae_l0 | 1 => exact ae_l1⟩)
    · cases h
  · split at h
    · rename_i i hc; subst hc
      split at h
      · rename_i v hv; cases h
        intro g lv sv es ls H locs h0 hG hlv hl hs hH
        exact lv_ldc hx hb hown (hts _ (hT.2.1 _ (look_mem hv))) hd (WA_psh hL h0 hlv hl hs hH gxt_rf hG ⟨_, rfl, rfl⟩)
      · cases h
    · cases h
  · split at h
    · rename_i i hc; subst hc
      split at h
      · rename_i v hv; cases h
        intro g lv sv es ls H locs h0 hG hlv hl hs hH
        exact lv_ldc2 hx hb hown (hts _ (hT.2.2.1 _ (look_mem hv))) hd (WA_psh hL h0 hlv hl hs hH gxt_rf hG ⟨_, rfl, rfl⟩)
      · cases h
    · cases h
  · split at h
    · rename_i k hc; subst hc
      exact ldI_ok h hL (fun x sv ls H locs h1 h2 => lv_iload_n hx hb hd rfl h1 h2)
    · cases h
  · split at h
    · rename_i k hc; subst hc
      exact ldI_ok h hL (fun x sv ls H locs h1 h2 => lv_iload hx hb hd h1 h2)
    · cases h
  · split at h
    · rename_i k hc; subst hc
      exact ldL_ok h hL (fun x sv ls H locs h1 h2 => lv_lload_n hx hb hd rfl h1 h2)
    · cases h
  · split at h
    · rename_i k hc; subst hc
      exact ldL_ok h hL (fun x sv ls H locs h1 h2 => lv_lload hx hb hd h1 h2)
    · cases h
  · split at h
    · rename_i k hc; subst hc
      exact ldR_ok h hL (fun x sv ls H locs h1 h2 => lv_aload_n hx hb hd rfl h1 h2)
    · cases h
  · split at h
    · rename_i k hc; subst hc
      exact ldR_ok h hL (fun x sv ls H locs h1 h2 => lv_aload hx hb hd h1 h2)
    · cases h
  · split at h
    · rename_i k hc; subst hc
      exact stI_ok h hL (fun x sv ls H locs lv h1 h2 h3 => lv_istore_n hx hb hd rfl h1 h2 rfl h3)
    · cases h
  · split at h
    · rename_i k hc; subst hc
      exact stI_ok h hL (fun x sv ls H locs lv h1 h2 h3 => lv_istore hx hb hd h1 h2 rfl h3)
    · cases h
  · split at h
    · rename_i i n hc; obtain ⟨rfl, hi, h1, h2⟩ := hc
      split at h
      · rename_i v hv
        split at h
        · rename_i ht
          split at h
          · rename_i r hr
            split at h
            · rename_i ht2
              cases h
              intro g lv sv es ls H locs h0 hG hlv hl hs hH
              obtain ⟨k, w, e1, e2, e3⟩ := fnd_ok hl hv
              obtain ⟨x, rfl⟩ := gam_int e2 ht
              obtain ⟨g', e4, e5, e6⟩ := addI_ok _ _ V _ (0, n, 0) x (Int32.ofInt n) _ hG e2 ⟨_, rfl, ae_ofInt h1 h2⟩ hr
              refine lv_iinc hx hb hd hlv e1 rfl hi rfl (fun ls' hls' => ?_)
              exact hL _ (List.mem_singleton.mpr rfl) g' _ sv es ls' H locs (gxt_tr h0 e4) e5 hls' ⟨⟨rfl, e6, by show r.2.1 ≠ 8; omega⟩, flt1_ok i (loc_ext e4 hl)⟩ (st_ext e4 hs) (HS_ext e4 hH)
            · cases h
          · cases h
        · cases h
      · cases h
    · cases h
  · split at h
    · rename_i hc; subst hc
      exact bin_ok addI_ok h hL (fun x y sv ls H locs _ k => lv_iadd hx hb hd k)
    · cases h
  · split at h
    · rename_i hc; subst hc
      exact bin_ok subI_ok h hL (fun x y sv ls H locs _ k => lv_isub hx hb hd k)
    · cases h
  · split at h
    · rename_i hc; subst hc
      exact bin_ok (binF_ok (cstF_ok mulF_ok)) h hL (fun x y sv ls H locs _ k => lv_imul hx hb hd k)
    · cases h
  · split at h
    · rename_i hc; subst hc
      exact bin_ok (binF_ok (cstF_ok andF_ok)) h hL (fun x y sv ls H locs _ k => lv_iand hx hb hd k)
    · cases h
  · split at h
    · rename_i hc; subst hc
      exact bin_ok (binF_ok (op := fun x y => x ||| y) (cstF_ok topF_ok)) h hL (fun x y sv ls H locs _ k => lv_ior hx hb hd k)
    · cases h
  · split at h
    · rename_i hc; subst hc
      exact bin_ok (binF_ok (op := fun x y => x ^^^ y) (cstF_ok topF_ok)) h hL (fun x y sv ls H locs _ k => lv_ixor hx hb hd k)
    · cases h
  · split at h
    · rename_i hc; subst hc
      exact bin_ok (binF_ok (cstF_ok shlF_ok)) h hL (fun x y sv ls H locs _ k => lv_ishl hx hb hd k)
    · cases h
  · split at h
    · rename_i hc; subst hc
      exact bin_ok (binF_ok (cstF_ok shrF_ok)) h hL (fun x y sv ls H locs _ k => lv_ishr hx hb hd k)
    · cases h
  · split at h
    · rename_i hc; subst hc
      exact bin_ok (binF_ok (op := fun x y => (x.toUInt32 >>> (y.toUInt32 &&& Int32.toUInt32 31)).toInt32) (cstF_ok topF_ok)) h hL (fun x y sv ls H locs _ k => lv_iushr hx hb hd rfl k)
    · cases h
  · split at h
    · rename_i hc; obtain ⟨rfl, hp⟩ := hc
      refine bin_ok (binF_ok divF_ok) h hL (fun x y sv ls H locs hy k => lv_idiv hx hb hd ?_ k)
      unfold posI at hp
      split at hp
      · rename_i z st hst
        split at hp
        · rename_i q hq
          have := hy q (by rw [hst]; simpa using hq)
          have hp := of_decide_eq_true hp
          unfold inI at this
          rw [ae_eq0]; omega
        · cases hp
      · cases hp
    · cases h
  · split at h
    · rename_i hc; obtain ⟨rfl, hp⟩ := hc
      refine bin_ok (binF_ok remF_ok) h hL (fun x y sv ls H locs hy k => lv_irem hx hb hd ?_ k)
      unfold posI at hp
      split at hp
      · rename_i z st hst
        split at hp
        · rename_i q hq
          have := hy q (by rw [hst]; simpa using hq)
          have hp := of_decide_eq_true hp
          unfold inI at this
          rw [ae_eq0]; omega
        · cases hp
      · cases hp
    · cases h
  · split at h
    · rename_i hc; subst hc
      split at h
      · rename_i x st hst
        split at h
        · rename_i r hr; cases h
          intro g lv sv es ls H locs h0 hG hlv hl hs hH
          rw [hst] at hs
          obtain ⟨w, sv1, rfl, g2, hs1⟩ := zf2_cons hs
          obtain ⟨X, rfl, h3⟩ := i2lA_ok g2 hr
          exact lv_i2l hx hb hd rfl (hL _ (List.mem_singleton.mpr rfl) g lv _ es ls H locs h0 hG hlv hl ⟨h3, hs1⟩ hH)
        · cases h
      · cases h
    · cases h
  · split at h
    · rename_i hc; subst hc
      split at h
      · rename_i x st hst
        split at h
        · rename_i ht; cases h
          intro g lv sv es ls H locs h0 hG hlv hl hs hH
          rw [hst] at hs
          obtain ⟨w, sv1, rfl, g2, hs1⟩ := zf2_cons hs
          obtain ⟨X, rfl⟩ := gam_int g2 ht
          obtain ⟨g', e4, e5, e6⟩ := mk2_ok (V := V) hG X.toInt8.toInt32 (ae_i2b X)
          exact lv_i2b hx hb hd rfl (hL _ (List.mem_singleton.mpr rfl) g' lv _ es ls H locs (gxt_tr h0 e4) e5 hlv (loc_ext e4 hl) ⟨e6, st_ext e4 hs1⟩ (HS_ext e4 hH))
        · cases h
      · cases h
    · cases h
  · split at h
    · rename_i hc; subst hc
      split at h
      · rename_i x st hst
        split at h
        · rename_i ht; cases h
          intro g lv sv es ls H locs h0 hG hlv hl hs hH
          rw [hst] at hs
          obtain ⟨w, sv1, rfl, g2, hs1⟩ := zf2_cons hs
          exact lv_dup hx hb hd (cat_ok g2 ht) (hL _ (List.mem_singleton.mpr rfl) g lv _ es ls H locs h0 hG hlv hl ⟨g2, g2, hs1⟩ hH)
        · cases h
      · cases h
    · cases h
  · split at h
    · rename_i hc; subst hc
      split at h
      · rename_i x y st hst
        split at h
        · rename_i ht; cases h
          intro g lv sv es ls H locs h0 hG hlv hl hs hH
          rw [hst] at hs
          obtain ⟨w, sv1, rfl, g2, hs1⟩ := zf2_cons hs
          obtain ⟨w2, sv2, rfl, g3, hs2⟩ := zf2_cons hs1
          exact lv_dup2_11 hx hb hd (cat_ok g2 ht.1) (cat_ok g3 ht.2) (hL _ (List.mem_singleton.mpr rfl) g lv _ es ls H locs h0 hG hlv hl ⟨g2, g3, g2, g3, hs2⟩ hH)
        · cases h
      · cases h
    · cases h
  · split at h
    · rename_i hc; subst hc
      split at h
      · rename_i x st hst
        split at h
        · rename_i ht; cases h
          intro g lv sv es ls H locs h0 hG hlv hl hs hH
          rw [hst] at hs
          obtain ⟨w, sv1, rfl, g2, hs1⟩ := zf2_cons hs
          exact lv_pop hx hb hd (cat_ok g2 ht) (hL _ (List.mem_singleton.mpr rfl) g lv _ es ls H locs h0 hG hlv hl hs1 hH)
        · cases h
      · cases h
    · cases h
  · split at h
    · rename_i hc; subst hc
      exact if1_ok hx hb hd h hL
    · cases h
  · split at h
    · rename_i hc; subst hc
      exact if2_ok hx hb hd h hL
    · cases h
  · split at h
    · rename_i off hc; obtain ⟨rfl, hp⟩ := hc; cases h
      intro g lv sv es ls H locs h0 hG hlv hl hs hH
      exact lv_goto hx hb hd (by omega : (a.1 : Int) + off = ((((a.1 : Int) + off).toNat : Nat) : Int)) (hL _ (List.mem_singleton.mpr rfl) g lv sv es ls H locs h0 hG hlv hl hs hH)
    · cases h
  · split at h
    · rename_i hc; subst hc
      exact lcb_ok hx hb hT.1 hd h hL
    · cases h
  · split at h
    · rename_i hc; subst hc
      refine lgt_ok h hL (fun x y sv ls H locs hy => ?_)
      obtain ⟨z, rfl⟩ := hy
      exact ⟨_, fun k => lv_land hx hb hd k⟩
    · cases h
  · split at h
    · rename_i hc; subst hc
      refine lgt_ok h hL (fun x y sv ls H locs hy => ?_)
      obtain ⟨z, rfl⟩ := hy
      exact ⟨_, fun k => lv_lor hx hb hd k⟩
    · cases h
  · split at h
    · rename_i hc; subst hc
      refine lgt_ok h hL (fun x y sv ls H locs hy => ?_)
      obtain ⟨z, rfl⟩ := hy
      exact ⟨_, fun k => lv_lshl hx hb hd rfl k⟩
    · cases h
  · cases h
end STA
