/-! ===== sums and their like, over intervals ===== -/
noncomputable def BinS (f : GI → AV → AV → Option (GI × AV)) (op : Int32 → Int32 → Int32) : Prop := ∀ (G : GI) (g : List Int) (V : EV) (a b : AV) (x y : Int32) (r : GI × AV), GS G g → gam g V a (.int x) → gam g V b (.int y) → f G a b = some r → ∃ g', gxt g g' ∧ GS r.1 g' ∧ gam g' V r.2 (.int (op x y))
noncomputable def binF (F : Int × Int → Int × Int → Int × Int) (G : GI) (a b : AV) : Option (GI × AV) :=
  match ivI G a, ivI G b with
  | some p, some q => some (mk2 G (F p q))
  | _, _ => none
theorem binF_ok {F : Int × Int → Int × Int → Int × Int} {op : Int32 → Int32 → Int32} (h : ∀ (p q : Int × Int) (x y : Int32), inI p x.toInt → inI q y.toInt → inI (F p q) (op x y).toInt) : BinS (binF F) op := by
  intro G g V a b x y r hG ha hb hf
  unfold binF at hf
  split at hf
  · rename_i p q hp hq
    obtain ⟨x', e1, h1⟩ := ivI_ok hG ha hp
    obtain ⟨y', e2, h2⟩ := ivI_ok hG hb hq
    cases e1; cases e2; cases hf
    exact mk2_ok hG _ (h p q x y h1 h2)
  · cases hf
theorem ae_bm {z : Int} (h1 : -2147483648 ≤ z) (h2 : z ≤ 2147483647) : z.bmod (2 ^ 32) = z := Int.bmod_eq_of_le (by omega) (by omega)
theorem ae_bmL {z : Int} (h1 : -9223372036854775808 ≤ z) (h2 : z ≤ 9223372036854775807) : z.bmod (2 ^ 64) = z := Int.bmod_eq_of_le (by omega) (by omega)
/-- x + y: a named number and a known one keep the name -/
noncomputable def addI (G : GI) (a b : AV) : Option (GI × AV) :=
  match ivI G a, ivI G b with
  | some p, some q =>
    if -2147483648 ≤ p.1 + q.1 ∧ p.2 + q.2 ≤ 2147483647 then
      if a.1 = 1 ∧ b.1 = 0 then some (G, (1, a.2.1, a.2.2 + b.2.1))
      else if a.1 = 0 ∧ b.1 = 1 then some (G, (1, b.2.1, b.2.2 + a.2.1))
      else some (mk2 G (p.1 + q.1, p.2 + q.2))
    else some (mk2 G topI)
  | _, _ => none
theorem addI_ok : BinS addI (fun x y => x + y) := by
  intro G g V a b x y r hG ha hb hf
  unfold addI at hf
  split at hf
  · rename_i p q hp hq
    obtain ⟨x', e1, h1⟩ := ivI_ok hG ha hp
    obtain ⟨y', e2, h2⟩ := ivI_ok hG hb hq
    cases e1; cases e2
    unfold inI at h1 h2
    split at hf
    · rename_i hr
      have hs : (x + y).toInt = x.toInt + y.toInt := by rw [Int32.toInt_add, ae_bm (by omega) (by omega)]
      split at hf
      · rename_i ht
        cases hf
        obtain ⟨ta, a1, a2⟩ := a; obtain ⟨tb, b1, b2⟩ := b
        simp only at ht
        obtain ⟨rfl, rfl⟩ := ht
        obtain ⟨u, eu, z, h4, h5⟩ := ha
        obtain ⟨w, ew, h6⟩ := hb
        cases eu; cases ew
        exact ⟨g, gxt_rf, hG, _, rfl, z, h4, by rw [hs]; simp only at h5 h6 ⊢; omega⟩
      · split at hf
        · rename_i ht
          cases hf
          obtain ⟨ta, a1, a2⟩ := a; obtain ⟨tb, b1, b2⟩ := b
          simp only at ht
          obtain ⟨rfl, rfl⟩ := ht
          obtain ⟨u, eu, h6⟩ := ha
          obtain ⟨w, ew, z, h4, h5⟩ := hb
          cases eu; cases ew
          exact ⟨g, gxt_rf, hG, _, rfl, z, h4, by rw [hs]; simp only at h5 h6 ⊢; omega⟩
        · cases hf
          exact mk2_ok hG _ (by unfold inI; rw [hs]; simp only; omega)
    · cases hf
      exact mk2_ok hG _ (topI_ok _)
  · cases hf
noncomputable def subI (G : GI) (a b : AV) : Option (GI × AV) :=
  match ivI G a, ivI G b with
  | some p, some q =>
    if -2147483648 ≤ p.1 - q.2 ∧ p.2 - q.1 ≤ 2147483647 then
      if a.1 = 1 ∧ b.1 = 0 then some (G, (1, a.2.1, a.2.2 - b.2.1))
      else some (mk2 G (p.1 - q.2, p.2 - q.1))
    else some (mk2 G topI)
  | _, _ => none
theorem subI_ok : BinS subI (fun x y => x - y) := by
  intro G g V a b x y r hG ha hb hf
  unfold subI at hf
  split at hf
  · rename_i p q hp hq
    obtain ⟨x', e1, h1⟩ := ivI_ok hG ha hp
    obtain ⟨y', e2, h2⟩ := ivI_ok hG hb hq
    cases e1; cases e2
    unfold inI at h1 h2
    split at hf
    · rename_i hr
      have hs : (x - y).toInt = x.toInt - y.toInt := by rw [Int32.toInt_sub, ae_bm (by omega) (by omega)]
      split at hf
      · rename_i ht
        cases hf
        obtain ⟨ta, a1, a2⟩ := a; obtain ⟨tb, b1, b2⟩ := b
        simp only at ht
        obtain ⟨rfl, rfl⟩ := ht
        obtain ⟨u, eu, z, h4, h5⟩ := ha
        obtain ⟨w, ew, h6⟩ := hb
        cases eu; cases ew
        exact ⟨g, gxt_rf, hG, _, rfl, z, h4, by rw [hs]; simp only at h5 h6 ⊢; omega⟩
      · cases hf
        exact mk2_ok hG _ (by unfold inI; rw [hs]; simp only; omega)
    · cases hf
      exact mk2_ok hG _ (topI_ok _)
  · cases hf
/-- two known numbers -/
noncomputable def cstF (op : Int32 → Int32 → Int32) (F : Int × Int → Int × Int → Int × Int) (p q : Int × Int) : Int × Int := if p.1 = p.2 ∧ q.1 = q.2 then ((op (Int32.ofInt p.1) (Int32.ofInt q.1)).toInt, (op (Int32.ofInt p.1) (Int32.ofInt q.1)).toInt) else F p q
theorem cstF_ok {F : Int × Int → Int × Int → Int × Int} {op : Int32 → Int32 → Int32} (h : ∀ (p q : Int × Int) (x y : Int32), inI p x.toInt → inI q y.toInt → inI (F p q) (op x y).toInt) : ∀ (p q : Int × Int) (x y : Int32), inI p x.toInt → inI q y.toInt → inI (cstF op F p q) (op x y).toInt := by
  intro p q x y hx hy
  unfold cstF
  split
  · rename_i hc
    unfold inI at hx hy
    have e1 : x = Int32.ofInt p.1 := by rw [show p.1 = x.toInt by omega]; exact (Int32.ofInt_toInt x).symm
    have e2 : y = Int32.ofInt q.1 := by rw [show q.1 = y.toInt by omega]; exact (Int32.ofInt_toInt y).symm
    rw [← e1, ← e2]
    exact ⟨Int.le_refl _, Int.le_refl _⟩
  · exact h p q x y hx hy
noncomputable def mulF (p q : Int × Int) : Int × Int := if 0 ≤ p.1 ∧ 0 ≤ q.1 ∧ p.2 * q.2 ≤ 2147483647 then (p.1 * q.1, p.2 * q.2) else topI
theorem ae_mul {a b c d x y : Int} (h0 : 0 ≤ a) (h1 : 0 ≤ c) (hx : a ≤ x) (hx2 : x ≤ b) (hy : c ≤ y) (hy2 : y ≤ d) : a * c ≤ x * y ∧ x * y ≤ b * d :=
  ⟨Int.mul_le_mul hx hy h1 (Int.le_trans h0 hx), Int.mul_le_mul hx2 hy2 (Int.le_trans h1 hy) (Int.le_trans (Int.le_trans h0 hx) hx2)⟩
theorem mulF_ok (p q : Int × Int) (x y : Int32) (hx : inI p x.toInt) (hy : inI q y.toInt) : inI (mulF p q) (x * y).toInt := by
  unfold mulF
  split
  · rename_i h
    unfold inI at hx hy
    have hm := ae_mul h.1 h.2.1 hx.1 hx.2 hy.1 hy.2
    have hp : 0 ≤ p.1 * q.1 := Int.mul_nonneg h.1 h.2.1
    rw [Int32.toInt_mul, ae_bm (by omega) (by omega)]
    exact hm
  · exact topI_ok _
theorem ae_and (x y : Int32) (hy : 0 ≤ y.toInt) : 0 ≤ (x &&& y).toInt ∧ (x &&& y).toInt ≤ y.toInt := by
  have e1 : (x &&& y).toInt = (x.toBitVec &&& y.toBitVec).toInt := rfl
  have e2 : y.toInt = y.toBitVec.toInt := rfl
  rw [e1]
  rw [e2] at hy ⊢
  have hle : (x.toBitVec &&& y.toBitVec).toNat ≤ y.toBitVec.toNat := by rw [BitVec.toNat_and]; exact Nat.and_le_right
  rw [BitVec.toInt_eq_toNat_cond] at hy ⊢
  rw [BitVec.toInt_eq_toNat_cond]
  have h1 := y.toBitVec.isLt
  have h2 := (x.toBitVec &&& y.toBitVec).isLt
  split at hy
  · rename_i h3
    rw [if_pos h3, if_pos (by omega)]
    omega
  · omega
theorem ae_andc (x y : Int32) : x &&& y = y &&& x := by
  apply Int32.toBitVec_inj.mp
  exact BitVec.and_comm _ _
noncomputable def andF (p q : Int × Int) : Int × Int := if 0 ≤ q.1 ∧ 0 ≤ p.1 then (0, min p.2 q.2) else if 0 ≤ q.1 then (0, q.2) else if 0 ≤ p.1 then (0, p.2) else topI
theorem andF_ok (p q : Int × Int) (x y : Int32) (hx : inI p x.toInt) (hy : inI q y.toInt) : inI (andF p q) (x &&& y).toInt := by
  unfold inI at hx hy
  unfold andF
  split
  · have h1 := ae_and x y (by omega)
    have h2 := ae_and y x (by omega)
    rw [ae_andc y x] at h2
    exact ⟨h1.1, by simp only; omega⟩
  · split
    · have h1 := ae_and x y (by omega)
      exact ⟨h1.1, by simp only; omega⟩
    · split
      · have h2 := ae_and y x (by omega)
        rw [ae_andc y x] at h2
        exact ⟨h2.1, by simp only; omega⟩
      · exact topI_ok _
noncomputable def topF (_ _ : Int × Int) : Int × Int := topI
theorem topF_ok {op : Int32 → Int32 → Int32} (p q : Int × Int) (x y : Int32) (_ : inI p x.toInt) (_ : inI q y.toInt) : inI (topF p q) (op x y).toInt := topI_ok _
noncomputable def shrF (p q : Int × Int) : Int × Int := if 0 ≤ p.1 then (if q.1 = q.2 ∧ 0 ≤ q.1 ∧ q.1 ≤ 31 then (0, p.2 / ((2 ^ q.1.toNat : Nat) : Int)) else (0, p.2)) else topI
theorem ae_nI0 {x : Int32} (h : 0 ≤ x.toInt) : x = nI x.toInt.toNat := by
  apply Int32.toInt_inj.mp
  have := Int32.toInt_lt x
  rw [nI_toInt (by omega)]
  omega
theorem ae_sl0 : ∀ n : Nat, n < 32 → ((nI n &&& 31).toBitVec.smod 32).toNat = n := by decide +kernel
theorem shrF_ok (p q : Int × Int) (x y : Int32) (hx : inI p x.toInt) (hy : inI q y.toInt) : inI (shrF p q) (x >>> (y &&& 31)).toInt := by
  unfold inI at hx hy
  unfold shrF
  split
  · rw [pk_shr x (y &&& 31) _ rfl, Int.shiftRight_eq_div_pow]
    split
    · rename_i hq
      have ey := ae_nI0 (x := y) (by omega)
      have e3 : y.toInt.toNat = q.1.toNat := by omega
      rw [e3] at ey
      have e4 := ae_sl0 q.1.toNat (by omega)
      rw [← ey] at e4
      rw [e4]
      refine ⟨Int.ediv_nonneg (by omega) (Int.natCast_nonneg _), ?_⟩
      have h5 : (0 : Int) < ((2 ^ q.1.toNat : Nat) : Int) := by
        have : 0 < (2 : Nat) ^ q.1.toNat := Nat.pow_pos (by decide)
        omega
      exact Int.ediv_le_ediv h5 hx.2
    · refine ⟨Int.ediv_nonneg (by omega) (Int.natCast_nonneg _), ?_⟩
      exact Int.le_trans (Int.ediv_le_self _ (by omega)) hx.2
  · exact topI_ok _
theorem ae_sl : ∀ n : Nat, n < 32 → ((nI n &&& 31).toBitVec.smod 32).toNat = n := by decide +kernel
theorem ae_nI {x : Int32} (h : 0 ≤ x.toInt) : x = nI x.toInt.toNat := by
  apply Int32.toInt_inj.mp
  have := Int32.toInt_lt x
  rw [nI_toInt (by omega)]
  omega
noncomputable def shlF (p q : Int × Int) : Int × Int := if 0 ≤ p.1 ∧ 0 ≤ q.1 ∧ q.2 ≤ 30 ∧ p.2 * ((2 ^ q.2.toNat : Nat) : Int) ≤ 2147483647 then (p.1 * ((2 ^ q.1.toNat : Nat) : Int), p.2 * ((2 ^ q.2.toNat : Nat) : Int)) else topI
theorem shlF_ok (p q : Int × Int) (x y : Int32) (hx : inI p x.toInt) (hy : inI q y.toInt) : inI (shlF p q) (x <<< (y &&& 31)).toInt := by
  unfold inI at hx hy
  unfold shlF
  split
  · rename_i h
    have ex := ae_nI (x := x) (by omega)
    have ey := ae_nI (x := y) (by omega)
    generalize hn : x.toInt.toNat = n at ex
    generalize hk : y.toInt.toNat = k at ey
    have hnx : x.toInt = (n : Int) := by omega
    have hky : y.toInt = (k : Int) := by omega
    have hp1 : (2 : Nat) ^ k ≤ 2 ^ q.2.toNat := Nat.pow_le_pow_right (by decide) (by omega)
    have hp2 : (2 : Nat) ^ q.1.toNat ≤ 2 ^ k := Nat.pow_le_pow_right (by decide) (by omega)
    have hm := ae_mul (a := p.1) (b := p.2) (c := ((2 ^ q.1.toNat : Nat) : Int)) (d := ((2 ^ q.2.toNat : Nat) : Int)) (x := (n : Int)) (y := ((2 ^ k : Nat) : Int)) h.1 (Int.natCast_nonneg _) (by omega) (by omega) (Int.ofNat_le.mpr hp2) (Int.ofNat_le.mpr hp1)
    have hb : n * 2 ^ k < 2 ^ 31 := by
      have : ((n * 2 ^ k : Nat) : Int) ≤ 2147483647 := by rw [Int.natCast_mul]; omega
      omega
    rw [ex, ey, pk_shlN _ k (ae_sl k (by omega)) (by omega), nI_toInt hb, Int.natCast_mul]
    exact hm
  · exact topI_ok _
noncomputable def divF (p q : Int × Int) : Int × Int := if 0 ≤ p.1 ∧ 0 < q.1 then (0, p.2 / q.1) else topI
theorem divF_ok (p q : Int × Int) (x y : Int32) (hx : inI p x.toInt) (hy : inI q y.toInt) : inI (divF p q) (x / y).toInt := by
  unfold inI at hx hy
  unfold divF
  split
  · rename_i h
    have ex := ae_nI (x := x) (by omega)
    have ey := ae_nI (x := y) (by omega)
    have b1 := Int32.toInt_lt x
    have b2 := Int32.toInt_lt y
    generalize hn : x.toInt.toNat = n at ex
    generalize hk : y.toInt.toNat = k at ey
    have hnx : x.toInt = (n : Int) := by omega
    have hky : y.toInt = (k : Int) := by omega
    have hdl : n / k ≤ n := Nat.div_le_self n k
    rw [ex, ey, pk_div (by omega) (by omega) (by omega), nI_toInt (by omega)]
    refine ⟨Int.natCast_nonneg _, ?_⟩
    show ((n / k : Nat) : Int) ≤ p.2 / q.1
    rw [Int.natCast_ediv]
    refine Int.le_trans (Int.ediv_le_ediv (by omega) (show (n : Int) ≤ p.2 by omega)) ?_
    apply Int.le_ediv_of_mul_le h.2
    have h5 : p.2 / (k : Int) * q.1 ≤ p.2 / (k : Int) * (k : Int) := Int.mul_le_mul_of_nonneg_left (by omega) (Int.ediv_nonneg (by omega) (by omega))
    have h6 : p.2 / (k : Int) * (k : Int) ≤ p.2 := Int.ediv_mul_le _ (by omega)
    omega
  · exact topI_ok _
noncomputable def remF (p q : Int × Int) : Int × Int := if 0 ≤ p.1 ∧ 0 < q.1 then (if q.1 = q.2 ∧ p.1 / q.1 = p.2 / q.1 then (p.1 % q.1, p.2 % q.1) else (0, min p.2 (q.2 - 1))) else topI
theorem remF_ok (p q : Int × Int) (x y : Int32) (hx : inI p x.toInt) (hy : inI q y.toInt) : inI (remF p q) (x - x / y * y).toInt := by
  unfold inI at hx hy
  unfold remF
  split
  · rename_i h
    have ex := ae_nI (x := x) (by omega)
    have ey := ae_nI (x := y) (by omega)
    have b1 := Int32.toInt_lt x
    have b2 := Int32.toInt_lt y
    generalize hn : x.toInt.toNat = n at ex
    generalize hk : y.toInt.toNat = k at ey
    have hnx : x.toInt = (n : Int) := by omega
    have hky : y.toInt = (k : Int) := by omega
    have h1 : n % k ≤ n := Nat.mod_le n k
    have h2 : n % k < k := Nat.mod_lt n (by omega)
    rw [ex, ey, pk_rem (by omega) (by omega) (by omega), nI_toInt (by omega)]
    split
    · rename_i hq
      have hk2 : (k : Int) = q.1 := by omega
      rw [Int.natCast_emod, hk2]
      have d0 : (0 : Int) < q.1 := h.2
      have m1 := Int.emod_add_mul_ediv p.1 q.1
      have m2 := Int.emod_add_mul_ediv p.2 q.1
      have m3 := Int.emod_add_mul_ediv (n : Int) q.1
      have l1 : p.1 / q.1 ≤ (n : Int) / q.1 := Int.ediv_le_ediv d0 (by omega)
      have l2 : (n : Int) / q.1 ≤ p.2 / q.1 := Int.ediv_le_ediv d0 (by omega)
      have l3 : (n : Int) / q.1 = p.1 / q.1 := by omega
      rw [l3] at m3
      rw [← hq.2] at m2
      exact ⟨by show p.1 % q.1 ≤ _; omega, by show _ ≤ p.2 % q.1; omega⟩
    · exact ⟨by omega, by simp only; omega⟩
  · exact topI_ok _
/-- an int as a long: the same number -/
noncomputable def i2lA (a : AV) : Option AV := match a.1 with
  | 0 => some (3, a.2.1, a.2.2)
  | 1 => some (4, a.2.1, a.2.2)
  | 2 => some (5, a.2.1, a.2.2)
  | _ => none
theorem i2lA_ok {g : List Int} {V : EV} {a r : AV} {v : Value} (h : gam g V a v) (hr : i2lA a = some r) : ∃ x : Int32, v = .int x ∧ gam g V r (.long x.toInt64) := by
  obtain ⟨t, b, c⟩ := a
  unfold i2lA at hr
  split at hr
  · rename_i ht; simp only at ht; subst ht; cases hr
    obtain ⟨x, h1, h2⟩ := h
    exact ⟨x, h1, _, rfl, by rw [Int32.toInt_toInt64]; exact h2⟩
  · rename_i ht; simp only at ht; subst ht; cases hr
    obtain ⟨x, h1, z, h2, h3⟩ := h
    exact ⟨x, h1, _, rfl, z, h2, by rw [Int32.toInt_toInt64]; exact h3⟩
  · rename_i ht; simp only at ht; subst ht; cases hr
    obtain ⟨x, h1, h2, h3⟩ := h
    exact ⟨x, h1, _, rfl, by rw [Int32.toInt_toInt64]; exact h2, by rw [Int32.toInt_toInt64]; exact h3⟩
  · cases hr
theorem ae_i2b (x : Int32) : inI (-128, 127) x.toInt8.toInt32.toInt := by
  rw [lg_i2b_toInt]
  unfold inI
  have h1 := Int.le_bmod (x := x.toInt) (m := 2 ^ 8) (by decide)
  have h2 := Int.bmod_lt (x := x.toInt) (m := 2 ^ 8) (by decide)
  constructor <;> simp only <;> omega
