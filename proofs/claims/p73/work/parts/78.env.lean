/-! ===== the outside at the law's entry ===== -/
noncomputable def rK : List Nat := [105, 83, 46, 129, 136, 55, 77, 91, 60, 95, 107, 131, 65]
noncomputable def tmK (i : Nat) : Term := .string "RookHusting$Reader" (rK.getD i 0)
noncomputable def flG : List Jvm.Cond := flatC (Jvm.Cond.and given_1 narrow_1)
theorem en_ex : ∀ i, i < 13 → Jvm.Cond.exactly (tmK i) "java/lang/String" ∈ flG := by decide +kernel
theorem en_co : ∀ i, i < 13 → Jvm.Cond.eq (.field (tmK i) "java/lang/String" "coder" "B") (.int 0) ∈ flG := by decide +kernel
theorem en_ar : ∀ i, i < 13 → Jvm.Cond.arrayOf (.field (tmK i) "java/lang/String" "value" "[B") .byte ∈ flG := by decide +kernel
theorem en_le : ∀ i, i < 13 → Jvm.Cond.eq (.length (.field (tmK i) "java/lang/String" "value" "[B")) (.int (Int32.ofNat (lnK.getD i 0))) ∈ flG := by decide +kernel
theorem en_el : ∀ i, i < 13 → ∀ j, j < lnK.getD i 0 → Jvm.Cond.eq (.elem (.field (tmK i) "java/lang/String" "value" "[B") (.int (Int32.ofNat j))) (.int ((byK.getD i []).getD j 0)) ∈ flG := by decide +kernel
theorem en_ln : ∀ i, i < 13 → lnK.getD i 0 < 2 ^ 31 := by decide +kernel
theorem en_oa : Jvm.Cond.arrayOf (.static "RookHusting" "ORDERS" "[I") .int ∈ flG := by decide +kernel
theorem en_ol : Jvm.Cond.eq (.length (.static "RookHusting" "ORDERS" "[I")) (.int (Int32.ofNat 8)) ∈ flG := by decide +kernel
theorem en_oe : ∀ j, j < 8 → Jvm.Cond.eq (.elem (.static "RookHusting" "ORDERS" "[I") (.int (Int32.ofNat j))) (.int (orK.getD j 0)) ∈ flG := by decide +kernel
theorem en_cs : Jvm.Cond.eq (.static "java/lang/String" "COMPACT_STRINGS" "Z") (.int 1) ∈ flG := by decide +kernel
theorem en_sf : Jvm.Cond.isRef (.static "jdk/internal/util/Preconditions" "SIOOBE_FORMATTER" "Ljava/util/function/BiFunction;") ∈ flG := by decide +kernel
theorem en_q186 : Jvm.Cond.eq (tmK 6) (.string "RookHustingModel" 186) ∈ flG := by decide +kernel
theorem en_q188 : Jvm.Cond.eq (tmK 1) (.string "RookHustingModel" 188) ∈ flG := by decide +kernel
theorem en_q193 : Jvm.Cond.eq (tmK 7) (.string "RookHustingModel" 193) ∈ flG := by decide +kernel
theorem en_q195 : Jvm.Cond.eq (tmK 9) (.string "RookHustingModel" 195) ∈ flG := by decide +kernel
theorem en_q202 : Jvm.Cond.eq (tmK 2) (.string "RookHustingModel" 202) ∈ flG := by decide +kernel
theorem en_q204 : Jvm.Cond.eq (tmK 5) (.string "RookHustingModel" 204) ∈ flG := by decide +kernel
theorem en_q206 : Jvm.Cond.eq (tmK 8) (.string "RookHustingModel" 206) ∈ flG := by decide +kernel
theorem en_q208 : Jvm.Cond.eq (tmK 12) (.string "RookHustingModel" 208) ∈ flG := by decide +kernel
theorem en_q213 : Jvm.Cond.eq (tmK 0) (.string "RookHustingModel" 213) ∈ flG := by decide +kernel
theorem en_q215 : Jvm.Cond.eq (tmK 10) (.string "RookHustingModel" 215) ∈ flG := by decide +kernel
theorem en_q220 : Jvm.Cond.eq (tmK 3) (.string "RookHustingModel" 220) ∈ flG := by decide +kernel
theorem en_q222 : Jvm.Cond.eq (tmK 11) (.string "RookHustingModel" 222) ∈ flG := by decide +kernel
theorem en_q197 : Jvm.Cond.eq (tmK 4) (.string "RookHustingModel" 197) ∈ flG := by decide +kernel
theorem env_ok {s : State} {b : Addr} (hts0 : ∀ w ∈ lw_tbl, w.before #[Value.ref b] s = true) (hgv : (Jvm.Cond.and given_1 narrow_1).before #[Value.ref b] s = true) : ∃ E : EvK, EOK E s s.heap ∧ ∀ q : Nat, s.heap.size ≤ q → E.2.2.2 q := by
  have hq : ∀ w ∈ flG, w.before #[Value.ref b] s = true := flat_of_before _ hgv
  have hA : ∀ a : Nat, a < s.heap.size → ¬ (fun q : Nat => s.heap.size ≤ q) a := fun a h => Nat.not_le.mpr h
  have h0 : ∀ i : Nat, ∃ q : Nat × Nat, i < 13 → (tmK i).eval #[Value.ref b] s none [] s = some (.ref q.1) ∧ va_O "java/lang/String" q.1 (fun q : Nat => s.heap.size ≤ q) s s.heap ∧ va_OF "java/lang/String" "coder" "B" (.int 0) q.1 (fun q : Nat => s.heap.size ≤ q) s s.heap ∧ va_OF "java/lang/String" "value" "[B" (.ref q.2) q.1 (fun q : Nat => s.heap.size ≤ q) s s.heap ∧ va_T .byte q.2 (lnK.getD i 0) (fun j => .int ((byK.getD i []).getD j 0)) (fun q : Nat => s.heap.size ≤ q) s s.heap := by
    intro i
    by_cases hi : i < 13
    · obtain ⟨a, c, cA, kA, q1, q2, q3, q4, q5, q6, -⟩ := Cond.exactly_spec (args := #[Value.ref b]) (first := s) (o := none) (s := s) (idx := []) (t := tmK i) (cls := "java/lang/String") (hq _ (en_ex i hi))
      obtain ⟨t, ht, hT⟩ := va_Tof (f := fun j => .int ((byK.getD i []).getD j 0)) (A := fun q : Nat => s.heap.size ≤ q) (en_ln i hi) (hq _ (en_ar i hi)) (va_eqt (hq _ (en_le i hi))) (fun j hj => va_eqt (hq _ (en_el i hi j hj))) hA
      exact ⟨(a, t), fun _ => ⟨q1, ⟨cA, q3, q5, by rw [q6]; exact q2, hA a (Array.getElem?_eq_some_iff.mp q3).1⟩, vk_OFof q1 (va_eqt (hq _ (en_co i hi))) hA, vk_OFof q1 ht hA, hT⟩⟩
    · exact ⟨(0, 0), fun h => absurd h hi⟩
  obtain ⟨ad, had⟩ := Classical.axiomOfChoice h0
  obtain ⟨t, ht, hT⟩ := va_Tof (tm := .static "RookHusting" "ORDERS" "[I") (N := 8) (f := fun j => .int (orK.getD j 0)) (A := fun q : Nat => s.heap.size ≤ q) (by decide) (hq _ en_oa) (va_eqt (hq _ en_ol)) (fun j hj => va_eqt (hq _ (en_oe j hj))) hA
  have ev : ∀ i : Nat, i < 13 → (tmK i).eval #[Value.ref b] s none [] s = some (.ref (ad i).1) := fun i hi => (had i hi).1
  refine ⟨(fun i => (ad i).1, fun i => (ad i).2, t, fun q : Nat => s.heap.size ≤ q), ⟨?_, ?_, ?_, ?_, hT, ?_, ?_⟩, fun q hq => hq⟩
  · unfold strK
    refine List.forall_mem_cons.mpr ⟨vk_R.of (hts0 _ (List.mem_of_getElem? (i := 609) (by decide +kernel))) (ev 6 (by decide)), ?_⟩
    refine List.forall_mem_cons.mpr ⟨vk_R.of (hts0 _ (List.mem_of_getElem? (i := 671) (by decide +kernel))) (ev 1 (by decide)), ?_⟩
    refine List.forall_mem_cons.mpr ⟨vk_R.of (hts0 _ (List.mem_of_getElem? (i := 683) (by decide +kernel))) (ev 7 (by decide)), ?_⟩
    refine List.forall_mem_cons.mpr ⟨vk_R.of (hts0 _ (List.mem_of_getElem? (i := 684) (by decide +kernel))) (ev 9 (by decide)), ?_⟩
    refine List.forall_mem_cons.mpr ⟨vk_R.of (hts0 _ (List.mem_of_getElem? (i := 685) (by decide +kernel))) (ev 2 (by decide)), ?_⟩
    refine List.forall_mem_cons.mpr ⟨vk_R.of (hts0 _ (List.mem_of_getElem? (i := 690) (by decide +kernel))) (ev 0 (by decide)), ?_⟩
    refine List.forall_mem_cons.mpr ⟨vk_R.of (hts0 _ (List.mem_of_getElem? (i := 691) (by decide +kernel))) (ev 10 (by decide)), ?_⟩
    refine List.forall_mem_cons.mpr ⟨vk_R.of (hts0 _ (List.mem_of_getElem? (i := 696) (by decide +kernel))) (ev 5 (by decide)), ?_⟩
    refine List.forall_mem_cons.mpr ⟨vk_R.of (hts0 _ (List.mem_of_getElem? (i := 705) (by decide +kernel))) (ev 8 (by decide)), ?_⟩
    refine List.forall_mem_cons.mpr ⟨vk_R.of (hts0 _ (List.mem_of_getElem? (i := 710) (by decide +kernel))) (ev 3 (by decide)), ?_⟩
    refine List.forall_mem_cons.mpr ⟨vk_R.of (hts0 _ (List.mem_of_getElem? (i := 711) (by decide +kernel))) (ev 11 (by decide)), ?_⟩
    refine List.forall_mem_cons.mpr ⟨vk_R.of (hts0 _ (List.mem_of_getElem? (i := 716) (by decide +kernel))) (ev 12 (by decide)), ?_⟩
    refine List.forall_mem_cons.mpr ⟨vk_R.of (hts0 _ (List.mem_of_getElem? (i := 721) (by decide +kernel))) (ev 4 (by decide)), ?_⟩
    refine List.forall_mem_cons.mpr ⟨vk_R.of (hts0 _ (List.mem_of_getElem? (i := 1591) (by decide +kernel))) (va_eqR (hq _ en_q186) (ev 6 (by decide))), ?_⟩
    refine List.forall_mem_cons.mpr ⟨vk_R.of (hts0 _ (List.mem_of_getElem? (i := 1610) (by decide +kernel))) (va_eqR (hq _ en_q188) (ev 1 (by decide))), ?_⟩
    refine List.forall_mem_cons.mpr ⟨vk_R.of (hts0 _ (List.mem_of_getElem? (i := 1619) (by decide +kernel))) (va_eqR (hq _ en_q193) (ev 7 (by decide))), ?_⟩
    refine List.forall_mem_cons.mpr ⟨vk_R.of (hts0 _ (List.mem_of_getElem? (i := 1620) (by decide +kernel))) (va_eqR (hq _ en_q195) (ev 9 (by decide))), ?_⟩
    refine List.forall_mem_cons.mpr ⟨vk_R.of (hts0 _ (List.mem_of_getElem? (i := 1625) (by decide +kernel))) (va_eqR (hq _ en_q202) (ev 2 (by decide))), ?_⟩
    refine List.forall_mem_cons.mpr ⟨vk_R.of (hts0 _ (List.mem_of_getElem? (i := 1626) (by decide +kernel))) (va_eqR (hq _ en_q204) (ev 5 (by decide))), ?_⟩
    refine List.forall_mem_cons.mpr ⟨vk_R.of (hts0 _ (List.mem_of_getElem? (i := 1627) (by decide +kernel))) (va_eqR (hq _ en_q206) (ev 8 (by decide))), ?_⟩
    refine List.forall_mem_cons.mpr ⟨vk_R.of (hts0 _ (List.mem_of_getElem? (i := 1628) (by decide +kernel))) (va_eqR (hq _ en_q208) (ev 12 (by decide))), ?_⟩
    refine List.forall_mem_cons.mpr ⟨vk_R.of (hts0 _ (List.mem_of_getElem? (i := 1633) (by decide +kernel))) (va_eqR (hq _ en_q213) (ev 0 (by decide))), ?_⟩
    refine List.forall_mem_cons.mpr ⟨vk_R.of (hts0 _ (List.mem_of_getElem? (i := 1634) (by decide +kernel))) (va_eqR (hq _ en_q215) (ev 10 (by decide))), ?_⟩
    refine List.forall_mem_cons.mpr ⟨vk_R.of (hts0 _ (List.mem_of_getElem? (i := 1639) (by decide +kernel))) (va_eqR (hq _ en_q220) (ev 3 (by decide))), ?_⟩
    refine List.forall_mem_cons.mpr ⟨vk_R.of (hts0 _ (List.mem_of_getElem? (i := 1640) (by decide +kernel))) (va_eqR (hq _ en_q222) (ev 11 (by decide))), ?_⟩
    refine List.forall_mem_cons.mpr ⟨vk_R.of (hts0 _ (List.mem_of_getElem? (i := 1645) (by decide +kernel))) (va_eqR (hq _ en_q197) (ev 4 (by decide))), ?_⟩
    exact fun _ h => absurd h List.not_mem_nil
  · exact va_Nw.of rfl (hts0 _ (List.mem_of_getElem? (i := 979) (by decide +kernel)))
  · exact fun i hi => (had i hi).2
  · exact va_Zref (hts0 _ (List.mem_of_getElem? (i := 980) (by decide +kernel))) (hts0 _ (List.mem_of_getElem? (i := 125) (by decide +kernel))) ht hA
  · exact va_Zof (hts0 _ (List.mem_of_getElem? (i := 627) (by decide +kernel))) (hts0 _ (List.mem_of_getElem? (i := 139) (by decide +kernel))) (va_eqi (hq _ en_cs)) hA
  · rcases va_Zqof (hts0 _ (List.mem_of_getElem? (i := 643) (by decide +kernel))) (hts0 _ (List.mem_of_getElem? (i := 141) (by decide +kernel))) (hq _ en_sf) hA with h | ⟨r, h⟩
    · exact ⟨_, h, rfl⟩
    · exact ⟨_, h, rfl⟩
