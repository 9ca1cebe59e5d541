/-! ===== from a run to a contract ===== -/
noncomputable def lva : Nat → List AV → List (Nat × AV)
  | _, [] => []
  | i, a :: r => (i, a) :: lva (if catA a = 2 then i + 2 else i + 1) r
theorem lva_ok {g : List Int} {V : EV} : ∀ {as : List AV} {vs : List Value} {i : Nat}, zf2 (gam g V) as vs → as.all (fun q => decide (q.1 ≠ 8)) = true → zf2 (locR g V) (lva i as) (lv_args i vs)
  | [], [], _, _, _ => trivial
  | [], _ :: _, _, h, _ => h.elim
  | _ :: _, [], _, h, _ => h.elim
  | a :: as, v :: vs, i, h, ha => by
    simp only [List.all_cons, Bool.and_eq_true, decide_eq_true_eq] at ha
    simp only [lva, lv_args]
    rw [← gam_cat h.1 ha.1]
    exact ⟨⟨rfl, h.1, ha.1⟩, lva_ok h.2 ha.2⟩
theorem sl_len {g : List Int} {V : EV} : ∀ {as : List AV} {vs : List Value}, zf2 (gam g V) as vs → as.all (fun q => decide (q.1 ≠ 8)) = true → (lg_sl vs).length = (as.map catA).sum
  | [], [], _, _ => rfl
  | [], _ :: _, h, _ => h.elim
  | _ :: _, [], h, _ => h.elim
  | a :: as, v :: vs, h, ha => by
    simp only [List.all_cons, Bool.and_eq_true, decide_eq_true_eq] at ha
    have ih := sl_len h.2 ha.2
    have hc := gam_cat h.1 ha.1
    unfold lg_sl at ih ⊢
    simp only [List.flatMap_cons, List.length_append, List.map_cons, List.sum_cons, ih]
    rcases lv_cat v with h1 | h1
    · rw [if_neg (by omega)]
      simp only [List.length_cons, List.length_nil]; omega
    · rw [if_pos h1]
      simp only [List.length_cons, List.length_nil]; omega
theorem zf2_mapL {g : List Int} {V : EV} {cA : Nat → ClassId} : ∀ {cs : List AC} {es : List va_E}, zf2 (relC g V cA) cs es → zf2 (fun (x : Bool × AC) (y : va_E) => relC g V cA x.2 y) (cs.map (fun c => (false, c))) es
  | [], [], _ => trivial
  | [], _ :: _, h => h.elim
  | _ :: _, [], h => h.elim
  | _ :: cs, _ :: es, h => ⟨h.1, zf2_mapL (cs := cs) (es := es) h.2⟩
