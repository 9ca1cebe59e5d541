/-! ===== a call by a contract is right ===== -/
theorem va_P_sub {D : va_G} {cl : List vw_C} {ws ws' : va_W} {H : Heap} {σ : List Nat} (h : va_P D cl ws H) (hs : σ.map (fun i => ws[i]?) = ws'.map some) : va_P D cl ws' H := fun k q hk => by
  have h1 : (σ.map (fun i => ws[i]?))[k]? = some (some q) := by rw [hs, List.getElem?_map, hk]; rfl
  rw [List.getElem?_map] at h1
  cases hi : σ[k]? with
  | none => rw [hi] at h1; cases h1
  | some i => rw [hi] at h1; exact h i q (Option.some.inj h1)
theorem sg_or (σ : List Nat) (j : Nat) : (∃ k : Nat, σ[k]? = some j) ∨ j ∉ σ := by
  by_cases h : j ∈ σ
  · exact Or.inl (List.getElem?_of_mem h)
  · exact Or.inr h
theorem HS_join {D : va_G} {cl : List vw_C} {A : Nat → Prop} {H0 : Heap} {V : EV} {cA : Nat → ClassId} {es0 : List va_E} {hp : HP} {g : List Int} {es : List va_E} {H H1 : Heap} {locs locs1 : List Loc} {σ ac : List Nat} {ec es' : List va_E} {cells cs : HP} (h : HS D cl A H0 V cA es0 hp g es H locs) (hnd : va_nd σ = true) (hce : gAll hp σ = some cells) (hec : gAll es σ = some ec) (hac : gAll V.2 σ = some ac) (hcs : zf2 (fun (x : Bool × AC) (y : va_E) => relC g V cA x.2 y) cs es') (hcl : cs.length = cells.length) (hel : es'.length = ac.length) (hkp : ∀ (j : Nat) (q : Bool × AC), cs[j]? = some q → q.1 = false → cells[j]? = some q ∧ es'[j]? = ec[j]?)
    (hk : ∀ q : Nat, q < H.size → ¬ va_A (zw ac ec) H.size q → H1[q]? = H[q]?) (hP1 : va_P D cl (zw ac es') H1) (hS1 : va_S A H0 H1 locs1) : HS D cl A H0 V cA es0 (sAll hp σ cs) g (sAll es σ es') H1 locs1 := by
  obtain ⟨a1, a2, a3, a4, a5, a6⟩ := h
  have kc := gAll_ok hce
  have ke := gAll_ok hec
  have ka := gAll_ok hac
  have hb1 : ∀ j ∈ σ, j < hp.length := fun j hj => by
    obtain ⟨k, hk⟩ := List.getElem?_of_mem hj
    obtain ⟨-, x, hx⟩ := kc.2 k j hk
    exact (List.getElem?_eq_some_iff.mp hx).1
  have hb2 : ∀ j ∈ σ, j < es.length := fun j hj => by rw [← zf2_len a1]; exact hb1 j hj
  have hl1 : σ.length = cs.length := kc.1.trans hcl.symm
  have hl2 : σ.length = es'.length := ka.1.trans hel.symm
  refine ⟨?_, ?_, ?_, ?_, hS1, by rw [sAll_len]; exact a6⟩
  · refine zf2_of (by rw [sAll_len, sAll_len]; exact zf2_len a1) (fun i x y hx hy => ?_)
    rcases sg_or σ i with ⟨k, hk⟩ | hno
    · rw [sAll_in hnd hl1 hb1 hk] at hx
      rw [sAll_in hnd hl2 hb2 hk] at hy
      obtain ⟨b, e1, e2⟩ := zf2_get hcs hx
      rw [hy] at e1
      cases e1
      exact e2
    · rw [sAll_out hno] at hx hy
      obtain ⟨b, e1, e2⟩ := zf2_get a1 hx
      rw [hy] at e1
      cases e1
      exact e2
  · intro j q hj hq
    rcases sg_or σ j with ⟨k, hk⟩ | hno
    · rw [sAll_in hnd hl1 hb1 hk] at hj
      obtain ⟨e1, e2⟩ := hkp k q hj hq
      rw [sAll_in hnd hl2 hb2 hk, e2, (ke.2 k j hk).1]
      exact a2 j q ((kc.2 k j hk).1.symm.trans e1) hq
    · rw [sAll_out hno] at hj ⊢
      exact a2 j q hj hq
  · intro i q hq
    obtain ⟨q1, q2⟩ := zw_inv hq
    rcases sg_or σ i with ⟨k, hk'⟩ | hno
    · rw [sAll_in hnd hl2 hb2 hk'] at q2
      have h3 : ac[k]? = some q.1 := (ka.2 k i hk').1.trans q1
      exact hP1 k q (zw_get h3 q2)
    · rw [sAll_out hno] at q2
      have h4 : (zw V.2 es)[i]? = some q := zw_get q1 q2
      have h5 := a3 i q h4
      refine h5.kept (hk q.1 h5.lt (fun hA => ?_))
      rcases hA with ⟨k, e, h6⟩ | h6
      · have h7 := (zw_inv h6).1
        have h7e := (zw_inv h6).2
        have hkl : k < σ.length := by rw [ka.1]; exact (List.getElem?_eq_some_iff.mp h7).1
        have h8 : σ[k]? = some σ[k] := List.getElem?_eq_getElem hkl
        have h9 := (ka.2 k _ h8).1
        have h10 := (ke.2 k _ h8).1
        have h11 : (zw V.2 es)[σ[k]]? = some (q.1, e) := zw_get (h9.symm.trans h7) (h10.symm.trans h7e)
        have := a4.1 i σ[k] _ _ h4 h11 rfl
        exact hno (by rw [this]; exact List.getElem_mem hkl)
      · exact absurd h5.lt (by omega)
  · exact va_D_len a4 a6
