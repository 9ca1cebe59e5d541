/-! ===== a contract by its head ===== -/
theorem conE_ok2 {l : Launch} {cl : List vw_C} {Ts : List Jvm.Cond} (hgood : ∀ w ∈ Ts, GoodIn Ts (w :: Ts)) {k : Con2} {own : String} {y : MethodName} {cc : ByteArray} {n : Nat} {r : Option FieldType} (hk : k.1 = (y, cc, n, r)) (ho : y.cls = own) {T : TB} {d : Nat} {BT : List (Nat × Nat)} {FT CT : CTB2} {RF : List (Nat × List POP)} {RW : List Nat} {CU : List CUT2} {f : Nat} (hy : plainName own = true) (hT : TOK own cl Ts cc T) (hBT : BOK own Ts BT) (hXT : XOK own Ts BT) {es : List va_E} (hFT : FTOK2 l own cl Ts es FT) (hCT : CTOK2 l own cl Ts CT) (h : chkF T d BT FT CT RF RW CU f k = true) : VldE l cl Ts k es := by
  have h1 : k.1.1 = y := congrArg Prod.fst hk
  have h2 : k.1.2.1 = cc := congrArg (fun q => q.2.1) hk
  have h3 : k.1.1.cls = own := (congrArg MethodName.cls h1).trans ho
  refine conE_ok (T := T) (d := d) (BT := BT) (FT := FT) (CT := CT) (RF := RF) (RW := RW) (CU := CU) (f := f) hgood ?_ ?_ ?_ ?_ ?_ ?_ (chkF_ok h)
  · rw [h3]; exact hy
  · rw [h3, h2]; exact hT
  · rw [h3]; exact hBT
  · rw [h3]; exact hXT
  · rw [h3]; exact hFT
  · rw [h3]; exact hCT
theorem conR_ok2 {l : Launch} {cl : List vw_C} {Ts : List Jvm.Cond} (hgood : ∀ w ∈ Ts, GoodIn Ts (w :: Ts)) {k : Con2} {own : String} {y : MethodName} {cc : ByteArray} {n : Nat} {r : Option FieldType} (hk : k.1 = (y, cc, n, r)) (ho : y.cls = own) {T : TB} {d : Nat} {BT : List (Nat × Nat)} {CT : CTB2} {RF : List (Nat × List POP)} {RW : List Nat} {CU : List CUT2} {f : Nat} (hy : plainName own = true) (hT : TOK own cl Ts cc T) (hBT : BOK own Ts BT) (hXT : XOK own Ts BT) (hCT : CTOK2 l own cl Ts CT) (h : chkF T d BT [] CT RF RW CU f k = true) : Vld2 l cl Ts k := fun _ => conE_ok2 hgood hk ho hy hT hBT hXT (FT := []) (fun _ hq => absurd hq List.not_mem_nil) hCT h
theorem conE_ok3 {l : Launch} {cl : List vw_C} {Ts : List Jvm.Cond} (hgood : ∀ w ∈ Ts, GoodIn Ts (w :: Ts)) {k : Con2} {own : String} {y : MethodName} {cc : ByteArray} {n : Nat} {r : Option FieldType} (hk : k.1 = (y, cc, n, r)) (ho : y.cls = own) {T : TB} {d : Nat} {BT : List (Nat × Nat)} {FT CT : CTB2} {RF : List (Nat × List POP)} {RW : List Nat} {CU : List CUT2} {f : Nat} (hy : plainName own = true) (hT : TOK own cl Ts cc T) (hBT : BOK own Ts BT) (hXT : XOK own Ts BT) {es : List va_E} (hFT : FTOK2 l own cl Ts es FT) (hCT : CTOK2 l own cl Ts CT) (h : staG T d BT FT CT RF RW CU f k = true) (hC : ∀ q ∈ CU, cutG T d BT FT CT RF RW CU f k q = true) : VldE l cl Ts k es := by
  have h1 : k.1.1 = y := congrArg Prod.fst hk
  have h2 : k.1.2.1 = cc := congrArg (fun q => q.2.1) hk
  have h3 : k.1.1.cls = own := (congrArg MethodName.cls h1).trans ho
  refine conE_ok (T := T) (d := d) (BT := BT) (FT := FT) (CT := CT) (RF := RF) (RW := RW) (CU := CU) (f := f) hgood ?_ ?_ ?_ ?_ ?_ ?_ (conG_ok h hC)
  · rw [h3]; exact hy
  · rw [h3, h2]; exact hT
  · rw [h3]; exact hBT
  · rw [h3]; exact hXT
  · rw [h3]; exact hFT
  · rw [h3]; exact hCT
theorem conR_ok3 {l : Launch} {cl : List vw_C} {Ts : List Jvm.Cond} (hgood : ∀ w ∈ Ts, GoodIn Ts (w :: Ts)) {k : Con2} {own : String} {y : MethodName} {cc : ByteArray} {n : Nat} {r : Option FieldType} (hk : k.1 = (y, cc, n, r)) (ho : y.cls = own) {T : TB} {d : Nat} {BT : List (Nat × Nat)} {CT : CTB2} {RF : List (Nat × List POP)} {RW : List Nat} {CU : List CUT2} {f : Nat} (hy : plainName own = true) (hT : TOK own cl Ts cc T) (hBT : BOK own Ts BT) (hXT : XOK own Ts BT) (hCT : CTOK2 l own cl Ts CT) (h : staG T d BT [] CT RF RW CU f k = true) (hC : ∀ q ∈ CU, cutG T d BT [] CT RF RW CU f k q = true) : Vld2 l cl Ts k := fun _ => conE_ok3 hgood hk ho hy hT hBT hXT (FT := []) (fun _ hq => absurd hq List.not_mem_nil) hCT h hC
