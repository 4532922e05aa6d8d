set_option maxHeartbeats 8000000 in
set_option maxRecDepth 100000 in
theorem law_3 (l : Launch) (hst : l.stackTraces = false) (D : va_G) (cI cZ cJ : ClassId) {p : Program} {e : Env} {s : State} {m : MethodId} {below : List Frame} {meth : Method} {c : Code} {b : Nat} {xs : Nat → Int32} (S : CallFix p m c cL_law 9 s #[Value.ref b] uG RL) (hr : meth.sig.returnType = ret) (hlocks : meth.locks = false) (hX : va_X b 5 xs s s.heap) (hbl : b < s.heap.size) (hK : va_K D vwCl (tyL cI cZ cJ) s) (ra ga : Nat → Nat) (hB : amb ra ga (fun q => s.heap.size ≤ q) s s.heap) (hC : ambC s) (x1 x2 x3 x4 : Int32) (h1 : xs 1 = x1) (h2 : xs 2 = x2) (h3 : xs 3 = x3) (h4 : xs 4 = x4) (o om ao : Nat) (u q : Nat → Nat) (ls : Array Slot) (H : Heap) (locs : List Loc) (hl : lv_has ls 9 [(4, .int 0), (3, .ref ao), (2, .ref om), (1, .ref o), (0, .ref b)]) (hP : va_P D vwCl ((mW om 0 q cI cZ) ++ ((xW o u cI cZ cJ) ++ [(ao, .inl (cJ, 1, .inr (.inl (fun _ => 0))))])) H) (hD : va_D (fun q => s.heap.size ≤ q) ((mW om 0 q cI cZ) ++ ((xW o u cI cZ cJ) ++ [(ao, .inl (cJ, 1, .inr (.inl (fun _ => 0))))]))) (hS : va_S (fun q => s.heap.size ≤ q) s.heap H locs) : W p l e room_1 s m #[Value.ref b] below meth c H locs 120 12958 (lw_Z below #[Value.ref b] s) (F0 m 376 ls []) := by
  have hx := S.1
  have hb := S.2.1
  have hA : ∀ q : Nat, s.heap.size ≤ q → (fun q : Nat => s.heap.size ≤ q) q := fun _ h => h
  have hbA : ¬ (fun q : Nat => s.heap.size ≤ q) b := Nat.not_le.mpr hbl
  refine lv_aload_n hx hb dL_law_376 rfl (lv_at hl 3 rfl) ?_
  refine lv_aload_n hx hb dL_law_377 rfl (lv_at hl 4 rfl) ?_
  refine lv_iload hx hb dL_law_378 (lv_at hl 0 rfl) ?_
  refine lv_iconst (v := 1) hx hb dL_law_380 (by decide) ?_
  refine xiadd (v := 1) S dL_law_381 (by decide) ?_
  refine xsld (v := x1) S hX hbl hbA hS (vin rfl) h1 dL_law_382 ?_
  refine lv_aload_n hx hb dL_law_383 rfl (lv_at hl 4 rfl) ?_
  refine lv_iload hx hb dL_law_384 (lv_at hl 0 rfl) ?_
  refine lv_iconst (v := 2) hx hb dL_law_386 (by decide) ?_
  refine xiadd (v := 2) S dL_law_387 (by decide) ?_
  refine xsld (v := x2) S hX hbl hbA hS (vin rfl) h2 dL_law_388 ?_
  refine lv_aload_n hx hb dL_law_389 rfl (lv_at hl 4 rfl) ?_
  refine lv_iload hx hb dL_law_390 (lv_at hl 0 rfl) ?_
  refine lv_iconst (v := 3) hx hb dL_law_392 (by decide) ?_
  refine xiadd (v := 3) S dL_law_393 (by decide) ?_
  refine xsld (v := x3) S hX hbl hbA hS (vin rfl) h3 dL_law_394 ?_
  refine lv_aload_n hx hb dL_law_395 rfl (lv_at hl 1 rfl) ?_
  by_cases d_396 : x1 < 0
  · have hi_x1 : x1 ≤ (-1) := u_lt d_396 (by decide)
    refine wrap (mW om 0 q cI cZ) (mid := ((xW o u cI cZ cJ) ++ [(ao, .inl (cJ, 1, .inr (.inl (fun _ => 0))))])) (As := [.ref o, .int x1, .int x2, .int x3, .ref ao]) S (h_ofName_0 l D cI cZ cJ o u ao hst ra ga H.size x1 x2 x3 hi_x1) msh_L_ofName kw_6_7 rfl rfl ⟨Nat.le_of_ble_eq_true rfl, Nat.le_of_ble_eq_true rfl⟩ hP hD hK hS hA hB hC hl.1 (Nat.le_of_ble_eq_true rfl) ⟨Nat.le_of_ble_eq_true rfl, Nat.le_of_ble_eq_true rfl⟩ dL_law_396 (fun H locs hz hP hD hS => ?_)
    have hP : va_P D vwCl ((mW om 0 q cI cZ) ++ ((xW o u cI cZ cJ) ++ [(ao, .inl (cJ, 1, .inr (.inl (fun _ => 0))))])) H := hP
    have hD : va_D (fun q : Nat => s.heap.size ≤ q) ((mW om 0 q cI cZ) ++ ((xW o u cI cZ cJ) ++ [(ao, .inl (cJ, 1, .inr (.inl (fun _ => 0))))])) := hD
    refine lv_istore (lv' := [(5, .int 1), (4, .int 0), (3, .ref ao), (2, .ref om), (1, .ref o), (0, .ref b)]) hx hb dL_law_399 hl (by decide) rfl (fun ls hl => ?_)
    refine lv_aload_n hx hb dL_law_401 rfl (lv_at hl 3 rfl) ?_
    refine lv_aload_n hx hb dL_law_402 rfl (lv_at hl 5 rfl) ?_
    refine lv_iload hx hb dL_law_403 (lv_at hl 1 rfl) ?_
    refine lv_iconst (v := 1) hx hb dL_law_405 (by decide) ?_
    refine xiadd (v := 1) S dL_law_406 (by decide) ?_
    refine xsld (v := x1) S hX hbl hbA hS (vin rfl) h1 dL_law_407 ?_
    refine lv_aload_n hx hb dL_law_408 rfl (lv_at hl 5 rfl) ?_
    refine lv_iload hx hb dL_law_409 (lv_at hl 1 rfl) ?_
    refine lv_iconst (v := 2) hx hb dL_law_411 (by decide) ?_
    refine xiadd (v := 2) S dL_law_412 (by decide) ?_
    refine xsld (v := x2) S hX hbl hbA hS (vin rfl) h2 dL_law_413 ?_
    refine lv_aload_n hx hb dL_law_414 rfl (lv_at hl 5 rfl) ?_
    refine lv_iload hx hb dL_law_415 (lv_at hl 1 rfl) ?_
    refine lv_iconst (v := 3) hx hb dL_law_417 (by decide) ?_
    refine xiadd (v := 3) S dL_law_418 (by decide) ?_
    refine xsld (v := x3) S hX hbl hbA hS (vin rfl) h3 dL_law_419 ?_
    refine fVi [] ((xW o u cI cZ cJ) ++ [(ao, .inl (cJ, 1, .inr (.inl (fun _ => 0))))]) (mid := (mW om 0 q cI cZ)) (As := [.int x1, .int x2, .int x3]) (ci := 9) S (c_X9_ofName_0 l D cI cZ cJ om q H.size x1 x2 x3 hi_x1) mi_X9_ofName kw_7_127 rfl rfl ⟨Nat.le_of_ble_eq_true rfl, Nat.le_of_ble_eq_true rfl⟩ hP hD hK hS hA mW_0 rfl rfl hl.1 (Nat.le_of_ble_eq_true rfl) ⟨Nat.le_of_ble_eq_true rfl, Nat.le_of_ble_eq_true rfl⟩ dL_law_420 (fun H locs hz hP hD hS => ?_)
    have hP : va_P D vwCl ((mW om 1 q cI cZ) ++ ((xW o u cI cZ cJ) ++ [(ao, .inl (cJ, 1, .inr (.inl (fun _ => 0))))])) H := hP
    have hD : va_D (fun q : Nat => s.heap.size ≤ q) ((mW om 1 q cI cZ) ++ ((xW o u cI cZ cJ) ++ [(ao, .inl (cJ, 1, .inr (.inl (fun _ => 0))))])) := hD
    refine lv_istore (lv' := [(6, .int 0), (5, .int 1), (4, .int 0), (3, .ref ao), (2, .ref om), (1, .ref o), (0, .ref b)]) hx hb dL_law_423 hl (by decide) rfl (fun ls hl => ?_)
    refine lv_aload_n hx hb dL_law_425 rfl (lv_at hl 4 rfl) ?_
    refine rdV (As := []) (ci := 9) S (c_X9_thrown_0 l D cI cZ cJ om q) mi_X9_thrown kw_7_89 ⟨rfl, rfl⟩ ⟨Nat.le_of_ble_eq_true rfl, Nat.le_of_ble_eq_true rfl⟩ (va_Pl (ws := (mW om 1 q cI cZ)) (x := ((xW o u cI cZ cJ) ++ [(ao, .inl (cJ, 1, .inr (.inl (fun _ => 0))))])) hP) hK mW_0 rfl rfl hl.1 (Nat.le_of_ble_eq_true rfl) ⟨Nat.le_of_ble_eq_true rfl, Nat.le_of_ble_eq_true rfl⟩ dL_law_426 ?_
    refine lv_iload hx hb dL_law_429 (lv_at hl 1 rfl) ?_
    refine lv_icmp_eq (tgt := 436) hx hb dL_law_431 (by decide) (fun _ => ?_) (fun c => absurd c (by decide))
    refine lv_iload hx hb dL_law_436 (lv_at hl 1 rfl) ?_
    refine lv_if_ne (tgt := 453) hx hb dL_law_438 (by decide) (fun _ => ?_) (fun c => absurd c (by decide))
    refine lv_goto (tgt := 1519) hx hb dL_law_453 (by decide) ?_
    exact law_tail (cells := 121) (slots := 12964) S hr hlocks hX hbl (lv_sub hl [2, 6] rfl) hS (Nat.le_of_ble_eq_true rfl) (Nat.le_of_ble_eq_true rfl)
  · have lo_x1 : 0 ≤ x1 := l_nlt d_396
    by_cases d_396 : 1 ≤ x1
    · have lo_x1 : 1 ≤ x1 := d_396
      refine wrap (mW om 0 q cI cZ) (mid := ((xW o u cI cZ cJ) ++ [(ao, .inl (cJ, 1, .inr (.inl (fun _ => 0))))])) (As := [.ref o, .int x1, .int x2, .int x3, .ref ao]) S (h_ofName_1 l D cI cZ cJ o u ao hst ra ga H.size x1 x2 x3 lo_x1) msh_L_ofName kw_6_7 rfl rfl ⟨Nat.le_of_ble_eq_true rfl, Nat.le_of_ble_eq_true rfl⟩ hP hD hK hS hA hB hC hl.1 (Nat.le_of_ble_eq_true rfl) ⟨Nat.le_of_ble_eq_true rfl, Nat.le_of_ble_eq_true rfl⟩ dL_law_396 (fun H locs hz hP hD hS => ?_)
      have hP : va_P D vwCl ((mW om 0 q cI cZ) ++ ((xW o u cI cZ cJ) ++ [(ao, .inl (cJ, 1, .inr (.inl (fun _ => 0))))])) H := hP
      have hD : va_D (fun q : Nat => s.heap.size ≤ q) ((mW om 0 q cI cZ) ++ ((xW o u cI cZ cJ) ++ [(ao, .inl (cJ, 1, .inr (.inl (fun _ => 0))))])) := hD
      refine lv_istore (lv' := [(5, .int 1), (4, .int 0), (3, .ref ao), (2, .ref om), (1, .ref o), (0, .ref b)]) hx hb dL_law_399 hl (by decide) rfl (fun ls hl => ?_)
      refine lv_aload_n hx hb dL_law_401 rfl (lv_at hl 3 rfl) ?_
      refine lv_aload_n hx hb dL_law_402 rfl (lv_at hl 5 rfl) ?_
      refine lv_iload hx hb dL_law_403 (lv_at hl 1 rfl) ?_
      refine lv_iconst (v := 1) hx hb dL_law_405 (by decide) ?_
      refine xiadd (v := 1) S dL_law_406 (by decide) ?_
      refine xsld (v := x1) S hX hbl hbA hS (vin rfl) h1 dL_law_407 ?_
      refine lv_aload_n hx hb dL_law_408 rfl (lv_at hl 5 rfl) ?_
      refine lv_iload hx hb dL_law_409 (lv_at hl 1 rfl) ?_
      refine lv_iconst (v := 2) hx hb dL_law_411 (by decide) ?_
      refine xiadd (v := 2) S dL_law_412 (by decide) ?_
      refine xsld (v := x2) S hX hbl hbA hS (vin rfl) h2 dL_law_413 ?_
      refine lv_aload_n hx hb dL_law_414 rfl (lv_at hl 5 rfl) ?_
      refine lv_iload hx hb dL_law_415 (lv_at hl 1 rfl) ?_
      refine lv_iconst (v := 3) hx hb dL_law_417 (by decide) ?_
      refine xiadd (v := 3) S dL_law_418 (by decide) ?_
      refine xsld (v := x3) S hX hbl hbA hS (vin rfl) h3 dL_law_419 ?_
      refine fVi [] ((xW o u cI cZ cJ) ++ [(ao, .inl (cJ, 1, .inr (.inl (fun _ => 0))))]) (mid := (mW om 0 q cI cZ)) (As := [.int x1, .int x2, .int x3]) (ci := 9) S (c_X9_ofName_1 l D cI cZ cJ om q H.size x1 x2 x3 lo_x1) mi_X9_ofName kw_7_127 rfl rfl ⟨Nat.le_of_ble_eq_true rfl, Nat.le_of_ble_eq_true rfl⟩ hP hD hK hS hA mW_0 rfl rfl hl.1 (Nat.le_of_ble_eq_true rfl) ⟨Nat.le_of_ble_eq_true rfl, Nat.le_of_ble_eq_true rfl⟩ dL_law_420 (fun H locs hz hP hD hS => ?_)
      have hP : va_P D vwCl ((mW om 1 q cI cZ) ++ ((xW o u cI cZ cJ) ++ [(ao, .inl (cJ, 1, .inr (.inl (fun _ => 0))))])) H := hP
      have hD : va_D (fun q : Nat => s.heap.size ≤ q) ((mW om 1 q cI cZ) ++ ((xW o u cI cZ cJ) ++ [(ao, .inl (cJ, 1, .inr (.inl (fun _ => 0))))])) := hD
      refine lv_istore (lv' := [(6, .int 0), (5, .int 1), (4, .int 0), (3, .ref ao), (2, .ref om), (1, .ref o), (0, .ref b)]) hx hb dL_law_423 hl (by decide) rfl (fun ls hl => ?_)
      refine lv_aload_n hx hb dL_law_425 rfl (lv_at hl 4 rfl) ?_
      refine rdV (As := []) (ci := 9) S (c_X9_thrown_0 l D cI cZ cJ om q) mi_X9_thrown kw_7_89 ⟨rfl, rfl⟩ ⟨Nat.le_of_ble_eq_true rfl, Nat.le_of_ble_eq_true rfl⟩ (va_Pl (ws := (mW om 1 q cI cZ)) (x := ((xW o u cI cZ cJ) ++ [(ao, .inl (cJ, 1, .inr (.inl (fun _ => 0))))])) hP) hK mW_0 rfl rfl hl.1 (Nat.le_of_ble_eq_true rfl) ⟨Nat.le_of_ble_eq_true rfl, Nat.le_of_ble_eq_true rfl⟩ dL_law_426 ?_
      refine lv_iload hx hb dL_law_429 (lv_at hl 1 rfl) ?_
      refine lv_icmp_eq (tgt := 436) hx hb dL_law_431 (by decide) (fun _ => ?_) (fun c => absurd c (by decide))
      refine lv_iload hx hb dL_law_436 (lv_at hl 1 rfl) ?_
      refine lv_if_ne (tgt := 453) hx hb dL_law_438 (by decide) (fun _ => ?_) (fun c => absurd c (by decide))
      refine lv_goto (tgt := 1519) hx hb dL_law_453 (by decide) ?_
      exact law_tail (cells := 121) (slots := 12964) S hr hlocks hX hbl (lv_sub hl [2, 6] rfl) hS (Nat.le_of_ble_eq_true rfl) (Nat.le_of_ble_eq_true rfl)
    · have hi_x1 : x1 ≤ 0 := u_nge d_396 (by decide)
      have e_x1 : x1 = 0 := b_eq lo_x1 hi_x1
      subst e_x1
      by_cases d_396 : x2 < 0
      · have hi_x2 : x2 ≤ (-1) := u_lt d_396 (by decide)
        refine wrap (mW om 0 q cI cZ) (mid := ((xW o u cI cZ cJ) ++ [(ao, .inl (cJ, 1, .inr (.inl (fun _ => 0))))])) (As := [.ref o, .int 0, .int x2, .int x3, .ref ao]) S (h_ofName_2 l D cI cZ cJ o u ao hst ra ga H.size x2 x3 hi_x2) msh_L_ofName kw_6_7 rfl rfl ⟨Nat.le_of_ble_eq_true rfl, Nat.le_of_ble_eq_true rfl⟩ hP hD hK hS hA hB hC hl.1 (Nat.le_of_ble_eq_true rfl) ⟨Nat.le_of_ble_eq_true rfl, Nat.le_of_ble_eq_true rfl⟩ dL_law_396 (fun H locs hz hP hD hS => ?_)
        have hP : va_P D vwCl ((mW om 0 q cI cZ) ++ ((xW o u cI cZ cJ) ++ [(ao, .inl (cJ, 1, .inr (.inl (fun _ => 0))))])) H := hP
        have hD : va_D (fun q : Nat => s.heap.size ≤ q) ((mW om 0 q cI cZ) ++ ((xW o u cI cZ cJ) ++ [(ao, .inl (cJ, 1, .inr (.inl (fun _ => 0))))])) := hD
        refine lv_istore (lv' := [(5, .int 2), (4, .int 0), (3, .ref ao), (2, .ref om), (1, .ref o), (0, .ref b)]) hx hb dL_law_399 hl (by decide) rfl (fun ls hl => ?_)
        refine lv_aload_n hx hb dL_law_401 rfl (lv_at hl 3 rfl) ?_
        refine lv_aload_n hx hb dL_law_402 rfl (lv_at hl 5 rfl) ?_
        refine lv_iload hx hb dL_law_403 (lv_at hl 1 rfl) ?_
        refine lv_iconst (v := 1) hx hb dL_law_405 (by decide) ?_
        refine xiadd (v := 1) S dL_law_406 (by decide) ?_
        refine xsld (v := 0) S hX hbl hbA hS (vin rfl) h1 dL_law_407 ?_
        refine lv_aload_n hx hb dL_law_408 rfl (lv_at hl 5 rfl) ?_
        refine lv_iload hx hb dL_law_409 (lv_at hl 1 rfl) ?_
        refine lv_iconst (v := 2) hx hb dL_law_411 (by decide) ?_
        refine xiadd (v := 2) S dL_law_412 (by decide) ?_
        refine xsld (v := x2) S hX hbl hbA hS (vin rfl) h2 dL_law_413 ?_
        refine lv_aload_n hx hb dL_law_414 rfl (lv_at hl 5 rfl) ?_
        refine lv_iload hx hb dL_law_415 (lv_at hl 1 rfl) ?_
        refine lv_iconst (v := 3) hx hb dL_law_417 (by decide) ?_
        refine xiadd (v := 3) S dL_law_418 (by decide) ?_
        refine xsld (v := x3) S hX hbl hbA hS (vin rfl) h3 dL_law_419 ?_
        refine fVi [] ((xW o u cI cZ cJ) ++ [(ao, .inl (cJ, 1, .inr (.inl (fun _ => 0))))]) (mid := (mW om 0 q cI cZ)) (As := [.int 0, .int x2, .int x3]) (ci := 9) S (c_X9_ofName_2 l D cI cZ cJ om q H.size x2 x3 hi_x2) mi_X9_ofName kw_7_127 rfl rfl ⟨Nat.le_of_ble_eq_true rfl, Nat.le_of_ble_eq_true rfl⟩ hP hD hK hS hA mW_0 rfl rfl hl.1 (Nat.le_of_ble_eq_true rfl) ⟨Nat.le_of_ble_eq_true rfl, Nat.le_of_ble_eq_true rfl⟩ dL_law_420 (fun H locs hz hP hD hS => ?_)
        have hP : va_P D vwCl ((mW om 2 q cI cZ) ++ ((xW o u cI cZ cJ) ++ [(ao, .inl (cJ, 1, .inr (.inl (fun _ => 0))))])) H := hP
        have hD : va_D (fun q : Nat => s.heap.size ≤ q) ((mW om 2 q cI cZ) ++ ((xW o u cI cZ cJ) ++ [(ao, .inl (cJ, 1, .inr (.inl (fun _ => 0))))])) := hD
        refine lv_istore (lv' := [(6, .int 0), (5, .int 2), (4, .int 0), (3, .ref ao), (2, .ref om), (1, .ref o), (0, .ref b)]) hx hb dL_law_423 hl (by decide) rfl (fun ls hl => ?_)
        refine lv_aload_n hx hb dL_law_425 rfl (lv_at hl 4 rfl) ?_
        refine rdV (As := []) (ci := 9) S (c_X9_thrown_1 l D cI cZ cJ om q) mi_X9_thrown kw_7_89 ⟨rfl, rfl⟩ ⟨Nat.le_of_ble_eq_true rfl, Nat.le_of_ble_eq_true rfl⟩ (va_Pl (ws := (mW om 2 q cI cZ)) (x := ((xW o u cI cZ cJ) ++ [(ao, .inl (cJ, 1, .inr (.inl (fun _ => 0))))])) hP) hK mW_0 rfl rfl hl.1 (Nat.le_of_ble_eq_true rfl) ⟨Nat.le_of_ble_eq_true rfl, Nat.le_of_ble_eq_true rfl⟩ dL_law_426 ?_
        refine lv_iload hx hb dL_law_429 (lv_at hl 1 rfl) ?_
        refine lv_icmp_eq (tgt := 436) hx hb dL_law_431 (by decide) (fun _ => ?_) (fun c => absurd c (by decide))
        refine lv_iload hx hb dL_law_436 (lv_at hl 1 rfl) ?_
        refine lv_if_ne (tgt := 453) hx hb dL_law_438 (by decide) (fun _ => ?_) (fun c => absurd c (by decide))
        refine lv_goto (tgt := 1519) hx hb dL_law_453 (by decide) ?_
        exact law_tail (cells := 121) (slots := 12964) S hr hlocks hX hbl (lv_sub hl [2, 6] rfl) hS (Nat.le_of_ble_eq_true rfl) (Nat.le_of_ble_eq_true rfl)
      · have lo_x2 : 0 ≤ x2 := l_nlt d_396
        by_cases d_396 : 16 ≤ x2
        · have lo_x2 : 16 ≤ x2 := d_396
          refine wrap (mW om 0 q cI cZ) (mid := ((xW o u cI cZ cJ) ++ [(ao, .inl (cJ, 1, .inr (.inl (fun _ => 0))))])) (As := [.ref o, .int 0, .int x2, .int x3, .ref ao]) S (h_ofName_3 l D cI cZ cJ o u ao hst ra ga H.size x2 x3 lo_x2) msh_L_ofName kw_6_7 rfl rfl ⟨Nat.le_of_ble_eq_true rfl, Nat.le_of_ble_eq_true rfl⟩ hP hD hK hS hA hB hC hl.1 (Nat.le_of_ble_eq_true rfl) ⟨Nat.le_of_ble_eq_true rfl, Nat.le_of_ble_eq_true rfl⟩ dL_law_396 (fun H locs hz hP hD hS => ?_)
          have hP : va_P D vwCl ((mW om 0 q cI cZ) ++ ((xW o u cI cZ cJ) ++ [(ao, .inl (cJ, 1, .inr (.inl (fun _ => 0))))])) H := hP
          have hD : va_D (fun q : Nat => s.heap.size ≤ q) ((mW om 0 q cI cZ) ++ ((xW o u cI cZ cJ) ++ [(ao, .inl (cJ, 1, .inr (.inl (fun _ => 0))))])) := hD
          refine lv_istore (lv' := [(5, .int 2), (4, .int 0), (3, .ref ao), (2, .ref om), (1, .ref o), (0, .ref b)]) hx hb dL_law_399 hl (by decide) rfl (fun ls hl => ?_)
          refine lv_aload_n hx hb dL_law_401 rfl (lv_at hl 3 rfl) ?_
          refine lv_aload_n hx hb dL_law_402 rfl (lv_at hl 5 rfl) ?_
          refine lv_iload hx hb dL_law_403 (lv_at hl 1 rfl) ?_
          refine lv_iconst (v := 1) hx hb dL_law_405 (by decide) ?_
          refine xiadd (v := 1) S dL_law_406 (by decide) ?_
          refine xsld (v := 0) S hX hbl hbA hS (vin rfl) h1 dL_law_407 ?_
          refine lv_aload_n hx hb dL_law_408 rfl (lv_at hl 5 rfl) ?_
          refine lv_iload hx hb dL_law_409 (lv_at hl 1 rfl) ?_
          refine lv_iconst (v := 2) hx hb dL_law_411 (by decide) ?_
          refine xiadd (v := 2) S dL_law_412 (by decide) ?_
          refine xsld (v := x2) S hX hbl hbA hS (vin rfl) h2 dL_law_413 ?_
          refine lv_aload_n hx hb dL_law_414 rfl (lv_at hl 5 rfl) ?_
          refine lv_iload hx hb dL_law_415 (lv_at hl 1 rfl) ?_
          refine lv_iconst (v := 3) hx hb dL_law_417 (by decide) ?_
          refine xiadd (v := 3) S dL_law_418 (by decide) ?_
          refine xsld (v := x3) S hX hbl hbA hS (vin rfl) h3 dL_law_419 ?_
          refine fVi [] ((xW o u cI cZ cJ) ++ [(ao, .inl (cJ, 1, .inr (.inl (fun _ => 0))))]) (mid := (mW om 0 q cI cZ)) (As := [.int 0, .int x2, .int x3]) (ci := 9) S (c_X9_ofName_3 l D cI cZ cJ om q H.size x2 x3 lo_x2) mi_X9_ofName kw_7_127 rfl rfl ⟨Nat.le_of_ble_eq_true rfl, Nat.le_of_ble_eq_true rfl⟩ hP hD hK hS hA mW_0 rfl rfl hl.1 (Nat.le_of_ble_eq_true rfl) ⟨Nat.le_of_ble_eq_true rfl, Nat.le_of_ble_eq_true rfl⟩ dL_law_420 (fun H locs hz hP hD hS => ?_)
          have hP : va_P D vwCl ((mW om 2 q cI cZ) ++ ((xW o u cI cZ cJ) ++ [(ao, .inl (cJ, 1, .inr (.inl (fun _ => 0))))])) H := hP
          have hD : va_D (fun q : Nat => s.heap.size ≤ q) ((mW om 2 q cI cZ) ++ ((xW o u cI cZ cJ) ++ [(ao, .inl (cJ, 1, .inr (.inl (fun _ => 0))))])) := hD
          refine lv_istore (lv' := [(6, .int 0), (5, .int 2), (4, .int 0), (3, .ref ao), (2, .ref om), (1, .ref o), (0, .ref b)]) hx hb dL_law_423 hl (by decide) rfl (fun ls hl => ?_)
          refine lv_aload_n hx hb dL_law_425 rfl (lv_at hl 4 rfl) ?_
          refine rdV (As := []) (ci := 9) S (c_X9_thrown_1 l D cI cZ cJ om q) mi_X9_thrown kw_7_89 ⟨rfl, rfl⟩ ⟨Nat.le_of_ble_eq_true rfl, Nat.le_of_ble_eq_true rfl⟩ (va_Pl (ws := (mW om 2 q cI cZ)) (x := ((xW o u cI cZ cJ) ++ [(ao, .inl (cJ, 1, .inr (.inl (fun _ => 0))))])) hP) hK mW_0 rfl rfl hl.1 (Nat.le_of_ble_eq_true rfl) ⟨Nat.le_of_ble_eq_true rfl, Nat.le_of_ble_eq_true rfl⟩ dL_law_426 ?_
          refine lv_iload hx hb dL_law_429 (lv_at hl 1 rfl) ?_
          refine lv_icmp_eq (tgt := 436) hx hb dL_law_431 (by decide) (fun _ => ?_) (fun c => absurd c (by decide))
          refine lv_iload hx hb dL_law_436 (lv_at hl 1 rfl) ?_
          refine lv_if_ne (tgt := 453) hx hb dL_law_438 (by decide) (fun _ => ?_) (fun c => absurd c (by decide))
          refine lv_goto (tgt := 1519) hx hb dL_law_453 (by decide) ?_
          exact law_tail (cells := 121) (slots := 12964) S hr hlocks hX hbl (lv_sub hl [2, 6] rfl) hS (Nat.le_of_ble_eq_true rfl) (Nat.le_of_ble_eq_true rfl)
        · have hi_x2 : x2 ≤ 15 := u_nge d_396 (by decide)
          by_cases d_396 : x3 < 0
          · have hi_x3 : x3 ≤ (-1) := u_lt d_396 (by decide)
            refine wrap (mW om 0 q cI cZ) (mid := ((xW o u cI cZ cJ) ++ [(ao, .inl (cJ, 1, .inr (.inl (fun _ => 0))))])) (As := [.ref o, .int 0, .int x2, .int x3, .ref ao]) S (h_ofName_4 l D cI cZ cJ o u ao hst ra ga H.size x2 x3 lo_x2 hi_x2 hi_x3) msh_L_ofName kw_6_7 rfl rfl ⟨Nat.le_of_ble_eq_true rfl, Nat.le_of_ble_eq_true rfl⟩ hP hD hK hS hA hB hC hl.1 (Nat.le_of_ble_eq_true rfl) ⟨Nat.le_of_ble_eq_true rfl, Nat.le_of_ble_eq_true rfl⟩ dL_law_396 (fun H locs hz hP hD hS => ?_)
            have hP : va_P D vwCl ((mW om 0 q cI cZ) ++ ((xW o u cI cZ cJ) ++ [(ao, .inl (cJ, 1, .inr (.inl (fun _ => 0))))])) H := hP
            have hD : va_D (fun q : Nat => s.heap.size ≤ q) ((mW om 0 q cI cZ) ++ ((xW o u cI cZ cJ) ++ [(ao, .inl (cJ, 1, .inr (.inl (fun _ => 0))))])) := hD
            refine lv_istore (lv' := [(5, .int 2), (4, .int 0), (3, .ref ao), (2, .ref om), (1, .ref o), (0, .ref b)]) hx hb dL_law_399 hl (by decide) rfl (fun ls hl => ?_)
            refine lv_aload_n hx hb dL_law_401 rfl (lv_at hl 3 rfl) ?_
            refine lv_aload_n hx hb dL_law_402 rfl (lv_at hl 5 rfl) ?_
            refine lv_iload hx hb dL_law_403 (lv_at hl 1 rfl) ?_
            refine lv_iconst (v := 1) hx hb dL_law_405 (by decide) ?_
            refine xiadd (v := 1) S dL_law_406 (by decide) ?_
            refine xsld (v := 0) S hX hbl hbA hS (vin rfl) h1 dL_law_407 ?_
            refine lv_aload_n hx hb dL_law_408 rfl (lv_at hl 5 rfl) ?_
            refine lv_iload hx hb dL_law_409 (lv_at hl 1 rfl) ?_
            refine lv_iconst (v := 2) hx hb dL_law_411 (by decide) ?_
            refine xiadd (v := 2) S dL_law_412 (by decide) ?_
            refine xsld (v := x2) S hX hbl hbA hS (vin rfl) h2 dL_law_413 ?_
            refine lv_aload_n hx hb dL_law_414 rfl (lv_at hl 5 rfl) ?_
            refine lv_iload hx hb dL_law_415 (lv_at hl 1 rfl) ?_
            refine lv_iconst (v := 3) hx hb dL_law_417 (by decide) ?_
            refine xiadd (v := 3) S dL_law_418 (by decide) ?_
            refine xsld (v := x3) S hX hbl hbA hS (vin rfl) h3 dL_law_419 ?_
            refine fVi [] ((xW o u cI cZ cJ) ++ [(ao, .inl (cJ, 1, .inr (.inl (fun _ => 0))))]) (mid := (mW om 0 q cI cZ)) (As := [.int 0, .int x2, .int x3]) (ci := 9) S (c_X9_ofName_4 l D cI cZ cJ om q H.size x2 x3 lo_x2 hi_x2 hi_x3) mi_X9_ofName kw_7_127 rfl rfl ⟨Nat.le_of_ble_eq_true rfl, Nat.le_of_ble_eq_true rfl⟩ hP hD hK hS hA mW_0 rfl rfl hl.1 (Nat.le_of_ble_eq_true rfl) ⟨Nat.le_of_ble_eq_true rfl, Nat.le_of_ble_eq_true rfl⟩ dL_law_420 (fun H locs hz hP hD hS => ?_)
            have hP : va_P D vwCl ((mW om 2 q cI cZ) ++ ((xW o u cI cZ cJ) ++ [(ao, .inl (cJ, 1, .inr (.inl (fun _ => 0))))])) H := hP
            have hD : va_D (fun q : Nat => s.heap.size ≤ q) ((mW om 2 q cI cZ) ++ ((xW o u cI cZ cJ) ++ [(ao, .inl (cJ, 1, .inr (.inl (fun _ => 0))))])) := hD
            refine lv_istore (lv' := [(6, .int 0), (5, .int 2), (4, .int 0), (3, .ref ao), (2, .ref om), (1, .ref o), (0, .ref b)]) hx hb dL_law_423 hl (by decide) rfl (fun ls hl => ?_)
            refine lv_aload_n hx hb dL_law_425 rfl (lv_at hl 4 rfl) ?_
            refine rdV (As := []) (ci := 9) S (c_X9_thrown_1 l D cI cZ cJ om q) mi_X9_thrown kw_7_89 ⟨rfl, rfl⟩ ⟨Nat.le_of_ble_eq_true rfl, Nat.le_of_ble_eq_true rfl⟩ (va_Pl (ws := (mW om 2 q cI cZ)) (x := ((xW o u cI cZ cJ) ++ [(ao, .inl (cJ, 1, .inr (.inl (fun _ => 0))))])) hP) hK mW_0 rfl rfl hl.1 (Nat.le_of_ble_eq_true rfl) ⟨Nat.le_of_ble_eq_true rfl, Nat.le_of_ble_eq_true rfl⟩ dL_law_426 ?_
            refine lv_iload hx hb dL_law_429 (lv_at hl 1 rfl) ?_
            refine lv_icmp_eq (tgt := 436) hx hb dL_law_431 (by decide) (fun _ => ?_) (fun c => absurd c (by decide))
            refine lv_iload hx hb dL_law_436 (lv_at hl 1 rfl) ?_
            refine lv_if_ne (tgt := 453) hx hb dL_law_438 (by decide) (fun _ => ?_) (fun c => absurd c (by decide))
            refine lv_goto (tgt := 1519) hx hb dL_law_453 (by decide) ?_
            exact law_tail (cells := 121) (slots := 12964) S hr hlocks hX hbl (lv_sub hl [2, 6] rfl) hS (Nat.le_of_ble_eq_true rfl) (Nat.le_of_ble_eq_true rfl)
          · have lo_x3 : 0 ≤ x3 := l_nlt d_396
            by_cases d_396 : 4 < x3
            · have lo_x3 : 5 ≤ x3 := l_gt d_396 (by decide)
              refine wrap (mW om 0 q cI cZ) (mid := ((xW o u cI cZ cJ) ++ [(ao, .inl (cJ, 1, .inr (.inl (fun _ => 0))))])) (As := [.ref o, .int 0, .int x2, .int x3, .ref ao]) S (h_ofName_5 l D cI cZ cJ o u ao hst ra ga H.size x2 x3 lo_x2 hi_x2 lo_x3) msh_L_ofName kw_6_7 rfl rfl ⟨Nat.le_of_ble_eq_true rfl, Nat.le_of_ble_eq_true rfl⟩ hP hD hK hS hA hB hC hl.1 (Nat.le_of_ble_eq_true rfl) ⟨Nat.le_of_ble_eq_true rfl, Nat.le_of_ble_eq_true rfl⟩ dL_law_396 (fun H locs hz hP hD hS => ?_)
              have hP : va_P D vwCl ((mW om 0 q cI cZ) ++ ((xW o u cI cZ cJ) ++ [(ao, .inl (cJ, 1, .inr (.inl (fun _ => 0))))])) H := hP
              have hD : va_D (fun q : Nat => s.heap.size ≤ q) ((mW om 0 q cI cZ) ++ ((xW o u cI cZ cJ) ++ [(ao, .inl (cJ, 1, .inr (.inl (fun _ => 0))))])) := hD
              refine lv_istore (lv' := [(5, .int 2), (4, .int 0), (3, .ref ao), (2, .ref om), (1, .ref o), (0, .ref b)]) hx hb dL_law_399 hl (by decide) rfl (fun ls hl => ?_)
              refine lv_aload_n hx hb dL_law_401 rfl (lv_at hl 3 rfl) ?_
              refine lv_aload_n hx hb dL_law_402 rfl (lv_at hl 5 rfl) ?_
              refine lv_iload hx hb dL_law_403 (lv_at hl 1 rfl) ?_
              refine lv_iconst (v := 1) hx hb dL_law_405 (by decide) ?_
              refine xiadd (v := 1) S dL_law_406 (by decide) ?_
              refine xsld (v := 0) S hX hbl hbA hS (vin rfl) h1 dL_law_407 ?_
              refine lv_aload_n hx hb dL_law_408 rfl (lv_at hl 5 rfl) ?_
              refine lv_iload hx hb dL_law_409 (lv_at hl 1 rfl) ?_
              refine lv_iconst (v := 2) hx hb dL_law_411 (by decide) ?_
              refine xiadd (v := 2) S dL_law_412 (by decide) ?_
              refine xsld (v := x2) S hX hbl hbA hS (vin rfl) h2 dL_law_413 ?_
              refine lv_aload_n hx hb dL_law_414 rfl (lv_at hl 5 rfl) ?_
              refine lv_iload hx hb dL_law_415 (lv_at hl 1 rfl) ?_
              refine lv_iconst (v := 3) hx hb dL_law_417 (by decide) ?_
              refine xiadd (v := 3) S dL_law_418 (by decide) ?_
              refine xsld (v := x3) S hX hbl hbA hS (vin rfl) h3 dL_law_419 ?_
              refine fVi [] ((xW o u cI cZ cJ) ++ [(ao, .inl (cJ, 1, .inr (.inl (fun _ => 0))))]) (mid := (mW om 0 q cI cZ)) (As := [.int 0, .int x2, .int x3]) (ci := 9) S (c_X9_ofName_5 l D cI cZ cJ om q H.size x2 x3 lo_x2 hi_x2 lo_x3) mi_X9_ofName kw_7_127 rfl rfl ⟨Nat.le_of_ble_eq_true rfl, Nat.le_of_ble_eq_true rfl⟩ hP hD hK hS hA mW_0 rfl rfl hl.1 (Nat.le_of_ble_eq_true rfl) ⟨Nat.le_of_ble_eq_true rfl, Nat.le_of_ble_eq_true rfl⟩ dL_law_420 (fun H locs hz hP hD hS => ?_)
              have hP : va_P D vwCl ((mW om 2 q cI cZ) ++ ((xW o u cI cZ cJ) ++ [(ao, .inl (cJ, 1, .inr (.inl (fun _ => 0))))])) H := hP
              have hD : va_D (fun q : Nat => s.heap.size ≤ q) ((mW om 2 q cI cZ) ++ ((xW o u cI cZ cJ) ++ [(ao, .inl (cJ, 1, .inr (.inl (fun _ => 0))))])) := hD
              refine lv_istore (lv' := [(6, .int 0), (5, .int 2), (4, .int 0), (3, .ref ao), (2, .ref om), (1, .ref o), (0, .ref b)]) hx hb dL_law_423 hl (by decide) rfl (fun ls hl => ?_)
              refine lv_aload_n hx hb dL_law_425 rfl (lv_at hl 4 rfl) ?_
              refine rdV (As := []) (ci := 9) S (c_X9_thrown_1 l D cI cZ cJ om q) mi_X9_thrown kw_7_89 ⟨rfl, rfl⟩ ⟨Nat.le_of_ble_eq_true rfl, Nat.le_of_ble_eq_true rfl⟩ (va_Pl (ws := (mW om 2 q cI cZ)) (x := ((xW o u cI cZ cJ) ++ [(ao, .inl (cJ, 1, .inr (.inl (fun _ => 0))))])) hP) hK mW_0 rfl rfl hl.1 (Nat.le_of_ble_eq_true rfl) ⟨Nat.le_of_ble_eq_true rfl, Nat.le_of_ble_eq_true rfl⟩ dL_law_426 ?_
              refine lv_iload hx hb dL_law_429 (lv_at hl 1 rfl) ?_
              refine lv_icmp_eq (tgt := 436) hx hb dL_law_431 (by decide) (fun _ => ?_) (fun c => absurd c (by decide))
              refine lv_iload hx hb dL_law_436 (lv_at hl 1 rfl) ?_
              refine lv_if_ne (tgt := 453) hx hb dL_law_438 (by decide) (fun _ => ?_) (fun c => absurd c (by decide))
              refine lv_goto (tgt := 1519) hx hb dL_law_453 (by decide) ?_
              exact law_tail (cells := 121) (slots := 12964) S hr hlocks hX hbl (lv_sub hl [2, 6] rfl) hS (Nat.le_of_ble_eq_true rfl) (Nat.le_of_ble_eq_true rfl)
            · have hi_x3 : x3 ≤ 4 := u_ngt d_396
              refine wrap (mW om 0 q cI cZ) (mid := ((xW o u cI cZ cJ) ++ [(ao, .inl (cJ, 1, .inr (.inl (fun _ => 0))))])) (As := [.ref o, .int 0, .int x2, .int x3, .ref ao]) S (h_ofName_6 l D cI cZ cJ o u ao hst ra ga H.size x2 x3 lo_x2 hi_x2 lo_x3 hi_x3) msh_L_ofName kw_6_7 rfl rfl ⟨Nat.le_of_ble_eq_true rfl, Nat.le_of_ble_eq_true rfl⟩ hP hD hK hS hA hB hC hl.1 (Nat.le_of_ble_eq_true rfl) ⟨Nat.le_of_ble_eq_true rfl, Nat.le_of_ble_eq_true rfl⟩ dL_law_396 (fun H locs hz hP hD hS => ?_)
              have hP : va_P D vwCl ((mW om 0 q cI cZ) ++ ((xW o u cI cZ cJ) ++ [(ao, .inl (cJ, 1, .inr (.inl (vp_updL (fun _ => 0) (0 : Int32).toNatClampNeg (-1)))))])) H := hP
              have hD : va_D (fun q : Nat => s.heap.size ≤ q) ((mW om 0 q cI cZ) ++ ((xW o u cI cZ cJ) ++ [(ao, .inl (cJ, 1, .inr (.inl (vp_updL (fun _ => 0) (0 : Int32).toNatClampNeg (-1)))))])) := hD
              refine lv_istore (lv' := [(5, .int 0), (4, .int 0), (3, .ref ao), (2, .ref om), (1, .ref o), (0, .ref b)]) hx hb dL_law_399 hl (by decide) rfl (fun ls hl => ?_)
              refine lv_aload_n hx hb dL_law_401 rfl (lv_at hl 3 rfl) ?_
              refine lv_aload_n hx hb dL_law_402 rfl (lv_at hl 5 rfl) ?_
              refine lv_iload hx hb dL_law_403 (lv_at hl 1 rfl) ?_
              refine lv_iconst (v := 1) hx hb dL_law_405 (by decide) ?_
              refine xiadd (v := 1) S dL_law_406 (by decide) ?_
              refine xsld (v := 0) S hX hbl hbA hS (vin rfl) h1 dL_law_407 ?_
              refine lv_aload_n hx hb dL_law_408 rfl (lv_at hl 5 rfl) ?_
              refine lv_iload hx hb dL_law_409 (lv_at hl 1 rfl) ?_
              refine lv_iconst (v := 2) hx hb dL_law_411 (by decide) ?_
              refine xiadd (v := 2) S dL_law_412 (by decide) ?_
              refine xsld (v := x2) S hX hbl hbA hS (vin rfl) h2 dL_law_413 ?_
              refine lv_aload_n hx hb dL_law_414 rfl (lv_at hl 5 rfl) ?_
              refine lv_iload hx hb dL_law_415 (lv_at hl 1 rfl) ?_
              refine lv_iconst (v := 3) hx hb dL_law_417 (by decide) ?_
              refine xiadd (v := 3) S dL_law_418 (by decide) ?_
              refine xsld (v := x3) S hX hbl hbA hS (vin rfl) h3 dL_law_419 ?_
              refine fVi [] ((xW o u cI cZ cJ) ++ [(ao, .inl (cJ, 1, .inr (.inl (vp_updL (fun _ => 0) (0 : Int32).toNatClampNeg (-1)))))]) (mid := (mW om 0 q cI cZ)) (As := [.int 0, .int x2, .int x3]) (ci := 9) S (c_X9_ofName_6 l D cI cZ cJ om q H.size x2 x3 lo_x2 hi_x2 lo_x3 hi_x3) mi_X9_ofName kw_7_127 rfl rfl ⟨Nat.le_of_ble_eq_true rfl, Nat.le_of_ble_eq_true rfl⟩ hP hD hK hS hA mW_0 rfl rfl hl.1 (Nat.le_of_ble_eq_true rfl) ⟨Nat.le_of_ble_eq_true rfl, Nat.le_of_ble_eq_true rfl⟩ dL_law_420 (fun H locs hz hP hD hS => ?_)
              have hP : va_P D vwCl ((mW om 0 q cI cZ) ++ ((xW o u cI cZ cJ) ++ [(ao, .inl (cJ, 1, .inr (.inl (vp_updL (fun _ => 0) (0 : Int32).toNatClampNeg (-1)))))])) H := hP
              have hD : va_D (fun q : Nat => s.heap.size ≤ q) ((mW om 0 q cI cZ) ++ ((xW o u cI cZ cJ) ++ [(ao, .inl (cJ, 1, .inr (.inl (vp_updL (fun _ => 0) (0 : Int32).toNatClampNeg (-1)))))])) := hD
              refine lv_istore (lv' := [(6, .int (-1)), (5, .int 0), (4, .int 0), (3, .ref ao), (2, .ref om), (1, .ref o), (0, .ref b)]) hx hb dL_law_423 hl (by decide) rfl (fun ls hl => ?_)
              refine lv_aload_n hx hb dL_law_425 rfl (lv_at hl 4 rfl) ?_
              refine rdV (As := []) (ci := 9) S (c_X9_thrown_8 l D cI cZ cJ om q) mi_X9_thrown kw_7_89 ⟨rfl, rfl⟩ ⟨Nat.le_of_ble_eq_true rfl, Nat.le_of_ble_eq_true rfl⟩ (va_Pl (ws := (mW om 0 q cI cZ)) (x := ((xW o u cI cZ cJ) ++ [(ao, .inl (cJ, 1, .inr (.inl (vp_updL (fun _ => 0) (0 : Int32).toNatClampNeg (-1)))))])) hP) hK mW_0 rfl rfl hl.1 (Nat.le_of_ble_eq_true rfl) ⟨Nat.le_of_ble_eq_true rfl, Nat.le_of_ble_eq_true rfl⟩ dL_law_426 ?_
              refine lv_iload hx hb dL_law_429 (lv_at hl 1 rfl) ?_
              refine lv_icmp_eq (tgt := 436) hx hb dL_law_431 (by decide) (fun _ => ?_) (fun c => absurd c (by decide))
              refine lv_iload hx hb dL_law_436 (lv_at hl 1 rfl) ?_
              refine lv_if_ne (tgt := 453) hx hb dL_law_438 (by decide) (fun c => absurd c (by decide)) (fun _ => ?_)
              refine lv_aload_n hx hb dL_law_441 rfl (lv_at hl 3 rfl) ?_
              refine lv_iconst (v := 0) hx hb dL_law_442 (by decide) ?_
              refine xlald (t0 := 2) (v := (-1)) S hK hP (q0 := 119) rfl rfl (vin rfl) rfl dL_law_443 ?_
              refine lv_iload hx hb dL_law_444 (lv_at hl 0 rfl) ?_
              refine lv_i2l (v := (-1)) hx hb dL_law_446 (by decide) ?_
              refine xlcmp (v := 0) S dL_law_447 (by decide) ?_
              refine lv_if_eq (tgt := 453) hx hb dL_law_448 (by decide) (fun _ => ?_) (fun c => absurd c (by decide))
              refine lv_goto (tgt := 1519) hx hb dL_law_453 (by decide) ?_
              exact law_tail (cells := 120) (slots := 12958) S hr hlocks hX hbl (lv_sub hl [2, 6] rfl) hS (Nat.le_of_ble_eq_true rfl) (Nat.le_of_ble_eq_true rfl)
