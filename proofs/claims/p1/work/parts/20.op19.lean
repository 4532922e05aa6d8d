set_option maxHeartbeats 8000000 in
set_option maxRecDepth 100000 in
theorem law_19 (l : Launch) (hst : l.stackTraces = false) (D : va_G) (cI cZ cJ : ClassId) {p : Program} {e : Env} {s : State} {m : MethodId} {below : List Frame} {meth : Method} {c : Code} {b : Nat} {xs : Nat → Int32} (S : CallFix p m c cL_law 9 s #[Value.ref b] uG RL) (hr : meth.sig.returnType = ret) (hlocks : meth.locks = false) (hX : va_X b 5 xs s s.heap) (hbl : b < s.heap.size) (hK : va_K D vwCl (tyL cI cZ cJ) s) (ra ga : Nat → Nat) (hB : amb ra ga (fun q => s.heap.size ≤ q) s s.heap) (hC : ambC s) (x1 x2 x3 x4 : Int32) (h1 : xs 1 = x1) (h2 : xs 2 = x2) (h3 : xs 3 = x3) (h4 : xs 4 = x4) (o om ao : Nat) (u q : Nat → Nat) (ls : Array Slot) (H : Heap) (locs : List Loc) (hl : lv_has ls 9 [(4, .int 0), (3, .ref ao), (2, .ref om), (1, .ref o), (0, .ref b)]) (hP : va_P D vwCl ((mW om 0 q cI cZ) ++ ((xW o u cI cZ cJ) ++ [(ao, .inl (cJ, 1, .inr (.inl (fun _ => 0))))])) H) (hD : va_D (fun q => s.heap.size ≤ q) ((mW om 0 q cI cZ) ++ ((xW o u cI cZ cJ) ++ [(ao, .inl (cJ, 1, .inr (.inl (fun _ => 0))))]))) (hS : va_S (fun q => s.heap.size ≤ q) s.heap H locs) : W p l e room_1 s m #[Value.ref b] below meth c H locs 120 12958 (lw_Z below #[Value.ref b] s) (F0 m 1437 ls []) := by
  have hx := S.1
  have hb := S.2.1
  have hA : ∀ q : Nat, s.heap.size ≤ q → (fun q : Nat => s.heap.size ≤ q) q := fun _ h => h
  have hbA : ¬ (fun q : Nat => s.heap.size ≤ q) b := Nat.not_le.mpr hbl
  refine lv_aload_n hx hb dL_law_1437 rfl (lv_at hl 3 rfl) ?_
  refine lv_aload_n hx hb dL_law_1438 rfl (lv_at hl 4 rfl) ?_
  refine lv_iload hx hb dL_law_1439 (lv_at hl 0 rfl) ?_
  refine lv_iconst (v := 1) hx hb dL_law_1441 (by decide) ?_
  refine xiadd (v := 1) S dL_law_1442 (by decide) ?_
  refine xsld (v := x1) S hX hbl hbA hS (vin rfl) h1 dL_law_1443 ?_
  refine lv_aload_n hx hb dL_law_1444 rfl (lv_at hl 4 rfl) ?_
  refine lv_iload hx hb dL_law_1445 (lv_at hl 0 rfl) ?_
  refine lv_iconst (v := 2) hx hb dL_law_1447 (by decide) ?_
  refine xiadd (v := 2) S dL_law_1448 (by decide) ?_
  refine xsld (v := x2) S hX hbl hbA hS (vin rfl) h2 dL_law_1449 ?_
  refine lv_aload_n hx hb dL_law_1450 rfl (lv_at hl 1 rfl) ?_
  by_cases d_1451 : x1 < 0
  · have hi_x1 : x1 ≤ (-1) := u_lt d_1451 (by decide)
    refine wrap (mW om 0 q cI cZ) (mid := ((xW o u cI cZ cJ) ++ [(ao, .inl (cJ, 1, .inr (.inl (fun _ => 0))))])) (As := [.ref o, .int x1, .int x2, .ref ao]) S (h_hiddenBy_0 l D cI cZ cJ o u ao hst ra ga H.size x1 x2 hi_x1) msh_L_hiddenBy kw_6_138 rfl rfl ⟨Nat.le_of_ble_eq_true rfl, Nat.le_of_ble_eq_true rfl⟩ hP hD hK hS hA hB hC hl.1 (Nat.le_of_ble_eq_true rfl) ⟨Nat.le_of_ble_eq_true rfl, Nat.le_of_ble_eq_true rfl⟩ dL_law_1451 (fun H locs hz hP hD hS => ?_)
    have hP : va_P D vwCl ((mW om 0 q cI cZ) ++ ((xW o u cI cZ cJ) ++ [(ao, .inl (cJ, 1, .inr (.inl (fun _ => 0))))])) H := hP
    have hD : va_D (fun q : Nat => s.heap.size ≤ q) ((mW om 0 q cI cZ) ++ ((xW o u cI cZ cJ) ++ [(ao, .inl (cJ, 1, .inr (.inl (fun _ => 0))))])) := hD
    refine lv_istore (lv' := [(5, .int 1), (4, .int 0), (3, .ref ao), (2, .ref om), (1, .ref o), (0, .ref b)]) hx hb dL_law_1454 hl (by decide) rfl (fun ls hl => ?_)
    refine lv_aload_n hx hb dL_law_1456 rfl (lv_at hl 3 rfl) ?_
    refine lv_aload_n hx hb dL_law_1457 rfl (lv_at hl 5 rfl) ?_
    refine lv_iload hx hb dL_law_1458 (lv_at hl 1 rfl) ?_
    refine lv_iconst (v := 1) hx hb dL_law_1460 (by decide) ?_
    refine xiadd (v := 1) S dL_law_1461 (by decide) ?_
    refine xsld (v := x1) S hX hbl hbA hS (vin rfl) h1 dL_law_1462 ?_
    refine lv_aload_n hx hb dL_law_1463 rfl (lv_at hl 5 rfl) ?_
    refine lv_iload hx hb dL_law_1464 (lv_at hl 1 rfl) ?_
    refine lv_iconst (v := 2) hx hb dL_law_1466 (by decide) ?_
    refine xiadd (v := 2) S dL_law_1467 (by decide) ?_
    refine xsld (v := x2) S hX hbl hbA hS (vin rfl) h2 dL_law_1468 ?_
    refine fVi [] ((xW o u cI cZ cJ) ++ [(ao, .inl (cJ, 1, .inr (.inl (fun _ => 0))))]) (mid := (mW om 0 q cI cZ)) (As := [.int x1, .int x2]) (ci := 9) S (c_X9_hiddenBy_0 l D cI cZ cJ om q H.size x1 x2 hi_x1) mi_X9_hiddenBy kw_9_44 rfl rfl ⟨Nat.le_of_ble_eq_true rfl, Nat.le_of_ble_eq_true rfl⟩ hP hD hK hS hA mW_0 rfl rfl hl.1 (Nat.le_of_ble_eq_true rfl) ⟨Nat.le_of_ble_eq_true rfl, Nat.le_of_ble_eq_true rfl⟩ dL_law_1469 (fun H locs hz hP hD hS => ?_)
    have hP : va_P D vwCl ((mW om 1 q cI cZ) ++ ((xW o u cI cZ cJ) ++ [(ao, .inl (cJ, 1, .inr (.inl (fun _ => 0))))])) H := hP
    have hD : va_D (fun q : Nat => s.heap.size ≤ q) ((mW om 1 q cI cZ) ++ ((xW o u cI cZ cJ) ++ [(ao, .inl (cJ, 1, .inr (.inl (fun _ => 0))))])) := hD
    refine lv_istore (lv' := [(6, .int 0), (5, .int 1), (4, .int 0), (3, .ref ao), (2, .ref om), (1, .ref o), (0, .ref b)]) hx hb dL_law_1472 hl (by decide) rfl (fun ls hl => ?_)
    refine lv_aload_n hx hb dL_law_1474 rfl (lv_at hl 4 rfl) ?_
    refine rdV (As := []) (ci := 9) S (c_X9_thrown_0 l D cI cZ cJ om q) mi_X9_thrown kw_7_89 ⟨rfl, rfl⟩ ⟨Nat.le_of_ble_eq_true rfl, Nat.le_of_ble_eq_true rfl⟩ (va_Pl (ws := (mW om 1 q cI cZ)) (x := ((xW o u cI cZ cJ) ++ [(ao, .inl (cJ, 1, .inr (.inl (fun _ => 0))))])) hP) hK mW_0 rfl rfl hl.1 (Nat.le_of_ble_eq_true rfl) ⟨Nat.le_of_ble_eq_true rfl, Nat.le_of_ble_eq_true rfl⟩ dL_law_1475 ?_
    refine lv_iload hx hb dL_law_1478 (lv_at hl 1 rfl) ?_
    refine lv_icmp_eq (tgt := 1485) hx hb dL_law_1480 (by decide) (fun _ => ?_) (fun c => absurd c (by decide))
    refine lv_iload hx hb dL_law_1485 (lv_at hl 1 rfl) ?_
    refine lv_if_ne (tgt := 1502) hx hb dL_law_1487 (by decide) (fun _ => ?_) (fun c => absurd c (by decide))
    refine lv_goto (tgt := 1519) hx hb dL_law_1502 (by decide) ?_
    exact law_tail (cells := 121) (slots := 12964) S hr hlocks hX hbl (lv_sub hl [2, 6] rfl) hS (Nat.le_of_ble_eq_true rfl) (Nat.le_of_ble_eq_true rfl)
  · have lo_x1 : 0 ≤ x1 := l_nlt d_1451
    by_cases d_1451 : 1 ≤ x1
    · have lo_x1 : 1 ≤ x1 := d_1451
      refine wrap (mW om 0 q cI cZ) (mid := ((xW o u cI cZ cJ) ++ [(ao, .inl (cJ, 1, .inr (.inl (fun _ => 0))))])) (As := [.ref o, .int x1, .int x2, .ref ao]) S (h_hiddenBy_1 l D cI cZ cJ o u ao hst ra ga H.size x1 x2 lo_x1) msh_L_hiddenBy kw_6_138 rfl rfl ⟨Nat.le_of_ble_eq_true rfl, Nat.le_of_ble_eq_true rfl⟩ hP hD hK hS hA hB hC hl.1 (Nat.le_of_ble_eq_true rfl) ⟨Nat.le_of_ble_eq_true rfl, Nat.le_of_ble_eq_true rfl⟩ dL_law_1451 (fun H locs hz hP hD hS => ?_)
      have hP : va_P D vwCl ((mW om 0 q cI cZ) ++ ((xW o u cI cZ cJ) ++ [(ao, .inl (cJ, 1, .inr (.inl (fun _ => 0))))])) H := hP
      have hD : va_D (fun q : Nat => s.heap.size ≤ q) ((mW om 0 q cI cZ) ++ ((xW o u cI cZ cJ) ++ [(ao, .inl (cJ, 1, .inr (.inl (fun _ => 0))))])) := hD
      refine lv_istore (lv' := [(5, .int 1), (4, .int 0), (3, .ref ao), (2, .ref om), (1, .ref o), (0, .ref b)]) hx hb dL_law_1454 hl (by decide) rfl (fun ls hl => ?_)
      refine lv_aload_n hx hb dL_law_1456 rfl (lv_at hl 3 rfl) ?_
      refine lv_aload_n hx hb dL_law_1457 rfl (lv_at hl 5 rfl) ?_
      refine lv_iload hx hb dL_law_1458 (lv_at hl 1 rfl) ?_
      refine lv_iconst (v := 1) hx hb dL_law_1460 (by decide) ?_
      refine xiadd (v := 1) S dL_law_1461 (by decide) ?_
      refine xsld (v := x1) S hX hbl hbA hS (vin rfl) h1 dL_law_1462 ?_
      refine lv_aload_n hx hb dL_law_1463 rfl (lv_at hl 5 rfl) ?_
      refine lv_iload hx hb dL_law_1464 (lv_at hl 1 rfl) ?_
      refine lv_iconst (v := 2) hx hb dL_law_1466 (by decide) ?_
      refine xiadd (v := 2) S dL_law_1467 (by decide) ?_
      refine xsld (v := x2) S hX hbl hbA hS (vin rfl) h2 dL_law_1468 ?_
      refine fVi [] ((xW o u cI cZ cJ) ++ [(ao, .inl (cJ, 1, .inr (.inl (fun _ => 0))))]) (mid := (mW om 0 q cI cZ)) (As := [.int x1, .int x2]) (ci := 9) S (c_X9_hiddenBy_1 l D cI cZ cJ om q H.size x1 x2 lo_x1) mi_X9_hiddenBy kw_9_44 rfl rfl ⟨Nat.le_of_ble_eq_true rfl, Nat.le_of_ble_eq_true rfl⟩ hP hD hK hS hA mW_0 rfl rfl hl.1 (Nat.le_of_ble_eq_true rfl) ⟨Nat.le_of_ble_eq_true rfl, Nat.le_of_ble_eq_true rfl⟩ dL_law_1469 (fun H locs hz hP hD hS => ?_)
      have hP : va_P D vwCl ((mW om 1 q cI cZ) ++ ((xW o u cI cZ cJ) ++ [(ao, .inl (cJ, 1, .inr (.inl (fun _ => 0))))])) H := hP
      have hD : va_D (fun q : Nat => s.heap.size ≤ q) ((mW om 1 q cI cZ) ++ ((xW o u cI cZ cJ) ++ [(ao, .inl (cJ, 1, .inr (.inl (fun _ => 0))))])) := hD
      refine lv_istore (lv' := [(6, .int 0), (5, .int 1), (4, .int 0), (3, .ref ao), (2, .ref om), (1, .ref o), (0, .ref b)]) hx hb dL_law_1472 hl (by decide) rfl (fun ls hl => ?_)
      refine lv_aload_n hx hb dL_law_1474 rfl (lv_at hl 4 rfl) ?_
      refine rdV (As := []) (ci := 9) S (c_X9_thrown_0 l D cI cZ cJ om q) mi_X9_thrown kw_7_89 ⟨rfl, rfl⟩ ⟨Nat.le_of_ble_eq_true rfl, Nat.le_of_ble_eq_true rfl⟩ (va_Pl (ws := (mW om 1 q cI cZ)) (x := ((xW o u cI cZ cJ) ++ [(ao, .inl (cJ, 1, .inr (.inl (fun _ => 0))))])) hP) hK mW_0 rfl rfl hl.1 (Nat.le_of_ble_eq_true rfl) ⟨Nat.le_of_ble_eq_true rfl, Nat.le_of_ble_eq_true rfl⟩ dL_law_1475 ?_
      refine lv_iload hx hb dL_law_1478 (lv_at hl 1 rfl) ?_
      refine lv_icmp_eq (tgt := 1485) hx hb dL_law_1480 (by decide) (fun _ => ?_) (fun c => absurd c (by decide))
      refine lv_iload hx hb dL_law_1485 (lv_at hl 1 rfl) ?_
      refine lv_if_ne (tgt := 1502) hx hb dL_law_1487 (by decide) (fun _ => ?_) (fun c => absurd c (by decide))
      refine lv_goto (tgt := 1519) hx hb dL_law_1502 (by decide) ?_
      exact law_tail (cells := 121) (slots := 12964) S hr hlocks hX hbl (lv_sub hl [2, 6] rfl) hS (Nat.le_of_ble_eq_true rfl) (Nat.le_of_ble_eq_true rfl)
    · have hi_x1 : x1 ≤ 0 := u_nge d_1451 (by decide)
      have e_x1 : x1 = 0 := b_eq lo_x1 hi_x1
      subst e_x1
      by_cases d_1451 : x2 < 0
      · have hi_x2 : x2 ≤ (-1) := u_lt d_1451 (by decide)
        refine wrap (mW om 0 q cI cZ) (mid := ((xW o u cI cZ cJ) ++ [(ao, .inl (cJ, 1, .inr (.inl (fun _ => 0))))])) (As := [.ref o, .int 0, .int x2, .ref ao]) S (h_hiddenBy_2 l D cI cZ cJ o u ao hst ra ga H.size x2 hi_x2) msh_L_hiddenBy kw_6_138 rfl rfl ⟨Nat.le_of_ble_eq_true rfl, Nat.le_of_ble_eq_true rfl⟩ hP hD hK hS hA hB hC hl.1 (Nat.le_of_ble_eq_true rfl) ⟨Nat.le_of_ble_eq_true rfl, Nat.le_of_ble_eq_true rfl⟩ dL_law_1451 (fun H locs hz hP hD hS => ?_)
        have hP : va_P D vwCl ((mW om 0 q cI cZ) ++ ((xW o u cI cZ cJ) ++ [(ao, .inl (cJ, 1, .inr (.inl (fun _ => 0))))])) H := hP
        have hD : va_D (fun q : Nat => s.heap.size ≤ q) ((mW om 0 q cI cZ) ++ ((xW o u cI cZ cJ) ++ [(ao, .inl (cJ, 1, .inr (.inl (fun _ => 0))))])) := hD
        refine lv_istore (lv' := [(5, .int 2), (4, .int 0), (3, .ref ao), (2, .ref om), (1, .ref o), (0, .ref b)]) hx hb dL_law_1454 hl (by decide) rfl (fun ls hl => ?_)
        refine lv_aload_n hx hb dL_law_1456 rfl (lv_at hl 3 rfl) ?_
        refine lv_aload_n hx hb dL_law_1457 rfl (lv_at hl 5 rfl) ?_
        refine lv_iload hx hb dL_law_1458 (lv_at hl 1 rfl) ?_
        refine lv_iconst (v := 1) hx hb dL_law_1460 (by decide) ?_
        refine xiadd (v := 1) S dL_law_1461 (by decide) ?_
        refine xsld (v := 0) S hX hbl hbA hS (vin rfl) h1 dL_law_1462 ?_
        refine lv_aload_n hx hb dL_law_1463 rfl (lv_at hl 5 rfl) ?_
        refine lv_iload hx hb dL_law_1464 (lv_at hl 1 rfl) ?_
        refine lv_iconst (v := 2) hx hb dL_law_1466 (by decide) ?_
        refine xiadd (v := 2) S dL_law_1467 (by decide) ?_
        refine xsld (v := x2) S hX hbl hbA hS (vin rfl) h2 dL_law_1468 ?_
        refine fVi [] ((xW o u cI cZ cJ) ++ [(ao, .inl (cJ, 1, .inr (.inl (fun _ => 0))))]) (mid := (mW om 0 q cI cZ)) (As := [.int 0, .int x2]) (ci := 9) S (c_X9_hiddenBy_2 l D cI cZ cJ om q H.size x2 hi_x2) mi_X9_hiddenBy kw_9_44 rfl rfl ⟨Nat.le_of_ble_eq_true rfl, Nat.le_of_ble_eq_true rfl⟩ hP hD hK hS hA mW_0 rfl rfl hl.1 (Nat.le_of_ble_eq_true rfl) ⟨Nat.le_of_ble_eq_true rfl, Nat.le_of_ble_eq_true rfl⟩ dL_law_1469 (fun H locs hz hP hD hS => ?_)
        have hP : va_P D vwCl ((mW om 2 q cI cZ) ++ ((xW o u cI cZ cJ) ++ [(ao, .inl (cJ, 1, .inr (.inl (fun _ => 0))))])) H := hP
        have hD : va_D (fun q : Nat => s.heap.size ≤ q) ((mW om 2 q cI cZ) ++ ((xW o u cI cZ cJ) ++ [(ao, .inl (cJ, 1, .inr (.inl (fun _ => 0))))])) := hD
        refine lv_istore (lv' := [(6, .int 0), (5, .int 2), (4, .int 0), (3, .ref ao), (2, .ref om), (1, .ref o), (0, .ref b)]) hx hb dL_law_1472 hl (by decide) rfl (fun ls hl => ?_)
        refine lv_aload_n hx hb dL_law_1474 rfl (lv_at hl 4 rfl) ?_
        refine rdV (As := []) (ci := 9) S (c_X9_thrown_1 l D cI cZ cJ om q) mi_X9_thrown kw_7_89 ⟨rfl, rfl⟩ ⟨Nat.le_of_ble_eq_true rfl, Nat.le_of_ble_eq_true rfl⟩ (va_Pl (ws := (mW om 2 q cI cZ)) (x := ((xW o u cI cZ cJ) ++ [(ao, .inl (cJ, 1, .inr (.inl (fun _ => 0))))])) hP) hK mW_0 rfl rfl hl.1 (Nat.le_of_ble_eq_true rfl) ⟨Nat.le_of_ble_eq_true rfl, Nat.le_of_ble_eq_true rfl⟩ dL_law_1475 ?_
        refine lv_iload hx hb dL_law_1478 (lv_at hl 1 rfl) ?_
        refine lv_icmp_eq (tgt := 1485) hx hb dL_law_1480 (by decide) (fun _ => ?_) (fun c => absurd c (by decide))
        refine lv_iload hx hb dL_law_1485 (lv_at hl 1 rfl) ?_
        refine lv_if_ne (tgt := 1502) hx hb dL_law_1487 (by decide) (fun _ => ?_) (fun c => absurd c (by decide))
        refine lv_goto (tgt := 1519) hx hb dL_law_1502 (by decide) ?_
        exact law_tail (cells := 121) (slots := 12964) S hr hlocks hX hbl (lv_sub hl [2, 6] rfl) hS (Nat.le_of_ble_eq_true rfl) (Nat.le_of_ble_eq_true rfl)
      · have lo_x2 : 0 ≤ x2 := l_nlt d_1451
        by_cases d_1451 : 16 ≤ x2
        · have lo_x2 : 16 ≤ x2 := d_1451
          refine wrap (mW om 0 q cI cZ) (mid := ((xW o u cI cZ cJ) ++ [(ao, .inl (cJ, 1, .inr (.inl (fun _ => 0))))])) (As := [.ref o, .int 0, .int x2, .ref ao]) S (h_hiddenBy_3 l D cI cZ cJ o u ao hst ra ga H.size x2 lo_x2) msh_L_hiddenBy kw_6_138 rfl rfl ⟨Nat.le_of_ble_eq_true rfl, Nat.le_of_ble_eq_true rfl⟩ hP hD hK hS hA hB hC hl.1 (Nat.le_of_ble_eq_true rfl) ⟨Nat.le_of_ble_eq_true rfl, Nat.le_of_ble_eq_true rfl⟩ dL_law_1451 (fun H locs hz hP hD hS => ?_)
          have hP : va_P D vwCl ((mW om 0 q cI cZ) ++ ((xW o u cI cZ cJ) ++ [(ao, .inl (cJ, 1, .inr (.inl (fun _ => 0))))])) H := hP
          have hD : va_D (fun q : Nat => s.heap.size ≤ q) ((mW om 0 q cI cZ) ++ ((xW o u cI cZ cJ) ++ [(ao, .inl (cJ, 1, .inr (.inl (fun _ => 0))))])) := hD
          refine lv_istore (lv' := [(5, .int 2), (4, .int 0), (3, .ref ao), (2, .ref om), (1, .ref o), (0, .ref b)]) hx hb dL_law_1454 hl (by decide) rfl (fun ls hl => ?_)
          refine lv_aload_n hx hb dL_law_1456 rfl (lv_at hl 3 rfl) ?_
          refine lv_aload_n hx hb dL_law_1457 rfl (lv_at hl 5 rfl) ?_
          refine lv_iload hx hb dL_law_1458 (lv_at hl 1 rfl) ?_
          refine lv_iconst (v := 1) hx hb dL_law_1460 (by decide) ?_
          refine xiadd (v := 1) S dL_law_1461 (by decide) ?_
          refine xsld (v := 0) S hX hbl hbA hS (vin rfl) h1 dL_law_1462 ?_
          refine lv_aload_n hx hb dL_law_1463 rfl (lv_at hl 5 rfl) ?_
          refine lv_iload hx hb dL_law_1464 (lv_at hl 1 rfl) ?_
          refine lv_iconst (v := 2) hx hb dL_law_1466 (by decide) ?_
          refine xiadd (v := 2) S dL_law_1467 (by decide) ?_
          refine xsld (v := x2) S hX hbl hbA hS (vin rfl) h2 dL_law_1468 ?_
          refine fVi [] ((xW o u cI cZ cJ) ++ [(ao, .inl (cJ, 1, .inr (.inl (fun _ => 0))))]) (mid := (mW om 0 q cI cZ)) (As := [.int 0, .int x2]) (ci := 9) S (c_X9_hiddenBy_3 l D cI cZ cJ om q H.size x2 lo_x2) mi_X9_hiddenBy kw_9_44 rfl rfl ⟨Nat.le_of_ble_eq_true rfl, Nat.le_of_ble_eq_true rfl⟩ hP hD hK hS hA mW_0 rfl rfl hl.1 (Nat.le_of_ble_eq_true rfl) ⟨Nat.le_of_ble_eq_true rfl, Nat.le_of_ble_eq_true rfl⟩ dL_law_1469 (fun H locs hz hP hD hS => ?_)
          have hP : va_P D vwCl ((mW om 2 q cI cZ) ++ ((xW o u cI cZ cJ) ++ [(ao, .inl (cJ, 1, .inr (.inl (fun _ => 0))))])) H := hP
          have hD : va_D (fun q : Nat => s.heap.size ≤ q) ((mW om 2 q cI cZ) ++ ((xW o u cI cZ cJ) ++ [(ao, .inl (cJ, 1, .inr (.inl (fun _ => 0))))])) := hD
          refine lv_istore (lv' := [(6, .int 0), (5, .int 2), (4, .int 0), (3, .ref ao), (2, .ref om), (1, .ref o), (0, .ref b)]) hx hb dL_law_1472 hl (by decide) rfl (fun ls hl => ?_)
          refine lv_aload_n hx hb dL_law_1474 rfl (lv_at hl 4 rfl) ?_
          refine rdV (As := []) (ci := 9) S (c_X9_thrown_1 l D cI cZ cJ om q) mi_X9_thrown kw_7_89 ⟨rfl, rfl⟩ ⟨Nat.le_of_ble_eq_true rfl, Nat.le_of_ble_eq_true rfl⟩ (va_Pl (ws := (mW om 2 q cI cZ)) (x := ((xW o u cI cZ cJ) ++ [(ao, .inl (cJ, 1, .inr (.inl (fun _ => 0))))])) hP) hK mW_0 rfl rfl hl.1 (Nat.le_of_ble_eq_true rfl) ⟨Nat.le_of_ble_eq_true rfl, Nat.le_of_ble_eq_true rfl⟩ dL_law_1475 ?_
          refine lv_iload hx hb dL_law_1478 (lv_at hl 1 rfl) ?_
          refine lv_icmp_eq (tgt := 1485) hx hb dL_law_1480 (by decide) (fun _ => ?_) (fun c => absurd c (by decide))
          refine lv_iload hx hb dL_law_1485 (lv_at hl 1 rfl) ?_
          refine lv_if_ne (tgt := 1502) hx hb dL_law_1487 (by decide) (fun _ => ?_) (fun c => absurd c (by decide))
          refine lv_goto (tgt := 1519) hx hb dL_law_1502 (by decide) ?_
          exact law_tail (cells := 121) (slots := 12964) S hr hlocks hX hbl (lv_sub hl [2, 6] rfl) hS (Nat.le_of_ble_eq_true rfl) (Nat.le_of_ble_eq_true rfl)
        · have hi_x2 : x2 ≤ 15 := u_nge d_1451 (by decide)
          refine wrap (mW om 0 q cI cZ) (mid := ((xW o u cI cZ cJ) ++ [(ao, .inl (cJ, 1, .inr (.inl (fun _ => 0))))])) (As := [.ref o, .int 0, .int x2, .ref ao]) S (h_hiddenBy_4 l D cI cZ cJ o u ao hst ra ga H.size x2 lo_x2 hi_x2) msh_L_hiddenBy kw_6_138 rfl rfl ⟨Nat.le_of_ble_eq_true rfl, Nat.le_of_ble_eq_true rfl⟩ hP hD hK hS hA hB hC hl.1 (Nat.le_of_ble_eq_true rfl) ⟨Nat.le_of_ble_eq_true rfl, Nat.le_of_ble_eq_true rfl⟩ dL_law_1451 (fun H locs hz hP hD hS => ?_)
          have hP : va_P D vwCl ((mW om 0 q cI cZ) ++ ((((((((xW o u cI cZ cJ).set 0 (o, .inr (8, ((xF u).set 9 (.int 0))))).set 32 ((u 31), .inl (cZ, 10, .inl (upd (upd (upd (upd (upd (upd (upd (upd (upd (upd (fun _ => 0) (0 : Int32).toNatClampNeg 0) (1 : Int32).toNatClampNeg 0) (2 : Int32).toNatClampNeg 0) (3 : Int32).toNatClampNeg 0) (4 : Int32).toNatClampNeg 0) (5 : Int32).toNatClampNeg 0) (6 : Int32).toNatClampNeg 0) (7 : Int32).toNatClampNeg 0) (8 : Int32).toNatClampNeg 0) (9 : Int32).toNatClampNeg 0)))).set 34 ((u 33), .inr (2, ([.ref (u 0), .ref (u 12), .ref (u 19), .int 0, .ref (u 34), .ref (u 35), .ref (u 36), .ref (u 37), .int 0].set 3 (.int 1))))).set 35 ((u 34), .inl (cI, 120, .inl (upd (fun _ => 0) (0 : Int32).toNatClampNeg 10)))).set 36 ((u 35), .inl (cI, 120, .inl (upd (fun _ => 0) (0 : Int32).toNatClampNeg 0)))).set 37 ((u 36), .inl (cI, 120, .inl (upd (fun _ => 0) (0 : Int32).toNatClampNeg (-1))))) ++ [(ao, .inl (cJ, 1, .inr (.inl (vp_updL (fun _ => 0) (0 : Int32).toNatClampNeg 0))))])) H := hP
          have hD : va_D (fun q : Nat => s.heap.size ≤ q) ((mW om 0 q cI cZ) ++ ((((((((xW o u cI cZ cJ).set 0 (o, .inr (8, ((xF u).set 9 (.int 0))))).set 32 ((u 31), .inl (cZ, 10, .inl (upd (upd (upd (upd (upd (upd (upd (upd (upd (upd (fun _ => 0) (0 : Int32).toNatClampNeg 0) (1 : Int32).toNatClampNeg 0) (2 : Int32).toNatClampNeg 0) (3 : Int32).toNatClampNeg 0) (4 : Int32).toNatClampNeg 0) (5 : Int32).toNatClampNeg 0) (6 : Int32).toNatClampNeg 0) (7 : Int32).toNatClampNeg 0) (8 : Int32).toNatClampNeg 0) (9 : Int32).toNatClampNeg 0)))).set 34 ((u 33), .inr (2, ([.ref (u 0), .ref (u 12), .ref (u 19), .int 0, .ref (u 34), .ref (u 35), .ref (u 36), .ref (u 37), .int 0].set 3 (.int 1))))).set 35 ((u 34), .inl (cI, 120, .inl (upd (fun _ => 0) (0 : Int32).toNatClampNeg 10)))).set 36 ((u 35), .inl (cI, 120, .inl (upd (fun _ => 0) (0 : Int32).toNatClampNeg 0)))).set 37 ((u 36), .inl (cI, 120, .inl (upd (fun _ => 0) (0 : Int32).toNatClampNeg (-1))))) ++ [(ao, .inl (cJ, 1, .inr (.inl (vp_updL (fun _ => 0) (0 : Int32).toNatClampNeg 0))))])) := hD
          refine lv_istore (lv' := [(5, .int 0), (4, .int 0), (3, .ref ao), (2, .ref om), (1, .ref o), (0, .ref b)]) hx hb dL_law_1454 hl (by decide) rfl (fun ls hl => ?_)
          refine lv_aload_n hx hb dL_law_1456 rfl (lv_at hl 3 rfl) ?_
          refine lv_aload_n hx hb dL_law_1457 rfl (lv_at hl 5 rfl) ?_
          refine lv_iload hx hb dL_law_1458 (lv_at hl 1 rfl) ?_
          refine lv_iconst (v := 1) hx hb dL_law_1460 (by decide) ?_
          refine xiadd (v := 1) S dL_law_1461 (by decide) ?_
          refine xsld (v := 0) S hX hbl hbA hS (vin rfl) h1 dL_law_1462 ?_
          refine lv_aload_n hx hb dL_law_1463 rfl (lv_at hl 5 rfl) ?_
          refine lv_iload hx hb dL_law_1464 (lv_at hl 1 rfl) ?_
          refine lv_iconst (v := 2) hx hb dL_law_1466 (by decide) ?_
          refine xiadd (v := 2) S dL_law_1467 (by decide) ?_
          refine xsld (v := x2) S hX hbl hbA hS (vin rfl) h2 dL_law_1468 ?_
          refine fVi [] ((((((((xW o u cI cZ cJ).set 0 (o, .inr (8, ((xF u).set 9 (.int 0))))).set 32 ((u 31), .inl (cZ, 10, .inl (upd (upd (upd (upd (upd (upd (upd (upd (upd (upd (fun _ => 0) (0 : Int32).toNatClampNeg 0) (1 : Int32).toNatClampNeg 0) (2 : Int32).toNatClampNeg 0) (3 : Int32).toNatClampNeg 0) (4 : Int32).toNatClampNeg 0) (5 : Int32).toNatClampNeg 0) (6 : Int32).toNatClampNeg 0) (7 : Int32).toNatClampNeg 0) (8 : Int32).toNatClampNeg 0) (9 : Int32).toNatClampNeg 0)))).set 34 ((u 33), .inr (2, ([.ref (u 0), .ref (u 12), .ref (u 19), .int 0, .ref (u 34), .ref (u 35), .ref (u 36), .ref (u 37), .int 0].set 3 (.int 1))))).set 35 ((u 34), .inl (cI, 120, .inl (upd (fun _ => 0) (0 : Int32).toNatClampNeg 10)))).set 36 ((u 35), .inl (cI, 120, .inl (upd (fun _ => 0) (0 : Int32).toNatClampNeg 0)))).set 37 ((u 36), .inl (cI, 120, .inl (upd (fun _ => 0) (0 : Int32).toNatClampNeg (-1))))) ++ [(ao, .inl (cJ, 1, .inr (.inl (vp_updL (fun _ => 0) (0 : Int32).toNatClampNeg 0))))]) (mid := (mW om 0 q cI cZ)) (As := [.int 0, .int x2]) (ci := 9) S (c_X9_hiddenBy_4 l D cI cZ cJ om q H.size x2 lo_x2 hi_x2) mi_X9_hiddenBy kw_9_44 rfl rfl ⟨Nat.le_of_ble_eq_true rfl, Nat.le_of_ble_eq_true rfl⟩ hP hD hK hS hA mW_0 rfl rfl hl.1 (Nat.le_of_ble_eq_true rfl) ⟨Nat.le_of_ble_eq_true rfl, Nat.le_of_ble_eq_true rfl⟩ dL_law_1469 (fun H locs hz hP hD hS => ?_)
          have hP : va_P D vwCl ((mW om 0 q cI cZ) ++ ((((((((xW o u cI cZ cJ).set 0 (o, .inr (8, ((xF u).set 9 (.int 0))))).set 32 ((u 31), .inl (cZ, 10, .inl (upd (upd (upd (upd (upd (upd (upd (upd (upd (upd (fun _ => 0) (0 : Int32).toNatClampNeg 0) (1 : Int32).toNatClampNeg 0) (2 : Int32).toNatClampNeg 0) (3 : Int32).toNatClampNeg 0) (4 : Int32).toNatClampNeg 0) (5 : Int32).toNatClampNeg 0) (6 : Int32).toNatClampNeg 0) (7 : Int32).toNatClampNeg 0) (8 : Int32).toNatClampNeg 0) (9 : Int32).toNatClampNeg 0)))).set 34 ((u 33), .inr (2, ([.ref (u 0), .ref (u 12), .ref (u 19), .int 0, .ref (u 34), .ref (u 35), .ref (u 36), .ref (u 37), .int 0].set 3 (.int 1))))).set 35 ((u 34), .inl (cI, 120, .inl (upd (fun _ => 0) (0 : Int32).toNatClampNeg 10)))).set 36 ((u 35), .inl (cI, 120, .inl (upd (fun _ => 0) (0 : Int32).toNatClampNeg 0)))).set 37 ((u 36), .inl (cI, 120, .inl (upd (fun _ => 0) (0 : Int32).toNatClampNeg (-1))))) ++ [(ao, .inl (cJ, 1, .inr (.inl (vp_updL (fun _ => 0) (0 : Int32).toNatClampNeg 0))))])) H := hP
          have hD : va_D (fun q : Nat => s.heap.size ≤ q) ((mW om 0 q cI cZ) ++ ((((((((xW o u cI cZ cJ).set 0 (o, .inr (8, ((xF u).set 9 (.int 0))))).set 32 ((u 31), .inl (cZ, 10, .inl (upd (upd (upd (upd (upd (upd (upd (upd (upd (upd (fun _ => 0) (0 : Int32).toNatClampNeg 0) (1 : Int32).toNatClampNeg 0) (2 : Int32).toNatClampNeg 0) (3 : Int32).toNatClampNeg 0) (4 : Int32).toNatClampNeg 0) (5 : Int32).toNatClampNeg 0) (6 : Int32).toNatClampNeg 0) (7 : Int32).toNatClampNeg 0) (8 : Int32).toNatClampNeg 0) (9 : Int32).toNatClampNeg 0)))).set 34 ((u 33), .inr (2, ([.ref (u 0), .ref (u 12), .ref (u 19), .int 0, .ref (u 34), .ref (u 35), .ref (u 36), .ref (u 37), .int 0].set 3 (.int 1))))).set 35 ((u 34), .inl (cI, 120, .inl (upd (fun _ => 0) (0 : Int32).toNatClampNeg 10)))).set 36 ((u 35), .inl (cI, 120, .inl (upd (fun _ => 0) (0 : Int32).toNatClampNeg 0)))).set 37 ((u 36), .inl (cI, 120, .inl (upd (fun _ => 0) (0 : Int32).toNatClampNeg (-1))))) ++ [(ao, .inl (cJ, 1, .inr (.inl (vp_updL (fun _ => 0) (0 : Int32).toNatClampNeg 0))))])) := hD
          refine lv_istore (lv' := [(6, .int 0), (5, .int 0), (4, .int 0), (3, .ref ao), (2, .ref om), (1, .ref o), (0, .ref b)]) hx hb dL_law_1472 hl (by decide) rfl (fun ls hl => ?_)
          refine lv_aload_n hx hb dL_law_1474 rfl (lv_at hl 4 rfl) ?_
          refine rdV (As := []) (ci := 9) S (c_X9_thrown_8 l D cI cZ cJ om q) mi_X9_thrown kw_7_89 ⟨rfl, rfl⟩ ⟨Nat.le_of_ble_eq_true rfl, Nat.le_of_ble_eq_true rfl⟩ (va_Pl (ws := (mW om 0 q cI cZ)) (x := ((((((((xW o u cI cZ cJ).set 0 (o, .inr (8, ((xF u).set 9 (.int 0))))).set 32 ((u 31), .inl (cZ, 10, .inl (upd (upd (upd (upd (upd (upd (upd (upd (upd (upd (fun _ => 0) (0 : Int32).toNatClampNeg 0) (1 : Int32).toNatClampNeg 0) (2 : Int32).toNatClampNeg 0) (3 : Int32).toNatClampNeg 0) (4 : Int32).toNatClampNeg 0) (5 : Int32).toNatClampNeg 0) (6 : Int32).toNatClampNeg 0) (7 : Int32).toNatClampNeg 0) (8 : Int32).toNatClampNeg 0) (9 : Int32).toNatClampNeg 0)))).set 34 ((u 33), .inr (2, ([.ref (u 0), .ref (u 12), .ref (u 19), .int 0, .ref (u 34), .ref (u 35), .ref (u 36), .ref (u 37), .int 0].set 3 (.int 1))))).set 35 ((u 34), .inl (cI, 120, .inl (upd (fun _ => 0) (0 : Int32).toNatClampNeg 10)))).set 36 ((u 35), .inl (cI, 120, .inl (upd (fun _ => 0) (0 : Int32).toNatClampNeg 0)))).set 37 ((u 36), .inl (cI, 120, .inl (upd (fun _ => 0) (0 : Int32).toNatClampNeg (-1))))) ++ [(ao, .inl (cJ, 1, .inr (.inl (vp_updL (fun _ => 0) (0 : Int32).toNatClampNeg 0))))])) hP) hK mW_0 rfl rfl hl.1 (Nat.le_of_ble_eq_true rfl) ⟨Nat.le_of_ble_eq_true rfl, Nat.le_of_ble_eq_true rfl⟩ dL_law_1475 ?_
          refine lv_iload hx hb dL_law_1478 (lv_at hl 1 rfl) ?_
          refine lv_icmp_eq (tgt := 1485) hx hb dL_law_1480 (by decide) (fun _ => ?_) (fun c => absurd c (by decide))
          refine lv_iload hx hb dL_law_1485 (lv_at hl 1 rfl) ?_
          refine lv_if_ne (tgt := 1502) hx hb dL_law_1487 (by decide) (fun c => absurd c (by decide)) (fun _ => ?_)
          refine lv_aload_n hx hb dL_law_1490 rfl (lv_at hl 3 rfl) ?_
          refine lv_iconst (v := 0) hx hb dL_law_1491 (by decide) ?_
          refine xlald (t0 := 2) (v := 0) S hK hP (q0 := 119) rfl rfl (vin rfl) rfl dL_law_1492 ?_
          refine lv_iload hx hb dL_law_1493 (lv_at hl 0 rfl) ?_
          refine lv_i2l (v := 0) hx hb dL_law_1495 (by decide) ?_
          refine xlcmp (v := 0) S dL_law_1496 (by decide) ?_
          refine lv_if_eq (tgt := 1502) hx hb dL_law_1497 (by decide) (fun _ => ?_) (fun c => absurd c (by decide))
          refine lv_goto (tgt := 1519) hx hb dL_law_1502 (by decide) ?_
          exact law_tail (cells := 120) (slots := 12958) S hr hlocks hX hbl (lv_sub hl [2, 6] rfl) hS (Nat.le_of_ble_eq_true rfl) (Nat.le_of_ble_eq_true rfl)
