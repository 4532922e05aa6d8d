set_option maxHeartbeats 8000000 in
set_option maxRecDepth 100000 in
theorem law_18 (l : Launch) (hst : l.stackTraces = false) (D : va_G) (cI cZ cJ : ClassId) {p : Program} {e : Env} {s : State} {m : MethodId} {below : List Frame} {meth : Method} {c : Code} {b : Nat} {xs : Nat → Int32} (S : CallFix p m c cL_law 9 s #[Value.ref b] uG RL) (hr : meth.sig.returnType = ret) (hlocks : meth.locks = false) (hX : va_X b 5 xs s s.heap) (hbl : b < s.heap.size) (hK : va_K D vwCl (tyL cI cZ cJ) s) (ra ga : Nat → Nat) (hB : amb ra ga (fun q => s.heap.size ≤ q) s s.heap) (hC : ambC s) (x1 x2 x3 x4 : Int32) (h1 : xs 1 = x1) (h2 : xs 2 = x2) (h3 : xs 3 = x3) (h4 : xs 4 = x4) (o om ao : Nat) (u q : Nat → Nat) (ls : Array Slot) (H : Heap) (locs : List Loc) (hl : lv_has ls 9 [(4, .int 0), (3, .ref ao), (2, .ref om), (1, .ref o), (0, .ref b)]) (hP : va_P D vwCl ((mW om 0 q cI cZ) ++ ((xW o u cI cZ cJ) ++ [(ao, .inl (cJ, 1, .inr (.inl (fun _ => 0))))])) H) (hD : va_D (fun q => s.heap.size ≤ q) ((mW om 0 q cI cZ) ++ ((xW o u cI cZ cJ) ++ [(ao, .inl (cJ, 1, .inr (.inl (fun _ => 0))))]))) (hS : va_S (fun q => s.heap.size ≤ q) s.heap H locs) : W p l e room_1 s m #[Value.ref b] below meth c H locs 120 12958 (lw_Z below #[Value.ref b] s) (F0 m 1369 ls []) := by
  have hx := S.1
  have hb := S.2.1
  have hA : ∀ q : Nat, s.heap.size ≤ q → (fun q : Nat => s.heap.size ≤ q) q := fun _ h => h
  have hbA : ¬ (fun q : Nat => s.heap.size ≤ q) b := Nat.not_le.mpr hbl
  refine lv_aload_n hx hb dL_law_1369 rfl (lv_at hl 3 rfl) ?_
  refine lv_aload_n hx hb dL_law_1370 rfl (lv_at hl 4 rfl) ?_
  refine lv_iload hx hb dL_law_1371 (lv_at hl 0 rfl) ?_
  refine lv_iconst (v := 1) hx hb dL_law_1373 (by decide) ?_
  refine xiadd (v := 1) S dL_law_1374 (by decide) ?_
  refine xsld (v := x1) S hX hbl hbA hS (vin rfl) h1 dL_law_1375 ?_
  refine lv_aload_n hx hb dL_law_1376 rfl (lv_at hl 4 rfl) ?_
  refine lv_iload hx hb dL_law_1377 (lv_at hl 0 rfl) ?_
  refine lv_iconst (v := 2) hx hb dL_law_1379 (by decide) ?_
  refine xiadd (v := 2) S dL_law_1380 (by decide) ?_
  refine xsld (v := x2) S hX hbl hbA hS (vin rfl) h2 dL_law_1381 ?_
  refine lv_aload_n hx hb dL_law_1382 rfl (lv_at hl 1 rfl) ?_
  by_cases d_1383 : x1 < 0
  · have hi_x1 : x1 ≤ (-1) := u_lt d_1383 (by decide)
    refine wrap (mW om 0 q cI cZ) (mid := ((xW o u cI cZ cJ) ++ [(ao, .inl (cJ, 1, .inr (.inl (fun _ => 0))))])) (As := [.ref o, .int x1, .int x2, .ref ao]) S (h_with_0 l D cI cZ cJ o u ao hst ra ga H.size x1 x2 hi_x1) msh_L_with kw_6_131 rfl rfl ⟨Nat.le_of_ble_eq_true rfl, Nat.le_of_ble_eq_true rfl⟩ hP hD hK hS hA hB hC hl.1 (Nat.le_of_ble_eq_true rfl) ⟨Nat.le_of_ble_eq_true rfl, Nat.le_of_ble_eq_true rfl⟩ dL_law_1383 (fun H locs hz hP hD hS => ?_)
    have hP : va_P D vwCl ((mW om 0 q cI cZ) ++ ((xW o u cI cZ cJ) ++ [(ao, .inl (cJ, 1, .inr (.inl (fun _ => 0))))])) H := hP
    have hD : va_D (fun q : Nat => s.heap.size ≤ q) ((mW om 0 q cI cZ) ++ ((xW o u cI cZ cJ) ++ [(ao, .inl (cJ, 1, .inr (.inl (fun _ => 0))))])) := hD
    refine lv_istore (lv' := [(5, .int 1), (4, .int 0), (3, .ref ao), (2, .ref om), (1, .ref o), (0, .ref b)]) hx hb dL_law_1386 hl (by decide) rfl (fun ls hl => ?_)
    refine lv_aload_n hx hb dL_law_1388 rfl (lv_at hl 3 rfl) ?_
    refine lv_aload_n hx hb dL_law_1389 rfl (lv_at hl 5 rfl) ?_
    refine lv_iload hx hb dL_law_1390 (lv_at hl 1 rfl) ?_
    refine lv_iconst (v := 1) hx hb dL_law_1392 (by decide) ?_
    refine xiadd (v := 1) S dL_law_1393 (by decide) ?_
    refine xsld (v := x1) S hX hbl hbA hS (vin rfl) h1 dL_law_1394 ?_
    refine lv_aload_n hx hb dL_law_1395 rfl (lv_at hl 5 rfl) ?_
    refine lv_iload hx hb dL_law_1396 (lv_at hl 1 rfl) ?_
    refine lv_iconst (v := 2) hx hb dL_law_1398 (by decide) ?_
    refine xiadd (v := 2) S dL_law_1399 (by decide) ?_
    refine xsld (v := x2) S hX hbl hbA hS (vin rfl) h2 dL_law_1400 ?_
    refine fVi [] ((xW o u cI cZ cJ) ++ [(ao, .inl (cJ, 1, .inr (.inl (fun _ => 0))))]) (mid := (mW om 0 q cI cZ)) (As := [.int x1, .int x2]) (ci := 9) S (c_X9_with_0 l D cI cZ cJ om q H.size x1 x2 hi_x1) mi_X9_with kw_9_40 rfl rfl ⟨Nat.le_of_ble_eq_true rfl, Nat.le_of_ble_eq_true rfl⟩ hP hD hK hS hA mW_0 rfl rfl hl.1 (Nat.le_of_ble_eq_true rfl) ⟨Nat.le_of_ble_eq_true rfl, Nat.le_of_ble_eq_true rfl⟩ dL_law_1401 (fun H locs hz hP hD hS => ?_)
    have hP : va_P D vwCl ((mW om 1 q cI cZ) ++ ((xW o u cI cZ cJ) ++ [(ao, .inl (cJ, 1, .inr (.inl (fun _ => 0))))])) H := hP
    have hD : va_D (fun q : Nat => s.heap.size ≤ q) ((mW om 1 q cI cZ) ++ ((xW o u cI cZ cJ) ++ [(ao, .inl (cJ, 1, .inr (.inl (fun _ => 0))))])) := hD
    refine lv_istore (lv' := [(6, .int 0), (5, .int 1), (4, .int 0), (3, .ref ao), (2, .ref om), (1, .ref o), (0, .ref b)]) hx hb dL_law_1404 hl (by decide) rfl (fun ls hl => ?_)
    refine lv_aload_n hx hb dL_law_1406 rfl (lv_at hl 4 rfl) ?_
    refine rdV (As := []) (ci := 9) S (c_X9_thrown_0 l D cI cZ cJ om q) mi_X9_thrown kw_7_89 ⟨rfl, rfl⟩ ⟨Nat.le_of_ble_eq_true rfl, Nat.le_of_ble_eq_true rfl⟩ (va_Pl (ws := (mW om 1 q cI cZ)) (x := ((xW o u cI cZ cJ) ++ [(ao, .inl (cJ, 1, .inr (.inl (fun _ => 0))))])) hP) hK mW_0 rfl rfl hl.1 (Nat.le_of_ble_eq_true rfl) ⟨Nat.le_of_ble_eq_true rfl, Nat.le_of_ble_eq_true rfl⟩ dL_law_1407 ?_
    refine lv_iload hx hb dL_law_1410 (lv_at hl 1 rfl) ?_
    refine lv_icmp_eq (tgt := 1417) hx hb dL_law_1412 (by decide) (fun _ => ?_) (fun c => absurd c (by decide))
    refine lv_iload hx hb dL_law_1417 (lv_at hl 1 rfl) ?_
    refine lv_if_ne (tgt := 1434) hx hb dL_law_1419 (by decide) (fun _ => ?_) (fun c => absurd c (by decide))
    refine lv_goto (tgt := 1519) hx hb dL_law_1434 (by decide) ?_
    exact law_tail (cells := 121) (slots := 12964) S hr hlocks hX hbl (lv_sub hl [2, 6] rfl) hS (Nat.le_of_ble_eq_true rfl) (Nat.le_of_ble_eq_true rfl)
  · have lo_x1 : 0 ≤ x1 := l_nlt d_1383
    by_cases d_1383 : 7 < x1
    · have lo_x1 : 8 ≤ x1 := l_gt d_1383 (by decide)
      refine wrap (mW om 0 q cI cZ) (mid := ((xW o u cI cZ cJ) ++ [(ao, .inl (cJ, 1, .inr (.inl (fun _ => 0))))])) (As := [.ref o, .int x1, .int x2, .ref ao]) S (h_with_1 l D cI cZ cJ o u ao hst ra ga H.size x1 x2 lo_x1) msh_L_with kw_6_131 rfl rfl ⟨Nat.le_of_ble_eq_true rfl, Nat.le_of_ble_eq_true rfl⟩ hP hD hK hS hA hB hC hl.1 (Nat.le_of_ble_eq_true rfl) ⟨Nat.le_of_ble_eq_true rfl, Nat.le_of_ble_eq_true rfl⟩ dL_law_1383 (fun H locs hz hP hD hS => ?_)
      have hP : va_P D vwCl ((mW om 0 q cI cZ) ++ ((xW o u cI cZ cJ) ++ [(ao, .inl (cJ, 1, .inr (.inl (fun _ => 0))))])) H := hP
      have hD : va_D (fun q : Nat => s.heap.size ≤ q) ((mW om 0 q cI cZ) ++ ((xW o u cI cZ cJ) ++ [(ao, .inl (cJ, 1, .inr (.inl (fun _ => 0))))])) := hD
      refine lv_istore (lv' := [(5, .int 1), (4, .int 0), (3, .ref ao), (2, .ref om), (1, .ref o), (0, .ref b)]) hx hb dL_law_1386 hl (by decide) rfl (fun ls hl => ?_)
      refine lv_aload_n hx hb dL_law_1388 rfl (lv_at hl 3 rfl) ?_
      refine lv_aload_n hx hb dL_law_1389 rfl (lv_at hl 5 rfl) ?_
      refine lv_iload hx hb dL_law_1390 (lv_at hl 1 rfl) ?_
      refine lv_iconst (v := 1) hx hb dL_law_1392 (by decide) ?_
      refine xiadd (v := 1) S dL_law_1393 (by decide) ?_
      refine xsld (v := x1) S hX hbl hbA hS (vin rfl) h1 dL_law_1394 ?_
      refine lv_aload_n hx hb dL_law_1395 rfl (lv_at hl 5 rfl) ?_
      refine lv_iload hx hb dL_law_1396 (lv_at hl 1 rfl) ?_
      refine lv_iconst (v := 2) hx hb dL_law_1398 (by decide) ?_
      refine xiadd (v := 2) S dL_law_1399 (by decide) ?_
      refine xsld (v := x2) S hX hbl hbA hS (vin rfl) h2 dL_law_1400 ?_
      refine fVi [] ((xW o u cI cZ cJ) ++ [(ao, .inl (cJ, 1, .inr (.inl (fun _ => 0))))]) (mid := (mW om 0 q cI cZ)) (As := [.int x1, .int x2]) (ci := 9) S (c_X9_with_1 l D cI cZ cJ om q H.size x1 x2 lo_x1) mi_X9_with kw_9_40 rfl rfl ⟨Nat.le_of_ble_eq_true rfl, Nat.le_of_ble_eq_true rfl⟩ hP hD hK hS hA mW_0 rfl rfl hl.1 (Nat.le_of_ble_eq_true rfl) ⟨Nat.le_of_ble_eq_true rfl, Nat.le_of_ble_eq_true rfl⟩ dL_law_1401 (fun H locs hz hP hD hS => ?_)
      have hP : va_P D vwCl ((mW om 1 q cI cZ) ++ ((xW o u cI cZ cJ) ++ [(ao, .inl (cJ, 1, .inr (.inl (fun _ => 0))))])) H := hP
      have hD : va_D (fun q : Nat => s.heap.size ≤ q) ((mW om 1 q cI cZ) ++ ((xW o u cI cZ cJ) ++ [(ao, .inl (cJ, 1, .inr (.inl (fun _ => 0))))])) := hD
      refine lv_istore (lv' := [(6, .int 0), (5, .int 1), (4, .int 0), (3, .ref ao), (2, .ref om), (1, .ref o), (0, .ref b)]) hx hb dL_law_1404 hl (by decide) rfl (fun ls hl => ?_)
      refine lv_aload_n hx hb dL_law_1406 rfl (lv_at hl 4 rfl) ?_
      refine rdV (As := []) (ci := 9) S (c_X9_thrown_0 l D cI cZ cJ om q) mi_X9_thrown kw_7_89 ⟨rfl, rfl⟩ ⟨Nat.le_of_ble_eq_true rfl, Nat.le_of_ble_eq_true rfl⟩ (va_Pl (ws := (mW om 1 q cI cZ)) (x := ((xW o u cI cZ cJ) ++ [(ao, .inl (cJ, 1, .inr (.inl (fun _ => 0))))])) hP) hK mW_0 rfl rfl hl.1 (Nat.le_of_ble_eq_true rfl) ⟨Nat.le_of_ble_eq_true rfl, Nat.le_of_ble_eq_true rfl⟩ dL_law_1407 ?_
      refine lv_iload hx hb dL_law_1410 (lv_at hl 1 rfl) ?_
      refine lv_icmp_eq (tgt := 1417) hx hb dL_law_1412 (by decide) (fun _ => ?_) (fun c => absurd c (by decide))
      refine lv_iload hx hb dL_law_1417 (lv_at hl 1 rfl) ?_
      refine lv_if_ne (tgt := 1434) hx hb dL_law_1419 (by decide) (fun _ => ?_) (fun c => absurd c (by decide))
      refine lv_goto (tgt := 1519) hx hb dL_law_1434 (by decide) ?_
      exact law_tail (cells := 121) (slots := 12964) S hr hlocks hX hbl (lv_sub hl [2, 6] rfl) hS (Nat.le_of_ble_eq_true rfl) (Nat.le_of_ble_eq_true rfl)
    · have hi_x1 : x1 ≤ 7 := u_ngt d_1383
      by_cases d_1383 : x2 < 0
      · have hi_x2 : x2 ≤ (-1) := u_lt d_1383 (by decide)
        refine wrap (mW om 0 q cI cZ) (mid := ((xW o u cI cZ cJ) ++ [(ao, .inl (cJ, 1, .inr (.inl (fun _ => 0))))])) (As := [.ref o, .int x1, .int x2, .ref ao]) S (h_with_2 l D cI cZ cJ o u ao hst ra ga H.size x1 x2 lo_x1 hi_x1 hi_x2) msh_L_with kw_6_131 rfl rfl ⟨Nat.le_of_ble_eq_true rfl, Nat.le_of_ble_eq_true rfl⟩ hP hD hK hS hA hB hC hl.1 (Nat.le_of_ble_eq_true rfl) ⟨Nat.le_of_ble_eq_true rfl, Nat.le_of_ble_eq_true rfl⟩ dL_law_1383 (fun H locs hz hP hD hS => ?_)
        have hP : va_P D vwCl ((mW om 0 q cI cZ) ++ ((xW o u cI cZ cJ) ++ [(ao, .inl (cJ, 1, .inr (.inl (fun _ => 0))))])) H := hP
        have hD : va_D (fun q : Nat => s.heap.size ≤ q) ((mW om 0 q cI cZ) ++ ((xW o u cI cZ cJ) ++ [(ao, .inl (cJ, 1, .inr (.inl (fun _ => 0))))])) := hD
        refine lv_istore (lv' := [(5, .int 1), (4, .int 0), (3, .ref ao), (2, .ref om), (1, .ref o), (0, .ref b)]) hx hb dL_law_1386 hl (by decide) rfl (fun ls hl => ?_)
        refine lv_aload_n hx hb dL_law_1388 rfl (lv_at hl 3 rfl) ?_
        refine lv_aload_n hx hb dL_law_1389 rfl (lv_at hl 5 rfl) ?_
        refine lv_iload hx hb dL_law_1390 (lv_at hl 1 rfl) ?_
        refine lv_iconst (v := 1) hx hb dL_law_1392 (by decide) ?_
        refine xiadd (v := 1) S dL_law_1393 (by decide) ?_
        refine xsld (v := x1) S hX hbl hbA hS (vin rfl) h1 dL_law_1394 ?_
        refine lv_aload_n hx hb dL_law_1395 rfl (lv_at hl 5 rfl) ?_
        refine lv_iload hx hb dL_law_1396 (lv_at hl 1 rfl) ?_
        refine lv_iconst (v := 2) hx hb dL_law_1398 (by decide) ?_
        refine xiadd (v := 2) S dL_law_1399 (by decide) ?_
        refine xsld (v := x2) S hX hbl hbA hS (vin rfl) h2 dL_law_1400 ?_
        refine fVi [] ((xW o u cI cZ cJ) ++ [(ao, .inl (cJ, 1, .inr (.inl (fun _ => 0))))]) (mid := (mW om 0 q cI cZ)) (As := [.int x1, .int x2]) (ci := 9) S (c_X9_with_2 l D cI cZ cJ om q H.size x1 x2 lo_x1 hi_x1 hi_x2) mi_X9_with kw_9_40 rfl rfl ⟨Nat.le_of_ble_eq_true rfl, Nat.le_of_ble_eq_true rfl⟩ hP hD hK hS hA mW_0 rfl rfl hl.1 (Nat.le_of_ble_eq_true rfl) ⟨Nat.le_of_ble_eq_true rfl, Nat.le_of_ble_eq_true rfl⟩ dL_law_1401 (fun H locs hz hP hD hS => ?_)
        have hP : va_P D vwCl ((mW om 1 q cI cZ) ++ ((xW o u cI cZ cJ) ++ [(ao, .inl (cJ, 1, .inr (.inl (fun _ => 0))))])) H := hP
        have hD : va_D (fun q : Nat => s.heap.size ≤ q) ((mW om 1 q cI cZ) ++ ((xW o u cI cZ cJ) ++ [(ao, .inl (cJ, 1, .inr (.inl (fun _ => 0))))])) := hD
        refine lv_istore (lv' := [(6, .int 0), (5, .int 1), (4, .int 0), (3, .ref ao), (2, .ref om), (1, .ref o), (0, .ref b)]) hx hb dL_law_1404 hl (by decide) rfl (fun ls hl => ?_)
        refine lv_aload_n hx hb dL_law_1406 rfl (lv_at hl 4 rfl) ?_
        refine rdV (As := []) (ci := 9) S (c_X9_thrown_0 l D cI cZ cJ om q) mi_X9_thrown kw_7_89 ⟨rfl, rfl⟩ ⟨Nat.le_of_ble_eq_true rfl, Nat.le_of_ble_eq_true rfl⟩ (va_Pl (ws := (mW om 1 q cI cZ)) (x := ((xW o u cI cZ cJ) ++ [(ao, .inl (cJ, 1, .inr (.inl (fun _ => 0))))])) hP) hK mW_0 rfl rfl hl.1 (Nat.le_of_ble_eq_true rfl) ⟨Nat.le_of_ble_eq_true rfl, Nat.le_of_ble_eq_true rfl⟩ dL_law_1407 ?_
        refine lv_iload hx hb dL_law_1410 (lv_at hl 1 rfl) ?_
        refine lv_icmp_eq (tgt := 1417) hx hb dL_law_1412 (by decide) (fun _ => ?_) (fun c => absurd c (by decide))
        refine lv_iload hx hb dL_law_1417 (lv_at hl 1 rfl) ?_
        refine lv_if_ne (tgt := 1434) hx hb dL_law_1419 (by decide) (fun _ => ?_) (fun c => absurd c (by decide))
        refine lv_goto (tgt := 1519) hx hb dL_law_1434 (by decide) ?_
        exact law_tail (cells := 121) (slots := 12964) S hr hlocks hX hbl (lv_sub hl [2, 6] rfl) hS (Nat.le_of_ble_eq_true rfl) (Nat.le_of_ble_eq_true rfl)
      · have lo_x2 : 0 ≤ x2 := l_nlt d_1383
        by_cases d_1383 : 2 < x2
        · have lo_x2 : 3 ≤ x2 := l_gt d_1383 (by decide)
          refine wrap (mW om 0 q cI cZ) (mid := ((xW o u cI cZ cJ) ++ [(ao, .inl (cJ, 1, .inr (.inl (fun _ => 0))))])) (As := [.ref o, .int x1, .int x2, .ref ao]) S (h_with_3 l D cI cZ cJ o u ao hst ra ga H.size x1 x2 lo_x1 hi_x1 lo_x2) msh_L_with kw_6_131 rfl rfl ⟨Nat.le_of_ble_eq_true rfl, Nat.le_of_ble_eq_true rfl⟩ hP hD hK hS hA hB hC hl.1 (Nat.le_of_ble_eq_true rfl) ⟨Nat.le_of_ble_eq_true rfl, Nat.le_of_ble_eq_true rfl⟩ dL_law_1383 (fun H locs hz hP hD hS => ?_)
          have hP : va_P D vwCl ((mW om 0 q cI cZ) ++ ((xW o u cI cZ cJ) ++ [(ao, .inl (cJ, 1, .inr (.inl (fun _ => 0))))])) H := hP
          have hD : va_D (fun q : Nat => s.heap.size ≤ q) ((mW om 0 q cI cZ) ++ ((xW o u cI cZ cJ) ++ [(ao, .inl (cJ, 1, .inr (.inl (fun _ => 0))))])) := hD
          refine lv_istore (lv' := [(5, .int 1), (4, .int 0), (3, .ref ao), (2, .ref om), (1, .ref o), (0, .ref b)]) hx hb dL_law_1386 hl (by decide) rfl (fun ls hl => ?_)
          refine lv_aload_n hx hb dL_law_1388 rfl (lv_at hl 3 rfl) ?_
          refine lv_aload_n hx hb dL_law_1389 rfl (lv_at hl 5 rfl) ?_
          refine lv_iload hx hb dL_law_1390 (lv_at hl 1 rfl) ?_
          refine lv_iconst (v := 1) hx hb dL_law_1392 (by decide) ?_
          refine xiadd (v := 1) S dL_law_1393 (by decide) ?_
          refine xsld (v := x1) S hX hbl hbA hS (vin rfl) h1 dL_law_1394 ?_
          refine lv_aload_n hx hb dL_law_1395 rfl (lv_at hl 5 rfl) ?_
          refine lv_iload hx hb dL_law_1396 (lv_at hl 1 rfl) ?_
          refine lv_iconst (v := 2) hx hb dL_law_1398 (by decide) ?_
          refine xiadd (v := 2) S dL_law_1399 (by decide) ?_
          refine xsld (v := x2) S hX hbl hbA hS (vin rfl) h2 dL_law_1400 ?_
          refine fVi [] ((xW o u cI cZ cJ) ++ [(ao, .inl (cJ, 1, .inr (.inl (fun _ => 0))))]) (mid := (mW om 0 q cI cZ)) (As := [.int x1, .int x2]) (ci := 9) S (c_X9_with_3 l D cI cZ cJ om q H.size x1 x2 lo_x1 hi_x1 lo_x2) mi_X9_with kw_9_40 rfl rfl ⟨Nat.le_of_ble_eq_true rfl, Nat.le_of_ble_eq_true rfl⟩ hP hD hK hS hA mW_0 rfl rfl hl.1 (Nat.le_of_ble_eq_true rfl) ⟨Nat.le_of_ble_eq_true rfl, Nat.le_of_ble_eq_true rfl⟩ dL_law_1401 (fun H locs hz hP hD hS => ?_)
          have hP : va_P D vwCl ((mW om 1 q cI cZ) ++ ((xW o u cI cZ cJ) ++ [(ao, .inl (cJ, 1, .inr (.inl (fun _ => 0))))])) H := hP
          have hD : va_D (fun q : Nat => s.heap.size ≤ q) ((mW om 1 q cI cZ) ++ ((xW o u cI cZ cJ) ++ [(ao, .inl (cJ, 1, .inr (.inl (fun _ => 0))))])) := hD
          refine lv_istore (lv' := [(6, .int 0), (5, .int 1), (4, .int 0), (3, .ref ao), (2, .ref om), (1, .ref o), (0, .ref b)]) hx hb dL_law_1404 hl (by decide) rfl (fun ls hl => ?_)
          refine lv_aload_n hx hb dL_law_1406 rfl (lv_at hl 4 rfl) ?_
          refine rdV (As := []) (ci := 9) S (c_X9_thrown_0 l D cI cZ cJ om q) mi_X9_thrown kw_7_89 ⟨rfl, rfl⟩ ⟨Nat.le_of_ble_eq_true rfl, Nat.le_of_ble_eq_true rfl⟩ (va_Pl (ws := (mW om 1 q cI cZ)) (x := ((xW o u cI cZ cJ) ++ [(ao, .inl (cJ, 1, .inr (.inl (fun _ => 0))))])) hP) hK mW_0 rfl rfl hl.1 (Nat.le_of_ble_eq_true rfl) ⟨Nat.le_of_ble_eq_true rfl, Nat.le_of_ble_eq_true rfl⟩ dL_law_1407 ?_
          refine lv_iload hx hb dL_law_1410 (lv_at hl 1 rfl) ?_
          refine lv_icmp_eq (tgt := 1417) hx hb dL_law_1412 (by decide) (fun _ => ?_) (fun c => absurd c (by decide))
          refine lv_iload hx hb dL_law_1417 (lv_at hl 1 rfl) ?_
          refine lv_if_ne (tgt := 1434) hx hb dL_law_1419 (by decide) (fun _ => ?_) (fun c => absurd c (by decide))
          refine lv_goto (tgt := 1519) hx hb dL_law_1434 (by decide) ?_
          exact law_tail (cells := 121) (slots := 12964) S hr hlocks hX hbl (lv_sub hl [2, 6] rfl) hS (Nat.le_of_ble_eq_true rfl) (Nat.le_of_ble_eq_true rfl)
        · have hi_x2 : x2 ≤ 2 := u_ngt d_1383
          refine wrap (mW om 0 q cI cZ) (mid := ((xW o u cI cZ cJ) ++ [(ao, .inl (cJ, 1, .inr (.inl (fun _ => 0))))])) (As := [.ref o, .int x1, .int x2, .ref ao]) S (h_with_4 l D cI cZ cJ o u ao hst ra ga H.size x1 x2 lo_x1 hi_x1 lo_x2 hi_x2) msh_L_with kw_6_131 rfl rfl ⟨Nat.le_of_ble_eq_true rfl, Nat.le_of_ble_eq_true rfl⟩ hP hD hK hS hA hB hC hl.1 (Nat.le_of_ble_eq_true rfl) ⟨Nat.le_of_ble_eq_true rfl, Nat.le_of_ble_eq_true rfl⟩ dL_law_1383 (fun H locs hz hP hD hS => ?_)
          have hP : va_P D vwCl ((mW om 0 q cI cZ) ++ ((((((((xW o u cI cZ cJ).set 0 (o, .inr (8, ((xF u).set 9 (.int 0))))).set 32 ((u 31), .inl (cZ, 10, .inl (upd (upd (upd (upd (upd (upd (upd (upd (upd (upd (fun _ => 0) (0 : Int32).toNatClampNeg 0) (1 : Int32).toNatClampNeg 0) (2 : Int32).toNatClampNeg 0) (3 : Int32).toNatClampNeg 0) (4 : Int32).toNatClampNeg 0) (5 : Int32).toNatClampNeg 0) (6 : Int32).toNatClampNeg 0) (7 : Int32).toNatClampNeg 0) (8 : Int32).toNatClampNeg 0) (9 : Int32).toNatClampNeg 0)))).set 34 ((u 33), .inr (2, ([.ref (u 0), .ref (u 12), .ref (u 19), .int 0, .ref (u 34), .ref (u 35), .ref (u 36), .ref (u 37), .int 0].set 3 (.int 1))))).set 35 ((u 34), .inl (cI, 120, .inl (upd (fun _ => 0) (0 : Int32).toNatClampNeg 10)))).set 36 ((u 35), .inl (cI, 120, .inl (upd (fun _ => 0) (0 : Int32).toNatClampNeg 0)))).set 37 ((u 36), .inl (cI, 120, .inl (upd (fun _ => 0) (0 : Int32).toNatClampNeg (-1))))) ++ [(ao, .inl (cJ, 1, .inr (.inl (fun _ => 0))))])) H := hP
          have hD : va_D (fun q : Nat => s.heap.size ≤ q) ((mW om 0 q cI cZ) ++ ((((((((xW o u cI cZ cJ).set 0 (o, .inr (8, ((xF u).set 9 (.int 0))))).set 32 ((u 31), .inl (cZ, 10, .inl (upd (upd (upd (upd (upd (upd (upd (upd (upd (upd (fun _ => 0) (0 : Int32).toNatClampNeg 0) (1 : Int32).toNatClampNeg 0) (2 : Int32).toNatClampNeg 0) (3 : Int32).toNatClampNeg 0) (4 : Int32).toNatClampNeg 0) (5 : Int32).toNatClampNeg 0) (6 : Int32).toNatClampNeg 0) (7 : Int32).toNatClampNeg 0) (8 : Int32).toNatClampNeg 0) (9 : Int32).toNatClampNeg 0)))).set 34 ((u 33), .inr (2, ([.ref (u 0), .ref (u 12), .ref (u 19), .int 0, .ref (u 34), .ref (u 35), .ref (u 36), .ref (u 37), .int 0].set 3 (.int 1))))).set 35 ((u 34), .inl (cI, 120, .inl (upd (fun _ => 0) (0 : Int32).toNatClampNeg 10)))).set 36 ((u 35), .inl (cI, 120, .inl (upd (fun _ => 0) (0 : Int32).toNatClampNeg 0)))).set 37 ((u 36), .inl (cI, 120, .inl (upd (fun _ => 0) (0 : Int32).toNatClampNeg (-1))))) ++ [(ao, .inl (cJ, 1, .inr (.inl (fun _ => 0))))])) := hD
          refine lv_istore (lv' := [(5, .int 2), (4, .int 0), (3, .ref ao), (2, .ref om), (1, .ref o), (0, .ref b)]) hx hb dL_law_1386 hl (by decide) rfl (fun ls hl => ?_)
          refine lv_aload_n hx hb dL_law_1388 rfl (lv_at hl 3 rfl) ?_
          refine lv_aload_n hx hb dL_law_1389 rfl (lv_at hl 5 rfl) ?_
          refine lv_iload hx hb dL_law_1390 (lv_at hl 1 rfl) ?_
          refine lv_iconst (v := 1) hx hb dL_law_1392 (by decide) ?_
          refine xiadd (v := 1) S dL_law_1393 (by decide) ?_
          refine xsld (v := x1) S hX hbl hbA hS (vin rfl) h1 dL_law_1394 ?_
          refine lv_aload_n hx hb dL_law_1395 rfl (lv_at hl 5 rfl) ?_
          refine lv_iload hx hb dL_law_1396 (lv_at hl 1 rfl) ?_
          refine lv_iconst (v := 2) hx hb dL_law_1398 (by decide) ?_
          refine xiadd (v := 2) S dL_law_1399 (by decide) ?_
          refine xsld (v := x2) S hX hbl hbA hS (vin rfl) h2 dL_law_1400 ?_
          refine fVi [] ((((((((xW o u cI cZ cJ).set 0 (o, .inr (8, ((xF u).set 9 (.int 0))))).set 32 ((u 31), .inl (cZ, 10, .inl (upd (upd (upd (upd (upd (upd (upd (upd (upd (upd (fun _ => 0) (0 : Int32).toNatClampNeg 0) (1 : Int32).toNatClampNeg 0) (2 : Int32).toNatClampNeg 0) (3 : Int32).toNatClampNeg 0) (4 : Int32).toNatClampNeg 0) (5 : Int32).toNatClampNeg 0) (6 : Int32).toNatClampNeg 0) (7 : Int32).toNatClampNeg 0) (8 : Int32).toNatClampNeg 0) (9 : Int32).toNatClampNeg 0)))).set 34 ((u 33), .inr (2, ([.ref (u 0), .ref (u 12), .ref (u 19), .int 0, .ref (u 34), .ref (u 35), .ref (u 36), .ref (u 37), .int 0].set 3 (.int 1))))).set 35 ((u 34), .inl (cI, 120, .inl (upd (fun _ => 0) (0 : Int32).toNatClampNeg 10)))).set 36 ((u 35), .inl (cI, 120, .inl (upd (fun _ => 0) (0 : Int32).toNatClampNeg 0)))).set 37 ((u 36), .inl (cI, 120, .inl (upd (fun _ => 0) (0 : Int32).toNatClampNeg (-1))))) ++ [(ao, .inl (cJ, 1, .inr (.inl (fun _ => 0))))]) (mid := (mW om 0 q cI cZ)) (As := [.int x1, .int x2]) (ci := 9) S (c_X9_with_4 l D cI cZ cJ om q H.size x1 x2 lo_x1 hi_x1 lo_x2 hi_x2) mi_X9_with kw_9_40 rfl rfl ⟨Nat.le_of_ble_eq_true rfl, Nat.le_of_ble_eq_true rfl⟩ hP hD hK hS hA mW_0 rfl rfl hl.1 (Nat.le_of_ble_eq_true rfl) ⟨Nat.le_of_ble_eq_true rfl, Nat.le_of_ble_eq_true rfl⟩ dL_law_1401 (fun H locs hz hP hD hS => ?_)
          have hP : va_P D vwCl ((mW om 2 q cI cZ) ++ ((((((((xW o u cI cZ cJ).set 0 (o, .inr (8, ((xF u).set 9 (.int 0))))).set 32 ((u 31), .inl (cZ, 10, .inl (upd (upd (upd (upd (upd (upd (upd (upd (upd (upd (fun _ => 0) (0 : Int32).toNatClampNeg 0) (1 : Int32).toNatClampNeg 0) (2 : Int32).toNatClampNeg 0) (3 : Int32).toNatClampNeg 0) (4 : Int32).toNatClampNeg 0) (5 : Int32).toNatClampNeg 0) (6 : Int32).toNatClampNeg 0) (7 : Int32).toNatClampNeg 0) (8 : Int32).toNatClampNeg 0) (9 : Int32).toNatClampNeg 0)))).set 34 ((u 33), .inr (2, ([.ref (u 0), .ref (u 12), .ref (u 19), .int 0, .ref (u 34), .ref (u 35), .ref (u 36), .ref (u 37), .int 0].set 3 (.int 1))))).set 35 ((u 34), .inl (cI, 120, .inl (upd (fun _ => 0) (0 : Int32).toNatClampNeg 10)))).set 36 ((u 35), .inl (cI, 120, .inl (upd (fun _ => 0) (0 : Int32).toNatClampNeg 0)))).set 37 ((u 36), .inl (cI, 120, .inl (upd (fun _ => 0) (0 : Int32).toNatClampNeg (-1))))) ++ [(ao, .inl (cJ, 1, .inr (.inl (fun _ => 0))))])) H := hP
          have hD : va_D (fun q : Nat => s.heap.size ≤ q) ((mW om 2 q cI cZ) ++ ((((((((xW o u cI cZ cJ).set 0 (o, .inr (8, ((xF u).set 9 (.int 0))))).set 32 ((u 31), .inl (cZ, 10, .inl (upd (upd (upd (upd (upd (upd (upd (upd (upd (upd (fun _ => 0) (0 : Int32).toNatClampNeg 0) (1 : Int32).toNatClampNeg 0) (2 : Int32).toNatClampNeg 0) (3 : Int32).toNatClampNeg 0) (4 : Int32).toNatClampNeg 0) (5 : Int32).toNatClampNeg 0) (6 : Int32).toNatClampNeg 0) (7 : Int32).toNatClampNeg 0) (8 : Int32).toNatClampNeg 0) (9 : Int32).toNatClampNeg 0)))).set 34 ((u 33), .inr (2, ([.ref (u 0), .ref (u 12), .ref (u 19), .int 0, .ref (u 34), .ref (u 35), .ref (u 36), .ref (u 37), .int 0].set 3 (.int 1))))).set 35 ((u 34), .inl (cI, 120, .inl (upd (fun _ => 0) (0 : Int32).toNatClampNeg 10)))).set 36 ((u 35), .inl (cI, 120, .inl (upd (fun _ => 0) (0 : Int32).toNatClampNeg 0)))).set 37 ((u 36), .inl (cI, 120, .inl (upd (fun _ => 0) (0 : Int32).toNatClampNeg (-1))))) ++ [(ao, .inl (cJ, 1, .inr (.inl (fun _ => 0))))])) := hD
          refine lv_istore (lv' := [(6, .int 0), (5, .int 2), (4, .int 0), (3, .ref ao), (2, .ref om), (1, .ref o), (0, .ref b)]) hx hb dL_law_1404 hl (by decide) rfl (fun ls hl => ?_)
          refine lv_aload_n hx hb dL_law_1406 rfl (lv_at hl 4 rfl) ?_
          refine rdV (As := []) (ci := 9) S (c_X9_thrown_1 l D cI cZ cJ om q) mi_X9_thrown kw_7_89 ⟨rfl, rfl⟩ ⟨Nat.le_of_ble_eq_true rfl, Nat.le_of_ble_eq_true rfl⟩ (va_Pl (ws := (mW om 2 q cI cZ)) (x := ((((((((xW o u cI cZ cJ).set 0 (o, .inr (8, ((xF u).set 9 (.int 0))))).set 32 ((u 31), .inl (cZ, 10, .inl (upd (upd (upd (upd (upd (upd (upd (upd (upd (upd (fun _ => 0) (0 : Int32).toNatClampNeg 0) (1 : Int32).toNatClampNeg 0) (2 : Int32).toNatClampNeg 0) (3 : Int32).toNatClampNeg 0) (4 : Int32).toNatClampNeg 0) (5 : Int32).toNatClampNeg 0) (6 : Int32).toNatClampNeg 0) (7 : Int32).toNatClampNeg 0) (8 : Int32).toNatClampNeg 0) (9 : Int32).toNatClampNeg 0)))).set 34 ((u 33), .inr (2, ([.ref (u 0), .ref (u 12), .ref (u 19), .int 0, .ref (u 34), .ref (u 35), .ref (u 36), .ref (u 37), .int 0].set 3 (.int 1))))).set 35 ((u 34), .inl (cI, 120, .inl (upd (fun _ => 0) (0 : Int32).toNatClampNeg 10)))).set 36 ((u 35), .inl (cI, 120, .inl (upd (fun _ => 0) (0 : Int32).toNatClampNeg 0)))).set 37 ((u 36), .inl (cI, 120, .inl (upd (fun _ => 0) (0 : Int32).toNatClampNeg (-1))))) ++ [(ao, .inl (cJ, 1, .inr (.inl (fun _ => 0))))])) hP) hK mW_0 rfl rfl hl.1 (Nat.le_of_ble_eq_true rfl) ⟨Nat.le_of_ble_eq_true rfl, Nat.le_of_ble_eq_true rfl⟩ dL_law_1407 ?_
          refine lv_iload hx hb dL_law_1410 (lv_at hl 1 rfl) ?_
          refine lv_icmp_eq (tgt := 1417) hx hb dL_law_1412 (by decide) (fun _ => ?_) (fun c => absurd c (by decide))
          refine lv_iload hx hb dL_law_1417 (lv_at hl 1 rfl) ?_
          refine lv_if_ne (tgt := 1434) hx hb dL_law_1419 (by decide) (fun _ => ?_) (fun c => absurd c (by decide))
          refine lv_goto (tgt := 1519) hx hb dL_law_1434 (by decide) ?_
          exact law_tail (cells := 122) (slots := 13075) S hr hlocks hX hbl (lv_sub hl [2, 6] rfl) hS (Nat.le_of_ble_eq_true rfl) (Nat.le_of_ble_eq_true rfl)
