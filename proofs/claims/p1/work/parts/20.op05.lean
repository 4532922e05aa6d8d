set_option maxHeartbeats 8000000 in
set_option maxRecDepth 100000 in
theorem law_5 (l : Launch) (hst : l.stackTraces = false) (D : va_G) (cI cZ cJ : ClassId) {p : Program} {e : Env} {s : State} {m : MethodId} {below : List Frame} {meth : Method} {c : Code} {b : Nat} {xs : Nat → Int32} (S : CallFix p m c cL_law 9 s #[Value.ref b] uG RL) (hr : meth.sig.returnType = ret) (hlocks : meth.locks = false) (hX : va_X b 5 xs s s.heap) (hbl : b < s.heap.size) (hK : va_K D vwCl (tyL cI cZ cJ) s) (ra ga : Nat → Nat) (hB : amb ra ga (fun q => s.heap.size ≤ q) s s.heap) (hC : ambC s) (x1 x2 x3 x4 : Int32) (h1 : xs 1 = x1) (h2 : xs 2 = x2) (h3 : xs 3 = x3) (h4 : xs 4 = x4) (o om ao : Nat) (u q : Nat → Nat) (ls : Array Slot) (H : Heap) (locs : List Loc) (hl : lv_has ls 9 [(4, .int 0), (3, .ref ao), (2, .ref om), (1, .ref o), (0, .ref b)]) (hP : va_P D vwCl ((mW om 0 q cI cZ) ++ ((xW o u cI cZ cJ) ++ [(ao, .inl (cJ, 1, .inr (.inl (fun _ => 0))))])) H) (hD : va_D (fun q => s.heap.size ≤ q) ((mW om 0 q cI cZ) ++ ((xW o u cI cZ cJ) ++ [(ao, .inl (cJ, 1, .inr (.inl (fun _ => 0))))]))) (hS : va_S (fun q => s.heap.size ≤ q) s.heap H locs) : W p l e room_1 s m #[Value.ref b] below meth c H locs 120 12958 (lw_Z below #[Value.ref b] s) (F0 m 524 ls []) := by
  have hx := S.1
  have hb := S.2.1
  have hA : ∀ q : Nat, s.heap.size ≤ q → (fun q : Nat => s.heap.size ≤ q) q := fun _ h => h
  have hbA : ¬ (fun q : Nat => s.heap.size ≤ q) b := Nat.not_le.mpr hbl
  refine lv_aload_n hx hb dL_law_524 rfl (lv_at hl 3 rfl) ?_
  refine lv_aload_n hx hb dL_law_525 rfl (lv_at hl 4 rfl) ?_
  refine lv_iload hx hb dL_law_526 (lv_at hl 0 rfl) ?_
  refine lv_iconst (v := 1) hx hb dL_law_528 (by decide) ?_
  refine xiadd (v := 1) S dL_law_529 (by decide) ?_
  refine xsld (v := x1) S hX hbl hbA hS (vin rfl) h1 dL_law_530 ?_
  refine lv_aload_n hx hb dL_law_531 rfl (lv_at hl 4 rfl) ?_
  refine lv_iload hx hb dL_law_532 (lv_at hl 0 rfl) ?_
  refine lv_iconst (v := 2) hx hb dL_law_534 (by decide) ?_
  refine xiadd (v := 2) S dL_law_535 (by decide) ?_
  refine xsld (v := x2) S hX hbl hbA hS (vin rfl) h2 dL_law_536 ?_
  refine lv_aload_n hx hb dL_law_537 rfl (lv_at hl 4 rfl) ?_
  refine lv_iload hx hb dL_law_538 (lv_at hl 0 rfl) ?_
  refine lv_iconst (v := 3) hx hb dL_law_540 (by decide) ?_
  refine xiadd (v := 3) S dL_law_541 (by decide) ?_
  refine xsld (v := x3) S hX hbl hbA hS (vin rfl) h3 dL_law_542 ?_
  refine lv_aload_n hx hb dL_law_543 rfl (lv_at hl 4 rfl) ?_
  refine lv_iload hx hb dL_law_544 (lv_at hl 0 rfl) ?_
  refine lv_iconst (v := 4) hx hb dL_law_546 (by decide) ?_
  refine xiadd (v := 4) S dL_law_547 (by decide) ?_
  refine xsld (v := x4) S hX hbl hbA hS (vin rfl) h4 dL_law_548 ?_
  refine lv_aload_n hx hb dL_law_549 rfl (lv_at hl 1 rfl) ?_
  by_cases d_550 : x1 = 0
  · have e_x1 : x1 = 0 := d_550
    subst e_x1
    by_cases d_550 : x2 < (-999)
    · have hi_x2 : x2 ≤ (-1000) := u_lt d_550 (by decide)
      refine wrap (mW om 0 q cI cZ) (mid := ((xW o u cI cZ cJ) ++ [(ao, .inl (cJ, 1, .inr (.inl (fun _ => 0))))])) (As := [.ref o, .int 0, .int x2, .int x3, .int x4, .ref ao]) S (h_node_0 l D cI cZ cJ o u ao hst ra ga H.size x2 x3 x4 hi_x2) msh_L_node kw_6_20 rfl rfl ⟨Nat.le_of_ble_eq_true rfl, Nat.le_of_ble_eq_true rfl⟩ hP hD hK hS hA hB hC hl.1 (Nat.le_of_ble_eq_true rfl) ⟨Nat.le_of_ble_eq_true rfl, Nat.le_of_ble_eq_true rfl⟩ dL_law_550 (fun H locs hz hP hD hS => ?_)
      have hP : va_P D vwCl ((mW om 0 q cI cZ) ++ ((xW o u cI cZ cJ) ++ [(ao, .inl (cJ, 1, .inr (.inl (fun _ => 0))))])) H := hP
      have hD : va_D (fun q : Nat => s.heap.size ≤ q) ((mW om 0 q cI cZ) ++ ((xW o u cI cZ cJ) ++ [(ao, .inl (cJ, 1, .inr (.inl (fun _ => 0))))])) := hD
      refine lv_istore (lv' := [(5, .int 1), (4, .int 0), (3, .ref ao), (2, .ref om), (1, .ref o), (0, .ref b)]) hx hb dL_law_553 hl (by decide) rfl (fun ls hl => ?_)
      refine lv_aload_n hx hb dL_law_555 rfl (lv_at hl 3 rfl) ?_
      refine lv_aload_n hx hb dL_law_556 rfl (lv_at hl 5 rfl) ?_
      refine lv_iload hx hb dL_law_557 (lv_at hl 1 rfl) ?_
      refine lv_iconst (v := 1) hx hb dL_law_559 (by decide) ?_
      refine xiadd (v := 1) S dL_law_560 (by decide) ?_
      refine xsld (v := 0) S hX hbl hbA hS (vin rfl) h1 dL_law_561 ?_
      refine lv_aload_n hx hb dL_law_562 rfl (lv_at hl 5 rfl) ?_
      refine lv_iload hx hb dL_law_563 (lv_at hl 1 rfl) ?_
      refine lv_iconst (v := 2) hx hb dL_law_565 (by decide) ?_
      refine xiadd (v := 2) S dL_law_566 (by decide) ?_
      refine xsld (v := x2) S hX hbl hbA hS (vin rfl) h2 dL_law_567 ?_
      refine lv_aload_n hx hb dL_law_568 rfl (lv_at hl 5 rfl) ?_
      refine lv_iload hx hb dL_law_569 (lv_at hl 1 rfl) ?_
      refine lv_iconst (v := 3) hx hb dL_law_571 (by decide) ?_
      refine xiadd (v := 3) S dL_law_572 (by decide) ?_
      refine xsld (v := x3) S hX hbl hbA hS (vin rfl) h3 dL_law_573 ?_
      refine lv_aload_n hx hb dL_law_574 rfl (lv_at hl 5 rfl) ?_
      refine lv_iload hx hb dL_law_575 (lv_at hl 1 rfl) ?_
      refine lv_iconst (v := 4) hx hb dL_law_577 (by decide) ?_
      refine xiadd (v := 4) S dL_law_578 (by decide) ?_
      refine xsld (v := x4) S hX hbl hbA hS (vin rfl) h4 dL_law_579 ?_
      refine fVi [] ((xW o u cI cZ cJ) ++ [(ao, .inl (cJ, 1, .inr (.inl (fun _ => 0))))]) (mid := (mW om 0 q cI cZ)) (As := [.int 0, .int x2, .int x3, .int x4]) (ci := 9) S (c_X9_node_0 l D cI cZ cJ om q H.size x2 x3 x4 hi_x2) mi_X9_node kw_7_151 rfl rfl ⟨Nat.le_of_ble_eq_true rfl, Nat.le_of_ble_eq_true rfl⟩ hP hD hK hS hA mW_0 rfl rfl hl.1 (Nat.le_of_ble_eq_true rfl) ⟨Nat.le_of_ble_eq_true rfl, Nat.le_of_ble_eq_true rfl⟩ dL_law_580 (fun H locs hz hP hD hS => ?_)
      have hP : va_P D vwCl ((mW om 1 q cI cZ) ++ ((xW o u cI cZ cJ) ++ [(ao, .inl (cJ, 1, .inr (.inl (fun _ => 0))))])) H := hP
      have hD : va_D (fun q : Nat => s.heap.size ≤ q) ((mW om 1 q cI cZ) ++ ((xW o u cI cZ cJ) ++ [(ao, .inl (cJ, 1, .inr (.inl (fun _ => 0))))])) := hD
      refine lv_istore (lv' := [(6, .int 0), (5, .int 1), (4, .int 0), (3, .ref ao), (2, .ref om), (1, .ref o), (0, .ref b)]) hx hb dL_law_583 hl (by decide) rfl (fun ls hl => ?_)
      refine lv_aload_n hx hb dL_law_585 rfl (lv_at hl 4 rfl) ?_
      refine rdV (As := []) (ci := 9) S (c_X9_thrown_0 l D cI cZ cJ om q) mi_X9_thrown kw_7_89 ⟨rfl, rfl⟩ ⟨Nat.le_of_ble_eq_true rfl, Nat.le_of_ble_eq_true rfl⟩ (va_Pl (ws := (mW om 1 q cI cZ)) (x := ((xW o u cI cZ cJ) ++ [(ao, .inl (cJ, 1, .inr (.inl (fun _ => 0))))])) hP) hK mW_0 rfl rfl hl.1 (Nat.le_of_ble_eq_true rfl) ⟨Nat.le_of_ble_eq_true rfl, Nat.le_of_ble_eq_true rfl⟩ dL_law_586 ?_
      refine lv_iload hx hb dL_law_589 (lv_at hl 1 rfl) ?_
      refine lv_icmp_eq (tgt := 596) hx hb dL_law_591 (by decide) (fun _ => ?_) (fun c => absurd c (by decide))
      refine lv_iload hx hb dL_law_596 (lv_at hl 1 rfl) ?_
      refine lv_if_ne (tgt := 613) hx hb dL_law_598 (by decide) (fun _ => ?_) (fun c => absurd c (by decide))
      refine lv_goto (tgt := 1519) hx hb dL_law_613 (by decide) ?_
      exact law_tail (cells := 121) (slots := 12964) S hr hlocks hX hbl (lv_sub hl [2, 6] rfl) hS (Nat.le_of_ble_eq_true rfl) (Nat.le_of_ble_eq_true rfl)
    · have lo_x2 : (-999) ≤ x2 := l_nlt d_550
      by_cases d_550 : 999 < x2
      · have lo_x2 : 1000 ≤ x2 := l_gt d_550 (by decide)
        refine wrap (mW om 0 q cI cZ) (mid := ((xW o u cI cZ cJ) ++ [(ao, .inl (cJ, 1, .inr (.inl (fun _ => 0))))])) (As := [.ref o, .int 0, .int x2, .int x3, .int x4, .ref ao]) S (h_node_1 l D cI cZ cJ o u ao hst ra ga H.size x2 x3 x4 lo_x2) msh_L_node kw_6_20 rfl rfl ⟨Nat.le_of_ble_eq_true rfl, Nat.le_of_ble_eq_true rfl⟩ hP hD hK hS hA hB hC hl.1 (Nat.le_of_ble_eq_true rfl) ⟨Nat.le_of_ble_eq_true rfl, Nat.le_of_ble_eq_true rfl⟩ dL_law_550 (fun H locs hz hP hD hS => ?_)
        have hP : va_P D vwCl ((mW om 0 q cI cZ) ++ ((xW o u cI cZ cJ) ++ [(ao, .inl (cJ, 1, .inr (.inl (fun _ => 0))))])) H := hP
        have hD : va_D (fun q : Nat => s.heap.size ≤ q) ((mW om 0 q cI cZ) ++ ((xW o u cI cZ cJ) ++ [(ao, .inl (cJ, 1, .inr (.inl (fun _ => 0))))])) := hD
        refine lv_istore (lv' := [(5, .int 1), (4, .int 0), (3, .ref ao), (2, .ref om), (1, .ref o), (0, .ref b)]) hx hb dL_law_553 hl (by decide) rfl (fun ls hl => ?_)
        refine lv_aload_n hx hb dL_law_555 rfl (lv_at hl 3 rfl) ?_
        refine lv_aload_n hx hb dL_law_556 rfl (lv_at hl 5 rfl) ?_
        refine lv_iload hx hb dL_law_557 (lv_at hl 1 rfl) ?_
        refine lv_iconst (v := 1) hx hb dL_law_559 (by decide) ?_
        refine xiadd (v := 1) S dL_law_560 (by decide) ?_
        refine xsld (v := 0) S hX hbl hbA hS (vin rfl) h1 dL_law_561 ?_
        refine lv_aload_n hx hb dL_law_562 rfl (lv_at hl 5 rfl) ?_
        refine lv_iload hx hb dL_law_563 (lv_at hl 1 rfl) ?_
        refine lv_iconst (v := 2) hx hb dL_law_565 (by decide) ?_
        refine xiadd (v := 2) S dL_law_566 (by decide) ?_
        refine xsld (v := x2) S hX hbl hbA hS (vin rfl) h2 dL_law_567 ?_
        refine lv_aload_n hx hb dL_law_568 rfl (lv_at hl 5 rfl) ?_
        refine lv_iload hx hb dL_law_569 (lv_at hl 1 rfl) ?_
        refine lv_iconst (v := 3) hx hb dL_law_571 (by decide) ?_
        refine xiadd (v := 3) S dL_law_572 (by decide) ?_
        refine xsld (v := x3) S hX hbl hbA hS (vin rfl) h3 dL_law_573 ?_
        refine lv_aload_n hx hb dL_law_574 rfl (lv_at hl 5 rfl) ?_
        refine lv_iload hx hb dL_law_575 (lv_at hl 1 rfl) ?_
        refine lv_iconst (v := 4) hx hb dL_law_577 (by decide) ?_
        refine xiadd (v := 4) S dL_law_578 (by decide) ?_
        refine xsld (v := x4) S hX hbl hbA hS (vin rfl) h4 dL_law_579 ?_
        refine fVi [] ((xW o u cI cZ cJ) ++ [(ao, .inl (cJ, 1, .inr (.inl (fun _ => 0))))]) (mid := (mW om 0 q cI cZ)) (As := [.int 0, .int x2, .int x3, .int x4]) (ci := 9) S (c_X9_node_1 l D cI cZ cJ om q H.size x2 x3 x4 lo_x2) mi_X9_node kw_7_151 rfl rfl ⟨Nat.le_of_ble_eq_true rfl, Nat.le_of_ble_eq_true rfl⟩ hP hD hK hS hA mW_0 rfl rfl hl.1 (Nat.le_of_ble_eq_true rfl) ⟨Nat.le_of_ble_eq_true rfl, Nat.le_of_ble_eq_true rfl⟩ dL_law_580 (fun H locs hz hP hD hS => ?_)
        have hP : va_P D vwCl ((mW om 1 q cI cZ) ++ ((xW o u cI cZ cJ) ++ [(ao, .inl (cJ, 1, .inr (.inl (fun _ => 0))))])) H := hP
        have hD : va_D (fun q : Nat => s.heap.size ≤ q) ((mW om 1 q cI cZ) ++ ((xW o u cI cZ cJ) ++ [(ao, .inl (cJ, 1, .inr (.inl (fun _ => 0))))])) := hD
        refine lv_istore (lv' := [(6, .int 0), (5, .int 1), (4, .int 0), (3, .ref ao), (2, .ref om), (1, .ref o), (0, .ref b)]) hx hb dL_law_583 hl (by decide) rfl (fun ls hl => ?_)
        refine lv_aload_n hx hb dL_law_585 rfl (lv_at hl 4 rfl) ?_
        refine rdV (As := []) (ci := 9) S (c_X9_thrown_0 l D cI cZ cJ om q) mi_X9_thrown kw_7_89 ⟨rfl, rfl⟩ ⟨Nat.le_of_ble_eq_true rfl, Nat.le_of_ble_eq_true rfl⟩ (va_Pl (ws := (mW om 1 q cI cZ)) (x := ((xW o u cI cZ cJ) ++ [(ao, .inl (cJ, 1, .inr (.inl (fun _ => 0))))])) hP) hK mW_0 rfl rfl hl.1 (Nat.le_of_ble_eq_true rfl) ⟨Nat.le_of_ble_eq_true rfl, Nat.le_of_ble_eq_true rfl⟩ dL_law_586 ?_
        refine lv_iload hx hb dL_law_589 (lv_at hl 1 rfl) ?_
        refine lv_icmp_eq (tgt := 596) hx hb dL_law_591 (by decide) (fun _ => ?_) (fun c => absurd c (by decide))
        refine lv_iload hx hb dL_law_596 (lv_at hl 1 rfl) ?_
        refine lv_if_ne (tgt := 613) hx hb dL_law_598 (by decide) (fun _ => ?_) (fun c => absurd c (by decide))
        refine lv_goto (tgt := 1519) hx hb dL_law_613 (by decide) ?_
        exact law_tail (cells := 121) (slots := 12964) S hr hlocks hX hbl (lv_sub hl [2, 6] rfl) hS (Nat.le_of_ble_eq_true rfl) (Nat.le_of_ble_eq_true rfl)
      · have hi_x2 : x2 ≤ 999 := u_ngt d_550
        by_cases d_550 : x3 = 0
        · have e_x3 : x3 = 0 := d_550
          subst e_x3
          by_cases d_550 : x4 = 0
          · have e_x4 : x4 = 0 := d_550
            subst e_x4
            refine wrap (mW om 0 q cI cZ) (mid := ((xW o u cI cZ cJ) ++ [(ao, .inl (cJ, 1, .inr (.inl (fun _ => 0))))])) (As := [.ref o, .int 0, .int x2, .int 0, .int 0, .ref ao]) S (h_node_2 l D cI cZ cJ o u ao hst ra ga H.size x2 lo_x2 hi_x2) msh_L_node kw_6_20 rfl rfl ⟨Nat.le_of_ble_eq_true rfl, Nat.le_of_ble_eq_true rfl⟩ hP hD hK hS hA hB hC hl.1 (Nat.le_of_ble_eq_true rfl) ⟨Nat.le_of_ble_eq_true rfl, Nat.le_of_ble_eq_true rfl⟩ dL_law_550 (fun H locs hz hP hD hS => ?_)
            have hP : va_P D vwCl ((mW om 0 q cI cZ) ++ (((((((((xW o u cI cZ cJ).set 13 ((u 12), .inr (5, ([.int 0, .ref (u 13), .ref (u 14), .ref (u 15), .ref (u 16), .ref (u 17), .ref (u 18)].set 0 (.int 1))))).set 14 ((u 13), .inl (cI, 110, .inl (upd (fun _ => 0) (0 : Int32).toNatClampNeg 0)))).set 15 ((u 14), .inl (cI, 110, .inl (upd (fun _ => 0) (0 : Int32).toNatClampNeg x2)))).set 16 ((u 15), .inl (cI, 110, .inl (upd (fun _ => 0) (0 : Int32).toNatClampNeg 0)))).set 17 ((u 16), .inl (cI, 110, .inl (upd (fun _ => 0) (0 : Int32).toNatClampNeg 0)))).set 18 ((u 17), .inl (cI, 110, .inl (upd (fun _ => 0) (0 : Int32).toNatClampNeg (-1))))).set 19 ((u 18), .inl (cI, 110, .inl (upd (fun _ => 0) (0 : Int32).toNatClampNeg (-1))))) ++ [(ao, .inl (cJ, 1, .inr (.inl (vp_updL (fun _ => 0) (0 : Int32).toNatClampNeg 0))))])) H := hP
            have hD : va_D (fun q : Nat => s.heap.size ≤ q) ((mW om 0 q cI cZ) ++ (((((((((xW o u cI cZ cJ).set 13 ((u 12), .inr (5, ([.int 0, .ref (u 13), .ref (u 14), .ref (u 15), .ref (u 16), .ref (u 17), .ref (u 18)].set 0 (.int 1))))).set 14 ((u 13), .inl (cI, 110, .inl (upd (fun _ => 0) (0 : Int32).toNatClampNeg 0)))).set 15 ((u 14), .inl (cI, 110, .inl (upd (fun _ => 0) (0 : Int32).toNatClampNeg x2)))).set 16 ((u 15), .inl (cI, 110, .inl (upd (fun _ => 0) (0 : Int32).toNatClampNeg 0)))).set 17 ((u 16), .inl (cI, 110, .inl (upd (fun _ => 0) (0 : Int32).toNatClampNeg 0)))).set 18 ((u 17), .inl (cI, 110, .inl (upd (fun _ => 0) (0 : Int32).toNatClampNeg (-1))))).set 19 ((u 18), .inl (cI, 110, .inl (upd (fun _ => 0) (0 : Int32).toNatClampNeg (-1))))) ++ [(ao, .inl (cJ, 1, .inr (.inl (vp_updL (fun _ => 0) (0 : Int32).toNatClampNeg 0))))])) := hD
            refine lv_istore (lv' := [(5, .int 0), (4, .int 0), (3, .ref ao), (2, .ref om), (1, .ref o), (0, .ref b)]) hx hb dL_law_553 hl (by decide) rfl (fun ls hl => ?_)
            refine lv_aload_n hx hb dL_law_555 rfl (lv_at hl 3 rfl) ?_
            refine lv_aload_n hx hb dL_law_556 rfl (lv_at hl 5 rfl) ?_
            refine lv_iload hx hb dL_law_557 (lv_at hl 1 rfl) ?_
            refine lv_iconst (v := 1) hx hb dL_law_559 (by decide) ?_
            refine xiadd (v := 1) S dL_law_560 (by decide) ?_
            refine xsld (v := 0) S hX hbl hbA hS (vin rfl) h1 dL_law_561 ?_
            refine lv_aload_n hx hb dL_law_562 rfl (lv_at hl 5 rfl) ?_
            refine lv_iload hx hb dL_law_563 (lv_at hl 1 rfl) ?_
            refine lv_iconst (v := 2) hx hb dL_law_565 (by decide) ?_
            refine xiadd (v := 2) S dL_law_566 (by decide) ?_
            refine xsld (v := x2) S hX hbl hbA hS (vin rfl) h2 dL_law_567 ?_
            refine lv_aload_n hx hb dL_law_568 rfl (lv_at hl 5 rfl) ?_
            refine lv_iload hx hb dL_law_569 (lv_at hl 1 rfl) ?_
            refine lv_iconst (v := 3) hx hb dL_law_571 (by decide) ?_
            refine xiadd (v := 3) S dL_law_572 (by decide) ?_
            refine xsld (v := 0) S hX hbl hbA hS (vin rfl) h3 dL_law_573 ?_
            refine lv_aload_n hx hb dL_law_574 rfl (lv_at hl 5 rfl) ?_
            refine lv_iload hx hb dL_law_575 (lv_at hl 1 rfl) ?_
            refine lv_iconst (v := 4) hx hb dL_law_577 (by decide) ?_
            refine xiadd (v := 4) S dL_law_578 (by decide) ?_
            refine xsld (v := 0) S hX hbl hbA hS (vin rfl) h4 dL_law_579 ?_
            refine fVi [] (((((((((xW o u cI cZ cJ).set 13 ((u 12), .inr (5, ([.int 0, .ref (u 13), .ref (u 14), .ref (u 15), .ref (u 16), .ref (u 17), .ref (u 18)].set 0 (.int 1))))).set 14 ((u 13), .inl (cI, 110, .inl (upd (fun _ => 0) (0 : Int32).toNatClampNeg 0)))).set 15 ((u 14), .inl (cI, 110, .inl (upd (fun _ => 0) (0 : Int32).toNatClampNeg x2)))).set 16 ((u 15), .inl (cI, 110, .inl (upd (fun _ => 0) (0 : Int32).toNatClampNeg 0)))).set 17 ((u 16), .inl (cI, 110, .inl (upd (fun _ => 0) (0 : Int32).toNatClampNeg 0)))).set 18 ((u 17), .inl (cI, 110, .inl (upd (fun _ => 0) (0 : Int32).toNatClampNeg (-1))))).set 19 ((u 18), .inl (cI, 110, .inl (upd (fun _ => 0) (0 : Int32).toNatClampNeg (-1))))) ++ [(ao, .inl (cJ, 1, .inr (.inl (vp_updL (fun _ => 0) (0 : Int32).toNatClampNeg 0))))]) (mid := (mW om 0 q cI cZ)) (As := [.int 0, .int x2, .int 0, .int 0]) (ci := 9) S (c_X9_node_2 l D cI cZ cJ om q H.size x2 lo_x2 hi_x2) mi_X9_node kw_7_151 rfl rfl ⟨Nat.le_of_ble_eq_true rfl, Nat.le_of_ble_eq_true rfl⟩ hP hD hK hS hA mW_0 rfl rfl hl.1 (Nat.le_of_ble_eq_true rfl) ⟨Nat.le_of_ble_eq_true rfl, Nat.le_of_ble_eq_true rfl⟩ dL_law_580 (fun H locs hz hP hD hS => ?_)
            have hP : va_P D vwCl (((((((((mW om 0 q cI cZ).set 0 (om, .inr (9, ((mF 0 q).set 13 (.int 1))))).set 12 ((q 11), .inl (cI, 110, .inl (upd (fun _ => 0) (0 : Int32).toNatClampNeg 0)))).set 13 ((q 12), .inl (cI, 110, .inl (upd (fun _ => 0) (0 : Int32).toNatClampNeg x2)))).set 14 ((q 13), .inl (cI, 110, .inl (upd (fun _ => 0) (0 : Int32).toNatClampNeg 0)))).set 15 ((q 14), .inl (cI, 110, .inl (upd (fun _ => 0) (0 : Int32).toNatClampNeg 0)))).set 16 ((q 15), .inl (cI, 110, .inl (upd (fun _ => 0) (0 : Int32).toNatClampNeg (-1))))).set 17 ((q 16), .inl (cI, 110, .inl (upd (fun _ => 0) (0 : Int32).toNatClampNeg (-1))))) ++ (((((((((xW o u cI cZ cJ).set 13 ((u 12), .inr (5, ([.int 0, .ref (u 13), .ref (u 14), .ref (u 15), .ref (u 16), .ref (u 17), .ref (u 18)].set 0 (.int 1))))).set 14 ((u 13), .inl (cI, 110, .inl (upd (fun _ => 0) (0 : Int32).toNatClampNeg 0)))).set 15 ((u 14), .inl (cI, 110, .inl (upd (fun _ => 0) (0 : Int32).toNatClampNeg x2)))).set 16 ((u 15), .inl (cI, 110, .inl (upd (fun _ => 0) (0 : Int32).toNatClampNeg 0)))).set 17 ((u 16), .inl (cI, 110, .inl (upd (fun _ => 0) (0 : Int32).toNatClampNeg 0)))).set 18 ((u 17), .inl (cI, 110, .inl (upd (fun _ => 0) (0 : Int32).toNatClampNeg (-1))))).set 19 ((u 18), .inl (cI, 110, .inl (upd (fun _ => 0) (0 : Int32).toNatClampNeg (-1))))) ++ [(ao, .inl (cJ, 1, .inr (.inl (vp_updL (fun _ => 0) (0 : Int32).toNatClampNeg 0))))])) H := hP
            have hD : va_D (fun q : Nat => s.heap.size ≤ q) (((((((((mW om 0 q cI cZ).set 0 (om, .inr (9, ((mF 0 q).set 13 (.int 1))))).set 12 ((q 11), .inl (cI, 110, .inl (upd (fun _ => 0) (0 : Int32).toNatClampNeg 0)))).set 13 ((q 12), .inl (cI, 110, .inl (upd (fun _ => 0) (0 : Int32).toNatClampNeg x2)))).set 14 ((q 13), .inl (cI, 110, .inl (upd (fun _ => 0) (0 : Int32).toNatClampNeg 0)))).set 15 ((q 14), .inl (cI, 110, .inl (upd (fun _ => 0) (0 : Int32).toNatClampNeg 0)))).set 16 ((q 15), .inl (cI, 110, .inl (upd (fun _ => 0) (0 : Int32).toNatClampNeg (-1))))).set 17 ((q 16), .inl (cI, 110, .inl (upd (fun _ => 0) (0 : Int32).toNatClampNeg (-1))))) ++ (((((((((xW o u cI cZ cJ).set 13 ((u 12), .inr (5, ([.int 0, .ref (u 13), .ref (u 14), .ref (u 15), .ref (u 16), .ref (u 17), .ref (u 18)].set 0 (.int 1))))).set 14 ((u 13), .inl (cI, 110, .inl (upd (fun _ => 0) (0 : Int32).toNatClampNeg 0)))).set 15 ((u 14), .inl (cI, 110, .inl (upd (fun _ => 0) (0 : Int32).toNatClampNeg x2)))).set 16 ((u 15), .inl (cI, 110, .inl (upd (fun _ => 0) (0 : Int32).toNatClampNeg 0)))).set 17 ((u 16), .inl (cI, 110, .inl (upd (fun _ => 0) (0 : Int32).toNatClampNeg 0)))).set 18 ((u 17), .inl (cI, 110, .inl (upd (fun _ => 0) (0 : Int32).toNatClampNeg (-1))))).set 19 ((u 18), .inl (cI, 110, .inl (upd (fun _ => 0) (0 : Int32).toNatClampNeg (-1))))) ++ [(ao, .inl (cJ, 1, .inr (.inl (vp_updL (fun _ => 0) (0 : Int32).toNatClampNeg 0))))])) := hD
            refine lv_istore (lv' := [(6, .int 0), (5, .int 0), (4, .int 0), (3, .ref ao), (2, .ref om), (1, .ref o), (0, .ref b)]) hx hb dL_law_583 hl (by decide) rfl (fun ls hl => ?_)
            refine lv_aload_n hx hb dL_law_585 rfl (lv_at hl 4 rfl) ?_
            refine rdV (As := []) (ci := 9) S (c_X9_thrown_9 l D cI cZ cJ om q x2 lo_x2 hi_x2) mi_X9_thrown kw_7_89 ⟨rfl, rfl⟩ ⟨Nat.le_of_ble_eq_true rfl, Nat.le_of_ble_eq_true rfl⟩ (va_Pl (ws := ((((((((mW om 0 q cI cZ).set 0 (om, .inr (9, ((mF 0 q).set 13 (.int 1))))).set 12 ((q 11), .inl (cI, 110, .inl (upd (fun _ => 0) (0 : Int32).toNatClampNeg 0)))).set 13 ((q 12), .inl (cI, 110, .inl (upd (fun _ => 0) (0 : Int32).toNatClampNeg x2)))).set 14 ((q 13), .inl (cI, 110, .inl (upd (fun _ => 0) (0 : Int32).toNatClampNeg 0)))).set 15 ((q 14), .inl (cI, 110, .inl (upd (fun _ => 0) (0 : Int32).toNatClampNeg 0)))).set 16 ((q 15), .inl (cI, 110, .inl (upd (fun _ => 0) (0 : Int32).toNatClampNeg (-1))))).set 17 ((q 16), .inl (cI, 110, .inl (upd (fun _ => 0) (0 : Int32).toNatClampNeg (-1)))))) (x := (((((((((xW o u cI cZ cJ).set 13 ((u 12), .inr (5, ([.int 0, .ref (u 13), .ref (u 14), .ref (u 15), .ref (u 16), .ref (u 17), .ref (u 18)].set 0 (.int 1))))).set 14 ((u 13), .inl (cI, 110, .inl (upd (fun _ => 0) (0 : Int32).toNatClampNeg 0)))).set 15 ((u 14), .inl (cI, 110, .inl (upd (fun _ => 0) (0 : Int32).toNatClampNeg x2)))).set 16 ((u 15), .inl (cI, 110, .inl (upd (fun _ => 0) (0 : Int32).toNatClampNeg 0)))).set 17 ((u 16), .inl (cI, 110, .inl (upd (fun _ => 0) (0 : Int32).toNatClampNeg 0)))).set 18 ((u 17), .inl (cI, 110, .inl (upd (fun _ => 0) (0 : Int32).toNatClampNeg (-1))))).set 19 ((u 18), .inl (cI, 110, .inl (upd (fun _ => 0) (0 : Int32).toNatClampNeg (-1))))) ++ [(ao, .inl (cJ, 1, .inr (.inl (vp_updL (fun _ => 0) (0 : Int32).toNatClampNeg 0))))])) hP) hK (k := 0) rfl rfl rfl hl.1 (Nat.le_of_ble_eq_true rfl) ⟨Nat.le_of_ble_eq_true rfl, Nat.le_of_ble_eq_true rfl⟩ dL_law_586 ?_
            refine lv_iload hx hb dL_law_589 (lv_at hl 1 rfl) ?_
            refine lv_icmp_eq (tgt := 596) hx hb dL_law_591 (by decide) (fun _ => ?_) (fun c => absurd c (by decide))
            refine lv_iload hx hb dL_law_596 (lv_at hl 1 rfl) ?_
            refine lv_if_ne (tgt := 613) hx hb dL_law_598 (by decide) (fun c => absurd c (by decide)) (fun _ => ?_)
            refine lv_aload_n hx hb dL_law_601 rfl (lv_at hl 3 rfl) ?_
            refine lv_iconst (v := 0) hx hb dL_law_602 (by decide) ?_
            refine xlald (t0 := 2) (v := 0) S hK hP (q0 := 119) rfl rfl (vin rfl) rfl dL_law_603 ?_
            refine lv_iload hx hb dL_law_604 (lv_at hl 0 rfl) ?_
            refine lv_i2l (v := 0) hx hb dL_law_606 (by decide) ?_
            refine xlcmp (v := 0) S dL_law_607 (by decide) ?_
            refine lv_if_eq (tgt := 613) hx hb dL_law_608 (by decide) (fun _ => ?_) (fun c => absurd c (by decide))
            refine lv_goto (tgt := 1519) hx hb dL_law_613 (by decide) ?_
            exact law_tail (cells := 120) (slots := 12958) S hr hlocks hX hbl (lv_sub hl [2, 6] rfl) hS (Nat.le_of_ble_eq_true rfl) (Nat.le_of_ble_eq_true rfl)
          · have ne_x4_0 : ¬ x4 = 0 := d_550
            refine wrap (mW om 0 q cI cZ) (mid := ((xW o u cI cZ cJ) ++ [(ao, .inl (cJ, 1, .inr (.inl (fun _ => 0))))])) (As := [.ref o, .int 0, .int x2, .int 0, .int x4, .ref ao]) S (h_node_3 l D cI cZ cJ o u ao hst ra ga H.size x2 x4 lo_x2 hi_x2 ne_x4_0) msh_L_node kw_6_20 rfl rfl ⟨Nat.le_of_ble_eq_true rfl, Nat.le_of_ble_eq_true rfl⟩ hP hD hK hS hA hB hC hl.1 (Nat.le_of_ble_eq_true rfl) ⟨Nat.le_of_ble_eq_true rfl, Nat.le_of_ble_eq_true rfl⟩ dL_law_550 (fun H locs hz hP hD hS => ?_)
            have hP : va_P D vwCl ((mW om 0 q cI cZ) ++ ((xW o u cI cZ cJ) ++ [(ao, .inl (cJ, 1, .inr (.inl (fun _ => 0))))])) H := hP
            have hD : va_D (fun q : Nat => s.heap.size ≤ q) ((mW om 0 q cI cZ) ++ ((xW o u cI cZ cJ) ++ [(ao, .inl (cJ, 1, .inr (.inl (fun _ => 0))))])) := hD
            refine lv_istore (lv' := [(5, .int 1), (4, .int 0), (3, .ref ao), (2, .ref om), (1, .ref o), (0, .ref b)]) hx hb dL_law_553 hl (by decide) rfl (fun ls hl => ?_)
            refine lv_aload_n hx hb dL_law_555 rfl (lv_at hl 3 rfl) ?_
            refine lv_aload_n hx hb dL_law_556 rfl (lv_at hl 5 rfl) ?_
            refine lv_iload hx hb dL_law_557 (lv_at hl 1 rfl) ?_
            refine lv_iconst (v := 1) hx hb dL_law_559 (by decide) ?_
            refine xiadd (v := 1) S dL_law_560 (by decide) ?_
            refine xsld (v := 0) S hX hbl hbA hS (vin rfl) h1 dL_law_561 ?_
            refine lv_aload_n hx hb dL_law_562 rfl (lv_at hl 5 rfl) ?_
            refine lv_iload hx hb dL_law_563 (lv_at hl 1 rfl) ?_
            refine lv_iconst (v := 2) hx hb dL_law_565 (by decide) ?_
            refine xiadd (v := 2) S dL_law_566 (by decide) ?_
            refine xsld (v := x2) S hX hbl hbA hS (vin rfl) h2 dL_law_567 ?_
            refine lv_aload_n hx hb dL_law_568 rfl (lv_at hl 5 rfl) ?_
            refine lv_iload hx hb dL_law_569 (lv_at hl 1 rfl) ?_
            refine lv_iconst (v := 3) hx hb dL_law_571 (by decide) ?_
            refine xiadd (v := 3) S dL_law_572 (by decide) ?_
            refine xsld (v := 0) S hX hbl hbA hS (vin rfl) h3 dL_law_573 ?_
            refine lv_aload_n hx hb dL_law_574 rfl (lv_at hl 5 rfl) ?_
            refine lv_iload hx hb dL_law_575 (lv_at hl 1 rfl) ?_
            refine lv_iconst (v := 4) hx hb dL_law_577 (by decide) ?_
            refine xiadd (v := 4) S dL_law_578 (by decide) ?_
            refine xsld (v := x4) S hX hbl hbA hS (vin rfl) h4 dL_law_579 ?_
            refine fVi [] ((xW o u cI cZ cJ) ++ [(ao, .inl (cJ, 1, .inr (.inl (fun _ => 0))))]) (mid := (mW om 0 q cI cZ)) (As := [.int 0, .int x2, .int 0, .int x4]) (ci := 9) S (c_X9_node_3 l D cI cZ cJ om q H.size x2 x4 lo_x2 hi_x2 ne_x4_0) mi_X9_node kw_7_151 rfl rfl ⟨Nat.le_of_ble_eq_true rfl, Nat.le_of_ble_eq_true rfl⟩ hP hD hK hS hA mW_0 rfl rfl hl.1 (Nat.le_of_ble_eq_true rfl) ⟨Nat.le_of_ble_eq_true rfl, Nat.le_of_ble_eq_true rfl⟩ dL_law_580 (fun H locs hz hP hD hS => ?_)
            have hP : va_P D vwCl ((mW om 1 q cI cZ) ++ ((xW o u cI cZ cJ) ++ [(ao, .inl (cJ, 1, .inr (.inl (fun _ => 0))))])) H := hP
            have hD : va_D (fun q : Nat => s.heap.size ≤ q) ((mW om 1 q cI cZ) ++ ((xW o u cI cZ cJ) ++ [(ao, .inl (cJ, 1, .inr (.inl (fun _ => 0))))])) := hD
            refine lv_istore (lv' := [(6, .int 0), (5, .int 1), (4, .int 0), (3, .ref ao), (2, .ref om), (1, .ref o), (0, .ref b)]) hx hb dL_law_583 hl (by decide) rfl (fun ls hl => ?_)
            refine lv_aload_n hx hb dL_law_585 rfl (lv_at hl 4 rfl) ?_
            refine rdV (As := []) (ci := 9) S (c_X9_thrown_0 l D cI cZ cJ om q) mi_X9_thrown kw_7_89 ⟨rfl, rfl⟩ ⟨Nat.le_of_ble_eq_true rfl, Nat.le_of_ble_eq_true rfl⟩ (va_Pl (ws := (mW om 1 q cI cZ)) (x := ((xW o u cI cZ cJ) ++ [(ao, .inl (cJ, 1, .inr (.inl (fun _ => 0))))])) hP) hK mW_0 rfl rfl hl.1 (Nat.le_of_ble_eq_true rfl) ⟨Nat.le_of_ble_eq_true rfl, Nat.le_of_ble_eq_true rfl⟩ dL_law_586 ?_
            refine lv_iload hx hb dL_law_589 (lv_at hl 1 rfl) ?_
            refine lv_icmp_eq (tgt := 596) hx hb dL_law_591 (by decide) (fun _ => ?_) (fun c => absurd c (by decide))
            refine lv_iload hx hb dL_law_596 (lv_at hl 1 rfl) ?_
            refine lv_if_ne (tgt := 613) hx hb dL_law_598 (by decide) (fun _ => ?_) (fun c => absurd c (by decide))
            refine lv_goto (tgt := 1519) hx hb dL_law_613 (by decide) ?_
            exact law_tail (cells := 121) (slots := 12964) S hr hlocks hX hbl (lv_sub hl [2, 6] rfl) hS (Nat.le_of_ble_eq_true rfl) (Nat.le_of_ble_eq_true rfl)
        · have ne_x3_0 : ¬ x3 = 0 := d_550
          refine wrap (mW om 0 q cI cZ) (mid := ((xW o u cI cZ cJ) ++ [(ao, .inl (cJ, 1, .inr (.inl (fun _ => 0))))])) (As := [.ref o, .int 0, .int x2, .int x3, .int x4, .ref ao]) S (h_node_4 l D cI cZ cJ o u ao hst ra ga H.size x2 x3 x4 lo_x2 hi_x2 ne_x3_0) msh_L_node kw_6_20 rfl rfl ⟨Nat.le_of_ble_eq_true rfl, Nat.le_of_ble_eq_true rfl⟩ hP hD hK hS hA hB hC hl.1 (Nat.le_of_ble_eq_true rfl) ⟨Nat.le_of_ble_eq_true rfl, Nat.le_of_ble_eq_true rfl⟩ dL_law_550 (fun H locs hz hP hD hS => ?_)
          have hP : va_P D vwCl ((mW om 0 q cI cZ) ++ ((xW o u cI cZ cJ) ++ [(ao, .inl (cJ, 1, .inr (.inl (fun _ => 0))))])) H := hP
          have hD : va_D (fun q : Nat => s.heap.size ≤ q) ((mW om 0 q cI cZ) ++ ((xW o u cI cZ cJ) ++ [(ao, .inl (cJ, 1, .inr (.inl (fun _ => 0))))])) := hD
          refine lv_istore (lv' := [(5, .int 1), (4, .int 0), (3, .ref ao), (2, .ref om), (1, .ref o), (0, .ref b)]) hx hb dL_law_553 hl (by decide) rfl (fun ls hl => ?_)
          refine lv_aload_n hx hb dL_law_555 rfl (lv_at hl 3 rfl) ?_
          refine lv_aload_n hx hb dL_law_556 rfl (lv_at hl 5 rfl) ?_
          refine lv_iload hx hb dL_law_557 (lv_at hl 1 rfl) ?_
          refine lv_iconst (v := 1) hx hb dL_law_559 (by decide) ?_
          refine xiadd (v := 1) S dL_law_560 (by decide) ?_
          refine xsld (v := 0) S hX hbl hbA hS (vin rfl) h1 dL_law_561 ?_
          refine lv_aload_n hx hb dL_law_562 rfl (lv_at hl 5 rfl) ?_
          refine lv_iload hx hb dL_law_563 (lv_at hl 1 rfl) ?_
          refine lv_iconst (v := 2) hx hb dL_law_565 (by decide) ?_
          refine xiadd (v := 2) S dL_law_566 (by decide) ?_
          refine xsld (v := x2) S hX hbl hbA hS (vin rfl) h2 dL_law_567 ?_
          refine lv_aload_n hx hb dL_law_568 rfl (lv_at hl 5 rfl) ?_
          refine lv_iload hx hb dL_law_569 (lv_at hl 1 rfl) ?_
          refine lv_iconst (v := 3) hx hb dL_law_571 (by decide) ?_
          refine xiadd (v := 3) S dL_law_572 (by decide) ?_
          refine xsld (v := x3) S hX hbl hbA hS (vin rfl) h3 dL_law_573 ?_
          refine lv_aload_n hx hb dL_law_574 rfl (lv_at hl 5 rfl) ?_
          refine lv_iload hx hb dL_law_575 (lv_at hl 1 rfl) ?_
          refine lv_iconst (v := 4) hx hb dL_law_577 (by decide) ?_
          refine xiadd (v := 4) S dL_law_578 (by decide) ?_
          refine xsld (v := x4) S hX hbl hbA hS (vin rfl) h4 dL_law_579 ?_
          refine fVi [] ((xW o u cI cZ cJ) ++ [(ao, .inl (cJ, 1, .inr (.inl (fun _ => 0))))]) (mid := (mW om 0 q cI cZ)) (As := [.int 0, .int x2, .int x3, .int x4]) (ci := 9) S (c_X9_node_4 l D cI cZ cJ om q H.size x2 x3 x4 lo_x2 hi_x2 ne_x3_0) mi_X9_node kw_7_151 rfl rfl ⟨Nat.le_of_ble_eq_true rfl, Nat.le_of_ble_eq_true rfl⟩ hP hD hK hS hA mW_0 rfl rfl hl.1 (Nat.le_of_ble_eq_true rfl) ⟨Nat.le_of_ble_eq_true rfl, Nat.le_of_ble_eq_true rfl⟩ dL_law_580 (fun H locs hz hP hD hS => ?_)
          have hP : va_P D vwCl ((mW om 1 q cI cZ) ++ ((xW o u cI cZ cJ) ++ [(ao, .inl (cJ, 1, .inr (.inl (fun _ => 0))))])) H := hP
          have hD : va_D (fun q : Nat => s.heap.size ≤ q) ((mW om 1 q cI cZ) ++ ((xW o u cI cZ cJ) ++ [(ao, .inl (cJ, 1, .inr (.inl (fun _ => 0))))])) := hD
          refine lv_istore (lv' := [(6, .int 0), (5, .int 1), (4, .int 0), (3, .ref ao), (2, .ref om), (1, .ref o), (0, .ref b)]) hx hb dL_law_583 hl (by decide) rfl (fun ls hl => ?_)
          refine lv_aload_n hx hb dL_law_585 rfl (lv_at hl 4 rfl) ?_
          refine rdV (As := []) (ci := 9) S (c_X9_thrown_0 l D cI cZ cJ om q) mi_X9_thrown kw_7_89 ⟨rfl, rfl⟩ ⟨Nat.le_of_ble_eq_true rfl, Nat.le_of_ble_eq_true rfl⟩ (va_Pl (ws := (mW om 1 q cI cZ)) (x := ((xW o u cI cZ cJ) ++ [(ao, .inl (cJ, 1, .inr (.inl (fun _ => 0))))])) hP) hK mW_0 rfl rfl hl.1 (Nat.le_of_ble_eq_true rfl) ⟨Nat.le_of_ble_eq_true rfl, Nat.le_of_ble_eq_true rfl⟩ dL_law_586 ?_
          refine lv_iload hx hb dL_law_589 (lv_at hl 1 rfl) ?_
          refine lv_icmp_eq (tgt := 596) hx hb dL_law_591 (by decide) (fun _ => ?_) (fun c => absurd c (by decide))
          refine lv_iload hx hb dL_law_596 (lv_at hl 1 rfl) ?_
          refine lv_if_ne (tgt := 613) hx hb dL_law_598 (by decide) (fun _ => ?_) (fun c => absurd c (by decide))
          refine lv_goto (tgt := 1519) hx hb dL_law_613 (by decide) ?_
          exact law_tail (cells := 121) (slots := 12964) S hr hlocks hX hbl (lv_sub hl [2, 6] rfl) hS (Nat.le_of_ble_eq_true rfl) (Nat.le_of_ble_eq_true rfl)
  · have ne_x1_0 : ¬ x1 = 0 := d_550
    by_cases d_550 : x1 = 1
    · have e_x1 : x1 = 1 := d_550
      subst e_x1
      by_cases d_550 : x2 < 0
      · have hi_x2 : x2 ≤ (-1) := u_lt d_550 (by decide)
        refine wrap (mW om 0 q cI cZ) (mid := ((xW o u cI cZ cJ) ++ [(ao, .inl (cJ, 1, .inr (.inl (fun _ => 0))))])) (As := [.ref o, .int 1, .int x2, .int x3, .int x4, .ref ao]) S (h_node_5 l D cI cZ cJ o u ao hst ra ga H.size x2 x3 x4 hi_x2) msh_L_node kw_6_20 rfl rfl ⟨Nat.le_of_ble_eq_true rfl, Nat.le_of_ble_eq_true rfl⟩ hP hD hK hS hA hB hC hl.1 (Nat.le_of_ble_eq_true rfl) ⟨Nat.le_of_ble_eq_true rfl, Nat.le_of_ble_eq_true rfl⟩ dL_law_550 (fun H locs hz hP hD hS => ?_)
        have hP : va_P D vwCl ((mW om 0 q cI cZ) ++ ((xW o u cI cZ cJ) ++ [(ao, .inl (cJ, 1, .inr (.inl (fun _ => 0))))])) H := hP
        have hD : va_D (fun q : Nat => s.heap.size ≤ q) ((mW om 0 q cI cZ) ++ ((xW o u cI cZ cJ) ++ [(ao, .inl (cJ, 1, .inr (.inl (fun _ => 0))))])) := hD
        refine lv_istore (lv' := [(5, .int 1), (4, .int 0), (3, .ref ao), (2, .ref om), (1, .ref o), (0, .ref b)]) hx hb dL_law_553 hl (by decide) rfl (fun ls hl => ?_)
        refine lv_aload_n hx hb dL_law_555 rfl (lv_at hl 3 rfl) ?_
        refine lv_aload_n hx hb dL_law_556 rfl (lv_at hl 5 rfl) ?_
        refine lv_iload hx hb dL_law_557 (lv_at hl 1 rfl) ?_
        refine lv_iconst (v := 1) hx hb dL_law_559 (by decide) ?_
        refine xiadd (v := 1) S dL_law_560 (by decide) ?_
        refine xsld (v := 1) S hX hbl hbA hS (vin rfl) h1 dL_law_561 ?_
        refine lv_aload_n hx hb dL_law_562 rfl (lv_at hl 5 rfl) ?_
        refine lv_iload hx hb dL_law_563 (lv_at hl 1 rfl) ?_
        refine lv_iconst (v := 2) hx hb dL_law_565 (by decide) ?_
        refine xiadd (v := 2) S dL_law_566 (by decide) ?_
        refine xsld (v := x2) S hX hbl hbA hS (vin rfl) h2 dL_law_567 ?_
        refine lv_aload_n hx hb dL_law_568 rfl (lv_at hl 5 rfl) ?_
        refine lv_iload hx hb dL_law_569 (lv_at hl 1 rfl) ?_
        refine lv_iconst (v := 3) hx hb dL_law_571 (by decide) ?_
        refine xiadd (v := 3) S dL_law_572 (by decide) ?_
        refine xsld (v := x3) S hX hbl hbA hS (vin rfl) h3 dL_law_573 ?_
        refine lv_aload_n hx hb dL_law_574 rfl (lv_at hl 5 rfl) ?_
        refine lv_iload hx hb dL_law_575 (lv_at hl 1 rfl) ?_
        refine lv_iconst (v := 4) hx hb dL_law_577 (by decide) ?_
        refine xiadd (v := 4) S dL_law_578 (by decide) ?_
        refine xsld (v := x4) S hX hbl hbA hS (vin rfl) h4 dL_law_579 ?_
        refine fVi [] ((xW o u cI cZ cJ) ++ [(ao, .inl (cJ, 1, .inr (.inl (fun _ => 0))))]) (mid := (mW om 0 q cI cZ)) (As := [.int 1, .int x2, .int x3, .int x4]) (ci := 9) S (c_X9_node_5 l D cI cZ cJ om q H.size x2 x3 x4 hi_x2) mi_X9_node kw_7_151 rfl rfl ⟨Nat.le_of_ble_eq_true rfl, Nat.le_of_ble_eq_true rfl⟩ hP hD hK hS hA mW_0 rfl rfl hl.1 (Nat.le_of_ble_eq_true rfl) ⟨Nat.le_of_ble_eq_true rfl, Nat.le_of_ble_eq_true rfl⟩ dL_law_580 (fun H locs hz hP hD hS => ?_)
        have hP : va_P D vwCl ((mW om 1 q cI cZ) ++ ((xW o u cI cZ cJ) ++ [(ao, .inl (cJ, 1, .inr (.inl (fun _ => 0))))])) H := hP
        have hD : va_D (fun q : Nat => s.heap.size ≤ q) ((mW om 1 q cI cZ) ++ ((xW o u cI cZ cJ) ++ [(ao, .inl (cJ, 1, .inr (.inl (fun _ => 0))))])) := hD
        refine lv_istore (lv' := [(6, .int 0), (5, .int 1), (4, .int 0), (3, .ref ao), (2, .ref om), (1, .ref o), (0, .ref b)]) hx hb dL_law_583 hl (by decide) rfl (fun ls hl => ?_)
        refine lv_aload_n hx hb dL_law_585 rfl (lv_at hl 4 rfl) ?_
        refine rdV (As := []) (ci := 9) S (c_X9_thrown_0 l D cI cZ cJ om q) mi_X9_thrown kw_7_89 ⟨rfl, rfl⟩ ⟨Nat.le_of_ble_eq_true rfl, Nat.le_of_ble_eq_true rfl⟩ (va_Pl (ws := (mW om 1 q cI cZ)) (x := ((xW o u cI cZ cJ) ++ [(ao, .inl (cJ, 1, .inr (.inl (fun _ => 0))))])) hP) hK mW_0 rfl rfl hl.1 (Nat.le_of_ble_eq_true rfl) ⟨Nat.le_of_ble_eq_true rfl, Nat.le_of_ble_eq_true rfl⟩ dL_law_586 ?_
        refine lv_iload hx hb dL_law_589 (lv_at hl 1 rfl) ?_
        refine lv_icmp_eq (tgt := 596) hx hb dL_law_591 (by decide) (fun _ => ?_) (fun c => absurd c (by decide))
        refine lv_iload hx hb dL_law_596 (lv_at hl 1 rfl) ?_
        refine lv_if_ne (tgt := 613) hx hb dL_law_598 (by decide) (fun _ => ?_) (fun c => absurd c (by decide))
        refine lv_goto (tgt := 1519) hx hb dL_law_613 (by decide) ?_
        exact law_tail (cells := 121) (slots := 12964) S hr hlocks hX hbl (lv_sub hl [2, 6] rfl) hS (Nat.le_of_ble_eq_true rfl) (Nat.le_of_ble_eq_true rfl)
      · have lo_x2 : 0 ≤ x2 := l_nlt d_550
        by_cases d_550 : 16 ≤ x2
        · have lo_x2 : 16 ≤ x2 := d_550
          refine wrap (mW om 0 q cI cZ) (mid := ((xW o u cI cZ cJ) ++ [(ao, .inl (cJ, 1, .inr (.inl (fun _ => 0))))])) (As := [.ref o, .int 1, .int x2, .int x3, .int x4, .ref ao]) S (h_node_6 l D cI cZ cJ o u ao hst ra ga H.size x2 x3 x4 lo_x2) msh_L_node kw_6_20 rfl rfl ⟨Nat.le_of_ble_eq_true rfl, Nat.le_of_ble_eq_true rfl⟩ hP hD hK hS hA hB hC hl.1 (Nat.le_of_ble_eq_true rfl) ⟨Nat.le_of_ble_eq_true rfl, Nat.le_of_ble_eq_true rfl⟩ dL_law_550 (fun H locs hz hP hD hS => ?_)
          have hP : va_P D vwCl ((mW om 0 q cI cZ) ++ ((xW o u cI cZ cJ) ++ [(ao, .inl (cJ, 1, .inr (.inl (fun _ => 0))))])) H := hP
          have hD : va_D (fun q : Nat => s.heap.size ≤ q) ((mW om 0 q cI cZ) ++ ((xW o u cI cZ cJ) ++ [(ao, .inl (cJ, 1, .inr (.inl (fun _ => 0))))])) := hD
          refine lv_istore (lv' := [(5, .int 1), (4, .int 0), (3, .ref ao), (2, .ref om), (1, .ref o), (0, .ref b)]) hx hb dL_law_553 hl (by decide) rfl (fun ls hl => ?_)
          refine lv_aload_n hx hb dL_law_555 rfl (lv_at hl 3 rfl) ?_
          refine lv_aload_n hx hb dL_law_556 rfl (lv_at hl 5 rfl) ?_
          refine lv_iload hx hb dL_law_557 (lv_at hl 1 rfl) ?_
          refine lv_iconst (v := 1) hx hb dL_law_559 (by decide) ?_
          refine xiadd (v := 1) S dL_law_560 (by decide) ?_
          refine xsld (v := 1) S hX hbl hbA hS (vin rfl) h1 dL_law_561 ?_
          refine lv_aload_n hx hb dL_law_562 rfl (lv_at hl 5 rfl) ?_
          refine lv_iload hx hb dL_law_563 (lv_at hl 1 rfl) ?_
          refine lv_iconst (v := 2) hx hb dL_law_565 (by decide) ?_
          refine xiadd (v := 2) S dL_law_566 (by decide) ?_
          refine xsld (v := x2) S hX hbl hbA hS (vin rfl) h2 dL_law_567 ?_
          refine lv_aload_n hx hb dL_law_568 rfl (lv_at hl 5 rfl) ?_
          refine lv_iload hx hb dL_law_569 (lv_at hl 1 rfl) ?_
          refine lv_iconst (v := 3) hx hb dL_law_571 (by decide) ?_
          refine xiadd (v := 3) S dL_law_572 (by decide) ?_
          refine xsld (v := x3) S hX hbl hbA hS (vin rfl) h3 dL_law_573 ?_
          refine lv_aload_n hx hb dL_law_574 rfl (lv_at hl 5 rfl) ?_
          refine lv_iload hx hb dL_law_575 (lv_at hl 1 rfl) ?_
          refine lv_iconst (v := 4) hx hb dL_law_577 (by decide) ?_
          refine xiadd (v := 4) S dL_law_578 (by decide) ?_
          refine xsld (v := x4) S hX hbl hbA hS (vin rfl) h4 dL_law_579 ?_
          refine fVi [] ((xW o u cI cZ cJ) ++ [(ao, .inl (cJ, 1, .inr (.inl (fun _ => 0))))]) (mid := (mW om 0 q cI cZ)) (As := [.int 1, .int x2, .int x3, .int x4]) (ci := 9) S (c_X9_node_6 l D cI cZ cJ om q H.size x2 x3 x4 lo_x2) mi_X9_node kw_7_151 rfl rfl ⟨Nat.le_of_ble_eq_true rfl, Nat.le_of_ble_eq_true rfl⟩ hP hD hK hS hA mW_0 rfl rfl hl.1 (Nat.le_of_ble_eq_true rfl) ⟨Nat.le_of_ble_eq_true rfl, Nat.le_of_ble_eq_true rfl⟩ dL_law_580 (fun H locs hz hP hD hS => ?_)
          have hP : va_P D vwCl ((mW om 1 q cI cZ) ++ ((xW o u cI cZ cJ) ++ [(ao, .inl (cJ, 1, .inr (.inl (fun _ => 0))))])) H := hP
          have hD : va_D (fun q : Nat => s.heap.size ≤ q) ((mW om 1 q cI cZ) ++ ((xW o u cI cZ cJ) ++ [(ao, .inl (cJ, 1, .inr (.inl (fun _ => 0))))])) := hD
          refine lv_istore (lv' := [(6, .int 0), (5, .int 1), (4, .int 0), (3, .ref ao), (2, .ref om), (1, .ref o), (0, .ref b)]) hx hb dL_law_583 hl (by decide) rfl (fun ls hl => ?_)
          refine lv_aload_n hx hb dL_law_585 rfl (lv_at hl 4 rfl) ?_
          refine rdV (As := []) (ci := 9) S (c_X9_thrown_0 l D cI cZ cJ om q) mi_X9_thrown kw_7_89 ⟨rfl, rfl⟩ ⟨Nat.le_of_ble_eq_true rfl, Nat.le_of_ble_eq_true rfl⟩ (va_Pl (ws := (mW om 1 q cI cZ)) (x := ((xW o u cI cZ cJ) ++ [(ao, .inl (cJ, 1, .inr (.inl (fun _ => 0))))])) hP) hK mW_0 rfl rfl hl.1 (Nat.le_of_ble_eq_true rfl) ⟨Nat.le_of_ble_eq_true rfl, Nat.le_of_ble_eq_true rfl⟩ dL_law_586 ?_
          refine lv_iload hx hb dL_law_589 (lv_at hl 1 rfl) ?_
          refine lv_icmp_eq (tgt := 596) hx hb dL_law_591 (by decide) (fun _ => ?_) (fun c => absurd c (by decide))
          refine lv_iload hx hb dL_law_596 (lv_at hl 1 rfl) ?_
          refine lv_if_ne (tgt := 613) hx hb dL_law_598 (by decide) (fun _ => ?_) (fun c => absurd c (by decide))
          refine lv_goto (tgt := 1519) hx hb dL_law_613 (by decide) ?_
          exact law_tail (cells := 121) (slots := 12964) S hr hlocks hX hbl (lv_sub hl [2, 6] rfl) hS (Nat.le_of_ble_eq_true rfl) (Nat.le_of_ble_eq_true rfl)
        · have hi_x2 : x2 ≤ 15 := u_nge d_550 (by decide)
          by_cases d_550 : x3 = 0
          · have e_x3 : x3 = 0 := d_550
            subst e_x3
            by_cases d_550 : x4 = 0
            · have e_x4 : x4 = 0 := d_550
              subst e_x4
              refine wrap (mW om 0 q cI cZ) (mid := ((xW o u cI cZ cJ) ++ [(ao, .inl (cJ, 1, .inr (.inl (fun _ => 0))))])) (As := [.ref o, .int 1, .int x2, .int 0, .int 0, .ref ao]) S (h_node_7 l D cI cZ cJ o u ao hst ra ga H.size x2 lo_x2 hi_x2) msh_L_node kw_6_20 rfl rfl ⟨Nat.le_of_ble_eq_true rfl, Nat.le_of_ble_eq_true rfl⟩ hP hD hK hS hA hB hC hl.1 (Nat.le_of_ble_eq_true rfl) ⟨Nat.le_of_ble_eq_true rfl, Nat.le_of_ble_eq_true rfl⟩ dL_law_550 (fun H locs hz hP hD hS => ?_)
              have hP : va_P D vwCl ((mW om 0 q cI cZ) ++ (((((((((xW o u cI cZ cJ).set 13 ((u 12), .inr (5, ([.int 0, .ref (u 13), .ref (u 14), .ref (u 15), .ref (u 16), .ref (u 17), .ref (u 18)].set 0 (.int 1))))).set 14 ((u 13), .inl (cI, 110, .inl (upd (fun _ => 0) (0 : Int32).toNatClampNeg 1)))).set 15 ((u 14), .inl (cI, 110, .inl (upd (fun _ => 0) (0 : Int32).toNatClampNeg x2)))).set 16 ((u 15), .inl (cI, 110, .inl (upd (fun _ => 0) (0 : Int32).toNatClampNeg 0)))).set 17 ((u 16), .inl (cI, 110, .inl (upd (fun _ => 0) (0 : Int32).toNatClampNeg 0)))).set 18 ((u 17), .inl (cI, 110, .inl (upd (fun _ => 0) (0 : Int32).toNatClampNeg (-1))))).set 19 ((u 18), .inl (cI, 110, .inl (upd (fun _ => 0) (0 : Int32).toNatClampNeg (-1))))) ++ [(ao, .inl (cJ, 1, .inr (.inl (vp_updL (fun _ => 0) (0 : Int32).toNatClampNeg 0))))])) H := hP
              have hD : va_D (fun q : Nat => s.heap.size ≤ q) ((mW om 0 q cI cZ) ++ (((((((((xW o u cI cZ cJ).set 13 ((u 12), .inr (5, ([.int 0, .ref (u 13), .ref (u 14), .ref (u 15), .ref (u 16), .ref (u 17), .ref (u 18)].set 0 (.int 1))))).set 14 ((u 13), .inl (cI, 110, .inl (upd (fun _ => 0) (0 : Int32).toNatClampNeg 1)))).set 15 ((u 14), .inl (cI, 110, .inl (upd (fun _ => 0) (0 : Int32).toNatClampNeg x2)))).set 16 ((u 15), .inl (cI, 110, .inl (upd (fun _ => 0) (0 : Int32).toNatClampNeg 0)))).set 17 ((u 16), .inl (cI, 110, .inl (upd (fun _ => 0) (0 : Int32).toNatClampNeg 0)))).set 18 ((u 17), .inl (cI, 110, .inl (upd (fun _ => 0) (0 : Int32).toNatClampNeg (-1))))).set 19 ((u 18), .inl (cI, 110, .inl (upd (fun _ => 0) (0 : Int32).toNatClampNeg (-1))))) ++ [(ao, .inl (cJ, 1, .inr (.inl (vp_updL (fun _ => 0) (0 : Int32).toNatClampNeg 0))))])) := hD
              refine lv_istore (lv' := [(5, .int 0), (4, .int 0), (3, .ref ao), (2, .ref om), (1, .ref o), (0, .ref b)]) hx hb dL_law_553 hl (by decide) rfl (fun ls hl => ?_)
              refine lv_aload_n hx hb dL_law_555 rfl (lv_at hl 3 rfl) ?_
              refine lv_aload_n hx hb dL_law_556 rfl (lv_at hl 5 rfl) ?_
              refine lv_iload hx hb dL_law_557 (lv_at hl 1 rfl) ?_
              refine lv_iconst (v := 1) hx hb dL_law_559 (by decide) ?_
              refine xiadd (v := 1) S dL_law_560 (by decide) ?_
              refine xsld (v := 1) S hX hbl hbA hS (vin rfl) h1 dL_law_561 ?_
              refine lv_aload_n hx hb dL_law_562 rfl (lv_at hl 5 rfl) ?_
              refine lv_iload hx hb dL_law_563 (lv_at hl 1 rfl) ?_
              refine lv_iconst (v := 2) hx hb dL_law_565 (by decide) ?_
              refine xiadd (v := 2) S dL_law_566 (by decide) ?_
              refine xsld (v := x2) S hX hbl hbA hS (vin rfl) h2 dL_law_567 ?_
              refine lv_aload_n hx hb dL_law_568 rfl (lv_at hl 5 rfl) ?_
              refine lv_iload hx hb dL_law_569 (lv_at hl 1 rfl) ?_
              refine lv_iconst (v := 3) hx hb dL_law_571 (by decide) ?_
              refine xiadd (v := 3) S dL_law_572 (by decide) ?_
              refine xsld (v := 0) S hX hbl hbA hS (vin rfl) h3 dL_law_573 ?_
              refine lv_aload_n hx hb dL_law_574 rfl (lv_at hl 5 rfl) ?_
              refine lv_iload hx hb dL_law_575 (lv_at hl 1 rfl) ?_
              refine lv_iconst (v := 4) hx hb dL_law_577 (by decide) ?_
              refine xiadd (v := 4) S dL_law_578 (by decide) ?_
              refine xsld (v := 0) S hX hbl hbA hS (vin rfl) h4 dL_law_579 ?_
              refine fVi [] (((((((((xW o u cI cZ cJ).set 13 ((u 12), .inr (5, ([.int 0, .ref (u 13), .ref (u 14), .ref (u 15), .ref (u 16), .ref (u 17), .ref (u 18)].set 0 (.int 1))))).set 14 ((u 13), .inl (cI, 110, .inl (upd (fun _ => 0) (0 : Int32).toNatClampNeg 1)))).set 15 ((u 14), .inl (cI, 110, .inl (upd (fun _ => 0) (0 : Int32).toNatClampNeg x2)))).set 16 ((u 15), .inl (cI, 110, .inl (upd (fun _ => 0) (0 : Int32).toNatClampNeg 0)))).set 17 ((u 16), .inl (cI, 110, .inl (upd (fun _ => 0) (0 : Int32).toNatClampNeg 0)))).set 18 ((u 17), .inl (cI, 110, .inl (upd (fun _ => 0) (0 : Int32).toNatClampNeg (-1))))).set 19 ((u 18), .inl (cI, 110, .inl (upd (fun _ => 0) (0 : Int32).toNatClampNeg (-1))))) ++ [(ao, .inl (cJ, 1, .inr (.inl (vp_updL (fun _ => 0) (0 : Int32).toNatClampNeg 0))))]) (mid := (mW om 0 q cI cZ)) (As := [.int 1, .int x2, .int 0, .int 0]) (ci := 9) S (c_X9_node_7 l D cI cZ cJ om q H.size x2 lo_x2 hi_x2) mi_X9_node kw_7_151 rfl rfl ⟨Nat.le_of_ble_eq_true rfl, Nat.le_of_ble_eq_true rfl⟩ hP hD hK hS hA mW_0 rfl rfl hl.1 (Nat.le_of_ble_eq_true rfl) ⟨Nat.le_of_ble_eq_true rfl, Nat.le_of_ble_eq_true rfl⟩ dL_law_580 (fun H locs hz hP hD hS => ?_)
              have hP : va_P D vwCl (((((((((mW om 0 q cI cZ).set 0 (om, .inr (9, ((mF 0 q).set 13 (.int 1))))).set 12 ((q 11), .inl (cI, 110, .inl (upd (fun _ => 0) (0 : Int32).toNatClampNeg 1)))).set 13 ((q 12), .inl (cI, 110, .inl (upd (fun _ => 0) (0 : Int32).toNatClampNeg x2)))).set 14 ((q 13), .inl (cI, 110, .inl (upd (fun _ => 0) (0 : Int32).toNatClampNeg 0)))).set 15 ((q 14), .inl (cI, 110, .inl (upd (fun _ => 0) (0 : Int32).toNatClampNeg 0)))).set 16 ((q 15), .inl (cI, 110, .inl (upd (fun _ => 0) (0 : Int32).toNatClampNeg (-1))))).set 17 ((q 16), .inl (cI, 110, .inl (upd (fun _ => 0) (0 : Int32).toNatClampNeg (-1))))) ++ (((((((((xW o u cI cZ cJ).set 13 ((u 12), .inr (5, ([.int 0, .ref (u 13), .ref (u 14), .ref (u 15), .ref (u 16), .ref (u 17), .ref (u 18)].set 0 (.int 1))))).set 14 ((u 13), .inl (cI, 110, .inl (upd (fun _ => 0) (0 : Int32).toNatClampNeg 1)))).set 15 ((u 14), .inl (cI, 110, .inl (upd (fun _ => 0) (0 : Int32).toNatClampNeg x2)))).set 16 ((u 15), .inl (cI, 110, .inl (upd (fun _ => 0) (0 : Int32).toNatClampNeg 0)))).set 17 ((u 16), .inl (cI, 110, .inl (upd (fun _ => 0) (0 : Int32).toNatClampNeg 0)))).set 18 ((u 17), .inl (cI, 110, .inl (upd (fun _ => 0) (0 : Int32).toNatClampNeg (-1))))).set 19 ((u 18), .inl (cI, 110, .inl (upd (fun _ => 0) (0 : Int32).toNatClampNeg (-1))))) ++ [(ao, .inl (cJ, 1, .inr (.inl (vp_updL (fun _ => 0) (0 : Int32).toNatClampNeg 0))))])) H := hP
              have hD : va_D (fun q : Nat => s.heap.size ≤ q) (((((((((mW om 0 q cI cZ).set 0 (om, .inr (9, ((mF 0 q).set 13 (.int 1))))).set 12 ((q 11), .inl (cI, 110, .inl (upd (fun _ => 0) (0 : Int32).toNatClampNeg 1)))).set 13 ((q 12), .inl (cI, 110, .inl (upd (fun _ => 0) (0 : Int32).toNatClampNeg x2)))).set 14 ((q 13), .inl (cI, 110, .inl (upd (fun _ => 0) (0 : Int32).toNatClampNeg 0)))).set 15 ((q 14), .inl (cI, 110, .inl (upd (fun _ => 0) (0 : Int32).toNatClampNeg 0)))).set 16 ((q 15), .inl (cI, 110, .inl (upd (fun _ => 0) (0 : Int32).toNatClampNeg (-1))))).set 17 ((q 16), .inl (cI, 110, .inl (upd (fun _ => 0) (0 : Int32).toNatClampNeg (-1))))) ++ (((((((((xW o u cI cZ cJ).set 13 ((u 12), .inr (5, ([.int 0, .ref (u 13), .ref (u 14), .ref (u 15), .ref (u 16), .ref (u 17), .ref (u 18)].set 0 (.int 1))))).set 14 ((u 13), .inl (cI, 110, .inl (upd (fun _ => 0) (0 : Int32).toNatClampNeg 1)))).set 15 ((u 14), .inl (cI, 110, .inl (upd (fun _ => 0) (0 : Int32).toNatClampNeg x2)))).set 16 ((u 15), .inl (cI, 110, .inl (upd (fun _ => 0) (0 : Int32).toNatClampNeg 0)))).set 17 ((u 16), .inl (cI, 110, .inl (upd (fun _ => 0) (0 : Int32).toNatClampNeg 0)))).set 18 ((u 17), .inl (cI, 110, .inl (upd (fun _ => 0) (0 : Int32).toNatClampNeg (-1))))).set 19 ((u 18), .inl (cI, 110, .inl (upd (fun _ => 0) (0 : Int32).toNatClampNeg (-1))))) ++ [(ao, .inl (cJ, 1, .inr (.inl (vp_updL (fun _ => 0) (0 : Int32).toNatClampNeg 0))))])) := hD
              refine lv_istore (lv' := [(6, .int 0), (5, .int 0), (4, .int 0), (3, .ref ao), (2, .ref om), (1, .ref o), (0, .ref b)]) hx hb dL_law_583 hl (by decide) rfl (fun ls hl => ?_)
              refine lv_aload_n hx hb dL_law_585 rfl (lv_at hl 4 rfl) ?_
              refine rdV (As := []) (ci := 9) S (c_X9_thrown_10 l D cI cZ cJ om q x2 lo_x2 hi_x2) mi_X9_thrown kw_7_89 ⟨rfl, rfl⟩ ⟨Nat.le_of_ble_eq_true rfl, Nat.le_of_ble_eq_true rfl⟩ (va_Pl (ws := ((((((((mW om 0 q cI cZ).set 0 (om, .inr (9, ((mF 0 q).set 13 (.int 1))))).set 12 ((q 11), .inl (cI, 110, .inl (upd (fun _ => 0) (0 : Int32).toNatClampNeg 1)))).set 13 ((q 12), .inl (cI, 110, .inl (upd (fun _ => 0) (0 : Int32).toNatClampNeg x2)))).set 14 ((q 13), .inl (cI, 110, .inl (upd (fun _ => 0) (0 : Int32).toNatClampNeg 0)))).set 15 ((q 14), .inl (cI, 110, .inl (upd (fun _ => 0) (0 : Int32).toNatClampNeg 0)))).set 16 ((q 15), .inl (cI, 110, .inl (upd (fun _ => 0) (0 : Int32).toNatClampNeg (-1))))).set 17 ((q 16), .inl (cI, 110, .inl (upd (fun _ => 0) (0 : Int32).toNatClampNeg (-1)))))) (x := (((((((((xW o u cI cZ cJ).set 13 ((u 12), .inr (5, ([.int 0, .ref (u 13), .ref (u 14), .ref (u 15), .ref (u 16), .ref (u 17), .ref (u 18)].set 0 (.int 1))))).set 14 ((u 13), .inl (cI, 110, .inl (upd (fun _ => 0) (0 : Int32).toNatClampNeg 1)))).set 15 ((u 14), .inl (cI, 110, .inl (upd (fun _ => 0) (0 : Int32).toNatClampNeg x2)))).set 16 ((u 15), .inl (cI, 110, .inl (upd (fun _ => 0) (0 : Int32).toNatClampNeg 0)))).set 17 ((u 16), .inl (cI, 110, .inl (upd (fun _ => 0) (0 : Int32).toNatClampNeg 0)))).set 18 ((u 17), .inl (cI, 110, .inl (upd (fun _ => 0) (0 : Int32).toNatClampNeg (-1))))).set 19 ((u 18), .inl (cI, 110, .inl (upd (fun _ => 0) (0 : Int32).toNatClampNeg (-1))))) ++ [(ao, .inl (cJ, 1, .inr (.inl (vp_updL (fun _ => 0) (0 : Int32).toNatClampNeg 0))))])) hP) hK (k := 0) rfl rfl rfl hl.1 (Nat.le_of_ble_eq_true rfl) ⟨Nat.le_of_ble_eq_true rfl, Nat.le_of_ble_eq_true rfl⟩ dL_law_586 ?_
              refine lv_iload hx hb dL_law_589 (lv_at hl 1 rfl) ?_
              refine lv_icmp_eq (tgt := 596) hx hb dL_law_591 (by decide) (fun _ => ?_) (fun c => absurd c (by decide))
              refine lv_iload hx hb dL_law_596 (lv_at hl 1 rfl) ?_
              refine lv_if_ne (tgt := 613) hx hb dL_law_598 (by decide) (fun c => absurd c (by decide)) (fun _ => ?_)
              refine lv_aload_n hx hb dL_law_601 rfl (lv_at hl 3 rfl) ?_
              refine lv_iconst (v := 0) hx hb dL_law_602 (by decide) ?_
              refine xlald (t0 := 2) (v := 0) S hK hP (q0 := 119) rfl rfl (vin rfl) rfl dL_law_603 ?_
              refine lv_iload hx hb dL_law_604 (lv_at hl 0 rfl) ?_
              refine lv_i2l (v := 0) hx hb dL_law_606 (by decide) ?_
              refine xlcmp (v := 0) S dL_law_607 (by decide) ?_
              refine lv_if_eq (tgt := 613) hx hb dL_law_608 (by decide) (fun _ => ?_) (fun c => absurd c (by decide))
              refine lv_goto (tgt := 1519) hx hb dL_law_613 (by decide) ?_
              exact law_tail (cells := 120) (slots := 12958) S hr hlocks hX hbl (lv_sub hl [2, 6] rfl) hS (Nat.le_of_ble_eq_true rfl) (Nat.le_of_ble_eq_true rfl)
            · have ne_x4_0 : ¬ x4 = 0 := d_550
              refine wrap (mW om 0 q cI cZ) (mid := ((xW o u cI cZ cJ) ++ [(ao, .inl (cJ, 1, .inr (.inl (fun _ => 0))))])) (As := [.ref o, .int 1, .int x2, .int 0, .int x4, .ref ao]) S (h_node_8 l D cI cZ cJ o u ao hst ra ga H.size x2 x4 lo_x2 hi_x2 ne_x4_0) msh_L_node kw_6_20 rfl rfl ⟨Nat.le_of_ble_eq_true rfl, Nat.le_of_ble_eq_true rfl⟩ hP hD hK hS hA hB hC hl.1 (Nat.le_of_ble_eq_true rfl) ⟨Nat.le_of_ble_eq_true rfl, Nat.le_of_ble_eq_true rfl⟩ dL_law_550 (fun H locs hz hP hD hS => ?_)
              have hP : va_P D vwCl ((mW om 0 q cI cZ) ++ ((xW o u cI cZ cJ) ++ [(ao, .inl (cJ, 1, .inr (.inl (fun _ => 0))))])) H := hP
              have hD : va_D (fun q : Nat => s.heap.size ≤ q) ((mW om 0 q cI cZ) ++ ((xW o u cI cZ cJ) ++ [(ao, .inl (cJ, 1, .inr (.inl (fun _ => 0))))])) := hD
              refine lv_istore (lv' := [(5, .int 1), (4, .int 0), (3, .ref ao), (2, .ref om), (1, .ref o), (0, .ref b)]) hx hb dL_law_553 hl (by decide) rfl (fun ls hl => ?_)
              refine lv_aload_n hx hb dL_law_555 rfl (lv_at hl 3 rfl) ?_
              refine lv_aload_n hx hb dL_law_556 rfl (lv_at hl 5 rfl) ?_
              refine lv_iload hx hb dL_law_557 (lv_at hl 1 rfl) ?_
              refine lv_iconst (v := 1) hx hb dL_law_559 (by decide) ?_
              refine xiadd (v := 1) S dL_law_560 (by decide) ?_
              refine xsld (v := 1) S hX hbl hbA hS (vin rfl) h1 dL_law_561 ?_
              refine lv_aload_n hx hb dL_law_562 rfl (lv_at hl 5 rfl) ?_
              refine lv_iload hx hb dL_law_563 (lv_at hl 1 rfl) ?_
              refine lv_iconst (v := 2) hx hb dL_law_565 (by decide) ?_
              refine xiadd (v := 2) S dL_law_566 (by decide) ?_
              refine xsld (v := x2) S hX hbl hbA hS (vin rfl) h2 dL_law_567 ?_
              refine lv_aload_n hx hb dL_law_568 rfl (lv_at hl 5 rfl) ?_
              refine lv_iload hx hb dL_law_569 (lv_at hl 1 rfl) ?_
              refine lv_iconst (v := 3) hx hb dL_law_571 (by decide) ?_
              refine xiadd (v := 3) S dL_law_572 (by decide) ?_
              refine xsld (v := 0) S hX hbl hbA hS (vin rfl) h3 dL_law_573 ?_
              refine lv_aload_n hx hb dL_law_574 rfl (lv_at hl 5 rfl) ?_
              refine lv_iload hx hb dL_law_575 (lv_at hl 1 rfl) ?_
              refine lv_iconst (v := 4) hx hb dL_law_577 (by decide) ?_
              refine xiadd (v := 4) S dL_law_578 (by decide) ?_
              refine xsld (v := x4) S hX hbl hbA hS (vin rfl) h4 dL_law_579 ?_
              refine fVi [] ((xW o u cI cZ cJ) ++ [(ao, .inl (cJ, 1, .inr (.inl (fun _ => 0))))]) (mid := (mW om 0 q cI cZ)) (As := [.int 1, .int x2, .int 0, .int x4]) (ci := 9) S (c_X9_node_8 l D cI cZ cJ om q H.size x2 x4 lo_x2 hi_x2 ne_x4_0) mi_X9_node kw_7_151 rfl rfl ⟨Nat.le_of_ble_eq_true rfl, Nat.le_of_ble_eq_true rfl⟩ hP hD hK hS hA mW_0 rfl rfl hl.1 (Nat.le_of_ble_eq_true rfl) ⟨Nat.le_of_ble_eq_true rfl, Nat.le_of_ble_eq_true rfl⟩ dL_law_580 (fun H locs hz hP hD hS => ?_)
              have hP : va_P D vwCl ((mW om 1 q cI cZ) ++ ((xW o u cI cZ cJ) ++ [(ao, .inl (cJ, 1, .inr (.inl (fun _ => 0))))])) H := hP
              have hD : va_D (fun q : Nat => s.heap.size ≤ q) ((mW om 1 q cI cZ) ++ ((xW o u cI cZ cJ) ++ [(ao, .inl (cJ, 1, .inr (.inl (fun _ => 0))))])) := hD
              refine lv_istore (lv' := [(6, .int 0), (5, .int 1), (4, .int 0), (3, .ref ao), (2, .ref om), (1, .ref o), (0, .ref b)]) hx hb dL_law_583 hl (by decide) rfl (fun ls hl => ?_)
              refine lv_aload_n hx hb dL_law_585 rfl (lv_at hl 4 rfl) ?_
              refine rdV (As := []) (ci := 9) S (c_X9_thrown_0 l D cI cZ cJ om q) mi_X9_thrown kw_7_89 ⟨rfl, rfl⟩ ⟨Nat.le_of_ble_eq_true rfl, Nat.le_of_ble_eq_true rfl⟩ (va_Pl (ws := (mW om 1 q cI cZ)) (x := ((xW o u cI cZ cJ) ++ [(ao, .inl (cJ, 1, .inr (.inl (fun _ => 0))))])) hP) hK mW_0 rfl rfl hl.1 (Nat.le_of_ble_eq_true rfl) ⟨Nat.le_of_ble_eq_true rfl, Nat.le_of_ble_eq_true rfl⟩ dL_law_586 ?_
              refine lv_iload hx hb dL_law_589 (lv_at hl 1 rfl) ?_
              refine lv_icmp_eq (tgt := 596) hx hb dL_law_591 (by decide) (fun _ => ?_) (fun c => absurd c (by decide))
              refine lv_iload hx hb dL_law_596 (lv_at hl 1 rfl) ?_
              refine lv_if_ne (tgt := 613) hx hb dL_law_598 (by decide) (fun _ => ?_) (fun c => absurd c (by decide))
              refine lv_goto (tgt := 1519) hx hb dL_law_613 (by decide) ?_
              exact law_tail (cells := 121) (slots := 12964) S hr hlocks hX hbl (lv_sub hl [2, 6] rfl) hS (Nat.le_of_ble_eq_true rfl) (Nat.le_of_ble_eq_true rfl)
          · have ne_x3_0 : ¬ x3 = 0 := d_550
            refine wrap (mW om 0 q cI cZ) (mid := ((xW o u cI cZ cJ) ++ [(ao, .inl (cJ, 1, .inr (.inl (fun _ => 0))))])) (As := [.ref o, .int 1, .int x2, .int x3, .int x4, .ref ao]) S (h_node_9 l D cI cZ cJ o u ao hst ra ga H.size x2 x3 x4 lo_x2 hi_x2 ne_x3_0) msh_L_node kw_6_20 rfl rfl ⟨Nat.le_of_ble_eq_true rfl, Nat.le_of_ble_eq_true rfl⟩ hP hD hK hS hA hB hC hl.1 (Nat.le_of_ble_eq_true rfl) ⟨Nat.le_of_ble_eq_true rfl, Nat.le_of_ble_eq_true rfl⟩ dL_law_550 (fun H locs hz hP hD hS => ?_)
            have hP : va_P D vwCl ((mW om 0 q cI cZ) ++ ((xW o u cI cZ cJ) ++ [(ao, .inl (cJ, 1, .inr (.inl (fun _ => 0))))])) H := hP
            have hD : va_D (fun q : Nat => s.heap.size ≤ q) ((mW om 0 q cI cZ) ++ ((xW o u cI cZ cJ) ++ [(ao, .inl (cJ, 1, .inr (.inl (fun _ => 0))))])) := hD
            refine lv_istore (lv' := [(5, .int 1), (4, .int 0), (3, .ref ao), (2, .ref om), (1, .ref o), (0, .ref b)]) hx hb dL_law_553 hl (by decide) rfl (fun ls hl => ?_)
            refine lv_aload_n hx hb dL_law_555 rfl (lv_at hl 3 rfl) ?_
            refine lv_aload_n hx hb dL_law_556 rfl (lv_at hl 5 rfl) ?_
            refine lv_iload hx hb dL_law_557 (lv_at hl 1 rfl) ?_
            refine lv_iconst (v := 1) hx hb dL_law_559 (by decide) ?_
            refine xiadd (v := 1) S dL_law_560 (by decide) ?_
            refine xsld (v := 1) S hX hbl hbA hS (vin rfl) h1 dL_law_561 ?_
            refine lv_aload_n hx hb dL_law_562 rfl (lv_at hl 5 rfl) ?_
            refine lv_iload hx hb dL_law_563 (lv_at hl 1 rfl) ?_
            refine lv_iconst (v := 2) hx hb dL_law_565 (by decide) ?_
            refine xiadd (v := 2) S dL_law_566 (by decide) ?_
            refine xsld (v := x2) S hX hbl hbA hS (vin rfl) h2 dL_law_567 ?_
            refine lv_aload_n hx hb dL_law_568 rfl (lv_at hl 5 rfl) ?_
            refine lv_iload hx hb dL_law_569 (lv_at hl 1 rfl) ?_
            refine lv_iconst (v := 3) hx hb dL_law_571 (by decide) ?_
            refine xiadd (v := 3) S dL_law_572 (by decide) ?_
            refine xsld (v := x3) S hX hbl hbA hS (vin rfl) h3 dL_law_573 ?_
            refine lv_aload_n hx hb dL_law_574 rfl (lv_at hl 5 rfl) ?_
            refine lv_iload hx hb dL_law_575 (lv_at hl 1 rfl) ?_
            refine lv_iconst (v := 4) hx hb dL_law_577 (by decide) ?_
            refine xiadd (v := 4) S dL_law_578 (by decide) ?_
            refine xsld (v := x4) S hX hbl hbA hS (vin rfl) h4 dL_law_579 ?_
            refine fVi [] ((xW o u cI cZ cJ) ++ [(ao, .inl (cJ, 1, .inr (.inl (fun _ => 0))))]) (mid := (mW om 0 q cI cZ)) (As := [.int 1, .int x2, .int x3, .int x4]) (ci := 9) S (c_X9_node_9 l D cI cZ cJ om q H.size x2 x3 x4 lo_x2 hi_x2 ne_x3_0) mi_X9_node kw_7_151 rfl rfl ⟨Nat.le_of_ble_eq_true rfl, Nat.le_of_ble_eq_true rfl⟩ hP hD hK hS hA mW_0 rfl rfl hl.1 (Nat.le_of_ble_eq_true rfl) ⟨Nat.le_of_ble_eq_true rfl, Nat.le_of_ble_eq_true rfl⟩ dL_law_580 (fun H locs hz hP hD hS => ?_)
            have hP : va_P D vwCl ((mW om 1 q cI cZ) ++ ((xW o u cI cZ cJ) ++ [(ao, .inl (cJ, 1, .inr (.inl (fun _ => 0))))])) H := hP
            have hD : va_D (fun q : Nat => s.heap.size ≤ q) ((mW om 1 q cI cZ) ++ ((xW o u cI cZ cJ) ++ [(ao, .inl (cJ, 1, .inr (.inl (fun _ => 0))))])) := hD
            refine lv_istore (lv' := [(6, .int 0), (5, .int 1), (4, .int 0), (3, .ref ao), (2, .ref om), (1, .ref o), (0, .ref b)]) hx hb dL_law_583 hl (by decide) rfl (fun ls hl => ?_)
            refine lv_aload_n hx hb dL_law_585 rfl (lv_at hl 4 rfl) ?_
            refine rdV (As := []) (ci := 9) S (c_X9_thrown_0 l D cI cZ cJ om q) mi_X9_thrown kw_7_89 ⟨rfl, rfl⟩ ⟨Nat.le_of_ble_eq_true rfl, Nat.le_of_ble_eq_true rfl⟩ (va_Pl (ws := (mW om 1 q cI cZ)) (x := ((xW o u cI cZ cJ) ++ [(ao, .inl (cJ, 1, .inr (.inl (fun _ => 0))))])) hP) hK mW_0 rfl rfl hl.1 (Nat.le_of_ble_eq_true rfl) ⟨Nat.le_of_ble_eq_true rfl, Nat.le_of_ble_eq_true rfl⟩ dL_law_586 ?_
            refine lv_iload hx hb dL_law_589 (lv_at hl 1 rfl) ?_
            refine lv_icmp_eq (tgt := 596) hx hb dL_law_591 (by decide) (fun _ => ?_) (fun c => absurd c (by decide))
            refine lv_iload hx hb dL_law_596 (lv_at hl 1 rfl) ?_
            refine lv_if_ne (tgt := 613) hx hb dL_law_598 (by decide) (fun _ => ?_) (fun c => absurd c (by decide))
            refine lv_goto (tgt := 1519) hx hb dL_law_613 (by decide) ?_
            exact law_tail (cells := 121) (slots := 12964) S hr hlocks hX hbl (lv_sub hl [2, 6] rfl) hS (Nat.le_of_ble_eq_true rfl) (Nat.le_of_ble_eq_true rfl)
    · have ne_x1_1 : ¬ x1 = 1 := d_550
      by_cases d_550 : x1 = 2
      · have e_x1 : x1 = 2 := d_550
        subst e_x1
        refine wrap (mW om 0 q cI cZ) (mid := ((xW o u cI cZ cJ) ++ [(ao, .inl (cJ, 1, .inr (.inl (fun _ => 0))))])) (As := [.ref o, .int 2, .int x2, .int x3, .int x4, .ref ao]) S (h_node_10 l D cI cZ cJ o u ao hst ra ga H.size x2 x3 x4) msh_L_node kw_6_20 rfl rfl ⟨Nat.le_of_ble_eq_true rfl, Nat.le_of_ble_eq_true rfl⟩ hP hD hK hS hA hB hC hl.1 (Nat.le_of_ble_eq_true rfl) ⟨Nat.le_of_ble_eq_true rfl, Nat.le_of_ble_eq_true rfl⟩ dL_law_550 (fun H locs hz hP hD hS => ?_)
        have hP : va_P D vwCl ((mW om 0 q cI cZ) ++ ((xW o u cI cZ cJ) ++ [(ao, .inl (cJ, 1, .inr (.inl (fun _ => 0))))])) H := hP
        have hD : va_D (fun q : Nat => s.heap.size ≤ q) ((mW om 0 q cI cZ) ++ ((xW o u cI cZ cJ) ++ [(ao, .inl (cJ, 1, .inr (.inl (fun _ => 0))))])) := hD
        refine lv_istore (lv' := [(5, .int 1), (4, .int 0), (3, .ref ao), (2, .ref om), (1, .ref o), (0, .ref b)]) hx hb dL_law_553 hl (by decide) rfl (fun ls hl => ?_)
        refine lv_aload_n hx hb dL_law_555 rfl (lv_at hl 3 rfl) ?_
        refine lv_aload_n hx hb dL_law_556 rfl (lv_at hl 5 rfl) ?_
        refine lv_iload hx hb dL_law_557 (lv_at hl 1 rfl) ?_
        refine lv_iconst (v := 1) hx hb dL_law_559 (by decide) ?_
        refine xiadd (v := 1) S dL_law_560 (by decide) ?_
        refine xsld (v := 2) S hX hbl hbA hS (vin rfl) h1 dL_law_561 ?_
        refine lv_aload_n hx hb dL_law_562 rfl (lv_at hl 5 rfl) ?_
        refine lv_iload hx hb dL_law_563 (lv_at hl 1 rfl) ?_
        refine lv_iconst (v := 2) hx hb dL_law_565 (by decide) ?_
        refine xiadd (v := 2) S dL_law_566 (by decide) ?_
        refine xsld (v := x2) S hX hbl hbA hS (vin rfl) h2 dL_law_567 ?_
        refine lv_aload_n hx hb dL_law_568 rfl (lv_at hl 5 rfl) ?_
        refine lv_iload hx hb dL_law_569 (lv_at hl 1 rfl) ?_
        refine lv_iconst (v := 3) hx hb dL_law_571 (by decide) ?_
        refine xiadd (v := 3) S dL_law_572 (by decide) ?_
        refine xsld (v := x3) S hX hbl hbA hS (vin rfl) h3 dL_law_573 ?_
        refine lv_aload_n hx hb dL_law_574 rfl (lv_at hl 5 rfl) ?_
        refine lv_iload hx hb dL_law_575 (lv_at hl 1 rfl) ?_
        refine lv_iconst (v := 4) hx hb dL_law_577 (by decide) ?_
        refine xiadd (v := 4) S dL_law_578 (by decide) ?_
        refine xsld (v := x4) S hX hbl hbA hS (vin rfl) h4 dL_law_579 ?_
        refine fVi [] ((xW o u cI cZ cJ) ++ [(ao, .inl (cJ, 1, .inr (.inl (fun _ => 0))))]) (mid := (mW om 0 q cI cZ)) (As := [.int 2, .int x2, .int x3, .int x4]) (ci := 9) S (c_X9_node_10 l D cI cZ cJ om q H.size x2 x3 x4) mi_X9_node kw_7_151 rfl rfl ⟨Nat.le_of_ble_eq_true rfl, Nat.le_of_ble_eq_true rfl⟩ hP hD hK hS hA mW_0 rfl rfl hl.1 (Nat.le_of_ble_eq_true rfl) ⟨Nat.le_of_ble_eq_true rfl, Nat.le_of_ble_eq_true rfl⟩ dL_law_580 (fun H locs hz hP hD hS => ?_)
        have hP : va_P D vwCl ((mW om 1 q cI cZ) ++ ((xW o u cI cZ cJ) ++ [(ao, .inl (cJ, 1, .inr (.inl (fun _ => 0))))])) H := hP
        have hD : va_D (fun q : Nat => s.heap.size ≤ q) ((mW om 1 q cI cZ) ++ ((xW o u cI cZ cJ) ++ [(ao, .inl (cJ, 1, .inr (.inl (fun _ => 0))))])) := hD
        refine lv_istore (lv' := [(6, .int 0), (5, .int 1), (4, .int 0), (3, .ref ao), (2, .ref om), (1, .ref o), (0, .ref b)]) hx hb dL_law_583 hl (by decide) rfl (fun ls hl => ?_)
        refine lv_aload_n hx hb dL_law_585 rfl (lv_at hl 4 rfl) ?_
        refine rdV (As := []) (ci := 9) S (c_X9_thrown_0 l D cI cZ cJ om q) mi_X9_thrown kw_7_89 ⟨rfl, rfl⟩ ⟨Nat.le_of_ble_eq_true rfl, Nat.le_of_ble_eq_true rfl⟩ (va_Pl (ws := (mW om 1 q cI cZ)) (x := ((xW o u cI cZ cJ) ++ [(ao, .inl (cJ, 1, .inr (.inl (fun _ => 0))))])) hP) hK mW_0 rfl rfl hl.1 (Nat.le_of_ble_eq_true rfl) ⟨Nat.le_of_ble_eq_true rfl, Nat.le_of_ble_eq_true rfl⟩ dL_law_586 ?_
        refine lv_iload hx hb dL_law_589 (lv_at hl 1 rfl) ?_
        refine lv_icmp_eq (tgt := 596) hx hb dL_law_591 (by decide) (fun _ => ?_) (fun c => absurd c (by decide))
        refine lv_iload hx hb dL_law_596 (lv_at hl 1 rfl) ?_
        refine lv_if_ne (tgt := 613) hx hb dL_law_598 (by decide) (fun _ => ?_) (fun c => absurd c (by decide))
        refine lv_goto (tgt := 1519) hx hb dL_law_613 (by decide) ?_
        exact law_tail (cells := 121) (slots := 12964) S hr hlocks hX hbl (lv_sub hl [2, 6] rfl) hS (Nat.le_of_ble_eq_true rfl) (Nat.le_of_ble_eq_true rfl)
      · have ne_x1_2 : ¬ x1 = 2 := d_550
        by_cases d_550 : x1 = 3
        · have e_x1 : x1 = 3 := d_550
          subst e_x1
          refine wrap (mW om 0 q cI cZ) (mid := ((xW o u cI cZ cJ) ++ [(ao, .inl (cJ, 1, .inr (.inl (fun _ => 0))))])) (As := [.ref o, .int 3, .int x2, .int x3, .int x4, .ref ao]) S (h_node_11 l D cI cZ cJ o u ao hst ra ga H.size x2 x3 x4) msh_L_node kw_6_20 rfl rfl ⟨Nat.le_of_ble_eq_true rfl, Nat.le_of_ble_eq_true rfl⟩ hP hD hK hS hA hB hC hl.1 (Nat.le_of_ble_eq_true rfl) ⟨Nat.le_of_ble_eq_true rfl, Nat.le_of_ble_eq_true rfl⟩ dL_law_550 (fun H locs hz hP hD hS => ?_)
          have hP : va_P D vwCl ((mW om 0 q cI cZ) ++ ((xW o u cI cZ cJ) ++ [(ao, .inl (cJ, 1, .inr (.inl (fun _ => 0))))])) H := hP
          have hD : va_D (fun q : Nat => s.heap.size ≤ q) ((mW om 0 q cI cZ) ++ ((xW o u cI cZ cJ) ++ [(ao, .inl (cJ, 1, .inr (.inl (fun _ => 0))))])) := hD
          refine lv_istore (lv' := [(5, .int 1), (4, .int 0), (3, .ref ao), (2, .ref om), (1, .ref o), (0, .ref b)]) hx hb dL_law_553 hl (by decide) rfl (fun ls hl => ?_)
          refine lv_aload_n hx hb dL_law_555 rfl (lv_at hl 3 rfl) ?_
          refine lv_aload_n hx hb dL_law_556 rfl (lv_at hl 5 rfl) ?_
          refine lv_iload hx hb dL_law_557 (lv_at hl 1 rfl) ?_
          refine lv_iconst (v := 1) hx hb dL_law_559 (by decide) ?_
          refine xiadd (v := 1) S dL_law_560 (by decide) ?_
          refine xsld (v := 3) S hX hbl hbA hS (vin rfl) h1 dL_law_561 ?_
          refine lv_aload_n hx hb dL_law_562 rfl (lv_at hl 5 rfl) ?_
          refine lv_iload hx hb dL_law_563 (lv_at hl 1 rfl) ?_
          refine lv_iconst (v := 2) hx hb dL_law_565 (by decide) ?_
          refine xiadd (v := 2) S dL_law_566 (by decide) ?_
          refine xsld (v := x2) S hX hbl hbA hS (vin rfl) h2 dL_law_567 ?_
          refine lv_aload_n hx hb dL_law_568 rfl (lv_at hl 5 rfl) ?_
          refine lv_iload hx hb dL_law_569 (lv_at hl 1 rfl) ?_
          refine lv_iconst (v := 3) hx hb dL_law_571 (by decide) ?_
          refine xiadd (v := 3) S dL_law_572 (by decide) ?_
          refine xsld (v := x3) S hX hbl hbA hS (vin rfl) h3 dL_law_573 ?_
          refine lv_aload_n hx hb dL_law_574 rfl (lv_at hl 5 rfl) ?_
          refine lv_iload hx hb dL_law_575 (lv_at hl 1 rfl) ?_
          refine lv_iconst (v := 4) hx hb dL_law_577 (by decide) ?_
          refine xiadd (v := 4) S dL_law_578 (by decide) ?_
          refine xsld (v := x4) S hX hbl hbA hS (vin rfl) h4 dL_law_579 ?_
          refine fVi [] ((xW o u cI cZ cJ) ++ [(ao, .inl (cJ, 1, .inr (.inl (fun _ => 0))))]) (mid := (mW om 0 q cI cZ)) (As := [.int 3, .int x2, .int x3, .int x4]) (ci := 9) S (c_X9_node_11 l D cI cZ cJ om q H.size x2 x3 x4) mi_X9_node kw_7_151 rfl rfl ⟨Nat.le_of_ble_eq_true rfl, Nat.le_of_ble_eq_true rfl⟩ hP hD hK hS hA mW_0 rfl rfl hl.1 (Nat.le_of_ble_eq_true rfl) ⟨Nat.le_of_ble_eq_true rfl, Nat.le_of_ble_eq_true rfl⟩ dL_law_580 (fun H locs hz hP hD hS => ?_)
          have hP : va_P D vwCl ((mW om 1 q cI cZ) ++ ((xW o u cI cZ cJ) ++ [(ao, .inl (cJ, 1, .inr (.inl (fun _ => 0))))])) H := hP
          have hD : va_D (fun q : Nat => s.heap.size ≤ q) ((mW om 1 q cI cZ) ++ ((xW o u cI cZ cJ) ++ [(ao, .inl (cJ, 1, .inr (.inl (fun _ => 0))))])) := hD
          refine lv_istore (lv' := [(6, .int 0), (5, .int 1), (4, .int 0), (3, .ref ao), (2, .ref om), (1, .ref o), (0, .ref b)]) hx hb dL_law_583 hl (by decide) rfl (fun ls hl => ?_)
          refine lv_aload_n hx hb dL_law_585 rfl (lv_at hl 4 rfl) ?_
          refine rdV (As := []) (ci := 9) S (c_X9_thrown_0 l D cI cZ cJ om q) mi_X9_thrown kw_7_89 ⟨rfl, rfl⟩ ⟨Nat.le_of_ble_eq_true rfl, Nat.le_of_ble_eq_true rfl⟩ (va_Pl (ws := (mW om 1 q cI cZ)) (x := ((xW o u cI cZ cJ) ++ [(ao, .inl (cJ, 1, .inr (.inl (fun _ => 0))))])) hP) hK mW_0 rfl rfl hl.1 (Nat.le_of_ble_eq_true rfl) ⟨Nat.le_of_ble_eq_true rfl, Nat.le_of_ble_eq_true rfl⟩ dL_law_586 ?_
          refine lv_iload hx hb dL_law_589 (lv_at hl 1 rfl) ?_
          refine lv_icmp_eq (tgt := 596) hx hb dL_law_591 (by decide) (fun _ => ?_) (fun c => absurd c (by decide))
          refine lv_iload hx hb dL_law_596 (lv_at hl 1 rfl) ?_
          refine lv_if_ne (tgt := 613) hx hb dL_law_598 (by decide) (fun _ => ?_) (fun c => absurd c (by decide))
          refine lv_goto (tgt := 1519) hx hb dL_law_613 (by decide) ?_
          exact law_tail (cells := 121) (slots := 12964) S hr hlocks hX hbl (lv_sub hl [2, 6] rfl) hS (Nat.le_of_ble_eq_true rfl) (Nat.le_of_ble_eq_true rfl)
        · have ne_x1_3 : ¬ x1 = 3 := d_550
          by_cases d_550 : x1 = 4
          · have e_x1 : x1 = 4 := d_550
            subst e_x1
            refine wrap (mW om 0 q cI cZ) (mid := ((xW o u cI cZ cJ) ++ [(ao, .inl (cJ, 1, .inr (.inl (fun _ => 0))))])) (As := [.ref o, .int 4, .int x2, .int x3, .int x4, .ref ao]) S (h_node_12 l D cI cZ cJ o u ao hst ra ga H.size x2 x3 x4) msh_L_node kw_6_20 rfl rfl ⟨Nat.le_of_ble_eq_true rfl, Nat.le_of_ble_eq_true rfl⟩ hP hD hK hS hA hB hC hl.1 (Nat.le_of_ble_eq_true rfl) ⟨Nat.le_of_ble_eq_true rfl, Nat.le_of_ble_eq_true rfl⟩ dL_law_550 (fun H locs hz hP hD hS => ?_)
            have hP : va_P D vwCl ((mW om 0 q cI cZ) ++ ((xW o u cI cZ cJ) ++ [(ao, .inl (cJ, 1, .inr (.inl (fun _ => 0))))])) H := hP
            have hD : va_D (fun q : Nat => s.heap.size ≤ q) ((mW om 0 q cI cZ) ++ ((xW o u cI cZ cJ) ++ [(ao, .inl (cJ, 1, .inr (.inl (fun _ => 0))))])) := hD
            refine lv_istore (lv' := [(5, .int 1), (4, .int 0), (3, .ref ao), (2, .ref om), (1, .ref o), (0, .ref b)]) hx hb dL_law_553 hl (by decide) rfl (fun ls hl => ?_)
            refine lv_aload_n hx hb dL_law_555 rfl (lv_at hl 3 rfl) ?_
            refine lv_aload_n hx hb dL_law_556 rfl (lv_at hl 5 rfl) ?_
            refine lv_iload hx hb dL_law_557 (lv_at hl 1 rfl) ?_
            refine lv_iconst (v := 1) hx hb dL_law_559 (by decide) ?_
            refine xiadd (v := 1) S dL_law_560 (by decide) ?_
            refine xsld (v := 4) S hX hbl hbA hS (vin rfl) h1 dL_law_561 ?_
            refine lv_aload_n hx hb dL_law_562 rfl (lv_at hl 5 rfl) ?_
            refine lv_iload hx hb dL_law_563 (lv_at hl 1 rfl) ?_
            refine lv_iconst (v := 2) hx hb dL_law_565 (by decide) ?_
            refine xiadd (v := 2) S dL_law_566 (by decide) ?_
            refine xsld (v := x2) S hX hbl hbA hS (vin rfl) h2 dL_law_567 ?_
            refine lv_aload_n hx hb dL_law_568 rfl (lv_at hl 5 rfl) ?_
            refine lv_iload hx hb dL_law_569 (lv_at hl 1 rfl) ?_
            refine lv_iconst (v := 3) hx hb dL_law_571 (by decide) ?_
            refine xiadd (v := 3) S dL_law_572 (by decide) ?_
            refine xsld (v := x3) S hX hbl hbA hS (vin rfl) h3 dL_law_573 ?_
            refine lv_aload_n hx hb dL_law_574 rfl (lv_at hl 5 rfl) ?_
            refine lv_iload hx hb dL_law_575 (lv_at hl 1 rfl) ?_
            refine lv_iconst (v := 4) hx hb dL_law_577 (by decide) ?_
            refine xiadd (v := 4) S dL_law_578 (by decide) ?_
            refine xsld (v := x4) S hX hbl hbA hS (vin rfl) h4 dL_law_579 ?_
            refine fVi [] ((xW o u cI cZ cJ) ++ [(ao, .inl (cJ, 1, .inr (.inl (fun _ => 0))))]) (mid := (mW om 0 q cI cZ)) (As := [.int 4, .int x2, .int x3, .int x4]) (ci := 9) S (c_X9_node_12 l D cI cZ cJ om q H.size x2 x3 x4) mi_X9_node kw_7_151 rfl rfl ⟨Nat.le_of_ble_eq_true rfl, Nat.le_of_ble_eq_true rfl⟩ hP hD hK hS hA mW_0 rfl rfl hl.1 (Nat.le_of_ble_eq_true rfl) ⟨Nat.le_of_ble_eq_true rfl, Nat.le_of_ble_eq_true rfl⟩ dL_law_580 (fun H locs hz hP hD hS => ?_)
            have hP : va_P D vwCl ((mW om 1 q cI cZ) ++ ((xW o u cI cZ cJ) ++ [(ao, .inl (cJ, 1, .inr (.inl (fun _ => 0))))])) H := hP
            have hD : va_D (fun q : Nat => s.heap.size ≤ q) ((mW om 1 q cI cZ) ++ ((xW o u cI cZ cJ) ++ [(ao, .inl (cJ, 1, .inr (.inl (fun _ => 0))))])) := hD
            refine lv_istore (lv' := [(6, .int 0), (5, .int 1), (4, .int 0), (3, .ref ao), (2, .ref om), (1, .ref o), (0, .ref b)]) hx hb dL_law_583 hl (by decide) rfl (fun ls hl => ?_)
            refine lv_aload_n hx hb dL_law_585 rfl (lv_at hl 4 rfl) ?_
            refine rdV (As := []) (ci := 9) S (c_X9_thrown_0 l D cI cZ cJ om q) mi_X9_thrown kw_7_89 ⟨rfl, rfl⟩ ⟨Nat.le_of_ble_eq_true rfl, Nat.le_of_ble_eq_true rfl⟩ (va_Pl (ws := (mW om 1 q cI cZ)) (x := ((xW o u cI cZ cJ) ++ [(ao, .inl (cJ, 1, .inr (.inl (fun _ => 0))))])) hP) hK mW_0 rfl rfl hl.1 (Nat.le_of_ble_eq_true rfl) ⟨Nat.le_of_ble_eq_true rfl, Nat.le_of_ble_eq_true rfl⟩ dL_law_586 ?_
            refine lv_iload hx hb dL_law_589 (lv_at hl 1 rfl) ?_
            refine lv_icmp_eq (tgt := 596) hx hb dL_law_591 (by decide) (fun _ => ?_) (fun c => absurd c (by decide))
            refine lv_iload hx hb dL_law_596 (lv_at hl 1 rfl) ?_
            refine lv_if_ne (tgt := 613) hx hb dL_law_598 (by decide) (fun _ => ?_) (fun c => absurd c (by decide))
            refine lv_goto (tgt := 1519) hx hb dL_law_613 (by decide) ?_
            exact law_tail (cells := 121) (slots := 12964) S hr hlocks hX hbl (lv_sub hl [2, 6] rfl) hS (Nat.le_of_ble_eq_true rfl) (Nat.le_of_ble_eq_true rfl)
          · have ne_x1_4 : ¬ x1 = 4 := d_550
            by_cases d_550 : x1 = 5
            · have e_x1 : x1 = 5 := d_550
              subst e_x1
              refine wrap (mW om 0 q cI cZ) (mid := ((xW o u cI cZ cJ) ++ [(ao, .inl (cJ, 1, .inr (.inl (fun _ => 0))))])) (As := [.ref o, .int 5, .int x2, .int x3, .int x4, .ref ao]) S (h_node_13 l D cI cZ cJ o u ao hst ra ga H.size x2 x3 x4) msh_L_node kw_6_20 rfl rfl ⟨Nat.le_of_ble_eq_true rfl, Nat.le_of_ble_eq_true rfl⟩ hP hD hK hS hA hB hC hl.1 (Nat.le_of_ble_eq_true rfl) ⟨Nat.le_of_ble_eq_true rfl, Nat.le_of_ble_eq_true rfl⟩ dL_law_550 (fun H locs hz hP hD hS => ?_)
              have hP : va_P D vwCl ((mW om 0 q cI cZ) ++ ((xW o u cI cZ cJ) ++ [(ao, .inl (cJ, 1, .inr (.inl (fun _ => 0))))])) H := hP
              have hD : va_D (fun q : Nat => s.heap.size ≤ q) ((mW om 0 q cI cZ) ++ ((xW o u cI cZ cJ) ++ [(ao, .inl (cJ, 1, .inr (.inl (fun _ => 0))))])) := hD
              refine lv_istore (lv' := [(5, .int 1), (4, .int 0), (3, .ref ao), (2, .ref om), (1, .ref o), (0, .ref b)]) hx hb dL_law_553 hl (by decide) rfl (fun ls hl => ?_)
              refine lv_aload_n hx hb dL_law_555 rfl (lv_at hl 3 rfl) ?_
              refine lv_aload_n hx hb dL_law_556 rfl (lv_at hl 5 rfl) ?_
              refine lv_iload hx hb dL_law_557 (lv_at hl 1 rfl) ?_
              refine lv_iconst (v := 1) hx hb dL_law_559 (by decide) ?_
              refine xiadd (v := 1) S dL_law_560 (by decide) ?_
              refine xsld (v := 5) S hX hbl hbA hS (vin rfl) h1 dL_law_561 ?_
              refine lv_aload_n hx hb dL_law_562 rfl (lv_at hl 5 rfl) ?_
              refine lv_iload hx hb dL_law_563 (lv_at hl 1 rfl) ?_
              refine lv_iconst (v := 2) hx hb dL_law_565 (by decide) ?_
              refine xiadd (v := 2) S dL_law_566 (by decide) ?_
              refine xsld (v := x2) S hX hbl hbA hS (vin rfl) h2 dL_law_567 ?_
              refine lv_aload_n hx hb dL_law_568 rfl (lv_at hl 5 rfl) ?_
              refine lv_iload hx hb dL_law_569 (lv_at hl 1 rfl) ?_
              refine lv_iconst (v := 3) hx hb dL_law_571 (by decide) ?_
              refine xiadd (v := 3) S dL_law_572 (by decide) ?_
              refine xsld (v := x3) S hX hbl hbA hS (vin rfl) h3 dL_law_573 ?_
              refine lv_aload_n hx hb dL_law_574 rfl (lv_at hl 5 rfl) ?_
              refine lv_iload hx hb dL_law_575 (lv_at hl 1 rfl) ?_
              refine lv_iconst (v := 4) hx hb dL_law_577 (by decide) ?_
              refine xiadd (v := 4) S dL_law_578 (by decide) ?_
              refine xsld (v := x4) S hX hbl hbA hS (vin rfl) h4 dL_law_579 ?_
              refine fVi [] ((xW o u cI cZ cJ) ++ [(ao, .inl (cJ, 1, .inr (.inl (fun _ => 0))))]) (mid := (mW om 0 q cI cZ)) (As := [.int 5, .int x2, .int x3, .int x4]) (ci := 9) S (c_X9_node_13 l D cI cZ cJ om q H.size x2 x3 x4) mi_X9_node kw_7_151 rfl rfl ⟨Nat.le_of_ble_eq_true rfl, Nat.le_of_ble_eq_true rfl⟩ hP hD hK hS hA mW_0 rfl rfl hl.1 (Nat.le_of_ble_eq_true rfl) ⟨Nat.le_of_ble_eq_true rfl, Nat.le_of_ble_eq_true rfl⟩ dL_law_580 (fun H locs hz hP hD hS => ?_)
              have hP : va_P D vwCl ((mW om 1 q cI cZ) ++ ((xW o u cI cZ cJ) ++ [(ao, .inl (cJ, 1, .inr (.inl (fun _ => 0))))])) H := hP
              have hD : va_D (fun q : Nat => s.heap.size ≤ q) ((mW om 1 q cI cZ) ++ ((xW o u cI cZ cJ) ++ [(ao, .inl (cJ, 1, .inr (.inl (fun _ => 0))))])) := hD
              refine lv_istore (lv' := [(6, .int 0), (5, .int 1), (4, .int 0), (3, .ref ao), (2, .ref om), (1, .ref o), (0, .ref b)]) hx hb dL_law_583 hl (by decide) rfl (fun ls hl => ?_)
              refine lv_aload_n hx hb dL_law_585 rfl (lv_at hl 4 rfl) ?_
              refine rdV (As := []) (ci := 9) S (c_X9_thrown_0 l D cI cZ cJ om q) mi_X9_thrown kw_7_89 ⟨rfl, rfl⟩ ⟨Nat.le_of_ble_eq_true rfl, Nat.le_of_ble_eq_true rfl⟩ (va_Pl (ws := (mW om 1 q cI cZ)) (x := ((xW o u cI cZ cJ) ++ [(ao, .inl (cJ, 1, .inr (.inl (fun _ => 0))))])) hP) hK mW_0 rfl rfl hl.1 (Nat.le_of_ble_eq_true rfl) ⟨Nat.le_of_ble_eq_true rfl, Nat.le_of_ble_eq_true rfl⟩ dL_law_586 ?_
              refine lv_iload hx hb dL_law_589 (lv_at hl 1 rfl) ?_
              refine lv_icmp_eq (tgt := 596) hx hb dL_law_591 (by decide) (fun _ => ?_) (fun c => absurd c (by decide))
              refine lv_iload hx hb dL_law_596 (lv_at hl 1 rfl) ?_
              refine lv_if_ne (tgt := 613) hx hb dL_law_598 (by decide) (fun _ => ?_) (fun c => absurd c (by decide))
              refine lv_goto (tgt := 1519) hx hb dL_law_613 (by decide) ?_
              exact law_tail (cells := 121) (slots := 12964) S hr hlocks hX hbl (lv_sub hl [2, 6] rfl) hS (Nat.le_of_ble_eq_true rfl) (Nat.le_of_ble_eq_true rfl)
            · have ne_x1_5 : ¬ x1 = 5 := d_550
              by_cases d_550 : x1 = 6
              · have e_x1 : x1 = 6 := d_550
                subst e_x1
                refine wrap (mW om 0 q cI cZ) (mid := ((xW o u cI cZ cJ) ++ [(ao, .inl (cJ, 1, .inr (.inl (fun _ => 0))))])) (As := [.ref o, .int 6, .int x2, .int x3, .int x4, .ref ao]) S (h_node_14 l D cI cZ cJ o u ao hst ra ga H.size x2 x3 x4) msh_L_node kw_6_20 rfl rfl ⟨Nat.le_of_ble_eq_true rfl, Nat.le_of_ble_eq_true rfl⟩ hP hD hK hS hA hB hC hl.1 (Nat.le_of_ble_eq_true rfl) ⟨Nat.le_of_ble_eq_true rfl, Nat.le_of_ble_eq_true rfl⟩ dL_law_550 (fun H locs hz hP hD hS => ?_)
                have hP : va_P D vwCl ((mW om 0 q cI cZ) ++ ((xW o u cI cZ cJ) ++ [(ao, .inl (cJ, 1, .inr (.inl (fun _ => 0))))])) H := hP
                have hD : va_D (fun q : Nat => s.heap.size ≤ q) ((mW om 0 q cI cZ) ++ ((xW o u cI cZ cJ) ++ [(ao, .inl (cJ, 1, .inr (.inl (fun _ => 0))))])) := hD
                refine lv_istore (lv' := [(5, .int 1), (4, .int 0), (3, .ref ao), (2, .ref om), (1, .ref o), (0, .ref b)]) hx hb dL_law_553 hl (by decide) rfl (fun ls hl => ?_)
                refine lv_aload_n hx hb dL_law_555 rfl (lv_at hl 3 rfl) ?_
                refine lv_aload_n hx hb dL_law_556 rfl (lv_at hl 5 rfl) ?_
                refine lv_iload hx hb dL_law_557 (lv_at hl 1 rfl) ?_
                refine lv_iconst (v := 1) hx hb dL_law_559 (by decide) ?_
                refine xiadd (v := 1) S dL_law_560 (by decide) ?_
                refine xsld (v := 6) S hX hbl hbA hS (vin rfl) h1 dL_law_561 ?_
                refine lv_aload_n hx hb dL_law_562 rfl (lv_at hl 5 rfl) ?_
                refine lv_iload hx hb dL_law_563 (lv_at hl 1 rfl) ?_
                refine lv_iconst (v := 2) hx hb dL_law_565 (by decide) ?_
                refine xiadd (v := 2) S dL_law_566 (by decide) ?_
                refine xsld (v := x2) S hX hbl hbA hS (vin rfl) h2 dL_law_567 ?_
                refine lv_aload_n hx hb dL_law_568 rfl (lv_at hl 5 rfl) ?_
                refine lv_iload hx hb dL_law_569 (lv_at hl 1 rfl) ?_
                refine lv_iconst (v := 3) hx hb dL_law_571 (by decide) ?_
                refine xiadd (v := 3) S dL_law_572 (by decide) ?_
                refine xsld (v := x3) S hX hbl hbA hS (vin rfl) h3 dL_law_573 ?_
                refine lv_aload_n hx hb dL_law_574 rfl (lv_at hl 5 rfl) ?_
                refine lv_iload hx hb dL_law_575 (lv_at hl 1 rfl) ?_
                refine lv_iconst (v := 4) hx hb dL_law_577 (by decide) ?_
                refine xiadd (v := 4) S dL_law_578 (by decide) ?_
                refine xsld (v := x4) S hX hbl hbA hS (vin rfl) h4 dL_law_579 ?_
                refine fVi [] ((xW o u cI cZ cJ) ++ [(ao, .inl (cJ, 1, .inr (.inl (fun _ => 0))))]) (mid := (mW om 0 q cI cZ)) (As := [.int 6, .int x2, .int x3, .int x4]) (ci := 9) S (c_X9_node_14 l D cI cZ cJ om q H.size x2 x3 x4) mi_X9_node kw_7_151 rfl rfl ⟨Nat.le_of_ble_eq_true rfl, Nat.le_of_ble_eq_true rfl⟩ hP hD hK hS hA mW_0 rfl rfl hl.1 (Nat.le_of_ble_eq_true rfl) ⟨Nat.le_of_ble_eq_true rfl, Nat.le_of_ble_eq_true rfl⟩ dL_law_580 (fun H locs hz hP hD hS => ?_)
                have hP : va_P D vwCl ((mW om 1 q cI cZ) ++ ((xW o u cI cZ cJ) ++ [(ao, .inl (cJ, 1, .inr (.inl (fun _ => 0))))])) H := hP
                have hD : va_D (fun q : Nat => s.heap.size ≤ q) ((mW om 1 q cI cZ) ++ ((xW o u cI cZ cJ) ++ [(ao, .inl (cJ, 1, .inr (.inl (fun _ => 0))))])) := hD
                refine lv_istore (lv' := [(6, .int 0), (5, .int 1), (4, .int 0), (3, .ref ao), (2, .ref om), (1, .ref o), (0, .ref b)]) hx hb dL_law_583 hl (by decide) rfl (fun ls hl => ?_)
                refine lv_aload_n hx hb dL_law_585 rfl (lv_at hl 4 rfl) ?_
                refine rdV (As := []) (ci := 9) S (c_X9_thrown_0 l D cI cZ cJ om q) mi_X9_thrown kw_7_89 ⟨rfl, rfl⟩ ⟨Nat.le_of_ble_eq_true rfl, Nat.le_of_ble_eq_true rfl⟩ (va_Pl (ws := (mW om 1 q cI cZ)) (x := ((xW o u cI cZ cJ) ++ [(ao, .inl (cJ, 1, .inr (.inl (fun _ => 0))))])) hP) hK mW_0 rfl rfl hl.1 (Nat.le_of_ble_eq_true rfl) ⟨Nat.le_of_ble_eq_true rfl, Nat.le_of_ble_eq_true rfl⟩ dL_law_586 ?_
                refine lv_iload hx hb dL_law_589 (lv_at hl 1 rfl) ?_
                refine lv_icmp_eq (tgt := 596) hx hb dL_law_591 (by decide) (fun _ => ?_) (fun c => absurd c (by decide))
                refine lv_iload hx hb dL_law_596 (lv_at hl 1 rfl) ?_
                refine lv_if_ne (tgt := 613) hx hb dL_law_598 (by decide) (fun _ => ?_) (fun c => absurd c (by decide))
                refine lv_goto (tgt := 1519) hx hb dL_law_613 (by decide) ?_
                exact law_tail (cells := 121) (slots := 12964) S hr hlocks hX hbl (lv_sub hl [2, 6] rfl) hS (Nat.le_of_ble_eq_true rfl) (Nat.le_of_ble_eq_true rfl)
              · have ne_x1_6 : ¬ x1 = 6 := d_550
                by_cases d_550 : x1 = 7
                · have e_x1 : x1 = 7 := d_550
                  subst e_x1
                  refine wrap (mW om 0 q cI cZ) (mid := ((xW o u cI cZ cJ) ++ [(ao, .inl (cJ, 1, .inr (.inl (fun _ => 0))))])) (As := [.ref o, .int 7, .int x2, .int x3, .int x4, .ref ao]) S (h_node_15 l D cI cZ cJ o u ao hst ra ga H.size x2 x3 x4) msh_L_node kw_6_20 rfl rfl ⟨Nat.le_of_ble_eq_true rfl, Nat.le_of_ble_eq_true rfl⟩ hP hD hK hS hA hB hC hl.1 (Nat.le_of_ble_eq_true rfl) ⟨Nat.le_of_ble_eq_true rfl, Nat.le_of_ble_eq_true rfl⟩ dL_law_550 (fun H locs hz hP hD hS => ?_)
                  have hP : va_P D vwCl ((mW om 0 q cI cZ) ++ ((xW o u cI cZ cJ) ++ [(ao, .inl (cJ, 1, .inr (.inl (fun _ => 0))))])) H := hP
                  have hD : va_D (fun q : Nat => s.heap.size ≤ q) ((mW om 0 q cI cZ) ++ ((xW o u cI cZ cJ) ++ [(ao, .inl (cJ, 1, .inr (.inl (fun _ => 0))))])) := hD
                  refine lv_istore (lv' := [(5, .int 1), (4, .int 0), (3, .ref ao), (2, .ref om), (1, .ref o), (0, .ref b)]) hx hb dL_law_553 hl (by decide) rfl (fun ls hl => ?_)
                  refine lv_aload_n hx hb dL_law_555 rfl (lv_at hl 3 rfl) ?_
                  refine lv_aload_n hx hb dL_law_556 rfl (lv_at hl 5 rfl) ?_
                  refine lv_iload hx hb dL_law_557 (lv_at hl 1 rfl) ?_
                  refine lv_iconst (v := 1) hx hb dL_law_559 (by decide) ?_
                  refine xiadd (v := 1) S dL_law_560 (by decide) ?_
                  refine xsld (v := 7) S hX hbl hbA hS (vin rfl) h1 dL_law_561 ?_
                  refine lv_aload_n hx hb dL_law_562 rfl (lv_at hl 5 rfl) ?_
                  refine lv_iload hx hb dL_law_563 (lv_at hl 1 rfl) ?_
                  refine lv_iconst (v := 2) hx hb dL_law_565 (by decide) ?_
                  refine xiadd (v := 2) S dL_law_566 (by decide) ?_
                  refine xsld (v := x2) S hX hbl hbA hS (vin rfl) h2 dL_law_567 ?_
                  refine lv_aload_n hx hb dL_law_568 rfl (lv_at hl 5 rfl) ?_
                  refine lv_iload hx hb dL_law_569 (lv_at hl 1 rfl) ?_
                  refine lv_iconst (v := 3) hx hb dL_law_571 (by decide) ?_
                  refine xiadd (v := 3) S dL_law_572 (by decide) ?_
                  refine xsld (v := x3) S hX hbl hbA hS (vin rfl) h3 dL_law_573 ?_
                  refine lv_aload_n hx hb dL_law_574 rfl (lv_at hl 5 rfl) ?_
                  refine lv_iload hx hb dL_law_575 (lv_at hl 1 rfl) ?_
                  refine lv_iconst (v := 4) hx hb dL_law_577 (by decide) ?_
                  refine xiadd (v := 4) S dL_law_578 (by decide) ?_
                  refine xsld (v := x4) S hX hbl hbA hS (vin rfl) h4 dL_law_579 ?_
                  refine fVi [] ((xW o u cI cZ cJ) ++ [(ao, .inl (cJ, 1, .inr (.inl (fun _ => 0))))]) (mid := (mW om 0 q cI cZ)) (As := [.int 7, .int x2, .int x3, .int x4]) (ci := 9) S (c_X9_node_15 l D cI cZ cJ om q H.size x2 x3 x4) mi_X9_node kw_7_151 rfl rfl ⟨Nat.le_of_ble_eq_true rfl, Nat.le_of_ble_eq_true rfl⟩ hP hD hK hS hA mW_0 rfl rfl hl.1 (Nat.le_of_ble_eq_true rfl) ⟨Nat.le_of_ble_eq_true rfl, Nat.le_of_ble_eq_true rfl⟩ dL_law_580 (fun H locs hz hP hD hS => ?_)
                  have hP : va_P D vwCl ((mW om 1 q cI cZ) ++ ((xW o u cI cZ cJ) ++ [(ao, .inl (cJ, 1, .inr (.inl (fun _ => 0))))])) H := hP
                  have hD : va_D (fun q : Nat => s.heap.size ≤ q) ((mW om 1 q cI cZ) ++ ((xW o u cI cZ cJ) ++ [(ao, .inl (cJ, 1, .inr (.inl (fun _ => 0))))])) := hD
                  refine lv_istore (lv' := [(6, .int 0), (5, .int 1), (4, .int 0), (3, .ref ao), (2, .ref om), (1, .ref o), (0, .ref b)]) hx hb dL_law_583 hl (by decide) rfl (fun ls hl => ?_)
                  refine lv_aload_n hx hb dL_law_585 rfl (lv_at hl 4 rfl) ?_
                  refine rdV (As := []) (ci := 9) S (c_X9_thrown_0 l D cI cZ cJ om q) mi_X9_thrown kw_7_89 ⟨rfl, rfl⟩ ⟨Nat.le_of_ble_eq_true rfl, Nat.le_of_ble_eq_true rfl⟩ (va_Pl (ws := (mW om 1 q cI cZ)) (x := ((xW o u cI cZ cJ) ++ [(ao, .inl (cJ, 1, .inr (.inl (fun _ => 0))))])) hP) hK mW_0 rfl rfl hl.1 (Nat.le_of_ble_eq_true rfl) ⟨Nat.le_of_ble_eq_true rfl, Nat.le_of_ble_eq_true rfl⟩ dL_law_586 ?_
                  refine lv_iload hx hb dL_law_589 (lv_at hl 1 rfl) ?_
                  refine lv_icmp_eq (tgt := 596) hx hb dL_law_591 (by decide) (fun _ => ?_) (fun c => absurd c (by decide))
                  refine lv_iload hx hb dL_law_596 (lv_at hl 1 rfl) ?_
                  refine lv_if_ne (tgt := 613) hx hb dL_law_598 (by decide) (fun _ => ?_) (fun c => absurd c (by decide))
                  refine lv_goto (tgt := 1519) hx hb dL_law_613 (by decide) ?_
                  exact law_tail (cells := 121) (slots := 12964) S hr hlocks hX hbl (lv_sub hl [2, 6] rfl) hS (Nat.le_of_ble_eq_true rfl) (Nat.le_of_ble_eq_true rfl)
                · have ne_x1_7 : ¬ x1 = 7 := d_550
                  by_cases d_550 : x1 = 8
                  · have e_x1 : x1 = 8 := d_550
                    subst e_x1
                    by_cases d_550 : x2 < 0
                    · have hi_x2 : x2 ≤ (-1) := u_lt d_550 (by decide)
                      refine wrap (mW om 0 q cI cZ) (mid := ((xW o u cI cZ cJ) ++ [(ao, .inl (cJ, 1, .inr (.inl (fun _ => 0))))])) (As := [.ref o, .int 8, .int x2, .int x3, .int x4, .ref ao]) S (h_node_16 l D cI cZ cJ o u ao hst ra ga H.size x2 x3 x4 hi_x2) msh_L_node kw_6_20 rfl rfl ⟨Nat.le_of_ble_eq_true rfl, Nat.le_of_ble_eq_true rfl⟩ hP hD hK hS hA hB hC hl.1 (Nat.le_of_ble_eq_true rfl) ⟨Nat.le_of_ble_eq_true rfl, Nat.le_of_ble_eq_true rfl⟩ dL_law_550 (fun H locs hz hP hD hS => ?_)
                      have hP : va_P D vwCl ((mW om 0 q cI cZ) ++ ((xW o u cI cZ cJ) ++ [(ao, .inl (cJ, 1, .inr (.inl (fun _ => 0))))])) H := hP
                      have hD : va_D (fun q : Nat => s.heap.size ≤ q) ((mW om 0 q cI cZ) ++ ((xW o u cI cZ cJ) ++ [(ao, .inl (cJ, 1, .inr (.inl (fun _ => 0))))])) := hD
                      refine lv_istore (lv' := [(5, .int 1), (4, .int 0), (3, .ref ao), (2, .ref om), (1, .ref o), (0, .ref b)]) hx hb dL_law_553 hl (by decide) rfl (fun ls hl => ?_)
                      refine lv_aload_n hx hb dL_law_555 rfl (lv_at hl 3 rfl) ?_
                      refine lv_aload_n hx hb dL_law_556 rfl (lv_at hl 5 rfl) ?_
                      refine lv_iload hx hb dL_law_557 (lv_at hl 1 rfl) ?_
                      refine lv_iconst (v := 1) hx hb dL_law_559 (by decide) ?_
                      refine xiadd (v := 1) S dL_law_560 (by decide) ?_
                      refine xsld (v := 8) S hX hbl hbA hS (vin rfl) h1 dL_law_561 ?_
                      refine lv_aload_n hx hb dL_law_562 rfl (lv_at hl 5 rfl) ?_
                      refine lv_iload hx hb dL_law_563 (lv_at hl 1 rfl) ?_
                      refine lv_iconst (v := 2) hx hb dL_law_565 (by decide) ?_
                      refine xiadd (v := 2) S dL_law_566 (by decide) ?_
                      refine xsld (v := x2) S hX hbl hbA hS (vin rfl) h2 dL_law_567 ?_
                      refine lv_aload_n hx hb dL_law_568 rfl (lv_at hl 5 rfl) ?_
                      refine lv_iload hx hb dL_law_569 (lv_at hl 1 rfl) ?_
                      refine lv_iconst (v := 3) hx hb dL_law_571 (by decide) ?_
                      refine xiadd (v := 3) S dL_law_572 (by decide) ?_
                      refine xsld (v := x3) S hX hbl hbA hS (vin rfl) h3 dL_law_573 ?_
                      refine lv_aload_n hx hb dL_law_574 rfl (lv_at hl 5 rfl) ?_
                      refine lv_iload hx hb dL_law_575 (lv_at hl 1 rfl) ?_
                      refine lv_iconst (v := 4) hx hb dL_law_577 (by decide) ?_
                      refine xiadd (v := 4) S dL_law_578 (by decide) ?_
                      refine xsld (v := x4) S hX hbl hbA hS (vin rfl) h4 dL_law_579 ?_
                      refine fVi [] ((xW o u cI cZ cJ) ++ [(ao, .inl (cJ, 1, .inr (.inl (fun _ => 0))))]) (mid := (mW om 0 q cI cZ)) (As := [.int 8, .int x2, .int x3, .int x4]) (ci := 9) S (c_X9_node_16 l D cI cZ cJ om q H.size x2 x3 x4 hi_x2) mi_X9_node kw_7_151 rfl rfl ⟨Nat.le_of_ble_eq_true rfl, Nat.le_of_ble_eq_true rfl⟩ hP hD hK hS hA mW_0 rfl rfl hl.1 (Nat.le_of_ble_eq_true rfl) ⟨Nat.le_of_ble_eq_true rfl, Nat.le_of_ble_eq_true rfl⟩ dL_law_580 (fun H locs hz hP hD hS => ?_)
                      have hP : va_P D vwCl ((mW om 1 q cI cZ) ++ ((xW o u cI cZ cJ) ++ [(ao, .inl (cJ, 1, .inr (.inl (fun _ => 0))))])) H := hP
                      have hD : va_D (fun q : Nat => s.heap.size ≤ q) ((mW om 1 q cI cZ) ++ ((xW o u cI cZ cJ) ++ [(ao, .inl (cJ, 1, .inr (.inl (fun _ => 0))))])) := hD
                      refine lv_istore (lv' := [(6, .int 0), (5, .int 1), (4, .int 0), (3, .ref ao), (2, .ref om), (1, .ref o), (0, .ref b)]) hx hb dL_law_583 hl (by decide) rfl (fun ls hl => ?_)
                      refine lv_aload_n hx hb dL_law_585 rfl (lv_at hl 4 rfl) ?_
                      refine rdV (As := []) (ci := 9) S (c_X9_thrown_0 l D cI cZ cJ om q) mi_X9_thrown kw_7_89 ⟨rfl, rfl⟩ ⟨Nat.le_of_ble_eq_true rfl, Nat.le_of_ble_eq_true rfl⟩ (va_Pl (ws := (mW om 1 q cI cZ)) (x := ((xW o u cI cZ cJ) ++ [(ao, .inl (cJ, 1, .inr (.inl (fun _ => 0))))])) hP) hK mW_0 rfl rfl hl.1 (Nat.le_of_ble_eq_true rfl) ⟨Nat.le_of_ble_eq_true rfl, Nat.le_of_ble_eq_true rfl⟩ dL_law_586 ?_
                      refine lv_iload hx hb dL_law_589 (lv_at hl 1 rfl) ?_
                      refine lv_icmp_eq (tgt := 596) hx hb dL_law_591 (by decide) (fun _ => ?_) (fun c => absurd c (by decide))
                      refine lv_iload hx hb dL_law_596 (lv_at hl 1 rfl) ?_
                      refine lv_if_ne (tgt := 613) hx hb dL_law_598 (by decide) (fun _ => ?_) (fun c => absurd c (by decide))
                      refine lv_goto (tgt := 1519) hx hb dL_law_613 (by decide) ?_
                      exact law_tail (cells := 121) (slots := 12964) S hr hlocks hX hbl (lv_sub hl [2, 6] rfl) hS (Nat.le_of_ble_eq_true rfl) (Nat.le_of_ble_eq_true rfl)
                    · have lo_x2 : 0 ≤ x2 := l_nlt d_550
                      by_cases d_550 : 16 ≤ x2
                      · have lo_x2 : 16 ≤ x2 := d_550
                        refine wrap (mW om 0 q cI cZ) (mid := ((xW o u cI cZ cJ) ++ [(ao, .inl (cJ, 1, .inr (.inl (fun _ => 0))))])) (As := [.ref o, .int 8, .int x2, .int x3, .int x4, .ref ao]) S (h_node_17 l D cI cZ cJ o u ao hst ra ga H.size x2 x3 x4 lo_x2) msh_L_node kw_6_20 rfl rfl ⟨Nat.le_of_ble_eq_true rfl, Nat.le_of_ble_eq_true rfl⟩ hP hD hK hS hA hB hC hl.1 (Nat.le_of_ble_eq_true rfl) ⟨Nat.le_of_ble_eq_true rfl, Nat.le_of_ble_eq_true rfl⟩ dL_law_550 (fun H locs hz hP hD hS => ?_)
                        have hP : va_P D vwCl ((mW om 0 q cI cZ) ++ ((xW o u cI cZ cJ) ++ [(ao, .inl (cJ, 1, .inr (.inl (fun _ => 0))))])) H := hP
                        have hD : va_D (fun q : Nat => s.heap.size ≤ q) ((mW om 0 q cI cZ) ++ ((xW o u cI cZ cJ) ++ [(ao, .inl (cJ, 1, .inr (.inl (fun _ => 0))))])) := hD
                        refine lv_istore (lv' := [(5, .int 1), (4, .int 0), (3, .ref ao), (2, .ref om), (1, .ref o), (0, .ref b)]) hx hb dL_law_553 hl (by decide) rfl (fun ls hl => ?_)
                        refine lv_aload_n hx hb dL_law_555 rfl (lv_at hl 3 rfl) ?_
                        refine lv_aload_n hx hb dL_law_556 rfl (lv_at hl 5 rfl) ?_
                        refine lv_iload hx hb dL_law_557 (lv_at hl 1 rfl) ?_
                        refine lv_iconst (v := 1) hx hb dL_law_559 (by decide) ?_
                        refine xiadd (v := 1) S dL_law_560 (by decide) ?_
                        refine xsld (v := 8) S hX hbl hbA hS (vin rfl) h1 dL_law_561 ?_
                        refine lv_aload_n hx hb dL_law_562 rfl (lv_at hl 5 rfl) ?_
                        refine lv_iload hx hb dL_law_563 (lv_at hl 1 rfl) ?_
                        refine lv_iconst (v := 2) hx hb dL_law_565 (by decide) ?_
                        refine xiadd (v := 2) S dL_law_566 (by decide) ?_
                        refine xsld (v := x2) S hX hbl hbA hS (vin rfl) h2 dL_law_567 ?_
                        refine lv_aload_n hx hb dL_law_568 rfl (lv_at hl 5 rfl) ?_
                        refine lv_iload hx hb dL_law_569 (lv_at hl 1 rfl) ?_
                        refine lv_iconst (v := 3) hx hb dL_law_571 (by decide) ?_
                        refine xiadd (v := 3) S dL_law_572 (by decide) ?_
                        refine xsld (v := x3) S hX hbl hbA hS (vin rfl) h3 dL_law_573 ?_
                        refine lv_aload_n hx hb dL_law_574 rfl (lv_at hl 5 rfl) ?_
                        refine lv_iload hx hb dL_law_575 (lv_at hl 1 rfl) ?_
                        refine lv_iconst (v := 4) hx hb dL_law_577 (by decide) ?_
                        refine xiadd (v := 4) S dL_law_578 (by decide) ?_
                        refine xsld (v := x4) S hX hbl hbA hS (vin rfl) h4 dL_law_579 ?_
                        refine fVi [] ((xW o u cI cZ cJ) ++ [(ao, .inl (cJ, 1, .inr (.inl (fun _ => 0))))]) (mid := (mW om 0 q cI cZ)) (As := [.int 8, .int x2, .int x3, .int x4]) (ci := 9) S (c_X9_node_17 l D cI cZ cJ om q H.size x2 x3 x4 lo_x2) mi_X9_node kw_7_151 rfl rfl ⟨Nat.le_of_ble_eq_true rfl, Nat.le_of_ble_eq_true rfl⟩ hP hD hK hS hA mW_0 rfl rfl hl.1 (Nat.le_of_ble_eq_true rfl) ⟨Nat.le_of_ble_eq_true rfl, Nat.le_of_ble_eq_true rfl⟩ dL_law_580 (fun H locs hz hP hD hS => ?_)
                        have hP : va_P D vwCl ((mW om 1 q cI cZ) ++ ((xW o u cI cZ cJ) ++ [(ao, .inl (cJ, 1, .inr (.inl (fun _ => 0))))])) H := hP
                        have hD : va_D (fun q : Nat => s.heap.size ≤ q) ((mW om 1 q cI cZ) ++ ((xW o u cI cZ cJ) ++ [(ao, .inl (cJ, 1, .inr (.inl (fun _ => 0))))])) := hD
                        refine lv_istore (lv' := [(6, .int 0), (5, .int 1), (4, .int 0), (3, .ref ao), (2, .ref om), (1, .ref o), (0, .ref b)]) hx hb dL_law_583 hl (by decide) rfl (fun ls hl => ?_)
                        refine lv_aload_n hx hb dL_law_585 rfl (lv_at hl 4 rfl) ?_
                        refine rdV (As := []) (ci := 9) S (c_X9_thrown_0 l D cI cZ cJ om q) mi_X9_thrown kw_7_89 ⟨rfl, rfl⟩ ⟨Nat.le_of_ble_eq_true rfl, Nat.le_of_ble_eq_true rfl⟩ (va_Pl (ws := (mW om 1 q cI cZ)) (x := ((xW o u cI cZ cJ) ++ [(ao, .inl (cJ, 1, .inr (.inl (fun _ => 0))))])) hP) hK mW_0 rfl rfl hl.1 (Nat.le_of_ble_eq_true rfl) ⟨Nat.le_of_ble_eq_true rfl, Nat.le_of_ble_eq_true rfl⟩ dL_law_586 ?_
                        refine lv_iload hx hb dL_law_589 (lv_at hl 1 rfl) ?_
                        refine lv_icmp_eq (tgt := 596) hx hb dL_law_591 (by decide) (fun _ => ?_) (fun c => absurd c (by decide))
                        refine lv_iload hx hb dL_law_596 (lv_at hl 1 rfl) ?_
                        refine lv_if_ne (tgt := 613) hx hb dL_law_598 (by decide) (fun _ => ?_) (fun c => absurd c (by decide))
                        refine lv_goto (tgt := 1519) hx hb dL_law_613 (by decide) ?_
                        exact law_tail (cells := 121) (slots := 12964) S hr hlocks hX hbl (lv_sub hl [2, 6] rfl) hS (Nat.le_of_ble_eq_true rfl) (Nat.le_of_ble_eq_true rfl)
                      · have hi_x2 : x2 ≤ 15 := u_nge d_550 (by decide)
                        by_cases d_550 : x3 = (-1)
                        · have e_x3 : x3 = (-1) := d_550
                          subst e_x3
                          by_cases d_550 : x4 = 0
                          · have e_x4 : x4 = 0 := d_550
                            subst e_x4
                            refine wrap (mW om 0 q cI cZ) (mid := ((xW o u cI cZ cJ) ++ [(ao, .inl (cJ, 1, .inr (.inl (fun _ => 0))))])) (As := [.ref o, .int 8, .int x2, .int (-1), .int 0, .ref ao]) S (h_node_18 l D cI cZ cJ o u ao hst ra ga H.size x2 lo_x2 hi_x2) msh_L_node kw_6_20 rfl rfl ⟨Nat.le_of_ble_eq_true rfl, Nat.le_of_ble_eq_true rfl⟩ hP hD hK hS hA hB hC hl.1 (Nat.le_of_ble_eq_true rfl) ⟨Nat.le_of_ble_eq_true rfl, Nat.le_of_ble_eq_true rfl⟩ dL_law_550 (fun H locs hz hP hD hS => ?_)
                            have hP : va_P D vwCl ((mW om 0 q cI cZ) ++ (((((((((xW o u cI cZ cJ).set 13 ((u 12), .inr (5, ([.int 0, .ref (u 13), .ref (u 14), .ref (u 15), .ref (u 16), .ref (u 17), .ref (u 18)].set 0 (.int 1))))).set 14 ((u 13), .inl (cI, 110, .inl (upd (fun _ => 0) (0 : Int32).toNatClampNeg 8)))).set 15 ((u 14), .inl (cI, 110, .inl (upd (fun _ => 0) (0 : Int32).toNatClampNeg x2)))).set 16 ((u 15), .inl (cI, 110, .inl (upd (fun _ => 0) (0 : Int32).toNatClampNeg (-1))))).set 17 ((u 16), .inl (cI, 110, .inl (upd (fun _ => 0) (0 : Int32).toNatClampNeg 0)))).set 18 ((u 17), .inl (cI, 110, .inl (upd (fun _ => 0) (0 : Int32).toNatClampNeg (-1))))).set 19 ((u 18), .inl (cI, 110, .inl (upd (fun _ => 0) (0 : Int32).toNatClampNeg (-1))))) ++ [(ao, .inl (cJ, 1, .inr (.inl (vp_updL (fun _ => 0) (0 : Int32).toNatClampNeg 0))))])) H := hP
                            have hD : va_D (fun q : Nat => s.heap.size ≤ q) ((mW om 0 q cI cZ) ++ (((((((((xW o u cI cZ cJ).set 13 ((u 12), .inr (5, ([.int 0, .ref (u 13), .ref (u 14), .ref (u 15), .ref (u 16), .ref (u 17), .ref (u 18)].set 0 (.int 1))))).set 14 ((u 13), .inl (cI, 110, .inl (upd (fun _ => 0) (0 : Int32).toNatClampNeg 8)))).set 15 ((u 14), .inl (cI, 110, .inl (upd (fun _ => 0) (0 : Int32).toNatClampNeg x2)))).set 16 ((u 15), .inl (cI, 110, .inl (upd (fun _ => 0) (0 : Int32).toNatClampNeg (-1))))).set 17 ((u 16), .inl (cI, 110, .inl (upd (fun _ => 0) (0 : Int32).toNatClampNeg 0)))).set 18 ((u 17), .inl (cI, 110, .inl (upd (fun _ => 0) (0 : Int32).toNatClampNeg (-1))))).set 19 ((u 18), .inl (cI, 110, .inl (upd (fun _ => 0) (0 : Int32).toNatClampNeg (-1))))) ++ [(ao, .inl (cJ, 1, .inr (.inl (vp_updL (fun _ => 0) (0 : Int32).toNatClampNeg 0))))])) := hD
                            refine lv_istore (lv' := [(5, .int 0), (4, .int 0), (3, .ref ao), (2, .ref om), (1, .ref o), (0, .ref b)]) hx hb dL_law_553 hl (by decide) rfl (fun ls hl => ?_)
                            refine lv_aload_n hx hb dL_law_555 rfl (lv_at hl 3 rfl) ?_
                            refine lv_aload_n hx hb dL_law_556 rfl (lv_at hl 5 rfl) ?_
                            refine lv_iload hx hb dL_law_557 (lv_at hl 1 rfl) ?_
                            refine lv_iconst (v := 1) hx hb dL_law_559 (by decide) ?_
                            refine xiadd (v := 1) S dL_law_560 (by decide) ?_
                            refine xsld (v := 8) S hX hbl hbA hS (vin rfl) h1 dL_law_561 ?_
                            refine lv_aload_n hx hb dL_law_562 rfl (lv_at hl 5 rfl) ?_
                            refine lv_iload hx hb dL_law_563 (lv_at hl 1 rfl) ?_
                            refine lv_iconst (v := 2) hx hb dL_law_565 (by decide) ?_
                            refine xiadd (v := 2) S dL_law_566 (by decide) ?_
                            refine xsld (v := x2) S hX hbl hbA hS (vin rfl) h2 dL_law_567 ?_
                            refine lv_aload_n hx hb dL_law_568 rfl (lv_at hl 5 rfl) ?_
                            refine lv_iload hx hb dL_law_569 (lv_at hl 1 rfl) ?_
                            refine lv_iconst (v := 3) hx hb dL_law_571 (by decide) ?_
                            refine xiadd (v := 3) S dL_law_572 (by decide) ?_
                            refine xsld (v := (-1)) S hX hbl hbA hS (vin rfl) h3 dL_law_573 ?_
                            refine lv_aload_n hx hb dL_law_574 rfl (lv_at hl 5 rfl) ?_
                            refine lv_iload hx hb dL_law_575 (lv_at hl 1 rfl) ?_
                            refine lv_iconst (v := 4) hx hb dL_law_577 (by decide) ?_
                            refine xiadd (v := 4) S dL_law_578 (by decide) ?_
                            refine xsld (v := 0) S hX hbl hbA hS (vin rfl) h4 dL_law_579 ?_
                            refine fVi [] (((((((((xW o u cI cZ cJ).set 13 ((u 12), .inr (5, ([.int 0, .ref (u 13), .ref (u 14), .ref (u 15), .ref (u 16), .ref (u 17), .ref (u 18)].set 0 (.int 1))))).set 14 ((u 13), .inl (cI, 110, .inl (upd (fun _ => 0) (0 : Int32).toNatClampNeg 8)))).set 15 ((u 14), .inl (cI, 110, .inl (upd (fun _ => 0) (0 : Int32).toNatClampNeg x2)))).set 16 ((u 15), .inl (cI, 110, .inl (upd (fun _ => 0) (0 : Int32).toNatClampNeg (-1))))).set 17 ((u 16), .inl (cI, 110, .inl (upd (fun _ => 0) (0 : Int32).toNatClampNeg 0)))).set 18 ((u 17), .inl (cI, 110, .inl (upd (fun _ => 0) (0 : Int32).toNatClampNeg (-1))))).set 19 ((u 18), .inl (cI, 110, .inl (upd (fun _ => 0) (0 : Int32).toNatClampNeg (-1))))) ++ [(ao, .inl (cJ, 1, .inr (.inl (vp_updL (fun _ => 0) (0 : Int32).toNatClampNeg 0))))]) (mid := (mW om 0 q cI cZ)) (As := [.int 8, .int x2, .int (-1), .int 0]) (ci := 9) S (c_X9_node_18 l D cI cZ cJ om q H.size x2 lo_x2 hi_x2) mi_X9_node kw_7_151 rfl rfl ⟨Nat.le_of_ble_eq_true rfl, Nat.le_of_ble_eq_true rfl⟩ hP hD hK hS hA mW_0 rfl rfl hl.1 (Nat.le_of_ble_eq_true rfl) ⟨Nat.le_of_ble_eq_true rfl, Nat.le_of_ble_eq_true rfl⟩ dL_law_580 (fun H locs hz hP hD hS => ?_)
                            have hP : va_P D vwCl (((((((((mW om 0 q cI cZ).set 0 (om, .inr (9, ((mF 0 q).set 13 (.int 1))))).set 12 ((q 11), .inl (cI, 110, .inl (upd (fun _ => 0) (0 : Int32).toNatClampNeg 8)))).set 13 ((q 12), .inl (cI, 110, .inl (upd (fun _ => 0) (0 : Int32).toNatClampNeg x2)))).set 14 ((q 13), .inl (cI, 110, .inl (upd (fun _ => 0) (0 : Int32).toNatClampNeg (-1))))).set 15 ((q 14), .inl (cI, 110, .inl (upd (fun _ => 0) (0 : Int32).toNatClampNeg 0)))).set 16 ((q 15), .inl (cI, 110, .inl (upd (fun _ => 0) (0 : Int32).toNatClampNeg (-1))))).set 17 ((q 16), .inl (cI, 110, .inl (upd (fun _ => 0) (0 : Int32).toNatClampNeg (-1))))) ++ (((((((((xW o u cI cZ cJ).set 13 ((u 12), .inr (5, ([.int 0, .ref (u 13), .ref (u 14), .ref (u 15), .ref (u 16), .ref (u 17), .ref (u 18)].set 0 (.int 1))))).set 14 ((u 13), .inl (cI, 110, .inl (upd (fun _ => 0) (0 : Int32).toNatClampNeg 8)))).set 15 ((u 14), .inl (cI, 110, .inl (upd (fun _ => 0) (0 : Int32).toNatClampNeg x2)))).set 16 ((u 15), .inl (cI, 110, .inl (upd (fun _ => 0) (0 : Int32).toNatClampNeg (-1))))).set 17 ((u 16), .inl (cI, 110, .inl (upd (fun _ => 0) (0 : Int32).toNatClampNeg 0)))).set 18 ((u 17), .inl (cI, 110, .inl (upd (fun _ => 0) (0 : Int32).toNatClampNeg (-1))))).set 19 ((u 18), .inl (cI, 110, .inl (upd (fun _ => 0) (0 : Int32).toNatClampNeg (-1))))) ++ [(ao, .inl (cJ, 1, .inr (.inl (vp_updL (fun _ => 0) (0 : Int32).toNatClampNeg 0))))])) H := hP
                            have hD : va_D (fun q : Nat => s.heap.size ≤ q) (((((((((mW om 0 q cI cZ).set 0 (om, .inr (9, ((mF 0 q).set 13 (.int 1))))).set 12 ((q 11), .inl (cI, 110, .inl (upd (fun _ => 0) (0 : Int32).toNatClampNeg 8)))).set 13 ((q 12), .inl (cI, 110, .inl (upd (fun _ => 0) (0 : Int32).toNatClampNeg x2)))).set 14 ((q 13), .inl (cI, 110, .inl (upd (fun _ => 0) (0 : Int32).toNatClampNeg (-1))))).set 15 ((q 14), .inl (cI, 110, .inl (upd (fun _ => 0) (0 : Int32).toNatClampNeg 0)))).set 16 ((q 15), .inl (cI, 110, .inl (upd (fun _ => 0) (0 : Int32).toNatClampNeg (-1))))).set 17 ((q 16), .inl (cI, 110, .inl (upd (fun _ => 0) (0 : Int32).toNatClampNeg (-1))))) ++ (((((((((xW o u cI cZ cJ).set 13 ((u 12), .inr (5, ([.int 0, .ref (u 13), .ref (u 14), .ref (u 15), .ref (u 16), .ref (u 17), .ref (u 18)].set 0 (.int 1))))).set 14 ((u 13), .inl (cI, 110, .inl (upd (fun _ => 0) (0 : Int32).toNatClampNeg 8)))).set 15 ((u 14), .inl (cI, 110, .inl (upd (fun _ => 0) (0 : Int32).toNatClampNeg x2)))).set 16 ((u 15), .inl (cI, 110, .inl (upd (fun _ => 0) (0 : Int32).toNatClampNeg (-1))))).set 17 ((u 16), .inl (cI, 110, .inl (upd (fun _ => 0) (0 : Int32).toNatClampNeg 0)))).set 18 ((u 17), .inl (cI, 110, .inl (upd (fun _ => 0) (0 : Int32).toNatClampNeg (-1))))).set 19 ((u 18), .inl (cI, 110, .inl (upd (fun _ => 0) (0 : Int32).toNatClampNeg (-1))))) ++ [(ao, .inl (cJ, 1, .inr (.inl (vp_updL (fun _ => 0) (0 : Int32).toNatClampNeg 0))))])) := hD
                            refine lv_istore (lv' := [(6, .int 0), (5, .int 0), (4, .int 0), (3, .ref ao), (2, .ref om), (1, .ref o), (0, .ref b)]) hx hb dL_law_583 hl (by decide) rfl (fun ls hl => ?_)
                            refine lv_aload_n hx hb dL_law_585 rfl (lv_at hl 4 rfl) ?_
                            refine rdV (As := []) (ci := 9) S (c_X9_thrown_11 l D cI cZ cJ om q x2 lo_x2 hi_x2) mi_X9_thrown kw_7_89 ⟨rfl, rfl⟩ ⟨Nat.le_of_ble_eq_true rfl, Nat.le_of_ble_eq_true rfl⟩ (va_Pl (ws := ((((((((mW om 0 q cI cZ).set 0 (om, .inr (9, ((mF 0 q).set 13 (.int 1))))).set 12 ((q 11), .inl (cI, 110, .inl (upd (fun _ => 0) (0 : Int32).toNatClampNeg 8)))).set 13 ((q 12), .inl (cI, 110, .inl (upd (fun _ => 0) (0 : Int32).toNatClampNeg x2)))).set 14 ((q 13), .inl (cI, 110, .inl (upd (fun _ => 0) (0 : Int32).toNatClampNeg (-1))))).set 15 ((q 14), .inl (cI, 110, .inl (upd (fun _ => 0) (0 : Int32).toNatClampNeg 0)))).set 16 ((q 15), .inl (cI, 110, .inl (upd (fun _ => 0) (0 : Int32).toNatClampNeg (-1))))).set 17 ((q 16), .inl (cI, 110, .inl (upd (fun _ => 0) (0 : Int32).toNatClampNeg (-1)))))) (x := (((((((((xW o u cI cZ cJ).set 13 ((u 12), .inr (5, ([.int 0, .ref (u 13), .ref (u 14), .ref (u 15), .ref (u 16), .ref (u 17), .ref (u 18)].set 0 (.int 1))))).set 14 ((u 13), .inl (cI, 110, .inl (upd (fun _ => 0) (0 : Int32).toNatClampNeg 8)))).set 15 ((u 14), .inl (cI, 110, .inl (upd (fun _ => 0) (0 : Int32).toNatClampNeg x2)))).set 16 ((u 15), .inl (cI, 110, .inl (upd (fun _ => 0) (0 : Int32).toNatClampNeg (-1))))).set 17 ((u 16), .inl (cI, 110, .inl (upd (fun _ => 0) (0 : Int32).toNatClampNeg 0)))).set 18 ((u 17), .inl (cI, 110, .inl (upd (fun _ => 0) (0 : Int32).toNatClampNeg (-1))))).set 19 ((u 18), .inl (cI, 110, .inl (upd (fun _ => 0) (0 : Int32).toNatClampNeg (-1))))) ++ [(ao, .inl (cJ, 1, .inr (.inl (vp_updL (fun _ => 0) (0 : Int32).toNatClampNeg 0))))])) hP) hK (k := 0) rfl rfl rfl hl.1 (Nat.le_of_ble_eq_true rfl) ⟨Nat.le_of_ble_eq_true rfl, Nat.le_of_ble_eq_true rfl⟩ dL_law_586 ?_
                            refine lv_iload hx hb dL_law_589 (lv_at hl 1 rfl) ?_
                            refine lv_icmp_eq (tgt := 596) hx hb dL_law_591 (by decide) (fun _ => ?_) (fun c => absurd c (by decide))
                            refine lv_iload hx hb dL_law_596 (lv_at hl 1 rfl) ?_
                            refine lv_if_ne (tgt := 613) hx hb dL_law_598 (by decide) (fun c => absurd c (by decide)) (fun _ => ?_)
                            refine lv_aload_n hx hb dL_law_601 rfl (lv_at hl 3 rfl) ?_
                            refine lv_iconst (v := 0) hx hb dL_law_602 (by decide) ?_
                            refine xlald (t0 := 2) (v := 0) S hK hP (q0 := 119) rfl rfl (vin rfl) rfl dL_law_603 ?_
                            refine lv_iload hx hb dL_law_604 (lv_at hl 0 rfl) ?_
                            refine lv_i2l (v := 0) hx hb dL_law_606 (by decide) ?_
                            refine xlcmp (v := 0) S dL_law_607 (by decide) ?_
                            refine lv_if_eq (tgt := 613) hx hb dL_law_608 (by decide) (fun _ => ?_) (fun c => absurd c (by decide))
                            refine lv_goto (tgt := 1519) hx hb dL_law_613 (by decide) ?_
                            exact law_tail (cells := 120) (slots := 12958) S hr hlocks hX hbl (lv_sub hl [2, 6] rfl) hS (Nat.le_of_ble_eq_true rfl) (Nat.le_of_ble_eq_true rfl)
                          · have ne_x4_0 : ¬ x4 = 0 := d_550
                            refine wrap (mW om 0 q cI cZ) (mid := ((xW o u cI cZ cJ) ++ [(ao, .inl (cJ, 1, .inr (.inl (fun _ => 0))))])) (As := [.ref o, .int 8, .int x2, .int (-1), .int x4, .ref ao]) S (h_node_19 l D cI cZ cJ o u ao hst ra ga H.size x2 x4 lo_x2 hi_x2 ne_x4_0) msh_L_node kw_6_20 rfl rfl ⟨Nat.le_of_ble_eq_true rfl, Nat.le_of_ble_eq_true rfl⟩ hP hD hK hS hA hB hC hl.1 (Nat.le_of_ble_eq_true rfl) ⟨Nat.le_of_ble_eq_true rfl, Nat.le_of_ble_eq_true rfl⟩ dL_law_550 (fun H locs hz hP hD hS => ?_)
                            have hP : va_P D vwCl ((mW om 0 q cI cZ) ++ ((xW o u cI cZ cJ) ++ [(ao, .inl (cJ, 1, .inr (.inl (fun _ => 0))))])) H := hP
                            have hD : va_D (fun q : Nat => s.heap.size ≤ q) ((mW om 0 q cI cZ) ++ ((xW o u cI cZ cJ) ++ [(ao, .inl (cJ, 1, .inr (.inl (fun _ => 0))))])) := hD
                            refine lv_istore (lv' := [(5, .int 1), (4, .int 0), (3, .ref ao), (2, .ref om), (1, .ref o), (0, .ref b)]) hx hb dL_law_553 hl (by decide) rfl (fun ls hl => ?_)
                            refine lv_aload_n hx hb dL_law_555 rfl (lv_at hl 3 rfl) ?_
                            refine lv_aload_n hx hb dL_law_556 rfl (lv_at hl 5 rfl) ?_
                            refine lv_iload hx hb dL_law_557 (lv_at hl 1 rfl) ?_
                            refine lv_iconst (v := 1) hx hb dL_law_559 (by decide) ?_
                            refine xiadd (v := 1) S dL_law_560 (by decide) ?_
                            refine xsld (v := 8) S hX hbl hbA hS (vin rfl) h1 dL_law_561 ?_
                            refine lv_aload_n hx hb dL_law_562 rfl (lv_at hl 5 rfl) ?_
                            refine lv_iload hx hb dL_law_563 (lv_at hl 1 rfl) ?_
                            refine lv_iconst (v := 2) hx hb dL_law_565 (by decide) ?_
                            refine xiadd (v := 2) S dL_law_566 (by decide) ?_
                            refine xsld (v := x2) S hX hbl hbA hS (vin rfl) h2 dL_law_567 ?_
                            refine lv_aload_n hx hb dL_law_568 rfl (lv_at hl 5 rfl) ?_
                            refine lv_iload hx hb dL_law_569 (lv_at hl 1 rfl) ?_
                            refine lv_iconst (v := 3) hx hb dL_law_571 (by decide) ?_
                            refine xiadd (v := 3) S dL_law_572 (by decide) ?_
                            refine xsld (v := (-1)) S hX hbl hbA hS (vin rfl) h3 dL_law_573 ?_
                            refine lv_aload_n hx hb dL_law_574 rfl (lv_at hl 5 rfl) ?_
                            refine lv_iload hx hb dL_law_575 (lv_at hl 1 rfl) ?_
                            refine lv_iconst (v := 4) hx hb dL_law_577 (by decide) ?_
                            refine xiadd (v := 4) S dL_law_578 (by decide) ?_
                            refine xsld (v := x4) S hX hbl hbA hS (vin rfl) h4 dL_law_579 ?_
                            refine fVi [] ((xW o u cI cZ cJ) ++ [(ao, .inl (cJ, 1, .inr (.inl (fun _ => 0))))]) (mid := (mW om 0 q cI cZ)) (As := [.int 8, .int x2, .int (-1), .int x4]) (ci := 9) S (c_X9_node_19 l D cI cZ cJ om q H.size x2 x4 lo_x2 hi_x2 ne_x4_0) mi_X9_node kw_7_151 rfl rfl ⟨Nat.le_of_ble_eq_true rfl, Nat.le_of_ble_eq_true rfl⟩ hP hD hK hS hA mW_0 rfl rfl hl.1 (Nat.le_of_ble_eq_true rfl) ⟨Nat.le_of_ble_eq_true rfl, Nat.le_of_ble_eq_true rfl⟩ dL_law_580 (fun H locs hz hP hD hS => ?_)
                            have hP : va_P D vwCl ((mW om 1 q cI cZ) ++ ((xW o u cI cZ cJ) ++ [(ao, .inl (cJ, 1, .inr (.inl (fun _ => 0))))])) H := hP
                            have hD : va_D (fun q : Nat => s.heap.size ≤ q) ((mW om 1 q cI cZ) ++ ((xW o u cI cZ cJ) ++ [(ao, .inl (cJ, 1, .inr (.inl (fun _ => 0))))])) := hD
                            refine lv_istore (lv' := [(6, .int 0), (5, .int 1), (4, .int 0), (3, .ref ao), (2, .ref om), (1, .ref o), (0, .ref b)]) hx hb dL_law_583 hl (by decide) rfl (fun ls hl => ?_)
                            refine lv_aload_n hx hb dL_law_585 rfl (lv_at hl 4 rfl) ?_
                            refine rdV (As := []) (ci := 9) S (c_X9_thrown_0 l D cI cZ cJ om q) mi_X9_thrown kw_7_89 ⟨rfl, rfl⟩ ⟨Nat.le_of_ble_eq_true rfl, Nat.le_of_ble_eq_true rfl⟩ (va_Pl (ws := (mW om 1 q cI cZ)) (x := ((xW o u cI cZ cJ) ++ [(ao, .inl (cJ, 1, .inr (.inl (fun _ => 0))))])) hP) hK mW_0 rfl rfl hl.1 (Nat.le_of_ble_eq_true rfl) ⟨Nat.le_of_ble_eq_true rfl, Nat.le_of_ble_eq_true rfl⟩ dL_law_586 ?_
                            refine lv_iload hx hb dL_law_589 (lv_at hl 1 rfl) ?_
                            refine lv_icmp_eq (tgt := 596) hx hb dL_law_591 (by decide) (fun _ => ?_) (fun c => absurd c (by decide))
                            refine lv_iload hx hb dL_law_596 (lv_at hl 1 rfl) ?_
                            refine lv_if_ne (tgt := 613) hx hb dL_law_598 (by decide) (fun _ => ?_) (fun c => absurd c (by decide))
                            refine lv_goto (tgt := 1519) hx hb dL_law_613 (by decide) ?_
                            exact law_tail (cells := 121) (slots := 12964) S hr hlocks hX hbl (lv_sub hl [2, 6] rfl) hS (Nat.le_of_ble_eq_true rfl) (Nat.le_of_ble_eq_true rfl)
                        · have ne_x3_m1 : ¬ x3 = (-1) := d_550
                          refine wrap (mW om 0 q cI cZ) (mid := ((xW o u cI cZ cJ) ++ [(ao, .inl (cJ, 1, .inr (.inl (fun _ => 0))))])) (As := [.ref o, .int 8, .int x2, .int x3, .int x4, .ref ao]) S (h_node_20 l D cI cZ cJ o u ao hst ra ga H.size x2 x3 x4 lo_x2 hi_x2 ne_x3_m1) msh_L_node kw_6_20 rfl rfl ⟨Nat.le_of_ble_eq_true rfl, Nat.le_of_ble_eq_true rfl⟩ hP hD hK hS hA hB hC hl.1 (Nat.le_of_ble_eq_true rfl) ⟨Nat.le_of_ble_eq_true rfl, Nat.le_of_ble_eq_true rfl⟩ dL_law_550 (fun H locs hz hP hD hS => ?_)
                          have hP : va_P D vwCl ((mW om 0 q cI cZ) ++ ((xW o u cI cZ cJ) ++ [(ao, .inl (cJ, 1, .inr (.inl (fun _ => 0))))])) H := hP
                          have hD : va_D (fun q : Nat => s.heap.size ≤ q) ((mW om 0 q cI cZ) ++ ((xW o u cI cZ cJ) ++ [(ao, .inl (cJ, 1, .inr (.inl (fun _ => 0))))])) := hD
                          refine lv_istore (lv' := [(5, .int 1), (4, .int 0), (3, .ref ao), (2, .ref om), (1, .ref o), (0, .ref b)]) hx hb dL_law_553 hl (by decide) rfl (fun ls hl => ?_)
                          refine lv_aload_n hx hb dL_law_555 rfl (lv_at hl 3 rfl) ?_
                          refine lv_aload_n hx hb dL_law_556 rfl (lv_at hl 5 rfl) ?_
                          refine lv_iload hx hb dL_law_557 (lv_at hl 1 rfl) ?_
                          refine lv_iconst (v := 1) hx hb dL_law_559 (by decide) ?_
                          refine xiadd (v := 1) S dL_law_560 (by decide) ?_
                          refine xsld (v := 8) S hX hbl hbA hS (vin rfl) h1 dL_law_561 ?_
                          refine lv_aload_n hx hb dL_law_562 rfl (lv_at hl 5 rfl) ?_
                          refine lv_iload hx hb dL_law_563 (lv_at hl 1 rfl) ?_
                          refine lv_iconst (v := 2) hx hb dL_law_565 (by decide) ?_
                          refine xiadd (v := 2) S dL_law_566 (by decide) ?_
                          refine xsld (v := x2) S hX hbl hbA hS (vin rfl) h2 dL_law_567 ?_
                          refine lv_aload_n hx hb dL_law_568 rfl (lv_at hl 5 rfl) ?_
                          refine lv_iload hx hb dL_law_569 (lv_at hl 1 rfl) ?_
                          refine lv_iconst (v := 3) hx hb dL_law_571 (by decide) ?_
                          refine xiadd (v := 3) S dL_law_572 (by decide) ?_
                          refine xsld (v := x3) S hX hbl hbA hS (vin rfl) h3 dL_law_573 ?_
                          refine lv_aload_n hx hb dL_law_574 rfl (lv_at hl 5 rfl) ?_
                          refine lv_iload hx hb dL_law_575 (lv_at hl 1 rfl) ?_
                          refine lv_iconst (v := 4) hx hb dL_law_577 (by decide) ?_
                          refine xiadd (v := 4) S dL_law_578 (by decide) ?_
                          refine xsld (v := x4) S hX hbl hbA hS (vin rfl) h4 dL_law_579 ?_
                          refine fVi [] ((xW o u cI cZ cJ) ++ [(ao, .inl (cJ, 1, .inr (.inl (fun _ => 0))))]) (mid := (mW om 0 q cI cZ)) (As := [.int 8, .int x2, .int x3, .int x4]) (ci := 9) S (c_X9_node_20 l D cI cZ cJ om q H.size x2 x3 x4 lo_x2 hi_x2 ne_x3_m1) mi_X9_node kw_7_151 rfl rfl ⟨Nat.le_of_ble_eq_true rfl, Nat.le_of_ble_eq_true rfl⟩ hP hD hK hS hA mW_0 rfl rfl hl.1 (Nat.le_of_ble_eq_true rfl) ⟨Nat.le_of_ble_eq_true rfl, Nat.le_of_ble_eq_true rfl⟩ dL_law_580 (fun H locs hz hP hD hS => ?_)
                          have hP : va_P D vwCl ((mW om 1 q cI cZ) ++ ((xW o u cI cZ cJ) ++ [(ao, .inl (cJ, 1, .inr (.inl (fun _ => 0))))])) H := hP
                          have hD : va_D (fun q : Nat => s.heap.size ≤ q) ((mW om 1 q cI cZ) ++ ((xW o u cI cZ cJ) ++ [(ao, .inl (cJ, 1, .inr (.inl (fun _ => 0))))])) := hD
                          refine lv_istore (lv' := [(6, .int 0), (5, .int 1), (4, .int 0), (3, .ref ao), (2, .ref om), (1, .ref o), (0, .ref b)]) hx hb dL_law_583 hl (by decide) rfl (fun ls hl => ?_)
                          refine lv_aload_n hx hb dL_law_585 rfl (lv_at hl 4 rfl) ?_
                          refine rdV (As := []) (ci := 9) S (c_X9_thrown_0 l D cI cZ cJ om q) mi_X9_thrown kw_7_89 ⟨rfl, rfl⟩ ⟨Nat.le_of_ble_eq_true rfl, Nat.le_of_ble_eq_true rfl⟩ (va_Pl (ws := (mW om 1 q cI cZ)) (x := ((xW o u cI cZ cJ) ++ [(ao, .inl (cJ, 1, .inr (.inl (fun _ => 0))))])) hP) hK mW_0 rfl rfl hl.1 (Nat.le_of_ble_eq_true rfl) ⟨Nat.le_of_ble_eq_true rfl, Nat.le_of_ble_eq_true rfl⟩ dL_law_586 ?_
                          refine lv_iload hx hb dL_law_589 (lv_at hl 1 rfl) ?_
                          refine lv_icmp_eq (tgt := 596) hx hb dL_law_591 (by decide) (fun _ => ?_) (fun c => absurd c (by decide))
                          refine lv_iload hx hb dL_law_596 (lv_at hl 1 rfl) ?_
                          refine lv_if_ne (tgt := 613) hx hb dL_law_598 (by decide) (fun _ => ?_) (fun c => absurd c (by decide))
                          refine lv_goto (tgt := 1519) hx hb dL_law_613 (by decide) ?_
                          exact law_tail (cells := 121) (slots := 12964) S hr hlocks hX hbl (lv_sub hl [2, 6] rfl) hS (Nat.le_of_ble_eq_true rfl) (Nat.le_of_ble_eq_true rfl)
                  · have ne_x1_8 : ¬ x1 = 8 := d_550
                    by_cases d_550 : x1 = 9
                    · have e_x1 : x1 = 9 := d_550
                      subst e_x1
                      refine wrap (mW om 0 q cI cZ) (mid := ((xW o u cI cZ cJ) ++ [(ao, .inl (cJ, 1, .inr (.inl (fun _ => 0))))])) (As := [.ref o, .int 9, .int x2, .int x3, .int x4, .ref ao]) S (h_node_21 l D cI cZ cJ o u ao hst ra ga H.size x2 x3 x4) msh_L_node kw_6_20 rfl rfl ⟨Nat.le_of_ble_eq_true rfl, Nat.le_of_ble_eq_true rfl⟩ hP hD hK hS hA hB hC hl.1 (Nat.le_of_ble_eq_true rfl) ⟨Nat.le_of_ble_eq_true rfl, Nat.le_of_ble_eq_true rfl⟩ dL_law_550 (fun H locs hz hP hD hS => ?_)
                      have hP : va_P D vwCl ((mW om 0 q cI cZ) ++ ((xW o u cI cZ cJ) ++ [(ao, .inl (cJ, 1, .inr (.inl (fun _ => 0))))])) H := hP
                      have hD : va_D (fun q : Nat => s.heap.size ≤ q) ((mW om 0 q cI cZ) ++ ((xW o u cI cZ cJ) ++ [(ao, .inl (cJ, 1, .inr (.inl (fun _ => 0))))])) := hD
                      refine lv_istore (lv' := [(5, .int 1), (4, .int 0), (3, .ref ao), (2, .ref om), (1, .ref o), (0, .ref b)]) hx hb dL_law_553 hl (by decide) rfl (fun ls hl => ?_)
                      refine lv_aload_n hx hb dL_law_555 rfl (lv_at hl 3 rfl) ?_
                      refine lv_aload_n hx hb dL_law_556 rfl (lv_at hl 5 rfl) ?_
                      refine lv_iload hx hb dL_law_557 (lv_at hl 1 rfl) ?_
                      refine lv_iconst (v := 1) hx hb dL_law_559 (by decide) ?_
                      refine xiadd (v := 1) S dL_law_560 (by decide) ?_
                      refine xsld (v := 9) S hX hbl hbA hS (vin rfl) h1 dL_law_561 ?_
                      refine lv_aload_n hx hb dL_law_562 rfl (lv_at hl 5 rfl) ?_
                      refine lv_iload hx hb dL_law_563 (lv_at hl 1 rfl) ?_
                      refine lv_iconst (v := 2) hx hb dL_law_565 (by decide) ?_
                      refine xiadd (v := 2) S dL_law_566 (by decide) ?_
                      refine xsld (v := x2) S hX hbl hbA hS (vin rfl) h2 dL_law_567 ?_
                      refine lv_aload_n hx hb dL_law_568 rfl (lv_at hl 5 rfl) ?_
                      refine lv_iload hx hb dL_law_569 (lv_at hl 1 rfl) ?_
                      refine lv_iconst (v := 3) hx hb dL_law_571 (by decide) ?_
                      refine xiadd (v := 3) S dL_law_572 (by decide) ?_
                      refine xsld (v := x3) S hX hbl hbA hS (vin rfl) h3 dL_law_573 ?_
                      refine lv_aload_n hx hb dL_law_574 rfl (lv_at hl 5 rfl) ?_
                      refine lv_iload hx hb dL_law_575 (lv_at hl 1 rfl) ?_
                      refine lv_iconst (v := 4) hx hb dL_law_577 (by decide) ?_
                      refine xiadd (v := 4) S dL_law_578 (by decide) ?_
                      refine xsld (v := x4) S hX hbl hbA hS (vin rfl) h4 dL_law_579 ?_
                      refine fVi [] ((xW o u cI cZ cJ) ++ [(ao, .inl (cJ, 1, .inr (.inl (fun _ => 0))))]) (mid := (mW om 0 q cI cZ)) (As := [.int 9, .int x2, .int x3, .int x4]) (ci := 9) S (c_X9_node_21 l D cI cZ cJ om q H.size x2 x3 x4) mi_X9_node kw_7_151 rfl rfl ⟨Nat.le_of_ble_eq_true rfl, Nat.le_of_ble_eq_true rfl⟩ hP hD hK hS hA mW_0 rfl rfl hl.1 (Nat.le_of_ble_eq_true rfl) ⟨Nat.le_of_ble_eq_true rfl, Nat.le_of_ble_eq_true rfl⟩ dL_law_580 (fun H locs hz hP hD hS => ?_)
                      have hP : va_P D vwCl ((mW om 1 q cI cZ) ++ ((xW o u cI cZ cJ) ++ [(ao, .inl (cJ, 1, .inr (.inl (fun _ => 0))))])) H := hP
                      have hD : va_D (fun q : Nat => s.heap.size ≤ q) ((mW om 1 q cI cZ) ++ ((xW o u cI cZ cJ) ++ [(ao, .inl (cJ, 1, .inr (.inl (fun _ => 0))))])) := hD
                      refine lv_istore (lv' := [(6, .int 0), (5, .int 1), (4, .int 0), (3, .ref ao), (2, .ref om), (1, .ref o), (0, .ref b)]) hx hb dL_law_583 hl (by decide) rfl (fun ls hl => ?_)
                      refine lv_aload_n hx hb dL_law_585 rfl (lv_at hl 4 rfl) ?_
                      refine rdV (As := []) (ci := 9) S (c_X9_thrown_0 l D cI cZ cJ om q) mi_X9_thrown kw_7_89 ⟨rfl, rfl⟩ ⟨Nat.le_of_ble_eq_true rfl, Nat.le_of_ble_eq_true rfl⟩ (va_Pl (ws := (mW om 1 q cI cZ)) (x := ((xW o u cI cZ cJ) ++ [(ao, .inl (cJ, 1, .inr (.inl (fun _ => 0))))])) hP) hK mW_0 rfl rfl hl.1 (Nat.le_of_ble_eq_true rfl) ⟨Nat.le_of_ble_eq_true rfl, Nat.le_of_ble_eq_true rfl⟩ dL_law_586 ?_
                      refine lv_iload hx hb dL_law_589 (lv_at hl 1 rfl) ?_
                      refine lv_icmp_eq (tgt := 596) hx hb dL_law_591 (by decide) (fun _ => ?_) (fun c => absurd c (by decide))
                      refine lv_iload hx hb dL_law_596 (lv_at hl 1 rfl) ?_
                      refine lv_if_ne (tgt := 613) hx hb dL_law_598 (by decide) (fun _ => ?_) (fun c => absurd c (by decide))
                      refine lv_goto (tgt := 1519) hx hb dL_law_613 (by decide) ?_
                      exact law_tail (cells := 121) (slots := 12964) S hr hlocks hX hbl (lv_sub hl [2, 6] rfl) hS (Nat.le_of_ble_eq_true rfl) (Nat.le_of_ble_eq_true rfl)
                    · have ne_x1_9 : ¬ x1 = 9 := d_550
                      by_cases d_550 : x1 = 10
                      · have e_x1 : x1 = 10 := d_550
                        subst e_x1
                        by_cases d_550 : x2 < 0
                        · have hi_x2 : x2 ≤ (-1) := u_lt d_550 (by decide)
                          refine wrap (mW om 0 q cI cZ) (mid := ((xW o u cI cZ cJ) ++ [(ao, .inl (cJ, 1, .inr (.inl (fun _ => 0))))])) (As := [.ref o, .int 10, .int x2, .int x3, .int x4, .ref ao]) S (h_node_22 l D cI cZ cJ o u ao hst ra ga H.size x2 x3 x4 hi_x2) msh_L_node kw_6_20 rfl rfl ⟨Nat.le_of_ble_eq_true rfl, Nat.le_of_ble_eq_true rfl⟩ hP hD hK hS hA hB hC hl.1 (Nat.le_of_ble_eq_true rfl) ⟨Nat.le_of_ble_eq_true rfl, Nat.le_of_ble_eq_true rfl⟩ dL_law_550 (fun H locs hz hP hD hS => ?_)
                          have hP : va_P D vwCl ((mW om 0 q cI cZ) ++ ((xW o u cI cZ cJ) ++ [(ao, .inl (cJ, 1, .inr (.inl (fun _ => 0))))])) H := hP
                          have hD : va_D (fun q : Nat => s.heap.size ≤ q) ((mW om 0 q cI cZ) ++ ((xW o u cI cZ cJ) ++ [(ao, .inl (cJ, 1, .inr (.inl (fun _ => 0))))])) := hD
                          refine lv_istore (lv' := [(5, .int 1), (4, .int 0), (3, .ref ao), (2, .ref om), (1, .ref o), (0, .ref b)]) hx hb dL_law_553 hl (by decide) rfl (fun ls hl => ?_)
                          refine lv_aload_n hx hb dL_law_555 rfl (lv_at hl 3 rfl) ?_
                          refine lv_aload_n hx hb dL_law_556 rfl (lv_at hl 5 rfl) ?_
                          refine lv_iload hx hb dL_law_557 (lv_at hl 1 rfl) ?_
                          refine lv_iconst (v := 1) hx hb dL_law_559 (by decide) ?_
                          refine xiadd (v := 1) S dL_law_560 (by decide) ?_
                          refine xsld (v := 10) S hX hbl hbA hS (vin rfl) h1 dL_law_561 ?_
                          refine lv_aload_n hx hb dL_law_562 rfl (lv_at hl 5 rfl) ?_
                          refine lv_iload hx hb dL_law_563 (lv_at hl 1 rfl) ?_
                          refine lv_iconst (v := 2) hx hb dL_law_565 (by decide) ?_
                          refine xiadd (v := 2) S dL_law_566 (by decide) ?_
                          refine xsld (v := x2) S hX hbl hbA hS (vin rfl) h2 dL_law_567 ?_
                          refine lv_aload_n hx hb dL_law_568 rfl (lv_at hl 5 rfl) ?_
                          refine lv_iload hx hb dL_law_569 (lv_at hl 1 rfl) ?_
                          refine lv_iconst (v := 3) hx hb dL_law_571 (by decide) ?_
                          refine xiadd (v := 3) S dL_law_572 (by decide) ?_
                          refine xsld (v := x3) S hX hbl hbA hS (vin rfl) h3 dL_law_573 ?_
                          refine lv_aload_n hx hb dL_law_574 rfl (lv_at hl 5 rfl) ?_
                          refine lv_iload hx hb dL_law_575 (lv_at hl 1 rfl) ?_
                          refine lv_iconst (v := 4) hx hb dL_law_577 (by decide) ?_
                          refine xiadd (v := 4) S dL_law_578 (by decide) ?_
                          refine xsld (v := x4) S hX hbl hbA hS (vin rfl) h4 dL_law_579 ?_
                          refine fVi [] ((xW o u cI cZ cJ) ++ [(ao, .inl (cJ, 1, .inr (.inl (fun _ => 0))))]) (mid := (mW om 0 q cI cZ)) (As := [.int 10, .int x2, .int x3, .int x4]) (ci := 9) S (c_X9_node_22 l D cI cZ cJ om q H.size x2 x3 x4 hi_x2) mi_X9_node kw_7_151 rfl rfl ⟨Nat.le_of_ble_eq_true rfl, Nat.le_of_ble_eq_true rfl⟩ hP hD hK hS hA mW_0 rfl rfl hl.1 (Nat.le_of_ble_eq_true rfl) ⟨Nat.le_of_ble_eq_true rfl, Nat.le_of_ble_eq_true rfl⟩ dL_law_580 (fun H locs hz hP hD hS => ?_)
                          have hP : va_P D vwCl ((mW om 1 q cI cZ) ++ ((xW o u cI cZ cJ) ++ [(ao, .inl (cJ, 1, .inr (.inl (fun _ => 0))))])) H := hP
                          have hD : va_D (fun q : Nat => s.heap.size ≤ q) ((mW om 1 q cI cZ) ++ ((xW o u cI cZ cJ) ++ [(ao, .inl (cJ, 1, .inr (.inl (fun _ => 0))))])) := hD
                          refine lv_istore (lv' := [(6, .int 0), (5, .int 1), (4, .int 0), (3, .ref ao), (2, .ref om), (1, .ref o), (0, .ref b)]) hx hb dL_law_583 hl (by decide) rfl (fun ls hl => ?_)
                          refine lv_aload_n hx hb dL_law_585 rfl (lv_at hl 4 rfl) ?_
                          refine rdV (As := []) (ci := 9) S (c_X9_thrown_0 l D cI cZ cJ om q) mi_X9_thrown kw_7_89 ⟨rfl, rfl⟩ ⟨Nat.le_of_ble_eq_true rfl, Nat.le_of_ble_eq_true rfl⟩ (va_Pl (ws := (mW om 1 q cI cZ)) (x := ((xW o u cI cZ cJ) ++ [(ao, .inl (cJ, 1, .inr (.inl (fun _ => 0))))])) hP) hK mW_0 rfl rfl hl.1 (Nat.le_of_ble_eq_true rfl) ⟨Nat.le_of_ble_eq_true rfl, Nat.le_of_ble_eq_true rfl⟩ dL_law_586 ?_
                          refine lv_iload hx hb dL_law_589 (lv_at hl 1 rfl) ?_
                          refine lv_icmp_eq (tgt := 596) hx hb dL_law_591 (by decide) (fun _ => ?_) (fun c => absurd c (by decide))
                          refine lv_iload hx hb dL_law_596 (lv_at hl 1 rfl) ?_
                          refine lv_if_ne (tgt := 613) hx hb dL_law_598 (by decide) (fun _ => ?_) (fun c => absurd c (by decide))
                          refine lv_goto (tgt := 1519) hx hb dL_law_613 (by decide) ?_
                          exact law_tail (cells := 121) (slots := 12964) S hr hlocks hX hbl (lv_sub hl [2, 6] rfl) hS (Nat.le_of_ble_eq_true rfl) (Nat.le_of_ble_eq_true rfl)
                        · have lo_x2 : 0 ≤ x2 := l_nlt d_550
                          by_cases d_550 : 16 ≤ x2
                          · have lo_x2 : 16 ≤ x2 := d_550
                            refine wrap (mW om 0 q cI cZ) (mid := ((xW o u cI cZ cJ) ++ [(ao, .inl (cJ, 1, .inr (.inl (fun _ => 0))))])) (As := [.ref o, .int 10, .int x2, .int x3, .int x4, .ref ao]) S (h_node_23 l D cI cZ cJ o u ao hst ra ga H.size x2 x3 x4 lo_x2) msh_L_node kw_6_20 rfl rfl ⟨Nat.le_of_ble_eq_true rfl, Nat.le_of_ble_eq_true rfl⟩ hP hD hK hS hA hB hC hl.1 (Nat.le_of_ble_eq_true rfl) ⟨Nat.le_of_ble_eq_true rfl, Nat.le_of_ble_eq_true rfl⟩ dL_law_550 (fun H locs hz hP hD hS => ?_)
                            have hP : va_P D vwCl ((mW om 0 q cI cZ) ++ ((xW o u cI cZ cJ) ++ [(ao, .inl (cJ, 1, .inr (.inl (fun _ => 0))))])) H := hP
                            have hD : va_D (fun q : Nat => s.heap.size ≤ q) ((mW om 0 q cI cZ) ++ ((xW o u cI cZ cJ) ++ [(ao, .inl (cJ, 1, .inr (.inl (fun _ => 0))))])) := hD
                            refine lv_istore (lv' := [(5, .int 1), (4, .int 0), (3, .ref ao), (2, .ref om), (1, .ref o), (0, .ref b)]) hx hb dL_law_553 hl (by decide) rfl (fun ls hl => ?_)
                            refine lv_aload_n hx hb dL_law_555 rfl (lv_at hl 3 rfl) ?_
                            refine lv_aload_n hx hb dL_law_556 rfl (lv_at hl 5 rfl) ?_
                            refine lv_iload hx hb dL_law_557 (lv_at hl 1 rfl) ?_
                            refine lv_iconst (v := 1) hx hb dL_law_559 (by decide) ?_
                            refine xiadd (v := 1) S dL_law_560 (by decide) ?_
                            refine xsld (v := 10) S hX hbl hbA hS (vin rfl) h1 dL_law_561 ?_
                            refine lv_aload_n hx hb dL_law_562 rfl (lv_at hl 5 rfl) ?_
                            refine lv_iload hx hb dL_law_563 (lv_at hl 1 rfl) ?_
                            refine lv_iconst (v := 2) hx hb dL_law_565 (by decide) ?_
                            refine xiadd (v := 2) S dL_law_566 (by decide) ?_
                            refine xsld (v := x2) S hX hbl hbA hS (vin rfl) h2 dL_law_567 ?_
                            refine lv_aload_n hx hb dL_law_568 rfl (lv_at hl 5 rfl) ?_
                            refine lv_iload hx hb dL_law_569 (lv_at hl 1 rfl) ?_
                            refine lv_iconst (v := 3) hx hb dL_law_571 (by decide) ?_
                            refine xiadd (v := 3) S dL_law_572 (by decide) ?_
                            refine xsld (v := x3) S hX hbl hbA hS (vin rfl) h3 dL_law_573 ?_
                            refine lv_aload_n hx hb dL_law_574 rfl (lv_at hl 5 rfl) ?_
                            refine lv_iload hx hb dL_law_575 (lv_at hl 1 rfl) ?_
                            refine lv_iconst (v := 4) hx hb dL_law_577 (by decide) ?_
                            refine xiadd (v := 4) S dL_law_578 (by decide) ?_
                            refine xsld (v := x4) S hX hbl hbA hS (vin rfl) h4 dL_law_579 ?_
                            refine fVi [] ((xW o u cI cZ cJ) ++ [(ao, .inl (cJ, 1, .inr (.inl (fun _ => 0))))]) (mid := (mW om 0 q cI cZ)) (As := [.int 10, .int x2, .int x3, .int x4]) (ci := 9) S (c_X9_node_23 l D cI cZ cJ om q H.size x2 x3 x4 lo_x2) mi_X9_node kw_7_151 rfl rfl ⟨Nat.le_of_ble_eq_true rfl, Nat.le_of_ble_eq_true rfl⟩ hP hD hK hS hA mW_0 rfl rfl hl.1 (Nat.le_of_ble_eq_true rfl) ⟨Nat.le_of_ble_eq_true rfl, Nat.le_of_ble_eq_true rfl⟩ dL_law_580 (fun H locs hz hP hD hS => ?_)
                            have hP : va_P D vwCl ((mW om 1 q cI cZ) ++ ((xW o u cI cZ cJ) ++ [(ao, .inl (cJ, 1, .inr (.inl (fun _ => 0))))])) H := hP
                            have hD : va_D (fun q : Nat => s.heap.size ≤ q) ((mW om 1 q cI cZ) ++ ((xW o u cI cZ cJ) ++ [(ao, .inl (cJ, 1, .inr (.inl (fun _ => 0))))])) := hD
                            refine lv_istore (lv' := [(6, .int 0), (5, .int 1), (4, .int 0), (3, .ref ao), (2, .ref om), (1, .ref o), (0, .ref b)]) hx hb dL_law_583 hl (by decide) rfl (fun ls hl => ?_)
                            refine lv_aload_n hx hb dL_law_585 rfl (lv_at hl 4 rfl) ?_
                            refine rdV (As := []) (ci := 9) S (c_X9_thrown_0 l D cI cZ cJ om q) mi_X9_thrown kw_7_89 ⟨rfl, rfl⟩ ⟨Nat.le_of_ble_eq_true rfl, Nat.le_of_ble_eq_true rfl⟩ (va_Pl (ws := (mW om 1 q cI cZ)) (x := ((xW o u cI cZ cJ) ++ [(ao, .inl (cJ, 1, .inr (.inl (fun _ => 0))))])) hP) hK mW_0 rfl rfl hl.1 (Nat.le_of_ble_eq_true rfl) ⟨Nat.le_of_ble_eq_true rfl, Nat.le_of_ble_eq_true rfl⟩ dL_law_586 ?_
                            refine lv_iload hx hb dL_law_589 (lv_at hl 1 rfl) ?_
                            refine lv_icmp_eq (tgt := 596) hx hb dL_law_591 (by decide) (fun _ => ?_) (fun c => absurd c (by decide))
                            refine lv_iload hx hb dL_law_596 (lv_at hl 1 rfl) ?_
                            refine lv_if_ne (tgt := 613) hx hb dL_law_598 (by decide) (fun _ => ?_) (fun c => absurd c (by decide))
                            refine lv_goto (tgt := 1519) hx hb dL_law_613 (by decide) ?_
                            exact law_tail (cells := 121) (slots := 12964) S hr hlocks hX hbl (lv_sub hl [2, 6] rfl) hS (Nat.le_of_ble_eq_true rfl) (Nat.le_of_ble_eq_true rfl)
                          · have hi_x2 : x2 ≤ 15 := u_nge d_550 (by decide)
                            by_cases d_550 : x3 = 0
                            · have e_x3 : x3 = 0 := d_550
                              subst e_x3
                              by_cases d_550 : x4 = 0
                              · have e_x4 : x4 = 0 := d_550
                                subst e_x4
                                refine wrap (mW om 0 q cI cZ) (mid := ((xW o u cI cZ cJ) ++ [(ao, .inl (cJ, 1, .inr (.inl (fun _ => 0))))])) (As := [.ref o, .int 10, .int x2, .int 0, .int 0, .ref ao]) S (h_node_24 l D cI cZ cJ o u ao hst ra ga H.size x2 lo_x2 hi_x2) msh_L_node kw_6_20 rfl rfl ⟨Nat.le_of_ble_eq_true rfl, Nat.le_of_ble_eq_true rfl⟩ hP hD hK hS hA hB hC hl.1 (Nat.le_of_ble_eq_true rfl) ⟨Nat.le_of_ble_eq_true rfl, Nat.le_of_ble_eq_true rfl⟩ dL_law_550 (fun H locs hz hP hD hS => ?_)
                                have hP : va_P D vwCl ((mW om 0 q cI cZ) ++ (((((((((xW o u cI cZ cJ).set 13 ((u 12), .inr (5, ([.int 0, .ref (u 13), .ref (u 14), .ref (u 15), .ref (u 16), .ref (u 17), .ref (u 18)].set 0 (.int 1))))).set 14 ((u 13), .inl (cI, 110, .inl (upd (fun _ => 0) (0 : Int32).toNatClampNeg 10)))).set 15 ((u 14), .inl (cI, 110, .inl (upd (fun _ => 0) (0 : Int32).toNatClampNeg x2)))).set 16 ((u 15), .inl (cI, 110, .inl (upd (fun _ => 0) (0 : Int32).toNatClampNeg 0)))).set 17 ((u 16), .inl (cI, 110, .inl (upd (fun _ => 0) (0 : Int32).toNatClampNeg 0)))).set 18 ((u 17), .inl (cI, 110, .inl (upd (fun _ => 0) (0 : Int32).toNatClampNeg (-1))))).set 19 ((u 18), .inl (cI, 110, .inl (upd (fun _ => 0) (0 : Int32).toNatClampNeg (-1))))) ++ [(ao, .inl (cJ, 1, .inr (.inl (vp_updL (fun _ => 0) (0 : Int32).toNatClampNeg 0))))])) H := hP
                                have hD : va_D (fun q : Nat => s.heap.size ≤ q) ((mW om 0 q cI cZ) ++ (((((((((xW o u cI cZ cJ).set 13 ((u 12), .inr (5, ([.int 0, .ref (u 13), .ref (u 14), .ref (u 15), .ref (u 16), .ref (u 17), .ref (u 18)].set 0 (.int 1))))).set 14 ((u 13), .inl (cI, 110, .inl (upd (fun _ => 0) (0 : Int32).toNatClampNeg 10)))).set 15 ((u 14), .inl (cI, 110, .inl (upd (fun _ => 0) (0 : Int32).toNatClampNeg x2)))).set 16 ((u 15), .inl (cI, 110, .inl (upd (fun _ => 0) (0 : Int32).toNatClampNeg 0)))).set 17 ((u 16), .inl (cI, 110, .inl (upd (fun _ => 0) (0 : Int32).toNatClampNeg 0)))).set 18 ((u 17), .inl (cI, 110, .inl (upd (fun _ => 0) (0 : Int32).toNatClampNeg (-1))))).set 19 ((u 18), .inl (cI, 110, .inl (upd (fun _ => 0) (0 : Int32).toNatClampNeg (-1))))) ++ [(ao, .inl (cJ, 1, .inr (.inl (vp_updL (fun _ => 0) (0 : Int32).toNatClampNeg 0))))])) := hD
                                refine lv_istore (lv' := [(5, .int 0), (4, .int 0), (3, .ref ao), (2, .ref om), (1, .ref o), (0, .ref b)]) hx hb dL_law_553 hl (by decide) rfl (fun ls hl => ?_)
                                refine lv_aload_n hx hb dL_law_555 rfl (lv_at hl 3 rfl) ?_
                                refine lv_aload_n hx hb dL_law_556 rfl (lv_at hl 5 rfl) ?_
                                refine lv_iload hx hb dL_law_557 (lv_at hl 1 rfl) ?_
                                refine lv_iconst (v := 1) hx hb dL_law_559 (by decide) ?_
                                refine xiadd (v := 1) S dL_law_560 (by decide) ?_
                                refine xsld (v := 10) S hX hbl hbA hS (vin rfl) h1 dL_law_561 ?_
                                refine lv_aload_n hx hb dL_law_562 rfl (lv_at hl 5 rfl) ?_
                                refine lv_iload hx hb dL_law_563 (lv_at hl 1 rfl) ?_
                                refine lv_iconst (v := 2) hx hb dL_law_565 (by decide) ?_
                                refine xiadd (v := 2) S dL_law_566 (by decide) ?_
                                refine xsld (v := x2) S hX hbl hbA hS (vin rfl) h2 dL_law_567 ?_
                                refine lv_aload_n hx hb dL_law_568 rfl (lv_at hl 5 rfl) ?_
                                refine lv_iload hx hb dL_law_569 (lv_at hl 1 rfl) ?_
                                refine lv_iconst (v := 3) hx hb dL_law_571 (by decide) ?_
                                refine xiadd (v := 3) S dL_law_572 (by decide) ?_
                                refine xsld (v := 0) S hX hbl hbA hS (vin rfl) h3 dL_law_573 ?_
                                refine lv_aload_n hx hb dL_law_574 rfl (lv_at hl 5 rfl) ?_
                                refine lv_iload hx hb dL_law_575 (lv_at hl 1 rfl) ?_
                                refine lv_iconst (v := 4) hx hb dL_law_577 (by decide) ?_
                                refine xiadd (v := 4) S dL_law_578 (by decide) ?_
                                refine xsld (v := 0) S hX hbl hbA hS (vin rfl) h4 dL_law_579 ?_
                                refine fVi [] (((((((((xW o u cI cZ cJ).set 13 ((u 12), .inr (5, ([.int 0, .ref (u 13), .ref (u 14), .ref (u 15), .ref (u 16), .ref (u 17), .ref (u 18)].set 0 (.int 1))))).set 14 ((u 13), .inl (cI, 110, .inl (upd (fun _ => 0) (0 : Int32).toNatClampNeg 10)))).set 15 ((u 14), .inl (cI, 110, .inl (upd (fun _ => 0) (0 : Int32).toNatClampNeg x2)))).set 16 ((u 15), .inl (cI, 110, .inl (upd (fun _ => 0) (0 : Int32).toNatClampNeg 0)))).set 17 ((u 16), .inl (cI, 110, .inl (upd (fun _ => 0) (0 : Int32).toNatClampNeg 0)))).set 18 ((u 17), .inl (cI, 110, .inl (upd (fun _ => 0) (0 : Int32).toNatClampNeg (-1))))).set 19 ((u 18), .inl (cI, 110, .inl (upd (fun _ => 0) (0 : Int32).toNatClampNeg (-1))))) ++ [(ao, .inl (cJ, 1, .inr (.inl (vp_updL (fun _ => 0) (0 : Int32).toNatClampNeg 0))))]) (mid := (mW om 0 q cI cZ)) (As := [.int 10, .int x2, .int 0, .int 0]) (ci := 9) S (c_X9_node_24 l D cI cZ cJ om q H.size x2 lo_x2 hi_x2) mi_X9_node kw_7_151 rfl rfl ⟨Nat.le_of_ble_eq_true rfl, Nat.le_of_ble_eq_true rfl⟩ hP hD hK hS hA mW_0 rfl rfl hl.1 (Nat.le_of_ble_eq_true rfl) ⟨Nat.le_of_ble_eq_true rfl, Nat.le_of_ble_eq_true rfl⟩ dL_law_580 (fun H locs hz hP hD hS => ?_)
                                have hP : va_P D vwCl (((((((((mW om 0 q cI cZ).set 0 (om, .inr (9, ((mF 0 q).set 13 (.int 1))))).set 12 ((q 11), .inl (cI, 110, .inl (upd (fun _ => 0) (0 : Int32).toNatClampNeg 10)))).set 13 ((q 12), .inl (cI, 110, .inl (upd (fun _ => 0) (0 : Int32).toNatClampNeg x2)))).set 14 ((q 13), .inl (cI, 110, .inl (upd (fun _ => 0) (0 : Int32).toNatClampNeg 0)))).set 15 ((q 14), .inl (cI, 110, .inl (upd (fun _ => 0) (0 : Int32).toNatClampNeg 0)))).set 16 ((q 15), .inl (cI, 110, .inl (upd (fun _ => 0) (0 : Int32).toNatClampNeg (-1))))).set 17 ((q 16), .inl (cI, 110, .inl (upd (fun _ => 0) (0 : Int32).toNatClampNeg (-1))))) ++ (((((((((xW o u cI cZ cJ).set 13 ((u 12), .inr (5, ([.int 0, .ref (u 13), .ref (u 14), .ref (u 15), .ref (u 16), .ref (u 17), .ref (u 18)].set 0 (.int 1))))).set 14 ((u 13), .inl (cI, 110, .inl (upd (fun _ => 0) (0 : Int32).toNatClampNeg 10)))).set 15 ((u 14), .inl (cI, 110, .inl (upd (fun _ => 0) (0 : Int32).toNatClampNeg x2)))).set 16 ((u 15), .inl (cI, 110, .inl (upd (fun _ => 0) (0 : Int32).toNatClampNeg 0)))).set 17 ((u 16), .inl (cI, 110, .inl (upd (fun _ => 0) (0 : Int32).toNatClampNeg 0)))).set 18 ((u 17), .inl (cI, 110, .inl (upd (fun _ => 0) (0 : Int32).toNatClampNeg (-1))))).set 19 ((u 18), .inl (cI, 110, .inl (upd (fun _ => 0) (0 : Int32).toNatClampNeg (-1))))) ++ [(ao, .inl (cJ, 1, .inr (.inl (vp_updL (fun _ => 0) (0 : Int32).toNatClampNeg 0))))])) H := hP
                                have hD : va_D (fun q : Nat => s.heap.size ≤ q) (((((((((mW om 0 q cI cZ).set 0 (om, .inr (9, ((mF 0 q).set 13 (.int 1))))).set 12 ((q 11), .inl (cI, 110, .inl (upd (fun _ => 0) (0 : Int32).toNatClampNeg 10)))).set 13 ((q 12), .inl (cI, 110, .inl (upd (fun _ => 0) (0 : Int32).toNatClampNeg x2)))).set 14 ((q 13), .inl (cI, 110, .inl (upd (fun _ => 0) (0 : Int32).toNatClampNeg 0)))).set 15 ((q 14), .inl (cI, 110, .inl (upd (fun _ => 0) (0 : Int32).toNatClampNeg 0)))).set 16 ((q 15), .inl (cI, 110, .inl (upd (fun _ => 0) (0 : Int32).toNatClampNeg (-1))))).set 17 ((q 16), .inl (cI, 110, .inl (upd (fun _ => 0) (0 : Int32).toNatClampNeg (-1))))) ++ (((((((((xW o u cI cZ cJ).set 13 ((u 12), .inr (5, ([.int 0, .ref (u 13), .ref (u 14), .ref (u 15), .ref (u 16), .ref (u 17), .ref (u 18)].set 0 (.int 1))))).set 14 ((u 13), .inl (cI, 110, .inl (upd (fun _ => 0) (0 : Int32).toNatClampNeg 10)))).set 15 ((u 14), .inl (cI, 110, .inl (upd (fun _ => 0) (0 : Int32).toNatClampNeg x2)))).set 16 ((u 15), .inl (cI, 110, .inl (upd (fun _ => 0) (0 : Int32).toNatClampNeg 0)))).set 17 ((u 16), .inl (cI, 110, .inl (upd (fun _ => 0) (0 : Int32).toNatClampNeg 0)))).set 18 ((u 17), .inl (cI, 110, .inl (upd (fun _ => 0) (0 : Int32).toNatClampNeg (-1))))).set 19 ((u 18), .inl (cI, 110, .inl (upd (fun _ => 0) (0 : Int32).toNatClampNeg (-1))))) ++ [(ao, .inl (cJ, 1, .inr (.inl (vp_updL (fun _ => 0) (0 : Int32).toNatClampNeg 0))))])) := hD
                                refine lv_istore (lv' := [(6, .int 0), (5, .int 0), (4, .int 0), (3, .ref ao), (2, .ref om), (1, .ref o), (0, .ref b)]) hx hb dL_law_583 hl (by decide) rfl (fun ls hl => ?_)
                                refine lv_aload_n hx hb dL_law_585 rfl (lv_at hl 4 rfl) ?_
                                refine rdV (As := []) (ci := 9) S (c_X9_thrown_12 l D cI cZ cJ om q x2 lo_x2 hi_x2) mi_X9_thrown kw_7_89 ⟨rfl, rfl⟩ ⟨Nat.le_of_ble_eq_true rfl, Nat.le_of_ble_eq_true rfl⟩ (va_Pl (ws := ((((((((mW om 0 q cI cZ).set 0 (om, .inr (9, ((mF 0 q).set 13 (.int 1))))).set 12 ((q 11), .inl (cI, 110, .inl (upd (fun _ => 0) (0 : Int32).toNatClampNeg 10)))).set 13 ((q 12), .inl (cI, 110, .inl (upd (fun _ => 0) (0 : Int32).toNatClampNeg x2)))).set 14 ((q 13), .inl (cI, 110, .inl (upd (fun _ => 0) (0 : Int32).toNatClampNeg 0)))).set 15 ((q 14), .inl (cI, 110, .inl (upd (fun _ => 0) (0 : Int32).toNatClampNeg 0)))).set 16 ((q 15), .inl (cI, 110, .inl (upd (fun _ => 0) (0 : Int32).toNatClampNeg (-1))))).set 17 ((q 16), .inl (cI, 110, .inl (upd (fun _ => 0) (0 : Int32).toNatClampNeg (-1)))))) (x := (((((((((xW o u cI cZ cJ).set 13 ((u 12), .inr (5, ([.int 0, .ref (u 13), .ref (u 14), .ref (u 15), .ref (u 16), .ref (u 17), .ref (u 18)].set 0 (.int 1))))).set 14 ((u 13), .inl (cI, 110, .inl (upd (fun _ => 0) (0 : Int32).toNatClampNeg 10)))).set 15 ((u 14), .inl (cI, 110, .inl (upd (fun _ => 0) (0 : Int32).toNatClampNeg x2)))).set 16 ((u 15), .inl (cI, 110, .inl (upd (fun _ => 0) (0 : Int32).toNatClampNeg 0)))).set 17 ((u 16), .inl (cI, 110, .inl (upd (fun _ => 0) (0 : Int32).toNatClampNeg 0)))).set 18 ((u 17), .inl (cI, 110, .inl (upd (fun _ => 0) (0 : Int32).toNatClampNeg (-1))))).set 19 ((u 18), .inl (cI, 110, .inl (upd (fun _ => 0) (0 : Int32).toNatClampNeg (-1))))) ++ [(ao, .inl (cJ, 1, .inr (.inl (vp_updL (fun _ => 0) (0 : Int32).toNatClampNeg 0))))])) hP) hK (k := 0) rfl rfl rfl hl.1 (Nat.le_of_ble_eq_true rfl) ⟨Nat.le_of_ble_eq_true rfl, Nat.le_of_ble_eq_true rfl⟩ dL_law_586 ?_
                                refine lv_iload hx hb dL_law_589 (lv_at hl 1 rfl) ?_
                                refine lv_icmp_eq (tgt := 596) hx hb dL_law_591 (by decide) (fun _ => ?_) (fun c => absurd c (by decide))
                                refine lv_iload hx hb dL_law_596 (lv_at hl 1 rfl) ?_
                                refine lv_if_ne (tgt := 613) hx hb dL_law_598 (by decide) (fun c => absurd c (by decide)) (fun _ => ?_)
                                refine lv_aload_n hx hb dL_law_601 rfl (lv_at hl 3 rfl) ?_
                                refine lv_iconst (v := 0) hx hb dL_law_602 (by decide) ?_
                                refine xlald (t0 := 2) (v := 0) S hK hP (q0 := 119) rfl rfl (vin rfl) rfl dL_law_603 ?_
                                refine lv_iload hx hb dL_law_604 (lv_at hl 0 rfl) ?_
                                refine lv_i2l (v := 0) hx hb dL_law_606 (by decide) ?_
                                refine xlcmp (v := 0) S dL_law_607 (by decide) ?_
                                refine lv_if_eq (tgt := 613) hx hb dL_law_608 (by decide) (fun _ => ?_) (fun c => absurd c (by decide))
                                refine lv_goto (tgt := 1519) hx hb dL_law_613 (by decide) ?_
                                exact law_tail (cells := 120) (slots := 12958) S hr hlocks hX hbl (lv_sub hl [2, 6] rfl) hS (Nat.le_of_ble_eq_true rfl) (Nat.le_of_ble_eq_true rfl)
                              · have ne_x4_0 : ¬ x4 = 0 := d_550
                                refine wrap (mW om 0 q cI cZ) (mid := ((xW o u cI cZ cJ) ++ [(ao, .inl (cJ, 1, .inr (.inl (fun _ => 0))))])) (As := [.ref o, .int 10, .int x2, .int 0, .int x4, .ref ao]) S (h_node_25 l D cI cZ cJ o u ao hst ra ga H.size x2 x4 lo_x2 hi_x2 ne_x4_0) msh_L_node kw_6_20 rfl rfl ⟨Nat.le_of_ble_eq_true rfl, Nat.le_of_ble_eq_true rfl⟩ hP hD hK hS hA hB hC hl.1 (Nat.le_of_ble_eq_true rfl) ⟨Nat.le_of_ble_eq_true rfl, Nat.le_of_ble_eq_true rfl⟩ dL_law_550 (fun H locs hz hP hD hS => ?_)
                                have hP : va_P D vwCl ((mW om 0 q cI cZ) ++ ((xW o u cI cZ cJ) ++ [(ao, .inl (cJ, 1, .inr (.inl (fun _ => 0))))])) H := hP
                                have hD : va_D (fun q : Nat => s.heap.size ≤ q) ((mW om 0 q cI cZ) ++ ((xW o u cI cZ cJ) ++ [(ao, .inl (cJ, 1, .inr (.inl (fun _ => 0))))])) := hD
                                refine lv_istore (lv' := [(5, .int 1), (4, .int 0), (3, .ref ao), (2, .ref om), (1, .ref o), (0, .ref b)]) hx hb dL_law_553 hl (by decide) rfl (fun ls hl => ?_)
                                refine lv_aload_n hx hb dL_law_555 rfl (lv_at hl 3 rfl) ?_
                                refine lv_aload_n hx hb dL_law_556 rfl (lv_at hl 5 rfl) ?_
                                refine lv_iload hx hb dL_law_557 (lv_at hl 1 rfl) ?_
                                refine lv_iconst (v := 1) hx hb dL_law_559 (by decide) ?_
                                refine xiadd (v := 1) S dL_law_560 (by decide) ?_
                                refine xsld (v := 10) S hX hbl hbA hS (vin rfl) h1 dL_law_561 ?_
                                refine lv_aload_n hx hb dL_law_562 rfl (lv_at hl 5 rfl) ?_
                                refine lv_iload hx hb dL_law_563 (lv_at hl 1 rfl) ?_
                                refine lv_iconst (v := 2) hx hb dL_law_565 (by decide) ?_
                                refine xiadd (v := 2) S dL_law_566 (by decide) ?_
                                refine xsld (v := x2) S hX hbl hbA hS (vin rfl) h2 dL_law_567 ?_
                                refine lv_aload_n hx hb dL_law_568 rfl (lv_at hl 5 rfl) ?_
                                refine lv_iload hx hb dL_law_569 (lv_at hl 1 rfl) ?_
                                refine lv_iconst (v := 3) hx hb dL_law_571 (by decide) ?_
                                refine xiadd (v := 3) S dL_law_572 (by decide) ?_
                                refine xsld (v := 0) S hX hbl hbA hS (vin rfl) h3 dL_law_573 ?_
                                refine lv_aload_n hx hb dL_law_574 rfl (lv_at hl 5 rfl) ?_
                                refine lv_iload hx hb dL_law_575 (lv_at hl 1 rfl) ?_
                                refine lv_iconst (v := 4) hx hb dL_law_577 (by decide) ?_
                                refine xiadd (v := 4) S dL_law_578 (by decide) ?_
                                refine xsld (v := x4) S hX hbl hbA hS (vin rfl) h4 dL_law_579 ?_
                                refine fVi [] ((xW o u cI cZ cJ) ++ [(ao, .inl (cJ, 1, .inr (.inl (fun _ => 0))))]) (mid := (mW om 0 q cI cZ)) (As := [.int 10, .int x2, .int 0, .int x4]) (ci := 9) S (c_X9_node_25 l D cI cZ cJ om q H.size x2 x4 lo_x2 hi_x2 ne_x4_0) mi_X9_node kw_7_151 rfl rfl ⟨Nat.le_of_ble_eq_true rfl, Nat.le_of_ble_eq_true rfl⟩ hP hD hK hS hA mW_0 rfl rfl hl.1 (Nat.le_of_ble_eq_true rfl) ⟨Nat.le_of_ble_eq_true rfl, Nat.le_of_ble_eq_true rfl⟩ dL_law_580 (fun H locs hz hP hD hS => ?_)
                                have hP : va_P D vwCl ((mW om 1 q cI cZ) ++ ((xW o u cI cZ cJ) ++ [(ao, .inl (cJ, 1, .inr (.inl (fun _ => 0))))])) H := hP
                                have hD : va_D (fun q : Nat => s.heap.size ≤ q) ((mW om 1 q cI cZ) ++ ((xW o u cI cZ cJ) ++ [(ao, .inl (cJ, 1, .inr (.inl (fun _ => 0))))])) := hD
                                refine lv_istore (lv' := [(6, .int 0), (5, .int 1), (4, .int 0), (3, .ref ao), (2, .ref om), (1, .ref o), (0, .ref b)]) hx hb dL_law_583 hl (by decide) rfl (fun ls hl => ?_)
                                refine lv_aload_n hx hb dL_law_585 rfl (lv_at hl 4 rfl) ?_
                                refine rdV (As := []) (ci := 9) S (c_X9_thrown_0 l D cI cZ cJ om q) mi_X9_thrown kw_7_89 ⟨rfl, rfl⟩ ⟨Nat.le_of_ble_eq_true rfl, Nat.le_of_ble_eq_true rfl⟩ (va_Pl (ws := (mW om 1 q cI cZ)) (x := ((xW o u cI cZ cJ) ++ [(ao, .inl (cJ, 1, .inr (.inl (fun _ => 0))))])) hP) hK mW_0 rfl rfl hl.1 (Nat.le_of_ble_eq_true rfl) ⟨Nat.le_of_ble_eq_true rfl, Nat.le_of_ble_eq_true rfl⟩ dL_law_586 ?_
                                refine lv_iload hx hb dL_law_589 (lv_at hl 1 rfl) ?_
                                refine lv_icmp_eq (tgt := 596) hx hb dL_law_591 (by decide) (fun _ => ?_) (fun c => absurd c (by decide))
                                refine lv_iload hx hb dL_law_596 (lv_at hl 1 rfl) ?_
                                refine lv_if_ne (tgt := 613) hx hb dL_law_598 (by decide) (fun _ => ?_) (fun c => absurd c (by decide))
                                refine lv_goto (tgt := 1519) hx hb dL_law_613 (by decide) ?_
                                exact law_tail (cells := 121) (slots := 12964) S hr hlocks hX hbl (lv_sub hl [2, 6] rfl) hS (Nat.le_of_ble_eq_true rfl) (Nat.le_of_ble_eq_true rfl)
                            · have ne_x3_0 : ¬ x3 = 0 := d_550
                              refine wrap (mW om 0 q cI cZ) (mid := ((xW o u cI cZ cJ) ++ [(ao, .inl (cJ, 1, .inr (.inl (fun _ => 0))))])) (As := [.ref o, .int 10, .int x2, .int x3, .int x4, .ref ao]) S (h_node_26 l D cI cZ cJ o u ao hst ra ga H.size x2 x3 x4 lo_x2 hi_x2 ne_x3_0) msh_L_node kw_6_20 rfl rfl ⟨Nat.le_of_ble_eq_true rfl, Nat.le_of_ble_eq_true rfl⟩ hP hD hK hS hA hB hC hl.1 (Nat.le_of_ble_eq_true rfl) ⟨Nat.le_of_ble_eq_true rfl, Nat.le_of_ble_eq_true rfl⟩ dL_law_550 (fun H locs hz hP hD hS => ?_)
                              have hP : va_P D vwCl ((mW om 0 q cI cZ) ++ ((xW o u cI cZ cJ) ++ [(ao, .inl (cJ, 1, .inr (.inl (fun _ => 0))))])) H := hP
                              have hD : va_D (fun q : Nat => s.heap.size ≤ q) ((mW om 0 q cI cZ) ++ ((xW o u cI cZ cJ) ++ [(ao, .inl (cJ, 1, .inr (.inl (fun _ => 0))))])) := hD
                              refine lv_istore (lv' := [(5, .int 1), (4, .int 0), (3, .ref ao), (2, .ref om), (1, .ref o), (0, .ref b)]) hx hb dL_law_553 hl (by decide) rfl (fun ls hl => ?_)
                              refine lv_aload_n hx hb dL_law_555 rfl (lv_at hl 3 rfl) ?_
                              refine lv_aload_n hx hb dL_law_556 rfl (lv_at hl 5 rfl) ?_
                              refine lv_iload hx hb dL_law_557 (lv_at hl 1 rfl) ?_
                              refine lv_iconst (v := 1) hx hb dL_law_559 (by decide) ?_
                              refine xiadd (v := 1) S dL_law_560 (by decide) ?_
                              refine xsld (v := 10) S hX hbl hbA hS (vin rfl) h1 dL_law_561 ?_
                              refine lv_aload_n hx hb dL_law_562 rfl (lv_at hl 5 rfl) ?_
                              refine lv_iload hx hb dL_law_563 (lv_at hl 1 rfl) ?_
                              refine lv_iconst (v := 2) hx hb dL_law_565 (by decide) ?_
                              refine xiadd (v := 2) S dL_law_566 (by decide) ?_
                              refine xsld (v := x2) S hX hbl hbA hS (vin rfl) h2 dL_law_567 ?_
                              refine lv_aload_n hx hb dL_law_568 rfl (lv_at hl 5 rfl) ?_
                              refine lv_iload hx hb dL_law_569 (lv_at hl 1 rfl) ?_
                              refine lv_iconst (v := 3) hx hb dL_law_571 (by decide) ?_
                              refine xiadd (v := 3) S dL_law_572 (by decide) ?_
                              refine xsld (v := x3) S hX hbl hbA hS (vin rfl) h3 dL_law_573 ?_
                              refine lv_aload_n hx hb dL_law_574 rfl (lv_at hl 5 rfl) ?_
                              refine lv_iload hx hb dL_law_575 (lv_at hl 1 rfl) ?_
                              refine lv_iconst (v := 4) hx hb dL_law_577 (by decide) ?_
                              refine xiadd (v := 4) S dL_law_578 (by decide) ?_
                              refine xsld (v := x4) S hX hbl hbA hS (vin rfl) h4 dL_law_579 ?_
                              refine fVi [] ((xW o u cI cZ cJ) ++ [(ao, .inl (cJ, 1, .inr (.inl (fun _ => 0))))]) (mid := (mW om 0 q cI cZ)) (As := [.int 10, .int x2, .int x3, .int x4]) (ci := 9) S (c_X9_node_26 l D cI cZ cJ om q H.size x2 x3 x4 lo_x2 hi_x2 ne_x3_0) mi_X9_node kw_7_151 rfl rfl ⟨Nat.le_of_ble_eq_true rfl, Nat.le_of_ble_eq_true rfl⟩ hP hD hK hS hA mW_0 rfl rfl hl.1 (Nat.le_of_ble_eq_true rfl) ⟨Nat.le_of_ble_eq_true rfl, Nat.le_of_ble_eq_true rfl⟩ dL_law_580 (fun H locs hz hP hD hS => ?_)
                              have hP : va_P D vwCl ((mW om 1 q cI cZ) ++ ((xW o u cI cZ cJ) ++ [(ao, .inl (cJ, 1, .inr (.inl (fun _ => 0))))])) H := hP
                              have hD : va_D (fun q : Nat => s.heap.size ≤ q) ((mW om 1 q cI cZ) ++ ((xW o u cI cZ cJ) ++ [(ao, .inl (cJ, 1, .inr (.inl (fun _ => 0))))])) := hD
                              refine lv_istore (lv' := [(6, .int 0), (5, .int 1), (4, .int 0), (3, .ref ao), (2, .ref om), (1, .ref o), (0, .ref b)]) hx hb dL_law_583 hl (by decide) rfl (fun ls hl => ?_)
                              refine lv_aload_n hx hb dL_law_585 rfl (lv_at hl 4 rfl) ?_
                              refine rdV (As := []) (ci := 9) S (c_X9_thrown_0 l D cI cZ cJ om q) mi_X9_thrown kw_7_89 ⟨rfl, rfl⟩ ⟨Nat.le_of_ble_eq_true rfl, Nat.le_of_ble_eq_true rfl⟩ (va_Pl (ws := (mW om 1 q cI cZ)) (x := ((xW o u cI cZ cJ) ++ [(ao, .inl (cJ, 1, .inr (.inl (fun _ => 0))))])) hP) hK mW_0 rfl rfl hl.1 (Nat.le_of_ble_eq_true rfl) ⟨Nat.le_of_ble_eq_true rfl, Nat.le_of_ble_eq_true rfl⟩ dL_law_586 ?_
                              refine lv_iload hx hb dL_law_589 (lv_at hl 1 rfl) ?_
                              refine lv_icmp_eq (tgt := 596) hx hb dL_law_591 (by decide) (fun _ => ?_) (fun c => absurd c (by decide))
                              refine lv_iload hx hb dL_law_596 (lv_at hl 1 rfl) ?_
                              refine lv_if_ne (tgt := 613) hx hb dL_law_598 (by decide) (fun _ => ?_) (fun c => absurd c (by decide))
                              refine lv_goto (tgt := 1519) hx hb dL_law_613 (by decide) ?_
                              exact law_tail (cells := 121) (slots := 12964) S hr hlocks hX hbl (lv_sub hl [2, 6] rfl) hS (Nat.le_of_ble_eq_true rfl) (Nat.le_of_ble_eq_true rfl)
                      · have ne_x1_10 : ¬ x1 = 10 := d_550
                        by_cases d_550 : x1 = 11
                        · have e_x1 : x1 = 11 := d_550
                          subst e_x1
                          by_cases d_550 : x2 < 0
                          · have hi_x2 : x2 ≤ (-1) := u_lt d_550 (by decide)
                            refine wrap (mW om 0 q cI cZ) (mid := ((xW o u cI cZ cJ) ++ [(ao, .inl (cJ, 1, .inr (.inl (fun _ => 0))))])) (As := [.ref o, .int 11, .int x2, .int x3, .int x4, .ref ao]) S (h_node_27 l D cI cZ cJ o u ao hst ra ga H.size x2 x3 x4 hi_x2) msh_L_node kw_6_20 rfl rfl ⟨Nat.le_of_ble_eq_true rfl, Nat.le_of_ble_eq_true rfl⟩ hP hD hK hS hA hB hC hl.1 (Nat.le_of_ble_eq_true rfl) ⟨Nat.le_of_ble_eq_true rfl, Nat.le_of_ble_eq_true rfl⟩ dL_law_550 (fun H locs hz hP hD hS => ?_)
                            have hP : va_P D vwCl ((mW om 0 q cI cZ) ++ ((xW o u cI cZ cJ) ++ [(ao, .inl (cJ, 1, .inr (.inl (fun _ => 0))))])) H := hP
                            have hD : va_D (fun q : Nat => s.heap.size ≤ q) ((mW om 0 q cI cZ) ++ ((xW o u cI cZ cJ) ++ [(ao, .inl (cJ, 1, .inr (.inl (fun _ => 0))))])) := hD
                            refine lv_istore (lv' := [(5, .int 1), (4, .int 0), (3, .ref ao), (2, .ref om), (1, .ref o), (0, .ref b)]) hx hb dL_law_553 hl (by decide) rfl (fun ls hl => ?_)
                            refine lv_aload_n hx hb dL_law_555 rfl (lv_at hl 3 rfl) ?_
                            refine lv_aload_n hx hb dL_law_556 rfl (lv_at hl 5 rfl) ?_
                            refine lv_iload hx hb dL_law_557 (lv_at hl 1 rfl) ?_
                            refine lv_iconst (v := 1) hx hb dL_law_559 (by decide) ?_
                            refine xiadd (v := 1) S dL_law_560 (by decide) ?_
                            refine xsld (v := 11) S hX hbl hbA hS (vin rfl) h1 dL_law_561 ?_
                            refine lv_aload_n hx hb dL_law_562 rfl (lv_at hl 5 rfl) ?_
                            refine lv_iload hx hb dL_law_563 (lv_at hl 1 rfl) ?_
                            refine lv_iconst (v := 2) hx hb dL_law_565 (by decide) ?_
                            refine xiadd (v := 2) S dL_law_566 (by decide) ?_
                            refine xsld (v := x2) S hX hbl hbA hS (vin rfl) h2 dL_law_567 ?_
                            refine lv_aload_n hx hb dL_law_568 rfl (lv_at hl 5 rfl) ?_
                            refine lv_iload hx hb dL_law_569 (lv_at hl 1 rfl) ?_
                            refine lv_iconst (v := 3) hx hb dL_law_571 (by decide) ?_
                            refine xiadd (v := 3) S dL_law_572 (by decide) ?_
                            refine xsld (v := x3) S hX hbl hbA hS (vin rfl) h3 dL_law_573 ?_
                            refine lv_aload_n hx hb dL_law_574 rfl (lv_at hl 5 rfl) ?_
                            refine lv_iload hx hb dL_law_575 (lv_at hl 1 rfl) ?_
                            refine lv_iconst (v := 4) hx hb dL_law_577 (by decide) ?_
                            refine xiadd (v := 4) S dL_law_578 (by decide) ?_
                            refine xsld (v := x4) S hX hbl hbA hS (vin rfl) h4 dL_law_579 ?_
                            refine fVi [] ((xW o u cI cZ cJ) ++ [(ao, .inl (cJ, 1, .inr (.inl (fun _ => 0))))]) (mid := (mW om 0 q cI cZ)) (As := [.int 11, .int x2, .int x3, .int x4]) (ci := 9) S (c_X9_node_27 l D cI cZ cJ om q H.size x2 x3 x4 hi_x2) mi_X9_node kw_7_151 rfl rfl ⟨Nat.le_of_ble_eq_true rfl, Nat.le_of_ble_eq_true rfl⟩ hP hD hK hS hA mW_0 rfl rfl hl.1 (Nat.le_of_ble_eq_true rfl) ⟨Nat.le_of_ble_eq_true rfl, Nat.le_of_ble_eq_true rfl⟩ dL_law_580 (fun H locs hz hP hD hS => ?_)
                            have hP : va_P D vwCl ((mW om 1 q cI cZ) ++ ((xW o u cI cZ cJ) ++ [(ao, .inl (cJ, 1, .inr (.inl (fun _ => 0))))])) H := hP
                            have hD : va_D (fun q : Nat => s.heap.size ≤ q) ((mW om 1 q cI cZ) ++ ((xW o u cI cZ cJ) ++ [(ao, .inl (cJ, 1, .inr (.inl (fun _ => 0))))])) := hD
                            refine lv_istore (lv' := [(6, .int 0), (5, .int 1), (4, .int 0), (3, .ref ao), (2, .ref om), (1, .ref o), (0, .ref b)]) hx hb dL_law_583 hl (by decide) rfl (fun ls hl => ?_)
                            refine lv_aload_n hx hb dL_law_585 rfl (lv_at hl 4 rfl) ?_
                            refine rdV (As := []) (ci := 9) S (c_X9_thrown_0 l D cI cZ cJ om q) mi_X9_thrown kw_7_89 ⟨rfl, rfl⟩ ⟨Nat.le_of_ble_eq_true rfl, Nat.le_of_ble_eq_true rfl⟩ (va_Pl (ws := (mW om 1 q cI cZ)) (x := ((xW o u cI cZ cJ) ++ [(ao, .inl (cJ, 1, .inr (.inl (fun _ => 0))))])) hP) hK mW_0 rfl rfl hl.1 (Nat.le_of_ble_eq_true rfl) ⟨Nat.le_of_ble_eq_true rfl, Nat.le_of_ble_eq_true rfl⟩ dL_law_586 ?_
                            refine lv_iload hx hb dL_law_589 (lv_at hl 1 rfl) ?_
                            refine lv_icmp_eq (tgt := 596) hx hb dL_law_591 (by decide) (fun _ => ?_) (fun c => absurd c (by decide))
                            refine lv_iload hx hb dL_law_596 (lv_at hl 1 rfl) ?_
                            refine lv_if_ne (tgt := 613) hx hb dL_law_598 (by decide) (fun _ => ?_) (fun c => absurd c (by decide))
                            refine lv_goto (tgt := 1519) hx hb dL_law_613 (by decide) ?_
                            exact law_tail (cells := 121) (slots := 12964) S hr hlocks hX hbl (lv_sub hl [2, 6] rfl) hS (Nat.le_of_ble_eq_true rfl) (Nat.le_of_ble_eq_true rfl)
                          · have lo_x2 : 0 ≤ x2 := l_nlt d_550
                            by_cases d_550 : 16 ≤ x2
                            · have lo_x2 : 16 ≤ x2 := d_550
                              refine wrap (mW om 0 q cI cZ) (mid := ((xW o u cI cZ cJ) ++ [(ao, .inl (cJ, 1, .inr (.inl (fun _ => 0))))])) (As := [.ref o, .int 11, .int x2, .int x3, .int x4, .ref ao]) S (h_node_28 l D cI cZ cJ o u ao hst ra ga H.size x2 x3 x4 lo_x2) msh_L_node kw_6_20 rfl rfl ⟨Nat.le_of_ble_eq_true rfl, Nat.le_of_ble_eq_true rfl⟩ hP hD hK hS hA hB hC hl.1 (Nat.le_of_ble_eq_true rfl) ⟨Nat.le_of_ble_eq_true rfl, Nat.le_of_ble_eq_true rfl⟩ dL_law_550 (fun H locs hz hP hD hS => ?_)
                              have hP : va_P D vwCl ((mW om 0 q cI cZ) ++ ((xW o u cI cZ cJ) ++ [(ao, .inl (cJ, 1, .inr (.inl (fun _ => 0))))])) H := hP
                              have hD : va_D (fun q : Nat => s.heap.size ≤ q) ((mW om 0 q cI cZ) ++ ((xW o u cI cZ cJ) ++ [(ao, .inl (cJ, 1, .inr (.inl (fun _ => 0))))])) := hD
                              refine lv_istore (lv' := [(5, .int 1), (4, .int 0), (3, .ref ao), (2, .ref om), (1, .ref o), (0, .ref b)]) hx hb dL_law_553 hl (by decide) rfl (fun ls hl => ?_)
                              refine lv_aload_n hx hb dL_law_555 rfl (lv_at hl 3 rfl) ?_
                              refine lv_aload_n hx hb dL_law_556 rfl (lv_at hl 5 rfl) ?_
                              refine lv_iload hx hb dL_law_557 (lv_at hl 1 rfl) ?_
                              refine lv_iconst (v := 1) hx hb dL_law_559 (by decide) ?_
                              refine xiadd (v := 1) S dL_law_560 (by decide) ?_
                              refine xsld (v := 11) S hX hbl hbA hS (vin rfl) h1 dL_law_561 ?_
                              refine lv_aload_n hx hb dL_law_562 rfl (lv_at hl 5 rfl) ?_
                              refine lv_iload hx hb dL_law_563 (lv_at hl 1 rfl) ?_
                              refine lv_iconst (v := 2) hx hb dL_law_565 (by decide) ?_
                              refine xiadd (v := 2) S dL_law_566 (by decide) ?_
                              refine xsld (v := x2) S hX hbl hbA hS (vin rfl) h2 dL_law_567 ?_
                              refine lv_aload_n hx hb dL_law_568 rfl (lv_at hl 5 rfl) ?_
                              refine lv_iload hx hb dL_law_569 (lv_at hl 1 rfl) ?_
                              refine lv_iconst (v := 3) hx hb dL_law_571 (by decide) ?_
                              refine xiadd (v := 3) S dL_law_572 (by decide) ?_
                              refine xsld (v := x3) S hX hbl hbA hS (vin rfl) h3 dL_law_573 ?_
                              refine lv_aload_n hx hb dL_law_574 rfl (lv_at hl 5 rfl) ?_
                              refine lv_iload hx hb dL_law_575 (lv_at hl 1 rfl) ?_
                              refine lv_iconst (v := 4) hx hb dL_law_577 (by decide) ?_
                              refine xiadd (v := 4) S dL_law_578 (by decide) ?_
                              refine xsld (v := x4) S hX hbl hbA hS (vin rfl) h4 dL_law_579 ?_
                              refine fVi [] ((xW o u cI cZ cJ) ++ [(ao, .inl (cJ, 1, .inr (.inl (fun _ => 0))))]) (mid := (mW om 0 q cI cZ)) (As := [.int 11, .int x2, .int x3, .int x4]) (ci := 9) S (c_X9_node_28 l D cI cZ cJ om q H.size x2 x3 x4 lo_x2) mi_X9_node kw_7_151 rfl rfl ⟨Nat.le_of_ble_eq_true rfl, Nat.le_of_ble_eq_true rfl⟩ hP hD hK hS hA mW_0 rfl rfl hl.1 (Nat.le_of_ble_eq_true rfl) ⟨Nat.le_of_ble_eq_true rfl, Nat.le_of_ble_eq_true rfl⟩ dL_law_580 (fun H locs hz hP hD hS => ?_)
                              have hP : va_P D vwCl ((mW om 1 q cI cZ) ++ ((xW o u cI cZ cJ) ++ [(ao, .inl (cJ, 1, .inr (.inl (fun _ => 0))))])) H := hP
                              have hD : va_D (fun q : Nat => s.heap.size ≤ q) ((mW om 1 q cI cZ) ++ ((xW o u cI cZ cJ) ++ [(ao, .inl (cJ, 1, .inr (.inl (fun _ => 0))))])) := hD
                              refine lv_istore (lv' := [(6, .int 0), (5, .int 1), (4, .int 0), (3, .ref ao), (2, .ref om), (1, .ref o), (0, .ref b)]) hx hb dL_law_583 hl (by decide) rfl (fun ls hl => ?_)
                              refine lv_aload_n hx hb dL_law_585 rfl (lv_at hl 4 rfl) ?_
                              refine rdV (As := []) (ci := 9) S (c_X9_thrown_0 l D cI cZ cJ om q) mi_X9_thrown kw_7_89 ⟨rfl, rfl⟩ ⟨Nat.le_of_ble_eq_true rfl, Nat.le_of_ble_eq_true rfl⟩ (va_Pl (ws := (mW om 1 q cI cZ)) (x := ((xW o u cI cZ cJ) ++ [(ao, .inl (cJ, 1, .inr (.inl (fun _ => 0))))])) hP) hK mW_0 rfl rfl hl.1 (Nat.le_of_ble_eq_true rfl) ⟨Nat.le_of_ble_eq_true rfl, Nat.le_of_ble_eq_true rfl⟩ dL_law_586 ?_
                              refine lv_iload hx hb dL_law_589 (lv_at hl 1 rfl) ?_
                              refine lv_icmp_eq (tgt := 596) hx hb dL_law_591 (by decide) (fun _ => ?_) (fun c => absurd c (by decide))
                              refine lv_iload hx hb dL_law_596 (lv_at hl 1 rfl) ?_
                              refine lv_if_ne (tgt := 613) hx hb dL_law_598 (by decide) (fun _ => ?_) (fun c => absurd c (by decide))
                              refine lv_goto (tgt := 1519) hx hb dL_law_613 (by decide) ?_
                              exact law_tail (cells := 121) (slots := 12964) S hr hlocks hX hbl (lv_sub hl [2, 6] rfl) hS (Nat.le_of_ble_eq_true rfl) (Nat.le_of_ble_eq_true rfl)
                            · have hi_x2 : x2 ≤ 15 := u_nge d_550 (by decide)
                              by_cases d_550 : x3 = 0
                              · have e_x3 : x3 = 0 := d_550
                                subst e_x3
                                by_cases d_550 : x4 = 0
                                · have e_x4 : x4 = 0 := d_550
                                  subst e_x4
                                  refine wrap (mW om 0 q cI cZ) (mid := ((xW o u cI cZ cJ) ++ [(ao, .inl (cJ, 1, .inr (.inl (fun _ => 0))))])) (As := [.ref o, .int 11, .int x2, .int 0, .int 0, .ref ao]) S (h_node_29 l D cI cZ cJ o u ao hst ra ga H.size x2 lo_x2 hi_x2) msh_L_node kw_6_20 rfl rfl ⟨Nat.le_of_ble_eq_true rfl, Nat.le_of_ble_eq_true rfl⟩ hP hD hK hS hA hB hC hl.1 (Nat.le_of_ble_eq_true rfl) ⟨Nat.le_of_ble_eq_true rfl, Nat.le_of_ble_eq_true rfl⟩ dL_law_550 (fun H locs hz hP hD hS => ?_)
                                  have hP : va_P D vwCl ((mW om 0 q cI cZ) ++ (((((((((xW o u cI cZ cJ).set 13 ((u 12), .inr (5, ([.int 0, .ref (u 13), .ref (u 14), .ref (u 15), .ref (u 16), .ref (u 17), .ref (u 18)].set 0 (.int 1))))).set 14 ((u 13), .inl (cI, 110, .inl (upd (fun _ => 0) (0 : Int32).toNatClampNeg 11)))).set 15 ((u 14), .inl (cI, 110, .inl (upd (fun _ => 0) (0 : Int32).toNatClampNeg x2)))).set 16 ((u 15), .inl (cI, 110, .inl (upd (fun _ => 0) (0 : Int32).toNatClampNeg 0)))).set 17 ((u 16), .inl (cI, 110, .inl (upd (fun _ => 0) (0 : Int32).toNatClampNeg 0)))).set 18 ((u 17), .inl (cI, 110, .inl (upd (fun _ => 0) (0 : Int32).toNatClampNeg (-1))))).set 19 ((u 18), .inl (cI, 110, .inl (upd (fun _ => 0) (0 : Int32).toNatClampNeg (-1))))) ++ [(ao, .inl (cJ, 1, .inr (.inl (vp_updL (fun _ => 0) (0 : Int32).toNatClampNeg 0))))])) H := hP
                                  have hD : va_D (fun q : Nat => s.heap.size ≤ q) ((mW om 0 q cI cZ) ++ (((((((((xW o u cI cZ cJ).set 13 ((u 12), .inr (5, ([.int 0, .ref (u 13), .ref (u 14), .ref (u 15), .ref (u 16), .ref (u 17), .ref (u 18)].set 0 (.int 1))))).set 14 ((u 13), .inl (cI, 110, .inl (upd (fun _ => 0) (0 : Int32).toNatClampNeg 11)))).set 15 ((u 14), .inl (cI, 110, .inl (upd (fun _ => 0) (0 : Int32).toNatClampNeg x2)))).set 16 ((u 15), .inl (cI, 110, .inl (upd (fun _ => 0) (0 : Int32).toNatClampNeg 0)))).set 17 ((u 16), .inl (cI, 110, .inl (upd (fun _ => 0) (0 : Int32).toNatClampNeg 0)))).set 18 ((u 17), .inl (cI, 110, .inl (upd (fun _ => 0) (0 : Int32).toNatClampNeg (-1))))).set 19 ((u 18), .inl (cI, 110, .inl (upd (fun _ => 0) (0 : Int32).toNatClampNeg (-1))))) ++ [(ao, .inl (cJ, 1, .inr (.inl (vp_updL (fun _ => 0) (0 : Int32).toNatClampNeg 0))))])) := hD
                                  refine lv_istore (lv' := [(5, .int 0), (4, .int 0), (3, .ref ao), (2, .ref om), (1, .ref o), (0, .ref b)]) hx hb dL_law_553 hl (by decide) rfl (fun ls hl => ?_)
                                  refine lv_aload_n hx hb dL_law_555 rfl (lv_at hl 3 rfl) ?_
                                  refine lv_aload_n hx hb dL_law_556 rfl (lv_at hl 5 rfl) ?_
                                  refine lv_iload hx hb dL_law_557 (lv_at hl 1 rfl) ?_
                                  refine lv_iconst (v := 1) hx hb dL_law_559 (by decide) ?_
                                  refine xiadd (v := 1) S dL_law_560 (by decide) ?_
                                  refine xsld (v := 11) S hX hbl hbA hS (vin rfl) h1 dL_law_561 ?_
                                  refine lv_aload_n hx hb dL_law_562 rfl (lv_at hl 5 rfl) ?_
                                  refine lv_iload hx hb dL_law_563 (lv_at hl 1 rfl) ?_
                                  refine lv_iconst (v := 2) hx hb dL_law_565 (by decide) ?_
                                  refine xiadd (v := 2) S dL_law_566 (by decide) ?_
                                  refine xsld (v := x2) S hX hbl hbA hS (vin rfl) h2 dL_law_567 ?_
                                  refine lv_aload_n hx hb dL_law_568 rfl (lv_at hl 5 rfl) ?_
                                  refine lv_iload hx hb dL_law_569 (lv_at hl 1 rfl) ?_
                                  refine lv_iconst (v := 3) hx hb dL_law_571 (by decide) ?_
                                  refine xiadd (v := 3) S dL_law_572 (by decide) ?_
                                  refine xsld (v := 0) S hX hbl hbA hS (vin rfl) h3 dL_law_573 ?_
                                  refine lv_aload_n hx hb dL_law_574 rfl (lv_at hl 5 rfl) ?_
                                  refine lv_iload hx hb dL_law_575 (lv_at hl 1 rfl) ?_
                                  refine lv_iconst (v := 4) hx hb dL_law_577 (by decide) ?_
                                  refine xiadd (v := 4) S dL_law_578 (by decide) ?_
                                  refine xsld (v := 0) S hX hbl hbA hS (vin rfl) h4 dL_law_579 ?_
                                  refine fVi [] (((((((((xW o u cI cZ cJ).set 13 ((u 12), .inr (5, ([.int 0, .ref (u 13), .ref (u 14), .ref (u 15), .ref (u 16), .ref (u 17), .ref (u 18)].set 0 (.int 1))))).set 14 ((u 13), .inl (cI, 110, .inl (upd (fun _ => 0) (0 : Int32).toNatClampNeg 11)))).set 15 ((u 14), .inl (cI, 110, .inl (upd (fun _ => 0) (0 : Int32).toNatClampNeg x2)))).set 16 ((u 15), .inl (cI, 110, .inl (upd (fun _ => 0) (0 : Int32).toNatClampNeg 0)))).set 17 ((u 16), .inl (cI, 110, .inl (upd (fun _ => 0) (0 : Int32).toNatClampNeg 0)))).set 18 ((u 17), .inl (cI, 110, .inl (upd (fun _ => 0) (0 : Int32).toNatClampNeg (-1))))).set 19 ((u 18), .inl (cI, 110, .inl (upd (fun _ => 0) (0 : Int32).toNatClampNeg (-1))))) ++ [(ao, .inl (cJ, 1, .inr (.inl (vp_updL (fun _ => 0) (0 : Int32).toNatClampNeg 0))))]) (mid := (mW om 0 q cI cZ)) (As := [.int 11, .int x2, .int 0, .int 0]) (ci := 9) S (c_X9_node_29 l D cI cZ cJ om q H.size x2 lo_x2 hi_x2) mi_X9_node kw_7_151 rfl rfl ⟨Nat.le_of_ble_eq_true rfl, Nat.le_of_ble_eq_true rfl⟩ hP hD hK hS hA mW_0 rfl rfl hl.1 (Nat.le_of_ble_eq_true rfl) ⟨Nat.le_of_ble_eq_true rfl, Nat.le_of_ble_eq_true rfl⟩ dL_law_580 (fun H locs hz hP hD hS => ?_)
                                  have hP : va_P D vwCl (((((((((mW om 0 q cI cZ).set 0 (om, .inr (9, ((mF 0 q).set 13 (.int 1))))).set 12 ((q 11), .inl (cI, 110, .inl (upd (fun _ => 0) (0 : Int32).toNatClampNeg 11)))).set 13 ((q 12), .inl (cI, 110, .inl (upd (fun _ => 0) (0 : Int32).toNatClampNeg x2)))).set 14 ((q 13), .inl (cI, 110, .inl (upd (fun _ => 0) (0 : Int32).toNatClampNeg 0)))).set 15 ((q 14), .inl (cI, 110, .inl (upd (fun _ => 0) (0 : Int32).toNatClampNeg 0)))).set 16 ((q 15), .inl (cI, 110, .inl (upd (fun _ => 0) (0 : Int32).toNatClampNeg (-1))))).set 17 ((q 16), .inl (cI, 110, .inl (upd (fun _ => 0) (0 : Int32).toNatClampNeg (-1))))) ++ (((((((((xW o u cI cZ cJ).set 13 ((u 12), .inr (5, ([.int 0, .ref (u 13), .ref (u 14), .ref (u 15), .ref (u 16), .ref (u 17), .ref (u 18)].set 0 (.int 1))))).set 14 ((u 13), .inl (cI, 110, .inl (upd (fun _ => 0) (0 : Int32).toNatClampNeg 11)))).set 15 ((u 14), .inl (cI, 110, .inl (upd (fun _ => 0) (0 : Int32).toNatClampNeg x2)))).set 16 ((u 15), .inl (cI, 110, .inl (upd (fun _ => 0) (0 : Int32).toNatClampNeg 0)))).set 17 ((u 16), .inl (cI, 110, .inl (upd (fun _ => 0) (0 : Int32).toNatClampNeg 0)))).set 18 ((u 17), .inl (cI, 110, .inl (upd (fun _ => 0) (0 : Int32).toNatClampNeg (-1))))).set 19 ((u 18), .inl (cI, 110, .inl (upd (fun _ => 0) (0 : Int32).toNatClampNeg (-1))))) ++ [(ao, .inl (cJ, 1, .inr (.inl (vp_updL (fun _ => 0) (0 : Int32).toNatClampNeg 0))))])) H := hP
                                  have hD : va_D (fun q : Nat => s.heap.size ≤ q) (((((((((mW om 0 q cI cZ).set 0 (om, .inr (9, ((mF 0 q).set 13 (.int 1))))).set 12 ((q 11), .inl (cI, 110, .inl (upd (fun _ => 0) (0 : Int32).toNatClampNeg 11)))).set 13 ((q 12), .inl (cI, 110, .inl (upd (fun _ => 0) (0 : Int32).toNatClampNeg x2)))).set 14 ((q 13), .inl (cI, 110, .inl (upd (fun _ => 0) (0 : Int32).toNatClampNeg 0)))).set 15 ((q 14), .inl (cI, 110, .inl (upd (fun _ => 0) (0 : Int32).toNatClampNeg 0)))).set 16 ((q 15), .inl (cI, 110, .inl (upd (fun _ => 0) (0 : Int32).toNatClampNeg (-1))))).set 17 ((q 16), .inl (cI, 110, .inl (upd (fun _ => 0) (0 : Int32).toNatClampNeg (-1))))) ++ (((((((((xW o u cI cZ cJ).set 13 ((u 12), .inr (5, ([.int 0, .ref (u 13), .ref (u 14), .ref (u 15), .ref (u 16), .ref (u 17), .ref (u 18)].set 0 (.int 1))))).set 14 ((u 13), .inl (cI, 110, .inl (upd (fun _ => 0) (0 : Int32).toNatClampNeg 11)))).set 15 ((u 14), .inl (cI, 110, .inl (upd (fun _ => 0) (0 : Int32).toNatClampNeg x2)))).set 16 ((u 15), .inl (cI, 110, .inl (upd (fun _ => 0) (0 : Int32).toNatClampNeg 0)))).set 17 ((u 16), .inl (cI, 110, .inl (upd (fun _ => 0) (0 : Int32).toNatClampNeg 0)))).set 18 ((u 17), .inl (cI, 110, .inl (upd (fun _ => 0) (0 : Int32).toNatClampNeg (-1))))).set 19 ((u 18), .inl (cI, 110, .inl (upd (fun _ => 0) (0 : Int32).toNatClampNeg (-1))))) ++ [(ao, .inl (cJ, 1, .inr (.inl (vp_updL (fun _ => 0) (0 : Int32).toNatClampNeg 0))))])) := hD
                                  refine lv_istore (lv' := [(6, .int 0), (5, .int 0), (4, .int 0), (3, .ref ao), (2, .ref om), (1, .ref o), (0, .ref b)]) hx hb dL_law_583 hl (by decide) rfl (fun ls hl => ?_)
                                  refine lv_aload_n hx hb dL_law_585 rfl (lv_at hl 4 rfl) ?_
                                  refine rdV (As := []) (ci := 9) S (c_X9_thrown_13 l D cI cZ cJ om q x2 lo_x2 hi_x2) mi_X9_thrown kw_7_89 ⟨rfl, rfl⟩ ⟨Nat.le_of_ble_eq_true rfl, Nat.le_of_ble_eq_true rfl⟩ (va_Pl (ws := ((((((((mW om 0 q cI cZ).set 0 (om, .inr (9, ((mF 0 q).set 13 (.int 1))))).set 12 ((q 11), .inl (cI, 110, .inl (upd (fun _ => 0) (0 : Int32).toNatClampNeg 11)))).set 13 ((q 12), .inl (cI, 110, .inl (upd (fun _ => 0) (0 : Int32).toNatClampNeg x2)))).set 14 ((q 13), .inl (cI, 110, .inl (upd (fun _ => 0) (0 : Int32).toNatClampNeg 0)))).set 15 ((q 14), .inl (cI, 110, .inl (upd (fun _ => 0) (0 : Int32).toNatClampNeg 0)))).set 16 ((q 15), .inl (cI, 110, .inl (upd (fun _ => 0) (0 : Int32).toNatClampNeg (-1))))).set 17 ((q 16), .inl (cI, 110, .inl (upd (fun _ => 0) (0 : Int32).toNatClampNeg (-1)))))) (x := (((((((((xW o u cI cZ cJ).set 13 ((u 12), .inr (5, ([.int 0, .ref (u 13), .ref (u 14), .ref (u 15), .ref (u 16), .ref (u 17), .ref (u 18)].set 0 (.int 1))))).set 14 ((u 13), .inl (cI, 110, .inl (upd (fun _ => 0) (0 : Int32).toNatClampNeg 11)))).set 15 ((u 14), .inl (cI, 110, .inl (upd (fun _ => 0) (0 : Int32).toNatClampNeg x2)))).set 16 ((u 15), .inl (cI, 110, .inl (upd (fun _ => 0) (0 : Int32).toNatClampNeg 0)))).set 17 ((u 16), .inl (cI, 110, .inl (upd (fun _ => 0) (0 : Int32).toNatClampNeg 0)))).set 18 ((u 17), .inl (cI, 110, .inl (upd (fun _ => 0) (0 : Int32).toNatClampNeg (-1))))).set 19 ((u 18), .inl (cI, 110, .inl (upd (fun _ => 0) (0 : Int32).toNatClampNeg (-1))))) ++ [(ao, .inl (cJ, 1, .inr (.inl (vp_updL (fun _ => 0) (0 : Int32).toNatClampNeg 0))))])) hP) hK (k := 0) rfl rfl rfl hl.1 (Nat.le_of_ble_eq_true rfl) ⟨Nat.le_of_ble_eq_true rfl, Nat.le_of_ble_eq_true rfl⟩ dL_law_586 ?_
                                  refine lv_iload hx hb dL_law_589 (lv_at hl 1 rfl) ?_
                                  refine lv_icmp_eq (tgt := 596) hx hb dL_law_591 (by decide) (fun _ => ?_) (fun c => absurd c (by decide))
                                  refine lv_iload hx hb dL_law_596 (lv_at hl 1 rfl) ?_
                                  refine lv_if_ne (tgt := 613) hx hb dL_law_598 (by decide) (fun c => absurd c (by decide)) (fun _ => ?_)
                                  refine lv_aload_n hx hb dL_law_601 rfl (lv_at hl 3 rfl) ?_
                                  refine lv_iconst (v := 0) hx hb dL_law_602 (by decide) ?_
                                  refine xlald (t0 := 2) (v := 0) S hK hP (q0 := 119) rfl rfl (vin rfl) rfl dL_law_603 ?_
                                  refine lv_iload hx hb dL_law_604 (lv_at hl 0 rfl) ?_
                                  refine lv_i2l (v := 0) hx hb dL_law_606 (by decide) ?_
                                  refine xlcmp (v := 0) S dL_law_607 (by decide) ?_
                                  refine lv_if_eq (tgt := 613) hx hb dL_law_608 (by decide) (fun _ => ?_) (fun c => absurd c (by decide))
                                  refine lv_goto (tgt := 1519) hx hb dL_law_613 (by decide) ?_
                                  exact law_tail (cells := 120) (slots := 12958) S hr hlocks hX hbl (lv_sub hl [2, 6] rfl) hS (Nat.le_of_ble_eq_true rfl) (Nat.le_of_ble_eq_true rfl)
                                · have ne_x4_0 : ¬ x4 = 0 := d_550
                                  refine wrap (mW om 0 q cI cZ) (mid := ((xW o u cI cZ cJ) ++ [(ao, .inl (cJ, 1, .inr (.inl (fun _ => 0))))])) (As := [.ref o, .int 11, .int x2, .int 0, .int x4, .ref ao]) S (h_node_30 l D cI cZ cJ o u ao hst ra ga H.size x2 x4 lo_x2 hi_x2 ne_x4_0) msh_L_node kw_6_20 rfl rfl ⟨Nat.le_of_ble_eq_true rfl, Nat.le_of_ble_eq_true rfl⟩ hP hD hK hS hA hB hC hl.1 (Nat.le_of_ble_eq_true rfl) ⟨Nat.le_of_ble_eq_true rfl, Nat.le_of_ble_eq_true rfl⟩ dL_law_550 (fun H locs hz hP hD hS => ?_)
                                  have hP : va_P D vwCl ((mW om 0 q cI cZ) ++ ((xW o u cI cZ cJ) ++ [(ao, .inl (cJ, 1, .inr (.inl (fun _ => 0))))])) H := hP
                                  have hD : va_D (fun q : Nat => s.heap.size ≤ q) ((mW om 0 q cI cZ) ++ ((xW o u cI cZ cJ) ++ [(ao, .inl (cJ, 1, .inr (.inl (fun _ => 0))))])) := hD
                                  refine lv_istore (lv' := [(5, .int 1), (4, .int 0), (3, .ref ao), (2, .ref om), (1, .ref o), (0, .ref b)]) hx hb dL_law_553 hl (by decide) rfl (fun ls hl => ?_)
                                  refine lv_aload_n hx hb dL_law_555 rfl (lv_at hl 3 rfl) ?_
                                  refine lv_aload_n hx hb dL_law_556 rfl (lv_at hl 5 rfl) ?_
                                  refine lv_iload hx hb dL_law_557 (lv_at hl 1 rfl) ?_
                                  refine lv_iconst (v := 1) hx hb dL_law_559 (by decide) ?_
                                  refine xiadd (v := 1) S dL_law_560 (by decide) ?_
                                  refine xsld (v := 11) S hX hbl hbA hS (vin rfl) h1 dL_law_561 ?_
                                  refine lv_aload_n hx hb dL_law_562 rfl (lv_at hl 5 rfl) ?_
                                  refine lv_iload hx hb dL_law_563 (lv_at hl 1 rfl) ?_
                                  refine lv_iconst (v := 2) hx hb dL_law_565 (by decide) ?_
                                  refine xiadd (v := 2) S dL_law_566 (by decide) ?_
                                  refine xsld (v := x2) S hX hbl hbA hS (vin rfl) h2 dL_law_567 ?_
                                  refine lv_aload_n hx hb dL_law_568 rfl (lv_at hl 5 rfl) ?_
                                  refine lv_iload hx hb dL_law_569 (lv_at hl 1 rfl) ?_
                                  refine lv_iconst (v := 3) hx hb dL_law_571 (by decide) ?_
                                  refine xiadd (v := 3) S dL_law_572 (by decide) ?_
                                  refine xsld (v := 0) S hX hbl hbA hS (vin rfl) h3 dL_law_573 ?_
                                  refine lv_aload_n hx hb dL_law_574 rfl (lv_at hl 5 rfl) ?_
                                  refine lv_iload hx hb dL_law_575 (lv_at hl 1 rfl) ?_
                                  refine lv_iconst (v := 4) hx hb dL_law_577 (by decide) ?_
                                  refine xiadd (v := 4) S dL_law_578 (by decide) ?_
                                  refine xsld (v := x4) S hX hbl hbA hS (vin rfl) h4 dL_law_579 ?_
                                  refine fVi [] ((xW o u cI cZ cJ) ++ [(ao, .inl (cJ, 1, .inr (.inl (fun _ => 0))))]) (mid := (mW om 0 q cI cZ)) (As := [.int 11, .int x2, .int 0, .int x4]) (ci := 9) S (c_X9_node_30 l D cI cZ cJ om q H.size x2 x4 lo_x2 hi_x2 ne_x4_0) mi_X9_node kw_7_151 rfl rfl ⟨Nat.le_of_ble_eq_true rfl, Nat.le_of_ble_eq_true rfl⟩ hP hD hK hS hA mW_0 rfl rfl hl.1 (Nat.le_of_ble_eq_true rfl) ⟨Nat.le_of_ble_eq_true rfl, Nat.le_of_ble_eq_true rfl⟩ dL_law_580 (fun H locs hz hP hD hS => ?_)
                                  have hP : va_P D vwCl ((mW om 1 q cI cZ) ++ ((xW o u cI cZ cJ) ++ [(ao, .inl (cJ, 1, .inr (.inl (fun _ => 0))))])) H := hP
                                  have hD : va_D (fun q : Nat => s.heap.size ≤ q) ((mW om 1 q cI cZ) ++ ((xW o u cI cZ cJ) ++ [(ao, .inl (cJ, 1, .inr (.inl (fun _ => 0))))])) := hD
                                  refine lv_istore (lv' := [(6, .int 0), (5, .int 1), (4, .int 0), (3, .ref ao), (2, .ref om), (1, .ref o), (0, .ref b)]) hx hb dL_law_583 hl (by decide) rfl (fun ls hl => ?_)
                                  refine lv_aload_n hx hb dL_law_585 rfl (lv_at hl 4 rfl) ?_
                                  refine rdV (As := []) (ci := 9) S (c_X9_thrown_0 l D cI cZ cJ om q) mi_X9_thrown kw_7_89 ⟨rfl, rfl⟩ ⟨Nat.le_of_ble_eq_true rfl, Nat.le_of_ble_eq_true rfl⟩ (va_Pl (ws := (mW om 1 q cI cZ)) (x := ((xW o u cI cZ cJ) ++ [(ao, .inl (cJ, 1, .inr (.inl (fun _ => 0))))])) hP) hK mW_0 rfl rfl hl.1 (Nat.le_of_ble_eq_true rfl) ⟨Nat.le_of_ble_eq_true rfl, Nat.le_of_ble_eq_true rfl⟩ dL_law_586 ?_
                                  refine lv_iload hx hb dL_law_589 (lv_at hl 1 rfl) ?_
                                  refine lv_icmp_eq (tgt := 596) hx hb dL_law_591 (by decide) (fun _ => ?_) (fun c => absurd c (by decide))
                                  refine lv_iload hx hb dL_law_596 (lv_at hl 1 rfl) ?_
                                  refine lv_if_ne (tgt := 613) hx hb dL_law_598 (by decide) (fun _ => ?_) (fun c => absurd c (by decide))
                                  refine lv_goto (tgt := 1519) hx hb dL_law_613 (by decide) ?_
                                  exact law_tail (cells := 121) (slots := 12964) S hr hlocks hX hbl (lv_sub hl [2, 6] rfl) hS (Nat.le_of_ble_eq_true rfl) (Nat.le_of_ble_eq_true rfl)
                              · have ne_x3_0 : ¬ x3 = 0 := d_550
                                refine wrap (mW om 0 q cI cZ) (mid := ((xW o u cI cZ cJ) ++ [(ao, .inl (cJ, 1, .inr (.inl (fun _ => 0))))])) (As := [.ref o, .int 11, .int x2, .int x3, .int x4, .ref ao]) S (h_node_31 l D cI cZ cJ o u ao hst ra ga H.size x2 x3 x4 lo_x2 hi_x2 ne_x3_0) msh_L_node kw_6_20 rfl rfl ⟨Nat.le_of_ble_eq_true rfl, Nat.le_of_ble_eq_true rfl⟩ hP hD hK hS hA hB hC hl.1 (Nat.le_of_ble_eq_true rfl) ⟨Nat.le_of_ble_eq_true rfl, Nat.le_of_ble_eq_true rfl⟩ dL_law_550 (fun H locs hz hP hD hS => ?_)
                                have hP : va_P D vwCl ((mW om 0 q cI cZ) ++ ((xW o u cI cZ cJ) ++ [(ao, .inl (cJ, 1, .inr (.inl (fun _ => 0))))])) H := hP
                                have hD : va_D (fun q : Nat => s.heap.size ≤ q) ((mW om 0 q cI cZ) ++ ((xW o u cI cZ cJ) ++ [(ao, .inl (cJ, 1, .inr (.inl (fun _ => 0))))])) := hD
                                refine lv_istore (lv' := [(5, .int 1), (4, .int 0), (3, .ref ao), (2, .ref om), (1, .ref o), (0, .ref b)]) hx hb dL_law_553 hl (by decide) rfl (fun ls hl => ?_)
                                refine lv_aload_n hx hb dL_law_555 rfl (lv_at hl 3 rfl) ?_
                                refine lv_aload_n hx hb dL_law_556 rfl (lv_at hl 5 rfl) ?_
                                refine lv_iload hx hb dL_law_557 (lv_at hl 1 rfl) ?_
                                refine lv_iconst (v := 1) hx hb dL_law_559 (by decide) ?_
                                refine xiadd (v := 1) S dL_law_560 (by decide) ?_
                                refine xsld (v := 11) S hX hbl hbA hS (vin rfl) h1 dL_law_561 ?_
                                refine lv_aload_n hx hb dL_law_562 rfl (lv_at hl 5 rfl) ?_
                                refine lv_iload hx hb dL_law_563 (lv_at hl 1 rfl) ?_
                                refine lv_iconst (v := 2) hx hb dL_law_565 (by decide) ?_
                                refine xiadd (v := 2) S dL_law_566 (by decide) ?_
                                refine xsld (v := x2) S hX hbl hbA hS (vin rfl) h2 dL_law_567 ?_
                                refine lv_aload_n hx hb dL_law_568 rfl (lv_at hl 5 rfl) ?_
                                refine lv_iload hx hb dL_law_569 (lv_at hl 1 rfl) ?_
                                refine lv_iconst (v := 3) hx hb dL_law_571 (by decide) ?_
                                refine xiadd (v := 3) S dL_law_572 (by decide) ?_
                                refine xsld (v := x3) S hX hbl hbA hS (vin rfl) h3 dL_law_573 ?_
                                refine lv_aload_n hx hb dL_law_574 rfl (lv_at hl 5 rfl) ?_
                                refine lv_iload hx hb dL_law_575 (lv_at hl 1 rfl) ?_
                                refine lv_iconst (v := 4) hx hb dL_law_577 (by decide) ?_
                                refine xiadd (v := 4) S dL_law_578 (by decide) ?_
                                refine xsld (v := x4) S hX hbl hbA hS (vin rfl) h4 dL_law_579 ?_
                                refine fVi [] ((xW o u cI cZ cJ) ++ [(ao, .inl (cJ, 1, .inr (.inl (fun _ => 0))))]) (mid := (mW om 0 q cI cZ)) (As := [.int 11, .int x2, .int x3, .int x4]) (ci := 9) S (c_X9_node_31 l D cI cZ cJ om q H.size x2 x3 x4 lo_x2 hi_x2 ne_x3_0) mi_X9_node kw_7_151 rfl rfl ⟨Nat.le_of_ble_eq_true rfl, Nat.le_of_ble_eq_true rfl⟩ hP hD hK hS hA mW_0 rfl rfl hl.1 (Nat.le_of_ble_eq_true rfl) ⟨Nat.le_of_ble_eq_true rfl, Nat.le_of_ble_eq_true rfl⟩ dL_law_580 (fun H locs hz hP hD hS => ?_)
                                have hP : va_P D vwCl ((mW om 1 q cI cZ) ++ ((xW o u cI cZ cJ) ++ [(ao, .inl (cJ, 1, .inr (.inl (fun _ => 0))))])) H := hP
                                have hD : va_D (fun q : Nat => s.heap.size ≤ q) ((mW om 1 q cI cZ) ++ ((xW o u cI cZ cJ) ++ [(ao, .inl (cJ, 1, .inr (.inl (fun _ => 0))))])) := hD
                                refine lv_istore (lv' := [(6, .int 0), (5, .int 1), (4, .int 0), (3, .ref ao), (2, .ref om), (1, .ref o), (0, .ref b)]) hx hb dL_law_583 hl (by decide) rfl (fun ls hl => ?_)
                                refine lv_aload_n hx hb dL_law_585 rfl (lv_at hl 4 rfl) ?_
                                refine rdV (As := []) (ci := 9) S (c_X9_thrown_0 l D cI cZ cJ om q) mi_X9_thrown kw_7_89 ⟨rfl, rfl⟩ ⟨Nat.le_of_ble_eq_true rfl, Nat.le_of_ble_eq_true rfl⟩ (va_Pl (ws := (mW om 1 q cI cZ)) (x := ((xW o u cI cZ cJ) ++ [(ao, .inl (cJ, 1, .inr (.inl (fun _ => 0))))])) hP) hK mW_0 rfl rfl hl.1 (Nat.le_of_ble_eq_true rfl) ⟨Nat.le_of_ble_eq_true rfl, Nat.le_of_ble_eq_true rfl⟩ dL_law_586 ?_
                                refine lv_iload hx hb dL_law_589 (lv_at hl 1 rfl) ?_
                                refine lv_icmp_eq (tgt := 596) hx hb dL_law_591 (by decide) (fun _ => ?_) (fun c => absurd c (by decide))
                                refine lv_iload hx hb dL_law_596 (lv_at hl 1 rfl) ?_
                                refine lv_if_ne (tgt := 613) hx hb dL_law_598 (by decide) (fun _ => ?_) (fun c => absurd c (by decide))
                                refine lv_goto (tgt := 1519) hx hb dL_law_613 (by decide) ?_
                                exact law_tail (cells := 121) (slots := 12964) S hr hlocks hX hbl (lv_sub hl [2, 6] rfl) hS (Nat.le_of_ble_eq_true rfl) (Nat.le_of_ble_eq_true rfl)
                        · have ne_x1_11 : ¬ x1 = 11 := d_550
                          by_cases d_550 : x1 = 12
                          · have e_x1 : x1 = 12 := d_550
                            subst e_x1
                            refine wrap (mW om 0 q cI cZ) (mid := ((xW o u cI cZ cJ) ++ [(ao, .inl (cJ, 1, .inr (.inl (fun _ => 0))))])) (As := [.ref o, .int 12, .int x2, .int x3, .int x4, .ref ao]) S (h_node_32 l D cI cZ cJ o u ao hst ra ga H.size x2 x3 x4) msh_L_node kw_6_20 rfl rfl ⟨Nat.le_of_ble_eq_true rfl, Nat.le_of_ble_eq_true rfl⟩ hP hD hK hS hA hB hC hl.1 (Nat.le_of_ble_eq_true rfl) ⟨Nat.le_of_ble_eq_true rfl, Nat.le_of_ble_eq_true rfl⟩ dL_law_550 (fun H locs hz hP hD hS => ?_)
                            have hP : va_P D vwCl ((mW om 0 q cI cZ) ++ ((xW o u cI cZ cJ) ++ [(ao, .inl (cJ, 1, .inr (.inl (fun _ => 0))))])) H := hP
                            have hD : va_D (fun q : Nat => s.heap.size ≤ q) ((mW om 0 q cI cZ) ++ ((xW o u cI cZ cJ) ++ [(ao, .inl (cJ, 1, .inr (.inl (fun _ => 0))))])) := hD
                            refine lv_istore (lv' := [(5, .int 1), (4, .int 0), (3, .ref ao), (2, .ref om), (1, .ref o), (0, .ref b)]) hx hb dL_law_553 hl (by decide) rfl (fun ls hl => ?_)
                            refine lv_aload_n hx hb dL_law_555 rfl (lv_at hl 3 rfl) ?_
                            refine lv_aload_n hx hb dL_law_556 rfl (lv_at hl 5 rfl) ?_
                            refine lv_iload hx hb dL_law_557 (lv_at hl 1 rfl) ?_
                            refine lv_iconst (v := 1) hx hb dL_law_559 (by decide) ?_
                            refine xiadd (v := 1) S dL_law_560 (by decide) ?_
                            refine xsld (v := 12) S hX hbl hbA hS (vin rfl) h1 dL_law_561 ?_
                            refine lv_aload_n hx hb dL_law_562 rfl (lv_at hl 5 rfl) ?_
                            refine lv_iload hx hb dL_law_563 (lv_at hl 1 rfl) ?_
                            refine lv_iconst (v := 2) hx hb dL_law_565 (by decide) ?_
                            refine xiadd (v := 2) S dL_law_566 (by decide) ?_
                            refine xsld (v := x2) S hX hbl hbA hS (vin rfl) h2 dL_law_567 ?_
                            refine lv_aload_n hx hb dL_law_568 rfl (lv_at hl 5 rfl) ?_
                            refine lv_iload hx hb dL_law_569 (lv_at hl 1 rfl) ?_
                            refine lv_iconst (v := 3) hx hb dL_law_571 (by decide) ?_
                            refine xiadd (v := 3) S dL_law_572 (by decide) ?_
                            refine xsld (v := x3) S hX hbl hbA hS (vin rfl) h3 dL_law_573 ?_
                            refine lv_aload_n hx hb dL_law_574 rfl (lv_at hl 5 rfl) ?_
                            refine lv_iload hx hb dL_law_575 (lv_at hl 1 rfl) ?_
                            refine lv_iconst (v := 4) hx hb dL_law_577 (by decide) ?_
                            refine xiadd (v := 4) S dL_law_578 (by decide) ?_
                            refine xsld (v := x4) S hX hbl hbA hS (vin rfl) h4 dL_law_579 ?_
                            refine fVi [] ((xW o u cI cZ cJ) ++ [(ao, .inl (cJ, 1, .inr (.inl (fun _ => 0))))]) (mid := (mW om 0 q cI cZ)) (As := [.int 12, .int x2, .int x3, .int x4]) (ci := 9) S (c_X9_node_32 l D cI cZ cJ om q H.size x2 x3 x4) mi_X9_node kw_7_151 rfl rfl ⟨Nat.le_of_ble_eq_true rfl, Nat.le_of_ble_eq_true rfl⟩ hP hD hK hS hA mW_0 rfl rfl hl.1 (Nat.le_of_ble_eq_true rfl) ⟨Nat.le_of_ble_eq_true rfl, Nat.le_of_ble_eq_true rfl⟩ dL_law_580 (fun H locs hz hP hD hS => ?_)
                            have hP : va_P D vwCl ((mW om 1 q cI cZ) ++ ((xW o u cI cZ cJ) ++ [(ao, .inl (cJ, 1, .inr (.inl (fun _ => 0))))])) H := hP
                            have hD : va_D (fun q : Nat => s.heap.size ≤ q) ((mW om 1 q cI cZ) ++ ((xW o u cI cZ cJ) ++ [(ao, .inl (cJ, 1, .inr (.inl (fun _ => 0))))])) := hD
                            refine lv_istore (lv' := [(6, .int 0), (5, .int 1), (4, .int 0), (3, .ref ao), (2, .ref om), (1, .ref o), (0, .ref b)]) hx hb dL_law_583 hl (by decide) rfl (fun ls hl => ?_)
                            refine lv_aload_n hx hb dL_law_585 rfl (lv_at hl 4 rfl) ?_
                            refine rdV (As := []) (ci := 9) S (c_X9_thrown_0 l D cI cZ cJ om q) mi_X9_thrown kw_7_89 ⟨rfl, rfl⟩ ⟨Nat.le_of_ble_eq_true rfl, Nat.le_of_ble_eq_true rfl⟩ (va_Pl (ws := (mW om 1 q cI cZ)) (x := ((xW o u cI cZ cJ) ++ [(ao, .inl (cJ, 1, .inr (.inl (fun _ => 0))))])) hP) hK mW_0 rfl rfl hl.1 (Nat.le_of_ble_eq_true rfl) ⟨Nat.le_of_ble_eq_true rfl, Nat.le_of_ble_eq_true rfl⟩ dL_law_586 ?_
                            refine lv_iload hx hb dL_law_589 (lv_at hl 1 rfl) ?_
                            refine lv_icmp_eq (tgt := 596) hx hb dL_law_591 (by decide) (fun _ => ?_) (fun c => absurd c (by decide))
                            refine lv_iload hx hb dL_law_596 (lv_at hl 1 rfl) ?_
                            refine lv_if_ne (tgt := 613) hx hb dL_law_598 (by decide) (fun _ => ?_) (fun c => absurd c (by decide))
                            refine lv_goto (tgt := 1519) hx hb dL_law_613 (by decide) ?_
                            exact law_tail (cells := 121) (slots := 12964) S hr hlocks hX hbl (lv_sub hl [2, 6] rfl) hS (Nat.le_of_ble_eq_true rfl) (Nat.le_of_ble_eq_true rfl)
                          · have ne_x1_12 : ¬ x1 = 12 := d_550
                            by_cases d_550 : x1 = 13
                            · have e_x1 : x1 = 13 := d_550
                              subst e_x1
                              refine wrap (mW om 0 q cI cZ) (mid := ((xW o u cI cZ cJ) ++ [(ao, .inl (cJ, 1, .inr (.inl (fun _ => 0))))])) (As := [.ref o, .int 13, .int x2, .int x3, .int x4, .ref ao]) S (h_node_33 l D cI cZ cJ o u ao hst ra ga H.size x2 x3 x4) msh_L_node kw_6_20 rfl rfl ⟨Nat.le_of_ble_eq_true rfl, Nat.le_of_ble_eq_true rfl⟩ hP hD hK hS hA hB hC hl.1 (Nat.le_of_ble_eq_true rfl) ⟨Nat.le_of_ble_eq_true rfl, Nat.le_of_ble_eq_true rfl⟩ dL_law_550 (fun H locs hz hP hD hS => ?_)
                              have hP : va_P D vwCl ((mW om 0 q cI cZ) ++ ((xW o u cI cZ cJ) ++ [(ao, .inl (cJ, 1, .inr (.inl (fun _ => 0))))])) H := hP
                              have hD : va_D (fun q : Nat => s.heap.size ≤ q) ((mW om 0 q cI cZ) ++ ((xW o u cI cZ cJ) ++ [(ao, .inl (cJ, 1, .inr (.inl (fun _ => 0))))])) := hD
                              refine lv_istore (lv' := [(5, .int 1), (4, .int 0), (3, .ref ao), (2, .ref om), (1, .ref o), (0, .ref b)]) hx hb dL_law_553 hl (by decide) rfl (fun ls hl => ?_)
                              refine lv_aload_n hx hb dL_law_555 rfl (lv_at hl 3 rfl) ?_
                              refine lv_aload_n hx hb dL_law_556 rfl (lv_at hl 5 rfl) ?_
                              refine lv_iload hx hb dL_law_557 (lv_at hl 1 rfl) ?_
                              refine lv_iconst (v := 1) hx hb dL_law_559 (by decide) ?_
                              refine xiadd (v := 1) S dL_law_560 (by decide) ?_
                              refine xsld (v := 13) S hX hbl hbA hS (vin rfl) h1 dL_law_561 ?_
                              refine lv_aload_n hx hb dL_law_562 rfl (lv_at hl 5 rfl) ?_
                              refine lv_iload hx hb dL_law_563 (lv_at hl 1 rfl) ?_
                              refine lv_iconst (v := 2) hx hb dL_law_565 (by decide) ?_
                              refine xiadd (v := 2) S dL_law_566 (by decide) ?_
                              refine xsld (v := x2) S hX hbl hbA hS (vin rfl) h2 dL_law_567 ?_
                              refine lv_aload_n hx hb dL_law_568 rfl (lv_at hl 5 rfl) ?_
                              refine lv_iload hx hb dL_law_569 (lv_at hl 1 rfl) ?_
                              refine lv_iconst (v := 3) hx hb dL_law_571 (by decide) ?_
                              refine xiadd (v := 3) S dL_law_572 (by decide) ?_
                              refine xsld (v := x3) S hX hbl hbA hS (vin rfl) h3 dL_law_573 ?_
                              refine lv_aload_n hx hb dL_law_574 rfl (lv_at hl 5 rfl) ?_
                              refine lv_iload hx hb dL_law_575 (lv_at hl 1 rfl) ?_
                              refine lv_iconst (v := 4) hx hb dL_law_577 (by decide) ?_
                              refine xiadd (v := 4) S dL_law_578 (by decide) ?_
                              refine xsld (v := x4) S hX hbl hbA hS (vin rfl) h4 dL_law_579 ?_
                              refine fVi [] ((xW o u cI cZ cJ) ++ [(ao, .inl (cJ, 1, .inr (.inl (fun _ => 0))))]) (mid := (mW om 0 q cI cZ)) (As := [.int 13, .int x2, .int x3, .int x4]) (ci := 9) S (c_X9_node_33 l D cI cZ cJ om q H.size x2 x3 x4) mi_X9_node kw_7_151 rfl rfl ⟨Nat.le_of_ble_eq_true rfl, Nat.le_of_ble_eq_true rfl⟩ hP hD hK hS hA mW_0 rfl rfl hl.1 (Nat.le_of_ble_eq_true rfl) ⟨Nat.le_of_ble_eq_true rfl, Nat.le_of_ble_eq_true rfl⟩ dL_law_580 (fun H locs hz hP hD hS => ?_)
                              have hP : va_P D vwCl ((mW om 1 q cI cZ) ++ ((xW o u cI cZ cJ) ++ [(ao, .inl (cJ, 1, .inr (.inl (fun _ => 0))))])) H := hP
                              have hD : va_D (fun q : Nat => s.heap.size ≤ q) ((mW om 1 q cI cZ) ++ ((xW o u cI cZ cJ) ++ [(ao, .inl (cJ, 1, .inr (.inl (fun _ => 0))))])) := hD
                              refine lv_istore (lv' := [(6, .int 0), (5, .int 1), (4, .int 0), (3, .ref ao), (2, .ref om), (1, .ref o), (0, .ref b)]) hx hb dL_law_583 hl (by decide) rfl (fun ls hl => ?_)
                              refine lv_aload_n hx hb dL_law_585 rfl (lv_at hl 4 rfl) ?_
                              refine rdV (As := []) (ci := 9) S (c_X9_thrown_0 l D cI cZ cJ om q) mi_X9_thrown kw_7_89 ⟨rfl, rfl⟩ ⟨Nat.le_of_ble_eq_true rfl, Nat.le_of_ble_eq_true rfl⟩ (va_Pl (ws := (mW om 1 q cI cZ)) (x := ((xW o u cI cZ cJ) ++ [(ao, .inl (cJ, 1, .inr (.inl (fun _ => 0))))])) hP) hK mW_0 rfl rfl hl.1 (Nat.le_of_ble_eq_true rfl) ⟨Nat.le_of_ble_eq_true rfl, Nat.le_of_ble_eq_true rfl⟩ dL_law_586 ?_
                              refine lv_iload hx hb dL_law_589 (lv_at hl 1 rfl) ?_
                              refine lv_icmp_eq (tgt := 596) hx hb dL_law_591 (by decide) (fun _ => ?_) (fun c => absurd c (by decide))
                              refine lv_iload hx hb dL_law_596 (lv_at hl 1 rfl) ?_
                              refine lv_if_ne (tgt := 613) hx hb dL_law_598 (by decide) (fun _ => ?_) (fun c => absurd c (by decide))
                              refine lv_goto (tgt := 1519) hx hb dL_law_613 (by decide) ?_
                              exact law_tail (cells := 121) (slots := 12964) S hr hlocks hX hbl (lv_sub hl [2, 6] rfl) hS (Nat.le_of_ble_eq_true rfl) (Nat.le_of_ble_eq_true rfl)
                            · have ne_x1_13 : ¬ x1 = 13 := d_550
                              by_cases d_550 : x1 = 14
                              · have e_x1 : x1 = 14 := d_550
                                subst e_x1
                                refine wrap (mW om 0 q cI cZ) (mid := ((xW o u cI cZ cJ) ++ [(ao, .inl (cJ, 1, .inr (.inl (fun _ => 0))))])) (As := [.ref o, .int 14, .int x2, .int x3, .int x4, .ref ao]) S (h_node_34 l D cI cZ cJ o u ao hst ra ga H.size x2 x3 x4) msh_L_node kw_6_20 rfl rfl ⟨Nat.le_of_ble_eq_true rfl, Nat.le_of_ble_eq_true rfl⟩ hP hD hK hS hA hB hC hl.1 (Nat.le_of_ble_eq_true rfl) ⟨Nat.le_of_ble_eq_true rfl, Nat.le_of_ble_eq_true rfl⟩ dL_law_550 (fun H locs hz hP hD hS => ?_)
                                have hP : va_P D vwCl ((mW om 0 q cI cZ) ++ ((xW o u cI cZ cJ) ++ [(ao, .inl (cJ, 1, .inr (.inl (fun _ => 0))))])) H := hP
                                have hD : va_D (fun q : Nat => s.heap.size ≤ q) ((mW om 0 q cI cZ) ++ ((xW o u cI cZ cJ) ++ [(ao, .inl (cJ, 1, .inr (.inl (fun _ => 0))))])) := hD
                                refine lv_istore (lv' := [(5, .int 1), (4, .int 0), (3, .ref ao), (2, .ref om), (1, .ref o), (0, .ref b)]) hx hb dL_law_553 hl (by decide) rfl (fun ls hl => ?_)
                                refine lv_aload_n hx hb dL_law_555 rfl (lv_at hl 3 rfl) ?_
                                refine lv_aload_n hx hb dL_law_556 rfl (lv_at hl 5 rfl) ?_
                                refine lv_iload hx hb dL_law_557 (lv_at hl 1 rfl) ?_
                                refine lv_iconst (v := 1) hx hb dL_law_559 (by decide) ?_
                                refine xiadd (v := 1) S dL_law_560 (by decide) ?_
                                refine xsld (v := 14) S hX hbl hbA hS (vin rfl) h1 dL_law_561 ?_
                                refine lv_aload_n hx hb dL_law_562 rfl (lv_at hl 5 rfl) ?_
                                refine lv_iload hx hb dL_law_563 (lv_at hl 1 rfl) ?_
                                refine lv_iconst (v := 2) hx hb dL_law_565 (by decide) ?_
                                refine xiadd (v := 2) S dL_law_566 (by decide) ?_
                                refine xsld (v := x2) S hX hbl hbA hS (vin rfl) h2 dL_law_567 ?_
                                refine lv_aload_n hx hb dL_law_568 rfl (lv_at hl 5 rfl) ?_
                                refine lv_iload hx hb dL_law_569 (lv_at hl 1 rfl) ?_
                                refine lv_iconst (v := 3) hx hb dL_law_571 (by decide) ?_
                                refine xiadd (v := 3) S dL_law_572 (by decide) ?_
                                refine xsld (v := x3) S hX hbl hbA hS (vin rfl) h3 dL_law_573 ?_
                                refine lv_aload_n hx hb dL_law_574 rfl (lv_at hl 5 rfl) ?_
                                refine lv_iload hx hb dL_law_575 (lv_at hl 1 rfl) ?_
                                refine lv_iconst (v := 4) hx hb dL_law_577 (by decide) ?_
                                refine xiadd (v := 4) S dL_law_578 (by decide) ?_
                                refine xsld (v := x4) S hX hbl hbA hS (vin rfl) h4 dL_law_579 ?_
                                refine fVi [] ((xW o u cI cZ cJ) ++ [(ao, .inl (cJ, 1, .inr (.inl (fun _ => 0))))]) (mid := (mW om 0 q cI cZ)) (As := [.int 14, .int x2, .int x3, .int x4]) (ci := 9) S (c_X9_node_34 l D cI cZ cJ om q H.size x2 x3 x4) mi_X9_node kw_7_151 rfl rfl ⟨Nat.le_of_ble_eq_true rfl, Nat.le_of_ble_eq_true rfl⟩ hP hD hK hS hA mW_0 rfl rfl hl.1 (Nat.le_of_ble_eq_true rfl) ⟨Nat.le_of_ble_eq_true rfl, Nat.le_of_ble_eq_true rfl⟩ dL_law_580 (fun H locs hz hP hD hS => ?_)
                                have hP : va_P D vwCl ((mW om 1 q cI cZ) ++ ((xW o u cI cZ cJ) ++ [(ao, .inl (cJ, 1, .inr (.inl (fun _ => 0))))])) H := hP
                                have hD : va_D (fun q : Nat => s.heap.size ≤ q) ((mW om 1 q cI cZ) ++ ((xW o u cI cZ cJ) ++ [(ao, .inl (cJ, 1, .inr (.inl (fun _ => 0))))])) := hD
                                refine lv_istore (lv' := [(6, .int 0), (5, .int 1), (4, .int 0), (3, .ref ao), (2, .ref om), (1, .ref o), (0, .ref b)]) hx hb dL_law_583 hl (by decide) rfl (fun ls hl => ?_)
                                refine lv_aload_n hx hb dL_law_585 rfl (lv_at hl 4 rfl) ?_
                                refine rdV (As := []) (ci := 9) S (c_X9_thrown_0 l D cI cZ cJ om q) mi_X9_thrown kw_7_89 ⟨rfl, rfl⟩ ⟨Nat.le_of_ble_eq_true rfl, Nat.le_of_ble_eq_true rfl⟩ (va_Pl (ws := (mW om 1 q cI cZ)) (x := ((xW o u cI cZ cJ) ++ [(ao, .inl (cJ, 1, .inr (.inl (fun _ => 0))))])) hP) hK mW_0 rfl rfl hl.1 (Nat.le_of_ble_eq_true rfl) ⟨Nat.le_of_ble_eq_true rfl, Nat.le_of_ble_eq_true rfl⟩ dL_law_586 ?_
                                refine lv_iload hx hb dL_law_589 (lv_at hl 1 rfl) ?_
                                refine lv_icmp_eq (tgt := 596) hx hb dL_law_591 (by decide) (fun _ => ?_) (fun c => absurd c (by decide))
                                refine lv_iload hx hb dL_law_596 (lv_at hl 1 rfl) ?_
                                refine lv_if_ne (tgt := 613) hx hb dL_law_598 (by decide) (fun _ => ?_) (fun c => absurd c (by decide))
                                refine lv_goto (tgt := 1519) hx hb dL_law_613 (by decide) ?_
                                exact law_tail (cells := 121) (slots := 12964) S hr hlocks hX hbl (lv_sub hl [2, 6] rfl) hS (Nat.le_of_ble_eq_true rfl) (Nat.le_of_ble_eq_true rfl)
                              · have ne_x1_14 : ¬ x1 = 14 := d_550
                                by_cases d_550 : x1 = 15
                                · have e_x1 : x1 = 15 := d_550
                                  subst e_x1
                                  refine wrap (mW om 0 q cI cZ) (mid := ((xW o u cI cZ cJ) ++ [(ao, .inl (cJ, 1, .inr (.inl (fun _ => 0))))])) (As := [.ref o, .int 15, .int x2, .int x3, .int x4, .ref ao]) S (h_node_35 l D cI cZ cJ o u ao hst ra ga H.size x2 x3 x4) msh_L_node kw_6_20 rfl rfl ⟨Nat.le_of_ble_eq_true rfl, Nat.le_of_ble_eq_true rfl⟩ hP hD hK hS hA hB hC hl.1 (Nat.le_of_ble_eq_true rfl) ⟨Nat.le_of_ble_eq_true rfl, Nat.le_of_ble_eq_true rfl⟩ dL_law_550 (fun H locs hz hP hD hS => ?_)
                                  have hP : va_P D vwCl ((mW om 0 q cI cZ) ++ ((xW o u cI cZ cJ) ++ [(ao, .inl (cJ, 1, .inr (.inl (fun _ => 0))))])) H := hP
                                  have hD : va_D (fun q : Nat => s.heap.size ≤ q) ((mW om 0 q cI cZ) ++ ((xW o u cI cZ cJ) ++ [(ao, .inl (cJ, 1, .inr (.inl (fun _ => 0))))])) := hD
                                  refine lv_istore (lv' := [(5, .int 1), (4, .int 0), (3, .ref ao), (2, .ref om), (1, .ref o), (0, .ref b)]) hx hb dL_law_553 hl (by decide) rfl (fun ls hl => ?_)
                                  refine lv_aload_n hx hb dL_law_555 rfl (lv_at hl 3 rfl) ?_
                                  refine lv_aload_n hx hb dL_law_556 rfl (lv_at hl 5 rfl) ?_
                                  refine lv_iload hx hb dL_law_557 (lv_at hl 1 rfl) ?_
                                  refine lv_iconst (v := 1) hx hb dL_law_559 (by decide) ?_
                                  refine xiadd (v := 1) S dL_law_560 (by decide) ?_
                                  refine xsld (v := 15) S hX hbl hbA hS (vin rfl) h1 dL_law_561 ?_
                                  refine lv_aload_n hx hb dL_law_562 rfl (lv_at hl 5 rfl) ?_
                                  refine lv_iload hx hb dL_law_563 (lv_at hl 1 rfl) ?_
                                  refine lv_iconst (v := 2) hx hb dL_law_565 (by decide) ?_
                                  refine xiadd (v := 2) S dL_law_566 (by decide) ?_
                                  refine xsld (v := x2) S hX hbl hbA hS (vin rfl) h2 dL_law_567 ?_
                                  refine lv_aload_n hx hb dL_law_568 rfl (lv_at hl 5 rfl) ?_
                                  refine lv_iload hx hb dL_law_569 (lv_at hl 1 rfl) ?_
                                  refine lv_iconst (v := 3) hx hb dL_law_571 (by decide) ?_
                                  refine xiadd (v := 3) S dL_law_572 (by decide) ?_
                                  refine xsld (v := x3) S hX hbl hbA hS (vin rfl) h3 dL_law_573 ?_
                                  refine lv_aload_n hx hb dL_law_574 rfl (lv_at hl 5 rfl) ?_
                                  refine lv_iload hx hb dL_law_575 (lv_at hl 1 rfl) ?_
                                  refine lv_iconst (v := 4) hx hb dL_law_577 (by decide) ?_
                                  refine xiadd (v := 4) S dL_law_578 (by decide) ?_
                                  refine xsld (v := x4) S hX hbl hbA hS (vin rfl) h4 dL_law_579 ?_
                                  refine fVi [] ((xW o u cI cZ cJ) ++ [(ao, .inl (cJ, 1, .inr (.inl (fun _ => 0))))]) (mid := (mW om 0 q cI cZ)) (As := [.int 15, .int x2, .int x3, .int x4]) (ci := 9) S (c_X9_node_35 l D cI cZ cJ om q H.size x2 x3 x4) mi_X9_node kw_7_151 rfl rfl ⟨Nat.le_of_ble_eq_true rfl, Nat.le_of_ble_eq_true rfl⟩ hP hD hK hS hA mW_0 rfl rfl hl.1 (Nat.le_of_ble_eq_true rfl) ⟨Nat.le_of_ble_eq_true rfl, Nat.le_of_ble_eq_true rfl⟩ dL_law_580 (fun H locs hz hP hD hS => ?_)
                                  have hP : va_P D vwCl ((mW om 1 q cI cZ) ++ ((xW o u cI cZ cJ) ++ [(ao, .inl (cJ, 1, .inr (.inl (fun _ => 0))))])) H := hP
                                  have hD : va_D (fun q : Nat => s.heap.size ≤ q) ((mW om 1 q cI cZ) ++ ((xW o u cI cZ cJ) ++ [(ao, .inl (cJ, 1, .inr (.inl (fun _ => 0))))])) := hD
                                  refine lv_istore (lv' := [(6, .int 0), (5, .int 1), (4, .int 0), (3, .ref ao), (2, .ref om), (1, .ref o), (0, .ref b)]) hx hb dL_law_583 hl (by decide) rfl (fun ls hl => ?_)
                                  refine lv_aload_n hx hb dL_law_585 rfl (lv_at hl 4 rfl) ?_
                                  refine rdV (As := []) (ci := 9) S (c_X9_thrown_0 l D cI cZ cJ om q) mi_X9_thrown kw_7_89 ⟨rfl, rfl⟩ ⟨Nat.le_of_ble_eq_true rfl, Nat.le_of_ble_eq_true rfl⟩ (va_Pl (ws := (mW om 1 q cI cZ)) (x := ((xW o u cI cZ cJ) ++ [(ao, .inl (cJ, 1, .inr (.inl (fun _ => 0))))])) hP) hK mW_0 rfl rfl hl.1 (Nat.le_of_ble_eq_true rfl) ⟨Nat.le_of_ble_eq_true rfl, Nat.le_of_ble_eq_true rfl⟩ dL_law_586 ?_
                                  refine lv_iload hx hb dL_law_589 (lv_at hl 1 rfl) ?_
                                  refine lv_icmp_eq (tgt := 596) hx hb dL_law_591 (by decide) (fun _ => ?_) (fun c => absurd c (by decide))
                                  refine lv_iload hx hb dL_law_596 (lv_at hl 1 rfl) ?_
                                  refine lv_if_ne (tgt := 613) hx hb dL_law_598 (by decide) (fun _ => ?_) (fun c => absurd c (by decide))
                                  refine lv_goto (tgt := 1519) hx hb dL_law_613 (by decide) ?_
                                  exact law_tail (cells := 121) (slots := 12964) S hr hlocks hX hbl (lv_sub hl [2, 6] rfl) hS (Nat.le_of_ble_eq_true rfl) (Nat.le_of_ble_eq_true rfl)
                                · have ne_x1_15 : ¬ x1 = 15 := d_550
                                  by_cases d_550 : x1 = 16
                                  · have e_x1 : x1 = 16 := d_550
                                    subst e_x1
                                    refine wrap (mW om 0 q cI cZ) (mid := ((xW o u cI cZ cJ) ++ [(ao, .inl (cJ, 1, .inr (.inl (fun _ => 0))))])) (As := [.ref o, .int 16, .int x2, .int x3, .int x4, .ref ao]) S (h_node_36 l D cI cZ cJ o u ao hst ra ga H.size x2 x3 x4) msh_L_node kw_6_20 rfl rfl ⟨Nat.le_of_ble_eq_true rfl, Nat.le_of_ble_eq_true rfl⟩ hP hD hK hS hA hB hC hl.1 (Nat.le_of_ble_eq_true rfl) ⟨Nat.le_of_ble_eq_true rfl, Nat.le_of_ble_eq_true rfl⟩ dL_law_550 (fun H locs hz hP hD hS => ?_)
                                    have hP : va_P D vwCl ((mW om 0 q cI cZ) ++ ((xW o u cI cZ cJ) ++ [(ao, .inl (cJ, 1, .inr (.inl (fun _ => 0))))])) H := hP
                                    have hD : va_D (fun q : Nat => s.heap.size ≤ q) ((mW om 0 q cI cZ) ++ ((xW o u cI cZ cJ) ++ [(ao, .inl (cJ, 1, .inr (.inl (fun _ => 0))))])) := hD
                                    refine lv_istore (lv' := [(5, .int 1), (4, .int 0), (3, .ref ao), (2, .ref om), (1, .ref o), (0, .ref b)]) hx hb dL_law_553 hl (by decide) rfl (fun ls hl => ?_)
                                    refine lv_aload_n hx hb dL_law_555 rfl (lv_at hl 3 rfl) ?_
                                    refine lv_aload_n hx hb dL_law_556 rfl (lv_at hl 5 rfl) ?_
                                    refine lv_iload hx hb dL_law_557 (lv_at hl 1 rfl) ?_
                                    refine lv_iconst (v := 1) hx hb dL_law_559 (by decide) ?_
                                    refine xiadd (v := 1) S dL_law_560 (by decide) ?_
                                    refine xsld (v := 16) S hX hbl hbA hS (vin rfl) h1 dL_law_561 ?_
                                    refine lv_aload_n hx hb dL_law_562 rfl (lv_at hl 5 rfl) ?_
                                    refine lv_iload hx hb dL_law_563 (lv_at hl 1 rfl) ?_
                                    refine lv_iconst (v := 2) hx hb dL_law_565 (by decide) ?_
                                    refine xiadd (v := 2) S dL_law_566 (by decide) ?_
                                    refine xsld (v := x2) S hX hbl hbA hS (vin rfl) h2 dL_law_567 ?_
                                    refine lv_aload_n hx hb dL_law_568 rfl (lv_at hl 5 rfl) ?_
                                    refine lv_iload hx hb dL_law_569 (lv_at hl 1 rfl) ?_
                                    refine lv_iconst (v := 3) hx hb dL_law_571 (by decide) ?_
                                    refine xiadd (v := 3) S dL_law_572 (by decide) ?_
                                    refine xsld (v := x3) S hX hbl hbA hS (vin rfl) h3 dL_law_573 ?_
                                    refine lv_aload_n hx hb dL_law_574 rfl (lv_at hl 5 rfl) ?_
                                    refine lv_iload hx hb dL_law_575 (lv_at hl 1 rfl) ?_
                                    refine lv_iconst (v := 4) hx hb dL_law_577 (by decide) ?_
                                    refine xiadd (v := 4) S dL_law_578 (by decide) ?_
                                    refine xsld (v := x4) S hX hbl hbA hS (vin rfl) h4 dL_law_579 ?_
                                    refine fVi [] ((xW o u cI cZ cJ) ++ [(ao, .inl (cJ, 1, .inr (.inl (fun _ => 0))))]) (mid := (mW om 0 q cI cZ)) (As := [.int 16, .int x2, .int x3, .int x4]) (ci := 9) S (c_X9_node_36 l D cI cZ cJ om q H.size x2 x3 x4) mi_X9_node kw_7_151 rfl rfl ⟨Nat.le_of_ble_eq_true rfl, Nat.le_of_ble_eq_true rfl⟩ hP hD hK hS hA mW_0 rfl rfl hl.1 (Nat.le_of_ble_eq_true rfl) ⟨Nat.le_of_ble_eq_true rfl, Nat.le_of_ble_eq_true rfl⟩ dL_law_580 (fun H locs hz hP hD hS => ?_)
                                    have hP : va_P D vwCl ((mW om 1 q cI cZ) ++ ((xW o u cI cZ cJ) ++ [(ao, .inl (cJ, 1, .inr (.inl (fun _ => 0))))])) H := hP
                                    have hD : va_D (fun q : Nat => s.heap.size ≤ q) ((mW om 1 q cI cZ) ++ ((xW o u cI cZ cJ) ++ [(ao, .inl (cJ, 1, .inr (.inl (fun _ => 0))))])) := hD
                                    refine lv_istore (lv' := [(6, .int 0), (5, .int 1), (4, .int 0), (3, .ref ao), (2, .ref om), (1, .ref o), (0, .ref b)]) hx hb dL_law_583 hl (by decide) rfl (fun ls hl => ?_)
                                    refine lv_aload_n hx hb dL_law_585 rfl (lv_at hl 4 rfl) ?_
                                    refine rdV (As := []) (ci := 9) S (c_X9_thrown_0 l D cI cZ cJ om q) mi_X9_thrown kw_7_89 ⟨rfl, rfl⟩ ⟨Nat.le_of_ble_eq_true rfl, Nat.le_of_ble_eq_true rfl⟩ (va_Pl (ws := (mW om 1 q cI cZ)) (x := ((xW o u cI cZ cJ) ++ [(ao, .inl (cJ, 1, .inr (.inl (fun _ => 0))))])) hP) hK mW_0 rfl rfl hl.1 (Nat.le_of_ble_eq_true rfl) ⟨Nat.le_of_ble_eq_true rfl, Nat.le_of_ble_eq_true rfl⟩ dL_law_586 ?_
                                    refine lv_iload hx hb dL_law_589 (lv_at hl 1 rfl) ?_
                                    refine lv_icmp_eq (tgt := 596) hx hb dL_law_591 (by decide) (fun _ => ?_) (fun c => absurd c (by decide))
                                    refine lv_iload hx hb dL_law_596 (lv_at hl 1 rfl) ?_
                                    refine lv_if_ne (tgt := 613) hx hb dL_law_598 (by decide) (fun _ => ?_) (fun c => absurd c (by decide))
                                    refine lv_goto (tgt := 1519) hx hb dL_law_613 (by decide) ?_
                                    exact law_tail (cells := 121) (slots := 12964) S hr hlocks hX hbl (lv_sub hl [2, 6] rfl) hS (Nat.le_of_ble_eq_true rfl) (Nat.le_of_ble_eq_true rfl)
                                  · have ne_x1_16 : ¬ x1 = 16 := d_550
                                    by_cases d_550 : x1 = 17
                                    · have e_x1 : x1 = 17 := d_550
                                      subst e_x1
                                      by_cases d_550 : x2 < 0
                                      · have hi_x2 : x2 ≤ (-1) := u_lt d_550 (by decide)
                                        refine wrap (mW om 0 q cI cZ) (mid := ((xW o u cI cZ cJ) ++ [(ao, .inl (cJ, 1, .inr (.inl (fun _ => 0))))])) (As := [.ref o, .int 17, .int x2, .int x3, .int x4, .ref ao]) S (h_node_37 l D cI cZ cJ o u ao hst ra ga H.size x2 x3 x4 hi_x2) msh_L_node kw_6_20 rfl rfl ⟨Nat.le_of_ble_eq_true rfl, Nat.le_of_ble_eq_true rfl⟩ hP hD hK hS hA hB hC hl.1 (Nat.le_of_ble_eq_true rfl) ⟨Nat.le_of_ble_eq_true rfl, Nat.le_of_ble_eq_true rfl⟩ dL_law_550 (fun H locs hz hP hD hS => ?_)
                                        have hP : va_P D vwCl ((mW om 0 q cI cZ) ++ ((xW o u cI cZ cJ) ++ [(ao, .inl (cJ, 1, .inr (.inl (fun _ => 0))))])) H := hP
                                        have hD : va_D (fun q : Nat => s.heap.size ≤ q) ((mW om 0 q cI cZ) ++ ((xW o u cI cZ cJ) ++ [(ao, .inl (cJ, 1, .inr (.inl (fun _ => 0))))])) := hD
                                        refine lv_istore (lv' := [(5, .int 1), (4, .int 0), (3, .ref ao), (2, .ref om), (1, .ref o), (0, .ref b)]) hx hb dL_law_553 hl (by decide) rfl (fun ls hl => ?_)
                                        refine lv_aload_n hx hb dL_law_555 rfl (lv_at hl 3 rfl) ?_
                                        refine lv_aload_n hx hb dL_law_556 rfl (lv_at hl 5 rfl) ?_
                                        refine lv_iload hx hb dL_law_557 (lv_at hl 1 rfl) ?_
                                        refine lv_iconst (v := 1) hx hb dL_law_559 (by decide) ?_
                                        refine xiadd (v := 1) S dL_law_560 (by decide) ?_
                                        refine xsld (v := 17) S hX hbl hbA hS (vin rfl) h1 dL_law_561 ?_
                                        refine lv_aload_n hx hb dL_law_562 rfl (lv_at hl 5 rfl) ?_
                                        refine lv_iload hx hb dL_law_563 (lv_at hl 1 rfl) ?_
                                        refine lv_iconst (v := 2) hx hb dL_law_565 (by decide) ?_
                                        refine xiadd (v := 2) S dL_law_566 (by decide) ?_
                                        refine xsld (v := x2) S hX hbl hbA hS (vin rfl) h2 dL_law_567 ?_
                                        refine lv_aload_n hx hb dL_law_568 rfl (lv_at hl 5 rfl) ?_
                                        refine lv_iload hx hb dL_law_569 (lv_at hl 1 rfl) ?_
                                        refine lv_iconst (v := 3) hx hb dL_law_571 (by decide) ?_
                                        refine xiadd (v := 3) S dL_law_572 (by decide) ?_
                                        refine xsld (v := x3) S hX hbl hbA hS (vin rfl) h3 dL_law_573 ?_
                                        refine lv_aload_n hx hb dL_law_574 rfl (lv_at hl 5 rfl) ?_
                                        refine lv_iload hx hb dL_law_575 (lv_at hl 1 rfl) ?_
                                        refine lv_iconst (v := 4) hx hb dL_law_577 (by decide) ?_
                                        refine xiadd (v := 4) S dL_law_578 (by decide) ?_
                                        refine xsld (v := x4) S hX hbl hbA hS (vin rfl) h4 dL_law_579 ?_
                                        refine fVi [] ((xW o u cI cZ cJ) ++ [(ao, .inl (cJ, 1, .inr (.inl (fun _ => 0))))]) (mid := (mW om 0 q cI cZ)) (As := [.int 17, .int x2, .int x3, .int x4]) (ci := 9) S (c_X9_node_37 l D cI cZ cJ om q H.size x2 x3 x4 hi_x2) mi_X9_node kw_7_151 rfl rfl ⟨Nat.le_of_ble_eq_true rfl, Nat.le_of_ble_eq_true rfl⟩ hP hD hK hS hA mW_0 rfl rfl hl.1 (Nat.le_of_ble_eq_true rfl) ⟨Nat.le_of_ble_eq_true rfl, Nat.le_of_ble_eq_true rfl⟩ dL_law_580 (fun H locs hz hP hD hS => ?_)
                                        have hP : va_P D vwCl ((mW om 1 q cI cZ) ++ ((xW o u cI cZ cJ) ++ [(ao, .inl (cJ, 1, .inr (.inl (fun _ => 0))))])) H := hP
                                        have hD : va_D (fun q : Nat => s.heap.size ≤ q) ((mW om 1 q cI cZ) ++ ((xW o u cI cZ cJ) ++ [(ao, .inl (cJ, 1, .inr (.inl (fun _ => 0))))])) := hD
                                        refine lv_istore (lv' := [(6, .int 0), (5, .int 1), (4, .int 0), (3, .ref ao), (2, .ref om), (1, .ref o), (0, .ref b)]) hx hb dL_law_583 hl (by decide) rfl (fun ls hl => ?_)
                                        refine lv_aload_n hx hb dL_law_585 rfl (lv_at hl 4 rfl) ?_
                                        refine rdV (As := []) (ci := 9) S (c_X9_thrown_0 l D cI cZ cJ om q) mi_X9_thrown kw_7_89 ⟨rfl, rfl⟩ ⟨Nat.le_of_ble_eq_true rfl, Nat.le_of_ble_eq_true rfl⟩ (va_Pl (ws := (mW om 1 q cI cZ)) (x := ((xW o u cI cZ cJ) ++ [(ao, .inl (cJ, 1, .inr (.inl (fun _ => 0))))])) hP) hK mW_0 rfl rfl hl.1 (Nat.le_of_ble_eq_true rfl) ⟨Nat.le_of_ble_eq_true rfl, Nat.le_of_ble_eq_true rfl⟩ dL_law_586 ?_
                                        refine lv_iload hx hb dL_law_589 (lv_at hl 1 rfl) ?_
                                        refine lv_icmp_eq (tgt := 596) hx hb dL_law_591 (by decide) (fun _ => ?_) (fun c => absurd c (by decide))
                                        refine lv_iload hx hb dL_law_596 (lv_at hl 1 rfl) ?_
                                        refine lv_if_ne (tgt := 613) hx hb dL_law_598 (by decide) (fun _ => ?_) (fun c => absurd c (by decide))
                                        refine lv_goto (tgt := 1519) hx hb dL_law_613 (by decide) ?_
                                        exact law_tail (cells := 121) (slots := 12964) S hr hlocks hX hbl (lv_sub hl [2, 6] rfl) hS (Nat.le_of_ble_eq_true rfl) (Nat.le_of_ble_eq_true rfl)
                                      · have lo_x2 : 0 ≤ x2 := l_nlt d_550
                                        by_cases d_550 : 10 ≤ x2
                                        · have lo_x2 : 10 ≤ x2 := d_550
                                          refine wrap (mW om 0 q cI cZ) (mid := ((xW o u cI cZ cJ) ++ [(ao, .inl (cJ, 1, .inr (.inl (fun _ => 0))))])) (As := [.ref o, .int 17, .int x2, .int x3, .int x4, .ref ao]) S (h_node_38 l D cI cZ cJ o u ao hst ra ga H.size x2 x3 x4 lo_x2) msh_L_node kw_6_20 rfl rfl ⟨Nat.le_of_ble_eq_true rfl, Nat.le_of_ble_eq_true rfl⟩ hP hD hK hS hA hB hC hl.1 (Nat.le_of_ble_eq_true rfl) ⟨Nat.le_of_ble_eq_true rfl, Nat.le_of_ble_eq_true rfl⟩ dL_law_550 (fun H locs hz hP hD hS => ?_)
                                          have hP : va_P D vwCl ((mW om 0 q cI cZ) ++ ((xW o u cI cZ cJ) ++ [(ao, .inl (cJ, 1, .inr (.inl (fun _ => 0))))])) H := hP
                                          have hD : va_D (fun q : Nat => s.heap.size ≤ q) ((mW om 0 q cI cZ) ++ ((xW o u cI cZ cJ) ++ [(ao, .inl (cJ, 1, .inr (.inl (fun _ => 0))))])) := hD
                                          refine lv_istore (lv' := [(5, .int 1), (4, .int 0), (3, .ref ao), (2, .ref om), (1, .ref o), (0, .ref b)]) hx hb dL_law_553 hl (by decide) rfl (fun ls hl => ?_)
                                          refine lv_aload_n hx hb dL_law_555 rfl (lv_at hl 3 rfl) ?_
                                          refine lv_aload_n hx hb dL_law_556 rfl (lv_at hl 5 rfl) ?_
                                          refine lv_iload hx hb dL_law_557 (lv_at hl 1 rfl) ?_
                                          refine lv_iconst (v := 1) hx hb dL_law_559 (by decide) ?_
                                          refine xiadd (v := 1) S dL_law_560 (by decide) ?_
                                          refine xsld (v := 17) S hX hbl hbA hS (vin rfl) h1 dL_law_561 ?_
                                          refine lv_aload_n hx hb dL_law_562 rfl (lv_at hl 5 rfl) ?_
                                          refine lv_iload hx hb dL_law_563 (lv_at hl 1 rfl) ?_
                                          refine lv_iconst (v := 2) hx hb dL_law_565 (by decide) ?_
                                          refine xiadd (v := 2) S dL_law_566 (by decide) ?_
                                          refine xsld (v := x2) S hX hbl hbA hS (vin rfl) h2 dL_law_567 ?_
                                          refine lv_aload_n hx hb dL_law_568 rfl (lv_at hl 5 rfl) ?_
                                          refine lv_iload hx hb dL_law_569 (lv_at hl 1 rfl) ?_
                                          refine lv_iconst (v := 3) hx hb dL_law_571 (by decide) ?_
                                          refine xiadd (v := 3) S dL_law_572 (by decide) ?_
                                          refine xsld (v := x3) S hX hbl hbA hS (vin rfl) h3 dL_law_573 ?_
                                          refine lv_aload_n hx hb dL_law_574 rfl (lv_at hl 5 rfl) ?_
                                          refine lv_iload hx hb dL_law_575 (lv_at hl 1 rfl) ?_
                                          refine lv_iconst (v := 4) hx hb dL_law_577 (by decide) ?_
                                          refine xiadd (v := 4) S dL_law_578 (by decide) ?_
                                          refine xsld (v := x4) S hX hbl hbA hS (vin rfl) h4 dL_law_579 ?_
                                          refine fVi [] ((xW o u cI cZ cJ) ++ [(ao, .inl (cJ, 1, .inr (.inl (fun _ => 0))))]) (mid := (mW om 0 q cI cZ)) (As := [.int 17, .int x2, .int x3, .int x4]) (ci := 9) S (c_X9_node_38 l D cI cZ cJ om q H.size x2 x3 x4 lo_x2) mi_X9_node kw_7_151 rfl rfl ⟨Nat.le_of_ble_eq_true rfl, Nat.le_of_ble_eq_true rfl⟩ hP hD hK hS hA mW_0 rfl rfl hl.1 (Nat.le_of_ble_eq_true rfl) ⟨Nat.le_of_ble_eq_true rfl, Nat.le_of_ble_eq_true rfl⟩ dL_law_580 (fun H locs hz hP hD hS => ?_)
                                          have hP : va_P D vwCl ((mW om 1 q cI cZ) ++ ((xW o u cI cZ cJ) ++ [(ao, .inl (cJ, 1, .inr (.inl (fun _ => 0))))])) H := hP
                                          have hD : va_D (fun q : Nat => s.heap.size ≤ q) ((mW om 1 q cI cZ) ++ ((xW o u cI cZ cJ) ++ [(ao, .inl (cJ, 1, .inr (.inl (fun _ => 0))))])) := hD
                                          refine lv_istore (lv' := [(6, .int 0), (5, .int 1), (4, .int 0), (3, .ref ao), (2, .ref om), (1, .ref o), (0, .ref b)]) hx hb dL_law_583 hl (by decide) rfl (fun ls hl => ?_)
                                          refine lv_aload_n hx hb dL_law_585 rfl (lv_at hl 4 rfl) ?_
                                          refine rdV (As := []) (ci := 9) S (c_X9_thrown_0 l D cI cZ cJ om q) mi_X9_thrown kw_7_89 ⟨rfl, rfl⟩ ⟨Nat.le_of_ble_eq_true rfl, Nat.le_of_ble_eq_true rfl⟩ (va_Pl (ws := (mW om 1 q cI cZ)) (x := ((xW o u cI cZ cJ) ++ [(ao, .inl (cJ, 1, .inr (.inl (fun _ => 0))))])) hP) hK mW_0 rfl rfl hl.1 (Nat.le_of_ble_eq_true rfl) ⟨Nat.le_of_ble_eq_true rfl, Nat.le_of_ble_eq_true rfl⟩ dL_law_586 ?_
                                          refine lv_iload hx hb dL_law_589 (lv_at hl 1 rfl) ?_
                                          refine lv_icmp_eq (tgt := 596) hx hb dL_law_591 (by decide) (fun _ => ?_) (fun c => absurd c (by decide))
                                          refine lv_iload hx hb dL_law_596 (lv_at hl 1 rfl) ?_
                                          refine lv_if_ne (tgt := 613) hx hb dL_law_598 (by decide) (fun _ => ?_) (fun c => absurd c (by decide))
                                          refine lv_goto (tgt := 1519) hx hb dL_law_613 (by decide) ?_
                                          exact law_tail (cells := 121) (slots := 12964) S hr hlocks hX hbl (lv_sub hl [2, 6] rfl) hS (Nat.le_of_ble_eq_true rfl) (Nat.le_of_ble_eq_true rfl)
                                        · have hi_x2 : x2 ≤ 9 := u_nge d_550 (by decide)
                                          by_cases d_550 : x3 = 0
                                          · have e_x3 : x3 = 0 := d_550
                                            subst e_x3
                                            by_cases d_550 : x4 = 0
                                            · have e_x4 : x4 = 0 := d_550
                                              subst e_x4
                                              refine wrap (mW om 0 q cI cZ) (mid := ((xW o u cI cZ cJ) ++ [(ao, .inl (cJ, 1, .inr (.inl (fun _ => 0))))])) (As := [.ref o, .int 17, .int x2, .int 0, .int 0, .ref ao]) S (h_node_39 l D cI cZ cJ o u ao hst ra ga H.size x2 lo_x2 hi_x2) msh_L_node kw_6_20 rfl rfl ⟨Nat.le_of_ble_eq_true rfl, Nat.le_of_ble_eq_true rfl⟩ hP hD hK hS hA hB hC hl.1 (Nat.le_of_ble_eq_true rfl) ⟨Nat.le_of_ble_eq_true rfl, Nat.le_of_ble_eq_true rfl⟩ dL_law_550 (fun H locs hz hP hD hS => ?_)
                                              have hP : va_P D vwCl ((mW om 0 q cI cZ) ++ (((((((((xW o u cI cZ cJ).set 13 ((u 12), .inr (5, ([.int 0, .ref (u 13), .ref (u 14), .ref (u 15), .ref (u 16), .ref (u 17), .ref (u 18)].set 0 (.int 1))))).set 14 ((u 13), .inl (cI, 110, .inl (upd (fun _ => 0) (0 : Int32).toNatClampNeg 17)))).set 15 ((u 14), .inl (cI, 110, .inl (upd (fun _ => 0) (0 : Int32).toNatClampNeg x2)))).set 16 ((u 15), .inl (cI, 110, .inl (upd (fun _ => 0) (0 : Int32).toNatClampNeg 0)))).set 17 ((u 16), .inl (cI, 110, .inl (upd (fun _ => 0) (0 : Int32).toNatClampNeg 0)))).set 18 ((u 17), .inl (cI, 110, .inl (upd (fun _ => 0) (0 : Int32).toNatClampNeg (-1))))).set 19 ((u 18), .inl (cI, 110, .inl (upd (fun _ => 0) (0 : Int32).toNatClampNeg (-1))))) ++ [(ao, .inl (cJ, 1, .inr (.inl (vp_updL (fun _ => 0) (0 : Int32).toNatClampNeg 0))))])) H := hP
                                              have hD : va_D (fun q : Nat => s.heap.size ≤ q) ((mW om 0 q cI cZ) ++ (((((((((xW o u cI cZ cJ).set 13 ((u 12), .inr (5, ([.int 0, .ref (u 13), .ref (u 14), .ref (u 15), .ref (u 16), .ref (u 17), .ref (u 18)].set 0 (.int 1))))).set 14 ((u 13), .inl (cI, 110, .inl (upd (fun _ => 0) (0 : Int32).toNatClampNeg 17)))).set 15 ((u 14), .inl (cI, 110, .inl (upd (fun _ => 0) (0 : Int32).toNatClampNeg x2)))).set 16 ((u 15), .inl (cI, 110, .inl (upd (fun _ => 0) (0 : Int32).toNatClampNeg 0)))).set 17 ((u 16), .inl (cI, 110, .inl (upd (fun _ => 0) (0 : Int32).toNatClampNeg 0)))).set 18 ((u 17), .inl (cI, 110, .inl (upd (fun _ => 0) (0 : Int32).toNatClampNeg (-1))))).set 19 ((u 18), .inl (cI, 110, .inl (upd (fun _ => 0) (0 : Int32).toNatClampNeg (-1))))) ++ [(ao, .inl (cJ, 1, .inr (.inl (vp_updL (fun _ => 0) (0 : Int32).toNatClampNeg 0))))])) := hD
                                              refine lv_istore (lv' := [(5, .int 0), (4, .int 0), (3, .ref ao), (2, .ref om), (1, .ref o), (0, .ref b)]) hx hb dL_law_553 hl (by decide) rfl (fun ls hl => ?_)
                                              refine lv_aload_n hx hb dL_law_555 rfl (lv_at hl 3 rfl) ?_
                                              refine lv_aload_n hx hb dL_law_556 rfl (lv_at hl 5 rfl) ?_
                                              refine lv_iload hx hb dL_law_557 (lv_at hl 1 rfl) ?_
                                              refine lv_iconst (v := 1) hx hb dL_law_559 (by decide) ?_
                                              refine xiadd (v := 1) S dL_law_560 (by decide) ?_
                                              refine xsld (v := 17) S hX hbl hbA hS (vin rfl) h1 dL_law_561 ?_
                                              refine lv_aload_n hx hb dL_law_562 rfl (lv_at hl 5 rfl) ?_
                                              refine lv_iload hx hb dL_law_563 (lv_at hl 1 rfl) ?_
                                              refine lv_iconst (v := 2) hx hb dL_law_565 (by decide) ?_
                                              refine xiadd (v := 2) S dL_law_566 (by decide) ?_
                                              refine xsld (v := x2) S hX hbl hbA hS (vin rfl) h2 dL_law_567 ?_
                                              refine lv_aload_n hx hb dL_law_568 rfl (lv_at hl 5 rfl) ?_
                                              refine lv_iload hx hb dL_law_569 (lv_at hl 1 rfl) ?_
                                              refine lv_iconst (v := 3) hx hb dL_law_571 (by decide) ?_
                                              refine xiadd (v := 3) S dL_law_572 (by decide) ?_
                                              refine xsld (v := 0) S hX hbl hbA hS (vin rfl) h3 dL_law_573 ?_
                                              refine lv_aload_n hx hb dL_law_574 rfl (lv_at hl 5 rfl) ?_
                                              refine lv_iload hx hb dL_law_575 (lv_at hl 1 rfl) ?_
                                              refine lv_iconst (v := 4) hx hb dL_law_577 (by decide) ?_
                                              refine xiadd (v := 4) S dL_law_578 (by decide) ?_
                                              refine xsld (v := 0) S hX hbl hbA hS (vin rfl) h4 dL_law_579 ?_
                                              refine fVi [] (((((((((xW o u cI cZ cJ).set 13 ((u 12), .inr (5, ([.int 0, .ref (u 13), .ref (u 14), .ref (u 15), .ref (u 16), .ref (u 17), .ref (u 18)].set 0 (.int 1))))).set 14 ((u 13), .inl (cI, 110, .inl (upd (fun _ => 0) (0 : Int32).toNatClampNeg 17)))).set 15 ((u 14), .inl (cI, 110, .inl (upd (fun _ => 0) (0 : Int32).toNatClampNeg x2)))).set 16 ((u 15), .inl (cI, 110, .inl (upd (fun _ => 0) (0 : Int32).toNatClampNeg 0)))).set 17 ((u 16), .inl (cI, 110, .inl (upd (fun _ => 0) (0 : Int32).toNatClampNeg 0)))).set 18 ((u 17), .inl (cI, 110, .inl (upd (fun _ => 0) (0 : Int32).toNatClampNeg (-1))))).set 19 ((u 18), .inl (cI, 110, .inl (upd (fun _ => 0) (0 : Int32).toNatClampNeg (-1))))) ++ [(ao, .inl (cJ, 1, .inr (.inl (vp_updL (fun _ => 0) (0 : Int32).toNatClampNeg 0))))]) (mid := (mW om 0 q cI cZ)) (As := [.int 17, .int x2, .int 0, .int 0]) (ci := 9) S (c_X9_node_39 l D cI cZ cJ om q H.size x2 lo_x2 hi_x2) mi_X9_node kw_7_151 rfl rfl ⟨Nat.le_of_ble_eq_true rfl, Nat.le_of_ble_eq_true rfl⟩ hP hD hK hS hA mW_0 rfl rfl hl.1 (Nat.le_of_ble_eq_true rfl) ⟨Nat.le_of_ble_eq_true rfl, Nat.le_of_ble_eq_true rfl⟩ dL_law_580 (fun H locs hz hP hD hS => ?_)
                                              have hP : va_P D vwCl (((((((((mW om 0 q cI cZ).set 0 (om, .inr (9, ((mF 0 q).set 13 (.int 1))))).set 12 ((q 11), .inl (cI, 110, .inl (upd (fun _ => 0) (0 : Int32).toNatClampNeg 17)))).set 13 ((q 12), .inl (cI, 110, .inl (upd (fun _ => 0) (0 : Int32).toNatClampNeg x2)))).set 14 ((q 13), .inl (cI, 110, .inl (upd (fun _ => 0) (0 : Int32).toNatClampNeg 0)))).set 15 ((q 14), .inl (cI, 110, .inl (upd (fun _ => 0) (0 : Int32).toNatClampNeg 0)))).set 16 ((q 15), .inl (cI, 110, .inl (upd (fun _ => 0) (0 : Int32).toNatClampNeg (-1))))).set 17 ((q 16), .inl (cI, 110, .inl (upd (fun _ => 0) (0 : Int32).toNatClampNeg (-1))))) ++ (((((((((xW o u cI cZ cJ).set 13 ((u 12), .inr (5, ([.int 0, .ref (u 13), .ref (u 14), .ref (u 15), .ref (u 16), .ref (u 17), .ref (u 18)].set 0 (.int 1))))).set 14 ((u 13), .inl (cI, 110, .inl (upd (fun _ => 0) (0 : Int32).toNatClampNeg 17)))).set 15 ((u 14), .inl (cI, 110, .inl (upd (fun _ => 0) (0 : Int32).toNatClampNeg x2)))).set 16 ((u 15), .inl (cI, 110, .inl (upd (fun _ => 0) (0 : Int32).toNatClampNeg 0)))).set 17 ((u 16), .inl (cI, 110, .inl (upd (fun _ => 0) (0 : Int32).toNatClampNeg 0)))).set 18 ((u 17), .inl (cI, 110, .inl (upd (fun _ => 0) (0 : Int32).toNatClampNeg (-1))))).set 19 ((u 18), .inl (cI, 110, .inl (upd (fun _ => 0) (0 : Int32).toNatClampNeg (-1))))) ++ [(ao, .inl (cJ, 1, .inr (.inl (vp_updL (fun _ => 0) (0 : Int32).toNatClampNeg 0))))])) H := hP
                                              have hD : va_D (fun q : Nat => s.heap.size ≤ q) (((((((((mW om 0 q cI cZ).set 0 (om, .inr (9, ((mF 0 q).set 13 (.int 1))))).set 12 ((q 11), .inl (cI, 110, .inl (upd (fun _ => 0) (0 : Int32).toNatClampNeg 17)))).set 13 ((q 12), .inl (cI, 110, .inl (upd (fun _ => 0) (0 : Int32).toNatClampNeg x2)))).set 14 ((q 13), .inl (cI, 110, .inl (upd (fun _ => 0) (0 : Int32).toNatClampNeg 0)))).set 15 ((q 14), .inl (cI, 110, .inl (upd (fun _ => 0) (0 : Int32).toNatClampNeg 0)))).set 16 ((q 15), .inl (cI, 110, .inl (upd (fun _ => 0) (0 : Int32).toNatClampNeg (-1))))).set 17 ((q 16), .inl (cI, 110, .inl (upd (fun _ => 0) (0 : Int32).toNatClampNeg (-1))))) ++ (((((((((xW o u cI cZ cJ).set 13 ((u 12), .inr (5, ([.int 0, .ref (u 13), .ref (u 14), .ref (u 15), .ref (u 16), .ref (u 17), .ref (u 18)].set 0 (.int 1))))).set 14 ((u 13), .inl (cI, 110, .inl (upd (fun _ => 0) (0 : Int32).toNatClampNeg 17)))).set 15 ((u 14), .inl (cI, 110, .inl (upd (fun _ => 0) (0 : Int32).toNatClampNeg x2)))).set 16 ((u 15), .inl (cI, 110, .inl (upd (fun _ => 0) (0 : Int32).toNatClampNeg 0)))).set 17 ((u 16), .inl (cI, 110, .inl (upd (fun _ => 0) (0 : Int32).toNatClampNeg 0)))).set 18 ((u 17), .inl (cI, 110, .inl (upd (fun _ => 0) (0 : Int32).toNatClampNeg (-1))))).set 19 ((u 18), .inl (cI, 110, .inl (upd (fun _ => 0) (0 : Int32).toNatClampNeg (-1))))) ++ [(ao, .inl (cJ, 1, .inr (.inl (vp_updL (fun _ => 0) (0 : Int32).toNatClampNeg 0))))])) := hD
                                              refine lv_istore (lv' := [(6, .int 0), (5, .int 0), (4, .int 0), (3, .ref ao), (2, .ref om), (1, .ref o), (0, .ref b)]) hx hb dL_law_583 hl (by decide) rfl (fun ls hl => ?_)
                                              refine lv_aload_n hx hb dL_law_585 rfl (lv_at hl 4 rfl) ?_
                                              refine rdV (As := []) (ci := 9) S (c_X9_thrown_14 l D cI cZ cJ om q x2 lo_x2 hi_x2) mi_X9_thrown kw_7_89 ⟨rfl, rfl⟩ ⟨Nat.le_of_ble_eq_true rfl, Nat.le_of_ble_eq_true rfl⟩ (va_Pl (ws := ((((((((mW om 0 q cI cZ).set 0 (om, .inr (9, ((mF 0 q).set 13 (.int 1))))).set 12 ((q 11), .inl (cI, 110, .inl (upd (fun _ => 0) (0 : Int32).toNatClampNeg 17)))).set 13 ((q 12), .inl (cI, 110, .inl (upd (fun _ => 0) (0 : Int32).toNatClampNeg x2)))).set 14 ((q 13), .inl (cI, 110, .inl (upd (fun _ => 0) (0 : Int32).toNatClampNeg 0)))).set 15 ((q 14), .inl (cI, 110, .inl (upd (fun _ => 0) (0 : Int32).toNatClampNeg 0)))).set 16 ((q 15), .inl (cI, 110, .inl (upd (fun _ => 0) (0 : Int32).toNatClampNeg (-1))))).set 17 ((q 16), .inl (cI, 110, .inl (upd (fun _ => 0) (0 : Int32).toNatClampNeg (-1)))))) (x := (((((((((xW o u cI cZ cJ).set 13 ((u 12), .inr (5, ([.int 0, .ref (u 13), .ref (u 14), .ref (u 15), .ref (u 16), .ref (u 17), .ref (u 18)].set 0 (.int 1))))).set 14 ((u 13), .inl (cI, 110, .inl (upd (fun _ => 0) (0 : Int32).toNatClampNeg 17)))).set 15 ((u 14), .inl (cI, 110, .inl (upd (fun _ => 0) (0 : Int32).toNatClampNeg x2)))).set 16 ((u 15), .inl (cI, 110, .inl (upd (fun _ => 0) (0 : Int32).toNatClampNeg 0)))).set 17 ((u 16), .inl (cI, 110, .inl (upd (fun _ => 0) (0 : Int32).toNatClampNeg 0)))).set 18 ((u 17), .inl (cI, 110, .inl (upd (fun _ => 0) (0 : Int32).toNatClampNeg (-1))))).set 19 ((u 18), .inl (cI, 110, .inl (upd (fun _ => 0) (0 : Int32).toNatClampNeg (-1))))) ++ [(ao, .inl (cJ, 1, .inr (.inl (vp_updL (fun _ => 0) (0 : Int32).toNatClampNeg 0))))])) hP) hK (k := 0) rfl rfl rfl hl.1 (Nat.le_of_ble_eq_true rfl) ⟨Nat.le_of_ble_eq_true rfl, Nat.le_of_ble_eq_true rfl⟩ dL_law_586 ?_
                                              refine lv_iload hx hb dL_law_589 (lv_at hl 1 rfl) ?_
                                              refine lv_icmp_eq (tgt := 596) hx hb dL_law_591 (by decide) (fun _ => ?_) (fun c => absurd c (by decide))
                                              refine lv_iload hx hb dL_law_596 (lv_at hl 1 rfl) ?_
                                              refine lv_if_ne (tgt := 613) hx hb dL_law_598 (by decide) (fun c => absurd c (by decide)) (fun _ => ?_)
                                              refine lv_aload_n hx hb dL_law_601 rfl (lv_at hl 3 rfl) ?_
                                              refine lv_iconst (v := 0) hx hb dL_law_602 (by decide) ?_
                                              refine xlald (t0 := 2) (v := 0) S hK hP (q0 := 119) rfl rfl (vin rfl) rfl dL_law_603 ?_
                                              refine lv_iload hx hb dL_law_604 (lv_at hl 0 rfl) ?_
                                              refine lv_i2l (v := 0) hx hb dL_law_606 (by decide) ?_
                                              refine xlcmp (v := 0) S dL_law_607 (by decide) ?_
                                              refine lv_if_eq (tgt := 613) hx hb dL_law_608 (by decide) (fun _ => ?_) (fun c => absurd c (by decide))
                                              refine lv_goto (tgt := 1519) hx hb dL_law_613 (by decide) ?_
                                              exact law_tail (cells := 120) (slots := 12958) S hr hlocks hX hbl (lv_sub hl [2, 6] rfl) hS (Nat.le_of_ble_eq_true rfl) (Nat.le_of_ble_eq_true rfl)
                                            · have ne_x4_0 : ¬ x4 = 0 := d_550
                                              refine wrap (mW om 0 q cI cZ) (mid := ((xW o u cI cZ cJ) ++ [(ao, .inl (cJ, 1, .inr (.inl (fun _ => 0))))])) (As := [.ref o, .int 17, .int x2, .int 0, .int x4, .ref ao]) S (h_node_40 l D cI cZ cJ o u ao hst ra ga H.size x2 x4 lo_x2 hi_x2 ne_x4_0) msh_L_node kw_6_20 rfl rfl ⟨Nat.le_of_ble_eq_true rfl, Nat.le_of_ble_eq_true rfl⟩ hP hD hK hS hA hB hC hl.1 (Nat.le_of_ble_eq_true rfl) ⟨Nat.le_of_ble_eq_true rfl, Nat.le_of_ble_eq_true rfl⟩ dL_law_550 (fun H locs hz hP hD hS => ?_)
                                              have hP : va_P D vwCl ((mW om 0 q cI cZ) ++ ((xW o u cI cZ cJ) ++ [(ao, .inl (cJ, 1, .inr (.inl (fun _ => 0))))])) H := hP
                                              have hD : va_D (fun q : Nat => s.heap.size ≤ q) ((mW om 0 q cI cZ) ++ ((xW o u cI cZ cJ) ++ [(ao, .inl (cJ, 1, .inr (.inl (fun _ => 0))))])) := hD
                                              refine lv_istore (lv' := [(5, .int 1), (4, .int 0), (3, .ref ao), (2, .ref om), (1, .ref o), (0, .ref b)]) hx hb dL_law_553 hl (by decide) rfl (fun ls hl => ?_)
                                              refine lv_aload_n hx hb dL_law_555 rfl (lv_at hl 3 rfl) ?_
                                              refine lv_aload_n hx hb dL_law_556 rfl (lv_at hl 5 rfl) ?_
                                              refine lv_iload hx hb dL_law_557 (lv_at hl 1 rfl) ?_
                                              refine lv_iconst (v := 1) hx hb dL_law_559 (by decide) ?_
                                              refine xiadd (v := 1) S dL_law_560 (by decide) ?_
                                              refine xsld (v := 17) S hX hbl hbA hS (vin rfl) h1 dL_law_561 ?_
                                              refine lv_aload_n hx hb dL_law_562 rfl (lv_at hl 5 rfl) ?_
                                              refine lv_iload hx hb dL_law_563 (lv_at hl 1 rfl) ?_
                                              refine lv_iconst (v := 2) hx hb dL_law_565 (by decide) ?_
                                              refine xiadd (v := 2) S dL_law_566 (by decide) ?_
                                              refine xsld (v := x2) S hX hbl hbA hS (vin rfl) h2 dL_law_567 ?_
                                              refine lv_aload_n hx hb dL_law_568 rfl (lv_at hl 5 rfl) ?_
                                              refine lv_iload hx hb dL_law_569 (lv_at hl 1 rfl) ?_
                                              refine lv_iconst (v := 3) hx hb dL_law_571 (by decide) ?_
                                              refine xiadd (v := 3) S dL_law_572 (by decide) ?_
                                              refine xsld (v := 0) S hX hbl hbA hS (vin rfl) h3 dL_law_573 ?_
                                              refine lv_aload_n hx hb dL_law_574 rfl (lv_at hl 5 rfl) ?_
                                              refine lv_iload hx hb dL_law_575 (lv_at hl 1 rfl) ?_
                                              refine lv_iconst (v := 4) hx hb dL_law_577 (by decide) ?_
                                              refine xiadd (v := 4) S dL_law_578 (by decide) ?_
                                              refine xsld (v := x4) S hX hbl hbA hS (vin rfl) h4 dL_law_579 ?_
                                              refine fVi [] ((xW o u cI cZ cJ) ++ [(ao, .inl (cJ, 1, .inr (.inl (fun _ => 0))))]) (mid := (mW om 0 q cI cZ)) (As := [.int 17, .int x2, .int 0, .int x4]) (ci := 9) S (c_X9_node_40 l D cI cZ cJ om q H.size x2 x4 lo_x2 hi_x2 ne_x4_0) mi_X9_node kw_7_151 rfl rfl ⟨Nat.le_of_ble_eq_true rfl, Nat.le_of_ble_eq_true rfl⟩ hP hD hK hS hA mW_0 rfl rfl hl.1 (Nat.le_of_ble_eq_true rfl) ⟨Nat.le_of_ble_eq_true rfl, Nat.le_of_ble_eq_true rfl⟩ dL_law_580 (fun H locs hz hP hD hS => ?_)
                                              have hP : va_P D vwCl ((mW om 1 q cI cZ) ++ ((xW o u cI cZ cJ) ++ [(ao, .inl (cJ, 1, .inr (.inl (fun _ => 0))))])) H := hP
                                              have hD : va_D (fun q : Nat => s.heap.size ≤ q) ((mW om 1 q cI cZ) ++ ((xW o u cI cZ cJ) ++ [(ao, .inl (cJ, 1, .inr (.inl (fun _ => 0))))])) := hD
                                              refine lv_istore (lv' := [(6, .int 0), (5, .int 1), (4, .int 0), (3, .ref ao), (2, .ref om), (1, .ref o), (0, .ref b)]) hx hb dL_law_583 hl (by decide) rfl (fun ls hl => ?_)
                                              refine lv_aload_n hx hb dL_law_585 rfl (lv_at hl 4 rfl) ?_
                                              refine rdV (As := []) (ci := 9) S (c_X9_thrown_0 l D cI cZ cJ om q) mi_X9_thrown kw_7_89 ⟨rfl, rfl⟩ ⟨Nat.le_of_ble_eq_true rfl, Nat.le_of_ble_eq_true rfl⟩ (va_Pl (ws := (mW om 1 q cI cZ)) (x := ((xW o u cI cZ cJ) ++ [(ao, .inl (cJ, 1, .inr (.inl (fun _ => 0))))])) hP) hK mW_0 rfl rfl hl.1 (Nat.le_of_ble_eq_true rfl) ⟨Nat.le_of_ble_eq_true rfl, Nat.le_of_ble_eq_true rfl⟩ dL_law_586 ?_
                                              refine lv_iload hx hb dL_law_589 (lv_at hl 1 rfl) ?_
                                              refine lv_icmp_eq (tgt := 596) hx hb dL_law_591 (by decide) (fun _ => ?_) (fun c => absurd c (by decide))
                                              refine lv_iload hx hb dL_law_596 (lv_at hl 1 rfl) ?_
                                              refine lv_if_ne (tgt := 613) hx hb dL_law_598 (by decide) (fun _ => ?_) (fun c => absurd c (by decide))
                                              refine lv_goto (tgt := 1519) hx hb dL_law_613 (by decide) ?_
                                              exact law_tail (cells := 121) (slots := 12964) S hr hlocks hX hbl (lv_sub hl [2, 6] rfl) hS (Nat.le_of_ble_eq_true rfl) (Nat.le_of_ble_eq_true rfl)
                                          · have ne_x3_0 : ¬ x3 = 0 := d_550
                                            refine wrap (mW om 0 q cI cZ) (mid := ((xW o u cI cZ cJ) ++ [(ao, .inl (cJ, 1, .inr (.inl (fun _ => 0))))])) (As := [.ref o, .int 17, .int x2, .int x3, .int x4, .ref ao]) S (h_node_41 l D cI cZ cJ o u ao hst ra ga H.size x2 x3 x4 lo_x2 hi_x2 ne_x3_0) msh_L_node kw_6_20 rfl rfl ⟨Nat.le_of_ble_eq_true rfl, Nat.le_of_ble_eq_true rfl⟩ hP hD hK hS hA hB hC hl.1 (Nat.le_of_ble_eq_true rfl) ⟨Nat.le_of_ble_eq_true rfl, Nat.le_of_ble_eq_true rfl⟩ dL_law_550 (fun H locs hz hP hD hS => ?_)
                                            have hP : va_P D vwCl ((mW om 0 q cI cZ) ++ ((xW o u cI cZ cJ) ++ [(ao, .inl (cJ, 1, .inr (.inl (fun _ => 0))))])) H := hP
                                            have hD : va_D (fun q : Nat => s.heap.size ≤ q) ((mW om 0 q cI cZ) ++ ((xW o u cI cZ cJ) ++ [(ao, .inl (cJ, 1, .inr (.inl (fun _ => 0))))])) := hD
                                            refine lv_istore (lv' := [(5, .int 1), (4, .int 0), (3, .ref ao), (2, .ref om), (1, .ref o), (0, .ref b)]) hx hb dL_law_553 hl (by decide) rfl (fun ls hl => ?_)
                                            refine lv_aload_n hx hb dL_law_555 rfl (lv_at hl 3 rfl) ?_
                                            refine lv_aload_n hx hb dL_law_556 rfl (lv_at hl 5 rfl) ?_
                                            refine lv_iload hx hb dL_law_557 (lv_at hl 1 rfl) ?_
                                            refine lv_iconst (v := 1) hx hb dL_law_559 (by decide) ?_
                                            refine xiadd (v := 1) S dL_law_560 (by decide) ?_
                                            refine xsld (v := 17) S hX hbl hbA hS (vin rfl) h1 dL_law_561 ?_
                                            refine lv_aload_n hx hb dL_law_562 rfl (lv_at hl 5 rfl) ?_
                                            refine lv_iload hx hb dL_law_563 (lv_at hl 1 rfl) ?_
                                            refine lv_iconst (v := 2) hx hb dL_law_565 (by decide) ?_
                                            refine xiadd (v := 2) S dL_law_566 (by decide) ?_
                                            refine xsld (v := x2) S hX hbl hbA hS (vin rfl) h2 dL_law_567 ?_
                                            refine lv_aload_n hx hb dL_law_568 rfl (lv_at hl 5 rfl) ?_
                                            refine lv_iload hx hb dL_law_569 (lv_at hl 1 rfl) ?_
                                            refine lv_iconst (v := 3) hx hb dL_law_571 (by decide) ?_
                                            refine xiadd (v := 3) S dL_law_572 (by decide) ?_
                                            refine xsld (v := x3) S hX hbl hbA hS (vin rfl) h3 dL_law_573 ?_
                                            refine lv_aload_n hx hb dL_law_574 rfl (lv_at hl 5 rfl) ?_
                                            refine lv_iload hx hb dL_law_575 (lv_at hl 1 rfl) ?_
                                            refine lv_iconst (v := 4) hx hb dL_law_577 (by decide) ?_
                                            refine xiadd (v := 4) S dL_law_578 (by decide) ?_
                                            refine xsld (v := x4) S hX hbl hbA hS (vin rfl) h4 dL_law_579 ?_
                                            refine fVi [] ((xW o u cI cZ cJ) ++ [(ao, .inl (cJ, 1, .inr (.inl (fun _ => 0))))]) (mid := (mW om 0 q cI cZ)) (As := [.int 17, .int x2, .int x3, .int x4]) (ci := 9) S (c_X9_node_41 l D cI cZ cJ om q H.size x2 x3 x4 lo_x2 hi_x2 ne_x3_0) mi_X9_node kw_7_151 rfl rfl ⟨Nat.le_of_ble_eq_true rfl, Nat.le_of_ble_eq_true rfl⟩ hP hD hK hS hA mW_0 rfl rfl hl.1 (Nat.le_of_ble_eq_true rfl) ⟨Nat.le_of_ble_eq_true rfl, Nat.le_of_ble_eq_true rfl⟩ dL_law_580 (fun H locs hz hP hD hS => ?_)
                                            have hP : va_P D vwCl ((mW om 1 q cI cZ) ++ ((xW o u cI cZ cJ) ++ [(ao, .inl (cJ, 1, .inr (.inl (fun _ => 0))))])) H := hP
                                            have hD : va_D (fun q : Nat => s.heap.size ≤ q) ((mW om 1 q cI cZ) ++ ((xW o u cI cZ cJ) ++ [(ao, .inl (cJ, 1, .inr (.inl (fun _ => 0))))])) := hD
                                            refine lv_istore (lv' := [(6, .int 0), (5, .int 1), (4, .int 0), (3, .ref ao), (2, .ref om), (1, .ref o), (0, .ref b)]) hx hb dL_law_583 hl (by decide) rfl (fun ls hl => ?_)
                                            refine lv_aload_n hx hb dL_law_585 rfl (lv_at hl 4 rfl) ?_
                                            refine rdV (As := []) (ci := 9) S (c_X9_thrown_0 l D cI cZ cJ om q) mi_X9_thrown kw_7_89 ⟨rfl, rfl⟩ ⟨Nat.le_of_ble_eq_true rfl, Nat.le_of_ble_eq_true rfl⟩ (va_Pl (ws := (mW om 1 q cI cZ)) (x := ((xW o u cI cZ cJ) ++ [(ao, .inl (cJ, 1, .inr (.inl (fun _ => 0))))])) hP) hK mW_0 rfl rfl hl.1 (Nat.le_of_ble_eq_true rfl) ⟨Nat.le_of_ble_eq_true rfl, Nat.le_of_ble_eq_true rfl⟩ dL_law_586 ?_
                                            refine lv_iload hx hb dL_law_589 (lv_at hl 1 rfl) ?_
                                            refine lv_icmp_eq (tgt := 596) hx hb dL_law_591 (by decide) (fun _ => ?_) (fun c => absurd c (by decide))
                                            refine lv_iload hx hb dL_law_596 (lv_at hl 1 rfl) ?_
                                            refine lv_if_ne (tgt := 613) hx hb dL_law_598 (by decide) (fun _ => ?_) (fun c => absurd c (by decide))
                                            refine lv_goto (tgt := 1519) hx hb dL_law_613 (by decide) ?_
                                            exact law_tail (cells := 121) (slots := 12964) S hr hlocks hX hbl (lv_sub hl [2, 6] rfl) hS (Nat.le_of_ble_eq_true rfl) (Nat.le_of_ble_eq_true rfl)
                                    · have ne_x1_17 : ¬ x1 = 17 := d_550
                                      refine wrap (mW om 0 q cI cZ) (mid := ((xW o u cI cZ cJ) ++ [(ao, .inl (cJ, 1, .inr (.inl (fun _ => 0))))])) (As := [.ref o, .int x1, .int x2, .int x3, .int x4, .ref ao]) S (h_node_42 l D cI cZ cJ o u ao hst ra ga H.size x1 x2 x3 x4 ne_x1_0 ne_x1_1 ne_x1_2 ne_x1_3 ne_x1_4 ne_x1_5 ne_x1_6 ne_x1_7 ne_x1_8 ne_x1_9 ne_x1_10 ne_x1_11 ne_x1_12 ne_x1_13 ne_x1_14 ne_x1_15 ne_x1_16 ne_x1_17) msh_L_node kw_6_20 rfl rfl ⟨Nat.le_of_ble_eq_true rfl, Nat.le_of_ble_eq_true rfl⟩ hP hD hK hS hA hB hC hl.1 (Nat.le_of_ble_eq_true rfl) ⟨Nat.le_of_ble_eq_true rfl, Nat.le_of_ble_eq_true rfl⟩ dL_law_550 (fun H locs hz hP hD hS => ?_)
                                      have hP : va_P D vwCl ((mW om 0 q cI cZ) ++ ((xW o u cI cZ cJ) ++ [(ao, .inl (cJ, 1, .inr (.inl (fun _ => 0))))])) H := hP
                                      have hD : va_D (fun q : Nat => s.heap.size ≤ q) ((mW om 0 q cI cZ) ++ ((xW o u cI cZ cJ) ++ [(ao, .inl (cJ, 1, .inr (.inl (fun _ => 0))))])) := hD
                                      refine lv_istore (lv' := [(5, .int 1), (4, .int 0), (3, .ref ao), (2, .ref om), (1, .ref o), (0, .ref b)]) hx hb dL_law_553 hl (by decide) rfl (fun ls hl => ?_)
                                      refine lv_aload_n hx hb dL_law_555 rfl (lv_at hl 3 rfl) ?_
                                      refine lv_aload_n hx hb dL_law_556 rfl (lv_at hl 5 rfl) ?_
                                      refine lv_iload hx hb dL_law_557 (lv_at hl 1 rfl) ?_
                                      refine lv_iconst (v := 1) hx hb dL_law_559 (by decide) ?_
                                      refine xiadd (v := 1) S dL_law_560 (by decide) ?_
                                      refine xsld (v := x1) S hX hbl hbA hS (vin rfl) h1 dL_law_561 ?_
                                      refine lv_aload_n hx hb dL_law_562 rfl (lv_at hl 5 rfl) ?_
                                      refine lv_iload hx hb dL_law_563 (lv_at hl 1 rfl) ?_
                                      refine lv_iconst (v := 2) hx hb dL_law_565 (by decide) ?_
                                      refine xiadd (v := 2) S dL_law_566 (by decide) ?_
                                      refine xsld (v := x2) S hX hbl hbA hS (vin rfl) h2 dL_law_567 ?_
                                      refine lv_aload_n hx hb dL_law_568 rfl (lv_at hl 5 rfl) ?_
                                      refine lv_iload hx hb dL_law_569 (lv_at hl 1 rfl) ?_
                                      refine lv_iconst (v := 3) hx hb dL_law_571 (by decide) ?_
                                      refine xiadd (v := 3) S dL_law_572 (by decide) ?_
                                      refine xsld (v := x3) S hX hbl hbA hS (vin rfl) h3 dL_law_573 ?_
                                      refine lv_aload_n hx hb dL_law_574 rfl (lv_at hl 5 rfl) ?_
                                      refine lv_iload hx hb dL_law_575 (lv_at hl 1 rfl) ?_
                                      refine lv_iconst (v := 4) hx hb dL_law_577 (by decide) ?_
                                      refine xiadd (v := 4) S dL_law_578 (by decide) ?_
                                      refine xsld (v := x4) S hX hbl hbA hS (vin rfl) h4 dL_law_579 ?_
                                      refine fVi [] ((xW o u cI cZ cJ) ++ [(ao, .inl (cJ, 1, .inr (.inl (fun _ => 0))))]) (mid := (mW om 0 q cI cZ)) (As := [.int x1, .int x2, .int x3, .int x4]) (ci := 9) S (c_X9_node_42 l D cI cZ cJ om q H.size x1 x2 x3 x4 ne_x1_0 ne_x1_1 ne_x1_2 ne_x1_3 ne_x1_4 ne_x1_5 ne_x1_6 ne_x1_7 ne_x1_8 ne_x1_9 ne_x1_10 ne_x1_11 ne_x1_12 ne_x1_13 ne_x1_14 ne_x1_15 ne_x1_16 ne_x1_17) mi_X9_node kw_7_151 rfl rfl ⟨Nat.le_of_ble_eq_true rfl, Nat.le_of_ble_eq_true rfl⟩ hP hD hK hS hA mW_0 rfl rfl hl.1 (Nat.le_of_ble_eq_true rfl) ⟨Nat.le_of_ble_eq_true rfl, Nat.le_of_ble_eq_true rfl⟩ dL_law_580 (fun H locs hz hP hD hS => ?_)
                                      have hP : va_P D vwCl ((mW om 1 q cI cZ) ++ ((xW o u cI cZ cJ) ++ [(ao, .inl (cJ, 1, .inr (.inl (fun _ => 0))))])) H := hP
                                      have hD : va_D (fun q : Nat => s.heap.size ≤ q) ((mW om 1 q cI cZ) ++ ((xW o u cI cZ cJ) ++ [(ao, .inl (cJ, 1, .inr (.inl (fun _ => 0))))])) := hD
                                      refine lv_istore (lv' := [(6, .int 0), (5, .int 1), (4, .int 0), (3, .ref ao), (2, .ref om), (1, .ref o), (0, .ref b)]) hx hb dL_law_583 hl (by decide) rfl (fun ls hl => ?_)
                                      refine lv_aload_n hx hb dL_law_585 rfl (lv_at hl 4 rfl) ?_
                                      refine rdV (As := []) (ci := 9) S (c_X9_thrown_0 l D cI cZ cJ om q) mi_X9_thrown kw_7_89 ⟨rfl, rfl⟩ ⟨Nat.le_of_ble_eq_true rfl, Nat.le_of_ble_eq_true rfl⟩ (va_Pl (ws := (mW om 1 q cI cZ)) (x := ((xW o u cI cZ cJ) ++ [(ao, .inl (cJ, 1, .inr (.inl (fun _ => 0))))])) hP) hK mW_0 rfl rfl hl.1 (Nat.le_of_ble_eq_true rfl) ⟨Nat.le_of_ble_eq_true rfl, Nat.le_of_ble_eq_true rfl⟩ dL_law_586 ?_
                                      refine lv_iload hx hb dL_law_589 (lv_at hl 1 rfl) ?_
                                      refine lv_icmp_eq (tgt := 596) hx hb dL_law_591 (by decide) (fun _ => ?_) (fun c => absurd c (by decide))
                                      refine lv_iload hx hb dL_law_596 (lv_at hl 1 rfl) ?_
                                      refine lv_if_ne (tgt := 613) hx hb dL_law_598 (by decide) (fun _ => ?_) (fun c => absurd c (by decide))
                                      refine lv_goto (tgt := 1519) hx hb dL_law_613 (by decide) ?_
                                      exact law_tail (cells := 121) (slots := 12964) S hr hlocks hX hbl (lv_sub hl [2, 6] rfl) hS (Nat.le_of_ble_eq_true rfl) (Nat.le_of_ble_eq_true rfl)
