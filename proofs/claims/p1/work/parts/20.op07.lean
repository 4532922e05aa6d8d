set_option maxHeartbeats 8000000 in
set_option maxRecDepth 100000 in
theorem law_7 (l : Launch) (hst : l.stackTraces = false) (D : va_G) (cI cZ cJ : ClassId) {p : Program} {e : Env} {s : State} {m : MethodId} {below : List Frame} {meth : Method} {c : Code} {b : Nat} {xs : Nat → Int32} (S : CallFix p m c cL_law 9 s #[Value.ref b] uG RL) (hr : meth.sig.returnType = ret) (hlocks : meth.locks = false) (hX : va_X b 5 xs s s.heap) (hbl : b < s.heap.size) (hK : va_K D vwCl (tyL cI cZ cJ) s) (ra ga : Nat → Nat) (hB : amb ra ga (fun q => s.heap.size ≤ q) s s.heap) (hC : ambC s) (x1 x2 x3 x4 : Int32) (h1 : xs 1 = x1) (h2 : xs 2 = x2) (h3 : xs 3 = x3) (h4 : xs 4 = x4) (o om ao : Nat) (u q : Nat → Nat) (ls : Array Slot) (H : Heap) (locs : List Loc) (hl : lv_has ls 9 [(4, .int 0), (3, .ref ao), (2, .ref om), (1, .ref o), (0, .ref b)]) (hP : va_P D vwCl ((mW om 0 q cI cZ) ++ ((xW o u cI cZ cJ) ++ [(ao, .inl (cJ, 1, .inr (.inl (fun _ => 0))))])) H) (hD : va_D (fun q => s.heap.size ≤ q) ((mW om 0 q cI cZ) ++ ((xW o u cI cZ cJ) ++ [(ao, .inl (cJ, 1, .inr (.inl (fun _ => 0))))]))) (hS : va_S (fun q => s.heap.size ≤ q) s.heap H locs) : W p l e room_1 s m #[Value.ref b] below meth c H locs 120 12958 (lw_Z below #[Value.ref b] s) (F0 m 684 ls []) := by
  have hx := S.1
  have hb := S.2.1
  have hA : ∀ q : Nat, s.heap.size ≤ q → (fun q : Nat => s.heap.size ≤ q) q := fun _ h => h
  have hbA : ¬ (fun q : Nat => s.heap.size ≤ q) b := Nat.not_le.mpr hbl
  refine lv_aload_n hx hb dL_law_684 rfl (lv_at hl 3 rfl) ?_
  refine lv_aload_n hx hb dL_law_685 rfl (lv_at hl 4 rfl) ?_
  refine lv_iload hx hb dL_law_686 (lv_at hl 0 rfl) ?_
  refine lv_iconst (v := 1) hx hb dL_law_688 (by decide) ?_
  refine xiadd (v := 1) S dL_law_689 (by decide) ?_
  refine xsld (v := x1) S hX hbl hbA hS (vin rfl) h1 dL_law_690 ?_
  refine lv_aload_n hx hb dL_law_691 rfl (lv_at hl 4 rfl) ?_
  refine lv_iload hx hb dL_law_692 (lv_at hl 0 rfl) ?_
  refine lv_iconst (v := 2) hx hb dL_law_694 (by decide) ?_
  refine xiadd (v := 2) S dL_law_695 (by decide) ?_
  refine xsld (v := x2) S hX hbl hbA hS (vin rfl) h2 dL_law_696 ?_
  refine lv_aload_n hx hb dL_law_697 rfl (lv_at hl 1 rfl) ?_
  refine wrap (mW om 0 q cI cZ) (mid := ((xW o u cI cZ cJ) ++ [(ao, .inl (cJ, 1, .inr (.inl (fun _ => 0))))])) (As := [.ref o, .int x1, .int x2, .ref ao]) S (h_ofNode_0 l D cI cZ cJ o u ao hst ra ga H.size x1 x2) msh_L_ofNode kw_6_73 rfl rfl ⟨Nat.le_of_ble_eq_true rfl, Nat.le_of_ble_eq_true rfl⟩ hP hD hK hS hA hB hC hl.1 (Nat.le_of_ble_eq_true rfl) ⟨Nat.le_of_ble_eq_true rfl, Nat.le_of_ble_eq_true rfl⟩ dL_law_698 (fun H locs hz hP hD hS => ?_)
  have hP : va_P D vwCl ((mW om 0 q cI cZ) ++ ((xW o u cI cZ cJ) ++ [(ao, .inl (cJ, 1, .inr (.inl (fun _ => 0))))])) H := hP
  have hD : va_D (fun q : Nat => s.heap.size ≤ q) ((mW om 0 q cI cZ) ++ ((xW o u cI cZ cJ) ++ [(ao, .inl (cJ, 1, .inr (.inl (fun _ => 0))))])) := hD
  refine lv_istore (lv' := [(5, .int 1), (4, .int 0), (3, .ref ao), (2, .ref om), (1, .ref o), (0, .ref b)]) hx hb dL_law_701 hl (by decide) rfl (fun ls hl => ?_)
  refine lv_aload_n hx hb dL_law_703 rfl (lv_at hl 3 rfl) ?_
  refine lv_aload_n hx hb dL_law_704 rfl (lv_at hl 5 rfl) ?_
  refine lv_iload hx hb dL_law_705 (lv_at hl 1 rfl) ?_
  refine lv_iconst (v := 1) hx hb dL_law_707 (by decide) ?_
  refine xiadd (v := 1) S dL_law_708 (by decide) ?_
  refine xsld (v := x1) S hX hbl hbA hS (vin rfl) h1 dL_law_709 ?_
  refine lv_aload_n hx hb dL_law_710 rfl (lv_at hl 5 rfl) ?_
  refine lv_iload hx hb dL_law_711 (lv_at hl 1 rfl) ?_
  refine lv_iconst (v := 2) hx hb dL_law_713 (by decide) ?_
  refine xiadd (v := 2) S dL_law_714 (by decide) ?_
  refine xsld (v := x2) S hX hbl hbA hS (vin rfl) h2 dL_law_715 ?_
  refine fVi [] ((xW o u cI cZ cJ) ++ [(ao, .inl (cJ, 1, .inr (.inl (fun _ => 0))))]) (mid := (mW om 0 q cI cZ)) (As := [.int x1, .int x2]) (ci := 9) S (c_X9_ofNode_0 l D cI cZ cJ om q H.size x1 x2) mi_X9_ofNode kw_8_112 rfl rfl ⟨Nat.le_of_ble_eq_true rfl, Nat.le_of_ble_eq_true rfl⟩ hP hD hK hS hA mW_0 rfl rfl hl.1 (Nat.le_of_ble_eq_true rfl) ⟨Nat.le_of_ble_eq_true rfl, Nat.le_of_ble_eq_true rfl⟩ dL_law_716 (fun H locs hz hP hD hS => ?_)
  have hP : va_P D vwCl ((mW om 1 q cI cZ) ++ ((xW o u cI cZ cJ) ++ [(ao, .inl (cJ, 1, .inr (.inl (fun _ => 0))))])) H := hP
  have hD : va_D (fun q : Nat => s.heap.size ≤ q) ((mW om 1 q cI cZ) ++ ((xW o u cI cZ cJ) ++ [(ao, .inl (cJ, 1, .inr (.inl (fun _ => 0))))])) := hD
  refine lv_istore (lv' := [(6, .int 0), (5, .int 1), (4, .int 0), (3, .ref ao), (2, .ref om), (1, .ref o), (0, .ref b)]) hx hb dL_law_719 hl (by decide) rfl (fun ls hl => ?_)
  refine lv_aload_n hx hb dL_law_721 rfl (lv_at hl 4 rfl) ?_
  refine rdV (As := []) (ci := 9) S (c_X9_thrown_0 l D cI cZ cJ om q) mi_X9_thrown kw_7_89 ⟨rfl, rfl⟩ ⟨Nat.le_of_ble_eq_true rfl, Nat.le_of_ble_eq_true rfl⟩ (va_Pl (ws := (mW om 1 q cI cZ)) (x := ((xW o u cI cZ cJ) ++ [(ao, .inl (cJ, 1, .inr (.inl (fun _ => 0))))])) hP) hK mW_0 rfl rfl hl.1 (Nat.le_of_ble_eq_true rfl) ⟨Nat.le_of_ble_eq_true rfl, Nat.le_of_ble_eq_true rfl⟩ dL_law_722 ?_
  refine lv_iload hx hb dL_law_725 (lv_at hl 1 rfl) ?_
  refine lv_icmp_eq (tgt := 732) hx hb dL_law_727 (by decide) (fun _ => ?_) (fun c => absurd c (by decide))
  refine lv_iload hx hb dL_law_732 (lv_at hl 1 rfl) ?_
  refine lv_if_ne (tgt := 749) hx hb dL_law_734 (by decide) (fun _ => ?_) (fun c => absurd c (by decide))
  refine lv_goto (tgt := 1519) hx hb dL_law_749 (by decide) ?_
  exact law_tail (cells := 121) (slots := 12964) S hr hlocks hX hbl (lv_sub hl [2, 6] rfl) hS (Nat.le_of_ble_eq_true rfl) (Nat.le_of_ble_eq_true rfl)
