set_option maxHeartbeats 8000000 in
set_option maxRecDepth 100000 in
theorem law_14 (l : Launch) (hst : l.stackTraces = false) (D : va_G) (cI cZ cJ : ClassId) {p : Program} {e : Env} {s : State} {m : MethodId} {below : List Frame} {meth : Method} {c : Code} {b : Nat} {xs : Nat → Int32} (S : CallFix p m c cL_law 9 s #[Value.ref b] uG RL) (hr : meth.sig.returnType = ret) (hlocks : meth.locks = false) (hX : va_X b 5 xs s s.heap) (hbl : b < s.heap.size) (hK : va_K D vwCl (tyL cI cZ cJ) s) (ra ga : Nat → Nat) (hB : amb ra ga (fun q => s.heap.size ≤ q) s s.heap) (hC : ambC s) (x1 x2 x3 x4 : Int32) (h1 : xs 1 = x1) (h2 : xs 2 = x2) (h3 : xs 3 = x3) (h4 : xs 4 = x4) (o om ao : Nat) (u q : Nat → Nat) (ls : Array Slot) (H : Heap) (locs : List Loc) (hl : lv_has ls 9 [(4, .int 0), (3, .ref ao), (2, .ref om), (1, .ref o), (0, .ref b)]) (hP : va_P D vwCl ((mW om 0 q cI cZ) ++ ((xW o u cI cZ cJ) ++ [(ao, .inl (cJ, 1, .inr (.inl (fun _ => 0))))])) H) (hD : va_D (fun q => s.heap.size ≤ q) ((mW om 0 q cI cZ) ++ ((xW o u cI cZ cJ) ++ [(ao, .inl (cJ, 1, .inr (.inl (fun _ => 0))))]))) (hS : va_S (fun q => s.heap.size ≤ q) s.heap H locs) : W p l e room_1 s m #[Value.ref b] below meth c H locs 120 12958 (lw_Z below #[Value.ref b] s) (F0 m 1124 ls []) := by
  have hx := S.1
  have hb := S.2.1
  have hA : ∀ q : Nat, s.heap.size ≤ q → (fun q : Nat => s.heap.size ≤ q) q := fun _ h => h
  have hbA : ¬ (fun q : Nat => s.heap.size ≤ q) b := Nat.not_le.mpr hbl
  refine lv_aload_n hx hb dL_law_1124 rfl (lv_at hl 3 rfl) ?_
  refine lv_aload_n hx hb dL_law_1125 rfl (lv_at hl 4 rfl) ?_
  refine lv_iload hx hb dL_law_1126 (lv_at hl 0 rfl) ?_
  refine lv_iconst (v := 1) hx hb dL_law_1128 (by decide) ?_
  refine xiadd (v := 1) S dL_law_1129 (by decide) ?_
  refine xsld (v := x1) S hX hbl hbA hS (vin rfl) h1 dL_law_1130 ?_
  refine lv_aload_n hx hb dL_law_1131 rfl (lv_at hl 4 rfl) ?_
  refine lv_iload hx hb dL_law_1132 (lv_at hl 0 rfl) ?_
  refine lv_iconst (v := 2) hx hb dL_law_1134 (by decide) ?_
  refine xiadd (v := 2) S dL_law_1135 (by decide) ?_
  refine xsld (v := x2) S hX hbl hbA hS (vin rfl) h2 dL_law_1136 ?_
  refine lv_aload_n hx hb dL_law_1137 rfl (lv_at hl 1 rfl) ?_
  refine wrap (mW om 0 q cI cZ) (mid := ((xW o u cI cZ cJ) ++ [(ao, .inl (cJ, 1, .inr (.inl (fun _ => 0))))])) (As := [.ref o, .int x1, .int x2, .ref ao]) S (h_printed_0 l D cI cZ cJ o u ao hst ra ga H.size x1 x2) msh_L_printed kw_6_116 rfl rfl ⟨Nat.le_of_ble_eq_true rfl, Nat.le_of_ble_eq_true rfl⟩ hP hD hK hS hA hB hC hl.1 (Nat.le_of_ble_eq_true rfl) ⟨Nat.le_of_ble_eq_true rfl, Nat.le_of_ble_eq_true rfl⟩ dL_law_1138 (fun H locs hz hP hD hS => ?_)
  have hP : va_P D vwCl ((mW om 0 q cI cZ) ++ ((xW o u cI cZ cJ) ++ [(ao, .inl (cJ, 1, .inr (.inl (fun _ => 0))))])) H := hP
  have hD : va_D (fun q : Nat => s.heap.size ≤ q) ((mW om 0 q cI cZ) ++ ((xW o u cI cZ cJ) ++ [(ao, .inl (cJ, 1, .inr (.inl (fun _ => 0))))])) := hD
  refine lv_istore (lv' := [(5, .int 1), (4, .int 0), (3, .ref ao), (2, .ref om), (1, .ref o), (0, .ref b)]) hx hb dL_law_1141 hl (by decide) rfl (fun ls hl => ?_)
  refine lv_aload_n hx hb dL_law_1143 rfl (lv_at hl 3 rfl) ?_
  refine lv_aload_n hx hb dL_law_1144 rfl (lv_at hl 5 rfl) ?_
  refine lv_iload hx hb dL_law_1145 (lv_at hl 1 rfl) ?_
  refine lv_iconst (v := 1) hx hb dL_law_1147 (by decide) ?_
  refine xiadd (v := 1) S dL_law_1148 (by decide) ?_
  refine xsld (v := x1) S hX hbl hbA hS (vin rfl) h1 dL_law_1149 ?_
  refine lv_aload_n hx hb dL_law_1150 rfl (lv_at hl 5 rfl) ?_
  refine lv_iload hx hb dL_law_1151 (lv_at hl 1 rfl) ?_
  refine lv_iconst (v := 2) hx hb dL_law_1153 (by decide) ?_
  refine xiadd (v := 2) S dL_law_1154 (by decide) ?_
  refine xsld (v := x2) S hX hbl hbA hS (vin rfl) h2 dL_law_1155 ?_
  refine fVi [] ((xW o u cI cZ cJ) ++ [(ao, .inl (cJ, 1, .inr (.inl (fun _ => 0))))]) (mid := (mW om 0 q cI cZ)) (As := [.int x1, .int x2]) (ci := 9) S (c_X9_printed_0 l D cI cZ cJ om q H.size x1 x2) mi_X9_printed kw_9_16 rfl rfl ⟨Nat.le_of_ble_eq_true rfl, Nat.le_of_ble_eq_true rfl⟩ hP hD hK hS hA mW_0 rfl rfl hl.1 (Nat.le_of_ble_eq_true rfl) ⟨Nat.le_of_ble_eq_true rfl, Nat.le_of_ble_eq_true rfl⟩ dL_law_1156 (fun H locs hz hP hD hS => ?_)
  have hP : va_P D vwCl ((mW om 1 q cI cZ) ++ ((xW o u cI cZ cJ) ++ [(ao, .inl (cJ, 1, .inr (.inl (fun _ => 0))))])) H := hP
  have hD : va_D (fun q : Nat => s.heap.size ≤ q) ((mW om 1 q cI cZ) ++ ((xW o u cI cZ cJ) ++ [(ao, .inl (cJ, 1, .inr (.inl (fun _ => 0))))])) := hD
  refine lv_istore (lv' := [(6, .int 0), (5, .int 1), (4, .int 0), (3, .ref ao), (2, .ref om), (1, .ref o), (0, .ref b)]) hx hb dL_law_1159 hl (by decide) rfl (fun ls hl => ?_)
  refine lv_aload_n hx hb dL_law_1161 rfl (lv_at hl 4 rfl) ?_
  refine rdV (As := []) (ci := 9) S (c_X9_thrown_0 l D cI cZ cJ om q) mi_X9_thrown kw_7_89 ⟨rfl, rfl⟩ ⟨Nat.le_of_ble_eq_true rfl, Nat.le_of_ble_eq_true rfl⟩ (va_Pl (ws := (mW om 1 q cI cZ)) (x := ((xW o u cI cZ cJ) ++ [(ao, .inl (cJ, 1, .inr (.inl (fun _ => 0))))])) hP) hK mW_0 rfl rfl hl.1 (Nat.le_of_ble_eq_true rfl) ⟨Nat.le_of_ble_eq_true rfl, Nat.le_of_ble_eq_true rfl⟩ dL_law_1162 ?_
  refine lv_iload hx hb dL_law_1165 (lv_at hl 1 rfl) ?_
  refine lv_icmp_eq (tgt := 1172) hx hb dL_law_1167 (by decide) (fun _ => ?_) (fun c => absurd c (by decide))
  refine lv_iload hx hb dL_law_1172 (lv_at hl 1 rfl) ?_
  refine lv_if_ne (tgt := 1189) hx hb dL_law_1174 (by decide) (fun _ => ?_) (fun c => absurd c (by decide))
  refine lv_goto (tgt := 1519) hx hb dL_law_1189 (by decide) ?_
  exact law_tail (cells := 121) (slots := 12964) S hr hlocks hX hbl (lv_sub hl [2, 6] rfl) hS (Nat.le_of_ble_eq_true rfl) (Nat.le_of_ble_eq_true rfl)
