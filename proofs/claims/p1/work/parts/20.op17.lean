set_option maxHeartbeats 8000000 in
set_option maxRecDepth 100000 in
theorem law_17 (l : Launch) (hst : l.stackTraces = false) (D : va_G) (cI cZ cJ : ClassId) {p : Program} {e : Env} {s : State} {m : MethodId} {below : List Frame} {meth : Method} {c : Code} {b : Nat} {xs : Nat → Int32} (S : CallFix p m c cL_law 9 s #[Value.ref b] uG RL) (hr : meth.sig.returnType = ret) (hlocks : meth.locks = false) (hX : va_X b 5 xs s s.heap) (hbl : b < s.heap.size) (hK : va_K D vwCl (tyL cI cZ cJ) s) (ra ga : Nat → Nat) (hB : amb ra ga (fun q => s.heap.size ≤ q) s s.heap) (hC : ambC s) (x1 x2 x3 x4 : Int32) (h1 : xs 1 = x1) (h2 : xs 2 = x2) (h3 : xs 3 = x3) (h4 : xs 4 = x4) (o om ao : Nat) (u q : Nat → Nat) (ls : Array Slot) (H : Heap) (locs : List Loc) (hl : lv_has ls 9 [(4, .int 0), (3, .ref ao), (2, .ref om), (1, .ref o), (0, .ref b)]) (hP : va_P D vwCl ((mW om 0 q cI cZ) ++ ((xW o u cI cZ cJ) ++ [(ao, .inl (cJ, 1, .inr (.inl (fun _ => 0))))])) H) (hD : va_D (fun q => s.heap.size ≤ q) ((mW om 0 q cI cZ) ++ ((xW o u cI cZ cJ) ++ [(ao, .inl (cJ, 1, .inr (.inl (fun _ => 0))))]))) (hS : va_S (fun q => s.heap.size ≤ q) s.heap H locs) : W p l e room_1 s m #[Value.ref b] below meth c H locs 120 12958 (lw_Z below #[Value.ref b] s) (F0 m 1289 ls []) := by
  have hx := S.1
  have hb := S.2.1
  have hA : ∀ q : Nat, s.heap.size ≤ q → (fun q : Nat => s.heap.size ≤ q) q := fun _ h => h
  have hbA : ¬ (fun q : Nat => s.heap.size ≤ q) b := Nat.not_le.mpr hbl
  refine lv_aload_n hx hb dL_law_1289 rfl (lv_at hl 3 rfl) ?_
  refine lv_aload_n hx hb dL_law_1290 rfl (lv_at hl 4 rfl) ?_
  refine lv_iload hx hb dL_law_1291 (lv_at hl 0 rfl) ?_
  refine lv_iconst (v := 1) hx hb dL_law_1293 (by decide) ?_
  refine xiadd (v := 1) S dL_law_1294 (by decide) ?_
  refine xsld (v := x1) S hX hbl hbA hS (vin rfl) h1 dL_law_1295 ?_
  refine lv_aload_n hx hb dL_law_1296 rfl (lv_at hl 4 rfl) ?_
  refine lv_iload hx hb dL_law_1297 (lv_at hl 0 rfl) ?_
  refine lv_iconst (v := 2) hx hb dL_law_1299 (by decide) ?_
  refine xiadd (v := 2) S dL_law_1300 (by decide) ?_
  refine xsld (v := x2) S hX hbl hbA hS (vin rfl) h2 dL_law_1301 ?_
  refine lv_aload_n hx hb dL_law_1302 rfl (lv_at hl 4 rfl) ?_
  refine lv_iload hx hb dL_law_1303 (lv_at hl 0 rfl) ?_
  refine lv_iconst (v := 3) hx hb dL_law_1305 (by decide) ?_
  refine xiadd (v := 3) S dL_law_1306 (by decide) ?_
  refine xsld (v := x3) S hX hbl hbA hS (vin rfl) h3 dL_law_1307 ?_
  refine lv_aload_n hx hb dL_law_1308 rfl (lv_at hl 1 rfl) ?_
  by_cases d_1309 : x1 < 1
  · have hi_x1 : x1 ≤ 0 := u_lt d_1309 (by decide)
    refine wrap (mW om 0 q cI cZ) (mid := ((xW o u cI cZ cJ) ++ [(ao, .inl (cJ, 1, .inr (.inl (fun _ => 0))))])) (As := [.ref o, .int x1, .int x2, .int x3, .ref ao]) S (h_wouldRun_0 l D cI cZ cJ o u ao hst ra ga H.size x1 x2 x3 hi_x1) msh_L_wouldRun kw_6_124 rfl rfl ⟨Nat.le_of_ble_eq_true rfl, Nat.le_of_ble_eq_true rfl⟩ hP hD hK hS hA hB hC hl.1 (Nat.le_of_ble_eq_true rfl) ⟨Nat.le_of_ble_eq_true rfl, Nat.le_of_ble_eq_true rfl⟩ dL_law_1309 (fun H locs hz hP hD hS => ?_)
    have hP : va_P D vwCl ((mW om 0 q cI cZ) ++ ((xW o u cI cZ cJ) ++ [(ao, .inl (cJ, 1, .inr (.inl (fun _ => 0))))])) H := hP
    have hD : va_D (fun q : Nat => s.heap.size ≤ q) ((mW om 0 q cI cZ) ++ ((xW o u cI cZ cJ) ++ [(ao, .inl (cJ, 1, .inr (.inl (fun _ => 0))))])) := hD
    refine lv_istore (lv' := [(5, .int 1), (4, .int 0), (3, .ref ao), (2, .ref om), (1, .ref o), (0, .ref b)]) hx hb dL_law_1312 hl (by decide) rfl (fun ls hl => ?_)
    refine lv_aload_n hx hb dL_law_1314 rfl (lv_at hl 3 rfl) ?_
    refine lv_aload_n hx hb dL_law_1315 rfl (lv_at hl 5 rfl) ?_
    refine lv_iload hx hb dL_law_1316 (lv_at hl 1 rfl) ?_
    refine lv_iconst (v := 1) hx hb dL_law_1318 (by decide) ?_
    refine xiadd (v := 1) S dL_law_1319 (by decide) ?_
    refine xsld (v := x1) S hX hbl hbA hS (vin rfl) h1 dL_law_1320 ?_
    refine lv_aload_n hx hb dL_law_1321 rfl (lv_at hl 5 rfl) ?_
    refine lv_iload hx hb dL_law_1322 (lv_at hl 1 rfl) ?_
    refine lv_iconst (v := 2) hx hb dL_law_1324 (by decide) ?_
    refine xiadd (v := 2) S dL_law_1325 (by decide) ?_
    refine xsld (v := x2) S hX hbl hbA hS (vin rfl) h2 dL_law_1326 ?_
    refine lv_aload_n hx hb dL_law_1327 rfl (lv_at hl 5 rfl) ?_
    refine lv_iload hx hb dL_law_1328 (lv_at hl 1 rfl) ?_
    refine lv_iconst (v := 3) hx hb dL_law_1330 (by decide) ?_
    refine xiadd (v := 3) S dL_law_1331 (by decide) ?_
    refine xsld (v := x3) S hX hbl hbA hS (vin rfl) h3 dL_law_1332 ?_
    refine fVi [] ((xW o u cI cZ cJ) ++ [(ao, .inl (cJ, 1, .inr (.inl (fun _ => 0))))]) (mid := (mW om 0 q cI cZ)) (As := [.int x1, .int x2, .int x3]) (ci := 9) S (c_X9_wouldRun_0 l D cI cZ cJ om q H.size x1 x2 x3 hi_x1) mi_X9_wouldRun kw_9_36 rfl rfl ⟨Nat.le_of_ble_eq_true rfl, Nat.le_of_ble_eq_true rfl⟩ hP hD hK hS hA mW_0 rfl rfl hl.1 (Nat.le_of_ble_eq_true rfl) ⟨Nat.le_of_ble_eq_true rfl, Nat.le_of_ble_eq_true rfl⟩ dL_law_1333 (fun H locs hz hP hD hS => ?_)
    have hP : va_P D vwCl ((mW om 1 q cI cZ) ++ ((xW o u cI cZ cJ) ++ [(ao, .inl (cJ, 1, .inr (.inl (fun _ => 0))))])) H := hP
    have hD : va_D (fun q : Nat => s.heap.size ≤ q) ((mW om 1 q cI cZ) ++ ((xW o u cI cZ cJ) ++ [(ao, .inl (cJ, 1, .inr (.inl (fun _ => 0))))])) := hD
    refine lv_istore (lv' := [(6, .int 0), (5, .int 1), (4, .int 0), (3, .ref ao), (2, .ref om), (1, .ref o), (0, .ref b)]) hx hb dL_law_1336 hl (by decide) rfl (fun ls hl => ?_)
    refine lv_aload_n hx hb dL_law_1338 rfl (lv_at hl 4 rfl) ?_
    refine rdV (As := []) (ci := 9) S (c_X9_thrown_0 l D cI cZ cJ om q) mi_X9_thrown kw_7_89 ⟨rfl, rfl⟩ ⟨Nat.le_of_ble_eq_true rfl, Nat.le_of_ble_eq_true rfl⟩ (va_Pl (ws := (mW om 1 q cI cZ)) (x := ((xW o u cI cZ cJ) ++ [(ao, .inl (cJ, 1, .inr (.inl (fun _ => 0))))])) hP) hK mW_0 rfl rfl hl.1 (Nat.le_of_ble_eq_true rfl) ⟨Nat.le_of_ble_eq_true rfl, Nat.le_of_ble_eq_true rfl⟩ dL_law_1339 ?_
    refine lv_iload hx hb dL_law_1342 (lv_at hl 1 rfl) ?_
    refine lv_icmp_eq (tgt := 1349) hx hb dL_law_1344 (by decide) (fun _ => ?_) (fun c => absurd c (by decide))
    refine lv_iload hx hb dL_law_1349 (lv_at hl 1 rfl) ?_
    refine lv_if_ne (tgt := 1366) hx hb dL_law_1351 (by decide) (fun _ => ?_) (fun c => absurd c (by decide))
    refine lv_goto (tgt := 1519) hx hb dL_law_1366 (by decide) ?_
    exact law_tail (cells := 121) (slots := 12964) S hr hlocks hX hbl (lv_sub hl [2, 6] rfl) hS (Nat.le_of_ble_eq_true rfl) (Nat.le_of_ble_eq_true rfl)
  · have lo_x1 : 1 ≤ x1 := l_nlt d_1309
    by_cases d_1309 : 3000 < x1
    · have lo_x1 : 3001 ≤ x1 := l_gt d_1309 (by decide)
      refine wrap (mW om 0 q cI cZ) (mid := ((xW o u cI cZ cJ) ++ [(ao, .inl (cJ, 1, .inr (.inl (fun _ => 0))))])) (As := [.ref o, .int x1, .int x2, .int x3, .ref ao]) S (h_wouldRun_1 l D cI cZ cJ o u ao hst ra ga H.size x1 x2 x3 lo_x1) msh_L_wouldRun kw_6_124 rfl rfl ⟨Nat.le_of_ble_eq_true rfl, Nat.le_of_ble_eq_true rfl⟩ hP hD hK hS hA hB hC hl.1 (Nat.le_of_ble_eq_true rfl) ⟨Nat.le_of_ble_eq_true rfl, Nat.le_of_ble_eq_true rfl⟩ dL_law_1309 (fun H locs hz hP hD hS => ?_)
      have hP : va_P D vwCl ((mW om 0 q cI cZ) ++ ((xW o u cI cZ cJ) ++ [(ao, .inl (cJ, 1, .inr (.inl (fun _ => 0))))])) H := hP
      have hD : va_D (fun q : Nat => s.heap.size ≤ q) ((mW om 0 q cI cZ) ++ ((xW o u cI cZ cJ) ++ [(ao, .inl (cJ, 1, .inr (.inl (fun _ => 0))))])) := hD
      refine lv_istore (lv' := [(5, .int 1), (4, .int 0), (3, .ref ao), (2, .ref om), (1, .ref o), (0, .ref b)]) hx hb dL_law_1312 hl (by decide) rfl (fun ls hl => ?_)
      refine lv_aload_n hx hb dL_law_1314 rfl (lv_at hl 3 rfl) ?_
      refine lv_aload_n hx hb dL_law_1315 rfl (lv_at hl 5 rfl) ?_
      refine lv_iload hx hb dL_law_1316 (lv_at hl 1 rfl) ?_
      refine lv_iconst (v := 1) hx hb dL_law_1318 (by decide) ?_
      refine xiadd (v := 1) S dL_law_1319 (by decide) ?_
      refine xsld (v := x1) S hX hbl hbA hS (vin rfl) h1 dL_law_1320 ?_
      refine lv_aload_n hx hb dL_law_1321 rfl (lv_at hl 5 rfl) ?_
      refine lv_iload hx hb dL_law_1322 (lv_at hl 1 rfl) ?_
      refine lv_iconst (v := 2) hx hb dL_law_1324 (by decide) ?_
      refine xiadd (v := 2) S dL_law_1325 (by decide) ?_
      refine xsld (v := x2) S hX hbl hbA hS (vin rfl) h2 dL_law_1326 ?_
      refine lv_aload_n hx hb dL_law_1327 rfl (lv_at hl 5 rfl) ?_
      refine lv_iload hx hb dL_law_1328 (lv_at hl 1 rfl) ?_
      refine lv_iconst (v := 3) hx hb dL_law_1330 (by decide) ?_
      refine xiadd (v := 3) S dL_law_1331 (by decide) ?_
      refine xsld (v := x3) S hX hbl hbA hS (vin rfl) h3 dL_law_1332 ?_
      refine fVi [] ((xW o u cI cZ cJ) ++ [(ao, .inl (cJ, 1, .inr (.inl (fun _ => 0))))]) (mid := (mW om 0 q cI cZ)) (As := [.int x1, .int x2, .int x3]) (ci := 9) S (c_X9_wouldRun_1 l D cI cZ cJ om q H.size x1 x2 x3 lo_x1) mi_X9_wouldRun kw_9_36 rfl rfl ⟨Nat.le_of_ble_eq_true rfl, Nat.le_of_ble_eq_true rfl⟩ hP hD hK hS hA mW_0 rfl rfl hl.1 (Nat.le_of_ble_eq_true rfl) ⟨Nat.le_of_ble_eq_true rfl, Nat.le_of_ble_eq_true rfl⟩ dL_law_1333 (fun H locs hz hP hD hS => ?_)
      have hP : va_P D vwCl ((mW om 1 q cI cZ) ++ ((xW o u cI cZ cJ) ++ [(ao, .inl (cJ, 1, .inr (.inl (fun _ => 0))))])) H := hP
      have hD : va_D (fun q : Nat => s.heap.size ≤ q) ((mW om 1 q cI cZ) ++ ((xW o u cI cZ cJ) ++ [(ao, .inl (cJ, 1, .inr (.inl (fun _ => 0))))])) := hD
      refine lv_istore (lv' := [(6, .int 0), (5, .int 1), (4, .int 0), (3, .ref ao), (2, .ref om), (1, .ref o), (0, .ref b)]) hx hb dL_law_1336 hl (by decide) rfl (fun ls hl => ?_)
      refine lv_aload_n hx hb dL_law_1338 rfl (lv_at hl 4 rfl) ?_
      refine rdV (As := []) (ci := 9) S (c_X9_thrown_0 l D cI cZ cJ om q) mi_X9_thrown kw_7_89 ⟨rfl, rfl⟩ ⟨Nat.le_of_ble_eq_true rfl, Nat.le_of_ble_eq_true rfl⟩ (va_Pl (ws := (mW om 1 q cI cZ)) (x := ((xW o u cI cZ cJ) ++ [(ao, .inl (cJ, 1, .inr (.inl (fun _ => 0))))])) hP) hK mW_0 rfl rfl hl.1 (Nat.le_of_ble_eq_true rfl) ⟨Nat.le_of_ble_eq_true rfl, Nat.le_of_ble_eq_true rfl⟩ dL_law_1339 ?_
      refine lv_iload hx hb dL_law_1342 (lv_at hl 1 rfl) ?_
      refine lv_icmp_eq (tgt := 1349) hx hb dL_law_1344 (by decide) (fun _ => ?_) (fun c => absurd c (by decide))
      refine lv_iload hx hb dL_law_1349 (lv_at hl 1 rfl) ?_
      refine lv_if_ne (tgt := 1366) hx hb dL_law_1351 (by decide) (fun _ => ?_) (fun c => absurd c (by decide))
      refine lv_goto (tgt := 1519) hx hb dL_law_1366 (by decide) ?_
      exact law_tail (cells := 121) (slots := 12964) S hr hlocks hX hbl (lv_sub hl [2, 6] rfl) hS (Nat.le_of_ble_eq_true rfl) (Nat.le_of_ble_eq_true rfl)
    · have hi_x1 : x1 ≤ 3000 := u_ngt d_1309
      by_cases d_1309 : x2 < 1
      · have hi_x2 : x2 ≤ 0 := u_lt d_1309 (by decide)
        refine wrap (mW om 0 q cI cZ) (mid := ((xW o u cI cZ cJ) ++ [(ao, .inl (cJ, 1, .inr (.inl (fun _ => 0))))])) (As := [.ref o, .int x1, .int x2, .int x3, .ref ao]) S (h_wouldRun_2 l D cI cZ cJ o u ao hst ra ga H.size x1 x2 x3 lo_x1 hi_x1 hi_x2) msh_L_wouldRun kw_6_124 rfl rfl ⟨Nat.le_of_ble_eq_true rfl, Nat.le_of_ble_eq_true rfl⟩ hP hD hK hS hA hB hC hl.1 (Nat.le_of_ble_eq_true rfl) ⟨Nat.le_of_ble_eq_true rfl, Nat.le_of_ble_eq_true rfl⟩ dL_law_1309 (fun H locs hz hP hD hS => ?_)
        have hP : va_P D vwCl ((mW om 0 q cI cZ) ++ ((xW o u cI cZ cJ) ++ [(ao, .inl (cJ, 1, .inr (.inl (fun _ => 0))))])) H := hP
        have hD : va_D (fun q : Nat => s.heap.size ≤ q) ((mW om 0 q cI cZ) ++ ((xW o u cI cZ cJ) ++ [(ao, .inl (cJ, 1, .inr (.inl (fun _ => 0))))])) := hD
        refine lv_istore (lv' := [(5, .int 1), (4, .int 0), (3, .ref ao), (2, .ref om), (1, .ref o), (0, .ref b)]) hx hb dL_law_1312 hl (by decide) rfl (fun ls hl => ?_)
        refine lv_aload_n hx hb dL_law_1314 rfl (lv_at hl 3 rfl) ?_
        refine lv_aload_n hx hb dL_law_1315 rfl (lv_at hl 5 rfl) ?_
        refine lv_iload hx hb dL_law_1316 (lv_at hl 1 rfl) ?_
        refine lv_iconst (v := 1) hx hb dL_law_1318 (by decide) ?_
        refine xiadd (v := 1) S dL_law_1319 (by decide) ?_
        refine xsld (v := x1) S hX hbl hbA hS (vin rfl) h1 dL_law_1320 ?_
        refine lv_aload_n hx hb dL_law_1321 rfl (lv_at hl 5 rfl) ?_
        refine lv_iload hx hb dL_law_1322 (lv_at hl 1 rfl) ?_
        refine lv_iconst (v := 2) hx hb dL_law_1324 (by decide) ?_
        refine xiadd (v := 2) S dL_law_1325 (by decide) ?_
        refine xsld (v := x2) S hX hbl hbA hS (vin rfl) h2 dL_law_1326 ?_
        refine lv_aload_n hx hb dL_law_1327 rfl (lv_at hl 5 rfl) ?_
        refine lv_iload hx hb dL_law_1328 (lv_at hl 1 rfl) ?_
        refine lv_iconst (v := 3) hx hb dL_law_1330 (by decide) ?_
        refine xiadd (v := 3) S dL_law_1331 (by decide) ?_
        refine xsld (v := x3) S hX hbl hbA hS (vin rfl) h3 dL_law_1332 ?_
        refine fVi [] ((xW o u cI cZ cJ) ++ [(ao, .inl (cJ, 1, .inr (.inl (fun _ => 0))))]) (mid := (mW om 0 q cI cZ)) (As := [.int x1, .int x2, .int x3]) (ci := 9) S (c_X9_wouldRun_2 l D cI cZ cJ om q H.size x1 x2 x3 lo_x1 hi_x1 hi_x2) mi_X9_wouldRun kw_9_36 rfl rfl ⟨Nat.le_of_ble_eq_true rfl, Nat.le_of_ble_eq_true rfl⟩ hP hD hK hS hA mW_0 rfl rfl hl.1 (Nat.le_of_ble_eq_true rfl) ⟨Nat.le_of_ble_eq_true rfl, Nat.le_of_ble_eq_true rfl⟩ dL_law_1333 (fun H locs hz hP hD hS => ?_)
        have hP : va_P D vwCl ((mW om 1 q cI cZ) ++ ((xW o u cI cZ cJ) ++ [(ao, .inl (cJ, 1, .inr (.inl (fun _ => 0))))])) H := hP
        have hD : va_D (fun q : Nat => s.heap.size ≤ q) ((mW om 1 q cI cZ) ++ ((xW o u cI cZ cJ) ++ [(ao, .inl (cJ, 1, .inr (.inl (fun _ => 0))))])) := hD
        refine lv_istore (lv' := [(6, .int 0), (5, .int 1), (4, .int 0), (3, .ref ao), (2, .ref om), (1, .ref o), (0, .ref b)]) hx hb dL_law_1336 hl (by decide) rfl (fun ls hl => ?_)
        refine lv_aload_n hx hb dL_law_1338 rfl (lv_at hl 4 rfl) ?_
        refine rdV (As := []) (ci := 9) S (c_X9_thrown_0 l D cI cZ cJ om q) mi_X9_thrown kw_7_89 ⟨rfl, rfl⟩ ⟨Nat.le_of_ble_eq_true rfl, Nat.le_of_ble_eq_true rfl⟩ (va_Pl (ws := (mW om 1 q cI cZ)) (x := ((xW o u cI cZ cJ) ++ [(ao, .inl (cJ, 1, .inr (.inl (fun _ => 0))))])) hP) hK mW_0 rfl rfl hl.1 (Nat.le_of_ble_eq_true rfl) ⟨Nat.le_of_ble_eq_true rfl, Nat.le_of_ble_eq_true rfl⟩ dL_law_1339 ?_
        refine lv_iload hx hb dL_law_1342 (lv_at hl 1 rfl) ?_
        refine lv_icmp_eq (tgt := 1349) hx hb dL_law_1344 (by decide) (fun _ => ?_) (fun c => absurd c (by decide))
        refine lv_iload hx hb dL_law_1349 (lv_at hl 1 rfl) ?_
        refine lv_if_ne (tgt := 1366) hx hb dL_law_1351 (by decide) (fun _ => ?_) (fun c => absurd c (by decide))
        refine lv_goto (tgt := 1519) hx hb dL_law_1366 (by decide) ?_
        exact law_tail (cells := 121) (slots := 12964) S hr hlocks hX hbl (lv_sub hl [2, 6] rfl) hS (Nat.le_of_ble_eq_true rfl) (Nat.le_of_ble_eq_true rfl)
      · have lo_x2 : 1 ≤ x2 := l_nlt d_1309
        by_cases d_1309 : 40 < x2
        · have lo_x2 : 41 ≤ x2 := l_gt d_1309 (by decide)
          refine wrap (mW om 0 q cI cZ) (mid := ((xW o u cI cZ cJ) ++ [(ao, .inl (cJ, 1, .inr (.inl (fun _ => 0))))])) (As := [.ref o, .int x1, .int x2, .int x3, .ref ao]) S (h_wouldRun_3 l D cI cZ cJ o u ao hst ra ga H.size x1 x2 x3 lo_x1 hi_x1 lo_x2) msh_L_wouldRun kw_6_124 rfl rfl ⟨Nat.le_of_ble_eq_true rfl, Nat.le_of_ble_eq_true rfl⟩ hP hD hK hS hA hB hC hl.1 (Nat.le_of_ble_eq_true rfl) ⟨Nat.le_of_ble_eq_true rfl, Nat.le_of_ble_eq_true rfl⟩ dL_law_1309 (fun H locs hz hP hD hS => ?_)
          have hP : va_P D vwCl ((mW om 0 q cI cZ) ++ ((xW o u cI cZ cJ) ++ [(ao, .inl (cJ, 1, .inr (.inl (fun _ => 0))))])) H := hP
          have hD : va_D (fun q : Nat => s.heap.size ≤ q) ((mW om 0 q cI cZ) ++ ((xW o u cI cZ cJ) ++ [(ao, .inl (cJ, 1, .inr (.inl (fun _ => 0))))])) := hD
          refine lv_istore (lv' := [(5, .int 1), (4, .int 0), (3, .ref ao), (2, .ref om), (1, .ref o), (0, .ref b)]) hx hb dL_law_1312 hl (by decide) rfl (fun ls hl => ?_)
          refine lv_aload_n hx hb dL_law_1314 rfl (lv_at hl 3 rfl) ?_
          refine lv_aload_n hx hb dL_law_1315 rfl (lv_at hl 5 rfl) ?_
          refine lv_iload hx hb dL_law_1316 (lv_at hl 1 rfl) ?_
          refine lv_iconst (v := 1) hx hb dL_law_1318 (by decide) ?_
          refine xiadd (v := 1) S dL_law_1319 (by decide) ?_
          refine xsld (v := x1) S hX hbl hbA hS (vin rfl) h1 dL_law_1320 ?_
          refine lv_aload_n hx hb dL_law_1321 rfl (lv_at hl 5 rfl) ?_
          refine lv_iload hx hb dL_law_1322 (lv_at hl 1 rfl) ?_
          refine lv_iconst (v := 2) hx hb dL_law_1324 (by decide) ?_
          refine xiadd (v := 2) S dL_law_1325 (by decide) ?_
          refine xsld (v := x2) S hX hbl hbA hS (vin rfl) h2 dL_law_1326 ?_
          refine lv_aload_n hx hb dL_law_1327 rfl (lv_at hl 5 rfl) ?_
          refine lv_iload hx hb dL_law_1328 (lv_at hl 1 rfl) ?_
          refine lv_iconst (v := 3) hx hb dL_law_1330 (by decide) ?_
          refine xiadd (v := 3) S dL_law_1331 (by decide) ?_
          refine xsld (v := x3) S hX hbl hbA hS (vin rfl) h3 dL_law_1332 ?_
          refine fVi [] ((xW o u cI cZ cJ) ++ [(ao, .inl (cJ, 1, .inr (.inl (fun _ => 0))))]) (mid := (mW om 0 q cI cZ)) (As := [.int x1, .int x2, .int x3]) (ci := 9) S (c_X9_wouldRun_3 l D cI cZ cJ om q H.size x1 x2 x3 lo_x1 hi_x1 lo_x2) mi_X9_wouldRun kw_9_36 rfl rfl ⟨Nat.le_of_ble_eq_true rfl, Nat.le_of_ble_eq_true rfl⟩ hP hD hK hS hA mW_0 rfl rfl hl.1 (Nat.le_of_ble_eq_true rfl) ⟨Nat.le_of_ble_eq_true rfl, Nat.le_of_ble_eq_true rfl⟩ dL_law_1333 (fun H locs hz hP hD hS => ?_)
          have hP : va_P D vwCl ((mW om 1 q cI cZ) ++ ((xW o u cI cZ cJ) ++ [(ao, .inl (cJ, 1, .inr (.inl (fun _ => 0))))])) H := hP
          have hD : va_D (fun q : Nat => s.heap.size ≤ q) ((mW om 1 q cI cZ) ++ ((xW o u cI cZ cJ) ++ [(ao, .inl (cJ, 1, .inr (.inl (fun _ => 0))))])) := hD
          refine lv_istore (lv' := [(6, .int 0), (5, .int 1), (4, .int 0), (3, .ref ao), (2, .ref om), (1, .ref o), (0, .ref b)]) hx hb dL_law_1336 hl (by decide) rfl (fun ls hl => ?_)
          refine lv_aload_n hx hb dL_law_1338 rfl (lv_at hl 4 rfl) ?_
          refine rdV (As := []) (ci := 9) S (c_X9_thrown_0 l D cI cZ cJ om q) mi_X9_thrown kw_7_89 ⟨rfl, rfl⟩ ⟨Nat.le_of_ble_eq_true rfl, Nat.le_of_ble_eq_true rfl⟩ (va_Pl (ws := (mW om 1 q cI cZ)) (x := ((xW o u cI cZ cJ) ++ [(ao, .inl (cJ, 1, .inr (.inl (fun _ => 0))))])) hP) hK mW_0 rfl rfl hl.1 (Nat.le_of_ble_eq_true rfl) ⟨Nat.le_of_ble_eq_true rfl, Nat.le_of_ble_eq_true rfl⟩ dL_law_1339 ?_
          refine lv_iload hx hb dL_law_1342 (lv_at hl 1 rfl) ?_
          refine lv_icmp_eq (tgt := 1349) hx hb dL_law_1344 (by decide) (fun _ => ?_) (fun c => absurd c (by decide))
          refine lv_iload hx hb dL_law_1349 (lv_at hl 1 rfl) ?_
          refine lv_if_ne (tgt := 1366) hx hb dL_law_1351 (by decide) (fun _ => ?_) (fun c => absurd c (by decide))
          refine lv_goto (tgt := 1519) hx hb dL_law_1366 (by decide) ?_
          exact law_tail (cells := 121) (slots := 12964) S hr hlocks hX hbl (lv_sub hl [2, 6] rfl) hS (Nat.le_of_ble_eq_true rfl) (Nat.le_of_ble_eq_true rfl)
        · have hi_x2 : x2 ≤ 40 := u_ngt d_1309
          by_cases d_1309 : x3 < 0
          · have hi_x3 : x3 ≤ (-1) := u_lt d_1309 (by decide)
            refine wrap (mW om 0 q cI cZ) (mid := ((xW o u cI cZ cJ) ++ [(ao, .inl (cJ, 1, .inr (.inl (fun _ => 0))))])) (As := [.ref o, .int x1, .int x2, .int x3, .ref ao]) S (h_wouldRun_4 l D cI cZ cJ o u ao hst ra ga H.size x1 x2 x3 lo_x1 hi_x1 lo_x2 hi_x2 hi_x3) msh_L_wouldRun kw_6_124 rfl rfl ⟨Nat.le_of_ble_eq_true rfl, Nat.le_of_ble_eq_true rfl⟩ hP hD hK hS hA hB hC hl.1 (Nat.le_of_ble_eq_true rfl) ⟨Nat.le_of_ble_eq_true rfl, Nat.le_of_ble_eq_true rfl⟩ dL_law_1309 (fun H locs hz hP hD hS => ?_)
            have hP : va_P D vwCl ((mW om 0 q cI cZ) ++ ((xW o u cI cZ cJ) ++ [(ao, .inl (cJ, 1, .inr (.inl (fun _ => 0))))])) H := hP
            have hD : va_D (fun q : Nat => s.heap.size ≤ q) ((mW om 0 q cI cZ) ++ ((xW o u cI cZ cJ) ++ [(ao, .inl (cJ, 1, .inr (.inl (fun _ => 0))))])) := hD
            refine lv_istore (lv' := [(5, .int 1), (4, .int 0), (3, .ref ao), (2, .ref om), (1, .ref o), (0, .ref b)]) hx hb dL_law_1312 hl (by decide) rfl (fun ls hl => ?_)
            refine lv_aload_n hx hb dL_law_1314 rfl (lv_at hl 3 rfl) ?_
            refine lv_aload_n hx hb dL_law_1315 rfl (lv_at hl 5 rfl) ?_
            refine lv_iload hx hb dL_law_1316 (lv_at hl 1 rfl) ?_
            refine lv_iconst (v := 1) hx hb dL_law_1318 (by decide) ?_
            refine xiadd (v := 1) S dL_law_1319 (by decide) ?_
            refine xsld (v := x1) S hX hbl hbA hS (vin rfl) h1 dL_law_1320 ?_
            refine lv_aload_n hx hb dL_law_1321 rfl (lv_at hl 5 rfl) ?_
            refine lv_iload hx hb dL_law_1322 (lv_at hl 1 rfl) ?_
            refine lv_iconst (v := 2) hx hb dL_law_1324 (by decide) ?_
            refine xiadd (v := 2) S dL_law_1325 (by decide) ?_
            refine xsld (v := x2) S hX hbl hbA hS (vin rfl) h2 dL_law_1326 ?_
            refine lv_aload_n hx hb dL_law_1327 rfl (lv_at hl 5 rfl) ?_
            refine lv_iload hx hb dL_law_1328 (lv_at hl 1 rfl) ?_
            refine lv_iconst (v := 3) hx hb dL_law_1330 (by decide) ?_
            refine xiadd (v := 3) S dL_law_1331 (by decide) ?_
            refine xsld (v := x3) S hX hbl hbA hS (vin rfl) h3 dL_law_1332 ?_
            refine fVi [] ((xW o u cI cZ cJ) ++ [(ao, .inl (cJ, 1, .inr (.inl (fun _ => 0))))]) (mid := (mW om 0 q cI cZ)) (As := [.int x1, .int x2, .int x3]) (ci := 9) S (c_X9_wouldRun_4 l D cI cZ cJ om q H.size x1 x2 x3 lo_x1 hi_x1 lo_x2 hi_x2 hi_x3) mi_X9_wouldRun kw_9_36 rfl rfl ⟨Nat.le_of_ble_eq_true rfl, Nat.le_of_ble_eq_true rfl⟩ hP hD hK hS hA mW_0 rfl rfl hl.1 (Nat.le_of_ble_eq_true rfl) ⟨Nat.le_of_ble_eq_true rfl, Nat.le_of_ble_eq_true rfl⟩ dL_law_1333 (fun H locs hz hP hD hS => ?_)
            have hP : va_P D vwCl ((mW om 1 q cI cZ) ++ ((xW o u cI cZ cJ) ++ [(ao, .inl (cJ, 1, .inr (.inl (fun _ => 0))))])) H := hP
            have hD : va_D (fun q : Nat => s.heap.size ≤ q) ((mW om 1 q cI cZ) ++ ((xW o u cI cZ cJ) ++ [(ao, .inl (cJ, 1, .inr (.inl (fun _ => 0))))])) := hD
            refine lv_istore (lv' := [(6, .int 0), (5, .int 1), (4, .int 0), (3, .ref ao), (2, .ref om), (1, .ref o), (0, .ref b)]) hx hb dL_law_1336 hl (by decide) rfl (fun ls hl => ?_)
            refine lv_aload_n hx hb dL_law_1338 rfl (lv_at hl 4 rfl) ?_
            refine rdV (As := []) (ci := 9) S (c_X9_thrown_0 l D cI cZ cJ om q) mi_X9_thrown kw_7_89 ⟨rfl, rfl⟩ ⟨Nat.le_of_ble_eq_true rfl, Nat.le_of_ble_eq_true rfl⟩ (va_Pl (ws := (mW om 1 q cI cZ)) (x := ((xW o u cI cZ cJ) ++ [(ao, .inl (cJ, 1, .inr (.inl (fun _ => 0))))])) hP) hK mW_0 rfl rfl hl.1 (Nat.le_of_ble_eq_true rfl) ⟨Nat.le_of_ble_eq_true rfl, Nat.le_of_ble_eq_true rfl⟩ dL_law_1339 ?_
            refine lv_iload hx hb dL_law_1342 (lv_at hl 1 rfl) ?_
            refine lv_icmp_eq (tgt := 1349) hx hb dL_law_1344 (by decide) (fun _ => ?_) (fun c => absurd c (by decide))
            refine lv_iload hx hb dL_law_1349 (lv_at hl 1 rfl) ?_
            refine lv_if_ne (tgt := 1366) hx hb dL_law_1351 (by decide) (fun _ => ?_) (fun c => absurd c (by decide))
            refine lv_goto (tgt := 1519) hx hb dL_law_1366 (by decide) ?_
            exact law_tail (cells := 121) (slots := 12964) S hr hlocks hX hbl (lv_sub hl [2, 6] rfl) hS (Nat.le_of_ble_eq_true rfl) (Nat.le_of_ble_eq_true rfl)
          · have lo_x3 : 0 ≤ x3 := l_nlt d_1309
            by_cases d_1309 : 9 < x3
            · have lo_x3 : 10 ≤ x3 := l_gt d_1309 (by decide)
              refine wrap (mW om 0 q cI cZ) (mid := ((xW o u cI cZ cJ) ++ [(ao, .inl (cJ, 1, .inr (.inl (fun _ => 0))))])) (As := [.ref o, .int x1, .int x2, .int x3, .ref ao]) S (h_wouldRun_5 l D cI cZ cJ o u ao hst ra ga H.size x1 x2 x3 lo_x1 hi_x1 lo_x2 hi_x2 lo_x3) msh_L_wouldRun kw_6_124 rfl rfl ⟨Nat.le_of_ble_eq_true rfl, Nat.le_of_ble_eq_true rfl⟩ hP hD hK hS hA hB hC hl.1 (Nat.le_of_ble_eq_true rfl) ⟨Nat.le_of_ble_eq_true rfl, Nat.le_of_ble_eq_true rfl⟩ dL_law_1309 (fun H locs hz hP hD hS => ?_)
              have hP : va_P D vwCl ((mW om 0 q cI cZ) ++ ((xW o u cI cZ cJ) ++ [(ao, .inl (cJ, 1, .inr (.inl (fun _ => 0))))])) H := hP
              have hD : va_D (fun q : Nat => s.heap.size ≤ q) ((mW om 0 q cI cZ) ++ ((xW o u cI cZ cJ) ++ [(ao, .inl (cJ, 1, .inr (.inl (fun _ => 0))))])) := hD
              refine lv_istore (lv' := [(5, .int 1), (4, .int 0), (3, .ref ao), (2, .ref om), (1, .ref o), (0, .ref b)]) hx hb dL_law_1312 hl (by decide) rfl (fun ls hl => ?_)
              refine lv_aload_n hx hb dL_law_1314 rfl (lv_at hl 3 rfl) ?_
              refine lv_aload_n hx hb dL_law_1315 rfl (lv_at hl 5 rfl) ?_
              refine lv_iload hx hb dL_law_1316 (lv_at hl 1 rfl) ?_
              refine lv_iconst (v := 1) hx hb dL_law_1318 (by decide) ?_
              refine xiadd (v := 1) S dL_law_1319 (by decide) ?_
              refine xsld (v := x1) S hX hbl hbA hS (vin rfl) h1 dL_law_1320 ?_
              refine lv_aload_n hx hb dL_law_1321 rfl (lv_at hl 5 rfl) ?_
              refine lv_iload hx hb dL_law_1322 (lv_at hl 1 rfl) ?_
              refine lv_iconst (v := 2) hx hb dL_law_1324 (by decide) ?_
              refine xiadd (v := 2) S dL_law_1325 (by decide) ?_
              refine xsld (v := x2) S hX hbl hbA hS (vin rfl) h2 dL_law_1326 ?_
              refine lv_aload_n hx hb dL_law_1327 rfl (lv_at hl 5 rfl) ?_
              refine lv_iload hx hb dL_law_1328 (lv_at hl 1 rfl) ?_
              refine lv_iconst (v := 3) hx hb dL_law_1330 (by decide) ?_
              refine xiadd (v := 3) S dL_law_1331 (by decide) ?_
              refine xsld (v := x3) S hX hbl hbA hS (vin rfl) h3 dL_law_1332 ?_
              refine fVi [] ((xW o u cI cZ cJ) ++ [(ao, .inl (cJ, 1, .inr (.inl (fun _ => 0))))]) (mid := (mW om 0 q cI cZ)) (As := [.int x1, .int x2, .int x3]) (ci := 9) S (c_X9_wouldRun_5 l D cI cZ cJ om q H.size x1 x2 x3 lo_x1 hi_x1 lo_x2 hi_x2 lo_x3) mi_X9_wouldRun kw_9_36 rfl rfl ⟨Nat.le_of_ble_eq_true rfl, Nat.le_of_ble_eq_true rfl⟩ hP hD hK hS hA mW_0 rfl rfl hl.1 (Nat.le_of_ble_eq_true rfl) ⟨Nat.le_of_ble_eq_true rfl, Nat.le_of_ble_eq_true rfl⟩ dL_law_1333 (fun H locs hz hP hD hS => ?_)
              have hP : va_P D vwCl ((mW om 1 q cI cZ) ++ ((xW o u cI cZ cJ) ++ [(ao, .inl (cJ, 1, .inr (.inl (fun _ => 0))))])) H := hP
              have hD : va_D (fun q : Nat => s.heap.size ≤ q) ((mW om 1 q cI cZ) ++ ((xW o u cI cZ cJ) ++ [(ao, .inl (cJ, 1, .inr (.inl (fun _ => 0))))])) := hD
              refine lv_istore (lv' := [(6, .int 0), (5, .int 1), (4, .int 0), (3, .ref ao), (2, .ref om), (1, .ref o), (0, .ref b)]) hx hb dL_law_1336 hl (by decide) rfl (fun ls hl => ?_)
              refine lv_aload_n hx hb dL_law_1338 rfl (lv_at hl 4 rfl) ?_
              refine rdV (As := []) (ci := 9) S (c_X9_thrown_0 l D cI cZ cJ om q) mi_X9_thrown kw_7_89 ⟨rfl, rfl⟩ ⟨Nat.le_of_ble_eq_true rfl, Nat.le_of_ble_eq_true rfl⟩ (va_Pl (ws := (mW om 1 q cI cZ)) (x := ((xW o u cI cZ cJ) ++ [(ao, .inl (cJ, 1, .inr (.inl (fun _ => 0))))])) hP) hK mW_0 rfl rfl hl.1 (Nat.le_of_ble_eq_true rfl) ⟨Nat.le_of_ble_eq_true rfl, Nat.le_of_ble_eq_true rfl⟩ dL_law_1339 ?_
              refine lv_iload hx hb dL_law_1342 (lv_at hl 1 rfl) ?_
              refine lv_icmp_eq (tgt := 1349) hx hb dL_law_1344 (by decide) (fun _ => ?_) (fun c => absurd c (by decide))
              refine lv_iload hx hb dL_law_1349 (lv_at hl 1 rfl) ?_
              refine lv_if_ne (tgt := 1366) hx hb dL_law_1351 (by decide) (fun _ => ?_) (fun c => absurd c (by decide))
              refine lv_goto (tgt := 1519) hx hb dL_law_1366 (by decide) ?_
              exact law_tail (cells := 121) (slots := 12964) S hr hlocks hX hbl (lv_sub hl [2, 6] rfl) hS (Nat.le_of_ble_eq_true rfl) (Nat.le_of_ble_eq_true rfl)
            · have hi_x3 : x3 ≤ 9 := u_ngt d_1309
              refine wrap (mW om 0 q cI cZ) (mid := ((xW o u cI cZ cJ) ++ [(ao, .inl (cJ, 1, .inr (.inl (fun _ => 0))))])) (As := [.ref o, .int x1, .int x2, .int x3, .ref ao]) S (h_wouldRun_6 l D cI cZ cJ o u ao hst ra ga H.size x1 x2 x3 lo_x1 hi_x1 lo_x2 hi_x2 lo_x3 hi_x3) msh_L_wouldRun kw_6_124 rfl rfl ⟨Nat.le_of_ble_eq_true rfl, Nat.le_of_ble_eq_true rfl⟩ hP hD hK hS hA hB hC hl.1 (Nat.le_of_ble_eq_true rfl) ⟨Nat.le_of_ble_eq_true rfl, Nat.le_of_ble_eq_true rfl⟩ dL_law_1309 (fun H locs hz hP hD hS => ?_)
              have hP : va_P D vwCl ((mW om 0 q cI cZ) ++ ((((((((xW o u cI cZ cJ).set 0 (o, .inr (8, ((xF u).set 9 (.int 0))))).set 32 ((u 31), .inl (cZ, 10, .inl (upd (upd (upd (upd (upd (upd (upd (upd (upd (upd (fun _ => 0) (0 : Int32).toNatClampNeg 0) (1 : Int32).toNatClampNeg 0) (2 : Int32).toNatClampNeg 0) (3 : Int32).toNatClampNeg 0) (4 : Int32).toNatClampNeg 0) (5 : Int32).toNatClampNeg 0) (6 : Int32).toNatClampNeg 0) (7 : Int32).toNatClampNeg 0) (8 : Int32).toNatClampNeg 0) (9 : Int32).toNatClampNeg 0)))).set 34 ((u 33), .inr (2, ([.ref (u 0), .ref (u 12), .ref (u 19), .int 0, .ref (u 34), .ref (u 35), .ref (u 36), .ref (u 37), .int 0].set 3 (.int 1))))).set 35 ((u 34), .inl (cI, 120, .inl (upd (fun _ => 0) (0 : Int32).toNatClampNeg 10)))).set 36 ((u 35), .inl (cI, 120, .inl (upd (fun _ => 0) (0 : Int32).toNatClampNeg 0)))).set 37 ((u 36), .inl (cI, 120, .inl (upd (fun _ => 0) (0 : Int32).toNatClampNeg (-1))))) ++ [(ao, .inl (cJ, 1, .inr (.inl (fun _ => 0))))])) H := hP
              have hD : va_D (fun q : Nat => s.heap.size ≤ q) ((mW om 0 q cI cZ) ++ ((((((((xW o u cI cZ cJ).set 0 (o, .inr (8, ((xF u).set 9 (.int 0))))).set 32 ((u 31), .inl (cZ, 10, .inl (upd (upd (upd (upd (upd (upd (upd (upd (upd (upd (fun _ => 0) (0 : Int32).toNatClampNeg 0) (1 : Int32).toNatClampNeg 0) (2 : Int32).toNatClampNeg 0) (3 : Int32).toNatClampNeg 0) (4 : Int32).toNatClampNeg 0) (5 : Int32).toNatClampNeg 0) (6 : Int32).toNatClampNeg 0) (7 : Int32).toNatClampNeg 0) (8 : Int32).toNatClampNeg 0) (9 : Int32).toNatClampNeg 0)))).set 34 ((u 33), .inr (2, ([.ref (u 0), .ref (u 12), .ref (u 19), .int 0, .ref (u 34), .ref (u 35), .ref (u 36), .ref (u 37), .int 0].set 3 (.int 1))))).set 35 ((u 34), .inl (cI, 120, .inl (upd (fun _ => 0) (0 : Int32).toNatClampNeg 10)))).set 36 ((u 35), .inl (cI, 120, .inl (upd (fun _ => 0) (0 : Int32).toNatClampNeg 0)))).set 37 ((u 36), .inl (cI, 120, .inl (upd (fun _ => 0) (0 : Int32).toNatClampNeg (-1))))) ++ [(ao, .inl (cJ, 1, .inr (.inl (fun _ => 0))))])) := hD
              refine lv_istore (lv' := [(5, .int 2), (4, .int 0), (3, .ref ao), (2, .ref om), (1, .ref o), (0, .ref b)]) hx hb dL_law_1312 hl (by decide) rfl (fun ls hl => ?_)
              refine lv_aload_n hx hb dL_law_1314 rfl (lv_at hl 3 rfl) ?_
              refine lv_aload_n hx hb dL_law_1315 rfl (lv_at hl 5 rfl) ?_
              refine lv_iload hx hb dL_law_1316 (lv_at hl 1 rfl) ?_
              refine lv_iconst (v := 1) hx hb dL_law_1318 (by decide) ?_
              refine xiadd (v := 1) S dL_law_1319 (by decide) ?_
              refine xsld (v := x1) S hX hbl hbA hS (vin rfl) h1 dL_law_1320 ?_
              refine lv_aload_n hx hb dL_law_1321 rfl (lv_at hl 5 rfl) ?_
              refine lv_iload hx hb dL_law_1322 (lv_at hl 1 rfl) ?_
              refine lv_iconst (v := 2) hx hb dL_law_1324 (by decide) ?_
              refine xiadd (v := 2) S dL_law_1325 (by decide) ?_
              refine xsld (v := x2) S hX hbl hbA hS (vin rfl) h2 dL_law_1326 ?_
              refine lv_aload_n hx hb dL_law_1327 rfl (lv_at hl 5 rfl) ?_
              refine lv_iload hx hb dL_law_1328 (lv_at hl 1 rfl) ?_
              refine lv_iconst (v := 3) hx hb dL_law_1330 (by decide) ?_
              refine xiadd (v := 3) S dL_law_1331 (by decide) ?_
              refine xsld (v := x3) S hX hbl hbA hS (vin rfl) h3 dL_law_1332 ?_
              refine fVi [] ((((((((xW o u cI cZ cJ).set 0 (o, .inr (8, ((xF u).set 9 (.int 0))))).set 32 ((u 31), .inl (cZ, 10, .inl (upd (upd (upd (upd (upd (upd (upd (upd (upd (upd (fun _ => 0) (0 : Int32).toNatClampNeg 0) (1 : Int32).toNatClampNeg 0) (2 : Int32).toNatClampNeg 0) (3 : Int32).toNatClampNeg 0) (4 : Int32).toNatClampNeg 0) (5 : Int32).toNatClampNeg 0) (6 : Int32).toNatClampNeg 0) (7 : Int32).toNatClampNeg 0) (8 : Int32).toNatClampNeg 0) (9 : Int32).toNatClampNeg 0)))).set 34 ((u 33), .inr (2, ([.ref (u 0), .ref (u 12), .ref (u 19), .int 0, .ref (u 34), .ref (u 35), .ref (u 36), .ref (u 37), .int 0].set 3 (.int 1))))).set 35 ((u 34), .inl (cI, 120, .inl (upd (fun _ => 0) (0 : Int32).toNatClampNeg 10)))).set 36 ((u 35), .inl (cI, 120, .inl (upd (fun _ => 0) (0 : Int32).toNatClampNeg 0)))).set 37 ((u 36), .inl (cI, 120, .inl (upd (fun _ => 0) (0 : Int32).toNatClampNeg (-1))))) ++ [(ao, .inl (cJ, 1, .inr (.inl (fun _ => 0))))]) (mid := (mW om 0 q cI cZ)) (As := [.int x1, .int x2, .int x3]) (ci := 9) S (c_X9_wouldRun_6 l D cI cZ cJ om q H.size x1 x2 x3 lo_x1 hi_x1 lo_x2 hi_x2 lo_x3 hi_x3) mi_X9_wouldRun kw_9_36 rfl rfl ⟨Nat.le_of_ble_eq_true rfl, Nat.le_of_ble_eq_true rfl⟩ hP hD hK hS hA mW_0 rfl rfl hl.1 (Nat.le_of_ble_eq_true rfl) ⟨Nat.le_of_ble_eq_true rfl, Nat.le_of_ble_eq_true rfl⟩ dL_law_1333 (fun H locs hz hP hD hS => ?_)
              have hP : va_P D vwCl ((mW om 2 q cI cZ) ++ ((((((((xW o u cI cZ cJ).set 0 (o, .inr (8, ((xF u).set 9 (.int 0))))).set 32 ((u 31), .inl (cZ, 10, .inl (upd (upd (upd (upd (upd (upd (upd (upd (upd (upd (fun _ => 0) (0 : Int32).toNatClampNeg 0) (1 : Int32).toNatClampNeg 0) (2 : Int32).toNatClampNeg 0) (3 : Int32).toNatClampNeg 0) (4 : Int32).toNatClampNeg 0) (5 : Int32).toNatClampNeg 0) (6 : Int32).toNatClampNeg 0) (7 : Int32).toNatClampNeg 0) (8 : Int32).toNatClampNeg 0) (9 : Int32).toNatClampNeg 0)))).set 34 ((u 33), .inr (2, ([.ref (u 0), .ref (u 12), .ref (u 19), .int 0, .ref (u 34), .ref (u 35), .ref (u 36), .ref (u 37), .int 0].set 3 (.int 1))))).set 35 ((u 34), .inl (cI, 120, .inl (upd (fun _ => 0) (0 : Int32).toNatClampNeg 10)))).set 36 ((u 35), .inl (cI, 120, .inl (upd (fun _ => 0) (0 : Int32).toNatClampNeg 0)))).set 37 ((u 36), .inl (cI, 120, .inl (upd (fun _ => 0) (0 : Int32).toNatClampNeg (-1))))) ++ [(ao, .inl (cJ, 1, .inr (.inl (fun _ => 0))))])) H := hP
              have hD : va_D (fun q : Nat => s.heap.size ≤ q) ((mW om 2 q cI cZ) ++ ((((((((xW o u cI cZ cJ).set 0 (o, .inr (8, ((xF u).set 9 (.int 0))))).set 32 ((u 31), .inl (cZ, 10, .inl (upd (upd (upd (upd (upd (upd (upd (upd (upd (upd (fun _ => 0) (0 : Int32).toNatClampNeg 0) (1 : Int32).toNatClampNeg 0) (2 : Int32).toNatClampNeg 0) (3 : Int32).toNatClampNeg 0) (4 : Int32).toNatClampNeg 0) (5 : Int32).toNatClampNeg 0) (6 : Int32).toNatClampNeg 0) (7 : Int32).toNatClampNeg 0) (8 : Int32).toNatClampNeg 0) (9 : Int32).toNatClampNeg 0)))).set 34 ((u 33), .inr (2, ([.ref (u 0), .ref (u 12), .ref (u 19), .int 0, .ref (u 34), .ref (u 35), .ref (u 36), .ref (u 37), .int 0].set 3 (.int 1))))).set 35 ((u 34), .inl (cI, 120, .inl (upd (fun _ => 0) (0 : Int32).toNatClampNeg 10)))).set 36 ((u 35), .inl (cI, 120, .inl (upd (fun _ => 0) (0 : Int32).toNatClampNeg 0)))).set 37 ((u 36), .inl (cI, 120, .inl (upd (fun _ => 0) (0 : Int32).toNatClampNeg (-1))))) ++ [(ao, .inl (cJ, 1, .inr (.inl (fun _ => 0))))])) := hD
              refine lv_istore (lv' := [(6, .int 0), (5, .int 2), (4, .int 0), (3, .ref ao), (2, .ref om), (1, .ref o), (0, .ref b)]) hx hb dL_law_1336 hl (by decide) rfl (fun ls hl => ?_)
              refine lv_aload_n hx hb dL_law_1338 rfl (lv_at hl 4 rfl) ?_
              refine rdV (As := []) (ci := 9) S (c_X9_thrown_1 l D cI cZ cJ om q) mi_X9_thrown kw_7_89 ⟨rfl, rfl⟩ ⟨Nat.le_of_ble_eq_true rfl, Nat.le_of_ble_eq_true rfl⟩ (va_Pl (ws := (mW om 2 q cI cZ)) (x := ((((((((xW o u cI cZ cJ).set 0 (o, .inr (8, ((xF u).set 9 (.int 0))))).set 32 ((u 31), .inl (cZ, 10, .inl (upd (upd (upd (upd (upd (upd (upd (upd (upd (upd (fun _ => 0) (0 : Int32).toNatClampNeg 0) (1 : Int32).toNatClampNeg 0) (2 : Int32).toNatClampNeg 0) (3 : Int32).toNatClampNeg 0) (4 : Int32).toNatClampNeg 0) (5 : Int32).toNatClampNeg 0) (6 : Int32).toNatClampNeg 0) (7 : Int32).toNatClampNeg 0) (8 : Int32).toNatClampNeg 0) (9 : Int32).toNatClampNeg 0)))).set 34 ((u 33), .inr (2, ([.ref (u 0), .ref (u 12), .ref (u 19), .int 0, .ref (u 34), .ref (u 35), .ref (u 36), .ref (u 37), .int 0].set 3 (.int 1))))).set 35 ((u 34), .inl (cI, 120, .inl (upd (fun _ => 0) (0 : Int32).toNatClampNeg 10)))).set 36 ((u 35), .inl (cI, 120, .inl (upd (fun _ => 0) (0 : Int32).toNatClampNeg 0)))).set 37 ((u 36), .inl (cI, 120, .inl (upd (fun _ => 0) (0 : Int32).toNatClampNeg (-1))))) ++ [(ao, .inl (cJ, 1, .inr (.inl (fun _ => 0))))])) hP) hK mW_0 rfl rfl hl.1 (Nat.le_of_ble_eq_true rfl) ⟨Nat.le_of_ble_eq_true rfl, Nat.le_of_ble_eq_true rfl⟩ dL_law_1339 ?_
              refine lv_iload hx hb dL_law_1342 (lv_at hl 1 rfl) ?_
              refine lv_icmp_eq (tgt := 1349) hx hb dL_law_1344 (by decide) (fun _ => ?_) (fun c => absurd c (by decide))
              refine lv_iload hx hb dL_law_1349 (lv_at hl 1 rfl) ?_
              refine lv_if_ne (tgt := 1366) hx hb dL_law_1351 (by decide) (fun _ => ?_) (fun c => absurd c (by decide))
              refine lv_goto (tgt := 1519) hx hb dL_law_1366 (by decide) ?_
              exact law_tail (cells := 122) (slots := 13075) S hr hlocks hX hbl (lv_sub hl [2, 6] rfl) hS (Nat.le_of_ble_eq_true rfl) (Nat.le_of_ble_eq_true rfl)
