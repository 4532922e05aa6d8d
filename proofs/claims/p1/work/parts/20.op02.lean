set_option maxHeartbeats 8000000 in
set_option maxRecDepth 100000 in
theorem law_2 (l : Launch) (hst : l.stackTraces = false) (D : va_G) (cI cZ cJ : ClassId) {p : Program} {e : Env} {s : State} {m : MethodId} {below : List Frame} {meth : Method} {c : Code} {b : Nat} {xs : Nat → Int32} (S : CallFix p m c cL_law 9 s #[Value.ref b] uG RL) (hr : meth.sig.returnType = ret) (hlocks : meth.locks = false) (hX : va_X b 5 xs s s.heap) (hbl : b < s.heap.size) (hK : va_K D vwCl (tyL cI cZ cJ) s) (ra ga : Nat → Nat) (hB : amb ra ga (fun q => s.heap.size ≤ q) s s.heap) (hC : ambC s) (x1 x2 x3 x4 : Int32) (h1 : xs 1 = x1) (h2 : xs 2 = x2) (h3 : xs 3 = x3) (h4 : xs 4 = x4) (o om ao : Nat) (u q : Nat → Nat) (ls : Array Slot) (H : Heap) (locs : List Loc) (hl : lv_has ls 9 [(4, .int 0), (3, .ref ao), (2, .ref om), (1, .ref o), (0, .ref b)]) (hP : va_P D vwCl ((mW om 0 q cI cZ) ++ ((xW o u cI cZ cJ) ++ [(ao, .inl (cJ, 1, .inr (.inl (fun _ => 0))))])) H) (hD : va_D (fun q => s.heap.size ≤ q) ((mW om 0 q cI cZ) ++ ((xW o u cI cZ cJ) ++ [(ao, .inl (cJ, 1, .inr (.inl (fun _ => 0))))]))) (hS : va_S (fun q => s.heap.size ≤ q) s.heap H locs) : W p l e room_1 s m #[Value.ref b] below meth c H locs 120 12958 (lw_Z below #[Value.ref b] s) (F0 m 284 ls []) := by
  have hx := S.1
  have hb := S.2.1
  have hA : ∀ q : Nat, s.heap.size ≤ q → (fun q : Nat => s.heap.size ≤ q) q := fun _ h => h
  have hbA : ¬ (fun q : Nat => s.heap.size ≤ q) b := Nat.not_le.mpr hbl
  refine lv_aload_n hx hb dL_law_284 rfl (lv_at hl 3 rfl) ?_
  refine lv_aload_n hx hb dL_law_285 rfl (lv_at hl 4 rfl) ?_
  refine lv_iload hx hb dL_law_286 (lv_at hl 0 rfl) ?_
  refine lv_iconst (v := 1) hx hb dL_law_288 (by decide) ?_
  refine xiadd (v := 1) S dL_law_289 (by decide) ?_
  refine xsld (v := x1) S hX hbl hbA hS (vin rfl) h1 dL_law_290 ?_
  refine lv_aload_n hx hb dL_law_291 rfl (lv_at hl 4 rfl) ?_
  refine lv_iload hx hb dL_law_292 (lv_at hl 0 rfl) ?_
  refine lv_iconst (v := 2) hx hb dL_law_294 (by decide) ?_
  refine xiadd (v := 2) S dL_law_295 (by decide) ?_
  refine xsld (v := x2) S hX hbl hbA hS (vin rfl) h2 dL_law_296 ?_
  refine lv_aload_n hx hb dL_law_297 rfl (lv_at hl 4 rfl) ?_
  refine lv_iload hx hb dL_law_298 (lv_at hl 0 rfl) ?_
  refine lv_iconst (v := 3) hx hb dL_law_300 (by decide) ?_
  refine xiadd (v := 3) S dL_law_301 (by decide) ?_
  refine xsld (v := x3) S hX hbl hbA hS (vin rfl) h3 dL_law_302 ?_
  refine lv_aload_n hx hb dL_law_303 rfl (lv_at hl 4 rfl) ?_
  refine lv_iload hx hb dL_law_304 (lv_at hl 0 rfl) ?_
  refine lv_iconst (v := 4) hx hb dL_law_306 (by decide) ?_
  refine xiadd (v := 4) S dL_law_307 (by decide) ?_
  refine xsld (v := x4) S hX hbl hbA hS (vin rfl) h4 dL_law_308 ?_
  refine lv_aload_n hx hb dL_law_309 rfl (lv_at hl 1 rfl) ?_
  by_cases d_310 : x1 < 0
  · have hi_x1 : x1 ≤ (-1) := u_lt d_310 (by decide)
    refine wrap (mW om 0 q cI cZ) (mid := ((xW o u cI cZ cJ) ++ [(ao, .inl (cJ, 1, .inr (.inl (fun _ => 0))))])) (As := [.ref o, .int x1, .int x2, .int x3, .int x4, .ref ao]) S (h_variable_0 l D cI cZ cJ o u ao hst ra ga H.size x1 x2 x3 x4 hi_x1) msh_L_variable kw_5_229 rfl rfl ⟨Nat.le_of_ble_eq_true rfl, Nat.le_of_ble_eq_true rfl⟩ hP hD hK hS hA hB hC hl.1 (Nat.le_of_ble_eq_true rfl) ⟨Nat.le_of_ble_eq_true rfl, Nat.le_of_ble_eq_true rfl⟩ dL_law_310 (fun H locs hz hP hD hS => ?_)
    have hP : va_P D vwCl ((mW om 0 q cI cZ) ++ ((xW o u cI cZ cJ) ++ [(ao, .inl (cJ, 1, .inr (.inl (fun _ => 0))))])) H := hP
    have hD : va_D (fun q : Nat => s.heap.size ≤ q) ((mW om 0 q cI cZ) ++ ((xW o u cI cZ cJ) ++ [(ao, .inl (cJ, 1, .inr (.inl (fun _ => 0))))])) := hD
    refine lv_istore (lv' := [(5, .int 1), (4, .int 0), (3, .ref ao), (2, .ref om), (1, .ref o), (0, .ref b)]) hx hb dL_law_313 hl (by decide) rfl (fun ls hl => ?_)
    refine lv_aload_n hx hb dL_law_315 rfl (lv_at hl 3 rfl) ?_
    refine lv_aload_n hx hb dL_law_316 rfl (lv_at hl 5 rfl) ?_
    refine lv_iload hx hb dL_law_317 (lv_at hl 1 rfl) ?_
    refine lv_iconst (v := 1) hx hb dL_law_319 (by decide) ?_
    refine xiadd (v := 1) S dL_law_320 (by decide) ?_
    refine xsld (v := x1) S hX hbl hbA hS (vin rfl) h1 dL_law_321 ?_
    refine lv_aload_n hx hb dL_law_322 rfl (lv_at hl 5 rfl) ?_
    refine lv_iload hx hb dL_law_323 (lv_at hl 1 rfl) ?_
    refine lv_iconst (v := 2) hx hb dL_law_325 (by decide) ?_
    refine xiadd (v := 2) S dL_law_326 (by decide) ?_
    refine xsld (v := x2) S hX hbl hbA hS (vin rfl) h2 dL_law_327 ?_
    refine lv_aload_n hx hb dL_law_328 rfl (lv_at hl 5 rfl) ?_
    refine lv_iload hx hb dL_law_329 (lv_at hl 1 rfl) ?_
    refine lv_iconst (v := 3) hx hb dL_law_331 (by decide) ?_
    refine xiadd (v := 3) S dL_law_332 (by decide) ?_
    refine xsld (v := x3) S hX hbl hbA hS (vin rfl) h3 dL_law_333 ?_
    refine lv_aload_n hx hb dL_law_334 rfl (lv_at hl 5 rfl) ?_
    refine lv_iload hx hb dL_law_335 (lv_at hl 1 rfl) ?_
    refine lv_iconst (v := 4) hx hb dL_law_337 (by decide) ?_
    refine xiadd (v := 4) S dL_law_338 (by decide) ?_
    refine xsld (v := x4) S hX hbl hbA hS (vin rfl) h4 dL_law_339 ?_
    refine fVi [] ((xW o u cI cZ cJ) ++ [(ao, .inl (cJ, 1, .inr (.inl (fun _ => 0))))]) (mid := (mW om 0 q cI cZ)) (As := [.int x1, .int x2, .int x3, .int x4]) (ci := 9) S (c_X9_variable_0 l D cI cZ cJ om q H.size x1 x2 x3 x4 hi_x1) mi_X9_variable kw_7_123 rfl rfl ⟨Nat.le_of_ble_eq_true rfl, Nat.le_of_ble_eq_true rfl⟩ hP hD hK hS hA mW_0 rfl rfl hl.1 (Nat.le_of_ble_eq_true rfl) ⟨Nat.le_of_ble_eq_true rfl, Nat.le_of_ble_eq_true rfl⟩ dL_law_340 (fun H locs hz hP hD hS => ?_)
    have hP : va_P D vwCl ((mW om 1 q cI cZ) ++ ((xW o u cI cZ cJ) ++ [(ao, .inl (cJ, 1, .inr (.inl (fun _ => 0))))])) H := hP
    have hD : va_D (fun q : Nat => s.heap.size ≤ q) ((mW om 1 q cI cZ) ++ ((xW o u cI cZ cJ) ++ [(ao, .inl (cJ, 1, .inr (.inl (fun _ => 0))))])) := hD
    refine lv_istore (lv' := [(6, .int 0), (5, .int 1), (4, .int 0), (3, .ref ao), (2, .ref om), (1, .ref o), (0, .ref b)]) hx hb dL_law_343 hl (by decide) rfl (fun ls hl => ?_)
    refine lv_aload_n hx hb dL_law_345 rfl (lv_at hl 4 rfl) ?_
    refine rdV (As := []) (ci := 9) S (c_X9_thrown_0 l D cI cZ cJ om q) mi_X9_thrown kw_7_89 ⟨rfl, rfl⟩ ⟨Nat.le_of_ble_eq_true rfl, Nat.le_of_ble_eq_true rfl⟩ (va_Pl (ws := (mW om 1 q cI cZ)) (x := ((xW o u cI cZ cJ) ++ [(ao, .inl (cJ, 1, .inr (.inl (fun _ => 0))))])) hP) hK mW_0 rfl rfl hl.1 (Nat.le_of_ble_eq_true rfl) ⟨Nat.le_of_ble_eq_true rfl, Nat.le_of_ble_eq_true rfl⟩ dL_law_346 ?_
    refine lv_iload hx hb dL_law_349 (lv_at hl 1 rfl) ?_
    refine lv_icmp_eq (tgt := 356) hx hb dL_law_351 (by decide) (fun _ => ?_) (fun c => absurd c (by decide))
    refine lv_iload hx hb dL_law_356 (lv_at hl 1 rfl) ?_
    refine lv_if_ne (tgt := 373) hx hb dL_law_358 (by decide) (fun _ => ?_) (fun c => absurd c (by decide))
    refine lv_goto (tgt := 1519) hx hb dL_law_373 (by decide) ?_
    exact law_tail (cells := 121) (slots := 12964) S hr hlocks hX hbl (lv_sub hl [2, 6] rfl) hS (Nat.le_of_ble_eq_true rfl) (Nat.le_of_ble_eq_true rfl)
  · have lo_x1 : 0 ≤ x1 := l_nlt d_310
    by_cases d_310 : 1 ≤ x1
    · have lo_x1 : 1 ≤ x1 := d_310
      refine wrap (mW om 0 q cI cZ) (mid := ((xW o u cI cZ cJ) ++ [(ao, .inl (cJ, 1, .inr (.inl (fun _ => 0))))])) (As := [.ref o, .int x1, .int x2, .int x3, .int x4, .ref ao]) S (h_variable_1 l D cI cZ cJ o u ao hst ra ga H.size x1 x2 x3 x4 lo_x1) msh_L_variable kw_5_229 rfl rfl ⟨Nat.le_of_ble_eq_true rfl, Nat.le_of_ble_eq_true rfl⟩ hP hD hK hS hA hB hC hl.1 (Nat.le_of_ble_eq_true rfl) ⟨Nat.le_of_ble_eq_true rfl, Nat.le_of_ble_eq_true rfl⟩ dL_law_310 (fun H locs hz hP hD hS => ?_)
      have hP : va_P D vwCl ((mW om 0 q cI cZ) ++ ((xW o u cI cZ cJ) ++ [(ao, .inl (cJ, 1, .inr (.inl (fun _ => 0))))])) H := hP
      have hD : va_D (fun q : Nat => s.heap.size ≤ q) ((mW om 0 q cI cZ) ++ ((xW o u cI cZ cJ) ++ [(ao, .inl (cJ, 1, .inr (.inl (fun _ => 0))))])) := hD
      refine lv_istore (lv' := [(5, .int 1), (4, .int 0), (3, .ref ao), (2, .ref om), (1, .ref o), (0, .ref b)]) hx hb dL_law_313 hl (by decide) rfl (fun ls hl => ?_)
      refine lv_aload_n hx hb dL_law_315 rfl (lv_at hl 3 rfl) ?_
      refine lv_aload_n hx hb dL_law_316 rfl (lv_at hl 5 rfl) ?_
      refine lv_iload hx hb dL_law_317 (lv_at hl 1 rfl) ?_
      refine lv_iconst (v := 1) hx hb dL_law_319 (by decide) ?_
      refine xiadd (v := 1) S dL_law_320 (by decide) ?_
      refine xsld (v := x1) S hX hbl hbA hS (vin rfl) h1 dL_law_321 ?_
      refine lv_aload_n hx hb dL_law_322 rfl (lv_at hl 5 rfl) ?_
      refine lv_iload hx hb dL_law_323 (lv_at hl 1 rfl) ?_
      refine lv_iconst (v := 2) hx hb dL_law_325 (by decide) ?_
      refine xiadd (v := 2) S dL_law_326 (by decide) ?_
      refine xsld (v := x2) S hX hbl hbA hS (vin rfl) h2 dL_law_327 ?_
      refine lv_aload_n hx hb dL_law_328 rfl (lv_at hl 5 rfl) ?_
      refine lv_iload hx hb dL_law_329 (lv_at hl 1 rfl) ?_
      refine lv_iconst (v := 3) hx hb dL_law_331 (by decide) ?_
      refine xiadd (v := 3) S dL_law_332 (by decide) ?_
      refine xsld (v := x3) S hX hbl hbA hS (vin rfl) h3 dL_law_333 ?_
      refine lv_aload_n hx hb dL_law_334 rfl (lv_at hl 5 rfl) ?_
      refine lv_iload hx hb dL_law_335 (lv_at hl 1 rfl) ?_
      refine lv_iconst (v := 4) hx hb dL_law_337 (by decide) ?_
      refine xiadd (v := 4) S dL_law_338 (by decide) ?_
      refine xsld (v := x4) S hX hbl hbA hS (vin rfl) h4 dL_law_339 ?_
      refine fVi [] ((xW o u cI cZ cJ) ++ [(ao, .inl (cJ, 1, .inr (.inl (fun _ => 0))))]) (mid := (mW om 0 q cI cZ)) (As := [.int x1, .int x2, .int x3, .int x4]) (ci := 9) S (c_X9_variable_1 l D cI cZ cJ om q H.size x1 x2 x3 x4 lo_x1) mi_X9_variable kw_7_123 rfl rfl ⟨Nat.le_of_ble_eq_true rfl, Nat.le_of_ble_eq_true rfl⟩ hP hD hK hS hA mW_0 rfl rfl hl.1 (Nat.le_of_ble_eq_true rfl) ⟨Nat.le_of_ble_eq_true rfl, Nat.le_of_ble_eq_true rfl⟩ dL_law_340 (fun H locs hz hP hD hS => ?_)
      have hP : va_P D vwCl ((mW om 1 q cI cZ) ++ ((xW o u cI cZ cJ) ++ [(ao, .inl (cJ, 1, .inr (.inl (fun _ => 0))))])) H := hP
      have hD : va_D (fun q : Nat => s.heap.size ≤ q) ((mW om 1 q cI cZ) ++ ((xW o u cI cZ cJ) ++ [(ao, .inl (cJ, 1, .inr (.inl (fun _ => 0))))])) := hD
      refine lv_istore (lv' := [(6, .int 0), (5, .int 1), (4, .int 0), (3, .ref ao), (2, .ref om), (1, .ref o), (0, .ref b)]) hx hb dL_law_343 hl (by decide) rfl (fun ls hl => ?_)
      refine lv_aload_n hx hb dL_law_345 rfl (lv_at hl 4 rfl) ?_
      refine rdV (As := []) (ci := 9) S (c_X9_thrown_0 l D cI cZ cJ om q) mi_X9_thrown kw_7_89 ⟨rfl, rfl⟩ ⟨Nat.le_of_ble_eq_true rfl, Nat.le_of_ble_eq_true rfl⟩ (va_Pl (ws := (mW om 1 q cI cZ)) (x := ((xW o u cI cZ cJ) ++ [(ao, .inl (cJ, 1, .inr (.inl (fun _ => 0))))])) hP) hK mW_0 rfl rfl hl.1 (Nat.le_of_ble_eq_true rfl) ⟨Nat.le_of_ble_eq_true rfl, Nat.le_of_ble_eq_true rfl⟩ dL_law_346 ?_
      refine lv_iload hx hb dL_law_349 (lv_at hl 1 rfl) ?_
      refine lv_icmp_eq (tgt := 356) hx hb dL_law_351 (by decide) (fun _ => ?_) (fun c => absurd c (by decide))
      refine lv_iload hx hb dL_law_356 (lv_at hl 1 rfl) ?_
      refine lv_if_ne (tgt := 373) hx hb dL_law_358 (by decide) (fun _ => ?_) (fun c => absurd c (by decide))
      refine lv_goto (tgt := 1519) hx hb dL_law_373 (by decide) ?_
      exact law_tail (cells := 121) (slots := 12964) S hr hlocks hX hbl (lv_sub hl [2, 6] rfl) hS (Nat.le_of_ble_eq_true rfl) (Nat.le_of_ble_eq_true rfl)
    · have hi_x1 : x1 ≤ 0 := u_nge d_310 (by decide)
      have e_x1 : x1 = 0 := b_eq lo_x1 hi_x1
      subst e_x1
      by_cases d_310 : x2 < 0
      · have hi_x2 : x2 ≤ (-1) := u_lt d_310 (by decide)
        refine wrap (mW om 0 q cI cZ) (mid := ((xW o u cI cZ cJ) ++ [(ao, .inl (cJ, 1, .inr (.inl (fun _ => 0))))])) (As := [.ref o, .int 0, .int x2, .int x3, .int x4, .ref ao]) S (h_variable_2 l D cI cZ cJ o u ao hst ra ga H.size x2 x3 x4 hi_x2) msh_L_variable kw_5_229 rfl rfl ⟨Nat.le_of_ble_eq_true rfl, Nat.le_of_ble_eq_true rfl⟩ hP hD hK hS hA hB hC hl.1 (Nat.le_of_ble_eq_true rfl) ⟨Nat.le_of_ble_eq_true rfl, Nat.le_of_ble_eq_true rfl⟩ dL_law_310 (fun H locs hz hP hD hS => ?_)
        have hP : va_P D vwCl ((mW om 0 q cI cZ) ++ ((xW o u cI cZ cJ) ++ [(ao, .inl (cJ, 1, .inr (.inl (fun _ => 0))))])) H := hP
        have hD : va_D (fun q : Nat => s.heap.size ≤ q) ((mW om 0 q cI cZ) ++ ((xW o u cI cZ cJ) ++ [(ao, .inl (cJ, 1, .inr (.inl (fun _ => 0))))])) := hD
        refine lv_istore (lv' := [(5, .int 2), (4, .int 0), (3, .ref ao), (2, .ref om), (1, .ref o), (0, .ref b)]) hx hb dL_law_313 hl (by decide) rfl (fun ls hl => ?_)
        refine lv_aload_n hx hb dL_law_315 rfl (lv_at hl 3 rfl) ?_
        refine lv_aload_n hx hb dL_law_316 rfl (lv_at hl 5 rfl) ?_
        refine lv_iload hx hb dL_law_317 (lv_at hl 1 rfl) ?_
        refine lv_iconst (v := 1) hx hb dL_law_319 (by decide) ?_
        refine xiadd (v := 1) S dL_law_320 (by decide) ?_
        refine xsld (v := 0) S hX hbl hbA hS (vin rfl) h1 dL_law_321 ?_
        refine lv_aload_n hx hb dL_law_322 rfl (lv_at hl 5 rfl) ?_
        refine lv_iload hx hb dL_law_323 (lv_at hl 1 rfl) ?_
        refine lv_iconst (v := 2) hx hb dL_law_325 (by decide) ?_
        refine xiadd (v := 2) S dL_law_326 (by decide) ?_
        refine xsld (v := x2) S hX hbl hbA hS (vin rfl) h2 dL_law_327 ?_
        refine lv_aload_n hx hb dL_law_328 rfl (lv_at hl 5 rfl) ?_
        refine lv_iload hx hb dL_law_329 (lv_at hl 1 rfl) ?_
        refine lv_iconst (v := 3) hx hb dL_law_331 (by decide) ?_
        refine xiadd (v := 3) S dL_law_332 (by decide) ?_
        refine xsld (v := x3) S hX hbl hbA hS (vin rfl) h3 dL_law_333 ?_
        refine lv_aload_n hx hb dL_law_334 rfl (lv_at hl 5 rfl) ?_
        refine lv_iload hx hb dL_law_335 (lv_at hl 1 rfl) ?_
        refine lv_iconst (v := 4) hx hb dL_law_337 (by decide) ?_
        refine xiadd (v := 4) S dL_law_338 (by decide) ?_
        refine xsld (v := x4) S hX hbl hbA hS (vin rfl) h4 dL_law_339 ?_
        refine fVi [] ((xW o u cI cZ cJ) ++ [(ao, .inl (cJ, 1, .inr (.inl (fun _ => 0))))]) (mid := (mW om 0 q cI cZ)) (As := [.int 0, .int x2, .int x3, .int x4]) (ci := 9) S (c_X9_variable_2 l D cI cZ cJ om q H.size x2 x3 x4 hi_x2) mi_X9_variable kw_7_123 rfl rfl ⟨Nat.le_of_ble_eq_true rfl, Nat.le_of_ble_eq_true rfl⟩ hP hD hK hS hA mW_0 rfl rfl hl.1 (Nat.le_of_ble_eq_true rfl) ⟨Nat.le_of_ble_eq_true rfl, Nat.le_of_ble_eq_true rfl⟩ dL_law_340 (fun H locs hz hP hD hS => ?_)
        have hP : va_P D vwCl ((mW om 2 q cI cZ) ++ ((xW o u cI cZ cJ) ++ [(ao, .inl (cJ, 1, .inr (.inl (fun _ => 0))))])) H := hP
        have hD : va_D (fun q : Nat => s.heap.size ≤ q) ((mW om 2 q cI cZ) ++ ((xW o u cI cZ cJ) ++ [(ao, .inl (cJ, 1, .inr (.inl (fun _ => 0))))])) := hD
        refine lv_istore (lv' := [(6, .int 0), (5, .int 2), (4, .int 0), (3, .ref ao), (2, .ref om), (1, .ref o), (0, .ref b)]) hx hb dL_law_343 hl (by decide) rfl (fun ls hl => ?_)
        refine lv_aload_n hx hb dL_law_345 rfl (lv_at hl 4 rfl) ?_
        refine rdV (As := []) (ci := 9) S (c_X9_thrown_1 l D cI cZ cJ om q) mi_X9_thrown kw_7_89 ⟨rfl, rfl⟩ ⟨Nat.le_of_ble_eq_true rfl, Nat.le_of_ble_eq_true rfl⟩ (va_Pl (ws := (mW om 2 q cI cZ)) (x := ((xW o u cI cZ cJ) ++ [(ao, .inl (cJ, 1, .inr (.inl (fun _ => 0))))])) hP) hK mW_0 rfl rfl hl.1 (Nat.le_of_ble_eq_true rfl) ⟨Nat.le_of_ble_eq_true rfl, Nat.le_of_ble_eq_true rfl⟩ dL_law_346 ?_
        refine lv_iload hx hb dL_law_349 (lv_at hl 1 rfl) ?_
        refine lv_icmp_eq (tgt := 356) hx hb dL_law_351 (by decide) (fun _ => ?_) (fun c => absurd c (by decide))
        refine lv_iload hx hb dL_law_356 (lv_at hl 1 rfl) ?_
        refine lv_if_ne (tgt := 373) hx hb dL_law_358 (by decide) (fun _ => ?_) (fun c => absurd c (by decide))
        refine lv_goto (tgt := 1519) hx hb dL_law_373 (by decide) ?_
        exact law_tail (cells := 121) (slots := 12964) S hr hlocks hX hbl (lv_sub hl [2, 6] rfl) hS (Nat.le_of_ble_eq_true rfl) (Nat.le_of_ble_eq_true rfl)
      · have lo_x2 : 0 ≤ x2 := l_nlt d_310
        by_cases d_310 : 16 ≤ x2
        · have lo_x2 : 16 ≤ x2 := d_310
          refine wrap (mW om 0 q cI cZ) (mid := ((xW o u cI cZ cJ) ++ [(ao, .inl (cJ, 1, .inr (.inl (fun _ => 0))))])) (As := [.ref o, .int 0, .int x2, .int x3, .int x4, .ref ao]) S (h_variable_3 l D cI cZ cJ o u ao hst ra ga H.size x2 x3 x4 lo_x2) msh_L_variable kw_5_229 rfl rfl ⟨Nat.le_of_ble_eq_true rfl, Nat.le_of_ble_eq_true rfl⟩ hP hD hK hS hA hB hC hl.1 (Nat.le_of_ble_eq_true rfl) ⟨Nat.le_of_ble_eq_true rfl, Nat.le_of_ble_eq_true rfl⟩ dL_law_310 (fun H locs hz hP hD hS => ?_)
          have hP : va_P D vwCl ((mW om 0 q cI cZ) ++ ((xW o u cI cZ cJ) ++ [(ao, .inl (cJ, 1, .inr (.inl (fun _ => 0))))])) H := hP
          have hD : va_D (fun q : Nat => s.heap.size ≤ q) ((mW om 0 q cI cZ) ++ ((xW o u cI cZ cJ) ++ [(ao, .inl (cJ, 1, .inr (.inl (fun _ => 0))))])) := hD
          refine lv_istore (lv' := [(5, .int 2), (4, .int 0), (3, .ref ao), (2, .ref om), (1, .ref o), (0, .ref b)]) hx hb dL_law_313 hl (by decide) rfl (fun ls hl => ?_)
          refine lv_aload_n hx hb dL_law_315 rfl (lv_at hl 3 rfl) ?_
          refine lv_aload_n hx hb dL_law_316 rfl (lv_at hl 5 rfl) ?_
          refine lv_iload hx hb dL_law_317 (lv_at hl 1 rfl) ?_
          refine lv_iconst (v := 1) hx hb dL_law_319 (by decide) ?_
          refine xiadd (v := 1) S dL_law_320 (by decide) ?_
          refine xsld (v := 0) S hX hbl hbA hS (vin rfl) h1 dL_law_321 ?_
          refine lv_aload_n hx hb dL_law_322 rfl (lv_at hl 5 rfl) ?_
          refine lv_iload hx hb dL_law_323 (lv_at hl 1 rfl) ?_
          refine lv_iconst (v := 2) hx hb dL_law_325 (by decide) ?_
          refine xiadd (v := 2) S dL_law_326 (by decide) ?_
          refine xsld (v := x2) S hX hbl hbA hS (vin rfl) h2 dL_law_327 ?_
          refine lv_aload_n hx hb dL_law_328 rfl (lv_at hl 5 rfl) ?_
          refine lv_iload hx hb dL_law_329 (lv_at hl 1 rfl) ?_
          refine lv_iconst (v := 3) hx hb dL_law_331 (by decide) ?_
          refine xiadd (v := 3) S dL_law_332 (by decide) ?_
          refine xsld (v := x3) S hX hbl hbA hS (vin rfl) h3 dL_law_333 ?_
          refine lv_aload_n hx hb dL_law_334 rfl (lv_at hl 5 rfl) ?_
          refine lv_iload hx hb dL_law_335 (lv_at hl 1 rfl) ?_
          refine lv_iconst (v := 4) hx hb dL_law_337 (by decide) ?_
          refine xiadd (v := 4) S dL_law_338 (by decide) ?_
          refine xsld (v := x4) S hX hbl hbA hS (vin rfl) h4 dL_law_339 ?_
          refine fVi [] ((xW o u cI cZ cJ) ++ [(ao, .inl (cJ, 1, .inr (.inl (fun _ => 0))))]) (mid := (mW om 0 q cI cZ)) (As := [.int 0, .int x2, .int x3, .int x4]) (ci := 9) S (c_X9_variable_3 l D cI cZ cJ om q H.size x2 x3 x4 lo_x2) mi_X9_variable kw_7_123 rfl rfl ⟨Nat.le_of_ble_eq_true rfl, Nat.le_of_ble_eq_true rfl⟩ hP hD hK hS hA mW_0 rfl rfl hl.1 (Nat.le_of_ble_eq_true rfl) ⟨Nat.le_of_ble_eq_true rfl, Nat.le_of_ble_eq_true rfl⟩ dL_law_340 (fun H locs hz hP hD hS => ?_)
          have hP : va_P D vwCl ((mW om 2 q cI cZ) ++ ((xW o u cI cZ cJ) ++ [(ao, .inl (cJ, 1, .inr (.inl (fun _ => 0))))])) H := hP
          have hD : va_D (fun q : Nat => s.heap.size ≤ q) ((mW om 2 q cI cZ) ++ ((xW o u cI cZ cJ) ++ [(ao, .inl (cJ, 1, .inr (.inl (fun _ => 0))))])) := hD
          refine lv_istore (lv' := [(6, .int 0), (5, .int 2), (4, .int 0), (3, .ref ao), (2, .ref om), (1, .ref o), (0, .ref b)]) hx hb dL_law_343 hl (by decide) rfl (fun ls hl => ?_)
          refine lv_aload_n hx hb dL_law_345 rfl (lv_at hl 4 rfl) ?_
          refine rdV (As := []) (ci := 9) S (c_X9_thrown_1 l D cI cZ cJ om q) mi_X9_thrown kw_7_89 ⟨rfl, rfl⟩ ⟨Nat.le_of_ble_eq_true rfl, Nat.le_of_ble_eq_true rfl⟩ (va_Pl (ws := (mW om 2 q cI cZ)) (x := ((xW o u cI cZ cJ) ++ [(ao, .inl (cJ, 1, .inr (.inl (fun _ => 0))))])) hP) hK mW_0 rfl rfl hl.1 (Nat.le_of_ble_eq_true rfl) ⟨Nat.le_of_ble_eq_true rfl, Nat.le_of_ble_eq_true rfl⟩ dL_law_346 ?_
          refine lv_iload hx hb dL_law_349 (lv_at hl 1 rfl) ?_
          refine lv_icmp_eq (tgt := 356) hx hb dL_law_351 (by decide) (fun _ => ?_) (fun c => absurd c (by decide))
          refine lv_iload hx hb dL_law_356 (lv_at hl 1 rfl) ?_
          refine lv_if_ne (tgt := 373) hx hb dL_law_358 (by decide) (fun _ => ?_) (fun c => absurd c (by decide))
          refine lv_goto (tgt := 1519) hx hb dL_law_373 (by decide) ?_
          exact law_tail (cells := 121) (slots := 12964) S hr hlocks hX hbl (lv_sub hl [2, 6] rfl) hS (Nat.le_of_ble_eq_true rfl) (Nat.le_of_ble_eq_true rfl)
        · have hi_x2 : x2 ≤ 15 := u_nge d_310 (by decide)
          by_cases d_310 : x3 < 0
          · have hi_x3 : x3 ≤ (-1) := u_lt d_310 (by decide)
            refine wrap (mW om 0 q cI cZ) (mid := ((xW o u cI cZ cJ) ++ [(ao, .inl (cJ, 1, .inr (.inl (fun _ => 0))))])) (As := [.ref o, .int 0, .int x2, .int x3, .int x4, .ref ao]) S (h_variable_4 l D cI cZ cJ o u ao hst ra ga H.size x2 x3 x4 lo_x2 hi_x2 hi_x3) msh_L_variable kw_5_229 rfl rfl ⟨Nat.le_of_ble_eq_true rfl, Nat.le_of_ble_eq_true rfl⟩ hP hD hK hS hA hB hC hl.1 (Nat.le_of_ble_eq_true rfl) ⟨Nat.le_of_ble_eq_true rfl, Nat.le_of_ble_eq_true rfl⟩ dL_law_310 (fun H locs hz hP hD hS => ?_)
            have hP : va_P D vwCl ((mW om 0 q cI cZ) ++ ((xW o u cI cZ cJ) ++ [(ao, .inl (cJ, 1, .inr (.inl (fun _ => 0))))])) H := hP
            have hD : va_D (fun q : Nat => s.heap.size ≤ q) ((mW om 0 q cI cZ) ++ ((xW o u cI cZ cJ) ++ [(ao, .inl (cJ, 1, .inr (.inl (fun _ => 0))))])) := hD
            refine lv_istore (lv' := [(5, .int 2), (4, .int 0), (3, .ref ao), (2, .ref om), (1, .ref o), (0, .ref b)]) hx hb dL_law_313 hl (by decide) rfl (fun ls hl => ?_)
            refine lv_aload_n hx hb dL_law_315 rfl (lv_at hl 3 rfl) ?_
            refine lv_aload_n hx hb dL_law_316 rfl (lv_at hl 5 rfl) ?_
            refine lv_iload hx hb dL_law_317 (lv_at hl 1 rfl) ?_
            refine lv_iconst (v := 1) hx hb dL_law_319 (by decide) ?_
            refine xiadd (v := 1) S dL_law_320 (by decide) ?_
            refine xsld (v := 0) S hX hbl hbA hS (vin rfl) h1 dL_law_321 ?_
            refine lv_aload_n hx hb dL_law_322 rfl (lv_at hl 5 rfl) ?_
            refine lv_iload hx hb dL_law_323 (lv_at hl 1 rfl) ?_
            refine lv_iconst (v := 2) hx hb dL_law_325 (by decide) ?_
            refine xiadd (v := 2) S dL_law_326 (by decide) ?_
            refine xsld (v := x2) S hX hbl hbA hS (vin rfl) h2 dL_law_327 ?_
            refine lv_aload_n hx hb dL_law_328 rfl (lv_at hl 5 rfl) ?_
            refine lv_iload hx hb dL_law_329 (lv_at hl 1 rfl) ?_
            refine lv_iconst (v := 3) hx hb dL_law_331 (by decide) ?_
            refine xiadd (v := 3) S dL_law_332 (by decide) ?_
            refine xsld (v := x3) S hX hbl hbA hS (vin rfl) h3 dL_law_333 ?_
            refine lv_aload_n hx hb dL_law_334 rfl (lv_at hl 5 rfl) ?_
            refine lv_iload hx hb dL_law_335 (lv_at hl 1 rfl) ?_
            refine lv_iconst (v := 4) hx hb dL_law_337 (by decide) ?_
            refine xiadd (v := 4) S dL_law_338 (by decide) ?_
            refine xsld (v := x4) S hX hbl hbA hS (vin rfl) h4 dL_law_339 ?_
            refine fVi [] ((xW o u cI cZ cJ) ++ [(ao, .inl (cJ, 1, .inr (.inl (fun _ => 0))))]) (mid := (mW om 0 q cI cZ)) (As := [.int 0, .int x2, .int x3, .int x4]) (ci := 9) S (c_X9_variable_4 l D cI cZ cJ om q H.size x2 x3 x4 lo_x2 hi_x2 hi_x3) mi_X9_variable kw_7_123 rfl rfl ⟨Nat.le_of_ble_eq_true rfl, Nat.le_of_ble_eq_true rfl⟩ hP hD hK hS hA mW_0 rfl rfl hl.1 (Nat.le_of_ble_eq_true rfl) ⟨Nat.le_of_ble_eq_true rfl, Nat.le_of_ble_eq_true rfl⟩ dL_law_340 (fun H locs hz hP hD hS => ?_)
            have hP : va_P D vwCl ((mW om 2 q cI cZ) ++ ((xW o u cI cZ cJ) ++ [(ao, .inl (cJ, 1, .inr (.inl (fun _ => 0))))])) H := hP
            have hD : va_D (fun q : Nat => s.heap.size ≤ q) ((mW om 2 q cI cZ) ++ ((xW o u cI cZ cJ) ++ [(ao, .inl (cJ, 1, .inr (.inl (fun _ => 0))))])) := hD
            refine lv_istore (lv' := [(6, .int 0), (5, .int 2), (4, .int 0), (3, .ref ao), (2, .ref om), (1, .ref o), (0, .ref b)]) hx hb dL_law_343 hl (by decide) rfl (fun ls hl => ?_)
            refine lv_aload_n hx hb dL_law_345 rfl (lv_at hl 4 rfl) ?_
            refine rdV (As := []) (ci := 9) S (c_X9_thrown_1 l D cI cZ cJ om q) mi_X9_thrown kw_7_89 ⟨rfl, rfl⟩ ⟨Nat.le_of_ble_eq_true rfl, Nat.le_of_ble_eq_true rfl⟩ (va_Pl (ws := (mW om 2 q cI cZ)) (x := ((xW o u cI cZ cJ) ++ [(ao, .inl (cJ, 1, .inr (.inl (fun _ => 0))))])) hP) hK mW_0 rfl rfl hl.1 (Nat.le_of_ble_eq_true rfl) ⟨Nat.le_of_ble_eq_true rfl, Nat.le_of_ble_eq_true rfl⟩ dL_law_346 ?_
            refine lv_iload hx hb dL_law_349 (lv_at hl 1 rfl) ?_
            refine lv_icmp_eq (tgt := 356) hx hb dL_law_351 (by decide) (fun _ => ?_) (fun c => absurd c (by decide))
            refine lv_iload hx hb dL_law_356 (lv_at hl 1 rfl) ?_
            refine lv_if_ne (tgt := 373) hx hb dL_law_358 (by decide) (fun _ => ?_) (fun c => absurd c (by decide))
            refine lv_goto (tgt := 1519) hx hb dL_law_373 (by decide) ?_
            exact law_tail (cells := 121) (slots := 12964) S hr hlocks hX hbl (lv_sub hl [2, 6] rfl) hS (Nat.le_of_ble_eq_true rfl) (Nat.le_of_ble_eq_true rfl)
          · have lo_x3 : 0 ≤ x3 := l_nlt d_310
            by_cases d_310 : 3 < x3
            · have lo_x3 : 4 ≤ x3 := l_gt d_310 (by decide)
              refine wrap (mW om 0 q cI cZ) (mid := ((xW o u cI cZ cJ) ++ [(ao, .inl (cJ, 1, .inr (.inl (fun _ => 0))))])) (As := [.ref o, .int 0, .int x2, .int x3, .int x4, .ref ao]) S (h_variable_5 l D cI cZ cJ o u ao hst ra ga H.size x2 x3 x4 lo_x2 hi_x2 lo_x3) msh_L_variable kw_5_229 rfl rfl ⟨Nat.le_of_ble_eq_true rfl, Nat.le_of_ble_eq_true rfl⟩ hP hD hK hS hA hB hC hl.1 (Nat.le_of_ble_eq_true rfl) ⟨Nat.le_of_ble_eq_true rfl, Nat.le_of_ble_eq_true rfl⟩ dL_law_310 (fun H locs hz hP hD hS => ?_)
              have hP : va_P D vwCl ((mW om 0 q cI cZ) ++ ((xW o u cI cZ cJ) ++ [(ao, .inl (cJ, 1, .inr (.inl (fun _ => 0))))])) H := hP
              have hD : va_D (fun q : Nat => s.heap.size ≤ q) ((mW om 0 q cI cZ) ++ ((xW o u cI cZ cJ) ++ [(ao, .inl (cJ, 1, .inr (.inl (fun _ => 0))))])) := hD
              refine lv_istore (lv' := [(5, .int 2), (4, .int 0), (3, .ref ao), (2, .ref om), (1, .ref o), (0, .ref b)]) hx hb dL_law_313 hl (by decide) rfl (fun ls hl => ?_)
              refine lv_aload_n hx hb dL_law_315 rfl (lv_at hl 3 rfl) ?_
              refine lv_aload_n hx hb dL_law_316 rfl (lv_at hl 5 rfl) ?_
              refine lv_iload hx hb dL_law_317 (lv_at hl 1 rfl) ?_
              refine lv_iconst (v := 1) hx hb dL_law_319 (by decide) ?_
              refine xiadd (v := 1) S dL_law_320 (by decide) ?_
              refine xsld (v := 0) S hX hbl hbA hS (vin rfl) h1 dL_law_321 ?_
              refine lv_aload_n hx hb dL_law_322 rfl (lv_at hl 5 rfl) ?_
              refine lv_iload hx hb dL_law_323 (lv_at hl 1 rfl) ?_
              refine lv_iconst (v := 2) hx hb dL_law_325 (by decide) ?_
              refine xiadd (v := 2) S dL_law_326 (by decide) ?_
              refine xsld (v := x2) S hX hbl hbA hS (vin rfl) h2 dL_law_327 ?_
              refine lv_aload_n hx hb dL_law_328 rfl (lv_at hl 5 rfl) ?_
              refine lv_iload hx hb dL_law_329 (lv_at hl 1 rfl) ?_
              refine lv_iconst (v := 3) hx hb dL_law_331 (by decide) ?_
              refine xiadd (v := 3) S dL_law_332 (by decide) ?_
              refine xsld (v := x3) S hX hbl hbA hS (vin rfl) h3 dL_law_333 ?_
              refine lv_aload_n hx hb dL_law_334 rfl (lv_at hl 5 rfl) ?_
              refine lv_iload hx hb dL_law_335 (lv_at hl 1 rfl) ?_
              refine lv_iconst (v := 4) hx hb dL_law_337 (by decide) ?_
              refine xiadd (v := 4) S dL_law_338 (by decide) ?_
              refine xsld (v := x4) S hX hbl hbA hS (vin rfl) h4 dL_law_339 ?_
              refine fVi [] ((xW o u cI cZ cJ) ++ [(ao, .inl (cJ, 1, .inr (.inl (fun _ => 0))))]) (mid := (mW om 0 q cI cZ)) (As := [.int 0, .int x2, .int x3, .int x4]) (ci := 9) S (c_X9_variable_5 l D cI cZ cJ om q H.size x2 x3 x4 lo_x2 hi_x2 lo_x3) mi_X9_variable kw_7_123 rfl rfl ⟨Nat.le_of_ble_eq_true rfl, Nat.le_of_ble_eq_true rfl⟩ hP hD hK hS hA mW_0 rfl rfl hl.1 (Nat.le_of_ble_eq_true rfl) ⟨Nat.le_of_ble_eq_true rfl, Nat.le_of_ble_eq_true rfl⟩ dL_law_340 (fun H locs hz hP hD hS => ?_)
              have hP : va_P D vwCl ((mW om 2 q cI cZ) ++ ((xW o u cI cZ cJ) ++ [(ao, .inl (cJ, 1, .inr (.inl (fun _ => 0))))])) H := hP
              have hD : va_D (fun q : Nat => s.heap.size ≤ q) ((mW om 2 q cI cZ) ++ ((xW o u cI cZ cJ) ++ [(ao, .inl (cJ, 1, .inr (.inl (fun _ => 0))))])) := hD
              refine lv_istore (lv' := [(6, .int 0), (5, .int 2), (4, .int 0), (3, .ref ao), (2, .ref om), (1, .ref o), (0, .ref b)]) hx hb dL_law_343 hl (by decide) rfl (fun ls hl => ?_)
              refine lv_aload_n hx hb dL_law_345 rfl (lv_at hl 4 rfl) ?_
              refine rdV (As := []) (ci := 9) S (c_X9_thrown_1 l D cI cZ cJ om q) mi_X9_thrown kw_7_89 ⟨rfl, rfl⟩ ⟨Nat.le_of_ble_eq_true rfl, Nat.le_of_ble_eq_true rfl⟩ (va_Pl (ws := (mW om 2 q cI cZ)) (x := ((xW o u cI cZ cJ) ++ [(ao, .inl (cJ, 1, .inr (.inl (fun _ => 0))))])) hP) hK mW_0 rfl rfl hl.1 (Nat.le_of_ble_eq_true rfl) ⟨Nat.le_of_ble_eq_true rfl, Nat.le_of_ble_eq_true rfl⟩ dL_law_346 ?_
              refine lv_iload hx hb dL_law_349 (lv_at hl 1 rfl) ?_
              refine lv_icmp_eq (tgt := 356) hx hb dL_law_351 (by decide) (fun _ => ?_) (fun c => absurd c (by decide))
              refine lv_iload hx hb dL_law_356 (lv_at hl 1 rfl) ?_
              refine lv_if_ne (tgt := 373) hx hb dL_law_358 (by decide) (fun _ => ?_) (fun c => absurd c (by decide))
              refine lv_goto (tgt := 1519) hx hb dL_law_373 (by decide) ?_
              exact law_tail (cells := 121) (slots := 12964) S hr hlocks hX hbl (lv_sub hl [2, 6] rfl) hS (Nat.le_of_ble_eq_true rfl) (Nat.le_of_ble_eq_true rfl)
            · have hi_x3 : x3 ≤ 3 := u_ngt d_310
              by_cases d_310 : x3 = 0
              · have e_x3 : x3 = 0 := d_310
                subst e_x3
                by_cases d_310 : x4 = 0
                · have e_x4 : x4 = 0 := d_310
                  subst e_x4
                  refine wrap (mW om 0 q cI cZ) (mid := ((xW o u cI cZ cJ) ++ [(ao, .inl (cJ, 1, .inr (.inl (fun _ => 0))))])) (As := [.ref o, .int 0, .int x2, .int 0, .int 0, .ref ao]) S (h_variable_6 l D cI cZ cJ o u ao hst ra ga H.size x2 lo_x2 hi_x2) msh_L_variable kw_5_229 rfl rfl ⟨Nat.le_of_ble_eq_true rfl, Nat.le_of_ble_eq_true rfl⟩ hP hD hK hS hA hB hC hl.1 (Nat.le_of_ble_eq_true rfl) ⟨Nat.le_of_ble_eq_true rfl, Nat.le_of_ble_eq_true rfl⟩ dL_law_310 (fun H locs hz hP hD hS => ?_)
                  have hP : va_P D vwCl ((mW om 0 q cI cZ) ++ (((((((((xW o u cI cZ cJ).set 5 ((u 4), .inl (cI, 10, .inl (upd (fun _ => 0) (0 : Int32).toNatClampNeg 1)))).set 6 ((u 5), .inl (cI, 10, .inl (upd (fun _ => 0) (0 : Int32).toNatClampNeg 1)))).set 8 ((u 7), .inl (cI, 160, .inl (upd (fun _ => (-1)) (x2 : Int32).toNatClampNeg 6)))).set 9 ((u 8), .inl (cI, 160, .inl (upd (upd (fun _ => 0) (x2 : Int32).toNatClampNeg (-1)) (x2 : Int32).toNatClampNeg 0)))).set 10 ((u 9), .inl (cI, 160, .inl (upd (fun _ => 0) (x2 : Int32).toNatClampNeg 0)))).set 11 ((u 10), .inl (cI, 100, .inl (upd (fun _ => 0) (0 : Int32).toNatClampNeg 6)))).set 12 ((u 11), .inl (cI, 100, .inl (upd (fun _ => 0) (0 : Int32).toNatClampNeg 0)))) ++ [(ao, .inl (cJ, 1, .inr (.inl (vp_updL (fun _ => 0) (0 : Int32).toNatClampNeg 0))))])) H := hP
                  have hD : va_D (fun q : Nat => s.heap.size ≤ q) ((mW om 0 q cI cZ) ++ (((((((((xW o u cI cZ cJ).set 5 ((u 4), .inl (cI, 10, .inl (upd (fun _ => 0) (0 : Int32).toNatClampNeg 1)))).set 6 ((u 5), .inl (cI, 10, .inl (upd (fun _ => 0) (0 : Int32).toNatClampNeg 1)))).set 8 ((u 7), .inl (cI, 160, .inl (upd (fun _ => (-1)) (x2 : Int32).toNatClampNeg 6)))).set 9 ((u 8), .inl (cI, 160, .inl (upd (upd (fun _ => 0) (x2 : Int32).toNatClampNeg (-1)) (x2 : Int32).toNatClampNeg 0)))).set 10 ((u 9), .inl (cI, 160, .inl (upd (fun _ => 0) (x2 : Int32).toNatClampNeg 0)))).set 11 ((u 10), .inl (cI, 100, .inl (upd (fun _ => 0) (0 : Int32).toNatClampNeg 6)))).set 12 ((u 11), .inl (cI, 100, .inl (upd (fun _ => 0) (0 : Int32).toNatClampNeg 0)))) ++ [(ao, .inl (cJ, 1, .inr (.inl (vp_updL (fun _ => 0) (0 : Int32).toNatClampNeg 0))))])) := hD
                  refine lv_istore (lv' := [(5, .int 0), (4, .int 0), (3, .ref ao), (2, .ref om), (1, .ref o), (0, .ref b)]) hx hb dL_law_313 hl (by decide) rfl (fun ls hl => ?_)
                  refine lv_aload_n hx hb dL_law_315 rfl (lv_at hl 3 rfl) ?_
                  refine lv_aload_n hx hb dL_law_316 rfl (lv_at hl 5 rfl) ?_
                  refine lv_iload hx hb dL_law_317 (lv_at hl 1 rfl) ?_
                  refine lv_iconst (v := 1) hx hb dL_law_319 (by decide) ?_
                  refine xiadd (v := 1) S dL_law_320 (by decide) ?_
                  refine xsld (v := 0) S hX hbl hbA hS (vin rfl) h1 dL_law_321 ?_
                  refine lv_aload_n hx hb dL_law_322 rfl (lv_at hl 5 rfl) ?_
                  refine lv_iload hx hb dL_law_323 (lv_at hl 1 rfl) ?_
                  refine lv_iconst (v := 2) hx hb dL_law_325 (by decide) ?_
                  refine xiadd (v := 2) S dL_law_326 (by decide) ?_
                  refine xsld (v := x2) S hX hbl hbA hS (vin rfl) h2 dL_law_327 ?_
                  refine lv_aload_n hx hb dL_law_328 rfl (lv_at hl 5 rfl) ?_
                  refine lv_iload hx hb dL_law_329 (lv_at hl 1 rfl) ?_
                  refine lv_iconst (v := 3) hx hb dL_law_331 (by decide) ?_
                  refine xiadd (v := 3) S dL_law_332 (by decide) ?_
                  refine xsld (v := 0) S hX hbl hbA hS (vin rfl) h3 dL_law_333 ?_
                  refine lv_aload_n hx hb dL_law_334 rfl (lv_at hl 5 rfl) ?_
                  refine lv_iload hx hb dL_law_335 (lv_at hl 1 rfl) ?_
                  refine lv_iconst (v := 4) hx hb dL_law_337 (by decide) ?_
                  refine xiadd (v := 4) S dL_law_338 (by decide) ?_
                  refine xsld (v := 0) S hX hbl hbA hS (vin rfl) h4 dL_law_339 ?_
                  refine fVi [] (((((((((xW o u cI cZ cJ).set 5 ((u 4), .inl (cI, 10, .inl (upd (fun _ => 0) (0 : Int32).toNatClampNeg 1)))).set 6 ((u 5), .inl (cI, 10, .inl (upd (fun _ => 0) (0 : Int32).toNatClampNeg 1)))).set 8 ((u 7), .inl (cI, 160, .inl (upd (fun _ => (-1)) (x2 : Int32).toNatClampNeg 6)))).set 9 ((u 8), .inl (cI, 160, .inl (upd (upd (fun _ => 0) (x2 : Int32).toNatClampNeg (-1)) (x2 : Int32).toNatClampNeg 0)))).set 10 ((u 9), .inl (cI, 160, .inl (upd (fun _ => 0) (x2 : Int32).toNatClampNeg 0)))).set 11 ((u 10), .inl (cI, 100, .inl (upd (fun _ => 0) (0 : Int32).toNatClampNeg 6)))).set 12 ((u 11), .inl (cI, 100, .inl (upd (fun _ => 0) (0 : Int32).toNatClampNeg 0)))) ++ [(ao, .inl (cJ, 1, .inr (.inl (vp_updL (fun _ => 0) (0 : Int32).toNatClampNeg 0))))]) (mid := (mW om 0 q cI cZ)) (As := [.int 0, .int x2, .int 0, .int 0]) (ci := 9) S (c_X9_variable_6 l D cI cZ cJ om q H.size x2 lo_x2 hi_x2) mi_X9_variable kw_7_123 rfl rfl ⟨Nat.le_of_ble_eq_true rfl, Nat.le_of_ble_eq_true rfl⟩ hP hD hK hS hA mW_0 rfl rfl hl.1 (Nat.le_of_ble_eq_true rfl) ⟨Nat.le_of_ble_eq_true rfl, Nat.le_of_ble_eq_true rfl⟩ dL_law_340 (fun H locs hz hP hD hS => ?_)
                  have hP : va_P D vwCl (((((((((mW om 0 q cI cZ).set 4 ((q 3), .inl (cI, 10, .inl (upd (fun _ => 0) (0 : Int32).toNatClampNeg 1)))).set 5 ((q 4), .inl (cI, 10, .inl (upd (fun _ => 0) (0 : Int32).toNatClampNeg 1)))).set 7 ((q 6), .inl (cI, 160, .inl (upd (fun _ => -1) (x2 : Int32).toNatClampNeg 6)))).set 8 ((q 7), .inl (cI, 160, .inl (upd (fun _ => 0) (x2 : Int32).toNatClampNeg 0)))).set 9 ((q 8), .inl (cI, 160, .inl (upd (fun _ => 0) (x2 : Int32).toNatClampNeg 0)))).set 10 ((q 9), .inl (cI, 100, .inl (upd (fun _ => 0) (0 : Int32).toNatClampNeg 6)))).set 11 ((q 10), .inl (cI, 100, .inl (upd (fun _ => 0) (0 : Int32).toNatClampNeg 0)))) ++ (((((((((xW o u cI cZ cJ).set 5 ((u 4), .inl (cI, 10, .inl (upd (fun _ => 0) (0 : Int32).toNatClampNeg 1)))).set 6 ((u 5), .inl (cI, 10, .inl (upd (fun _ => 0) (0 : Int32).toNatClampNeg 1)))).set 8 ((u 7), .inl (cI, 160, .inl (upd (fun _ => (-1)) (x2 : Int32).toNatClampNeg 6)))).set 9 ((u 8), .inl (cI, 160, .inl (upd (upd (fun _ => 0) (x2 : Int32).toNatClampNeg (-1)) (x2 : Int32).toNatClampNeg 0)))).set 10 ((u 9), .inl (cI, 160, .inl (upd (fun _ => 0) (x2 : Int32).toNatClampNeg 0)))).set 11 ((u 10), .inl (cI, 100, .inl (upd (fun _ => 0) (0 : Int32).toNatClampNeg 6)))).set 12 ((u 11), .inl (cI, 100, .inl (upd (fun _ => 0) (0 : Int32).toNatClampNeg 0)))) ++ [(ao, .inl (cJ, 1, .inr (.inl (vp_updL (fun _ => 0) (0 : Int32).toNatClampNeg 0))))])) H := hP
                  have hD : va_D (fun q : Nat => s.heap.size ≤ q) (((((((((mW om 0 q cI cZ).set 4 ((q 3), .inl (cI, 10, .inl (upd (fun _ => 0) (0 : Int32).toNatClampNeg 1)))).set 5 ((q 4), .inl (cI, 10, .inl (upd (fun _ => 0) (0 : Int32).toNatClampNeg 1)))).set 7 ((q 6), .inl (cI, 160, .inl (upd (fun _ => -1) (x2 : Int32).toNatClampNeg 6)))).set 8 ((q 7), .inl (cI, 160, .inl (upd (fun _ => 0) (x2 : Int32).toNatClampNeg 0)))).set 9 ((q 8), .inl (cI, 160, .inl (upd (fun _ => 0) (x2 : Int32).toNatClampNeg 0)))).set 10 ((q 9), .inl (cI, 100, .inl (upd (fun _ => 0) (0 : Int32).toNatClampNeg 6)))).set 11 ((q 10), .inl (cI, 100, .inl (upd (fun _ => 0) (0 : Int32).toNatClampNeg 0)))) ++ (((((((((xW o u cI cZ cJ).set 5 ((u 4), .inl (cI, 10, .inl (upd (fun _ => 0) (0 : Int32).toNatClampNeg 1)))).set 6 ((u 5), .inl (cI, 10, .inl (upd (fun _ => 0) (0 : Int32).toNatClampNeg 1)))).set 8 ((u 7), .inl (cI, 160, .inl (upd (fun _ => (-1)) (x2 : Int32).toNatClampNeg 6)))).set 9 ((u 8), .inl (cI, 160, .inl (upd (upd (fun _ => 0) (x2 : Int32).toNatClampNeg (-1)) (x2 : Int32).toNatClampNeg 0)))).set 10 ((u 9), .inl (cI, 160, .inl (upd (fun _ => 0) (x2 : Int32).toNatClampNeg 0)))).set 11 ((u 10), .inl (cI, 100, .inl (upd (fun _ => 0) (0 : Int32).toNatClampNeg 6)))).set 12 ((u 11), .inl (cI, 100, .inl (upd (fun _ => 0) (0 : Int32).toNatClampNeg 0)))) ++ [(ao, .inl (cJ, 1, .inr (.inl (vp_updL (fun _ => 0) (0 : Int32).toNatClampNeg 0))))])) := hD
                  refine lv_istore (lv' := [(6, .int 0), (5, .int 0), (4, .int 0), (3, .ref ao), (2, .ref om), (1, .ref o), (0, .ref b)]) hx hb dL_law_343 hl (by decide) rfl (fun ls hl => ?_)
                  refine lv_aload_n hx hb dL_law_345 rfl (lv_at hl 4 rfl) ?_
                  refine rdV (As := []) (ci := 9) S (c_X9_thrown_4 l D cI cZ cJ om q x2 lo_x2 hi_x2) mi_X9_thrown kw_7_89 ⟨rfl, rfl⟩ ⟨Nat.le_of_ble_eq_true rfl, Nat.le_of_ble_eq_true rfl⟩ (va_Pl (ws := ((((((((mW om 0 q cI cZ).set 4 ((q 3), .inl (cI, 10, .inl (upd (fun _ => 0) (0 : Int32).toNatClampNeg 1)))).set 5 ((q 4), .inl (cI, 10, .inl (upd (fun _ => 0) (0 : Int32).toNatClampNeg 1)))).set 7 ((q 6), .inl (cI, 160, .inl (upd (fun _ => -1) (x2 : Int32).toNatClampNeg 6)))).set 8 ((q 7), .inl (cI, 160, .inl (upd (fun _ => 0) (x2 : Int32).toNatClampNeg 0)))).set 9 ((q 8), .inl (cI, 160, .inl (upd (fun _ => 0) (x2 : Int32).toNatClampNeg 0)))).set 10 ((q 9), .inl (cI, 100, .inl (upd (fun _ => 0) (0 : Int32).toNatClampNeg 6)))).set 11 ((q 10), .inl (cI, 100, .inl (upd (fun _ => 0) (0 : Int32).toNatClampNeg 0))))) (x := (((((((((xW o u cI cZ cJ).set 5 ((u 4), .inl (cI, 10, .inl (upd (fun _ => 0) (0 : Int32).toNatClampNeg 1)))).set 6 ((u 5), .inl (cI, 10, .inl (upd (fun _ => 0) (0 : Int32).toNatClampNeg 1)))).set 8 ((u 7), .inl (cI, 160, .inl (upd (fun _ => (-1)) (x2 : Int32).toNatClampNeg 6)))).set 9 ((u 8), .inl (cI, 160, .inl (upd (upd (fun _ => 0) (x2 : Int32).toNatClampNeg (-1)) (x2 : Int32).toNatClampNeg 0)))).set 10 ((u 9), .inl (cI, 160, .inl (upd (fun _ => 0) (x2 : Int32).toNatClampNeg 0)))).set 11 ((u 10), .inl (cI, 100, .inl (upd (fun _ => 0) (0 : Int32).toNatClampNeg 6)))).set 12 ((u 11), .inl (cI, 100, .inl (upd (fun _ => 0) (0 : Int32).toNatClampNeg 0)))) ++ [(ao, .inl (cJ, 1, .inr (.inl (vp_updL (fun _ => 0) (0 : Int32).toNatClampNeg 0))))])) hP) hK (k := 0) rfl rfl rfl hl.1 (Nat.le_of_ble_eq_true rfl) ⟨Nat.le_of_ble_eq_true rfl, Nat.le_of_ble_eq_true rfl⟩ dL_law_346 ?_
                  refine lv_iload hx hb dL_law_349 (lv_at hl 1 rfl) ?_
                  refine lv_icmp_eq (tgt := 356) hx hb dL_law_351 (by decide) (fun _ => ?_) (fun c => absurd c (by decide))
                  refine lv_iload hx hb dL_law_356 (lv_at hl 1 rfl) ?_
                  refine lv_if_ne (tgt := 373) hx hb dL_law_358 (by decide) (fun c => absurd c (by decide)) (fun _ => ?_)
                  refine lv_aload_n hx hb dL_law_361 rfl (lv_at hl 3 rfl) ?_
                  refine lv_iconst (v := 0) hx hb dL_law_362 (by decide) ?_
                  refine xlald (t0 := 2) (v := 0) S hK hP (q0 := 119) rfl rfl (vin rfl) rfl dL_law_363 ?_
                  refine lv_iload hx hb dL_law_364 (lv_at hl 0 rfl) ?_
                  refine lv_i2l (v := 0) hx hb dL_law_366 (by decide) ?_
                  refine xlcmp (v := 0) S dL_law_367 (by decide) ?_
                  refine lv_if_eq (tgt := 373) hx hb dL_law_368 (by decide) (fun _ => ?_) (fun c => absurd c (by decide))
                  refine lv_goto (tgt := 1519) hx hb dL_law_373 (by decide) ?_
                  exact law_tail (cells := 120) (slots := 12958) S hr hlocks hX hbl (lv_sub hl [2, 6] rfl) hS (Nat.le_of_ble_eq_true rfl) (Nat.le_of_ble_eq_true rfl)
                · have ne_x4_0 : ¬ x4 = 0 := d_310
                  refine wrap (mW om 0 q cI cZ) (mid := ((xW o u cI cZ cJ) ++ [(ao, .inl (cJ, 1, .inr (.inl (fun _ => 0))))])) (As := [.ref o, .int 0, .int x2, .int 0, .int x4, .ref ao]) S (h_variable_7 l D cI cZ cJ o u ao hst ra ga H.size x2 x4 lo_x2 hi_x2 ne_x4_0) msh_L_variable kw_5_229 rfl rfl ⟨Nat.le_of_ble_eq_true rfl, Nat.le_of_ble_eq_true rfl⟩ hP hD hK hS hA hB hC hl.1 (Nat.le_of_ble_eq_true rfl) ⟨Nat.le_of_ble_eq_true rfl, Nat.le_of_ble_eq_true rfl⟩ dL_law_310 (fun H locs hz hP hD hS => ?_)
                  have hP : va_P D vwCl ((mW om 0 q cI cZ) ++ ((xW o u cI cZ cJ) ++ [(ao, .inl (cJ, 1, .inr (.inl (fun _ => 0))))])) H := hP
                  have hD : va_D (fun q : Nat => s.heap.size ≤ q) ((mW om 0 q cI cZ) ++ ((xW o u cI cZ cJ) ++ [(ao, .inl (cJ, 1, .inr (.inl (fun _ => 0))))])) := hD
                  refine lv_istore (lv' := [(5, .int 2), (4, .int 0), (3, .ref ao), (2, .ref om), (1, .ref o), (0, .ref b)]) hx hb dL_law_313 hl (by decide) rfl (fun ls hl => ?_)
                  refine lv_aload_n hx hb dL_law_315 rfl (lv_at hl 3 rfl) ?_
                  refine lv_aload_n hx hb dL_law_316 rfl (lv_at hl 5 rfl) ?_
                  refine lv_iload hx hb dL_law_317 (lv_at hl 1 rfl) ?_
                  refine lv_iconst (v := 1) hx hb dL_law_319 (by decide) ?_
                  refine xiadd (v := 1) S dL_law_320 (by decide) ?_
                  refine xsld (v := 0) S hX hbl hbA hS (vin rfl) h1 dL_law_321 ?_
                  refine lv_aload_n hx hb dL_law_322 rfl (lv_at hl 5 rfl) ?_
                  refine lv_iload hx hb dL_law_323 (lv_at hl 1 rfl) ?_
                  refine lv_iconst (v := 2) hx hb dL_law_325 (by decide) ?_
                  refine xiadd (v := 2) S dL_law_326 (by decide) ?_
                  refine xsld (v := x2) S hX hbl hbA hS (vin rfl) h2 dL_law_327 ?_
                  refine lv_aload_n hx hb dL_law_328 rfl (lv_at hl 5 rfl) ?_
                  refine lv_iload hx hb dL_law_329 (lv_at hl 1 rfl) ?_
                  refine lv_iconst (v := 3) hx hb dL_law_331 (by decide) ?_
                  refine xiadd (v := 3) S dL_law_332 (by decide) ?_
                  refine xsld (v := 0) S hX hbl hbA hS (vin rfl) h3 dL_law_333 ?_
                  refine lv_aload_n hx hb dL_law_334 rfl (lv_at hl 5 rfl) ?_
                  refine lv_iload hx hb dL_law_335 (lv_at hl 1 rfl) ?_
                  refine lv_iconst (v := 4) hx hb dL_law_337 (by decide) ?_
                  refine xiadd (v := 4) S dL_law_338 (by decide) ?_
                  refine xsld (v := x4) S hX hbl hbA hS (vin rfl) h4 dL_law_339 ?_
                  refine fVi [] ((xW o u cI cZ cJ) ++ [(ao, .inl (cJ, 1, .inr (.inl (fun _ => 0))))]) (mid := (mW om 0 q cI cZ)) (As := [.int 0, .int x2, .int 0, .int x4]) (ci := 9) S (c_X9_variable_7 l D cI cZ cJ om q H.size x2 x4 lo_x2 hi_x2 ne_x4_0) mi_X9_variable kw_7_123 rfl rfl ⟨Nat.le_of_ble_eq_true rfl, Nat.le_of_ble_eq_true rfl⟩ hP hD hK hS hA mW_0 rfl rfl hl.1 (Nat.le_of_ble_eq_true rfl) ⟨Nat.le_of_ble_eq_true rfl, Nat.le_of_ble_eq_true rfl⟩ dL_law_340 (fun H locs hz hP hD hS => ?_)
                  have hP : va_P D vwCl ((mW om 2 q cI cZ) ++ ((xW o u cI cZ cJ) ++ [(ao, .inl (cJ, 1, .inr (.inl (fun _ => 0))))])) H := hP
                  have hD : va_D (fun q : Nat => s.heap.size ≤ q) ((mW om 2 q cI cZ) ++ ((xW o u cI cZ cJ) ++ [(ao, .inl (cJ, 1, .inr (.inl (fun _ => 0))))])) := hD
                  refine lv_istore (lv' := [(6, .int 0), (5, .int 2), (4, .int 0), (3, .ref ao), (2, .ref om), (1, .ref o), (0, .ref b)]) hx hb dL_law_343 hl (by decide) rfl (fun ls hl => ?_)
                  refine lv_aload_n hx hb dL_law_345 rfl (lv_at hl 4 rfl) ?_
                  refine rdV (As := []) (ci := 9) S (c_X9_thrown_1 l D cI cZ cJ om q) mi_X9_thrown kw_7_89 ⟨rfl, rfl⟩ ⟨Nat.le_of_ble_eq_true rfl, Nat.le_of_ble_eq_true rfl⟩ (va_Pl (ws := (mW om 2 q cI cZ)) (x := ((xW o u cI cZ cJ) ++ [(ao, .inl (cJ, 1, .inr (.inl (fun _ => 0))))])) hP) hK mW_0 rfl rfl hl.1 (Nat.le_of_ble_eq_true rfl) ⟨Nat.le_of_ble_eq_true rfl, Nat.le_of_ble_eq_true rfl⟩ dL_law_346 ?_
                  refine lv_iload hx hb dL_law_349 (lv_at hl 1 rfl) ?_
                  refine lv_icmp_eq (tgt := 356) hx hb dL_law_351 (by decide) (fun _ => ?_) (fun c => absurd c (by decide))
                  refine lv_iload hx hb dL_law_356 (lv_at hl 1 rfl) ?_
                  refine lv_if_ne (tgt := 373) hx hb dL_law_358 (by decide) (fun _ => ?_) (fun c => absurd c (by decide))
                  refine lv_goto (tgt := 1519) hx hb dL_law_373 (by decide) ?_
                  exact law_tail (cells := 121) (slots := 12964) S hr hlocks hX hbl (lv_sub hl [2, 6] rfl) hS (Nat.le_of_ble_eq_true rfl) (Nat.le_of_ble_eq_true rfl)
              · have ne_x3_0 : ¬ x3 = 0 := d_310
                have lo_x3 : 1 ≤ x3 := l_ne ne_x3_0 lo_x3 (by decide)
                by_cases d_310 : x3 = 1
                · have e_x3 : x3 = 1 := d_310
                  subst e_x3
                  by_cases d_310 : x4 < 1
                  · have hi_x4 : x4 ≤ 0 := u_lt d_310 (by decide)
                    refine wrap (mW om 0 q cI cZ) (mid := ((xW o u cI cZ cJ) ++ [(ao, .inl (cJ, 1, .inr (.inl (fun _ => 0))))])) (As := [.ref o, .int 0, .int x2, .int 1, .int x4, .ref ao]) S (h_variable_8 l D cI cZ cJ o u ao hst ra ga H.size x2 x4 lo_x2 hi_x2 hi_x4) msh_L_variable kw_5_229 rfl rfl ⟨Nat.le_of_ble_eq_true rfl, Nat.le_of_ble_eq_true rfl⟩ hP hD hK hS hA hB hC hl.1 (Nat.le_of_ble_eq_true rfl) ⟨Nat.le_of_ble_eq_true rfl, Nat.le_of_ble_eq_true rfl⟩ dL_law_310 (fun H locs hz hP hD hS => ?_)
                    have hP : va_P D vwCl ((mW om 0 q cI cZ) ++ ((xW o u cI cZ cJ) ++ [(ao, .inl (cJ, 1, .inr (.inl (fun _ => 0))))])) H := hP
                    have hD : va_D (fun q : Nat => s.heap.size ≤ q) ((mW om 0 q cI cZ) ++ ((xW o u cI cZ cJ) ++ [(ao, .inl (cJ, 1, .inr (.inl (fun _ => 0))))])) := hD
                    refine lv_istore (lv' := [(5, .int 2), (4, .int 0), (3, .ref ao), (2, .ref om), (1, .ref o), (0, .ref b)]) hx hb dL_law_313 hl (by decide) rfl (fun ls hl => ?_)
                    refine lv_aload_n hx hb dL_law_315 rfl (lv_at hl 3 rfl) ?_
                    refine lv_aload_n hx hb dL_law_316 rfl (lv_at hl 5 rfl) ?_
                    refine lv_iload hx hb dL_law_317 (lv_at hl 1 rfl) ?_
                    refine lv_iconst (v := 1) hx hb dL_law_319 (by decide) ?_
                    refine xiadd (v := 1) S dL_law_320 (by decide) ?_
                    refine xsld (v := 0) S hX hbl hbA hS (vin rfl) h1 dL_law_321 ?_
                    refine lv_aload_n hx hb dL_law_322 rfl (lv_at hl 5 rfl) ?_
                    refine lv_iload hx hb dL_law_323 (lv_at hl 1 rfl) ?_
                    refine lv_iconst (v := 2) hx hb dL_law_325 (by decide) ?_
                    refine xiadd (v := 2) S dL_law_326 (by decide) ?_
                    refine xsld (v := x2) S hX hbl hbA hS (vin rfl) h2 dL_law_327 ?_
                    refine lv_aload_n hx hb dL_law_328 rfl (lv_at hl 5 rfl) ?_
                    refine lv_iload hx hb dL_law_329 (lv_at hl 1 rfl) ?_
                    refine lv_iconst (v := 3) hx hb dL_law_331 (by decide) ?_
                    refine xiadd (v := 3) S dL_law_332 (by decide) ?_
                    refine xsld (v := 1) S hX hbl hbA hS (vin rfl) h3 dL_law_333 ?_
                    refine lv_aload_n hx hb dL_law_334 rfl (lv_at hl 5 rfl) ?_
                    refine lv_iload hx hb dL_law_335 (lv_at hl 1 rfl) ?_
                    refine lv_iconst (v := 4) hx hb dL_law_337 (by decide) ?_
                    refine xiadd (v := 4) S dL_law_338 (by decide) ?_
                    refine xsld (v := x4) S hX hbl hbA hS (vin rfl) h4 dL_law_339 ?_
                    refine fVi [] ((xW o u cI cZ cJ) ++ [(ao, .inl (cJ, 1, .inr (.inl (fun _ => 0))))]) (mid := (mW om 0 q cI cZ)) (As := [.int 0, .int x2, .int 1, .int x4]) (ci := 9) S (c_X9_variable_8 l D cI cZ cJ om q H.size x2 x4 lo_x2 hi_x2 hi_x4) mi_X9_variable kw_7_123 rfl rfl ⟨Nat.le_of_ble_eq_true rfl, Nat.le_of_ble_eq_true rfl⟩ hP hD hK hS hA mW_0 rfl rfl hl.1 (Nat.le_of_ble_eq_true rfl) ⟨Nat.le_of_ble_eq_true rfl, Nat.le_of_ble_eq_true rfl⟩ dL_law_340 (fun H locs hz hP hD hS => ?_)
                    have hP : va_P D vwCl ((mW om 2 q cI cZ) ++ ((xW o u cI cZ cJ) ++ [(ao, .inl (cJ, 1, .inr (.inl (fun _ => 0))))])) H := hP
                    have hD : va_D (fun q : Nat => s.heap.size ≤ q) ((mW om 2 q cI cZ) ++ ((xW o u cI cZ cJ) ++ [(ao, .inl (cJ, 1, .inr (.inl (fun _ => 0))))])) := hD
                    refine lv_istore (lv' := [(6, .int 0), (5, .int 2), (4, .int 0), (3, .ref ao), (2, .ref om), (1, .ref o), (0, .ref b)]) hx hb dL_law_343 hl (by decide) rfl (fun ls hl => ?_)
                    refine lv_aload_n hx hb dL_law_345 rfl (lv_at hl 4 rfl) ?_
                    refine rdV (As := []) (ci := 9) S (c_X9_thrown_1 l D cI cZ cJ om q) mi_X9_thrown kw_7_89 ⟨rfl, rfl⟩ ⟨Nat.le_of_ble_eq_true rfl, Nat.le_of_ble_eq_true rfl⟩ (va_Pl (ws := (mW om 2 q cI cZ)) (x := ((xW o u cI cZ cJ) ++ [(ao, .inl (cJ, 1, .inr (.inl (fun _ => 0))))])) hP) hK mW_0 rfl rfl hl.1 (Nat.le_of_ble_eq_true rfl) ⟨Nat.le_of_ble_eq_true rfl, Nat.le_of_ble_eq_true rfl⟩ dL_law_346 ?_
                    refine lv_iload hx hb dL_law_349 (lv_at hl 1 rfl) ?_
                    refine lv_icmp_eq (tgt := 356) hx hb dL_law_351 (by decide) (fun _ => ?_) (fun c => absurd c (by decide))
                    refine lv_iload hx hb dL_law_356 (lv_at hl 1 rfl) ?_
                    refine lv_if_ne (tgt := 373) hx hb dL_law_358 (by decide) (fun _ => ?_) (fun c => absurd c (by decide))
                    refine lv_goto (tgt := 1519) hx hb dL_law_373 (by decide) ?_
                    exact law_tail (cells := 121) (slots := 12964) S hr hlocks hX hbl (lv_sub hl [2, 6] rfl) hS (Nat.le_of_ble_eq_true rfl) (Nat.le_of_ble_eq_true rfl)
                  · have lo_x4 : 1 ≤ x4 := l_nlt d_310
                    by_cases d_310 : 8 < x4
                    · have lo_x4 : 9 ≤ x4 := l_gt d_310 (by decide)
                      refine wrap (mW om 0 q cI cZ) (mid := ((xW o u cI cZ cJ) ++ [(ao, .inl (cJ, 1, .inr (.inl (fun _ => 0))))])) (As := [.ref o, .int 0, .int x2, .int 1, .int x4, .ref ao]) S (h_variable_9 l D cI cZ cJ o u ao hst ra ga H.size x2 x4 lo_x2 hi_x2 lo_x4) msh_L_variable kw_5_229 rfl rfl ⟨Nat.le_of_ble_eq_true rfl, Nat.le_of_ble_eq_true rfl⟩ hP hD hK hS hA hB hC hl.1 (Nat.le_of_ble_eq_true rfl) ⟨Nat.le_of_ble_eq_true rfl, Nat.le_of_ble_eq_true rfl⟩ dL_law_310 (fun H locs hz hP hD hS => ?_)
                      have hP : va_P D vwCl ((mW om 0 q cI cZ) ++ ((xW o u cI cZ cJ) ++ [(ao, .inl (cJ, 1, .inr (.inl (fun _ => 0))))])) H := hP
                      have hD : va_D (fun q : Nat => s.heap.size ≤ q) ((mW om 0 q cI cZ) ++ ((xW o u cI cZ cJ) ++ [(ao, .inl (cJ, 1, .inr (.inl (fun _ => 0))))])) := hD
                      refine lv_istore (lv' := [(5, .int 2), (4, .int 0), (3, .ref ao), (2, .ref om), (1, .ref o), (0, .ref b)]) hx hb dL_law_313 hl (by decide) rfl (fun ls hl => ?_)
                      refine lv_aload_n hx hb dL_law_315 rfl (lv_at hl 3 rfl) ?_
                      refine lv_aload_n hx hb dL_law_316 rfl (lv_at hl 5 rfl) ?_
                      refine lv_iload hx hb dL_law_317 (lv_at hl 1 rfl) ?_
                      refine lv_iconst (v := 1) hx hb dL_law_319 (by decide) ?_
                      refine xiadd (v := 1) S dL_law_320 (by decide) ?_
                      refine xsld (v := 0) S hX hbl hbA hS (vin rfl) h1 dL_law_321 ?_
                      refine lv_aload_n hx hb dL_law_322 rfl (lv_at hl 5 rfl) ?_
                      refine lv_iload hx hb dL_law_323 (lv_at hl 1 rfl) ?_
                      refine lv_iconst (v := 2) hx hb dL_law_325 (by decide) ?_
                      refine xiadd (v := 2) S dL_law_326 (by decide) ?_
                      refine xsld (v := x2) S hX hbl hbA hS (vin rfl) h2 dL_law_327 ?_
                      refine lv_aload_n hx hb dL_law_328 rfl (lv_at hl 5 rfl) ?_
                      refine lv_iload hx hb dL_law_329 (lv_at hl 1 rfl) ?_
                      refine lv_iconst (v := 3) hx hb dL_law_331 (by decide) ?_
                      refine xiadd (v := 3) S dL_law_332 (by decide) ?_
                      refine xsld (v := 1) S hX hbl hbA hS (vin rfl) h3 dL_law_333 ?_
                      refine lv_aload_n hx hb dL_law_334 rfl (lv_at hl 5 rfl) ?_
                      refine lv_iload hx hb dL_law_335 (lv_at hl 1 rfl) ?_
                      refine lv_iconst (v := 4) hx hb dL_law_337 (by decide) ?_
                      refine xiadd (v := 4) S dL_law_338 (by decide) ?_
                      refine xsld (v := x4) S hX hbl hbA hS (vin rfl) h4 dL_law_339 ?_
                      refine fVi [] ((xW o u cI cZ cJ) ++ [(ao, .inl (cJ, 1, .inr (.inl (fun _ => 0))))]) (mid := (mW om 0 q cI cZ)) (As := [.int 0, .int x2, .int 1, .int x4]) (ci := 9) S (c_X9_variable_9 l D cI cZ cJ om q H.size x2 x4 lo_x2 hi_x2 lo_x4) mi_X9_variable kw_7_123 rfl rfl ⟨Nat.le_of_ble_eq_true rfl, Nat.le_of_ble_eq_true rfl⟩ hP hD hK hS hA mW_0 rfl rfl hl.1 (Nat.le_of_ble_eq_true rfl) ⟨Nat.le_of_ble_eq_true rfl, Nat.le_of_ble_eq_true rfl⟩ dL_law_340 (fun H locs hz hP hD hS => ?_)
                      have hP : va_P D vwCl ((mW om 2 q cI cZ) ++ ((xW o u cI cZ cJ) ++ [(ao, .inl (cJ, 1, .inr (.inl (fun _ => 0))))])) H := hP
                      have hD : va_D (fun q : Nat => s.heap.size ≤ q) ((mW om 2 q cI cZ) ++ ((xW o u cI cZ cJ) ++ [(ao, .inl (cJ, 1, .inr (.inl (fun _ => 0))))])) := hD
                      refine lv_istore (lv' := [(6, .int 0), (5, .int 2), (4, .int 0), (3, .ref ao), (2, .ref om), (1, .ref o), (0, .ref b)]) hx hb dL_law_343 hl (by decide) rfl (fun ls hl => ?_)
                      refine lv_aload_n hx hb dL_law_345 rfl (lv_at hl 4 rfl) ?_
                      refine rdV (As := []) (ci := 9) S (c_X9_thrown_1 l D cI cZ cJ om q) mi_X9_thrown kw_7_89 ⟨rfl, rfl⟩ ⟨Nat.le_of_ble_eq_true rfl, Nat.le_of_ble_eq_true rfl⟩ (va_Pl (ws := (mW om 2 q cI cZ)) (x := ((xW o u cI cZ cJ) ++ [(ao, .inl (cJ, 1, .inr (.inl (fun _ => 0))))])) hP) hK mW_0 rfl rfl hl.1 (Nat.le_of_ble_eq_true rfl) ⟨Nat.le_of_ble_eq_true rfl, Nat.le_of_ble_eq_true rfl⟩ dL_law_346 ?_
                      refine lv_iload hx hb dL_law_349 (lv_at hl 1 rfl) ?_
                      refine lv_icmp_eq (tgt := 356) hx hb dL_law_351 (by decide) (fun _ => ?_) (fun c => absurd c (by decide))
                      refine lv_iload hx hb dL_law_356 (lv_at hl 1 rfl) ?_
                      refine lv_if_ne (tgt := 373) hx hb dL_law_358 (by decide) (fun _ => ?_) (fun c => absurd c (by decide))
                      refine lv_goto (tgt := 1519) hx hb dL_law_373 (by decide) ?_
                      exact law_tail (cells := 121) (slots := 12964) S hr hlocks hX hbl (lv_sub hl [2, 6] rfl) hS (Nat.le_of_ble_eq_true rfl) (Nat.le_of_ble_eq_true rfl)
                    · have hi_x4 : x4 ≤ 8 := u_ngt d_310
                      refine wrap (mW om 0 q cI cZ) (mid := ((xW o u cI cZ cJ) ++ [(ao, .inl (cJ, 1, .inr (.inl (fun _ => 0))))])) (As := [.ref o, .int 0, .int x2, .int 1, .int x4, .ref ao]) S (h_variable_10 l D cI cZ cJ o u ao hst ra ga H.size x2 x4 lo_x2 hi_x2 lo_x4 hi_x4) msh_L_variable kw_5_229 rfl rfl ⟨Nat.le_of_ble_eq_true rfl, Nat.le_of_ble_eq_true rfl⟩ hP hD hK hS hA hB hC hl.1 (Nat.le_of_ble_eq_true rfl) ⟨Nat.le_of_ble_eq_true rfl, Nat.le_of_ble_eq_true rfl⟩ dL_law_310 (fun H locs hz hP hD hS => ?_)
                      have hP : va_P D vwCl ((mW om 0 q cI cZ) ++ (((((((((xW o u cI cZ cJ).set 5 ((u 4), .inl (cI, 10, .inl (upd (fun _ => 0) (0 : Int32).toNatClampNeg 1)))).set 6 ((u 5), .inl (cI, 10, .inl (upd (fun _ => 0) (0 : Int32).toNatClampNeg 1)))).set 8 ((u 7), .inl (cI, 160, .inl (upd (fun _ => (-1)) (x2 : Int32).toNatClampNeg 7)))).set 9 ((u 8), .inl (cI, 160, .inl (upd (upd (fun _ => 0) (x2 : Int32).toNatClampNeg (-1)) (x2 : Int32).toNatClampNeg 0)))).set 10 ((u 9), .inl (cI, 160, .inl (upd (fun _ => 0) (x2 : Int32).toNatClampNeg x4)))).set 11 ((u 10), .inl (cI, 100, .inl (upd (fun _ => 0) (0 : Int32).toNatClampNeg 7)))).set 12 ((u 11), .inl (cI, 100, .inl (upd (fun _ => 0) (0 : Int32).toNatClampNeg x4)))) ++ [(ao, .inl (cJ, 1, .inr (.inl (vp_updL (fun _ => 0) (0 : Int32).toNatClampNeg 0))))])) H := hP
                      have hD : va_D (fun q : Nat => s.heap.size ≤ q) ((mW om 0 q cI cZ) ++ (((((((((xW o u cI cZ cJ).set 5 ((u 4), .inl (cI, 10, .inl (upd (fun _ => 0) (0 : Int32).toNatClampNeg 1)))).set 6 ((u 5), .inl (cI, 10, .inl (upd (fun _ => 0) (0 : Int32).toNatClampNeg 1)))).set 8 ((u 7), .inl (cI, 160, .inl (upd (fun _ => (-1)) (x2 : Int32).toNatClampNeg 7)))).set 9 ((u 8), .inl (cI, 160, .inl (upd (upd (fun _ => 0) (x2 : Int32).toNatClampNeg (-1)) (x2 : Int32).toNatClampNeg 0)))).set 10 ((u 9), .inl (cI, 160, .inl (upd (fun _ => 0) (x2 : Int32).toNatClampNeg x4)))).set 11 ((u 10), .inl (cI, 100, .inl (upd (fun _ => 0) (0 : Int32).toNatClampNeg 7)))).set 12 ((u 11), .inl (cI, 100, .inl (upd (fun _ => 0) (0 : Int32).toNatClampNeg x4)))) ++ [(ao, .inl (cJ, 1, .inr (.inl (vp_updL (fun _ => 0) (0 : Int32).toNatClampNeg 0))))])) := hD
                      refine lv_istore (lv' := [(5, .int 0), (4, .int 0), (3, .ref ao), (2, .ref om), (1, .ref o), (0, .ref b)]) hx hb dL_law_313 hl (by decide) rfl (fun ls hl => ?_)
                      refine lv_aload_n hx hb dL_law_315 rfl (lv_at hl 3 rfl) ?_
                      refine lv_aload_n hx hb dL_law_316 rfl (lv_at hl 5 rfl) ?_
                      refine lv_iload hx hb dL_law_317 (lv_at hl 1 rfl) ?_
                      refine lv_iconst (v := 1) hx hb dL_law_319 (by decide) ?_
                      refine xiadd (v := 1) S dL_law_320 (by decide) ?_
                      refine xsld (v := 0) S hX hbl hbA hS (vin rfl) h1 dL_law_321 ?_
                      refine lv_aload_n hx hb dL_law_322 rfl (lv_at hl 5 rfl) ?_
                      refine lv_iload hx hb dL_law_323 (lv_at hl 1 rfl) ?_
                      refine lv_iconst (v := 2) hx hb dL_law_325 (by decide) ?_
                      refine xiadd (v := 2) S dL_law_326 (by decide) ?_
                      refine xsld (v := x2) S hX hbl hbA hS (vin rfl) h2 dL_law_327 ?_
                      refine lv_aload_n hx hb dL_law_328 rfl (lv_at hl 5 rfl) ?_
                      refine lv_iload hx hb dL_law_329 (lv_at hl 1 rfl) ?_
                      refine lv_iconst (v := 3) hx hb dL_law_331 (by decide) ?_
                      refine xiadd (v := 3) S dL_law_332 (by decide) ?_
                      refine xsld (v := 1) S hX hbl hbA hS (vin rfl) h3 dL_law_333 ?_
                      refine lv_aload_n hx hb dL_law_334 rfl (lv_at hl 5 rfl) ?_
                      refine lv_iload hx hb dL_law_335 (lv_at hl 1 rfl) ?_
                      refine lv_iconst (v := 4) hx hb dL_law_337 (by decide) ?_
                      refine xiadd (v := 4) S dL_law_338 (by decide) ?_
                      refine xsld (v := x4) S hX hbl hbA hS (vin rfl) h4 dL_law_339 ?_
                      refine fVi [] (((((((((xW o u cI cZ cJ).set 5 ((u 4), .inl (cI, 10, .inl (upd (fun _ => 0) (0 : Int32).toNatClampNeg 1)))).set 6 ((u 5), .inl (cI, 10, .inl (upd (fun _ => 0) (0 : Int32).toNatClampNeg 1)))).set 8 ((u 7), .inl (cI, 160, .inl (upd (fun _ => (-1)) (x2 : Int32).toNatClampNeg 7)))).set 9 ((u 8), .inl (cI, 160, .inl (upd (upd (fun _ => 0) (x2 : Int32).toNatClampNeg (-1)) (x2 : Int32).toNatClampNeg 0)))).set 10 ((u 9), .inl (cI, 160, .inl (upd (fun _ => 0) (x2 : Int32).toNatClampNeg x4)))).set 11 ((u 10), .inl (cI, 100, .inl (upd (fun _ => 0) (0 : Int32).toNatClampNeg 7)))).set 12 ((u 11), .inl (cI, 100, .inl (upd (fun _ => 0) (0 : Int32).toNatClampNeg x4)))) ++ [(ao, .inl (cJ, 1, .inr (.inl (vp_updL (fun _ => 0) (0 : Int32).toNatClampNeg 0))))]) (mid := (mW om 0 q cI cZ)) (As := [.int 0, .int x2, .int 1, .int x4]) (ci := 9) S (c_X9_variable_10 l D cI cZ cJ om q H.size x2 x4 lo_x2 hi_x2 lo_x4 hi_x4) mi_X9_variable kw_7_123 rfl rfl ⟨Nat.le_of_ble_eq_true rfl, Nat.le_of_ble_eq_true rfl⟩ hP hD hK hS hA mW_0 rfl rfl hl.1 (Nat.le_of_ble_eq_true rfl) ⟨Nat.le_of_ble_eq_true rfl, Nat.le_of_ble_eq_true rfl⟩ dL_law_340 (fun H locs hz hP hD hS => ?_)
                      have hP : va_P D vwCl (((((((((mW om 0 q cI cZ).set 4 ((q 3), .inl (cI, 10, .inl (upd (fun _ => 0) (0 : Int32).toNatClampNeg 1)))).set 5 ((q 4), .inl (cI, 10, .inl (upd (fun _ => 0) (0 : Int32).toNatClampNeg 1)))).set 7 ((q 6), .inl (cI, 160, .inl (upd (fun _ => -1) (x2 : Int32).toNatClampNeg 7)))).set 8 ((q 7), .inl (cI, 160, .inl (upd (fun _ => 0) (x2 : Int32).toNatClampNeg 0)))).set 9 ((q 8), .inl (cI, 160, .inl (upd (fun _ => 0) (x2 : Int32).toNatClampNeg x4)))).set 10 ((q 9), .inl (cI, 100, .inl (upd (fun _ => 0) (0 : Int32).toNatClampNeg 7)))).set 11 ((q 10), .inl (cI, 100, .inl (upd (fun _ => 0) (0 : Int32).toNatClampNeg x4)))) ++ (((((((((xW o u cI cZ cJ).set 5 ((u 4), .inl (cI, 10, .inl (upd (fun _ => 0) (0 : Int32).toNatClampNeg 1)))).set 6 ((u 5), .inl (cI, 10, .inl (upd (fun _ => 0) (0 : Int32).toNatClampNeg 1)))).set 8 ((u 7), .inl (cI, 160, .inl (upd (fun _ => (-1)) (x2 : Int32).toNatClampNeg 7)))).set 9 ((u 8), .inl (cI, 160, .inl (upd (upd (fun _ => 0) (x2 : Int32).toNatClampNeg (-1)) (x2 : Int32).toNatClampNeg 0)))).set 10 ((u 9), .inl (cI, 160, .inl (upd (fun _ => 0) (x2 : Int32).toNatClampNeg x4)))).set 11 ((u 10), .inl (cI, 100, .inl (upd (fun _ => 0) (0 : Int32).toNatClampNeg 7)))).set 12 ((u 11), .inl (cI, 100, .inl (upd (fun _ => 0) (0 : Int32).toNatClampNeg x4)))) ++ [(ao, .inl (cJ, 1, .inr (.inl (vp_updL (fun _ => 0) (0 : Int32).toNatClampNeg 0))))])) H := hP
                      have hD : va_D (fun q : Nat => s.heap.size ≤ q) (((((((((mW om 0 q cI cZ).set 4 ((q 3), .inl (cI, 10, .inl (upd (fun _ => 0) (0 : Int32).toNatClampNeg 1)))).set 5 ((q 4), .inl (cI, 10, .inl (upd (fun _ => 0) (0 : Int32).toNatClampNeg 1)))).set 7 ((q 6), .inl (cI, 160, .inl (upd (fun _ => -1) (x2 : Int32).toNatClampNeg 7)))).set 8 ((q 7), .inl (cI, 160, .inl (upd (fun _ => 0) (x2 : Int32).toNatClampNeg 0)))).set 9 ((q 8), .inl (cI, 160, .inl (upd (fun _ => 0) (x2 : Int32).toNatClampNeg x4)))).set 10 ((q 9), .inl (cI, 100, .inl (upd (fun _ => 0) (0 : Int32).toNatClampNeg 7)))).set 11 ((q 10), .inl (cI, 100, .inl (upd (fun _ => 0) (0 : Int32).toNatClampNeg x4)))) ++ (((((((((xW o u cI cZ cJ).set 5 ((u 4), .inl (cI, 10, .inl (upd (fun _ => 0) (0 : Int32).toNatClampNeg 1)))).set 6 ((u 5), .inl (cI, 10, .inl (upd (fun _ => 0) (0 : Int32).toNatClampNeg 1)))).set 8 ((u 7), .inl (cI, 160, .inl (upd (fun _ => (-1)) (x2 : Int32).toNatClampNeg 7)))).set 9 ((u 8), .inl (cI, 160, .inl (upd (upd (fun _ => 0) (x2 : Int32).toNatClampNeg (-1)) (x2 : Int32).toNatClampNeg 0)))).set 10 ((u 9), .inl (cI, 160, .inl (upd (fun _ => 0) (x2 : Int32).toNatClampNeg x4)))).set 11 ((u 10), .inl (cI, 100, .inl (upd (fun _ => 0) (0 : Int32).toNatClampNeg 7)))).set 12 ((u 11), .inl (cI, 100, .inl (upd (fun _ => 0) (0 : Int32).toNatClampNeg x4)))) ++ [(ao, .inl (cJ, 1, .inr (.inl (vp_updL (fun _ => 0) (0 : Int32).toNatClampNeg 0))))])) := hD
                      refine lv_istore (lv' := [(6, .int 0), (5, .int 0), (4, .int 0), (3, .ref ao), (2, .ref om), (1, .ref o), (0, .ref b)]) hx hb dL_law_343 hl (by decide) rfl (fun ls hl => ?_)
                      refine lv_aload_n hx hb dL_law_345 rfl (lv_at hl 4 rfl) ?_
                      refine rdV (As := []) (ci := 9) S (c_X9_thrown_5 l D cI cZ cJ om q x2 x4 lo_x2 hi_x2 lo_x4 hi_x4) mi_X9_thrown kw_7_89 ⟨rfl, rfl⟩ ⟨Nat.le_of_ble_eq_true rfl, Nat.le_of_ble_eq_true rfl⟩ (va_Pl (ws := ((((((((mW om 0 q cI cZ).set 4 ((q 3), .inl (cI, 10, .inl (upd (fun _ => 0) (0 : Int32).toNatClampNeg 1)))).set 5 ((q 4), .inl (cI, 10, .inl (upd (fun _ => 0) (0 : Int32).toNatClampNeg 1)))).set 7 ((q 6), .inl (cI, 160, .inl (upd (fun _ => -1) (x2 : Int32).toNatClampNeg 7)))).set 8 ((q 7), .inl (cI, 160, .inl (upd (fun _ => 0) (x2 : Int32).toNatClampNeg 0)))).set 9 ((q 8), .inl (cI, 160, .inl (upd (fun _ => 0) (x2 : Int32).toNatClampNeg x4)))).set 10 ((q 9), .inl (cI, 100, .inl (upd (fun _ => 0) (0 : Int32).toNatClampNeg 7)))).set 11 ((q 10), .inl (cI, 100, .inl (upd (fun _ => 0) (0 : Int32).toNatClampNeg x4))))) (x := (((((((((xW o u cI cZ cJ).set 5 ((u 4), .inl (cI, 10, .inl (upd (fun _ => 0) (0 : Int32).toNatClampNeg 1)))).set 6 ((u 5), .inl (cI, 10, .inl (upd (fun _ => 0) (0 : Int32).toNatClampNeg 1)))).set 8 ((u 7), .inl (cI, 160, .inl (upd (fun _ => (-1)) (x2 : Int32).toNatClampNeg 7)))).set 9 ((u 8), .inl (cI, 160, .inl (upd (upd (fun _ => 0) (x2 : Int32).toNatClampNeg (-1)) (x2 : Int32).toNatClampNeg 0)))).set 10 ((u 9), .inl (cI, 160, .inl (upd (fun _ => 0) (x2 : Int32).toNatClampNeg x4)))).set 11 ((u 10), .inl (cI, 100, .inl (upd (fun _ => 0) (0 : Int32).toNatClampNeg 7)))).set 12 ((u 11), .inl (cI, 100, .inl (upd (fun _ => 0) (0 : Int32).toNatClampNeg x4)))) ++ [(ao, .inl (cJ, 1, .inr (.inl (vp_updL (fun _ => 0) (0 : Int32).toNatClampNeg 0))))])) hP) hK (k := 0) rfl rfl rfl hl.1 (Nat.le_of_ble_eq_true rfl) ⟨Nat.le_of_ble_eq_true rfl, Nat.le_of_ble_eq_true rfl⟩ dL_law_346 ?_
                      refine lv_iload hx hb dL_law_349 (lv_at hl 1 rfl) ?_
                      refine lv_icmp_eq (tgt := 356) hx hb dL_law_351 (by decide) (fun _ => ?_) (fun c => absurd c (by decide))
                      refine lv_iload hx hb dL_law_356 (lv_at hl 1 rfl) ?_
                      refine lv_if_ne (tgt := 373) hx hb dL_law_358 (by decide) (fun c => absurd c (by decide)) (fun _ => ?_)
                      refine lv_aload_n hx hb dL_law_361 rfl (lv_at hl 3 rfl) ?_
                      refine lv_iconst (v := 0) hx hb dL_law_362 (by decide) ?_
                      refine xlald (t0 := 2) (v := 0) S hK hP (q0 := 119) rfl rfl (vin rfl) rfl dL_law_363 ?_
                      refine lv_iload hx hb dL_law_364 (lv_at hl 0 rfl) ?_
                      refine lv_i2l (v := 0) hx hb dL_law_366 (by decide) ?_
                      refine xlcmp (v := 0) S dL_law_367 (by decide) ?_
                      refine lv_if_eq (tgt := 373) hx hb dL_law_368 (by decide) (fun _ => ?_) (fun c => absurd c (by decide))
                      refine lv_goto (tgt := 1519) hx hb dL_law_373 (by decide) ?_
                      exact law_tail (cells := 120) (slots := 12958) S hr hlocks hX hbl (lv_sub hl [2, 6] rfl) hS (Nat.le_of_ble_eq_true rfl) (Nat.le_of_ble_eq_true rfl)
                · have ne_x3_1 : ¬ x3 = 1 := d_310
                  have lo_x3 : 2 ≤ x3 := l_ne ne_x3_1 lo_x3 (by decide)
                  by_cases d_310 : x3 = 2
                  · have e_x3 : x3 = 2 := d_310
                    subst e_x3
                    by_cases d_310 : x4 = 0
                    · have e_x4 : x4 = 0 := d_310
                      subst e_x4
                      refine wrap (mW om 0 q cI cZ) (mid := ((xW o u cI cZ cJ) ++ [(ao, .inl (cJ, 1, .inr (.inl (fun _ => 0))))])) (As := [.ref o, .int 0, .int x2, .int 2, .int 0, .ref ao]) S (h_variable_11 l D cI cZ cJ o u ao hst ra ga H.size x2 lo_x2 hi_x2) msh_L_variable kw_5_229 rfl rfl ⟨Nat.le_of_ble_eq_true rfl, Nat.le_of_ble_eq_true rfl⟩ hP hD hK hS hA hB hC hl.1 (Nat.le_of_ble_eq_true rfl) ⟨Nat.le_of_ble_eq_true rfl, Nat.le_of_ble_eq_true rfl⟩ dL_law_310 (fun H locs hz hP hD hS => ?_)
                      have hP : va_P D vwCl ((mW om 0 q cI cZ) ++ (((((((((xW o u cI cZ cJ).set 5 ((u 4), .inl (cI, 10, .inl (upd (fun _ => 0) (0 : Int32).toNatClampNeg 1)))).set 6 ((u 5), .inl (cI, 10, .inl (upd (fun _ => 0) (0 : Int32).toNatClampNeg 1)))).set 8 ((u 7), .inl (cI, 160, .inl (upd (fun _ => (-1)) (x2 : Int32).toNatClampNeg 8)))).set 9 ((u 8), .inl (cI, 160, .inl (upd (upd (fun _ => 0) (x2 : Int32).toNatClampNeg (-1)) (x2 : Int32).toNatClampNeg 0)))).set 10 ((u 9), .inl (cI, 160, .inl (upd (fun _ => 0) (x2 : Int32).toNatClampNeg 0)))).set 11 ((u 10), .inl (cI, 100, .inl (upd (fun _ => 0) (0 : Int32).toNatClampNeg 8)))).set 12 ((u 11), .inl (cI, 100, .inl (upd (fun _ => 0) (0 : Int32).toNatClampNeg 0)))) ++ [(ao, .inl (cJ, 1, .inr (.inl (vp_updL (fun _ => 0) (0 : Int32).toNatClampNeg 0))))])) H := hP
                      have hD : va_D (fun q : Nat => s.heap.size ≤ q) ((mW om 0 q cI cZ) ++ (((((((((xW o u cI cZ cJ).set 5 ((u 4), .inl (cI, 10, .inl (upd (fun _ => 0) (0 : Int32).toNatClampNeg 1)))).set 6 ((u 5), .inl (cI, 10, .inl (upd (fun _ => 0) (0 : Int32).toNatClampNeg 1)))).set 8 ((u 7), .inl (cI, 160, .inl (upd (fun _ => (-1)) (x2 : Int32).toNatClampNeg 8)))).set 9 ((u 8), .inl (cI, 160, .inl (upd (upd (fun _ => 0) (x2 : Int32).toNatClampNeg (-1)) (x2 : Int32).toNatClampNeg 0)))).set 10 ((u 9), .inl (cI, 160, .inl (upd (fun _ => 0) (x2 : Int32).toNatClampNeg 0)))).set 11 ((u 10), .inl (cI, 100, .inl (upd (fun _ => 0) (0 : Int32).toNatClampNeg 8)))).set 12 ((u 11), .inl (cI, 100, .inl (upd (fun _ => 0) (0 : Int32).toNatClampNeg 0)))) ++ [(ao, .inl (cJ, 1, .inr (.inl (vp_updL (fun _ => 0) (0 : Int32).toNatClampNeg 0))))])) := hD
                      refine lv_istore (lv' := [(5, .int 0), (4, .int 0), (3, .ref ao), (2, .ref om), (1, .ref o), (0, .ref b)]) hx hb dL_law_313 hl (by decide) rfl (fun ls hl => ?_)
                      refine lv_aload_n hx hb dL_law_315 rfl (lv_at hl 3 rfl) ?_
                      refine lv_aload_n hx hb dL_law_316 rfl (lv_at hl 5 rfl) ?_
                      refine lv_iload hx hb dL_law_317 (lv_at hl 1 rfl) ?_
                      refine lv_iconst (v := 1) hx hb dL_law_319 (by decide) ?_
                      refine xiadd (v := 1) S dL_law_320 (by decide) ?_
                      refine xsld (v := 0) S hX hbl hbA hS (vin rfl) h1 dL_law_321 ?_
                      refine lv_aload_n hx hb dL_law_322 rfl (lv_at hl 5 rfl) ?_
                      refine lv_iload hx hb dL_law_323 (lv_at hl 1 rfl) ?_
                      refine lv_iconst (v := 2) hx hb dL_law_325 (by decide) ?_
                      refine xiadd (v := 2) S dL_law_326 (by decide) ?_
                      refine xsld (v := x2) S hX hbl hbA hS (vin rfl) h2 dL_law_327 ?_
                      refine lv_aload_n hx hb dL_law_328 rfl (lv_at hl 5 rfl) ?_
                      refine lv_iload hx hb dL_law_329 (lv_at hl 1 rfl) ?_
                      refine lv_iconst (v := 3) hx hb dL_law_331 (by decide) ?_
                      refine xiadd (v := 3) S dL_law_332 (by decide) ?_
                      refine xsld (v := 2) S hX hbl hbA hS (vin rfl) h3 dL_law_333 ?_
                      refine lv_aload_n hx hb dL_law_334 rfl (lv_at hl 5 rfl) ?_
                      refine lv_iload hx hb dL_law_335 (lv_at hl 1 rfl) ?_
                      refine lv_iconst (v := 4) hx hb dL_law_337 (by decide) ?_
                      refine xiadd (v := 4) S dL_law_338 (by decide) ?_
                      refine xsld (v := 0) S hX hbl hbA hS (vin rfl) h4 dL_law_339 ?_
                      refine fVi [] (((((((((xW o u cI cZ cJ).set 5 ((u 4), .inl (cI, 10, .inl (upd (fun _ => 0) (0 : Int32).toNatClampNeg 1)))).set 6 ((u 5), .inl (cI, 10, .inl (upd (fun _ => 0) (0 : Int32).toNatClampNeg 1)))).set 8 ((u 7), .inl (cI, 160, .inl (upd (fun _ => (-1)) (x2 : Int32).toNatClampNeg 8)))).set 9 ((u 8), .inl (cI, 160, .inl (upd (upd (fun _ => 0) (x2 : Int32).toNatClampNeg (-1)) (x2 : Int32).toNatClampNeg 0)))).set 10 ((u 9), .inl (cI, 160, .inl (upd (fun _ => 0) (x2 : Int32).toNatClampNeg 0)))).set 11 ((u 10), .inl (cI, 100, .inl (upd (fun _ => 0) (0 : Int32).toNatClampNeg 8)))).set 12 ((u 11), .inl (cI, 100, .inl (upd (fun _ => 0) (0 : Int32).toNatClampNeg 0)))) ++ [(ao, .inl (cJ, 1, .inr (.inl (vp_updL (fun _ => 0) (0 : Int32).toNatClampNeg 0))))]) (mid := (mW om 0 q cI cZ)) (As := [.int 0, .int x2, .int 2, .int 0]) (ci := 9) S (c_X9_variable_11 l D cI cZ cJ om q H.size x2 lo_x2 hi_x2) mi_X9_variable kw_7_123 rfl rfl ⟨Nat.le_of_ble_eq_true rfl, Nat.le_of_ble_eq_true rfl⟩ hP hD hK hS hA mW_0 rfl rfl hl.1 (Nat.le_of_ble_eq_true rfl) ⟨Nat.le_of_ble_eq_true rfl, Nat.le_of_ble_eq_true rfl⟩ dL_law_340 (fun H locs hz hP hD hS => ?_)
                      have hP : va_P D vwCl (((((((((mW om 0 q cI cZ).set 4 ((q 3), .inl (cI, 10, .inl (upd (fun _ => 0) (0 : Int32).toNatClampNeg 1)))).set 5 ((q 4), .inl (cI, 10, .inl (upd (fun _ => 0) (0 : Int32).toNatClampNeg 1)))).set 7 ((q 6), .inl (cI, 160, .inl (upd (fun _ => -1) (x2 : Int32).toNatClampNeg 8)))).set 8 ((q 7), .inl (cI, 160, .inl (upd (fun _ => 0) (x2 : Int32).toNatClampNeg 0)))).set 9 ((q 8), .inl (cI, 160, .inl (upd (fun _ => 0) (x2 : Int32).toNatClampNeg 0)))).set 10 ((q 9), .inl (cI, 100, .inl (upd (fun _ => 0) (0 : Int32).toNatClampNeg 8)))).set 11 ((q 10), .inl (cI, 100, .inl (upd (fun _ => 0) (0 : Int32).toNatClampNeg 0)))) ++ (((((((((xW o u cI cZ cJ).set 5 ((u 4), .inl (cI, 10, .inl (upd (fun _ => 0) (0 : Int32).toNatClampNeg 1)))).set 6 ((u 5), .inl (cI, 10, .inl (upd (fun _ => 0) (0 : Int32).toNatClampNeg 1)))).set 8 ((u 7), .inl (cI, 160, .inl (upd (fun _ => (-1)) (x2 : Int32).toNatClampNeg 8)))).set 9 ((u 8), .inl (cI, 160, .inl (upd (upd (fun _ => 0) (x2 : Int32).toNatClampNeg (-1)) (x2 : Int32).toNatClampNeg 0)))).set 10 ((u 9), .inl (cI, 160, .inl (upd (fun _ => 0) (x2 : Int32).toNatClampNeg 0)))).set 11 ((u 10), .inl (cI, 100, .inl (upd (fun _ => 0) (0 : Int32).toNatClampNeg 8)))).set 12 ((u 11), .inl (cI, 100, .inl (upd (fun _ => 0) (0 : Int32).toNatClampNeg 0)))) ++ [(ao, .inl (cJ, 1, .inr (.inl (vp_updL (fun _ => 0) (0 : Int32).toNatClampNeg 0))))])) H := hP
                      have hD : va_D (fun q : Nat => s.heap.size ≤ q) (((((((((mW om 0 q cI cZ).set 4 ((q 3), .inl (cI, 10, .inl (upd (fun _ => 0) (0 : Int32).toNatClampNeg 1)))).set 5 ((q 4), .inl (cI, 10, .inl (upd (fun _ => 0) (0 : Int32).toNatClampNeg 1)))).set 7 ((q 6), .inl (cI, 160, .inl (upd (fun _ => -1) (x2 : Int32).toNatClampNeg 8)))).set 8 ((q 7), .inl (cI, 160, .inl (upd (fun _ => 0) (x2 : Int32).toNatClampNeg 0)))).set 9 ((q 8), .inl (cI, 160, .inl (upd (fun _ => 0) (x2 : Int32).toNatClampNeg 0)))).set 10 ((q 9), .inl (cI, 100, .inl (upd (fun _ => 0) (0 : Int32).toNatClampNeg 8)))).set 11 ((q 10), .inl (cI, 100, .inl (upd (fun _ => 0) (0 : Int32).toNatClampNeg 0)))) ++ (((((((((xW o u cI cZ cJ).set 5 ((u 4), .inl (cI, 10, .inl (upd (fun _ => 0) (0 : Int32).toNatClampNeg 1)))).set 6 ((u 5), .inl (cI, 10, .inl (upd (fun _ => 0) (0 : Int32).toNatClampNeg 1)))).set 8 ((u 7), .inl (cI, 160, .inl (upd (fun _ => (-1)) (x2 : Int32).toNatClampNeg 8)))).set 9 ((u 8), .inl (cI, 160, .inl (upd (upd (fun _ => 0) (x2 : Int32).toNatClampNeg (-1)) (x2 : Int32).toNatClampNeg 0)))).set 10 ((u 9), .inl (cI, 160, .inl (upd (fun _ => 0) (x2 : Int32).toNatClampNeg 0)))).set 11 ((u 10), .inl (cI, 100, .inl (upd (fun _ => 0) (0 : Int32).toNatClampNeg 8)))).set 12 ((u 11), .inl (cI, 100, .inl (upd (fun _ => 0) (0 : Int32).toNatClampNeg 0)))) ++ [(ao, .inl (cJ, 1, .inr (.inl (vp_updL (fun _ => 0) (0 : Int32).toNatClampNeg 0))))])) := hD
                      refine lv_istore (lv' := [(6, .int 0), (5, .int 0), (4, .int 0), (3, .ref ao), (2, .ref om), (1, .ref o), (0, .ref b)]) hx hb dL_law_343 hl (by decide) rfl (fun ls hl => ?_)
                      refine lv_aload_n hx hb dL_law_345 rfl (lv_at hl 4 rfl) ?_
                      refine rdV (As := []) (ci := 9) S (c_X9_thrown_6 l D cI cZ cJ om q x2 lo_x2 hi_x2) mi_X9_thrown kw_7_89 ⟨rfl, rfl⟩ ⟨Nat.le_of_ble_eq_true rfl, Nat.le_of_ble_eq_true rfl⟩ (va_Pl (ws := ((((((((mW om 0 q cI cZ).set 4 ((q 3), .inl (cI, 10, .inl (upd (fun _ => 0) (0 : Int32).toNatClampNeg 1)))).set 5 ((q 4), .inl (cI, 10, .inl (upd (fun _ => 0) (0 : Int32).toNatClampNeg 1)))).set 7 ((q 6), .inl (cI, 160, .inl (upd (fun _ => -1) (x2 : Int32).toNatClampNeg 8)))).set 8 ((q 7), .inl (cI, 160, .inl (upd (fun _ => 0) (x2 : Int32).toNatClampNeg 0)))).set 9 ((q 8), .inl (cI, 160, .inl (upd (fun _ => 0) (x2 : Int32).toNatClampNeg 0)))).set 10 ((q 9), .inl (cI, 100, .inl (upd (fun _ => 0) (0 : Int32).toNatClampNeg 8)))).set 11 ((q 10), .inl (cI, 100, .inl (upd (fun _ => 0) (0 : Int32).toNatClampNeg 0))))) (x := (((((((((xW o u cI cZ cJ).set 5 ((u 4), .inl (cI, 10, .inl (upd (fun _ => 0) (0 : Int32).toNatClampNeg 1)))).set 6 ((u 5), .inl (cI, 10, .inl (upd (fun _ => 0) (0 : Int32).toNatClampNeg 1)))).set 8 ((u 7), .inl (cI, 160, .inl (upd (fun _ => (-1)) (x2 : Int32).toNatClampNeg 8)))).set 9 ((u 8), .inl (cI, 160, .inl (upd (upd (fun _ => 0) (x2 : Int32).toNatClampNeg (-1)) (x2 : Int32).toNatClampNeg 0)))).set 10 ((u 9), .inl (cI, 160, .inl (upd (fun _ => 0) (x2 : Int32).toNatClampNeg 0)))).set 11 ((u 10), .inl (cI, 100, .inl (upd (fun _ => 0) (0 : Int32).toNatClampNeg 8)))).set 12 ((u 11), .inl (cI, 100, .inl (upd (fun _ => 0) (0 : Int32).toNatClampNeg 0)))) ++ [(ao, .inl (cJ, 1, .inr (.inl (vp_updL (fun _ => 0) (0 : Int32).toNatClampNeg 0))))])) hP) hK (k := 0) rfl rfl rfl hl.1 (Nat.le_of_ble_eq_true rfl) ⟨Nat.le_of_ble_eq_true rfl, Nat.le_of_ble_eq_true rfl⟩ dL_law_346 ?_
                      refine lv_iload hx hb dL_law_349 (lv_at hl 1 rfl) ?_
                      refine lv_icmp_eq (tgt := 356) hx hb dL_law_351 (by decide) (fun _ => ?_) (fun c => absurd c (by decide))
                      refine lv_iload hx hb dL_law_356 (lv_at hl 1 rfl) ?_
                      refine lv_if_ne (tgt := 373) hx hb dL_law_358 (by decide) (fun c => absurd c (by decide)) (fun _ => ?_)
                      refine lv_aload_n hx hb dL_law_361 rfl (lv_at hl 3 rfl) ?_
                      refine lv_iconst (v := 0) hx hb dL_law_362 (by decide) ?_
                      refine xlald (t0 := 2) (v := 0) S hK hP (q0 := 119) rfl rfl (vin rfl) rfl dL_law_363 ?_
                      refine lv_iload hx hb dL_law_364 (lv_at hl 0 rfl) ?_
                      refine lv_i2l (v := 0) hx hb dL_law_366 (by decide) ?_
                      refine xlcmp (v := 0) S dL_law_367 (by decide) ?_
                      refine lv_if_eq (tgt := 373) hx hb dL_law_368 (by decide) (fun _ => ?_) (fun c => absurd c (by decide))
                      refine lv_goto (tgt := 1519) hx hb dL_law_373 (by decide) ?_
                      exact law_tail (cells := 120) (slots := 12958) S hr hlocks hX hbl (lv_sub hl [2, 6] rfl) hS (Nat.le_of_ble_eq_true rfl) (Nat.le_of_ble_eq_true rfl)
                    · have ne_x4_0 : ¬ x4 = 0 := d_310
                      refine wrap (mW om 0 q cI cZ) (mid := ((xW o u cI cZ cJ) ++ [(ao, .inl (cJ, 1, .inr (.inl (fun _ => 0))))])) (As := [.ref o, .int 0, .int x2, .int 2, .int x4, .ref ao]) S (h_variable_12 l D cI cZ cJ o u ao hst ra ga H.size x2 x4 lo_x2 hi_x2 ne_x4_0) msh_L_variable kw_5_229 rfl rfl ⟨Nat.le_of_ble_eq_true rfl, Nat.le_of_ble_eq_true rfl⟩ hP hD hK hS hA hB hC hl.1 (Nat.le_of_ble_eq_true rfl) ⟨Nat.le_of_ble_eq_true rfl, Nat.le_of_ble_eq_true rfl⟩ dL_law_310 (fun H locs hz hP hD hS => ?_)
                      have hP : va_P D vwCl ((mW om 0 q cI cZ) ++ ((xW o u cI cZ cJ) ++ [(ao, .inl (cJ, 1, .inr (.inl (fun _ => 0))))])) H := hP
                      have hD : va_D (fun q : Nat => s.heap.size ≤ q) ((mW om 0 q cI cZ) ++ ((xW o u cI cZ cJ) ++ [(ao, .inl (cJ, 1, .inr (.inl (fun _ => 0))))])) := hD
                      refine lv_istore (lv' := [(5, .int 2), (4, .int 0), (3, .ref ao), (2, .ref om), (1, .ref o), (0, .ref b)]) hx hb dL_law_313 hl (by decide) rfl (fun ls hl => ?_)
                      refine lv_aload_n hx hb dL_law_315 rfl (lv_at hl 3 rfl) ?_
                      refine lv_aload_n hx hb dL_law_316 rfl (lv_at hl 5 rfl) ?_
                      refine lv_iload hx hb dL_law_317 (lv_at hl 1 rfl) ?_
                      refine lv_iconst (v := 1) hx hb dL_law_319 (by decide) ?_
                      refine xiadd (v := 1) S dL_law_320 (by decide) ?_
                      refine xsld (v := 0) S hX hbl hbA hS (vin rfl) h1 dL_law_321 ?_
                      refine lv_aload_n hx hb dL_law_322 rfl (lv_at hl 5 rfl) ?_
                      refine lv_iload hx hb dL_law_323 (lv_at hl 1 rfl) ?_
                      refine lv_iconst (v := 2) hx hb dL_law_325 (by decide) ?_
                      refine xiadd (v := 2) S dL_law_326 (by decide) ?_
                      refine xsld (v := x2) S hX hbl hbA hS (vin rfl) h2 dL_law_327 ?_
                      refine lv_aload_n hx hb dL_law_328 rfl (lv_at hl 5 rfl) ?_
                      refine lv_iload hx hb dL_law_329 (lv_at hl 1 rfl) ?_
                      refine lv_iconst (v := 3) hx hb dL_law_331 (by decide) ?_
                      refine xiadd (v := 3) S dL_law_332 (by decide) ?_
                      refine xsld (v := 2) S hX hbl hbA hS (vin rfl) h3 dL_law_333 ?_
                      refine lv_aload_n hx hb dL_law_334 rfl (lv_at hl 5 rfl) ?_
                      refine lv_iload hx hb dL_law_335 (lv_at hl 1 rfl) ?_
                      refine lv_iconst (v := 4) hx hb dL_law_337 (by decide) ?_
                      refine xiadd (v := 4) S dL_law_338 (by decide) ?_
                      refine xsld (v := x4) S hX hbl hbA hS (vin rfl) h4 dL_law_339 ?_
                      refine fVi [] ((xW o u cI cZ cJ) ++ [(ao, .inl (cJ, 1, .inr (.inl (fun _ => 0))))]) (mid := (mW om 0 q cI cZ)) (As := [.int 0, .int x2, .int 2, .int x4]) (ci := 9) S (c_X9_variable_12 l D cI cZ cJ om q H.size x2 x4 lo_x2 hi_x2 ne_x4_0) mi_X9_variable kw_7_123 rfl rfl ⟨Nat.le_of_ble_eq_true rfl, Nat.le_of_ble_eq_true rfl⟩ hP hD hK hS hA mW_0 rfl rfl hl.1 (Nat.le_of_ble_eq_true rfl) ⟨Nat.le_of_ble_eq_true rfl, Nat.le_of_ble_eq_true rfl⟩ dL_law_340 (fun H locs hz hP hD hS => ?_)
                      have hP : va_P D vwCl ((mW om 2 q cI cZ) ++ ((xW o u cI cZ cJ) ++ [(ao, .inl (cJ, 1, .inr (.inl (fun _ => 0))))])) H := hP
                      have hD : va_D (fun q : Nat => s.heap.size ≤ q) ((mW om 2 q cI cZ) ++ ((xW o u cI cZ cJ) ++ [(ao, .inl (cJ, 1, .inr (.inl (fun _ => 0))))])) := hD
                      refine lv_istore (lv' := [(6, .int 0), (5, .int 2), (4, .int 0), (3, .ref ao), (2, .ref om), (1, .ref o), (0, .ref b)]) hx hb dL_law_343 hl (by decide) rfl (fun ls hl => ?_)
                      refine lv_aload_n hx hb dL_law_345 rfl (lv_at hl 4 rfl) ?_
                      refine rdV (As := []) (ci := 9) S (c_X9_thrown_1 l D cI cZ cJ om q) mi_X9_thrown kw_7_89 ⟨rfl, rfl⟩ ⟨Nat.le_of_ble_eq_true rfl, Nat.le_of_ble_eq_true rfl⟩ (va_Pl (ws := (mW om 2 q cI cZ)) (x := ((xW o u cI cZ cJ) ++ [(ao, .inl (cJ, 1, .inr (.inl (fun _ => 0))))])) hP) hK mW_0 rfl rfl hl.1 (Nat.le_of_ble_eq_true rfl) ⟨Nat.le_of_ble_eq_true rfl, Nat.le_of_ble_eq_true rfl⟩ dL_law_346 ?_
                      refine lv_iload hx hb dL_law_349 (lv_at hl 1 rfl) ?_
                      refine lv_icmp_eq (tgt := 356) hx hb dL_law_351 (by decide) (fun _ => ?_) (fun c => absurd c (by decide))
                      refine lv_iload hx hb dL_law_356 (lv_at hl 1 rfl) ?_
                      refine lv_if_ne (tgt := 373) hx hb dL_law_358 (by decide) (fun _ => ?_) (fun c => absurd c (by decide))
                      refine lv_goto (tgt := 1519) hx hb dL_law_373 (by decide) ?_
                      exact law_tail (cells := 121) (slots := 12964) S hr hlocks hX hbl (lv_sub hl [2, 6] rfl) hS (Nat.le_of_ble_eq_true rfl) (Nat.le_of_ble_eq_true rfl)
                  · have ne_x3_2 : ¬ x3 = 2 := d_310
                    have lo_x3 : 3 ≤ x3 := l_ne ne_x3_2 lo_x3 (by decide)
                    have e_x3 : x3 = 3 := b_eq lo_x3 hi_x3
                    subst e_x3
                    by_cases d_310 : x4 < (-99)
                    · have hi_x4 : x4 ≤ (-100) := u_lt d_310 (by decide)
                      refine wrap (mW om 0 q cI cZ) (mid := ((xW o u cI cZ cJ) ++ [(ao, .inl (cJ, 1, .inr (.inl (fun _ => 0))))])) (As := [.ref o, .int 0, .int x2, .int 3, .int x4, .ref ao]) S (h_variable_13 l D cI cZ cJ o u ao hst ra ga H.size x2 x4 lo_x2 hi_x2 hi_x4) msh_L_variable kw_5_229 rfl rfl ⟨Nat.le_of_ble_eq_true rfl, Nat.le_of_ble_eq_true rfl⟩ hP hD hK hS hA hB hC hl.1 (Nat.le_of_ble_eq_true rfl) ⟨Nat.le_of_ble_eq_true rfl, Nat.le_of_ble_eq_true rfl⟩ dL_law_310 (fun H locs hz hP hD hS => ?_)
                      have hP : va_P D vwCl ((mW om 0 q cI cZ) ++ ((xW o u cI cZ cJ) ++ [(ao, .inl (cJ, 1, .inr (.inl (fun _ => 0))))])) H := hP
                      have hD : va_D (fun q : Nat => s.heap.size ≤ q) ((mW om 0 q cI cZ) ++ ((xW o u cI cZ cJ) ++ [(ao, .inl (cJ, 1, .inr (.inl (fun _ => 0))))])) := hD
                      refine lv_istore (lv' := [(5, .int 2), (4, .int 0), (3, .ref ao), (2, .ref om), (1, .ref o), (0, .ref b)]) hx hb dL_law_313 hl (by decide) rfl (fun ls hl => ?_)
                      refine lv_aload_n hx hb dL_law_315 rfl (lv_at hl 3 rfl) ?_
                      refine lv_aload_n hx hb dL_law_316 rfl (lv_at hl 5 rfl) ?_
                      refine lv_iload hx hb dL_law_317 (lv_at hl 1 rfl) ?_
                      refine lv_iconst (v := 1) hx hb dL_law_319 (by decide) ?_
                      refine xiadd (v := 1) S dL_law_320 (by decide) ?_
                      refine xsld (v := 0) S hX hbl hbA hS (vin rfl) h1 dL_law_321 ?_
                      refine lv_aload_n hx hb dL_law_322 rfl (lv_at hl 5 rfl) ?_
                      refine lv_iload hx hb dL_law_323 (lv_at hl 1 rfl) ?_
                      refine lv_iconst (v := 2) hx hb dL_law_325 (by decide) ?_
                      refine xiadd (v := 2) S dL_law_326 (by decide) ?_
                      refine xsld (v := x2) S hX hbl hbA hS (vin rfl) h2 dL_law_327 ?_
                      refine lv_aload_n hx hb dL_law_328 rfl (lv_at hl 5 rfl) ?_
                      refine lv_iload hx hb dL_law_329 (lv_at hl 1 rfl) ?_
                      refine lv_iconst (v := 3) hx hb dL_law_331 (by decide) ?_
                      refine xiadd (v := 3) S dL_law_332 (by decide) ?_
                      refine xsld (v := 3) S hX hbl hbA hS (vin rfl) h3 dL_law_333 ?_
                      refine lv_aload_n hx hb dL_law_334 rfl (lv_at hl 5 rfl) ?_
                      refine lv_iload hx hb dL_law_335 (lv_at hl 1 rfl) ?_
                      refine lv_iconst (v := 4) hx hb dL_law_337 (by decide) ?_
                      refine xiadd (v := 4) S dL_law_338 (by decide) ?_
                      refine xsld (v := x4) S hX hbl hbA hS (vin rfl) h4 dL_law_339 ?_
                      refine fVi [] ((xW o u cI cZ cJ) ++ [(ao, .inl (cJ, 1, .inr (.inl (fun _ => 0))))]) (mid := (mW om 0 q cI cZ)) (As := [.int 0, .int x2, .int 3, .int x4]) (ci := 9) S (c_X9_variable_13 l D cI cZ cJ om q H.size x2 x4 lo_x2 hi_x2 hi_x4) mi_X9_variable kw_7_123 rfl rfl ⟨Nat.le_of_ble_eq_true rfl, Nat.le_of_ble_eq_true rfl⟩ hP hD hK hS hA mW_0 rfl rfl hl.1 (Nat.le_of_ble_eq_true rfl) ⟨Nat.le_of_ble_eq_true rfl, Nat.le_of_ble_eq_true rfl⟩ dL_law_340 (fun H locs hz hP hD hS => ?_)
                      have hP : va_P D vwCl ((mW om 2 q cI cZ) ++ ((xW o u cI cZ cJ) ++ [(ao, .inl (cJ, 1, .inr (.inl (fun _ => 0))))])) H := hP
                      have hD : va_D (fun q : Nat => s.heap.size ≤ q) ((mW om 2 q cI cZ) ++ ((xW o u cI cZ cJ) ++ [(ao, .inl (cJ, 1, .inr (.inl (fun _ => 0))))])) := hD
                      refine lv_istore (lv' := [(6, .int 0), (5, .int 2), (4, .int 0), (3, .ref ao), (2, .ref om), (1, .ref o), (0, .ref b)]) hx hb dL_law_343 hl (by decide) rfl (fun ls hl => ?_)
                      refine lv_aload_n hx hb dL_law_345 rfl (lv_at hl 4 rfl) ?_
                      refine rdV (As := []) (ci := 9) S (c_X9_thrown_1 l D cI cZ cJ om q) mi_X9_thrown kw_7_89 ⟨rfl, rfl⟩ ⟨Nat.le_of_ble_eq_true rfl, Nat.le_of_ble_eq_true rfl⟩ (va_Pl (ws := (mW om 2 q cI cZ)) (x := ((xW o u cI cZ cJ) ++ [(ao, .inl (cJ, 1, .inr (.inl (fun _ => 0))))])) hP) hK mW_0 rfl rfl hl.1 (Nat.le_of_ble_eq_true rfl) ⟨Nat.le_of_ble_eq_true rfl, Nat.le_of_ble_eq_true rfl⟩ dL_law_346 ?_
                      refine lv_iload hx hb dL_law_349 (lv_at hl 1 rfl) ?_
                      refine lv_icmp_eq (tgt := 356) hx hb dL_law_351 (by decide) (fun _ => ?_) (fun c => absurd c (by decide))
                      refine lv_iload hx hb dL_law_356 (lv_at hl 1 rfl) ?_
                      refine lv_if_ne (tgt := 373) hx hb dL_law_358 (by decide) (fun _ => ?_) (fun c => absurd c (by decide))
                      refine lv_goto (tgt := 1519) hx hb dL_law_373 (by decide) ?_
                      exact law_tail (cells := 121) (slots := 12964) S hr hlocks hX hbl (lv_sub hl [2, 6] rfl) hS (Nat.le_of_ble_eq_true rfl) (Nat.le_of_ble_eq_true rfl)
                    · have lo_x4 : (-99) ≤ x4 := l_nlt d_310
                      by_cases d_310 : 99 < x4
                      · have lo_x4 : 100 ≤ x4 := l_gt d_310 (by decide)
                        refine wrap (mW om 0 q cI cZ) (mid := ((xW o u cI cZ cJ) ++ [(ao, .inl (cJ, 1, .inr (.inl (fun _ => 0))))])) (As := [.ref o, .int 0, .int x2, .int 3, .int x4, .ref ao]) S (h_variable_14 l D cI cZ cJ o u ao hst ra ga H.size x2 x4 lo_x2 hi_x2 lo_x4) msh_L_variable kw_5_229 rfl rfl ⟨Nat.le_of_ble_eq_true rfl, Nat.le_of_ble_eq_true rfl⟩ hP hD hK hS hA hB hC hl.1 (Nat.le_of_ble_eq_true rfl) ⟨Nat.le_of_ble_eq_true rfl, Nat.le_of_ble_eq_true rfl⟩ dL_law_310 (fun H locs hz hP hD hS => ?_)
                        have hP : va_P D vwCl ((mW om 0 q cI cZ) ++ ((xW o u cI cZ cJ) ++ [(ao, .inl (cJ, 1, .inr (.inl (fun _ => 0))))])) H := hP
                        have hD : va_D (fun q : Nat => s.heap.size ≤ q) ((mW om 0 q cI cZ) ++ ((xW o u cI cZ cJ) ++ [(ao, .inl (cJ, 1, .inr (.inl (fun _ => 0))))])) := hD
                        refine lv_istore (lv' := [(5, .int 2), (4, .int 0), (3, .ref ao), (2, .ref om), (1, .ref o), (0, .ref b)]) hx hb dL_law_313 hl (by decide) rfl (fun ls hl => ?_)
                        refine lv_aload_n hx hb dL_law_315 rfl (lv_at hl 3 rfl) ?_
                        refine lv_aload_n hx hb dL_law_316 rfl (lv_at hl 5 rfl) ?_
                        refine lv_iload hx hb dL_law_317 (lv_at hl 1 rfl) ?_
                        refine lv_iconst (v := 1) hx hb dL_law_319 (by decide) ?_
                        refine xiadd (v := 1) S dL_law_320 (by decide) ?_
                        refine xsld (v := 0) S hX hbl hbA hS (vin rfl) h1 dL_law_321 ?_
                        refine lv_aload_n hx hb dL_law_322 rfl (lv_at hl 5 rfl) ?_
                        refine lv_iload hx hb dL_law_323 (lv_at hl 1 rfl) ?_
                        refine lv_iconst (v := 2) hx hb dL_law_325 (by decide) ?_
                        refine xiadd (v := 2) S dL_law_326 (by decide) ?_
                        refine xsld (v := x2) S hX hbl hbA hS (vin rfl) h2 dL_law_327 ?_
                        refine lv_aload_n hx hb dL_law_328 rfl (lv_at hl 5 rfl) ?_
                        refine lv_iload hx hb dL_law_329 (lv_at hl 1 rfl) ?_
                        refine lv_iconst (v := 3) hx hb dL_law_331 (by decide) ?_
                        refine xiadd (v := 3) S dL_law_332 (by decide) ?_
                        refine xsld (v := 3) S hX hbl hbA hS (vin rfl) h3 dL_law_333 ?_
                        refine lv_aload_n hx hb dL_law_334 rfl (lv_at hl 5 rfl) ?_
                        refine lv_iload hx hb dL_law_335 (lv_at hl 1 rfl) ?_
                        refine lv_iconst (v := 4) hx hb dL_law_337 (by decide) ?_
                        refine xiadd (v := 4) S dL_law_338 (by decide) ?_
                        refine xsld (v := x4) S hX hbl hbA hS (vin rfl) h4 dL_law_339 ?_
                        refine fVi [] ((xW o u cI cZ cJ) ++ [(ao, .inl (cJ, 1, .inr (.inl (fun _ => 0))))]) (mid := (mW om 0 q cI cZ)) (As := [.int 0, .int x2, .int 3, .int x4]) (ci := 9) S (c_X9_variable_14 l D cI cZ cJ om q H.size x2 x4 lo_x2 hi_x2 lo_x4) mi_X9_variable kw_7_123 rfl rfl ⟨Nat.le_of_ble_eq_true rfl, Nat.le_of_ble_eq_true rfl⟩ hP hD hK hS hA mW_0 rfl rfl hl.1 (Nat.le_of_ble_eq_true rfl) ⟨Nat.le_of_ble_eq_true rfl, Nat.le_of_ble_eq_true rfl⟩ dL_law_340 (fun H locs hz hP hD hS => ?_)
                        have hP : va_P D vwCl ((mW om 2 q cI cZ) ++ ((xW o u cI cZ cJ) ++ [(ao, .inl (cJ, 1, .inr (.inl (fun _ => 0))))])) H := hP
                        have hD : va_D (fun q : Nat => s.heap.size ≤ q) ((mW om 2 q cI cZ) ++ ((xW o u cI cZ cJ) ++ [(ao, .inl (cJ, 1, .inr (.inl (fun _ => 0))))])) := hD
                        refine lv_istore (lv' := [(6, .int 0), (5, .int 2), (4, .int 0), (3, .ref ao), (2, .ref om), (1, .ref o), (0, .ref b)]) hx hb dL_law_343 hl (by decide) rfl (fun ls hl => ?_)
                        refine lv_aload_n hx hb dL_law_345 rfl (lv_at hl 4 rfl) ?_
                        refine rdV (As := []) (ci := 9) S (c_X9_thrown_1 l D cI cZ cJ om q) mi_X9_thrown kw_7_89 ⟨rfl, rfl⟩ ⟨Nat.le_of_ble_eq_true rfl, Nat.le_of_ble_eq_true rfl⟩ (va_Pl (ws := (mW om 2 q cI cZ)) (x := ((xW o u cI cZ cJ) ++ [(ao, .inl (cJ, 1, .inr (.inl (fun _ => 0))))])) hP) hK mW_0 rfl rfl hl.1 (Nat.le_of_ble_eq_true rfl) ⟨Nat.le_of_ble_eq_true rfl, Nat.le_of_ble_eq_true rfl⟩ dL_law_346 ?_
                        refine lv_iload hx hb dL_law_349 (lv_at hl 1 rfl) ?_
                        refine lv_icmp_eq (tgt := 356) hx hb dL_law_351 (by decide) (fun _ => ?_) (fun c => absurd c (by decide))
                        refine lv_iload hx hb dL_law_356 (lv_at hl 1 rfl) ?_
                        refine lv_if_ne (tgt := 373) hx hb dL_law_358 (by decide) (fun _ => ?_) (fun c => absurd c (by decide))
                        refine lv_goto (tgt := 1519) hx hb dL_law_373 (by decide) ?_
                        exact law_tail (cells := 121) (slots := 12964) S hr hlocks hX hbl (lv_sub hl [2, 6] rfl) hS (Nat.le_of_ble_eq_true rfl) (Nat.le_of_ble_eq_true rfl)
                      · have hi_x4 : x4 ≤ 99 := u_ngt d_310
                        refine wrap (mW om 0 q cI cZ) (mid := ((xW o u cI cZ cJ) ++ [(ao, .inl (cJ, 1, .inr (.inl (fun _ => 0))))])) (As := [.ref o, .int 0, .int x2, .int 3, .int x4, .ref ao]) S (h_variable_15 l D cI cZ cJ o u ao hst ra ga H.size x2 x4 lo_x2 hi_x2 lo_x4 hi_x4) msh_L_variable kw_5_229 rfl rfl ⟨Nat.le_of_ble_eq_true rfl, Nat.le_of_ble_eq_true rfl⟩ hP hD hK hS hA hB hC hl.1 (Nat.le_of_ble_eq_true rfl) ⟨Nat.le_of_ble_eq_true rfl, Nat.le_of_ble_eq_true rfl⟩ dL_law_310 (fun H locs hz hP hD hS => ?_)
                        have hP : va_P D vwCl ((mW om 0 q cI cZ) ++ ((((((xW o u cI cZ cJ).set 5 ((u 4), .inl (cI, 10, .inl (upd (fun _ => 0) (0 : Int32).toNatClampNeg 1)))).set 8 ((u 7), .inl (cI, 160, .inl (upd (fun _ => (-1)) (x2 : Int32).toNatClampNeg 9)))).set 9 ((u 8), .inl (cI, 160, .inl (upd (fun _ => 0) (x2 : Int32).toNatClampNeg (-1))))).set 10 ((u 9), .inl (cI, 160, .inl (upd (fun _ => 0) (x2 : Int32).toNatClampNeg x4)))) ++ [(ao, .inl (cJ, 1, .inr (.inl (vp_updL (fun _ => 0) (0 : Int32).toNatClampNeg (-1)))))])) H := hP
                        have hD : va_D (fun q : Nat => s.heap.size ≤ q) ((mW om 0 q cI cZ) ++ ((((((xW o u cI cZ cJ).set 5 ((u 4), .inl (cI, 10, .inl (upd (fun _ => 0) (0 : Int32).toNatClampNeg 1)))).set 8 ((u 7), .inl (cI, 160, .inl (upd (fun _ => (-1)) (x2 : Int32).toNatClampNeg 9)))).set 9 ((u 8), .inl (cI, 160, .inl (upd (fun _ => 0) (x2 : Int32).toNatClampNeg (-1))))).set 10 ((u 9), .inl (cI, 160, .inl (upd (fun _ => 0) (x2 : Int32).toNatClampNeg x4)))) ++ [(ao, .inl (cJ, 1, .inr (.inl (vp_updL (fun _ => 0) (0 : Int32).toNatClampNeg (-1)))))])) := hD
                        refine lv_istore (lv' := [(5, .int 0), (4, .int 0), (3, .ref ao), (2, .ref om), (1, .ref o), (0, .ref b)]) hx hb dL_law_313 hl (by decide) rfl (fun ls hl => ?_)
                        refine lv_aload_n hx hb dL_law_315 rfl (lv_at hl 3 rfl) ?_
                        refine lv_aload_n hx hb dL_law_316 rfl (lv_at hl 5 rfl) ?_
                        refine lv_iload hx hb dL_law_317 (lv_at hl 1 rfl) ?_
                        refine lv_iconst (v := 1) hx hb dL_law_319 (by decide) ?_
                        refine xiadd (v := 1) S dL_law_320 (by decide) ?_
                        refine xsld (v := 0) S hX hbl hbA hS (vin rfl) h1 dL_law_321 ?_
                        refine lv_aload_n hx hb dL_law_322 rfl (lv_at hl 5 rfl) ?_
                        refine lv_iload hx hb dL_law_323 (lv_at hl 1 rfl) ?_
                        refine lv_iconst (v := 2) hx hb dL_law_325 (by decide) ?_
                        refine xiadd (v := 2) S dL_law_326 (by decide) ?_
                        refine xsld (v := x2) S hX hbl hbA hS (vin rfl) h2 dL_law_327 ?_
                        refine lv_aload_n hx hb dL_law_328 rfl (lv_at hl 5 rfl) ?_
                        refine lv_iload hx hb dL_law_329 (lv_at hl 1 rfl) ?_
                        refine lv_iconst (v := 3) hx hb dL_law_331 (by decide) ?_
                        refine xiadd (v := 3) S dL_law_332 (by decide) ?_
                        refine xsld (v := 3) S hX hbl hbA hS (vin rfl) h3 dL_law_333 ?_
                        refine lv_aload_n hx hb dL_law_334 rfl (lv_at hl 5 rfl) ?_
                        refine lv_iload hx hb dL_law_335 (lv_at hl 1 rfl) ?_
                        refine lv_iconst (v := 4) hx hb dL_law_337 (by decide) ?_
                        refine xiadd (v := 4) S dL_law_338 (by decide) ?_
                        refine xsld (v := x4) S hX hbl hbA hS (vin rfl) h4 dL_law_339 ?_
                        refine fVi [] ((((((xW o u cI cZ cJ).set 5 ((u 4), .inl (cI, 10, .inl (upd (fun _ => 0) (0 : Int32).toNatClampNeg 1)))).set 8 ((u 7), .inl (cI, 160, .inl (upd (fun _ => (-1)) (x2 : Int32).toNatClampNeg 9)))).set 9 ((u 8), .inl (cI, 160, .inl (upd (fun _ => 0) (x2 : Int32).toNatClampNeg (-1))))).set 10 ((u 9), .inl (cI, 160, .inl (upd (fun _ => 0) (x2 : Int32).toNatClampNeg x4)))) ++ [(ao, .inl (cJ, 1, .inr (.inl (vp_updL (fun _ => 0) (0 : Int32).toNatClampNeg (-1)))))]) (mid := (mW om 0 q cI cZ)) (As := [.int 0, .int x2, .int 3, .int x4]) (ci := 9) S (c_X9_variable_15 l D cI cZ cJ om q H.size x2 x4 lo_x2 hi_x2 lo_x4 hi_x4) mi_X9_variable kw_7_123 rfl rfl ⟨Nat.le_of_ble_eq_true rfl, Nat.le_of_ble_eq_true rfl⟩ hP hD hK hS hA mW_0 rfl rfl hl.1 (Nat.le_of_ble_eq_true rfl) ⟨Nat.le_of_ble_eq_true rfl, Nat.le_of_ble_eq_true rfl⟩ dL_law_340 (fun H locs hz hP hD hS => ?_)
                        have hP : va_P D vwCl ((((((mW om 0 q cI cZ).set 4 ((q 3), .inl (cI, 10, .inl (upd (fun _ => 0) (0 : Int32).toNatClampNeg 1)))).set 7 ((q 6), .inl (cI, 160, .inl (upd (fun _ => -1) (x2 : Int32).toNatClampNeg 9)))).set 8 ((q 7), .inl (cI, 160, .inl (upd (fun _ => 0) (x2 : Int32).toNatClampNeg (-1))))).set 9 ((q 8), .inl (cI, 160, .inl (upd (fun _ => 0) (x2 : Int32).toNatClampNeg x4)))) ++ ((((((xW o u cI cZ cJ).set 5 ((u 4), .inl (cI, 10, .inl (upd (fun _ => 0) (0 : Int32).toNatClampNeg 1)))).set 8 ((u 7), .inl (cI, 160, .inl (upd (fun _ => (-1)) (x2 : Int32).toNatClampNeg 9)))).set 9 ((u 8), .inl (cI, 160, .inl (upd (fun _ => 0) (x2 : Int32).toNatClampNeg (-1))))).set 10 ((u 9), .inl (cI, 160, .inl (upd (fun _ => 0) (x2 : Int32).toNatClampNeg x4)))) ++ [(ao, .inl (cJ, 1, .inr (.inl (vp_updL (fun _ => 0) (0 : Int32).toNatClampNeg (-1)))))])) H := hP
                        have hD : va_D (fun q : Nat => s.heap.size ≤ q) ((((((mW om 0 q cI cZ).set 4 ((q 3), .inl (cI, 10, .inl (upd (fun _ => 0) (0 : Int32).toNatClampNeg 1)))).set 7 ((q 6), .inl (cI, 160, .inl (upd (fun _ => -1) (x2 : Int32).toNatClampNeg 9)))).set 8 ((q 7), .inl (cI, 160, .inl (upd (fun _ => 0) (x2 : Int32).toNatClampNeg (-1))))).set 9 ((q 8), .inl (cI, 160, .inl (upd (fun _ => 0) (x2 : Int32).toNatClampNeg x4)))) ++ ((((((xW o u cI cZ cJ).set 5 ((u 4), .inl (cI, 10, .inl (upd (fun _ => 0) (0 : Int32).toNatClampNeg 1)))).set 8 ((u 7), .inl (cI, 160, .inl (upd (fun _ => (-1)) (x2 : Int32).toNatClampNeg 9)))).set 9 ((u 8), .inl (cI, 160, .inl (upd (fun _ => 0) (x2 : Int32).toNatClampNeg (-1))))).set 10 ((u 9), .inl (cI, 160, .inl (upd (fun _ => 0) (x2 : Int32).toNatClampNeg x4)))) ++ [(ao, .inl (cJ, 1, .inr (.inl (vp_updL (fun _ => 0) (0 : Int32).toNatClampNeg (-1)))))])) := hD
                        refine lv_istore (lv' := [(6, .int (-1)), (5, .int 0), (4, .int 0), (3, .ref ao), (2, .ref om), (1, .ref o), (0, .ref b)]) hx hb dL_law_343 hl (by decide) rfl (fun ls hl => ?_)
                        refine lv_aload_n hx hb dL_law_345 rfl (lv_at hl 4 rfl) ?_
                        refine rdV (As := []) (ci := 9) S (c_X9_thrown_7 l D cI cZ cJ om q x2 x4 lo_x2 hi_x2 lo_x4 hi_x4) mi_X9_thrown kw_7_89 ⟨rfl, rfl⟩ ⟨Nat.le_of_ble_eq_true rfl, Nat.le_of_ble_eq_true rfl⟩ (va_Pl (ws := (((((mW om 0 q cI cZ).set 4 ((q 3), .inl (cI, 10, .inl (upd (fun _ => 0) (0 : Int32).toNatClampNeg 1)))).set 7 ((q 6), .inl (cI, 160, .inl (upd (fun _ => -1) (x2 : Int32).toNatClampNeg 9)))).set 8 ((q 7), .inl (cI, 160, .inl (upd (fun _ => 0) (x2 : Int32).toNatClampNeg (-1))))).set 9 ((q 8), .inl (cI, 160, .inl (upd (fun _ => 0) (x2 : Int32).toNatClampNeg x4))))) (x := ((((((xW o u cI cZ cJ).set 5 ((u 4), .inl (cI, 10, .inl (upd (fun _ => 0) (0 : Int32).toNatClampNeg 1)))).set 8 ((u 7), .inl (cI, 160, .inl (upd (fun _ => (-1)) (x2 : Int32).toNatClampNeg 9)))).set 9 ((u 8), .inl (cI, 160, .inl (upd (fun _ => 0) (x2 : Int32).toNatClampNeg (-1))))).set 10 ((u 9), .inl (cI, 160, .inl (upd (fun _ => 0) (x2 : Int32).toNatClampNeg x4)))) ++ [(ao, .inl (cJ, 1, .inr (.inl (vp_updL (fun _ => 0) (0 : Int32).toNatClampNeg (-1)))))])) hP) hK (k := 0) rfl rfl rfl hl.1 (Nat.le_of_ble_eq_true rfl) ⟨Nat.le_of_ble_eq_true rfl, Nat.le_of_ble_eq_true rfl⟩ dL_law_346 ?_
                        refine lv_iload hx hb dL_law_349 (lv_at hl 1 rfl) ?_
                        refine lv_icmp_eq (tgt := 356) hx hb dL_law_351 (by decide) (fun _ => ?_) (fun c => absurd c (by decide))
                        refine lv_iload hx hb dL_law_356 (lv_at hl 1 rfl) ?_
                        refine lv_if_ne (tgt := 373) hx hb dL_law_358 (by decide) (fun c => absurd c (by decide)) (fun _ => ?_)
                        refine lv_aload_n hx hb dL_law_361 rfl (lv_at hl 3 rfl) ?_
                        refine lv_iconst (v := 0) hx hb dL_law_362 (by decide) ?_
                        refine xlald (t0 := 2) (v := (-1)) S hK hP (q0 := 119) rfl rfl (vin rfl) rfl dL_law_363 ?_
                        refine lv_iload hx hb dL_law_364 (lv_at hl 0 rfl) ?_
                        refine lv_i2l (v := (-1)) hx hb dL_law_366 (by decide) ?_
                        refine xlcmp (v := 0) S dL_law_367 (by decide) ?_
                        refine lv_if_eq (tgt := 373) hx hb dL_law_368 (by decide) (fun _ => ?_) (fun c => absurd c (by decide))
                        refine lv_goto (tgt := 1519) hx hb dL_law_373 (by decide) ?_
                        exact law_tail (cells := 120) (slots := 12958) S hr hlocks hX hbl (lv_sub hl [2, 6] rfl) hS (Nat.le_of_ble_eq_true rfl) (Nat.le_of_ble_eq_true rfl)
