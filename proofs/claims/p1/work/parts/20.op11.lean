set_option maxHeartbeats 8000000 in
set_option maxRecDepth 100000 in
theorem law_11 (l : Launch) (hst : l.stackTraces = false) (D : va_G) (cI cZ cJ : ClassId) {p : Program} {e : Env} {s : State} {m : MethodId} {below : List Frame} {meth : Method} {c : Code} {b : Nat} {xs : Nat → Int32} (S : CallFix p m c cL_law 9 s #[Value.ref b] uG RL) (hr : meth.sig.returnType = ret) (hlocks : meth.locks = false) (hX : va_X b 5 xs s s.heap) (hbl : b < s.heap.size) (hK : va_K D vwCl (tyL cI cZ cJ) s) (ra ga : Nat → Nat) (hB : amb ra ga (fun q => s.heap.size ≤ q) s s.heap) (hC : ambC s) (x1 x2 x3 x4 : Int32) (h1 : xs 1 = x1) (h2 : xs 2 = x2) (h3 : xs 3 = x3) (h4 : xs 4 = x4) (o om ao : Nat) (u q : Nat → Nat) (ls : Array Slot) (H : Heap) (locs : List Loc) (hl : lv_has ls 9 [(4, .int 0), (3, .ref ao), (2, .ref om), (1, .ref o), (0, .ref b)]) (hP : va_P D vwCl ((mW om 0 q cI cZ) ++ ((xW o u cI cZ cJ) ++ [(ao, .inl (cJ, 1, .inr (.inl (fun _ => 0))))])) H) (hD : va_D (fun q => s.heap.size ≤ q) ((mW om 0 q cI cZ) ++ ((xW o u cI cZ cJ) ++ [(ao, .inl (cJ, 1, .inr (.inl (fun _ => 0))))]))) (hS : va_S (fun q => s.heap.size ≤ q) s.heap H locs) : W p l e room_1 s m #[Value.ref b] below meth c H locs 120 12958 (lw_Z below #[Value.ref b] s) (F0 m 956 ls []) := by
  have hx := S.1
  have hb := S.2.1
  have hA : ∀ q : Nat, s.heap.size ≤ q → (fun q : Nat => s.heap.size ≤ q) q := fun _ h => h
  have hbA : ¬ (fun q : Nat => s.heap.size ≤ q) b := Nat.not_le.mpr hbl
  refine lv_aload_n hx hb dL_law_956 rfl (lv_at hl 3 rfl) ?_
  refine lv_aload_n hx hb dL_law_957 rfl (lv_at hl 4 rfl) ?_
  refine lv_iload hx hb dL_law_958 (lv_at hl 0 rfl) ?_
  refine lv_iconst (v := 1) hx hb dL_law_960 (by decide) ?_
  refine xiadd (v := 1) S dL_law_961 (by decide) ?_
  refine xsld (v := x1) S hX hbl hbA hS (vin rfl) h1 dL_law_962 ?_
  refine lv_aload_n hx hb dL_law_963 rfl (lv_at hl 4 rfl) ?_
  refine lv_iload hx hb dL_law_964 (lv_at hl 0 rfl) ?_
  refine lv_iconst (v := 2) hx hb dL_law_966 (by decide) ?_
  refine xiadd (v := 2) S dL_law_967 (by decide) ?_
  refine xsld (v := x2) S hX hbl hbA hS (vin rfl) h2 dL_law_968 ?_
  refine lv_aload_n hx hb dL_law_969 rfl (lv_at hl 1 rfl) ?_
  by_cases d_970 : x1 < 1
  · have hi_x1 : x1 ≤ 0 := u_lt d_970 (by decide)
    refine wrap (mW om 0 q cI cZ) (mid := ((xW o u cI cZ cJ) ++ [(ao, .inl (cJ, 1, .inr (.inl (fun _ => 0))))])) (As := [.ref o, .int x1, .int x2, .ref ao]) S (h_limits_0 l D cI cZ cJ o u ao hst ra ga H.size x1 x2 hi_x1) msh_L_limits kw_6_95 rfl rfl ⟨Nat.le_of_ble_eq_true rfl, Nat.le_of_ble_eq_true rfl⟩ hP hD hK hS hA hB hC hl.1 (Nat.le_of_ble_eq_true rfl) ⟨Nat.le_of_ble_eq_true rfl, Nat.le_of_ble_eq_true rfl⟩ dL_law_970 (fun H locs hz hP hD hS => ?_)
    have hP : va_P D vwCl ((mW om 0 q cI cZ) ++ ((xW o u cI cZ cJ) ++ [(ao, .inl (cJ, 1, .inr (.inl (fun _ => 0))))])) H := hP
    have hD : va_D (fun q : Nat => s.heap.size ≤ q) ((mW om 0 q cI cZ) ++ ((xW o u cI cZ cJ) ++ [(ao, .inl (cJ, 1, .inr (.inl (fun _ => 0))))])) := hD
    refine lv_istore (lv' := [(5, .int 1), (4, .int 0), (3, .ref ao), (2, .ref om), (1, .ref o), (0, .ref b)]) hx hb dL_law_973 hl (by decide) rfl (fun ls hl => ?_)
    refine lv_aload_n hx hb dL_law_975 rfl (lv_at hl 3 rfl) ?_
    refine lv_aload_n hx hb dL_law_976 rfl (lv_at hl 5 rfl) ?_
    refine lv_iload hx hb dL_law_977 (lv_at hl 1 rfl) ?_
    refine lv_iconst (v := 1) hx hb dL_law_979 (by decide) ?_
    refine xiadd (v := 1) S dL_law_980 (by decide) ?_
    refine xsld (v := x1) S hX hbl hbA hS (vin rfl) h1 dL_law_981 ?_
    refine lv_aload_n hx hb dL_law_982 rfl (lv_at hl 5 rfl) ?_
    refine lv_iload hx hb dL_law_983 (lv_at hl 1 rfl) ?_
    refine lv_iconst (v := 2) hx hb dL_law_985 (by decide) ?_
    refine xiadd (v := 2) S dL_law_986 (by decide) ?_
    refine xsld (v := x2) S hX hbl hbA hS (vin rfl) h2 dL_law_987 ?_
    refine fVi [] ((xW o u cI cZ cJ) ++ [(ao, .inl (cJ, 1, .inr (.inl (fun _ => 0))))]) (mid := (mW om 0 q cI cZ)) (As := [.int x1, .int x2]) (ci := 9) S (c_X9_limits_0 l D cI cZ cJ om q H.size x1 x2 hi_x1) mi_X9_limits kw_8_136 rfl rfl ⟨Nat.le_of_ble_eq_true rfl, Nat.le_of_ble_eq_true rfl⟩ hP hD hK hS hA mW_0 rfl rfl hl.1 (Nat.le_of_ble_eq_true rfl) ⟨Nat.le_of_ble_eq_true rfl, Nat.le_of_ble_eq_true rfl⟩ dL_law_988 (fun H locs hz hP hD hS => ?_)
    have hP : va_P D vwCl ((mW om 1 q cI cZ) ++ ((xW o u cI cZ cJ) ++ [(ao, .inl (cJ, 1, .inr (.inl (fun _ => 0))))])) H := hP
    have hD : va_D (fun q : Nat => s.heap.size ≤ q) ((mW om 1 q cI cZ) ++ ((xW o u cI cZ cJ) ++ [(ao, .inl (cJ, 1, .inr (.inl (fun _ => 0))))])) := hD
    refine lv_istore (lv' := [(6, .int 0), (5, .int 1), (4, .int 0), (3, .ref ao), (2, .ref om), (1, .ref o), (0, .ref b)]) hx hb dL_law_991 hl (by decide) rfl (fun ls hl => ?_)
    refine lv_aload_n hx hb dL_law_993 rfl (lv_at hl 4 rfl) ?_
    refine rdV (As := []) (ci := 9) S (c_X9_thrown_0 l D cI cZ cJ om q) mi_X9_thrown kw_7_89 ⟨rfl, rfl⟩ ⟨Nat.le_of_ble_eq_true rfl, Nat.le_of_ble_eq_true rfl⟩ (va_Pl (ws := (mW om 1 q cI cZ)) (x := ((xW o u cI cZ cJ) ++ [(ao, .inl (cJ, 1, .inr (.inl (fun _ => 0))))])) hP) hK mW_0 rfl rfl hl.1 (Nat.le_of_ble_eq_true rfl) ⟨Nat.le_of_ble_eq_true rfl, Nat.le_of_ble_eq_true rfl⟩ dL_law_994 ?_
    refine lv_iload hx hb dL_law_997 (lv_at hl 1 rfl) ?_
    refine lv_icmp_eq (tgt := 1004) hx hb dL_law_999 (by decide) (fun _ => ?_) (fun c => absurd c (by decide))
    refine lv_iload hx hb dL_law_1004 (lv_at hl 1 rfl) ?_
    refine lv_if_ne (tgt := 1021) hx hb dL_law_1006 (by decide) (fun _ => ?_) (fun c => absurd c (by decide))
    refine lv_goto (tgt := 1519) hx hb dL_law_1021 (by decide) ?_
    exact law_tail (cells := 121) (slots := 12964) S hr hlocks hX hbl (lv_sub hl [2, 6] rfl) hS (Nat.le_of_ble_eq_true rfl) (Nat.le_of_ble_eq_true rfl)
  · have lo_x1 : 1 ≤ x1 := l_nlt d_970
    by_cases d_970 : 3000 < x1
    · have lo_x1 : 3001 ≤ x1 := l_gt d_970 (by decide)
      refine wrap (mW om 0 q cI cZ) (mid := ((xW o u cI cZ cJ) ++ [(ao, .inl (cJ, 1, .inr (.inl (fun _ => 0))))])) (As := [.ref o, .int x1, .int x2, .ref ao]) S (h_limits_1 l D cI cZ cJ o u ao hst ra ga H.size x1 x2 lo_x1) msh_L_limits kw_6_95 rfl rfl ⟨Nat.le_of_ble_eq_true rfl, Nat.le_of_ble_eq_true rfl⟩ hP hD hK hS hA hB hC hl.1 (Nat.le_of_ble_eq_true rfl) ⟨Nat.le_of_ble_eq_true rfl, Nat.le_of_ble_eq_true rfl⟩ dL_law_970 (fun H locs hz hP hD hS => ?_)
      have hP : va_P D vwCl ((mW om 0 q cI cZ) ++ ((xW o u cI cZ cJ) ++ [(ao, .inl (cJ, 1, .inr (.inl (fun _ => 0))))])) H := hP
      have hD : va_D (fun q : Nat => s.heap.size ≤ q) ((mW om 0 q cI cZ) ++ ((xW o u cI cZ cJ) ++ [(ao, .inl (cJ, 1, .inr (.inl (fun _ => 0))))])) := hD
      refine lv_istore (lv' := [(5, .int 1), (4, .int 0), (3, .ref ao), (2, .ref om), (1, .ref o), (0, .ref b)]) hx hb dL_law_973 hl (by decide) rfl (fun ls hl => ?_)
      refine lv_aload_n hx hb dL_law_975 rfl (lv_at hl 3 rfl) ?_
      refine lv_aload_n hx hb dL_law_976 rfl (lv_at hl 5 rfl) ?_
      refine lv_iload hx hb dL_law_977 (lv_at hl 1 rfl) ?_
      refine lv_iconst (v := 1) hx hb dL_law_979 (by decide) ?_
      refine xiadd (v := 1) S dL_law_980 (by decide) ?_
      refine xsld (v := x1) S hX hbl hbA hS (vin rfl) h1 dL_law_981 ?_
      refine lv_aload_n hx hb dL_law_982 rfl (lv_at hl 5 rfl) ?_
      refine lv_iload hx hb dL_law_983 (lv_at hl 1 rfl) ?_
      refine lv_iconst (v := 2) hx hb dL_law_985 (by decide) ?_
      refine xiadd (v := 2) S dL_law_986 (by decide) ?_
      refine xsld (v := x2) S hX hbl hbA hS (vin rfl) h2 dL_law_987 ?_
      refine fVi [] ((xW o u cI cZ cJ) ++ [(ao, .inl (cJ, 1, .inr (.inl (fun _ => 0))))]) (mid := (mW om 0 q cI cZ)) (As := [.int x1, .int x2]) (ci := 9) S (c_X9_limits_1 l D cI cZ cJ om q H.size x1 x2 lo_x1) mi_X9_limits kw_8_136 rfl rfl ⟨Nat.le_of_ble_eq_true rfl, Nat.le_of_ble_eq_true rfl⟩ hP hD hK hS hA mW_0 rfl rfl hl.1 (Nat.le_of_ble_eq_true rfl) ⟨Nat.le_of_ble_eq_true rfl, Nat.le_of_ble_eq_true rfl⟩ dL_law_988 (fun H locs hz hP hD hS => ?_)
      have hP : va_P D vwCl ((mW om 1 q cI cZ) ++ ((xW o u cI cZ cJ) ++ [(ao, .inl (cJ, 1, .inr (.inl (fun _ => 0))))])) H := hP
      have hD : va_D (fun q : Nat => s.heap.size ≤ q) ((mW om 1 q cI cZ) ++ ((xW o u cI cZ cJ) ++ [(ao, .inl (cJ, 1, .inr (.inl (fun _ => 0))))])) := hD
      refine lv_istore (lv' := [(6, .int 0), (5, .int 1), (4, .int 0), (3, .ref ao), (2, .ref om), (1, .ref o), (0, .ref b)]) hx hb dL_law_991 hl (by decide) rfl (fun ls hl => ?_)
      refine lv_aload_n hx hb dL_law_993 rfl (lv_at hl 4 rfl) ?_
      refine rdV (As := []) (ci := 9) S (c_X9_thrown_0 l D cI cZ cJ om q) mi_X9_thrown kw_7_89 ⟨rfl, rfl⟩ ⟨Nat.le_of_ble_eq_true rfl, Nat.le_of_ble_eq_true rfl⟩ (va_Pl (ws := (mW om 1 q cI cZ)) (x := ((xW o u cI cZ cJ) ++ [(ao, .inl (cJ, 1, .inr (.inl (fun _ => 0))))])) hP) hK mW_0 rfl rfl hl.1 (Nat.le_of_ble_eq_true rfl) ⟨Nat.le_of_ble_eq_true rfl, Nat.le_of_ble_eq_true rfl⟩ dL_law_994 ?_
      refine lv_iload hx hb dL_law_997 (lv_at hl 1 rfl) ?_
      refine lv_icmp_eq (tgt := 1004) hx hb dL_law_999 (by decide) (fun _ => ?_) (fun c => absurd c (by decide))
      refine lv_iload hx hb dL_law_1004 (lv_at hl 1 rfl) ?_
      refine lv_if_ne (tgt := 1021) hx hb dL_law_1006 (by decide) (fun _ => ?_) (fun c => absurd c (by decide))
      refine lv_goto (tgt := 1519) hx hb dL_law_1021 (by decide) ?_
      exact law_tail (cells := 121) (slots := 12964) S hr hlocks hX hbl (lv_sub hl [2, 6] rfl) hS (Nat.le_of_ble_eq_true rfl) (Nat.le_of_ble_eq_true rfl)
    · have hi_x1 : x1 ≤ 3000 := u_ngt d_970
      by_cases d_970 : x2 < 1
      · have hi_x2 : x2 ≤ 0 := u_lt d_970 (by decide)
        refine wrap (mW om 0 q cI cZ) (mid := ((xW o u cI cZ cJ) ++ [(ao, .inl (cJ, 1, .inr (.inl (fun _ => 0))))])) (As := [.ref o, .int x1, .int x2, .ref ao]) S (h_limits_2 l D cI cZ cJ o u ao hst ra ga H.size x1 x2 lo_x1 hi_x1 hi_x2) msh_L_limits kw_6_95 rfl rfl ⟨Nat.le_of_ble_eq_true rfl, Nat.le_of_ble_eq_true rfl⟩ hP hD hK hS hA hB hC hl.1 (Nat.le_of_ble_eq_true rfl) ⟨Nat.le_of_ble_eq_true rfl, Nat.le_of_ble_eq_true rfl⟩ dL_law_970 (fun H locs hz hP hD hS => ?_)
        have hP : va_P D vwCl ((mW om 0 q cI cZ) ++ ((xW o u cI cZ cJ) ++ [(ao, .inl (cJ, 1, .inr (.inl (fun _ => 0))))])) H := hP
        have hD : va_D (fun q : Nat => s.heap.size ≤ q) ((mW om 0 q cI cZ) ++ ((xW o u cI cZ cJ) ++ [(ao, .inl (cJ, 1, .inr (.inl (fun _ => 0))))])) := hD
        refine lv_istore (lv' := [(5, .int 1), (4, .int 0), (3, .ref ao), (2, .ref om), (1, .ref o), (0, .ref b)]) hx hb dL_law_973 hl (by decide) rfl (fun ls hl => ?_)
        refine lv_aload_n hx hb dL_law_975 rfl (lv_at hl 3 rfl) ?_
        refine lv_aload_n hx hb dL_law_976 rfl (lv_at hl 5 rfl) ?_
        refine lv_iload hx hb dL_law_977 (lv_at hl 1 rfl) ?_
        refine lv_iconst (v := 1) hx hb dL_law_979 (by decide) ?_
        refine xiadd (v := 1) S dL_law_980 (by decide) ?_
        refine xsld (v := x1) S hX hbl hbA hS (vin rfl) h1 dL_law_981 ?_
        refine lv_aload_n hx hb dL_law_982 rfl (lv_at hl 5 rfl) ?_
        refine lv_iload hx hb dL_law_983 (lv_at hl 1 rfl) ?_
        refine lv_iconst (v := 2) hx hb dL_law_985 (by decide) ?_
        refine xiadd (v := 2) S dL_law_986 (by decide) ?_
        refine xsld (v := x2) S hX hbl hbA hS (vin rfl) h2 dL_law_987 ?_
        refine fVi [] ((xW o u cI cZ cJ) ++ [(ao, .inl (cJ, 1, .inr (.inl (fun _ => 0))))]) (mid := (mW om 0 q cI cZ)) (As := [.int x1, .int x2]) (ci := 9) S (c_X9_limits_2 l D cI cZ cJ om q H.size x1 x2 lo_x1 hi_x1 hi_x2) mi_X9_limits kw_8_136 rfl rfl ⟨Nat.le_of_ble_eq_true rfl, Nat.le_of_ble_eq_true rfl⟩ hP hD hK hS hA mW_0 rfl rfl hl.1 (Nat.le_of_ble_eq_true rfl) ⟨Nat.le_of_ble_eq_true rfl, Nat.le_of_ble_eq_true rfl⟩ dL_law_988 (fun H locs hz hP hD hS => ?_)
        have hP : va_P D vwCl ((mW om 1 q cI cZ) ++ ((xW o u cI cZ cJ) ++ [(ao, .inl (cJ, 1, .inr (.inl (fun _ => 0))))])) H := hP
        have hD : va_D (fun q : Nat => s.heap.size ≤ q) ((mW om 1 q cI cZ) ++ ((xW o u cI cZ cJ) ++ [(ao, .inl (cJ, 1, .inr (.inl (fun _ => 0))))])) := hD
        refine lv_istore (lv' := [(6, .int 0), (5, .int 1), (4, .int 0), (3, .ref ao), (2, .ref om), (1, .ref o), (0, .ref b)]) hx hb dL_law_991 hl (by decide) rfl (fun ls hl => ?_)
        refine lv_aload_n hx hb dL_law_993 rfl (lv_at hl 4 rfl) ?_
        refine rdV (As := []) (ci := 9) S (c_X9_thrown_0 l D cI cZ cJ om q) mi_X9_thrown kw_7_89 ⟨rfl, rfl⟩ ⟨Nat.le_of_ble_eq_true rfl, Nat.le_of_ble_eq_true rfl⟩ (va_Pl (ws := (mW om 1 q cI cZ)) (x := ((xW o u cI cZ cJ) ++ [(ao, .inl (cJ, 1, .inr (.inl (fun _ => 0))))])) hP) hK mW_0 rfl rfl hl.1 (Nat.le_of_ble_eq_true rfl) ⟨Nat.le_of_ble_eq_true rfl, Nat.le_of_ble_eq_true rfl⟩ dL_law_994 ?_
        refine lv_iload hx hb dL_law_997 (lv_at hl 1 rfl) ?_
        refine lv_icmp_eq (tgt := 1004) hx hb dL_law_999 (by decide) (fun _ => ?_) (fun c => absurd c (by decide))
        refine lv_iload hx hb dL_law_1004 (lv_at hl 1 rfl) ?_
        refine lv_if_ne (tgt := 1021) hx hb dL_law_1006 (by decide) (fun _ => ?_) (fun c => absurd c (by decide))
        refine lv_goto (tgt := 1519) hx hb dL_law_1021 (by decide) ?_
        exact law_tail (cells := 121) (slots := 12964) S hr hlocks hX hbl (lv_sub hl [2, 6] rfl) hS (Nat.le_of_ble_eq_true rfl) (Nat.le_of_ble_eq_true rfl)
      · have lo_x2 : 1 ≤ x2 := l_nlt d_970
        by_cases d_970 : 40 < x2
        · have lo_x2 : 41 ≤ x2 := l_gt d_970 (by decide)
          refine wrap (mW om 0 q cI cZ) (mid := ((xW o u cI cZ cJ) ++ [(ao, .inl (cJ, 1, .inr (.inl (fun _ => 0))))])) (As := [.ref o, .int x1, .int x2, .ref ao]) S (h_limits_3 l D cI cZ cJ o u ao hst ra ga H.size x1 x2 lo_x1 hi_x1 lo_x2) msh_L_limits kw_6_95 rfl rfl ⟨Nat.le_of_ble_eq_true rfl, Nat.le_of_ble_eq_true rfl⟩ hP hD hK hS hA hB hC hl.1 (Nat.le_of_ble_eq_true rfl) ⟨Nat.le_of_ble_eq_true rfl, Nat.le_of_ble_eq_true rfl⟩ dL_law_970 (fun H locs hz hP hD hS => ?_)
          have hP : va_P D vwCl ((mW om 0 q cI cZ) ++ ((xW o u cI cZ cJ) ++ [(ao, .inl (cJ, 1, .inr (.inl (fun _ => 0))))])) H := hP
          have hD : va_D (fun q : Nat => s.heap.size ≤ q) ((mW om 0 q cI cZ) ++ ((xW o u cI cZ cJ) ++ [(ao, .inl (cJ, 1, .inr (.inl (fun _ => 0))))])) := hD
          refine lv_istore (lv' := [(5, .int 1), (4, .int 0), (3, .ref ao), (2, .ref om), (1, .ref o), (0, .ref b)]) hx hb dL_law_973 hl (by decide) rfl (fun ls hl => ?_)
          refine lv_aload_n hx hb dL_law_975 rfl (lv_at hl 3 rfl) ?_
          refine lv_aload_n hx hb dL_law_976 rfl (lv_at hl 5 rfl) ?_
          refine lv_iload hx hb dL_law_977 (lv_at hl 1 rfl) ?_
          refine lv_iconst (v := 1) hx hb dL_law_979 (by decide) ?_
          refine xiadd (v := 1) S dL_law_980 (by decide) ?_
          refine xsld (v := x1) S hX hbl hbA hS (vin rfl) h1 dL_law_981 ?_
          refine lv_aload_n hx hb dL_law_982 rfl (lv_at hl 5 rfl) ?_
          refine lv_iload hx hb dL_law_983 (lv_at hl 1 rfl) ?_
          refine lv_iconst (v := 2) hx hb dL_law_985 (by decide) ?_
          refine xiadd (v := 2) S dL_law_986 (by decide) ?_
          refine xsld (v := x2) S hX hbl hbA hS (vin rfl) h2 dL_law_987 ?_
          refine fVi [] ((xW o u cI cZ cJ) ++ [(ao, .inl (cJ, 1, .inr (.inl (fun _ => 0))))]) (mid := (mW om 0 q cI cZ)) (As := [.int x1, .int x2]) (ci := 9) S (c_X9_limits_3 l D cI cZ cJ om q H.size x1 x2 lo_x1 hi_x1 lo_x2) mi_X9_limits kw_8_136 rfl rfl ⟨Nat.le_of_ble_eq_true rfl, Nat.le_of_ble_eq_true rfl⟩ hP hD hK hS hA mW_0 rfl rfl hl.1 (Nat.le_of_ble_eq_true rfl) ⟨Nat.le_of_ble_eq_true rfl, Nat.le_of_ble_eq_true rfl⟩ dL_law_988 (fun H locs hz hP hD hS => ?_)
          have hP : va_P D vwCl ((mW om 1 q cI cZ) ++ ((xW o u cI cZ cJ) ++ [(ao, .inl (cJ, 1, .inr (.inl (fun _ => 0))))])) H := hP
          have hD : va_D (fun q : Nat => s.heap.size ≤ q) ((mW om 1 q cI cZ) ++ ((xW o u cI cZ cJ) ++ [(ao, .inl (cJ, 1, .inr (.inl (fun _ => 0))))])) := hD
          refine lv_istore (lv' := [(6, .int 0), (5, .int 1), (4, .int 0), (3, .ref ao), (2, .ref om), (1, .ref o), (0, .ref b)]) hx hb dL_law_991 hl (by decide) rfl (fun ls hl => ?_)
          refine lv_aload_n hx hb dL_law_993 rfl (lv_at hl 4 rfl) ?_
          refine rdV (As := []) (ci := 9) S (c_X9_thrown_0 l D cI cZ cJ om q) mi_X9_thrown kw_7_89 ⟨rfl, rfl⟩ ⟨Nat.le_of_ble_eq_true rfl, Nat.le_of_ble_eq_true rfl⟩ (va_Pl (ws := (mW om 1 q cI cZ)) (x := ((xW o u cI cZ cJ) ++ [(ao, .inl (cJ, 1, .inr (.inl (fun _ => 0))))])) hP) hK mW_0 rfl rfl hl.1 (Nat.le_of_ble_eq_true rfl) ⟨Nat.le_of_ble_eq_true rfl, Nat.le_of_ble_eq_true rfl⟩ dL_law_994 ?_
          refine lv_iload hx hb dL_law_997 (lv_at hl 1 rfl) ?_
          refine lv_icmp_eq (tgt := 1004) hx hb dL_law_999 (by decide) (fun _ => ?_) (fun c => absurd c (by decide))
          refine lv_iload hx hb dL_law_1004 (lv_at hl 1 rfl) ?_
          refine lv_if_ne (tgt := 1021) hx hb dL_law_1006 (by decide) (fun _ => ?_) (fun c => absurd c (by decide))
          refine lv_goto (tgt := 1519) hx hb dL_law_1021 (by decide) ?_
          exact law_tail (cells := 121) (slots := 12964) S hr hlocks hX hbl (lv_sub hl [2, 6] rfl) hS (Nat.le_of_ble_eq_true rfl) (Nat.le_of_ble_eq_true rfl)
        · have hi_x2 : x2 ≤ 40 := u_ngt d_970
          refine wrap (mW om 0 q cI cZ) (mid := ((xW o u cI cZ cJ) ++ [(ao, .inl (cJ, 1, .inr (.inl (fun _ => 0))))])) (As := [.ref o, .int x1, .int x2, .ref ao]) S (h_limits_4 l D cI cZ cJ o u ao hst ra ga H.size x1 x2 lo_x1 hi_x1 lo_x2 hi_x2) msh_L_limits kw_6_95 rfl rfl ⟨Nat.le_of_ble_eq_true rfl, Nat.le_of_ble_eq_true rfl⟩ hP hD hK hS hA hB hC hl.1 (Nat.le_of_ble_eq_true rfl) ⟨Nat.le_of_ble_eq_true rfl, Nat.le_of_ble_eq_true rfl⟩ dL_law_970 (fun H locs hz hP hD hS => ?_)
          have hP : va_P D vwCl ((mW om 0 q cI cZ) ++ (((xW o u cI cZ cJ).set 0 (o, .inr (8, (((xF u).set 11 (.int x1)).set 12 (.int x2))))) ++ [(ao, .inl (cJ, 1, .inr (.inl (vp_updL (fun _ => 0) (0 : Int32).toNatClampNeg 1000))))])) H := hP
          have hD : va_D (fun q : Nat => s.heap.size ≤ q) ((mW om 0 q cI cZ) ++ (((xW o u cI cZ cJ).set 0 (o, .inr (8, (((xF u).set 11 (.int x1)).set 12 (.int x2))))) ++ [(ao, .inl (cJ, 1, .inr (.inl (vp_updL (fun _ => 0) (0 : Int32).toNatClampNeg 1000))))])) := hD
          refine lv_istore (lv' := [(5, .int 0), (4, .int 0), (3, .ref ao), (2, .ref om), (1, .ref o), (0, .ref b)]) hx hb dL_law_973 hl (by decide) rfl (fun ls hl => ?_)
          refine lv_aload_n hx hb dL_law_975 rfl (lv_at hl 3 rfl) ?_
          refine lv_aload_n hx hb dL_law_976 rfl (lv_at hl 5 rfl) ?_
          refine lv_iload hx hb dL_law_977 (lv_at hl 1 rfl) ?_
          refine lv_iconst (v := 1) hx hb dL_law_979 (by decide) ?_
          refine xiadd (v := 1) S dL_law_980 (by decide) ?_
          refine xsld (v := x1) S hX hbl hbA hS (vin rfl) h1 dL_law_981 ?_
          refine lv_aload_n hx hb dL_law_982 rfl (lv_at hl 5 rfl) ?_
          refine lv_iload hx hb dL_law_983 (lv_at hl 1 rfl) ?_
          refine lv_iconst (v := 2) hx hb dL_law_985 (by decide) ?_
          refine xiadd (v := 2) S dL_law_986 (by decide) ?_
          refine xsld (v := x2) S hX hbl hbA hS (vin rfl) h2 dL_law_987 ?_
          refine fVi [] (((xW o u cI cZ cJ).set 0 (o, .inr (8, (((xF u).set 11 (.int x1)).set 12 (.int x2))))) ++ [(ao, .inl (cJ, 1, .inr (.inl (vp_updL (fun _ => 0) (0 : Int32).toNatClampNeg 1000))))]) (mid := (mW om 0 q cI cZ)) (As := [.int x1, .int x2]) (ci := 9) S (c_X9_limits_4 l D cI cZ cJ om q H.size x1 x2 lo_x1 hi_x1 lo_x2 hi_x2) mi_X9_limits kw_8_136 rfl rfl ⟨Nat.le_of_ble_eq_true rfl, Nat.le_of_ble_eq_true rfl⟩ hP hD hK hS hA mW_0 rfl rfl hl.1 (Nat.le_of_ble_eq_true rfl) ⟨Nat.le_of_ble_eq_true rfl, Nat.le_of_ble_eq_true rfl⟩ dL_law_988 (fun H locs hz hP hD hS => ?_)
          have hP : va_P D vwCl (((mW om 0 q cI cZ).set 0 (om, .inr (9, (((mF 0 q).set 21 (.int x1)).set 22 (.int x2))))) ++ (((xW o u cI cZ cJ).set 0 (o, .inr (8, (((xF u).set 11 (.int x1)).set 12 (.int x2))))) ++ [(ao, .inl (cJ, 1, .inr (.inl (vp_updL (fun _ => 0) (0 : Int32).toNatClampNeg 1000))))])) H := hP
          have hD : va_D (fun q : Nat => s.heap.size ≤ q) (((mW om 0 q cI cZ).set 0 (om, .inr (9, (((mF 0 q).set 21 (.int x1)).set 22 (.int x2))))) ++ (((xW o u cI cZ cJ).set 0 (o, .inr (8, (((xF u).set 11 (.int x1)).set 12 (.int x2))))) ++ [(ao, .inl (cJ, 1, .inr (.inl (vp_updL (fun _ => 0) (0 : Int32).toNatClampNeg 1000))))])) := hD
          refine lv_istore (lv' := [(6, .int 1000), (5, .int 0), (4, .int 0), (3, .ref ao), (2, .ref om), (1, .ref o), (0, .ref b)]) hx hb dL_law_991 hl (by decide) rfl (fun ls hl => ?_)
          refine lv_aload_n hx hb dL_law_993 rfl (lv_at hl 4 rfl) ?_
          refine rdV (As := []) (ci := 9) S (c_X9_thrown_16 l D cI cZ cJ om q x1 x2 lo_x1 hi_x1 lo_x2 hi_x2) mi_X9_thrown kw_7_89 ⟨rfl, rfl⟩ ⟨Nat.le_of_ble_eq_true rfl, Nat.le_of_ble_eq_true rfl⟩ (va_Pl (ws := ((mW om 0 q cI cZ).set 0 (om, .inr (9, (((mF 0 q).set 21 (.int x1)).set 22 (.int x2)))))) (x := (((xW o u cI cZ cJ).set 0 (o, .inr (8, (((xF u).set 11 (.int x1)).set 12 (.int x2))))) ++ [(ao, .inl (cJ, 1, .inr (.inl (vp_updL (fun _ => 0) (0 : Int32).toNatClampNeg 1000))))])) hP) hK (k := 0) rfl rfl rfl hl.1 (Nat.le_of_ble_eq_true rfl) ⟨Nat.le_of_ble_eq_true rfl, Nat.le_of_ble_eq_true rfl⟩ dL_law_994 ?_
          refine lv_iload hx hb dL_law_997 (lv_at hl 1 rfl) ?_
          refine lv_icmp_eq (tgt := 1004) hx hb dL_law_999 (by decide) (fun _ => ?_) (fun c => absurd c (by decide))
          refine lv_iload hx hb dL_law_1004 (lv_at hl 1 rfl) ?_
          refine lv_if_ne (tgt := 1021) hx hb dL_law_1006 (by decide) (fun c => absurd c (by decide)) (fun _ => ?_)
          refine lv_aload_n hx hb dL_law_1009 rfl (lv_at hl 3 rfl) ?_
          refine lv_iconst (v := 0) hx hb dL_law_1010 (by decide) ?_
          refine xlald (t0 := 2) (v := 1000) S hK hP (q0 := 119) rfl rfl (vin rfl) rfl dL_law_1011 ?_
          refine lv_iload hx hb dL_law_1012 (lv_at hl 0 rfl) ?_
          refine lv_i2l (v := 1000) hx hb dL_law_1014 (by decide) ?_
          refine xlcmp (v := 0) S dL_law_1015 (by decide) ?_
          refine lv_if_eq (tgt := 1021) hx hb dL_law_1016 (by decide) (fun _ => ?_) (fun c => absurd c (by decide))
          refine lv_goto (tgt := 1519) hx hb dL_law_1021 (by decide) ?_
          exact law_tail (cells := 120) (slots := 12958) S hr hlocks hX hbl (lv_sub hl [2, 6] rfl) hS (Nat.le_of_ble_eq_true rfl) (Nat.le_of_ble_eq_true rfl)
