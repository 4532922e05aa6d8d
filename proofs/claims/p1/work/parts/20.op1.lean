set_option maxHeartbeats 8000000 in
set_option maxRecDepth 100000 in
theorem law_0 (l : Launch) (hst : l.stackTraces = false) (D : va_G) (cI cZ cJ : ClassId) {p : Program} {e : Env} {s : State} {m : MethodId} {below : List Frame} {meth : Method} {c : Code} {b : Nat} {xs : Nat → Int32} (S : CallFix p m c cL_law 9 s #[Value.ref b] uG RL) (hr : meth.sig.returnType = ret) (hlocks : meth.locks = false) (hX : va_X b 5 xs s s.heap) (hbl : b < s.heap.size) (hK : va_K D vwCl (tyL cI cZ cJ) s) (ra ga : Nat → Nat) (hB : amb ra ga (fun q => s.heap.size ≤ q) s s.heap) (hC : ambC s) (x1 x2 x3 x4 : Int32) (h1 : xs 1 = x1) (h2 : xs 2 = x2) (h3 : xs 3 = x3) (h4 : xs 4 = x4) (o om ao : Nat) (u q : Nat → Nat) (ls : Array Slot) (H : Heap) (locs : List Loc) (hl : lv_has ls 9 [(4, .int 0), (3, .ref ao), (2, .ref om), (1, .ref o), (0, .ref b)]) (hP : va_P D vwCl ((mW om 0 q cI cZ) ++ ((xW o u cI cZ cJ) ++ [(ao, .inl (cJ, 1, .inr (.inl (fun _ => 0))))])) H) (hD : va_D (fun q => s.heap.size ≤ q) ((mW om 0 q cI cZ) ++ ((xW o u cI cZ cJ) ++ [(ao, .inl (cJ, 1, .inr (.inl (fun _ => 0))))]))) (hS : va_S (fun q => s.heap.size ≤ q) s.heap H locs) : W p l e room_1 s m #[Value.ref b] below meth c H locs 120 12958 (lw_Z below #[Value.ref b] s) (F0 m 136 ls []) := by
  have hx := S.1
  have hb := S.2.1
  have hA : ∀ q : Nat, s.heap.size ≤ q → (fun q : Nat => s.heap.size ≤ q) q := fun _ h => h
  have hbA : ¬ (fun q : Nat => s.heap.size ≤ q) b := Nat.not_le.mpr hbl
  refine lv_aload_n hx hb dL_law_136 rfl (lv_at hl 3 rfl) ?_
  refine lv_aload_n hx hb dL_law_137 rfl (lv_at hl 4 rfl) ?_
  refine lv_iload hx hb dL_law_138 (lv_at hl 0 rfl) ?_
  refine lv_iconst (v := 1) hx hb dL_law_140 (by decide) ?_
  refine xiadd (v := 1) S dL_law_141 (by decide) ?_
  refine xsld (v := x1) S hX hbl hbA hS (vin rfl) h1 dL_law_142 ?_
  refine lv_aload_n hx hb dL_law_143 rfl (lv_at hl 4 rfl) ?_
  refine lv_iload hx hb dL_law_144 (lv_at hl 0 rfl) ?_
  refine lv_iconst (v := 2) hx hb dL_law_146 (by decide) ?_
  refine xiadd (v := 2) S dL_law_147 (by decide) ?_
  refine xsld (v := x2) S hX hbl hbA hS (vin rfl) h2 dL_law_148 ?_
  refine lv_aload_n hx hb dL_law_149 rfl (lv_at hl 1 rfl) ?_
  by_cases d_150 : x1 < 0
  · have hi_x1 : x1 ≤ (-1) := u_lt d_150 (by decide)
    refine wrap (mW om 0 q cI cZ) (mid := ((xW o u cI cZ cJ) ++ [(ao, .inl (cJ, 1, .inr (.inl (fun _ => 0))))])) (As := [.ref o, .int x1, .int x2, .ref ao]) S (h_procedure_0 l D cI cZ cJ o u ao hst ra ga H.size x1 x2 hi_x1) msh_L_procedure kw_5_173 rfl rfl ⟨Nat.le_of_ble_eq_true rfl, Nat.le_of_ble_eq_true rfl⟩ hP hD hK hS hA hB hC hl.1 (Nat.le_of_ble_eq_true rfl) ⟨Nat.le_of_ble_eq_true rfl, Nat.le_of_ble_eq_true rfl⟩ dL_law_150 (fun H locs hz hP hD hS => ?_)
    have hP : va_P D vwCl ((mW om 0 q cI cZ) ++ ((xW o u cI cZ cJ) ++ [(ao, .inl (cJ, 1, .inr (.inl (fun _ => 0))))])) H := hP
    have hD : va_D A ((mW om 0 q cI cZ) ++ ((xW o u cI cZ cJ) ++ [(ao, .inl (cJ, 1, .inr (.inl (fun _ => 0))))])) := hD
    refine lv_istore (lv' := [(5, .int 1), (4, .int 0), (3, .ref ao), (2, .ref om), (1, .ref o), (0, .ref b)]) hx hb dL_law_153 hl (by decide) rfl (fun ls hl => ?_)
    refine lv_aload_n hx hb dL_law_155 rfl (lv_at hl 3 rfl) ?_
    refine lv_aload_n hx hb dL_law_156 rfl (lv_at hl 5 rfl) ?_
    refine lv_iload hx hb dL_law_157 (lv_at hl 1 rfl) ?_
    refine lv_iconst (v := 1) hx hb dL_law_159 (by decide) ?_
    refine xiadd (v := 1) S dL_law_160 (by decide) ?_
    refine xsld (v := x1) S hX hbl hbA hS (vin rfl) h1 dL_law_161 ?_
    refine lv_aload_n hx hb dL_law_162 rfl (lv_at hl 5 rfl) ?_
    refine lv_iload hx hb dL_law_163 (lv_at hl 1 rfl) ?_
    refine lv_iconst (v := 2) hx hb dL_law_165 (by decide) ?_
    refine xiadd (v := 2) S dL_law_166 (by decide) ?_
    refine xsld (v := x2) S hX hbl hbA hS (vin rfl) h2 dL_law_167 ?_
    refine fVi [] ((xW o u cI cZ cJ) ++ [(ao, .inl (cJ, 1, .inr (.inl (fun _ => 0))))]) (mid := (mW om 0 q cI cZ)) (As := [.int x1, .int x2]) (ci := 9) S (c_X9_procedure_0 l D cI cZ cJ om q H.size x1 x2 hi_x1) mi_X9_procedure kw_7_93 rfl rfl ⟨Nat.le_of_ble_eq_true rfl, Nat.le_of_ble_eq_true rfl⟩ hP hD hK hS hA mW_0 rfl rfl hl.1 (Nat.le_of_ble_eq_true rfl) ⟨Nat.le_of_ble_eq_true rfl, Nat.le_of_ble_eq_true rfl⟩ dL_law_168 (fun H locs hz hP hD hS => ?_)
    have hP : va_P D vwCl ((mW om 1 q cI cZ) ++ ((xW o u cI cZ cJ) ++ [(ao, .inl (cJ, 1, .inr (.inl (fun _ => 0))))])) H := hP
    have hD : va_D A ((mW om 1 q cI cZ) ++ ((xW o u cI cZ cJ) ++ [(ao, .inl (cJ, 1, .inr (.inl (fun _ => 0))))])) := hD
    refine lv_istore (lv' := [(6, .int 0), (5, .int 1), (4, .int 0), (3, .ref ao), (2, .ref om), (1, .ref o), (0, .ref b)]) hx hb dL_law_171 hl (by decide) rfl (fun ls hl => ?_)
    refine lv_aload_n hx hb dL_law_173 rfl (lv_at hl 4 rfl) ?_
    refine rdV (As := []) (ci := 9) S (c_X9_thrown_0 l D cI cZ cJ om q) mi_X9_thrown kw_7_89 ⟨rfl, rfl⟩ ⟨Nat.le_of_ble_eq_true rfl, Nat.le_of_ble_eq_true rfl⟩ (va_Pl (ws := (mW om 1 q cI cZ)) (x := ((xW o u cI cZ cJ) ++ [(ao, .inl (cJ, 1, .inr (.inl (fun _ => 0))))])) hP) hK mW_0 rfl rfl hl.1 (Nat.le_of_ble_eq_true rfl) ⟨Nat.le_of_ble_eq_true rfl, Nat.le_of_ble_eq_true rfl⟩ dL_law_174 ?_
    refine lv_iload hx hb dL_law_177 (lv_at hl 1 rfl) ?_
    refine lv_icmp_eq (tgt := 184) hx hb dL_law_179 (by decide) (fun _ => ?_) (fun c => absurd c (by decide))
    refine lv_iload hx hb dL_law_184 (lv_at hl 1 rfl) ?_
    refine lv_if_ne (tgt := 201) hx hb dL_law_186 (by decide) (fun _ => ?_) (fun c => absurd c (by decide))
    refine lv_goto (tgt := 1519) hx hb dL_law_201 (by decide) ?_
    exact law_tail (C := 121) (Z := 12964) S hr hlocks hX hbl (lv_sub hl [2, 6] rfl) hS (Nat.le_of_ble_eq_true rfl) (Nat.le_of_ble_eq_true rfl)
  · have lo_x1 : 0 ≤ x1 := l_nlt d_150
    by_cases d_150 : 1 ≤ x1
    · have lo_x1 : 1 ≤ x1 := d_150
      refine wrap (mW om 0 q cI cZ) (mid := ((xW o u cI cZ cJ) ++ [(ao, .inl (cJ, 1, .inr (.inl (fun _ => 0))))])) (As := [.ref o, .int x1, .int x2, .ref ao]) S (h_procedure_1 l D cI cZ cJ o u ao hst ra ga H.size x1 x2 lo_x1) msh_L_procedure kw_5_173 rfl rfl ⟨Nat.le_of_ble_eq_true rfl, Nat.le_of_ble_eq_true rfl⟩ hP hD hK hS hA hB hC hl.1 (Nat.le_of_ble_eq_true rfl) ⟨Nat.le_of_ble_eq_true rfl, Nat.le_of_ble_eq_true rfl⟩ dL_law_150 (fun H locs hz hP hD hS => ?_)
      have hP : va_P D vwCl ((mW om 0 q cI cZ) ++ ((xW o u cI cZ cJ) ++ [(ao, .inl (cJ, 1, .inr (.inl (fun _ => 0))))])) H := hP
      have hD : va_D A ((mW om 0 q cI cZ) ++ ((xW o u cI cZ cJ) ++ [(ao, .inl (cJ, 1, .inr (.inl (fun _ => 0))))])) := hD
      refine lv_istore (lv' := [(5, .int 1), (4, .int 0), (3, .ref ao), (2, .ref om), (1, .ref o), (0, .ref b)]) hx hb dL_law_153 hl (by decide) rfl (fun ls hl => ?_)
      refine lv_aload_n hx hb dL_law_155 rfl (lv_at hl 3 rfl) ?_
      refine lv_aload_n hx hb dL_law_156 rfl (lv_at hl 5 rfl) ?_
      refine lv_iload hx hb dL_law_157 (lv_at hl 1 rfl) ?_
      refine lv_iconst (v := 1) hx hb dL_law_159 (by decide) ?_
      refine xiadd (v := 1) S dL_law_160 (by decide) ?_
      refine xsld (v := x1) S hX hbl hbA hS (vin rfl) h1 dL_law_161 ?_
      refine lv_aload_n hx hb dL_law_162 rfl (lv_at hl 5 rfl) ?_
      refine lv_iload hx hb dL_law_163 (lv_at hl 1 rfl) ?_
      refine lv_iconst (v := 2) hx hb dL_law_165 (by decide) ?_
      refine xiadd (v := 2) S dL_law_166 (by decide) ?_
      refine xsld (v := x2) S hX hbl hbA hS (vin rfl) h2 dL_law_167 ?_
      refine fVi [] ((xW o u cI cZ cJ) ++ [(ao, .inl (cJ, 1, .inr (.inl (fun _ => 0))))]) (mid := (mW om 0 q cI cZ)) (As := [.int x1, .int x2]) (ci := 9) S (c_X9_procedure_1 l D cI cZ cJ om q H.size x1 x2 lo_x1) mi_X9_procedure kw_7_93 rfl rfl ⟨Nat.le_of_ble_eq_true rfl, Nat.le_of_ble_eq_true rfl⟩ hP hD hK hS hA mW_0 rfl rfl hl.1 (Nat.le_of_ble_eq_true rfl) ⟨Nat.le_of_ble_eq_true rfl, Nat.le_of_ble_eq_true rfl⟩ dL_law_168 (fun H locs hz hP hD hS => ?_)
      have hP : va_P D vwCl ((mW om 1 q cI cZ) ++ ((xW o u cI cZ cJ) ++ [(ao, .inl (cJ, 1, .inr (.inl (fun _ => 0))))])) H := hP
      have hD : va_D A ((mW om 1 q cI cZ) ++ ((xW o u cI cZ cJ) ++ [(ao, .inl (cJ, 1, .inr (.inl (fun _ => 0))))])) := hD
      refine lv_istore (lv' := [(6, .int 0), (5, .int 1), (4, .int 0), (3, .ref ao), (2, .ref om), (1, .ref o), (0, .ref b)]) hx hb dL_law_171 hl (by decide) rfl (fun ls hl => ?_)
      refine lv_aload_n hx hb dL_law_173 rfl (lv_at hl 4 rfl) ?_
      refine rdV (As := []) (ci := 9) S (c_X9_thrown_0 l D cI cZ cJ om q) mi_X9_thrown kw_7_89 ⟨rfl, rfl⟩ ⟨Nat.le_of_ble_eq_true rfl, Nat.le_of_ble_eq_true rfl⟩ (va_Pl (ws := (mW om 1 q cI cZ)) (x := ((xW o u cI cZ cJ) ++ [(ao, .inl (cJ, 1, .inr (.inl (fun _ => 0))))])) hP) hK mW_0 rfl rfl hl.1 (Nat.le_of_ble_eq_true rfl) ⟨Nat.le_of_ble_eq_true rfl, Nat.le_of_ble_eq_true rfl⟩ dL_law_174 ?_
      refine lv_iload hx hb dL_law_177 (lv_at hl 1 rfl) ?_
      refine lv_icmp_eq (tgt := 184) hx hb dL_law_179 (by decide) (fun _ => ?_) (fun c => absurd c (by decide))
      refine lv_iload hx hb dL_law_184 (lv_at hl 1 rfl) ?_
      refine lv_if_ne (tgt := 201) hx hb dL_law_186 (by decide) (fun _ => ?_) (fun c => absurd c (by decide))
      refine lv_goto (tgt := 1519) hx hb dL_law_201 (by decide) ?_
      exact law_tail (C := 121) (Z := 12964) S hr hlocks hX hbl (lv_sub hl [2, 6] rfl) hS (Nat.le_of_ble_eq_true rfl) (Nat.le_of_ble_eq_true rfl)
    · have hi_x1 : x1 ≤ 0 := u_nge d_150 (by decide)
      have e_x1 : x1 = 0 := b_eq lo_x1 hi_x1
      subst e_x1
      by_cases d_150 : x2 < 0
      · have hi_x2 : x2 ≤ (-1) := u_lt d_150 (by decide)
        refine wrap (mW om 0 q cI cZ) (mid := ((xW o u cI cZ cJ) ++ [(ao, .inl (cJ, 1, .inr (.inl (fun _ => 0))))])) (As := [.ref o, .int 0, .int x2, .ref ao]) S (h_procedure_2 l D cI cZ cJ o u ao hst ra ga H.size x2 hi_x2) msh_L_procedure kw_5_173 rfl rfl ⟨Nat.le_of_ble_eq_true rfl, Nat.le_of_ble_eq_true rfl⟩ hP hD hK hS hA hB hC hl.1 (Nat.le_of_ble_eq_true rfl) ⟨Nat.le_of_ble_eq_true rfl, Nat.le_of_ble_eq_true rfl⟩ dL_law_150 (fun H locs hz hP hD hS => ?_)
        have hP : va_P D vwCl ((mW om 0 q cI cZ) ++ ((xW o u cI cZ cJ) ++ [(ao, .inl (cJ, 1, .inr (.inl (fun _ => 0))))])) H := hP
        have hD : va_D A ((mW om 0 q cI cZ) ++ ((xW o u cI cZ cJ) ++ [(ao, .inl (cJ, 1, .inr (.inl (fun _ => 0))))])) := hD
        refine lv_istore (lv' := [(5, .int 2), (4, .int 0), (3, .ref ao), (2, .ref om), (1, .ref o), (0, .ref b)]) hx hb dL_law_153 hl (by decide) rfl (fun ls hl => ?_)
        refine lv_aload_n hx hb dL_law_155 rfl (lv_at hl 3 rfl) ?_
        refine lv_aload_n hx hb dL_law_156 rfl (lv_at hl 5 rfl) ?_
        refine lv_iload hx hb dL_law_157 (lv_at hl 1 rfl) ?_
        refine lv_iconst (v := 1) hx hb dL_law_159 (by decide) ?_
        refine xiadd (v := 1) S dL_law_160 (by decide) ?_
        refine xsld (v := 0) S hX hbl hbA hS (vin rfl) h1 dL_law_161 ?_
        refine lv_aload_n hx hb dL_law_162 rfl (lv_at hl 5 rfl) ?_
        refine lv_iload hx hb dL_law_163 (lv_at hl 1 rfl) ?_
        refine lv_iconst (v := 2) hx hb dL_law_165 (by decide) ?_
        refine xiadd (v := 2) S dL_law_166 (by decide) ?_
        refine xsld (v := x2) S hX hbl hbA hS (vin rfl) h2 dL_law_167 ?_
        refine fVi [] ((xW o u cI cZ cJ) ++ [(ao, .inl (cJ, 1, .inr (.inl (fun _ => 0))))]) (mid := (mW om 0 q cI cZ)) (As := [.int 0, .int x2]) (ci := 9) S (c_X9_procedure_2 l D cI cZ cJ om q H.size x2 hi_x2) mi_X9_procedure kw_7_93 rfl rfl ⟨Nat.le_of_ble_eq_true rfl, Nat.le_of_ble_eq_true rfl⟩ hP hD hK hS hA mW_0 rfl rfl hl.1 (Nat.le_of_ble_eq_true rfl) ⟨Nat.le_of_ble_eq_true rfl, Nat.le_of_ble_eq_true rfl⟩ dL_law_168 (fun H locs hz hP hD hS => ?_)
        have hP : va_P D vwCl ((mW om 2 q cI cZ) ++ ((xW o u cI cZ cJ) ++ [(ao, .inl (cJ, 1, .inr (.inl (fun _ => 0))))])) H := hP
        have hD : va_D A ((mW om 2 q cI cZ) ++ ((xW o u cI cZ cJ) ++ [(ao, .inl (cJ, 1, .inr (.inl (fun _ => 0))))])) := hD
        refine lv_istore (lv' := [(6, .int 0), (5, .int 2), (4, .int 0), (3, .ref ao), (2, .ref om), (1, .ref o), (0, .ref b)]) hx hb dL_law_171 hl (by decide) rfl (fun ls hl => ?_)
        refine lv_aload_n hx hb dL_law_173 rfl (lv_at hl 4 rfl) ?_
        refine rdV (As := []) (ci := 9) S (c_X9_thrown_1 l D cI cZ cJ om q) mi_X9_thrown kw_7_89 ⟨rfl, rfl⟩ ⟨Nat.le_of_ble_eq_true rfl, Nat.le_of_ble_eq_true rfl⟩ (va_Pl (ws := (mW om 2 q cI cZ)) (x := ((xW o u cI cZ cJ) ++ [(ao, .inl (cJ, 1, .inr (.inl (fun _ => 0))))])) hP) hK mW_0 rfl rfl hl.1 (Nat.le_of_ble_eq_true rfl) ⟨Nat.le_of_ble_eq_true rfl, Nat.le_of_ble_eq_true rfl⟩ dL_law_174 ?_
        refine lv_iload hx hb dL_law_177 (lv_at hl 1 rfl) ?_
        refine lv_icmp_eq (tgt := 184) hx hb dL_law_179 (by decide) (fun _ => ?_) (fun c => absurd c (by decide))
        refine lv_iload hx hb dL_law_184 (lv_at hl 1 rfl) ?_
        refine lv_if_ne (tgt := 201) hx hb dL_law_186 (by decide) (fun _ => ?_) (fun c => absurd c (by decide))
        refine lv_goto (tgt := 1519) hx hb dL_law_201 (by decide) ?_
        exact law_tail (C := 121) (Z := 12964) S hr hlocks hX hbl (lv_sub hl [2, 6] rfl) hS (Nat.le_of_ble_eq_true rfl) (Nat.le_of_ble_eq_true rfl)
      · have lo_x2 : 0 ≤ x2 := l_nlt d_150
        by_cases d_150 : 16 ≤ x2
        · have lo_x2 : 16 ≤ x2 := d_150
          refine wrap (mW om 0 q cI cZ) (mid := ((xW o u cI cZ cJ) ++ [(ao, .inl (cJ, 1, .inr (.inl (fun _ => 0))))])) (As := [.ref o, .int 0, .int x2, .ref ao]) S (h_procedure_3 l D cI cZ cJ o u ao hst ra ga H.size x2 lo_x2) msh_L_procedure kw_5_173 rfl rfl ⟨Nat.le_of_ble_eq_true rfl, Nat.le_of_ble_eq_true rfl⟩ hP hD hK hS hA hB hC hl.1 (Nat.le_of_ble_eq_true rfl) ⟨Nat.le_of_ble_eq_true rfl, Nat.le_of_ble_eq_true rfl⟩ dL_law_150 (fun H locs hz hP hD hS => ?_)
          have hP : va_P D vwCl ((mW om 0 q cI cZ) ++ ((xW o u cI cZ cJ) ++ [(ao, .inl (cJ, 1, .inr (.inl (fun _ => 0))))])) H := hP
          have hD : va_D A ((mW om 0 q cI cZ) ++ ((xW o u cI cZ cJ) ++ [(ao, .inl (cJ, 1, .inr (.inl (fun _ => 0))))])) := hD
          refine lv_istore (lv' := [(5, .int 2), (4, .int 0), (3, .ref ao), (2, .ref om), (1, .ref o), (0, .ref b)]) hx hb dL_law_153 hl (by decide) rfl (fun ls hl => ?_)
          refine lv_aload_n hx hb dL_law_155 rfl (lv_at hl 3 rfl) ?_
          refine lv_aload_n hx hb dL_law_156 rfl (lv_at hl 5 rfl) ?_
          refine lv_iload hx hb dL_law_157 (lv_at hl 1 rfl) ?_
          refine lv_iconst (v := 1) hx hb dL_law_159 (by decide) ?_
          refine xiadd (v := 1) S dL_law_160 (by decide) ?_
          refine xsld (v := 0) S hX hbl hbA hS (vin rfl) h1 dL_law_161 ?_
          refine lv_aload_n hx hb dL_law_162 rfl (lv_at hl 5 rfl) ?_
          refine lv_iload hx hb dL_law_163 (lv_at hl 1 rfl) ?_
          refine lv_iconst (v := 2) hx hb dL_law_165 (by decide) ?_
          refine xiadd (v := 2) S dL_law_166 (by decide) ?_
          refine xsld (v := x2) S hX hbl hbA hS (vin rfl) h2 dL_law_167 ?_
          refine fVi [] ((xW o u cI cZ cJ) ++ [(ao, .inl (cJ, 1, .inr (.inl (fun _ => 0))))]) (mid := (mW om 0 q cI cZ)) (As := [.int 0, .int x2]) (ci := 9) S (c_X9_procedure_3 l D cI cZ cJ om q H.size x2 lo_x2) mi_X9_procedure kw_7_93 rfl rfl ⟨Nat.le_of_ble_eq_true rfl, Nat.le_of_ble_eq_true rfl⟩ hP hD hK hS hA mW_0 rfl rfl hl.1 (Nat.le_of_ble_eq_true rfl) ⟨Nat.le_of_ble_eq_true rfl, Nat.le_of_ble_eq_true rfl⟩ dL_law_168 (fun H locs hz hP hD hS => ?_)
          have hP : va_P D vwCl ((mW om 2 q cI cZ) ++ ((xW o u cI cZ cJ) ++ [(ao, .inl (cJ, 1, .inr (.inl (fun _ => 0))))])) H := hP
          have hD : va_D A ((mW om 2 q cI cZ) ++ ((xW o u cI cZ cJ) ++ [(ao, .inl (cJ, 1, .inr (.inl (fun _ => 0))))])) := hD
          refine lv_istore (lv' := [(6, .int 0), (5, .int 2), (4, .int 0), (3, .ref ao), (2, .ref om), (1, .ref o), (0, .ref b)]) hx hb dL_law_171 hl (by decide) rfl (fun ls hl => ?_)
          refine lv_aload_n hx hb dL_law_173 rfl (lv_at hl 4 rfl) ?_
          refine rdV (As := []) (ci := 9) S (c_X9_thrown_1 l D cI cZ cJ om q) mi_X9_thrown kw_7_89 ⟨rfl, rfl⟩ ⟨Nat.le_of_ble_eq_true rfl, Nat.le_of_ble_eq_true rfl⟩ (va_Pl (ws := (mW om 2 q cI cZ)) (x := ((xW o u cI cZ cJ) ++ [(ao, .inl (cJ, 1, .inr (.inl (fun _ => 0))))])) hP) hK mW_0 rfl rfl hl.1 (Nat.le_of_ble_eq_true rfl) ⟨Nat.le_of_ble_eq_true rfl, Nat.le_of_ble_eq_true rfl⟩ dL_law_174 ?_
          refine lv_iload hx hb dL_law_177 (lv_at hl 1 rfl) ?_
          refine lv_icmp_eq (tgt := 184) hx hb dL_law_179 (by decide) (fun _ => ?_) (fun c => absurd c (by decide))
          refine lv_iload hx hb dL_law_184 (lv_at hl 1 rfl) ?_
          refine lv_if_ne (tgt := 201) hx hb dL_law_186 (by decide) (fun _ => ?_) (fun c => absurd c (by decide))
          refine lv_goto (tgt := 1519) hx hb dL_law_201 (by decide) ?_
          exact law_tail (C := 121) (Z := 12964) S hr hlocks hX hbl (lv_sub hl [2, 6] rfl) hS (Nat.le_of_ble_eq_true rfl) (Nat.le_of_ble_eq_true rfl)
        · have hi_x2 : x2 ≤ 15 := u_nge d_150 (by decide)
          refine wrap (mW om 0 q cI cZ) (mid := ((xW o u cI cZ cJ) ++ [(ao, .inl (cJ, 1, .inr (.inl (fun _ => 0))))])) (As := [.ref o, .int 0, .int x2, .ref ao]) S (h_procedure_4 l D cI cZ cJ o u ao hst ra ga H.size x2 lo_x2 hi_x2) msh_L_procedure kw_5_173 rfl rfl ⟨Nat.le_of_ble_eq_true rfl, Nat.le_of_ble_eq_true rfl⟩ hP hD hK hS hA hB hC hl.1 (Nat.le_of_ble_eq_true rfl) ⟨Nat.le_of_ble_eq_true rfl, Nat.le_of_ble_eq_true rfl⟩ dL_law_150 (fun H locs hz hP hD hS => ?_)
          have hP : va_P D vwCl ((mW om 0 q cI cZ) ++ ((((((((xW o u cI cZ cJ).set 1 ((u 0), .inr (1, ([.int 1, .ref (u 1), .ref (u 2), .ref (u 3), .ref (u 4), .ref (u 5), .ref (u 6), .ref (u 7), .ref (u 8), .ref (u 9), .ref (u 10), .ref (u 11)].set 0 (.int 2))))).set 2 ((u 1), .inl (cI, 10, .inl (upd (upd (fun _ => 0) (0 : Int32).toNatClampNeg (-1)) (1 : Int32).toNatClampNeg 0)))).set 3 ((u 2), .inl (cI, 10, .inl (upd (upd (fun _ => 0) (0 : Int32).toNatClampNeg (-1)) (1 : Int32).toNatClampNeg x2)))).set 8 ((u 7), .inl (cI, 160, .inl (upd (fun _ => (-1)) (x2 : Int32).toNatClampNeg 10)))).set 9 ((u 8), .inl (cI, 160, .inl (upd (fun _ => 0) (x2 : Int32).toNatClampNeg (-1))))).set 10 ((u 9), .inl (cI, 160, .inl (upd (fun _ => 0) (x2 : Int32).toNatClampNeg 1)))) ++ [(ao, .inl (cJ, 1, .inr (.inl (vp_updL (fun _ => 0) (0 : Int32).toNatClampNeg 1))))])) H := hP
          have hD : va_D A ((mW om 0 q cI cZ) ++ ((((((((xW o u cI cZ cJ).set 1 ((u 0), .inr (1, ([.int 1, .ref (u 1), .ref (u 2), .ref (u 3), .ref (u 4), .ref (u 5), .ref (u 6), .ref (u 7), .ref (u 8), .ref (u 9), .ref (u 10), .ref (u 11)].set 0 (.int 2))))).set 2 ((u 1), .inl (cI, 10, .inl (upd (upd (fun _ => 0) (0 : Int32).toNatClampNeg (-1)) (1 : Int32).toNatClampNeg 0)))).set 3 ((u 2), .inl (cI, 10, .inl (upd (upd (fun _ => 0) (0 : Int32).toNatClampNeg (-1)) (1 : Int32).toNatClampNeg x2)))).set 8 ((u 7), .inl (cI, 160, .inl (upd (fun _ => (-1)) (x2 : Int32).toNatClampNeg 10)))).set 9 ((u 8), .inl (cI, 160, .inl (upd (fun _ => 0) (x2 : Int32).toNatClampNeg (-1))))).set 10 ((u 9), .inl (cI, 160, .inl (upd (fun _ => 0) (x2 : Int32).toNatClampNeg 1)))) ++ [(ao, .inl (cJ, 1, .inr (.inl (vp_updL (fun _ => 0) (0 : Int32).toNatClampNeg 1))))])) := hD
          refine lv_istore (lv' := [(5, .int 0), (4, .int 0), (3, .ref ao), (2, .ref om), (1, .ref o), (0, .ref b)]) hx hb dL_law_153 hl (by decide) rfl (fun ls hl => ?_)
          refine lv_aload_n hx hb dL_law_155 rfl (lv_at hl 3 rfl) ?_
          refine lv_aload_n hx hb dL_law_156 rfl (lv_at hl 5 rfl) ?_
          refine lv_iload hx hb dL_law_157 (lv_at hl 1 rfl) ?_
          refine lv_iconst (v := 1) hx hb dL_law_159 (by decide) ?_
          refine xiadd (v := 1) S dL_law_160 (by decide) ?_
          refine xsld (v := 0) S hX hbl hbA hS (vin rfl) h1 dL_law_161 ?_
          refine lv_aload_n hx hb dL_law_162 rfl (lv_at hl 5 rfl) ?_
          refine lv_iload hx hb dL_law_163 (lv_at hl 1 rfl) ?_
          refine lv_iconst (v := 2) hx hb dL_law_165 (by decide) ?_
          refine xiadd (v := 2) S dL_law_166 (by decide) ?_
          refine xsld (v := x2) S hX hbl hbA hS (vin rfl) h2 dL_law_167 ?_
          refine fVi [] ((((((((xW o u cI cZ cJ).set 1 ((u 0), .inr (1, ([.int 1, .ref (u 1), .ref (u 2), .ref (u 3), .ref (u 4), .ref (u 5), .ref (u 6), .ref (u 7), .ref (u 8), .ref (u 9), .ref (u 10), .ref (u 11)].set 0 (.int 2))))).set 2 ((u 1), .inl (cI, 10, .inl (upd (upd (fun _ => 0) (0 : Int32).toNatClampNeg (-1)) (1 : Int32).toNatClampNeg 0)))).set 3 ((u 2), .inl (cI, 10, .inl (upd (upd (fun _ => 0) (0 : Int32).toNatClampNeg (-1)) (1 : Int32).toNatClampNeg x2)))).set 8 ((u 7), .inl (cI, 160, .inl (upd (fun _ => (-1)) (x2 : Int32).toNatClampNeg 10)))).set 9 ((u 8), .inl (cI, 160, .inl (upd (fun _ => 0) (x2 : Int32).toNatClampNeg (-1))))).set 10 ((u 9), .inl (cI, 160, .inl (upd (fun _ => 0) (x2 : Int32).toNatClampNeg 1)))) ++ [(ao, .inl (cJ, 1, .inr (.inl (vp_updL (fun _ => 0) (0 : Int32).toNatClampNeg 1))))]) (mid := (mW om 0 q cI cZ)) (As := [.int 0, .int x2]) (ci := 9) S (c_X9_procedure_4 l D cI cZ cJ om q H.size x2 lo_x2 hi_x2) mi_X9_procedure kw_7_93 rfl rfl ⟨Nat.le_of_ble_eq_true rfl, Nat.le_of_ble_eq_true rfl⟩ hP hD hK hS hA mW_0 rfl rfl hl.1 (Nat.le_of_ble_eq_true rfl) ⟨Nat.le_of_ble_eq_true rfl, Nat.le_of_ble_eq_true rfl⟩ dL_law_168 (fun H locs hz hP hD hS => ?_)
          have hP : va_P D vwCl ((((((((mW om 0 q cI cZ).set 0 (om, .inr (9, ((mF 0 q).set 1 (.int 2))))).set 1 ((q 0), .inl (cI, 10, .inl (upd (upd (fun _ => 0) 0 (-1)) (1 : Int32).toNatClampNeg 0)))).set 2 ((q 1), .inl (cI, 10, .inl (upd (upd (fun _ => 0) 0 (-1)) (1 : Int32).toNatClampNeg x2)))).set 7 ((q 6), .inl (cI, 160, .inl (upd (fun _ => -1) (x2 : Int32).toNatClampNeg 10)))).set 8 ((q 7), .inl (cI, 160, .inl (upd (fun _ => 0) (x2 : Int32).toNatClampNeg (-1))))).set 9 ((q 8), .inl (cI, 160, .inl (upd (fun _ => 0) (x2 : Int32).toNatClampNeg 1)))) ++ ((((((((xW o u cI cZ cJ).set 1 ((u 0), .inr (1, ([.int 1, .ref (u 1), .ref (u 2), .ref (u 3), .ref (u 4), .ref (u 5), .ref (u 6), .ref (u 7), .ref (u 8), .ref (u 9), .ref (u 10), .ref (u 11)].set 0 (.int 2))))).set 2 ((u 1), .inl (cI, 10, .inl (upd (upd (fun _ => 0) (0 : Int32).toNatClampNeg (-1)) (1 : Int32).toNatClampNeg 0)))).set 3 ((u 2), .inl (cI, 10, .inl (upd (upd (fun _ => 0) (0 : Int32).toNatClampNeg (-1)) (1 : Int32).toNatClampNeg x2)))).set 8 ((u 7), .inl (cI, 160, .inl (upd (fun _ => (-1)) (x2 : Int32).toNatClampNeg 10)))).set 9 ((u 8), .inl (cI, 160, .inl (upd (fun _ => 0) (x2 : Int32).toNatClampNeg (-1))))).set 10 ((u 9), .inl (cI, 160, .inl (upd (fun _ => 0) (x2 : Int32).toNatClampNeg 1)))) ++ [(ao, .inl (cJ, 1, .inr (.inl (vp_updL (fun _ => 0) (0 : Int32).toNatClampNeg 1))))])) H := hP
          have hD : va_D A ((((((((mW om 0 q cI cZ).set 0 (om, .inr (9, ((mF 0 q).set 1 (.int 2))))).set 1 ((q 0), .inl (cI, 10, .inl (upd (upd (fun _ => 0) 0 (-1)) (1 : Int32).toNatClampNeg 0)))).set 2 ((q 1), .inl (cI, 10, .inl (upd (upd (fun _ => 0) 0 (-1)) (1 : Int32).toNatClampNeg x2)))).set 7 ((q 6), .inl (cI, 160, .inl (upd (fun _ => -1) (x2 : Int32).toNatClampNeg 10)))).set 8 ((q 7), .inl (cI, 160, .inl (upd (fun _ => 0) (x2 : Int32).toNatClampNeg (-1))))).set 9 ((q 8), .inl (cI, 160, .inl (upd (fun _ => 0) (x2 : Int32).toNatClampNeg 1)))) ++ ((((((((xW o u cI cZ cJ).set 1 ((u 0), .inr (1, ([.int 1, .ref (u 1), .ref (u 2), .ref (u 3), .ref (u 4), .ref (u 5), .ref (u 6), .ref (u 7), .ref (u 8), .ref (u 9), .ref (u 10), .ref (u 11)].set 0 (.int 2))))).set 2 ((u 1), .inl (cI, 10, .inl (upd (upd (fun _ => 0) (0 : Int32).toNatClampNeg (-1)) (1 : Int32).toNatClampNeg 0)))).set 3 ((u 2), .inl (cI, 10, .inl (upd (upd (fun _ => 0) (0 : Int32).toNatClampNeg (-1)) (1 : Int32).toNatClampNeg x2)))).set 8 ((u 7), .inl (cI, 160, .inl (upd (fun _ => (-1)) (x2 : Int32).toNatClampNeg 10)))).set 9 ((u 8), .inl (cI, 160, .inl (upd (fun _ => 0) (x2 : Int32).toNatClampNeg (-1))))).set 10 ((u 9), .inl (cI, 160, .inl (upd (fun _ => 0) (x2 : Int32).toNatClampNeg 1)))) ++ [(ao, .inl (cJ, 1, .inr (.inl (vp_updL (fun _ => 0) (0 : Int32).toNatClampNeg 1))))])) := hD
          refine lv_istore (lv' := [(6, .int 1), (5, .int 0), (4, .int 0), (3, .ref ao), (2, .ref om), (1, .ref o), (0, .ref b)]) hx hb dL_law_171 hl (by decide) rfl (fun ls hl => ?_)
          refine lv_aload_n hx hb dL_law_173 rfl (lv_at hl 4 rfl) ?_
          refine rdV (As := []) (ci := 9) S (c_X9_thrown_2 l D cI cZ cJ om q x2 lo_x2 hi_x2) mi_X9_thrown kw_7_89 ⟨rfl, rfl⟩ ⟨Nat.le_of_ble_eq_true rfl, Nat.le_of_ble_eq_true rfl⟩ (va_Pl (ws := (((((((mW om 0 q cI cZ).set 0 (om, .inr (9, ((mF 0 q).set 1 (.int 2))))).set 1 ((q 0), .inl (cI, 10, .inl (upd (upd (fun _ => 0) 0 (-1)) (1 : Int32).toNatClampNeg 0)))).set 2 ((q 1), .inl (cI, 10, .inl (upd (upd (fun _ => 0) 0 (-1)) (1 : Int32).toNatClampNeg x2)))).set 7 ((q 6), .inl (cI, 160, .inl (upd (fun _ => -1) (x2 : Int32).toNatClampNeg 10)))).set 8 ((q 7), .inl (cI, 160, .inl (upd (fun _ => 0) (x2 : Int32).toNatClampNeg (-1))))).set 9 ((q 8), .inl (cI, 160, .inl (upd (fun _ => 0) (x2 : Int32).toNatClampNeg 1))))) (x := ((((((((xW o u cI cZ cJ).set 1 ((u 0), .inr (1, ([.int 1, .ref (u 1), .ref (u 2), .ref (u 3), .ref (u 4), .ref (u 5), .ref (u 6), .ref (u 7), .ref (u 8), .ref (u 9), .ref (u 10), .ref (u 11)].set 0 (.int 2))))).set 2 ((u 1), .inl (cI, 10, .inl (upd (upd (fun _ => 0) (0 : Int32).toNatClampNeg (-1)) (1 : Int32).toNatClampNeg 0)))).set 3 ((u 2), .inl (cI, 10, .inl (upd (upd (fun _ => 0) (0 : Int32).toNatClampNeg (-1)) (1 : Int32).toNatClampNeg x2)))).set 8 ((u 7), .inl (cI, 160, .inl (upd (fun _ => (-1)) (x2 : Int32).toNatClampNeg 10)))).set 9 ((u 8), .inl (cI, 160, .inl (upd (fun _ => 0) (x2 : Int32).toNatClampNeg (-1))))).set 10 ((u 9), .inl (cI, 160, .inl (upd (fun _ => 0) (x2 : Int32).toNatClampNeg 1)))) ++ [(ao, .inl (cJ, 1, .inr (.inl (vp_updL (fun _ => 0) (0 : Int32).toNatClampNeg 1))))])) hP) hK (k := 0) rfl rfl rfl hl.1 (Nat.le_of_ble_eq_true rfl) ⟨Nat.le_of_ble_eq_true rfl, Nat.le_of_ble_eq_true rfl⟩ dL_law_174 ?_
          refine lv_iload hx hb dL_law_177 (lv_at hl 1 rfl) ?_
          refine lv_icmp_eq (tgt := 184) hx hb dL_law_179 (by decide) (fun _ => ?_) (fun c => absurd c (by decide))
          refine lv_iload hx hb dL_law_184 (lv_at hl 1 rfl) ?_
          refine lv_if_ne (tgt := 201) hx hb dL_law_186 (by decide) (fun c => absurd c (by decide)) (fun _ => ?_)
          refine lv_aload_n hx hb dL_law_189 rfl (lv_at hl 3 rfl) ?_
          refine lv_iconst (v := 0) hx hb dL_law_190 (by decide) ?_
          refine xlald (t0 := 2) (v := 1) S hK hP (q0 := 119) rfl rfl (vin rfl) rfl dL_law_191 ?_
          refine lv_iload hx hb dL_law_192 (lv_at hl 0 rfl) ?_
          refine lv_i2l (v := 1) hx hb dL_law_194 (by decide) ?_
          refine xlcmp (v := 0) S dL_law_195 (by decide) ?_
          refine lv_if_eq (tgt := 201) hx hb dL_law_196 (by decide) (fun _ => ?_) (fun c => absurd c (by decide))
          refine lv_goto (tgt := 1519) hx hb dL_law_201 (by decide) ?_
          exact law_tail (C := 120) (Z := 12958) S hr hlocks hX hbl (lv_sub hl [2, 6] rfl) hS (Nat.le_of_ble_eq_true rfl) (Nat.le_of_ble_eq_true rfl)

set_option maxHeartbeats 8000000 in
set_option maxRecDepth 100000 in
theorem law_1 (l : Launch) (hst : l.stackTraces = false) (D : va_G) (cI cZ cJ : ClassId) {p : Program} {e : Env} {s : State} {m : MethodId} {below : List Frame} {meth : Method} {c : Code} {b : Nat} {xs : Nat → Int32} (S : CallFix p m c cL_law 9 s #[Value.ref b] uG RL) (hr : meth.sig.returnType = ret) (hlocks : meth.locks = false) (hX : va_X b 5 xs s s.heap) (hbl : b < s.heap.size) (hK : va_K D vwCl (tyL cI cZ cJ) s) (ra ga : Nat → Nat) (hB : amb ra ga (fun q => s.heap.size ≤ q) s s.heap) (hC : ambC s) (x1 x2 x3 x4 : Int32) (h1 : xs 1 = x1) (h2 : xs 2 = x2) (h3 : xs 3 = x3) (h4 : xs 4 = x4) (o om ao : Nat) (u q : Nat → Nat) (ls : Array Slot) (H : Heap) (locs : List Loc) (hl : lv_has ls 9 [(4, .int 0), (3, .ref ao), (2, .ref om), (1, .ref o), (0, .ref b)]) (hP : va_P D vwCl ((mW om 0 q cI cZ) ++ ((xW o u cI cZ cJ) ++ [(ao, .inl (cJ, 1, .inr (.inl (fun _ => 0))))])) H) (hD : va_D (fun q => s.heap.size ≤ q) ((mW om 0 q cI cZ) ++ ((xW o u cI cZ cJ) ++ [(ao, .inl (cJ, 1, .inr (.inl (fun _ => 0))))]))) (hS : va_S (fun q => s.heap.size ≤ q) s.heap H locs) : W p l e room_1 s m #[Value.ref b] below meth c H locs 120 12958 (lw_Z below #[Value.ref b] s) (F0 m 204 ls []) := by
  have hx := S.1
  have hb := S.2.1
  have hA : ∀ q : Nat, s.heap.size ≤ q → (fun q : Nat => s.heap.size ≤ q) q := fun _ h => h
  have hbA : ¬ (fun q : Nat => s.heap.size ≤ q) b := Nat.not_le.mpr hbl
  refine lv_aload_n hx hb dL_law_204 rfl (lv_at hl 3 rfl) ?_
  refine lv_aload_n hx hb dL_law_205 rfl (lv_at hl 4 rfl) ?_
  refine lv_iload hx hb dL_law_206 (lv_at hl 0 rfl) ?_
  refine lv_iconst (v := 1) hx hb dL_law_208 (by decide) ?_
  refine xiadd (v := 1) S dL_law_209 (by decide) ?_
  refine xsld (v := x1) S hX hbl hbA hS (vin rfl) h1 dL_law_210 ?_
  refine lv_aload_n hx hb dL_law_211 rfl (lv_at hl 4 rfl) ?_
  refine lv_iload hx hb dL_law_212 (lv_at hl 0 rfl) ?_
  refine lv_iconst (v := 2) hx hb dL_law_214 (by decide) ?_
  refine xiadd (v := 2) S dL_law_215 (by decide) ?_
  refine xsld (v := x2) S hX hbl hbA hS (vin rfl) h2 dL_law_216 ?_
  refine lv_aload_n hx hb dL_law_217 rfl (lv_at hl 4 rfl) ?_
  refine lv_iload hx hb dL_law_218 (lv_at hl 0 rfl) ?_
  refine lv_iconst (v := 3) hx hb dL_law_220 (by decide) ?_
  refine xiadd (v := 3) S dL_law_221 (by decide) ?_
  refine xsld (v := x3) S hX hbl hbA hS (vin rfl) h3 dL_law_222 ?_
  refine lv_aload_n hx hb dL_law_223 rfl (lv_at hl 1 rfl) ?_
  by_cases d_224 : x1 < 0
  · have hi_x1 : x1 ≤ (-1) := u_lt d_224 (by decide)
    refine wrap (mW om 0 q cI cZ) (mid := ((xW o u cI cZ cJ) ++ [(ao, .inl (cJ, 1, .inr (.inl (fun _ => 0))))])) (As := [.ref o, .int x1, .int x2, .int x3, .ref ao]) S (h_parameter_0 l D cI cZ cJ o u ao hst ra ga H.size x1 x2 x3 hi_x1) msh_L_parameter kw_5_210 rfl rfl ⟨Nat.le_of_ble_eq_true rfl, Nat.le_of_ble_eq_true rfl⟩ hP hD hK hS hA hB hC hl.1 (Nat.le_of_ble_eq_true rfl) ⟨Nat.le_of_ble_eq_true rfl, Nat.le_of_ble_eq_true rfl⟩ dL_law_224 (fun H locs hz hP hD hS => ?_)
    have hP : va_P D vwCl ((mW om 0 q cI cZ) ++ ((xW o u cI cZ cJ) ++ [(ao, .inl (cJ, 1, .inr (.inl (fun _ => 0))))])) H := hP
    have hD : va_D A ((mW om 0 q cI cZ) ++ ((xW o u cI cZ cJ) ++ [(ao, .inl (cJ, 1, .inr (.inl (fun _ => 0))))])) := hD
    refine lv_istore (lv' := [(5, .int 1), (4, .int 0), (3, .ref ao), (2, .ref om), (1, .ref o), (0, .ref b)]) hx hb dL_law_227 hl (by decide) rfl (fun ls hl => ?_)
    refine lv_aload_n hx hb dL_law_229 rfl (lv_at hl 3 rfl) ?_
    refine lv_aload_n hx hb dL_law_230 rfl (lv_at hl 5 rfl) ?_
    refine lv_iload hx hb dL_law_231 (lv_at hl 1 rfl) ?_
    refine lv_iconst (v := 1) hx hb dL_law_233 (by decide) ?_
    refine xiadd (v := 1) S dL_law_234 (by decide) ?_
    refine xsld (v := x1) S hX hbl hbA hS (vin rfl) h1 dL_law_235 ?_
    refine lv_aload_n hx hb dL_law_236 rfl (lv_at hl 5 rfl) ?_
    refine lv_iload hx hb dL_law_237 (lv_at hl 1 rfl) ?_
    refine lv_iconst (v := 2) hx hb dL_law_239 (by decide) ?_
    refine xiadd (v := 2) S dL_law_240 (by decide) ?_
    refine xsld (v := x2) S hX hbl hbA hS (vin rfl) h2 dL_law_241 ?_
    refine lv_aload_n hx hb dL_law_242 rfl (lv_at hl 5 rfl) ?_
    refine lv_iload hx hb dL_law_243 (lv_at hl 1 rfl) ?_
    refine lv_iconst (v := 3) hx hb dL_law_245 (by decide) ?_
    refine xiadd (v := 3) S dL_law_246 (by decide) ?_
    refine xsld (v := x3) S hX hbl hbA hS (vin rfl) h3 dL_law_247 ?_
    refine fVi [] ((xW o u cI cZ cJ) ++ [(ao, .inl (cJ, 1, .inr (.inl (fun _ => 0))))]) (mid := (mW om 0 q cI cZ)) (As := [.int x1, .int x2, .int x3]) (ci := 9) S (c_X9_parameter_0 l D cI cZ cJ om q H.size x1 x2 x3 hi_x1) mi_X9_parameter kw_7_115 rfl rfl ⟨Nat.le_of_ble_eq_true rfl, Nat.le_of_ble_eq_true rfl⟩ hP hD hK hS hA mW_0 rfl rfl hl.1 (Nat.le_of_ble_eq_true rfl) ⟨Nat.le_of_ble_eq_true rfl, Nat.le_of_ble_eq_true rfl⟩ dL_law_248 (fun H locs hz hP hD hS => ?_)
    have hP : va_P D vwCl ((mW om 1 q cI cZ) ++ ((xW o u cI cZ cJ) ++ [(ao, .inl (cJ, 1, .inr (.inl (fun _ => 0))))])) H := hP
    have hD : va_D A ((mW om 1 q cI cZ) ++ ((xW o u cI cZ cJ) ++ [(ao, .inl (cJ, 1, .inr (.inl (fun _ => 0))))])) := hD
    refine lv_istore (lv' := [(6, .int 0), (5, .int 1), (4, .int 0), (3, .ref ao), (2, .ref om), (1, .ref o), (0, .ref b)]) hx hb dL_law_251 hl (by decide) rfl (fun ls hl => ?_)
    refine lv_aload_n hx hb dL_law_253 rfl (lv_at hl 4 rfl) ?_
    refine rdV (As := []) (ci := 9) S (c_X9_thrown_0 l D cI cZ cJ om q) mi_X9_thrown kw_7_89 ⟨rfl, rfl⟩ ⟨Nat.le_of_ble_eq_true rfl, Nat.le_of_ble_eq_true rfl⟩ (va_Pl (ws := (mW om 1 q cI cZ)) (x := ((xW o u cI cZ cJ) ++ [(ao, .inl (cJ, 1, .inr (.inl (fun _ => 0))))])) hP) hK mW_0 rfl rfl hl.1 (Nat.le_of_ble_eq_true rfl) ⟨Nat.le_of_ble_eq_true rfl, Nat.le_of_ble_eq_true rfl⟩ dL_law_254 ?_
    refine lv_iload hx hb dL_law_257 (lv_at hl 1 rfl) ?_
    refine lv_icmp_eq (tgt := 264) hx hb dL_law_259 (by decide) (fun _ => ?_) (fun c => absurd c (by decide))
    refine lv_iload hx hb dL_law_264 (lv_at hl 1 rfl) ?_
    refine lv_if_ne (tgt := 281) hx hb dL_law_266 (by decide) (fun _ => ?_) (fun c => absurd c (by decide))
    refine lv_goto (tgt := 1519) hx hb dL_law_281 (by decide) ?_
    exact law_tail (C := 121) (Z := 12964) S hr hlocks hX hbl (lv_sub hl [2, 6] rfl) hS (Nat.le_of_ble_eq_true rfl) (Nat.le_of_ble_eq_true rfl)
  · have lo_x1 : 0 ≤ x1 := l_nlt d_224
    by_cases d_224 : 1 ≤ x1
    · have lo_x1 : 1 ≤ x1 := d_224
      refine wrap (mW om 0 q cI cZ) (mid := ((xW o u cI cZ cJ) ++ [(ao, .inl (cJ, 1, .inr (.inl (fun _ => 0))))])) (As := [.ref o, .int x1, .int x2, .int x3, .ref ao]) S (h_parameter_1 l D cI cZ cJ o u ao hst ra ga H.size x1 x2 x3 lo_x1) msh_L_parameter kw_5_210 rfl rfl ⟨Nat.le_of_ble_eq_true rfl, Nat.le_of_ble_eq_true rfl⟩ hP hD hK hS hA hB hC hl.1 (Nat.le_of_ble_eq_true rfl) ⟨Nat.le_of_ble_eq_true rfl, Nat.le_of_ble_eq_true rfl⟩ dL_law_224 (fun H locs hz hP hD hS => ?_)
      have hP : va_P D vwCl ((mW om 0 q cI cZ) ++ ((xW o u cI cZ cJ) ++ [(ao, .inl (cJ, 1, .inr (.inl (fun _ => 0))))])) H := hP
      have hD : va_D A ((mW om 0 q cI cZ) ++ ((xW o u cI cZ cJ) ++ [(ao, .inl (cJ, 1, .inr (.inl (fun _ => 0))))])) := hD
      refine lv_istore (lv' := [(5, .int 1), (4, .int 0), (3, .ref ao), (2, .ref om), (1, .ref o), (0, .ref b)]) hx hb dL_law_227 hl (by decide) rfl (fun ls hl => ?_)
      refine lv_aload_n hx hb dL_law_229 rfl (lv_at hl 3 rfl) ?_
      refine lv_aload_n hx hb dL_law_230 rfl (lv_at hl 5 rfl) ?_
      refine lv_iload hx hb dL_law_231 (lv_at hl 1 rfl) ?_
      refine lv_iconst (v := 1) hx hb dL_law_233 (by decide) ?_
      refine xiadd (v := 1) S dL_law_234 (by decide) ?_
      refine xsld (v := x1) S hX hbl hbA hS (vin rfl) h1 dL_law_235 ?_
      refine lv_aload_n hx hb dL_law_236 rfl (lv_at hl 5 rfl) ?_
      refine lv_iload hx hb dL_law_237 (lv_at hl 1 rfl) ?_
      refine lv_iconst (v := 2) hx hb dL_law_239 (by decide) ?_
      refine xiadd (v := 2) S dL_law_240 (by decide) ?_
      refine xsld (v := x2) S hX hbl hbA hS (vin rfl) h2 dL_law_241 ?_
      refine lv_aload_n hx hb dL_law_242 rfl (lv_at hl 5 rfl) ?_
      refine lv_iload hx hb dL_law_243 (lv_at hl 1 rfl) ?_
      refine lv_iconst (v := 3) hx hb dL_law_245 (by decide) ?_
      refine xiadd (v := 3) S dL_law_246 (by decide) ?_
      refine xsld (v := x3) S hX hbl hbA hS (vin rfl) h3 dL_law_247 ?_
      refine fVi [] ((xW o u cI cZ cJ) ++ [(ao, .inl (cJ, 1, .inr (.inl (fun _ => 0))))]) (mid := (mW om 0 q cI cZ)) (As := [.int x1, .int x2, .int x3]) (ci := 9) S (c_X9_parameter_1 l D cI cZ cJ om q H.size x1 x2 x3 lo_x1) mi_X9_parameter kw_7_115 rfl rfl ⟨Nat.le_of_ble_eq_true rfl, Nat.le_of_ble_eq_true rfl⟩ hP hD hK hS hA mW_0 rfl rfl hl.1 (Nat.le_of_ble_eq_true rfl) ⟨Nat.le_of_ble_eq_true rfl, Nat.le_of_ble_eq_true rfl⟩ dL_law_248 (fun H locs hz hP hD hS => ?_)
      have hP : va_P D vwCl ((mW om 1 q cI cZ) ++ ((xW o u cI cZ cJ) ++ [(ao, .inl (cJ, 1, .inr (.inl (fun _ => 0))))])) H := hP
      have hD : va_D A ((mW om 1 q cI cZ) ++ ((xW o u cI cZ cJ) ++ [(ao, .inl (cJ, 1, .inr (.inl (fun _ => 0))))])) := hD
      refine lv_istore (lv' := [(6, .int 0), (5, .int 1), (4, .int 0), (3, .ref ao), (2, .ref om), (1, .ref o), (0, .ref b)]) hx hb dL_law_251 hl (by decide) rfl (fun ls hl => ?_)
      refine lv_aload_n hx hb dL_law_253 rfl (lv_at hl 4 rfl) ?_
      refine rdV (As := []) (ci := 9) S (c_X9_thrown_0 l D cI cZ cJ om q) mi_X9_thrown kw_7_89 ⟨rfl, rfl⟩ ⟨Nat.le_of_ble_eq_true rfl, Nat.le_of_ble_eq_true rfl⟩ (va_Pl (ws := (mW om 1 q cI cZ)) (x := ((xW o u cI cZ cJ) ++ [(ao, .inl (cJ, 1, .inr (.inl (fun _ => 0))))])) hP) hK mW_0 rfl rfl hl.1 (Nat.le_of_ble_eq_true rfl) ⟨Nat.le_of_ble_eq_true rfl, Nat.le_of_ble_eq_true rfl⟩ dL_law_254 ?_
      refine lv_iload hx hb dL_law_257 (lv_at hl 1 rfl) ?_
      refine lv_icmp_eq (tgt := 264) hx hb dL_law_259 (by decide) (fun _ => ?_) (fun c => absurd c (by decide))
      refine lv_iload hx hb dL_law_264 (lv_at hl 1 rfl) ?_
      refine lv_if_ne (tgt := 281) hx hb dL_law_266 (by decide) (fun _ => ?_) (fun c => absurd c (by decide))
      refine lv_goto (tgt := 1519) hx hb dL_law_281 (by decide) ?_
      exact law_tail (C := 121) (Z := 12964) S hr hlocks hX hbl (lv_sub hl [2, 6] rfl) hS (Nat.le_of_ble_eq_true rfl) (Nat.le_of_ble_eq_true rfl)
    · have hi_x1 : x1 ≤ 0 := u_nge d_224 (by decide)
      have e_x1 : x1 = 0 := b_eq lo_x1 hi_x1
      subst e_x1
      by_cases d_224 : x2 < 0
      · have hi_x2 : x2 ≤ (-1) := u_lt d_224 (by decide)
        refine wrap (mW om 0 q cI cZ) (mid := ((xW o u cI cZ cJ) ++ [(ao, .inl (cJ, 1, .inr (.inl (fun _ => 0))))])) (As := [.ref o, .int 0, .int x2, .int x3, .ref ao]) S (h_parameter_2 l D cI cZ cJ o u ao hst ra ga H.size x2 x3 hi_x2) msh_L_parameter kw_5_210 rfl rfl ⟨Nat.le_of_ble_eq_true rfl, Nat.le_of_ble_eq_true rfl⟩ hP hD hK hS hA hB hC hl.1 (Nat.le_of_ble_eq_true rfl) ⟨Nat.le_of_ble_eq_true rfl, Nat.le_of_ble_eq_true rfl⟩ dL_law_224 (fun H locs hz hP hD hS => ?_)
        have hP : va_P D vwCl ((mW om 0 q cI cZ) ++ ((xW o u cI cZ cJ) ++ [(ao, .inl (cJ, 1, .inr (.inl (fun _ => 0))))])) H := hP
        have hD : va_D A ((mW om 0 q cI cZ) ++ ((xW o u cI cZ cJ) ++ [(ao, .inl (cJ, 1, .inr (.inl (fun _ => 0))))])) := hD
        refine lv_istore (lv' := [(5, .int 2), (4, .int 0), (3, .ref ao), (2, .ref om), (1, .ref o), (0, .ref b)]) hx hb dL_law_227 hl (by decide) rfl (fun ls hl => ?_)
        refine lv_aload_n hx hb dL_law_229 rfl (lv_at hl 3 rfl) ?_
        refine lv_aload_n hx hb dL_law_230 rfl (lv_at hl 5 rfl) ?_
        refine lv_iload hx hb dL_law_231 (lv_at hl 1 rfl) ?_
        refine lv_iconst (v := 1) hx hb dL_law_233 (by decide) ?_
        refine xiadd (v := 1) S dL_law_234 (by decide) ?_
        refine xsld (v := 0) S hX hbl hbA hS (vin rfl) h1 dL_law_235 ?_
        refine lv_aload_n hx hb dL_law_236 rfl (lv_at hl 5 rfl) ?_
        refine lv_iload hx hb dL_law_237 (lv_at hl 1 rfl) ?_
        refine lv_iconst (v := 2) hx hb dL_law_239 (by decide) ?_
        refine xiadd (v := 2) S dL_law_240 (by decide) ?_
        refine xsld (v := x2) S hX hbl hbA hS (vin rfl) h2 dL_law_241 ?_
        refine lv_aload_n hx hb dL_law_242 rfl (lv_at hl 5 rfl) ?_
        refine lv_iload hx hb dL_law_243 (lv_at hl 1 rfl) ?_
        refine lv_iconst (v := 3) hx hb dL_law_245 (by decide) ?_
        refine xiadd (v := 3) S dL_law_246 (by decide) ?_
        refine xsld (v := x3) S hX hbl hbA hS (vin rfl) h3 dL_law_247 ?_
        refine fVi [] ((xW o u cI cZ cJ) ++ [(ao, .inl (cJ, 1, .inr (.inl (fun _ => 0))))]) (mid := (mW om 0 q cI cZ)) (As := [.int 0, .int x2, .int x3]) (ci := 9) S (c_X9_parameter_2 l D cI cZ cJ om q H.size x2 x3 hi_x2) mi_X9_parameter kw_7_115 rfl rfl ⟨Nat.le_of_ble_eq_true rfl, Nat.le_of_ble_eq_true rfl⟩ hP hD hK hS hA mW_0 rfl rfl hl.1 (Nat.le_of_ble_eq_true rfl) ⟨Nat.le_of_ble_eq_true rfl, Nat.le_of_ble_eq_true rfl⟩ dL_law_248 (fun H locs hz hP hD hS => ?_)
        have hP : va_P D vwCl ((mW om 2 q cI cZ) ++ ((xW o u cI cZ cJ) ++ [(ao, .inl (cJ, 1, .inr (.inl (fun _ => 0))))])) H := hP
        have hD : va_D A ((mW om 2 q cI cZ) ++ ((xW o u cI cZ cJ) ++ [(ao, .inl (cJ, 1, .inr (.inl (fun _ => 0))))])) := hD
        refine lv_istore (lv' := [(6, .int 0), (5, .int 2), (4, .int 0), (3, .ref ao), (2, .ref om), (1, .ref o), (0, .ref b)]) hx hb dL_law_251 hl (by decide) rfl (fun ls hl => ?_)
        refine lv_aload_n hx hb dL_law_253 rfl (lv_at hl 4 rfl) ?_
        refine rdV (As := []) (ci := 9) S (c_X9_thrown_1 l D cI cZ cJ om q) mi_X9_thrown kw_7_89 ⟨rfl, rfl⟩ ⟨Nat.le_of_ble_eq_true rfl, Nat.le_of_ble_eq_true rfl⟩ (va_Pl (ws := (mW om 2 q cI cZ)) (x := ((xW o u cI cZ cJ) ++ [(ao, .inl (cJ, 1, .inr (.inl (fun _ => 0))))])) hP) hK mW_0 rfl rfl hl.1 (Nat.le_of_ble_eq_true rfl) ⟨Nat.le_of_ble_eq_true rfl, Nat.le_of_ble_eq_true rfl⟩ dL_law_254 ?_
        refine lv_iload hx hb dL_law_257 (lv_at hl 1 rfl) ?_
        refine lv_icmp_eq (tgt := 264) hx hb dL_law_259 (by decide) (fun _ => ?_) (fun c => absurd c (by decide))
        refine lv_iload hx hb dL_law_264 (lv_at hl 1 rfl) ?_
        refine lv_if_ne (tgt := 281) hx hb dL_law_266 (by decide) (fun _ => ?_) (fun c => absurd c (by decide))
        refine lv_goto (tgt := 1519) hx hb dL_law_281 (by decide) ?_
        exact law_tail (C := 121) (Z := 12964) S hr hlocks hX hbl (lv_sub hl [2, 6] rfl) hS (Nat.le_of_ble_eq_true rfl) (Nat.le_of_ble_eq_true rfl)
      · have lo_x2 : 0 ≤ x2 := l_nlt d_224
        by_cases d_224 : 16 ≤ x2
        · have lo_x2 : 16 ≤ x2 := d_224
          refine wrap (mW om 0 q cI cZ) (mid := ((xW o u cI cZ cJ) ++ [(ao, .inl (cJ, 1, .inr (.inl (fun _ => 0))))])) (As := [.ref o, .int 0, .int x2, .int x3, .ref ao]) S (h_parameter_3 l D cI cZ cJ o u ao hst ra ga H.size x2 x3 lo_x2) msh_L_parameter kw_5_210 rfl rfl ⟨Nat.le_of_ble_eq_true rfl, Nat.le_of_ble_eq_true rfl⟩ hP hD hK hS hA hB hC hl.1 (Nat.le_of_ble_eq_true rfl) ⟨Nat.le_of_ble_eq_true rfl, Nat.le_of_ble_eq_true rfl⟩ dL_law_224 (fun H locs hz hP hD hS => ?_)
          have hP : va_P D vwCl ((mW om 0 q cI cZ) ++ ((xW o u cI cZ cJ) ++ [(ao, .inl (cJ, 1, .inr (.inl (fun _ => 0))))])) H := hP
          have hD : va_D A ((mW om 0 q cI cZ) ++ ((xW o u cI cZ cJ) ++ [(ao, .inl (cJ, 1, .inr (.inl (fun _ => 0))))])) := hD
          refine lv_istore (lv' := [(5, .int 2), (4, .int 0), (3, .ref ao), (2, .ref om), (1, .ref o), (0, .ref b)]) hx hb dL_law_227 hl (by decide) rfl (fun ls hl => ?_)
          refine lv_aload_n hx hb dL_law_229 rfl (lv_at hl 3 rfl) ?_
          refine lv_aload_n hx hb dL_law_230 rfl (lv_at hl 5 rfl) ?_
          refine lv_iload hx hb dL_law_231 (lv_at hl 1 rfl) ?_
          refine lv_iconst (v := 1) hx hb dL_law_233 (by decide) ?_
          refine xiadd (v := 1) S dL_law_234 (by decide) ?_
          refine xsld (v := 0) S hX hbl hbA hS (vin rfl) h1 dL_law_235 ?_
          refine lv_aload_n hx hb dL_law_236 rfl (lv_at hl 5 rfl) ?_
          refine lv_iload hx hb dL_law_237 (lv_at hl 1 rfl) ?_
          refine lv_iconst (v := 2) hx hb dL_law_239 (by decide) ?_
          refine xiadd (v := 2) S dL_law_240 (by decide) ?_
          refine xsld (v := x2) S hX hbl hbA hS (vin rfl) h2 dL_law_241 ?_
          refine lv_aload_n hx hb dL_law_242 rfl (lv_at hl 5 rfl) ?_
          refine lv_iload hx hb dL_law_243 (lv_at hl 1 rfl) ?_
          refine lv_iconst (v := 3) hx hb dL_law_245 (by decide) ?_
          refine xiadd (v := 3) S dL_law_246 (by decide) ?_
          refine xsld (v := x3) S hX hbl hbA hS (vin rfl) h3 dL_law_247 ?_
          refine fVi [] ((xW o u cI cZ cJ) ++ [(ao, .inl (cJ, 1, .inr (.inl (fun _ => 0))))]) (mid := (mW om 0 q cI cZ)) (As := [.int 0, .int x2, .int x3]) (ci := 9) S (c_X9_parameter_3 l D cI cZ cJ om q H.size x2 x3 lo_x2) mi_X9_parameter kw_7_115 rfl rfl ⟨Nat.le_of_ble_eq_true rfl, Nat.le_of_ble_eq_true rfl⟩ hP hD hK hS hA mW_0 rfl rfl hl.1 (Nat.le_of_ble_eq_true rfl) ⟨Nat.le_of_ble_eq_true rfl, Nat.le_of_ble_eq_true rfl⟩ dL_law_248 (fun H locs hz hP hD hS => ?_)
          have hP : va_P D vwCl ((mW om 2 q cI cZ) ++ ((xW o u cI cZ cJ) ++ [(ao, .inl (cJ, 1, .inr (.inl (fun _ => 0))))])) H := hP
          have hD : va_D A ((mW om 2 q cI cZ) ++ ((xW o u cI cZ cJ) ++ [(ao, .inl (cJ, 1, .inr (.inl (fun _ => 0))))])) := hD
          refine lv_istore (lv' := [(6, .int 0), (5, .int 2), (4, .int 0), (3, .ref ao), (2, .ref om), (1, .ref o), (0, .ref b)]) hx hb dL_law_251 hl (by decide) rfl (fun ls hl => ?_)
          refine lv_aload_n hx hb dL_law_253 rfl (lv_at hl 4 rfl) ?_
          refine rdV (As := []) (ci := 9) S (c_X9_thrown_1 l D cI cZ cJ om q) mi_X9_thrown kw_7_89 ⟨rfl, rfl⟩ ⟨Nat.le_of_ble_eq_true rfl, Nat.le_of_ble_eq_true rfl⟩ (va_Pl (ws := (mW om 2 q cI cZ)) (x := ((xW o u cI cZ cJ) ++ [(ao, .inl (cJ, 1, .inr (.inl (fun _ => 0))))])) hP) hK mW_0 rfl rfl hl.1 (Nat.le_of_ble_eq_true rfl) ⟨Nat.le_of_ble_eq_true rfl, Nat.le_of_ble_eq_true rfl⟩ dL_law_254 ?_
          refine lv_iload hx hb dL_law_257 (lv_at hl 1 rfl) ?_
          refine lv_icmp_eq (tgt := 264) hx hb dL_law_259 (by decide) (fun _ => ?_) (fun c => absurd c (by decide))
          refine lv_iload hx hb dL_law_264 (lv_at hl 1 rfl) ?_
          refine lv_if_ne (tgt := 281) hx hb dL_law_266 (by decide) (fun _ => ?_) (fun c => absurd c (by decide))
          refine lv_goto (tgt := 1519) hx hb dL_law_281 (by decide) ?_
          exact law_tail (C := 121) (Z := 12964) S hr hlocks hX hbl (lv_sub hl [2, 6] rfl) hS (Nat.le_of_ble_eq_true rfl) (Nat.le_of_ble_eq_true rfl)
        · have hi_x2 : x2 ≤ 15 := u_nge d_224 (by decide)
          by_cases d_224 : x3 < 0
          · have hi_x3 : x3 ≤ (-1) := u_lt d_224 (by decide)
            refine wrap (mW om 0 q cI cZ) (mid := ((xW o u cI cZ cJ) ++ [(ao, .inl (cJ, 1, .inr (.inl (fun _ => 0))))])) (As := [.ref o, .int 0, .int x2, .int x3, .ref ao]) S (h_parameter_4 l D cI cZ cJ o u ao hst ra ga H.size x2 x3 lo_x2 hi_x2 hi_x3) msh_L_parameter kw_5_210 rfl rfl ⟨Nat.le_of_ble_eq_true rfl, Nat.le_of_ble_eq_true rfl⟩ hP hD hK hS hA hB hC hl.1 (Nat.le_of_ble_eq_true rfl) ⟨Nat.le_of_ble_eq_true rfl, Nat.le_of_ble_eq_true rfl⟩ dL_law_224 (fun H locs hz hP hD hS => ?_)
            have hP : va_P D vwCl ((mW om 0 q cI cZ) ++ ((xW o u cI cZ cJ) ++ [(ao, .inl (cJ, 1, .inr (.inl (fun _ => 0))))])) H := hP
            have hD : va_D A ((mW om 0 q cI cZ) ++ ((xW o u cI cZ cJ) ++ [(ao, .inl (cJ, 1, .inr (.inl (fun _ => 0))))])) := hD
            refine lv_istore (lv' := [(5, .int 2), (4, .int 0), (3, .ref ao), (2, .ref om), (1, .ref o), (0, .ref b)]) hx hb dL_law_227 hl (by decide) rfl (fun ls hl => ?_)
            refine lv_aload_n hx hb dL_law_229 rfl (lv_at hl 3 rfl) ?_
            refine lv_aload_n hx hb dL_law_230 rfl (lv_at hl 5 rfl) ?_
            refine lv_iload hx hb dL_law_231 (lv_at hl 1 rfl) ?_
            refine lv_iconst (v := 1) hx hb dL_law_233 (by decide) ?_
            refine xiadd (v := 1) S dL_law_234 (by decide) ?_
            refine xsld (v := 0) S hX hbl hbA hS (vin rfl) h1 dL_law_235 ?_
            refine lv_aload_n hx hb dL_law_236 rfl (lv_at hl 5 rfl) ?_
            refine lv_iload hx hb dL_law_237 (lv_at hl 1 rfl) ?_
            refine lv_iconst (v := 2) hx hb dL_law_239 (by decide) ?_
            refine xiadd (v := 2) S dL_law_240 (by decide) ?_
            refine xsld (v := x2) S hX hbl hbA hS (vin rfl) h2 dL_law_241 ?_
            refine lv_aload_n hx hb dL_law_242 rfl (lv_at hl 5 rfl) ?_
            refine lv_iload hx hb dL_law_243 (lv_at hl 1 rfl) ?_
            refine lv_iconst (v := 3) hx hb dL_law_245 (by decide) ?_
            refine xiadd (v := 3) S dL_law_246 (by decide) ?_
            refine xsld (v := x3) S hX hbl hbA hS (vin rfl) h3 dL_law_247 ?_
            refine fVi [] ((xW o u cI cZ cJ) ++ [(ao, .inl (cJ, 1, .inr (.inl (fun _ => 0))))]) (mid := (mW om 0 q cI cZ)) (As := [.int 0, .int x2, .int x3]) (ci := 9) S (c_X9_parameter_4 l D cI cZ cJ om q H.size x2 x3 lo_x2 hi_x2 hi_x3) mi_X9_parameter kw_7_115 rfl rfl ⟨Nat.le_of_ble_eq_true rfl, Nat.le_of_ble_eq_true rfl⟩ hP hD hK hS hA mW_0 rfl rfl hl.1 (Nat.le_of_ble_eq_true rfl) ⟨Nat.le_of_ble_eq_true rfl, Nat.le_of_ble_eq_true rfl⟩ dL_law_248 (fun H locs hz hP hD hS => ?_)
            have hP : va_P D vwCl ((mW om 2 q cI cZ) ++ ((xW o u cI cZ cJ) ++ [(ao, .inl (cJ, 1, .inr (.inl (fun _ => 0))))])) H := hP
            have hD : va_D A ((mW om 2 q cI cZ) ++ ((xW o u cI cZ cJ) ++ [(ao, .inl (cJ, 1, .inr (.inl (fun _ => 0))))])) := hD
            refine lv_istore (lv' := [(6, .int 0), (5, .int 2), (4, .int 0), (3, .ref ao), (2, .ref om), (1, .ref o), (0, .ref b)]) hx hb dL_law_251 hl (by decide) rfl (fun ls hl => ?_)
            refine lv_aload_n hx hb dL_law_253 rfl (lv_at hl 4 rfl) ?_
            refine rdV (As := []) (ci := 9) S (c_X9_thrown_1 l D cI cZ cJ om q) mi_X9_thrown kw_7_89 ⟨rfl, rfl⟩ ⟨Nat.le_of_ble_eq_true rfl, Nat.le_of_ble_eq_true rfl⟩ (va_Pl (ws := (mW om 2 q cI cZ)) (x := ((xW o u cI cZ cJ) ++ [(ao, .inl (cJ, 1, .inr (.inl (fun _ => 0))))])) hP) hK mW_0 rfl rfl hl.1 (Nat.le_of_ble_eq_true rfl) ⟨Nat.le_of_ble_eq_true rfl, Nat.le_of_ble_eq_true rfl⟩ dL_law_254 ?_
            refine lv_iload hx hb dL_law_257 (lv_at hl 1 rfl) ?_
            refine lv_icmp_eq (tgt := 264) hx hb dL_law_259 (by decide) (fun _ => ?_) (fun c => absurd c (by decide))
            refine lv_iload hx hb dL_law_264 (lv_at hl 1 rfl) ?_
            refine lv_if_ne (tgt := 281) hx hb dL_law_266 (by decide) (fun _ => ?_) (fun c => absurd c (by decide))
            refine lv_goto (tgt := 1519) hx hb dL_law_281 (by decide) ?_
            exact law_tail (C := 121) (Z := 12964) S hr hlocks hX hbl (lv_sub hl [2, 6] rfl) hS (Nat.le_of_ble_eq_true rfl) (Nat.le_of_ble_eq_true rfl)
          · have lo_x3 : 0 ≤ x3 := l_nlt d_224
            by_cases d_224 : 5 < x3
            · have lo_x3 : 6 ≤ x3 := l_gt d_224 (by decide)
              refine wrap (mW om 0 q cI cZ) (mid := ((xW o u cI cZ cJ) ++ [(ao, .inl (cJ, 1, .inr (.inl (fun _ => 0))))])) (As := [.ref o, .int 0, .int x2, .int x3, .ref ao]) S (h_parameter_5 l D cI cZ cJ o u ao hst ra ga H.size x2 x3 lo_x2 hi_x2 lo_x3) msh_L_parameter kw_5_210 rfl rfl ⟨Nat.le_of_ble_eq_true rfl, Nat.le_of_ble_eq_true rfl⟩ hP hD hK hS hA hB hC hl.1 (Nat.le_of_ble_eq_true rfl) ⟨Nat.le_of_ble_eq_true rfl, Nat.le_of_ble_eq_true rfl⟩ dL_law_224 (fun H locs hz hP hD hS => ?_)
              have hP : va_P D vwCl ((mW om 0 q cI cZ) ++ ((xW o u cI cZ cJ) ++ [(ao, .inl (cJ, 1, .inr (.inl (fun _ => 0))))])) H := hP
              have hD : va_D A ((mW om 0 q cI cZ) ++ ((xW o u cI cZ cJ) ++ [(ao, .inl (cJ, 1, .inr (.inl (fun _ => 0))))])) := hD
              refine lv_istore (lv' := [(5, .int 2), (4, .int 0), (3, .ref ao), (2, .ref om), (1, .ref o), (0, .ref b)]) hx hb dL_law_227 hl (by decide) rfl (fun ls hl => ?_)
              refine lv_aload_n hx hb dL_law_229 rfl (lv_at hl 3 rfl) ?_
              refine lv_aload_n hx hb dL_law_230 rfl (lv_at hl 5 rfl) ?_
              refine lv_iload hx hb dL_law_231 (lv_at hl 1 rfl) ?_
              refine lv_iconst (v := 1) hx hb dL_law_233 (by decide) ?_
              refine xiadd (v := 1) S dL_law_234 (by decide) ?_
              refine xsld (v := 0) S hX hbl hbA hS (vin rfl) h1 dL_law_235 ?_
              refine lv_aload_n hx hb dL_law_236 rfl (lv_at hl 5 rfl) ?_
              refine lv_iload hx hb dL_law_237 (lv_at hl 1 rfl) ?_
              refine lv_iconst (v := 2) hx hb dL_law_239 (by decide) ?_
              refine xiadd (v := 2) S dL_law_240 (by decide) ?_
              refine xsld (v := x2) S hX hbl hbA hS (vin rfl) h2 dL_law_241 ?_
              refine lv_aload_n hx hb dL_law_242 rfl (lv_at hl 5 rfl) ?_
              refine lv_iload hx hb dL_law_243 (lv_at hl 1 rfl) ?_
              refine lv_iconst (v := 3) hx hb dL_law_245 (by decide) ?_
              refine xiadd (v := 3) S dL_law_246 (by decide) ?_
              refine xsld (v := x3) S hX hbl hbA hS (vin rfl) h3 dL_law_247 ?_
              refine fVi [] ((xW o u cI cZ cJ) ++ [(ao, .inl (cJ, 1, .inr (.inl (fun _ => 0))))]) (mid := (mW om 0 q cI cZ)) (As := [.int 0, .int x2, .int x3]) (ci := 9) S (c_X9_parameter_5 l D cI cZ cJ om q H.size x2 x3 lo_x2 hi_x2 lo_x3) mi_X9_parameter kw_7_115 rfl rfl ⟨Nat.le_of_ble_eq_true rfl, Nat.le_of_ble_eq_true rfl⟩ hP hD hK hS hA mW_0 rfl rfl hl.1 (Nat.le_of_ble_eq_true rfl) ⟨Nat.le_of_ble_eq_true rfl, Nat.le_of_ble_eq_true rfl⟩ dL_law_248 (fun H locs hz hP hD hS => ?_)
              have hP : va_P D vwCl ((mW om 2 q cI cZ) ++ ((xW o u cI cZ cJ) ++ [(ao, .inl (cJ, 1, .inr (.inl (fun _ => 0))))])) H := hP
              have hD : va_D A ((mW om 2 q cI cZ) ++ ((xW o u cI cZ cJ) ++ [(ao, .inl (cJ, 1, .inr (.inl (fun _ => 0))))])) := hD
              refine lv_istore (lv' := [(6, .int 0), (5, .int 2), (4, .int 0), (3, .ref ao), (2, .ref om), (1, .ref o), (0, .ref b)]) hx hb dL_law_251 hl (by decide) rfl (fun ls hl => ?_)
              refine lv_aload_n hx hb dL_law_253 rfl (lv_at hl 4 rfl) ?_
              refine rdV (As := []) (ci := 9) S (c_X9_thrown_1 l D cI cZ cJ om q) mi_X9_thrown kw_7_89 ⟨rfl, rfl⟩ ⟨Nat.le_of_ble_eq_true rfl, Nat.le_of_ble_eq_true rfl⟩ (va_Pl (ws := (mW om 2 q cI cZ)) (x := ((xW o u cI cZ cJ) ++ [(ao, .inl (cJ, 1, .inr (.inl (fun _ => 0))))])) hP) hK mW_0 rfl rfl hl.1 (Nat.le_of_ble_eq_true rfl) ⟨Nat.le_of_ble_eq_true rfl, Nat.le_of_ble_eq_true rfl⟩ dL_law_254 ?_
              refine lv_iload hx hb dL_law_257 (lv_at hl 1 rfl) ?_
              refine lv_icmp_eq (tgt := 264) hx hb dL_law_259 (by decide) (fun _ => ?_) (fun c => absurd c (by decide))
              refine lv_iload hx hb dL_law_264 (lv_at hl 1 rfl) ?_
              refine lv_if_ne (tgt := 281) hx hb dL_law_266 (by decide) (fun _ => ?_) (fun c => absurd c (by decide))
              refine lv_goto (tgt := 1519) hx hb dL_law_281 (by decide) ?_
              exact law_tail (C := 121) (Z := 12964) S hr hlocks hX hbl (lv_sub hl [2, 6] rfl) hS (Nat.le_of_ble_eq_true rfl) (Nat.le_of_ble_eq_true rfl)
            · have hi_x3 : x3 ≤ 5 := u_ngt d_224
              refine wrap (mW om 0 q cI cZ) (mid := ((xW o u cI cZ cJ) ++ [(ao, .inl (cJ, 1, .inr (.inl (fun _ => 0))))])) (As := [.ref o, .int 0, .int x2, .int x3, .ref ao]) S (h_parameter_6 l D cI cZ cJ o u ao hst ra ga H.size x2 x3 lo_x2 hi_x2 lo_x3 hi_x3) msh_L_parameter kw_5_210 rfl rfl ⟨Nat.le_of_ble_eq_true rfl, Nat.le_of_ble_eq_true rfl⟩ hP hD hK hS hA hB hC hl.1 (Nat.le_of_ble_eq_true rfl) ⟨Nat.le_of_ble_eq_true rfl, Nat.le_of_ble_eq_true rfl⟩ dL_law_224 (fun H locs hz hP hD hS => ?_)
              have hP : va_P D vwCl ((mW om 0 q cI cZ) ++ ((xW o u cI cZ cJ) ++ [(ao, .inl (cJ, 1, .inr (.inl (fun _ => 0))))])) H := hP
              have hD : va_D A ((mW om 0 q cI cZ) ++ ((xW o u cI cZ cJ) ++ [(ao, .inl (cJ, 1, .inr (.inl (fun _ => 0))))])) := hD
              refine lv_istore (lv' := [(5, .int 3), (4, .int 0), (3, .ref ao), (2, .ref om), (1, .ref o), (0, .ref b)]) hx hb dL_law_227 hl (by decide) rfl (fun ls hl => ?_)
              refine lv_aload_n hx hb dL_law_229 rfl (lv_at hl 3 rfl) ?_
              refine lv_aload_n hx hb dL_law_230 rfl (lv_at hl 5 rfl) ?_
              refine lv_iload hx hb dL_law_231 (lv_at hl 1 rfl) ?_
              refine lv_iconst (v := 1) hx hb dL_law_233 (by decide) ?_
              refine xiadd (v := 1) S dL_law_234 (by decide) ?_
              refine xsld (v := 0) S hX hbl hbA hS (vin rfl) h1 dL_law_235 ?_
              refine lv_aload_n hx hb dL_law_236 rfl (lv_at hl 5 rfl) ?_
              refine lv_iload hx hb dL_law_237 (lv_at hl 1 rfl) ?_
              refine lv_iconst (v := 2) hx hb dL_law_239 (by decide) ?_
              refine xiadd (v := 2) S dL_law_240 (by decide) ?_
              refine xsld (v := x2) S hX hbl hbA hS (vin rfl) h2 dL_law_241 ?_
              refine lv_aload_n hx hb dL_law_242 rfl (lv_at hl 5 rfl) ?_
              refine lv_iload hx hb dL_law_243 (lv_at hl 1 rfl) ?_
              refine lv_iconst (v := 3) hx hb dL_law_245 (by decide) ?_
              refine xiadd (v := 3) S dL_law_246 (by decide) ?_
              refine xsld (v := x3) S hX hbl hbA hS (vin rfl) h3 dL_law_247 ?_
              refine fVi [] ((xW o u cI cZ cJ) ++ [(ao, .inl (cJ, 1, .inr (.inl (fun _ => 0))))]) (mid := (mW om 0 q cI cZ)) (As := [.int 0, .int x2, .int x3]) (ci := 9) S (c_X9_parameter_6 l D cI cZ cJ om q H.size x2 x3 lo_x2 hi_x2 lo_x3 hi_x3) mi_X9_parameter kw_7_115 rfl rfl ⟨Nat.le_of_ble_eq_true rfl, Nat.le_of_ble_eq_true rfl⟩ hP hD hK hS hA mW_0 rfl rfl hl.1 (Nat.le_of_ble_eq_true rfl) ⟨Nat.le_of_ble_eq_true rfl, Nat.le_of_ble_eq_true rfl⟩ dL_law_248 (fun H locs hz hP hD hS => ?_)
              have hP : va_P D vwCl ((mW om 3 q cI cZ) ++ ((xW o u cI cZ cJ) ++ [(ao, .inl (cJ, 1, .inr (.inl (fun _ => 0))))])) H := hP
              have hD : va_D A ((mW om 3 q cI cZ) ++ ((xW o u cI cZ cJ) ++ [(ao, .inl (cJ, 1, .inr (.inl (fun _ => 0))))])) := hD
              refine lv_istore (lv' := [(6, .int 0), (5, .int 3), (4, .int 0), (3, .ref ao), (2, .ref om), (1, .ref o), (0, .ref b)]) hx hb dL_law_251 hl (by decide) rfl (fun ls hl => ?_)
              refine lv_aload_n hx hb dL_law_253 rfl (lv_at hl 4 rfl) ?_
              refine rdV (As := []) (ci := 9) S (c_X9_thrown_3 l D cI cZ cJ om q) mi_X9_thrown kw_7_89 ⟨rfl, rfl⟩ ⟨Nat.le_of_ble_eq_true rfl, Nat.le_of_ble_eq_true rfl⟩ (va_Pl (ws := (mW om 3 q cI cZ)) (x := ((xW o u cI cZ cJ) ++ [(ao, .inl (cJ, 1, .inr (.inl (fun _ => 0))))])) hP) hK mW_0 rfl rfl hl.1 (Nat.le_of_ble_eq_true rfl) ⟨Nat.le_of_ble_eq_true rfl, Nat.le_of_ble_eq_true rfl⟩ dL_law_254 ?_
              refine lv_iload hx hb dL_law_257 (lv_at hl 1 rfl) ?_
              refine lv_icmp_eq (tgt := 264) hx hb dL_law_259 (by decide) (fun _ => ?_) (fun c => absurd c (by decide))
              refine lv_iload hx hb dL_law_264 (lv_at hl 1 rfl) ?_
              refine lv_if_ne (tgt := 281) hx hb dL_law_266 (by decide) (fun _ => ?_) (fun c => absurd c (by decide))
              refine lv_goto (tgt := 1519) hx hb dL_law_281 (by decide) ?_
              exact law_tail (C := 121) (Z := 12964) S hr hlocks hX hbl (lv_sub hl [2, 6] rfl) hS (Nat.le_of_ble_eq_true rfl) (Nat.le_of_ble_eq_true rfl)

set_option maxHeartbeats 8000000 in
set_option maxRecDepth 100000 in
theorem law_2 (l : Launch) (hst : l.stackTraces = false) (D : va_G) (cI cZ cJ : ClassId) {p : Program} {e : Env} {s : State} {m : MethodId} {below : List Frame} {meth : Method} {c : Code} {b : Nat} {xs : Nat → Int32} (S : CallFix p m c cL_law 9 s #[Value.ref b] uG RL) (hr : meth.sig.returnType = ret) (hlocks : meth.locks = false) (hX : va_X b 5 xs s s.heap) (hbl : b < s.heap.size) (hK : va_K D vwCl (tyL cI cZ cJ) s) (ra ga : Nat → Nat) (hB : amb ra ga (fun q => s.heap.size ≤ q) s s.heap) (hC : ambC s) (x1 x2 x3 x4 : Int32) (h1 : xs 1 = x1) (h2 : xs 2 = x2) (h3 : xs 3 = x3) (h4 : xs 4 = x4) (o om ao : Nat) (u q : Nat → Nat) (ls : Array Slot) (H : Heap) (locs : List Loc) (hl : lv_has ls 9 [(4, .int 0), (3, .ref ao), (2, .ref om), (1, .ref o), (0, .ref b)]) (hP : va_P D vwCl ((mW om 0 q cI cZ) ++ ((xW o u cI cZ cJ) ++ [(ao, .inl (cJ, 1, .inr (.inl (fun _ => 0))))])) H) (hD : va_D (fun q => s.heap.size ≤ q) ((mW om 0 q cI cZ) ++ ((xW o u cI cZ cJ) ++ [(ao, .inl (cJ, 1, .inr (.inl (fun _ => 0))))]))) (hS : va_S (fun q => s.heap.size ≤ q) s.heap H locs) : W p l e room_1 s m #[Value.ref b] below meth c H locs 120 12958 (lw_Z below #[Value.ref b] s) (F0 m 284 ls []) := by
  have hx := S.1
  have hb := S.2.1
  have hA : ∀ q : Nat, s.heap.size ≤ q → (fun q : Nat => s.heap.size ≤ q) q := fun _ h => h
  have hbA : ¬ (fun q : Nat => s.heap.size ≤ q) b := Nat.not_le.mpr hbl
  refine lv_aload_n hx hb dL_law_284 rfl (lv_at hl 3 rfl) ?_
  refine lv_aload_n hx hb dL_law_285 rfl (lv_at hl 4 rfl) ?_
  refine lv_iload hx hb dL_law_286 (lv_at hl 0 rfl) ?_
  refine lv_iconst (v := 1) hx hb dL_law_288 (by decide) ?_
  refine xiadd (v := 1) S dL_law_289 (by decide) ?_
  refine xsld (v := x1) S hX hbl hbA hS (vin rfl) h1 dL_law_290 ?_
  refine lv_aload_n hx hb dL_law_291 rfl (lv_at hl 4 rfl) ?_
  refine lv_iload hx hb dL_law_292 (lv_at hl 0 rfl) ?_
  refine lv_iconst (v := 2) hx hb dL_law_294 (by decide) ?_
  refine xiadd (v := 2) S dL_law_295 (by decide) ?_
  refine xsld (v := x2) S hX hbl hbA hS (vin rfl) h2 dL_law_296 ?_
  refine lv_aload_n hx hb dL_law_297 rfl (lv_at hl 4 rfl) ?_
  refine lv_iload hx hb dL_law_298 (lv_at hl 0 rfl) ?_
  refine lv_iconst (v := 3) hx hb dL_law_300 (by decide) ?_
  refine xiadd (v := 3) S dL_law_301 (by decide) ?_
  refine xsld (v := x3) S hX hbl hbA hS (vin rfl) h3 dL_law_302 ?_
  refine lv_aload_n hx hb dL_law_303 rfl (lv_at hl 4 rfl) ?_
  refine lv_iload hx hb dL_law_304 (lv_at hl 0 rfl) ?_
  refine lv_iconst (v := 4) hx hb dL_law_306 (by decide) ?_
  refine xiadd (v := 4) S dL_law_307 (by decide) ?_
  refine xsld (v := x4) S hX hbl hbA hS (vin rfl) h4 dL_law_308 ?_
  refine lv_aload_n hx hb dL_law_309 rfl (lv_at hl 1 rfl) ?_
  by_cases d_310 : x1 < 0
  · have hi_x1 : x1 ≤ (-1) := u_lt d_310 (by decide)
    refine wrap (mW om 0 q cI cZ) (mid := ((xW o u cI cZ cJ) ++ [(ao, .inl (cJ, 1, .inr (.inl (fun _ => 0))))])) (As := [.ref o, .int x1, .int x2, .int x3, .int x4, .ref ao]) S (h_variable_0 l D cI cZ cJ o u ao hst ra ga H.size x1 x2 x3 x4 hi_x1) msh_L_variable kw_5_229 rfl rfl ⟨Nat.le_of_ble_eq_true rfl, Nat.le_of_ble_eq_true rfl⟩ hP hD hK hS hA hB hC hl.1 (Nat.le_of_ble_eq_true rfl) ⟨Nat.le_of_ble_eq_true rfl, Nat.le_of_ble_eq_true rfl⟩ dL_law_310 (fun H locs hz hP hD hS => ?_)
    have hP : va_P D vwCl ((mW om 0 q cI cZ) ++ ((xW o u cI cZ cJ) ++ [(ao, .inl (cJ, 1, .inr (.inl (fun _ => 0))))])) H := hP
    have hD : va_D A ((mW om 0 q cI cZ) ++ ((xW o u cI cZ cJ) ++ [(ao, .inl (cJ, 1, .inr (.inl (fun _ => 0))))])) := hD
    refine lv_istore (lv' := [(5, .int 1), (4, .int 0), (3, .ref ao), (2, .ref om), (1, .ref o), (0, .ref b)]) hx hb dL_law_313 hl (by decide) rfl (fun ls hl => ?_)
    refine lv_aload_n hx hb dL_law_315 rfl (lv_at hl 3 rfl) ?_
    refine lv_aload_n hx hb dL_law_316 rfl (lv_at hl 5 rfl) ?_
    refine lv_iload hx hb dL_law_317 (lv_at hl 1 rfl) ?_
    refine lv_iconst (v := 1) hx hb dL_law_319 (by decide) ?_
    refine xiadd (v := 1) S dL_law_320 (by decide) ?_
    refine xsld (v := x1) S hX hbl hbA hS (vin rfl) h1 dL_law_321 ?_
    refine lv_aload_n hx hb dL_law_322 rfl (lv_at hl 5 rfl) ?_
    refine lv_iload hx hb dL_law_323 (lv_at hl 1 rfl) ?_
    refine lv_iconst (v := 2) hx hb dL_law_325 (by decide) ?_
    refine xiadd (v := 2) S dL_law_326 (by decide) ?_
    refine xsld (v := x2) S hX hbl hbA hS (vin rfl) h2 dL_law_327 ?_
    refine lv_aload_n hx hb dL_law_328 rfl (lv_at hl 5 rfl) ?_
    refine lv_iload hx hb dL_law_329 (lv_at hl 1 rfl) ?_
    refine lv_iconst (v := 3) hx hb dL_law_331 (by decide) ?_
    refine xiadd (v := 3) S dL_law_332 (by decide) ?_
    refine xsld (v := x3) S hX hbl hbA hS (vin rfl) h3 dL_law_333 ?_
    refine lv_aload_n hx hb dL_law_334 rfl (lv_at hl 5 rfl) ?_
    refine lv_iload hx hb dL_law_335 (lv_at hl 1 rfl) ?_
    refine lv_iconst (v := 4) hx hb dL_law_337 (by decide) ?_
    refine xiadd (v := 4) S dL_law_338 (by decide) ?_
    refine xsld (v := x4) S hX hbl hbA hS (vin rfl) h4 dL_law_339 ?_
    refine fVi [] ((xW o u cI cZ cJ) ++ [(ao, .inl (cJ, 1, .inr (.inl (fun _ => 0))))]) (mid := (mW om 0 q cI cZ)) (As := [.int x1, .int x2, .int x3, .int x4]) (ci := 9) S (c_X9_variable_0 l D cI cZ cJ om q H.size x1 x2 x3 x4 hi_x1) mi_X9_variable kw_7_123 rfl rfl ⟨Nat.le_of_ble_eq_true rfl, Nat.le_of_ble_eq_true rfl⟩ hP hD hK hS hA mW_0 rfl rfl hl.1 (Nat.le_of_ble_eq_true rfl) ⟨Nat.le_of_ble_eq_true rfl, Nat.le_of_ble_eq_true rfl⟩ dL_law_340 (fun H locs hz hP hD hS => ?_)
    have hP : va_P D vwCl ((mW om 1 q cI cZ) ++ ((xW o u cI cZ cJ) ++ [(ao, .inl (cJ, 1, .inr (.inl (fun _ => 0))))])) H := hP
    have hD : va_D A ((mW om 1 q cI cZ) ++ ((xW o u cI cZ cJ) ++ [(ao, .inl (cJ, 1, .inr (.inl (fun _ => 0))))])) := hD
    refine lv_istore (lv' := [(6, .int 0), (5, .int 1), (4, .int 0), (3, .ref ao), (2, .ref om), (1, .ref o), (0, .ref b)]) hx hb dL_law_343 hl (by decide) rfl (fun ls hl => ?_)
    refine lv_aload_n hx hb dL_law_345 rfl (lv_at hl 4 rfl) ?_
    refine rdV (As := []) (ci := 9) S (c_X9_thrown_0 l D cI cZ cJ om q) mi_X9_thrown kw_7_89 ⟨rfl, rfl⟩ ⟨Nat.le_of_ble_eq_true rfl, Nat.le_of_ble_eq_true rfl⟩ (va_Pl (ws := (mW om 1 q cI cZ)) (x := ((xW o u cI cZ cJ) ++ [(ao, .inl (cJ, 1, .inr (.inl (fun _ => 0))))])) hP) hK mW_0 rfl rfl hl.1 (Nat.le_of_ble_eq_true rfl) ⟨Nat.le_of_ble_eq_true rfl, Nat.le_of_ble_eq_true rfl⟩ dL_law_346 ?_
    refine lv_iload hx hb dL_law_349 (lv_at hl 1 rfl) ?_
    refine lv_icmp_eq (tgt := 356) hx hb dL_law_351 (by decide) (fun _ => ?_) (fun c => absurd c (by decide))
    refine lv_iload hx hb dL_law_356 (lv_at hl 1 rfl) ?_
    refine lv_if_ne (tgt := 373) hx hb dL_law_358 (by decide) (fun _ => ?_) (fun c => absurd c (by decide))
    refine lv_goto (tgt := 1519) hx hb dL_law_373 (by decide) ?_
    exact law_tail (C := 121) (Z := 12964) S hr hlocks hX hbl (lv_sub hl [2, 6] rfl) hS (Nat.le_of_ble_eq_true rfl) (Nat.le_of_ble_eq_true rfl)
  · have lo_x1 : 0 ≤ x1 := l_nlt d_310
    by_cases d_310 : 1 ≤ x1
    · have lo_x1 : 1 ≤ x1 := d_310
      refine wrap (mW om 0 q cI cZ) (mid := ((xW o u cI cZ cJ) ++ [(ao, .inl (cJ, 1, .inr (.inl (fun _ => 0))))])) (As := [.ref o, .int x1, .int x2, .int x3, .int x4, .ref ao]) S (h_variable_1 l D cI cZ cJ o u ao hst ra ga H.size x1 x2 x3 x4 lo_x1) msh_L_variable kw_5_229 rfl rfl ⟨Nat.le_of_ble_eq_true rfl, Nat.le_of_ble_eq_true rfl⟩ hP hD hK hS hA hB hC hl.1 (Nat.le_of_ble_eq_true rfl) ⟨Nat.le_of_ble_eq_true rfl, Nat.le_of_ble_eq_true rfl⟩ dL_law_310 (fun H locs hz hP hD hS => ?_)
      have hP : va_P D vwCl ((mW om 0 q cI cZ) ++ ((xW o u cI cZ cJ) ++ [(ao, .inl (cJ, 1, .inr (.inl (fun _ => 0))))])) H := hP
      have hD : va_D A ((mW om 0 q cI cZ) ++ ((xW o u cI cZ cJ) ++ [(ao, .inl (cJ, 1, .inr (.inl (fun _ => 0))))])) := hD
      refine lv_istore (lv' := [(5, .int 1), (4, .int 0), (3, .ref ao), (2, .ref om), (1, .ref o), (0, .ref b)]) hx hb dL_law_313 hl (by decide) rfl (fun ls hl => ?_)
      refine lv_aload_n hx hb dL_law_315 rfl (lv_at hl 3 rfl) ?_
      refine lv_aload_n hx hb dL_law_316 rfl (lv_at hl 5 rfl) ?_
      refine lv_iload hx hb dL_law_317 (lv_at hl 1 rfl) ?_
      refine lv_iconst (v := 1) hx hb dL_law_319 (by decide) ?_
      refine xiadd (v := 1) S dL_law_320 (by decide) ?_
      refine xsld (v := x1) S hX hbl hbA hS (vin rfl) h1 dL_law_321 ?_
      refine lv_aload_n hx hb dL_law_322 rfl (lv_at hl 5 rfl) ?_
      refine lv_iload hx hb dL_law_323 (lv_at hl 1 rfl) ?_
      refine lv_iconst (v := 2) hx hb dL_law_325 (by decide) ?_
      refine xiadd (v := 2) S dL_law_326 (by decide) ?_
      refine xsld (v := x2) S hX hbl hbA hS (vin rfl) h2 dL_law_327 ?_
      refine lv_aload_n hx hb dL_law_328 rfl (lv_at hl 5 rfl) ?_
      refine lv_iload hx hb dL_law_329 (lv_at hl 1 rfl) ?_
      refine lv_iconst (v := 3) hx hb dL_law_331 (by decide) ?_
      refine xiadd (v := 3) S dL_law_332 (by decide) ?_
      refine xsld (v := x3) S hX hbl hbA hS (vin rfl) h3 dL_law_333 ?_
      refine lv_aload_n hx hb dL_law_334 rfl (lv_at hl 5 rfl) ?_
      refine lv_iload hx hb dL_law_335 (lv_at hl 1 rfl) ?_
      refine lv_iconst (v := 4) hx hb dL_law_337 (by decide) ?_
      refine xiadd (v := 4) S dL_law_338 (by decide) ?_
      refine xsld (v := x4) S hX hbl hbA hS (vin rfl) h4 dL_law_339 ?_
      refine fVi [] ((xW o u cI cZ cJ) ++ [(ao, .inl (cJ, 1, .inr (.inl (fun _ => 0))))]) (mid := (mW om 0 q cI cZ)) (As := [.int x1, .int x2, .int x3, .int x4]) (ci := 9) S (c_X9_variable_1 l D cI cZ cJ om q H.size x1 x2 x3 x4 lo_x1) mi_X9_variable kw_7_123 rfl rfl ⟨Nat.le_of_ble_eq_true rfl, Nat.le_of_ble_eq_true rfl⟩ hP hD hK hS hA mW_0 rfl rfl hl.1 (Nat.le_of_ble_eq_true rfl) ⟨Nat.le_of_ble_eq_true rfl, Nat.le_of_ble_eq_true rfl⟩ dL_law_340 (fun H locs hz hP hD hS => ?_)
      have hP : va_P D vwCl ((mW om 1 q cI cZ) ++ ((xW o u cI cZ cJ) ++ [(ao, .inl (cJ, 1, .inr (.inl (fun _ => 0))))])) H := hP
      have hD : va_D A ((mW om 1 q cI cZ) ++ ((xW o u cI cZ cJ) ++ [(ao, .inl (cJ, 1, .inr (.inl (fun _ => 0))))])) := hD
      refine lv_istore (lv' := [(6, .int 0), (5, .int 1), (4, .int 0), (3, .ref ao), (2, .ref om), (1, .ref o), (0, .ref b)]) hx hb dL_law_343 hl (by decide) rfl (fun ls hl => ?_)
      refine lv_aload_n hx hb dL_law_345 rfl (lv_at hl 4 rfl) ?_
      refine rdV (As := []) (ci := 9) S (c_X9_thrown_0 l D cI cZ cJ om q) mi_X9_thrown kw_7_89 ⟨rfl, rfl⟩ ⟨Nat.le_of_ble_eq_true rfl, Nat.le_of_ble_eq_true rfl⟩ (va_Pl (ws := (mW om 1 q cI cZ)) (x := ((xW o u cI cZ cJ) ++ [(ao, .inl (cJ, 1, .inr (.inl (fun _ => 0))))])) hP) hK mW_0 rfl rfl hl.1 (Nat.le_of_ble_eq_true rfl) ⟨Nat.le_of_ble_eq_true rfl, Nat.le_of_ble_eq_true rfl⟩ dL_law_346 ?_
      refine lv_iload hx hb dL_law_349 (lv_at hl 1 rfl) ?_
      refine lv_icmp_eq (tgt := 356) hx hb dL_law_351 (by decide) (fun _ => ?_) (fun c => absurd c (by decide))
      refine lv_iload hx hb dL_law_356 (lv_at hl 1 rfl) ?_
      refine lv_if_ne (tgt := 373) hx hb dL_law_358 (by decide) (fun _ => ?_) (fun c => absurd c (by decide))
      refine lv_goto (tgt := 1519) hx hb dL_law_373 (by decide) ?_
      exact law_tail (C := 121) (Z := 12964) S hr hlocks hX hbl (lv_sub hl [2, 6] rfl) hS (Nat.le_of_ble_eq_true rfl) (Nat.le_of_ble_eq_true rfl)
    · have hi_x1 : x1 ≤ 0 := u_nge d_310 (by decide)
      have e_x1 : x1 = 0 := b_eq lo_x1 hi_x1
      subst e_x1
      by_cases d_310 : x2 < 0
      · have hi_x2 : x2 ≤ (-1) := u_lt d_310 (by decide)
        refine wrap (mW om 0 q cI cZ) (mid := ((xW o u cI cZ cJ) ++ [(ao, .inl (cJ, 1, .inr (.inl (fun _ => 0))))])) (As := [.ref o, .int 0, .int x2, .int x3, .int x4, .ref ao]) S (h_variable_2 l D cI cZ cJ o u ao hst ra ga H.size x2 x3 x4 hi_x2) msh_L_variable kw_5_229 rfl rfl ⟨Nat.le_of_ble_eq_true rfl, Nat.le_of_ble_eq_true rfl⟩ hP hD hK hS hA hB hC hl.1 (Nat.le_of_ble_eq_true rfl) ⟨Nat.le_of_ble_eq_true rfl, Nat.le_of_ble_eq_true rfl⟩ dL_law_310 (fun H locs hz hP hD hS => ?_)
        have hP : va_P D vwCl ((mW om 0 q cI cZ) ++ ((xW o u cI cZ cJ) ++ [(ao, .inl (cJ, 1, .inr (.inl (fun _ => 0))))])) H := hP
        have hD : va_D A ((mW om 0 q cI cZ) ++ ((xW o u cI cZ cJ) ++ [(ao, .inl (cJ, 1, .inr (.inl (fun _ => 0))))])) := hD
        refine lv_istore (lv' := [(5, .int 2), (4, .int 0), (3, .ref ao), (2, .ref om), (1, .ref o), (0, .ref b)]) hx hb dL_law_313 hl (by decide) rfl (fun ls hl => ?_)
        refine lv_aload_n hx hb dL_law_315 rfl (lv_at hl 3 rfl) ?_
        refine lv_aload_n hx hb dL_law_316 rfl (lv_at hl 5 rfl) ?_
        refine lv_iload hx hb dL_law_317 (lv_at hl 1 rfl) ?_
        refine lv_iconst (v := 1) hx hb dL_law_319 (by decide) ?_
        refine xiadd (v := 1) S dL_law_320 (by decide) ?_
        refine xsld (v := 0) S hX hbl hbA hS (vin rfl) h1 dL_law_321 ?_
        refine lv_aload_n hx hb dL_law_322 rfl (lv_at hl 5 rfl) ?_
        refine lv_iload hx hb dL_law_323 (lv_at hl 1 rfl) ?_
        refine lv_iconst (v := 2) hx hb dL_law_325 (by decide) ?_
        refine xiadd (v := 2) S dL_law_326 (by decide) ?_
        refine xsld (v := x2) S hX hbl hbA hS (vin rfl) h2 dL_law_327 ?_
        refine lv_aload_n hx hb dL_law_328 rfl (lv_at hl 5 rfl) ?_
        refine lv_iload hx hb dL_law_329 (lv_at hl 1 rfl) ?_
        refine lv_iconst (v := 3) hx hb dL_law_331 (by decide) ?_
        refine xiadd (v := 3) S dL_law_332 (by decide) ?_
        refine xsld (v := x3) S hX hbl hbA hS (vin rfl) h3 dL_law_333 ?_
        refine lv_aload_n hx hb dL_law_334 rfl (lv_at hl 5 rfl) ?_
        refine lv_iload hx hb dL_law_335 (lv_at hl 1 rfl) ?_
        refine lv_iconst (v := 4) hx hb dL_law_337 (by decide) ?_
        refine xiadd (v := 4) S dL_law_338 (by decide) ?_
        refine xsld (v := x4) S hX hbl hbA hS (vin rfl) h4 dL_law_339 ?_
        refine fVi [] ((xW o u cI cZ cJ) ++ [(ao, .inl (cJ, 1, .inr (.inl (fun _ => 0))))]) (mid := (mW om 0 q cI cZ)) (As := [.int 0, .int x2, .int x3, .int x4]) (ci := 9) S (c_X9_variable_2 l D cI cZ cJ om q H.size x2 x3 x4 hi_x2) mi_X9_variable kw_7_123 rfl rfl ⟨Nat.le_of_ble_eq_true rfl, Nat.le_of_ble_eq_true rfl⟩ hP hD hK hS hA mW_0 rfl rfl hl.1 (Nat.le_of_ble_eq_true rfl) ⟨Nat.le_of_ble_eq_true rfl, Nat.le_of_ble_eq_true rfl⟩ dL_law_340 (fun H locs hz hP hD hS => ?_)
        have hP : va_P D vwCl ((mW om 2 q cI cZ) ++ ((xW o u cI cZ cJ) ++ [(ao, .inl (cJ, 1, .inr (.inl (fun _ => 0))))])) H := hP
        have hD : va_D A ((mW om 2 q cI cZ) ++ ((xW o u cI cZ cJ) ++ [(ao, .inl (cJ, 1, .inr (.inl (fun _ => 0))))])) := hD
        refine lv_istore (lv' := [(6, .int 0), (5, .int 2), (4, .int 0), (3, .ref ao), (2, .ref om), (1, .ref o), (0, .ref b)]) hx hb dL_law_343 hl (by decide) rfl (fun ls hl => ?_)
        refine lv_aload_n hx hb dL_law_345 rfl (lv_at hl 4 rfl) ?_
        refine rdV (As := []) (ci := 9) S (c_X9_thrown_1 l D cI cZ cJ om q) mi_X9_thrown kw_7_89 ⟨rfl, rfl⟩ ⟨Nat.le_of_ble_eq_true rfl, Nat.le_of_ble_eq_true rfl⟩ (va_Pl (ws := (mW om 2 q cI cZ)) (x := ((xW o u cI cZ cJ) ++ [(ao, .inl (cJ, 1, .inr (.inl (fun _ => 0))))])) hP) hK mW_0 rfl rfl hl.1 (Nat.le_of_ble_eq_true rfl) ⟨Nat.le_of_ble_eq_true rfl, Nat.le_of_ble_eq_true rfl⟩ dL_law_346 ?_
        refine lv_iload hx hb dL_law_349 (lv_at hl 1 rfl) ?_
        refine lv_icmp_eq (tgt := 356) hx hb dL_law_351 (by decide) (fun _ => ?_) (fun c => absurd c (by decide))
        refine lv_iload hx hb dL_law_356 (lv_at hl 1 rfl) ?_
        refine lv_if_ne (tgt := 373) hx hb dL_law_358 (by decide) (fun _ => ?_) (fun c => absurd c (by decide))
        refine lv_goto (tgt := 1519) hx hb dL_law_373 (by decide) ?_
        exact law_tail (C := 121) (Z := 12964) S hr hlocks hX hbl (lv_sub hl [2, 6] rfl) hS (Nat.le_of_ble_eq_true rfl) (Nat.le_of_ble_eq_true rfl)
      · have lo_x2 : 0 ≤ x2 := l_nlt d_310
        by_cases d_310 : 16 ≤ x2
        · have lo_x2 : 16 ≤ x2 := d_310
          refine wrap (mW om 0 q cI cZ) (mid := ((xW o u cI cZ cJ) ++ [(ao, .inl (cJ, 1, .inr (.inl (fun _ => 0))))])) (As := [.ref o, .int 0, .int x2, .int x3, .int x4, .ref ao]) S (h_variable_3 l D cI cZ cJ o u ao hst ra ga H.size x2 x3 x4 lo_x2) msh_L_variable kw_5_229 rfl rfl ⟨Nat.le_of_ble_eq_true rfl, Nat.le_of_ble_eq_true rfl⟩ hP hD hK hS hA hB hC hl.1 (Nat.le_of_ble_eq_true rfl) ⟨Nat.le_of_ble_eq_true rfl, Nat.le_of_ble_eq_true rfl⟩ dL_law_310 (fun H locs hz hP hD hS => ?_)
          have hP : va_P D vwCl ((mW om 0 q cI cZ) ++ ((xW o u cI cZ cJ) ++ [(ao, .inl (cJ, 1, .inr (.inl (fun _ => 0))))])) H := hP
          have hD : va_D A ((mW om 0 q cI cZ) ++ ((xW o u cI cZ cJ) ++ [(ao, .inl (cJ, 1, .inr (.inl (fun _ => 0))))])) := hD
          refine lv_istore (lv' := [(5, .int 2), (4, .int 0), (3, .ref ao), (2, .ref om), (1, .ref o), (0, .ref b)]) hx hb dL_law_313 hl (by decide) rfl (fun ls hl => ?_)
          refine lv_aload_n hx hb dL_law_315 rfl (lv_at hl 3 rfl) ?_
          refine lv_aload_n hx hb dL_law_316 rfl (lv_at hl 5 rfl) ?_
          refine lv_iload hx hb dL_law_317 (lv_at hl 1 rfl) ?_
          refine lv_iconst (v := 1) hx hb dL_law_319 (by decide) ?_
          refine xiadd (v := 1) S dL_law_320 (by decide) ?_
          refine xsld (v := 0) S hX hbl hbA hS (vin rfl) h1 dL_law_321 ?_
          refine lv_aload_n hx hb dL_law_322 rfl (lv_at hl 5 rfl) ?_
          refine lv_iload hx hb dL_law_323 (lv_at hl 1 rfl) ?_
          refine lv_iconst (v := 2) hx hb dL_law_325 (by decide) ?_
          refine xiadd (v := 2) S dL_law_326 (by decide) ?_
          refine xsld (v := x2) S hX hbl hbA hS (vin rfl) h2 dL_law_327 ?_
          refine lv_aload_n hx hb dL_law_328 rfl (lv_at hl 5 rfl) ?_
          refine lv_iload hx hb dL_law_329 (lv_at hl 1 rfl) ?_
          refine lv_iconst (v := 3) hx hb dL_law_331 (by decide) ?_
          refine xiadd (v := 3) S dL_law_332 (by decide) ?_
          refine xsld (v := x3) S hX hbl hbA hS (vin rfl) h3 dL_law_333 ?_
          refine lv_aload_n hx hb dL_law_334 rfl (lv_at hl 5 rfl) ?_
          refine lv_iload hx hb dL_law_335 (lv_at hl 1 rfl) ?_
          refine lv_iconst (v := 4) hx hb dL_law_337 (by decide) ?_
          refine xiadd (v := 4) S dL_law_338 (by decide) ?_
          refine xsld (v := x4) S hX hbl hbA hS (vin rfl) h4 dL_law_339 ?_
          refine fVi [] ((xW o u cI cZ cJ) ++ [(ao, .inl (cJ, 1, .inr (.inl (fun _ => 0))))]) (mid := (mW om 0 q cI cZ)) (As := [.int 0, .int x2, .int x3, .int x4]) (ci := 9) S (c_X9_variable_3 l D cI cZ cJ om q H.size x2 x3 x4 lo_x2) mi_X9_variable kw_7_123 rfl rfl ⟨Nat.le_of_ble_eq_true rfl, Nat.le_of_ble_eq_true rfl⟩ hP hD hK hS hA mW_0 rfl rfl hl.1 (Nat.le_of_ble_eq_true rfl) ⟨Nat.le_of_ble_eq_true rfl, Nat.le_of_ble_eq_true rfl⟩ dL_law_340 (fun H locs hz hP hD hS => ?_)
          have hP : va_P D vwCl ((mW om 2 q cI cZ) ++ ((xW o u cI cZ cJ) ++ [(ao, .inl (cJ, 1, .inr (.inl (fun _ => 0))))])) H := hP
          have hD : va_D A ((mW om 2 q cI cZ) ++ ((xW o u cI cZ cJ) ++ [(ao, .inl (cJ, 1, .inr (.inl (fun _ => 0))))])) := hD
          refine lv_istore (lv' := [(6, .int 0), (5, .int 2), (4, .int 0), (3, .ref ao), (2, .ref om), (1, .ref o), (0, .ref b)]) hx hb dL_law_343 hl (by decide) rfl (fun ls hl => ?_)
          refine lv_aload_n hx hb dL_law_345 rfl (lv_at hl 4 rfl) ?_
          refine rdV (As := []) (ci := 9) S (c_X9_thrown_1 l D cI cZ cJ om q) mi_X9_thrown kw_7_89 ⟨rfl, rfl⟩ ⟨Nat.le_of_ble_eq_true rfl, Nat.le_of_ble_eq_true rfl⟩ (va_Pl (ws := (mW om 2 q cI cZ)) (x := ((xW o u cI cZ cJ) ++ [(ao, .inl (cJ, 1, .inr (.inl (fun _ => 0))))])) hP) hK mW_0 rfl rfl hl.1 (Nat.le_of_ble_eq_true rfl) ⟨Nat.le_of_ble_eq_true rfl, Nat.le_of_ble_eq_true rfl⟩ dL_law_346 ?_
          refine lv_iload hx hb dL_law_349 (lv_at hl 1 rfl) ?_
          refine lv_icmp_eq (tgt := 356) hx hb dL_law_351 (by decide) (fun _ => ?_) (fun c => absurd c (by decide))
          refine lv_iload hx hb dL_law_356 (lv_at hl 1 rfl) ?_
          refine lv_if_ne (tgt := 373) hx hb dL_law_358 (by decide) (fun _ => ?_) (fun c => absurd c (by decide))
          refine lv_goto (tgt := 1519) hx hb dL_law_373 (by decide) ?_
          exact law_tail (C := 121) (Z := 12964) S hr hlocks hX hbl (lv_sub hl [2, 6] rfl) hS (Nat.le_of_ble_eq_true rfl) (Nat.le_of_ble_eq_true rfl)
        · have hi_x2 : x2 ≤ 15 := u_nge d_310 (by decide)
          by_cases d_310 : x3 < 0
          · have hi_x3 : x3 ≤ (-1) := u_lt d_310 (by decide)
            refine wrap (mW om 0 q cI cZ) (mid := ((xW o u cI cZ cJ) ++ [(ao, .inl (cJ, 1, .inr (.inl (fun _ => 0))))])) (As := [.ref o, .int 0, .int x2, .int x3, .int x4, .ref ao]) S (h_variable_4 l D cI cZ cJ o u ao hst ra ga H.size x2 x3 x4 lo_x2 hi_x2 hi_x3) msh_L_variable kw_5_229 rfl rfl ⟨Nat.le_of_ble_eq_true rfl, Nat.le_of_ble_eq_true rfl⟩ hP hD hK hS hA hB hC hl.1 (Nat.le_of_ble_eq_true rfl) ⟨Nat.le_of_ble_eq_true rfl, Nat.le_of_ble_eq_true rfl⟩ dL_law_310 (fun H locs hz hP hD hS => ?_)
            have hP : va_P D vwCl ((mW om 0 q cI cZ) ++ ((xW o u cI cZ cJ) ++ [(ao, .inl (cJ, 1, .inr (.inl (fun _ => 0))))])) H := hP
            have hD : va_D A ((mW om 0 q cI cZ) ++ ((xW o u cI cZ cJ) ++ [(ao, .inl (cJ, 1, .inr (.inl (fun _ => 0))))])) := hD
            refine lv_istore (lv' := [(5, .int 2), (4, .int 0), (3, .ref ao), (2, .ref om), (1, .ref o), (0, .ref b)]) hx hb dL_law_313 hl (by decide) rfl (fun ls hl => ?_)
            refine lv_aload_n hx hb dL_law_315 rfl (lv_at hl 3 rfl) ?_
            refine lv_aload_n hx hb dL_law_316 rfl (lv_at hl 5 rfl) ?_
            refine lv_iload hx hb dL_law_317 (lv_at hl 1 rfl) ?_
            refine lv_iconst (v := 1) hx hb dL_law_319 (by decide) ?_
            refine xiadd (v := 1) S dL_law_320 (by decide) ?_
            refine xsld (v := 0) S hX hbl hbA hS (vin rfl) h1 dL_law_321 ?_
            refine lv_aload_n hx hb dL_law_322 rfl (lv_at hl 5 rfl) ?_
            refine lv_iload hx hb dL_law_323 (lv_at hl 1 rfl) ?_
            refine lv_iconst (v := 2) hx hb dL_law_325 (by decide) ?_
            refine xiadd (v := 2) S dL_law_326 (by decide) ?_
            refine xsld (v := x2) S hX hbl hbA hS (vin rfl) h2 dL_law_327 ?_
            refine lv_aload_n hx hb dL_law_328 rfl (lv_at hl 5 rfl) ?_
            refine lv_iload hx hb dL_law_329 (lv_at hl 1 rfl) ?_
            refine lv_iconst (v := 3) hx hb dL_law_331 (by decide) ?_
            refine xiadd (v := 3) S dL_law_332 (by decide) ?_
            refine xsld (v := x3) S hX hbl hbA hS (vin rfl) h3 dL_law_333 ?_
            refine lv_aload_n hx hb dL_law_334 rfl (lv_at hl 5 rfl) ?_
            refine lv_iload hx hb dL_law_335 (lv_at hl 1 rfl) ?_
            refine lv_iconst (v := 4) hx hb dL_law_337 (by decide) ?_
            refine xiadd (v := 4) S dL_law_338 (by decide) ?_
            refine xsld (v := x4) S hX hbl hbA hS (vin rfl) h4 dL_law_339 ?_
            refine fVi [] ((xW o u cI cZ cJ) ++ [(ao, .inl (cJ, 1, .inr (.inl (fun _ => 0))))]) (mid := (mW om 0 q cI cZ)) (As := [.int 0, .int x2, .int x3, .int x4]) (ci := 9) S (c_X9_variable_4 l D cI cZ cJ om q H.size x2 x3 x4 lo_x2 hi_x2 hi_x3) mi_X9_variable kw_7_123 rfl rfl ⟨Nat.le_of_ble_eq_true rfl, Nat.le_of_ble_eq_true rfl⟩ hP hD hK hS hA mW_0 rfl rfl hl.1 (Nat.le_of_ble_eq_true rfl) ⟨Nat.le_of_ble_eq_true rfl, Nat.le_of_ble_eq_true rfl⟩ dL_law_340 (fun H locs hz hP hD hS => ?_)
            have hP : va_P D vwCl ((mW om 2 q cI cZ) ++ ((xW o u cI cZ cJ) ++ [(ao, .inl (cJ, 1, .inr (.inl (fun _ => 0))))])) H := hP
            have hD : va_D A ((mW om 2 q cI cZ) ++ ((xW o u cI cZ cJ) ++ [(ao, .inl (cJ, 1, .inr (.inl (fun _ => 0))))])) := hD
            refine lv_istore (lv' := [(6, .int 0), (5, .int 2), (4, .int 0), (3, .ref ao), (2, .ref om), (1, .ref o), (0, .ref b)]) hx hb dL_law_343 hl (by decide) rfl (fun ls hl => ?_)
            refine lv_aload_n hx hb dL_law_345 rfl (lv_at hl 4 rfl) ?_
            refine rdV (As := []) (ci := 9) S (c_X9_thrown_1 l D cI cZ cJ om q) mi_X9_thrown kw_7_89 ⟨rfl, rfl⟩ ⟨Nat.le_of_ble_eq_true rfl, Nat.le_of_ble_eq_true rfl⟩ (va_Pl (ws := (mW om 2 q cI cZ)) (x := ((xW o u cI cZ cJ) ++ [(ao, .inl (cJ, 1, .inr (.inl (fun _ => 0))))])) hP) hK mW_0 rfl rfl hl.1 (Nat.le_of_ble_eq_true rfl) ⟨Nat.le_of_ble_eq_true rfl, Nat.le_of_ble_eq_true rfl⟩ dL_law_346 ?_
            refine lv_iload hx hb dL_law_349 (lv_at hl 1 rfl) ?_
            refine lv_icmp_eq (tgt := 356) hx hb dL_law_351 (by decide) (fun _ => ?_) (fun c => absurd c (by decide))
            refine lv_iload hx hb dL_law_356 (lv_at hl 1 rfl) ?_
            refine lv_if_ne (tgt := 373) hx hb dL_law_358 (by decide) (fun _ => ?_) (fun c => absurd c (by decide))
            refine lv_goto (tgt := 1519) hx hb dL_law_373 (by decide) ?_
            exact law_tail (C := 121) (Z := 12964) S hr hlocks hX hbl (lv_sub hl [2, 6] rfl) hS (Nat.le_of_ble_eq_true rfl) (Nat.le_of_ble_eq_true rfl)
          · have lo_x3 : 0 ≤ x3 := l_nlt d_310
            by_cases d_310 : 3 < x3
            · have lo_x3 : 4 ≤ x3 := l_gt d_310 (by decide)
              refine wrap (mW om 0 q cI cZ) (mid := ((xW o u cI cZ cJ) ++ [(ao, .inl (cJ, 1, .inr (.inl (fun _ => 0))))])) (As := [.ref o, .int 0, .int x2, .int x3, .int x4, .ref ao]) S (h_variable_5 l D cI cZ cJ o u ao hst ra ga H.size x2 x3 x4 lo_x2 hi_x2 lo_x3) msh_L_variable kw_5_229 rfl rfl ⟨Nat.le_of_ble_eq_true rfl, Nat.le_of_ble_eq_true rfl⟩ hP hD hK hS hA hB hC hl.1 (Nat.le_of_ble_eq_true rfl) ⟨Nat.le_of_ble_eq_true rfl, Nat.le_of_ble_eq_true rfl⟩ dL_law_310 (fun H locs hz hP hD hS => ?_)
              have hP : va_P D vwCl ((mW om 0 q cI cZ) ++ ((xW o u cI cZ cJ) ++ [(ao, .inl (cJ, 1, .inr (.inl (fun _ => 0))))])) H := hP
              have hD : va_D A ((mW om 0 q cI cZ) ++ ((xW o u cI cZ cJ) ++ [(ao, .inl (cJ, 1, .inr (.inl (fun _ => 0))))])) := hD
              refine lv_istore (lv' := [(5, .int 2), (4, .int 0), (3, .ref ao), (2, .ref om), (1, .ref o), (0, .ref b)]) hx hb dL_law_313 hl (by decide) rfl (fun ls hl => ?_)
              refine lv_aload_n hx hb dL_law_315 rfl (lv_at hl 3 rfl) ?_
              refine lv_aload_n hx hb dL_law_316 rfl (lv_at hl 5 rfl) ?_
              refine lv_iload hx hb dL_law_317 (lv_at hl 1 rfl) ?_
              refine lv_iconst (v := 1) hx hb dL_law_319 (by decide) ?_
              refine xiadd (v := 1) S dL_law_320 (by decide) ?_
              refine xsld (v := 0) S hX hbl hbA hS (vin rfl) h1 dL_law_321 ?_
              refine lv_aload_n hx hb dL_law_322 rfl (lv_at hl 5 rfl) ?_
              refine lv_iload hx hb dL_law_323 (lv_at hl 1 rfl) ?_
              refine lv_iconst (v := 2) hx hb dL_law_325 (by decide) ?_
              refine xiadd (v := 2) S dL_law_326 (by decide) ?_
              refine xsld (v := x2) S hX hbl hbA hS (vin rfl) h2 dL_law_327 ?_
              refine lv_aload_n hx hb dL_law_328 rfl (lv_at hl 5 rfl) ?_
              refine lv_iload hx hb dL_law_329 (lv_at hl 1 rfl) ?_
              refine lv_iconst (v := 3) hx hb dL_law_331 (by decide) ?_
              refine xiadd (v := 3) S dL_law_332 (by decide) ?_
              refine xsld (v := x3) S hX hbl hbA hS (vin rfl) h3 dL_law_333 ?_
              refine lv_aload_n hx hb dL_law_334 rfl (lv_at hl 5 rfl) ?_
              refine lv_iload hx hb dL_law_335 (lv_at hl 1 rfl) ?_
              refine lv_iconst (v := 4) hx hb dL_law_337 (by decide) ?_
              refine xiadd (v := 4) S dL_law_338 (by decide) ?_
              refine xsld (v := x4) S hX hbl hbA hS (vin rfl) h4 dL_law_339 ?_
              refine fVi [] ((xW o u cI cZ cJ) ++ [(ao, .inl (cJ, 1, .inr (.inl (fun _ => 0))))]) (mid := (mW om 0 q cI cZ)) (As := [.int 0, .int x2, .int x3, .int x4]) (ci := 9) S (c_X9_variable_5 l D cI cZ cJ om q H.size x2 x3 x4 lo_x2 hi_x2 lo_x3) mi_X9_variable kw_7_123 rfl rfl ⟨Nat.le_of_ble_eq_true rfl, Nat.le_of_ble_eq_true rfl⟩ hP hD hK hS hA mW_0 rfl rfl hl.1 (Nat.le_of_ble_eq_true rfl) ⟨Nat.le_of_ble_eq_true rfl, Nat.le_of_ble_eq_true rfl⟩ dL_law_340 (fun H locs hz hP hD hS => ?_)
              have hP : va_P D vwCl ((mW om 2 q cI cZ) ++ ((xW o u cI cZ cJ) ++ [(ao, .inl (cJ, 1, .inr (.inl (fun _ => 0))))])) H := hP
              have hD : va_D A ((mW om 2 q cI cZ) ++ ((xW o u cI cZ cJ) ++ [(ao, .inl (cJ, 1, .inr (.inl (fun _ => 0))))])) := hD
              refine lv_istore (lv' := [(6, .int 0), (5, .int 2), (4, .int 0), (3, .ref ao), (2, .ref om), (1, .ref o), (0, .ref b)]) hx hb dL_law_343 hl (by decide) rfl (fun ls hl => ?_)
              refine lv_aload_n hx hb dL_law_345 rfl (lv_at hl 4 rfl) ?_
              refine rdV (As := []) (ci := 9) S (c_X9_thrown_1 l D cI cZ cJ om q) mi_X9_thrown kw_7_89 ⟨rfl, rfl⟩ ⟨Nat.le_of_ble_eq_true rfl, Nat.le_of_ble_eq_true rfl⟩ (va_Pl (ws := (mW om 2 q cI cZ)) (x := ((xW o u cI cZ cJ) ++ [(ao, .inl (cJ, 1, .inr (.inl (fun _ => 0))))])) hP) hK mW_0 rfl rfl hl.1 (Nat.le_of_ble_eq_true rfl) ⟨Nat.le_of_ble_eq_true rfl, Nat.le_of_ble_eq_true rfl⟩ dL_law_346 ?_
              refine lv_iload hx hb dL_law_349 (lv_at hl 1 rfl) ?_
              refine lv_icmp_eq (tgt := 356) hx hb dL_law_351 (by decide) (fun _ => ?_) (fun c => absurd c (by decide))
              refine lv_iload hx hb dL_law_356 (lv_at hl 1 rfl) ?_
              refine lv_if_ne (tgt := 373) hx hb dL_law_358 (by decide) (fun _ => ?_) (fun c => absurd c (by decide))
              refine lv_goto (tgt := 1519) hx hb dL_law_373 (by decide) ?_
              exact law_tail (C := 121) (Z := 12964) S hr hlocks hX hbl (lv_sub hl [2, 6] rfl) hS (Nat.le_of_ble_eq_true rfl) (Nat.le_of_ble_eq_true rfl)
            · have hi_x3 : x3 ≤ 3 := u_ngt d_310
              by_cases d_310 : x3 = 0
              · have e_x3 : x3 = 0 := d_310
                subst e_x3
                by_cases d_310 : x4 = 0
                · have e_x4 : x4 = 0 := d_310
                  subst e_x4
                  refine wrap (mW om 0 q cI cZ) (mid := ((xW o u cI cZ cJ) ++ [(ao, .inl (cJ, 1, .inr (.inl (fun _ => 0))))])) (As := [.ref o, .int 0, .int x2, .int 0, .int 0, .ref ao]) S (h_variable_6 l D cI cZ cJ o u ao hst ra ga H.size x2 lo_x2 hi_x2) msh_L_variable kw_5_229 rfl rfl ⟨Nat.le_of_ble_eq_true rfl, Nat.le_of_ble_eq_true rfl⟩ hP hD hK hS hA hB hC hl.1 (Nat.le_of_ble_eq_true rfl) ⟨Nat.le_of_ble_eq_true rfl, Nat.le_of_ble_eq_true rfl⟩ dL_law_310 (fun H locs hz hP hD hS => ?_)
                  have hP : va_P D vwCl ((mW om 0 q cI cZ) ++ (((((((((xW o u cI cZ cJ).set 5 ((u 4), .inl (cI, 10, .inl (upd (fun _ => 0) (0 : Int32).toNatClampNeg 1)))).set 6 ((u 5), .inl (cI, 10, .inl (upd (fun _ => 0) (0 : Int32).toNatClampNeg 1)))).set 8 ((u 7), .inl (cI, 160, .inl (upd (fun _ => (-1)) (x2 : Int32).toNatClampNeg 6)))).set 9 ((u 8), .inl (cI, 160, .inl (upd (upd (fun _ => 0) (x2 : Int32).toNatClampNeg (-1)) (x2 : Int32).toNatClampNeg 0)))).set 10 ((u 9), .inl (cI, 160, .inl (upd (fun _ => 0) (x2 : Int32).toNatClampNeg 0)))).set 11 ((u 10), .inl (cI, 100, .inl (upd (fun _ => 0) (0 : Int32).toNatClampNeg 6)))).set 12 ((u 11), .inl (cI, 100, .inl (upd (fun _ => 0) (0 : Int32).toNatClampNeg 0)))) ++ [(ao, .inl (cJ, 1, .inr (.inl (vp_updL (fun _ => 0) (0 : Int32).toNatClampNeg 0))))])) H := hP
                  have hD : va_D A ((mW om 0 q cI cZ) ++ (((((((((xW o u cI cZ cJ).set 5 ((u 4), .inl (cI, 10, .inl (upd (fun _ => 0) (0 : Int32).toNatClampNeg 1)))).set 6 ((u 5), .inl (cI, 10, .inl (upd (fun _ => 0) (0 : Int32).toNatClampNeg 1)))).set 8 ((u 7), .inl (cI, 160, .inl (upd (fun _ => (-1)) (x2 : Int32).toNatClampNeg 6)))).set 9 ((u 8), .inl (cI, 160, .inl (upd (upd (fun _ => 0) (x2 : Int32).toNatClampNeg (-1)) (x2 : Int32).toNatClampNeg 0)))).set 10 ((u 9), .inl (cI, 160, .inl (upd (fun _ => 0) (x2 : Int32).toNatClampNeg 0)))).set 11 ((u 10), .inl (cI, 100, .inl (upd (fun _ => 0) (0 : Int32).toNatClampNeg 6)))).set 12 ((u 11), .inl (cI, 100, .inl (upd (fun _ => 0) (0 : Int32).toNatClampNeg 0)))) ++ [(ao, .inl (cJ, 1, .inr (.inl (vp_updL (fun _ => 0) (0 : Int32).toNatClampNeg 0))))])) := hD
                  refine lv_istore (lv' := [(5, .int 0), (4, .int 0), (3, .ref ao), (2, .ref om), (1, .ref o), (0, .ref b)]) hx hb dL_law_313 hl (by decide) rfl (fun ls hl => ?_)
                  refine lv_aload_n hx hb dL_law_315 rfl (lv_at hl 3 rfl) ?_
                  refine lv_aload_n hx hb dL_law_316 rfl (lv_at hl 5 rfl) ?_
                  refine lv_iload hx hb dL_law_317 (lv_at hl 1 rfl) ?_
                  refine lv_iconst (v := 1) hx hb dL_law_319 (by decide) ?_
                  refine xiadd (v := 1) S dL_law_320 (by decide) ?_
                  refine xsld (v := 0) S hX hbl hbA hS (vin rfl) h1 dL_law_321 ?_
                  refine lv_aload_n hx hb dL_law_322 rfl (lv_at hl 5 rfl) ?_
                  refine lv_iload hx hb dL_law_323 (lv_at hl 1 rfl) ?_
                  refine lv_iconst (v := 2) hx hb dL_law_325 (by decide) ?_
                  refine xiadd (v := 2) S dL_law_326 (by decide) ?_
                  refine xsld (v := x2) S hX hbl hbA hS (vin rfl) h2 dL_law_327 ?_
                  refine lv_aload_n hx hb dL_law_328 rfl (lv_at hl 5 rfl) ?_
                  refine lv_iload hx hb dL_law_329 (lv_at hl 1 rfl) ?_
                  refine lv_iconst (v := 3) hx hb dL_law_331 (by decide) ?_
                  refine xiadd (v := 3) S dL_law_332 (by decide) ?_
                  refine xsld (v := 0) S hX hbl hbA hS (vin rfl) h3 dL_law_333 ?_
                  refine lv_aload_n hx hb dL_law_334 rfl (lv_at hl 5 rfl) ?_
                  refine lv_iload hx hb dL_law_335 (lv_at hl 1 rfl) ?_
                  refine lv_iconst (v := 4) hx hb dL_law_337 (by decide) ?_
                  refine xiadd (v := 4) S dL_law_338 (by decide) ?_
                  refine xsld (v := 0) S hX hbl hbA hS (vin rfl) h4 dL_law_339 ?_
                  refine fVi [] (((((((((xW o u cI cZ cJ).set 5 ((u 4), .inl (cI, 10, .inl (upd (fun _ => 0) (0 : Int32).toNatClampNeg 1)))).set 6 ((u 5), .inl (cI, 10, .inl (upd (fun _ => 0) (0 : Int32).toNatClampNeg 1)))).set 8 ((u 7), .inl (cI, 160, .inl (upd (fun _ => (-1)) (x2 : Int32).toNatClampNeg 6)))).set 9 ((u 8), .inl (cI, 160, .inl (upd (upd (fun _ => 0) (x2 : Int32).toNatClampNeg (-1)) (x2 : Int32).toNatClampNeg 0)))).set 10 ((u 9), .inl (cI, 160, .inl (upd (fun _ => 0) (x2 : Int32).toNatClampNeg 0)))).set 11 ((u 10), .inl (cI, 100, .inl (upd (fun _ => 0) (0 : Int32).toNatClampNeg 6)))).set 12 ((u 11), .inl (cI, 100, .inl (upd (fun _ => 0) (0 : Int32).toNatClampNeg 0)))) ++ [(ao, .inl (cJ, 1, .inr (.inl (vp_updL (fun _ => 0) (0 : Int32).toNatClampNeg 0))))]) (mid := (mW om 0 q cI cZ)) (As := [.int 0, .int x2, .int 0, .int 0]) (ci := 9) S (c_X9_variable_6 l D cI cZ cJ om q H.size x2 lo_x2 hi_x2) mi_X9_variable kw_7_123 rfl rfl ⟨Nat.le_of_ble_eq_true rfl, Nat.le_of_ble_eq_true rfl⟩ hP hD hK hS hA mW_0 rfl rfl hl.1 (Nat.le_of_ble_eq_true rfl) ⟨Nat.le_of_ble_eq_true rfl, Nat.le_of_ble_eq_true rfl⟩ dL_law_340 (fun H locs hz hP hD hS => ?_)
                  have hP : va_P D vwCl (((((((((mW om 0 q cI cZ).set 4 ((q 3), .inl (cI, 10, .inl (upd (fun _ => 0) (0 : Int32).toNatClampNeg 1)))).set 5 ((q 4), .inl (cI, 10, .inl (upd (fun _ => 0) (0 : Int32).toNatClampNeg 1)))).set 7 ((q 6), .inl (cI, 160, .inl (upd (fun _ => -1) (x2 : Int32).toNatClampNeg 6)))).set 8 ((q 7), .inl (cI, 160, .inl (upd (fun _ => 0) (x2 : Int32).toNatClampNeg 0)))).set 9 ((q 8), .inl (cI, 160, .inl (upd (fun _ => 0) (x2 : Int32).toNatClampNeg 0)))).set 10 ((q 9), .inl (cI, 100, .inl (upd (fun _ => 0) (0 : Int32).toNatClampNeg 6)))).set 11 ((q 10), .inl (cI, 100, .inl (upd (fun _ => 0) (0 : Int32).toNatClampNeg 0)))) ++ (((((((((xW o u cI cZ cJ).set 5 ((u 4), .inl (cI, 10, .inl (upd (fun _ => 0) (0 : Int32).toNatClampNeg 1)))).set 6 ((u 5), .inl (cI, 10, .inl (upd (fun _ => 0) (0 : Int32).toNatClampNeg 1)))).set 8 ((u 7), .inl (cI, 160, .inl (upd (fun _ => (-1)) (x2 : Int32).toNatClampNeg 6)))).set 9 ((u 8), .inl (cI, 160, .inl (upd (upd (fun _ => 0) (x2 : Int32).toNatClampNeg (-1)) (x2 : Int32).toNatClampNeg 0)))).set 10 ((u 9), .inl (cI, 160, .inl (upd (fun _ => 0) (x2 : Int32).toNatClampNeg 0)))).set 11 ((u 10), .inl (cI, 100, .inl (upd (fun _ => 0) (0 : Int32).toNatClampNeg 6)))).set 12 ((u 11), .inl (cI, 100, .inl (upd (fun _ => 0) (0 : Int32).toNatClampNeg 0)))) ++ [(ao, .inl (cJ, 1, .inr (.inl (vp_updL (fun _ => 0) (0 : Int32).toNatClampNeg 0))))])) H := hP
                  have hD : va_D A (((((((((mW om 0 q cI cZ).set 4 ((q 3), .inl (cI, 10, .inl (upd (fun _ => 0) (0 : Int32).toNatClampNeg 1)))).set 5 ((q 4), .inl (cI, 10, .inl (upd (fun _ => 0) (0 : Int32).toNatClampNeg 1)))).set 7 ((q 6), .inl (cI, 160, .inl (upd (fun _ => -1) (x2 : Int32).toNatClampNeg 6)))).set 8 ((q 7), .inl (cI, 160, .inl (upd (fun _ => 0) (x2 : Int32).toNatClampNeg 0)))).set 9 ((q 8), .inl (cI, 160, .inl (upd (fun _ => 0) (x2 : Int32).toNatClampNeg 0)))).set 10 ((q 9), .inl (cI, 100, .inl (upd (fun _ => 0) (0 : Int32).toNatClampNeg 6)))).set 11 ((q 10), .inl (cI, 100, .inl (upd (fun _ => 0) (0 : Int32).toNatClampNeg 0)))) ++ (((((((((xW o u cI cZ cJ).set 5 ((u 4), .inl (cI, 10, .inl (upd (fun _ => 0) (0 : Int32).toNatClampNeg 1)))).set 6 ((u 5), .inl (cI, 10, .inl (upd (fun _ => 0) (0 : Int32).toNatClampNeg 1)))).set 8 ((u 7), .inl (cI, 160, .inl (upd (fun _ => (-1)) (x2 : Int32).toNatClampNeg 6)))).set 9 ((u 8), .inl (cI, 160, .inl (upd (upd (fun _ => 0) (x2 : Int32).toNatClampNeg (-1)) (x2 : Int32).toNatClampNeg 0)))).set 10 ((u 9), .inl (cI, 160, .inl (upd (fun _ => 0) (x2 : Int32).toNatClampNeg 0)))).set 11 ((u 10), .inl (cI, 100, .inl (upd (fun _ => 0) (0 : Int32).toNatClampNeg 6)))).set 12 ((u 11), .inl (cI, 100, .inl (upd (fun _ => 0) (0 : Int32).toNatClampNeg 0)))) ++ [(ao, .inl (cJ, 1, .inr (.inl (vp_updL (fun _ => 0) (0 : Int32).toNatClampNeg 0))))])) := hD
                  refine lv_istore (lv' := [(6, .int 0), (5, .int 0), (4, .int 0), (3, .ref ao), (2, .ref om), (1, .ref o), (0, .ref b)]) hx hb dL_law_343 hl (by decide) rfl (fun ls hl => ?_)
                  refine lv_aload_n hx hb dL_law_345 rfl (lv_at hl 4 rfl) ?_
                  refine rdV (As := []) (ci := 9) S (c_X9_thrown_4 l D cI cZ cJ om q x2 lo_x2 hi_x2) mi_X9_thrown kw_7_89 ⟨rfl, rfl⟩ ⟨Nat.le_of_ble_eq_true rfl, Nat.le_of_ble_eq_true rfl⟩ (va_Pl (ws := ((((((((mW om 0 q cI cZ).set 4 ((q 3), .inl (cI, 10, .inl (upd (fun _ => 0) (0 : Int32).toNatClampNeg 1)))).set 5 ((q 4), .inl (cI, 10, .inl (upd (fun _ => 0) (0 : Int32).toNatClampNeg 1)))).set 7 ((q 6), .inl (cI, 160, .inl (upd (fun _ => -1) (x2 : Int32).toNatClampNeg 6)))).set 8 ((q 7), .inl (cI, 160, .inl (upd (fun _ => 0) (x2 : Int32).toNatClampNeg 0)))).set 9 ((q 8), .inl (cI, 160, .inl (upd (fun _ => 0) (x2 : Int32).toNatClampNeg 0)))).set 10 ((q 9), .inl (cI, 100, .inl (upd (fun _ => 0) (0 : Int32).toNatClampNeg 6)))).set 11 ((q 10), .inl (cI, 100, .inl (upd (fun _ => 0) (0 : Int32).toNatClampNeg 0))))) (x := (((((((((xW o u cI cZ cJ).set 5 ((u 4), .inl (cI, 10, .inl (upd (fun _ => 0) (0 : Int32).toNatClampNeg 1)))).set 6 ((u 5), .inl (cI, 10, .inl (upd (fun _ => 0) (0 : Int32).toNatClampNeg 1)))).set 8 ((u 7), .inl (cI, 160, .inl (upd (fun _ => (-1)) (x2 : Int32).toNatClampNeg 6)))).set 9 ((u 8), .inl (cI, 160, .inl (upd (upd (fun _ => 0) (x2 : Int32).toNatClampNeg (-1)) (x2 : Int32).toNatClampNeg 0)))).set 10 ((u 9), .inl (cI, 160, .inl (upd (fun _ => 0) (x2 : Int32).toNatClampNeg 0)))).set 11 ((u 10), .inl (cI, 100, .inl (upd (fun _ => 0) (0 : Int32).toNatClampNeg 6)))).set 12 ((u 11), .inl (cI, 100, .inl (upd (fun _ => 0) (0 : Int32).toNatClampNeg 0)))) ++ [(ao, .inl (cJ, 1, .inr (.inl (vp_updL (fun _ => 0) (0 : Int32).toNatClampNeg 0))))])) hP) hK (k := 0) rfl rfl rfl hl.1 (Nat.le_of_ble_eq_true rfl) ⟨Nat.le_of_ble_eq_true rfl, Nat.le_of_ble_eq_true rfl⟩ dL_law_346 ?_
                  refine lv_iload hx hb dL_law_349 (lv_at hl 1 rfl) ?_
                  refine lv_icmp_eq (tgt := 356) hx hb dL_law_351 (by decide) (fun _ => ?_) (fun c => absurd c (by decide))
                  refine lv_iload hx hb dL_law_356 (lv_at hl 1 rfl) ?_
                  refine lv_if_ne (tgt := 373) hx hb dL_law_358 (by decide) (fun c => absurd c (by decide)) (fun _ => ?_)
                  refine lv_aload_n hx hb dL_law_361 rfl (lv_at hl 3 rfl) ?_
                  refine lv_iconst (v := 0) hx hb dL_law_362 (by decide) ?_
                  refine xlald (t0 := 2) (v := 0) S hK hP (q0 := 119) rfl rfl (vin rfl) rfl dL_law_363 ?_
                  refine lv_iload hx hb dL_law_364 (lv_at hl 0 rfl) ?_
                  refine lv_i2l (v := 0) hx hb dL_law_366 (by decide) ?_
                  refine xlcmp (v := 0) S dL_law_367 (by decide) ?_
                  refine lv_if_eq (tgt := 373) hx hb dL_law_368 (by decide) (fun _ => ?_) (fun c => absurd c (by decide))
                  refine lv_goto (tgt := 1519) hx hb dL_law_373 (by decide) ?_
                  exact law_tail (C := 120) (Z := 12958) S hr hlocks hX hbl (lv_sub hl [2, 6] rfl) hS (Nat.le_of_ble_eq_true rfl) (Nat.le_of_ble_eq_true rfl)
                · have ne_x4_0 : ¬ x4 = 0 := d_310
                  refine wrap (mW om 0 q cI cZ) (mid := ((xW o u cI cZ cJ) ++ [(ao, .inl (cJ, 1, .inr (.inl (fun _ => 0))))])) (As := [.ref o, .int 0, .int x2, .int 0, .int x4, .ref ao]) S (h_variable_7 l D cI cZ cJ o u ao hst ra ga H.size x2 x4 lo_x2 hi_x2 ne_x4_0) msh_L_variable kw_5_229 rfl rfl ⟨Nat.le_of_ble_eq_true rfl, Nat.le_of_ble_eq_true rfl⟩ hP hD hK hS hA hB hC hl.1 (Nat.le_of_ble_eq_true rfl) ⟨Nat.le_of_ble_eq_true rfl, Nat.le_of_ble_eq_true rfl⟩ dL_law_310 (fun H locs hz hP hD hS => ?_)
                  have hP : va_P D vwCl ((mW om 0 q cI cZ) ++ ((xW o u cI cZ cJ) ++ [(ao, .inl (cJ, 1, .inr (.inl (fun _ => 0))))])) H := hP
                  have hD : va_D A ((mW om 0 q cI cZ) ++ ((xW o u cI cZ cJ) ++ [(ao, .inl (cJ, 1, .inr (.inl (fun _ => 0))))])) := hD
                  refine lv_istore (lv' := [(5, .int 2), (4, .int 0), (3, .ref ao), (2, .ref om), (1, .ref o), (0, .ref b)]) hx hb dL_law_313 hl (by decide) rfl (fun ls hl => ?_)
                  refine lv_aload_n hx hb dL_law_315 rfl (lv_at hl 3 rfl) ?_
                  refine lv_aload_n hx hb dL_law_316 rfl (lv_at hl 5 rfl) ?_
                  refine lv_iload hx hb dL_law_317 (lv_at hl 1 rfl) ?_
                  refine lv_iconst (v := 1) hx hb dL_law_319 (by decide) ?_
                  refine xiadd (v := 1) S dL_law_320 (by decide) ?_
                  refine xsld (v := 0) S hX hbl hbA hS (vin rfl) h1 dL_law_321 ?_
                  refine lv_aload_n hx hb dL_law_322 rfl (lv_at hl 5 rfl) ?_
                  refine lv_iload hx hb dL_law_323 (lv_at hl 1 rfl) ?_
                  refine lv_iconst (v := 2) hx hb dL_law_325 (by decide) ?_
                  refine xiadd (v := 2) S dL_law_326 (by decide) ?_
                  refine xsld (v := x2) S hX hbl hbA hS (vin rfl) h2 dL_law_327 ?_
                  refine lv_aload_n hx hb dL_law_328 rfl (lv_at hl 5 rfl) ?_
                  refine lv_iload hx hb dL_law_329 (lv_at hl 1 rfl) ?_
                  refine lv_iconst (v := 3) hx hb dL_law_331 (by decide) ?_
                  refine xiadd (v := 3) S dL_law_332 (by decide) ?_
                  refine xsld (v := 0) S hX hbl hbA hS (vin rfl) h3 dL_law_333 ?_
                  refine lv_aload_n hx hb dL_law_334 rfl (lv_at hl 5 rfl) ?_
                  refine lv_iload hx hb dL_law_335 (lv_at hl 1 rfl) ?_
                  refine lv_iconst (v := 4) hx hb dL_law_337 (by decide) ?_
                  refine xiadd (v := 4) S dL_law_338 (by decide) ?_
                  refine xsld (v := x4) S hX hbl hbA hS (vin rfl) h4 dL_law_339 ?_
                  refine fVi [] ((xW o u cI cZ cJ) ++ [(ao, .inl (cJ, 1, .inr (.inl (fun _ => 0))))]) (mid := (mW om 0 q cI cZ)) (As := [.int 0, .int x2, .int 0, .int x4]) (ci := 9) S (c_X9_variable_7 l D cI cZ cJ om q H.size x2 x4 lo_x2 hi_x2 ne_x4_0) mi_X9_variable kw_7_123 rfl rfl ⟨Nat.le_of_ble_eq_true rfl, Nat.le_of_ble_eq_true rfl⟩ hP hD hK hS hA mW_0 rfl rfl hl.1 (Nat.le_of_ble_eq_true rfl) ⟨Nat.le_of_ble_eq_true rfl, Nat.le_of_ble_eq_true rfl⟩ dL_law_340 (fun H locs hz hP hD hS => ?_)
                  have hP : va_P D vwCl ((mW om 2 q cI cZ) ++ ((xW o u cI cZ cJ) ++ [(ao, .inl (cJ, 1, .inr (.inl (fun _ => 0))))])) H := hP
                  have hD : va_D A ((mW om 2 q cI cZ) ++ ((xW o u cI cZ cJ) ++ [(ao, .inl (cJ, 1, .inr (.inl (fun _ => 0))))])) := hD
                  refine lv_istore (lv' := [(6, .int 0), (5, .int 2), (4, .int 0), (3, .ref ao), (2, .ref om), (1, .ref o), (0, .ref b)]) hx hb dL_law_343 hl (by decide) rfl (fun ls hl => ?_)
                  refine lv_aload_n hx hb dL_law_345 rfl (lv_at hl 4 rfl) ?_
                  refine rdV (As := []) (ci := 9) S (c_X9_thrown_1 l D cI cZ cJ om q) mi_X9_thrown kw_7_89 ⟨rfl, rfl⟩ ⟨Nat.le_of_ble_eq_true rfl, Nat.le_of_ble_eq_true rfl⟩ (va_Pl (ws := (mW om 2 q cI cZ)) (x := ((xW o u cI cZ cJ) ++ [(ao, .inl (cJ, 1, .inr (.inl (fun _ => 0))))])) hP) hK mW_0 rfl rfl hl.1 (Nat.le_of_ble_eq_true rfl) ⟨Nat.le_of_ble_eq_true rfl, Nat.le_of_ble_eq_true rfl⟩ dL_law_346 ?_
                  refine lv_iload hx hb dL_law_349 (lv_at hl 1 rfl) ?_
                  refine lv_icmp_eq (tgt := 356) hx hb dL_law_351 (by decide) (fun _ => ?_) (fun c => absurd c (by decide))
                  refine lv_iload hx hb dL_law_356 (lv_at hl 1 rfl) ?_
                  refine lv_if_ne (tgt := 373) hx hb dL_law_358 (by decide) (fun _ => ?_) (fun c => absurd c (by decide))
                  refine lv_goto (tgt := 1519) hx hb dL_law_373 (by decide) ?_
                  exact law_tail (C := 121) (Z := 12964) S hr hlocks hX hbl (lv_sub hl [2, 6] rfl) hS (Nat.le_of_ble_eq_true rfl) (Nat.le_of_ble_eq_true rfl)
              · have ne_x3_0 : ¬ x3 = 0 := d_310
                have lo_x3 : 1 ≤ x3 := l_ne ne_x3_0 lo_x3 (by decide)
                by_cases d_310 : x3 = 1
                · have e_x3 : x3 = 1 := d_310
                  subst e_x3
                  by_cases d_310 : x4 < 1
                  · have hi_x4 : x4 ≤ 0 := u_lt d_310 (by decide)
                    refine wrap (mW om 0 q cI cZ) (mid := ((xW o u cI cZ cJ) ++ [(ao, .inl (cJ, 1, .inr (.inl (fun _ => 0))))])) (As := [.ref o, .int 0, .int x2, .int 1, .int x4, .ref ao]) S (h_variable_8 l D cI cZ cJ o u ao hst ra ga H.size x2 x4 lo_x2 hi_x2 hi_x4) msh_L_variable kw_5_229 rfl rfl ⟨Nat.le_of_ble_eq_true rfl, Nat.le_of_ble_eq_true rfl⟩ hP hD hK hS hA hB hC hl.1 (Nat.le_of_ble_eq_true rfl) ⟨Nat.le_of_ble_eq_true rfl, Nat.le_of_ble_eq_true rfl⟩ dL_law_310 (fun H locs hz hP hD hS => ?_)
                    have hP : va_P D vwCl ((mW om 0 q cI cZ) ++ ((xW o u cI cZ cJ) ++ [(ao, .inl (cJ, 1, .inr (.inl (fun _ => 0))))])) H := hP
                    have hD : va_D A ((mW om 0 q cI cZ) ++ ((xW o u cI cZ cJ) ++ [(ao, .inl (cJ, 1, .inr (.inl (fun _ => 0))))])) := hD
                    refine lv_istore (lv' := [(5, .int 2), (4, .int 0), (3, .ref ao), (2, .ref om), (1, .ref o), (0, .ref b)]) hx hb dL_law_313 hl (by decide) rfl (fun ls hl => ?_)
                    refine lv_aload_n hx hb dL_law_315 rfl (lv_at hl 3 rfl) ?_
                    refine lv_aload_n hx hb dL_law_316 rfl (lv_at hl 5 rfl) ?_
                    refine lv_iload hx hb dL_law_317 (lv_at hl 1 rfl) ?_
                    refine lv_iconst (v := 1) hx hb dL_law_319 (by decide) ?_
                    refine xiadd (v := 1) S dL_law_320 (by decide) ?_
                    refine xsld (v := 0) S hX hbl hbA hS (vin rfl) h1 dL_law_321 ?_
                    refine lv_aload_n hx hb dL_law_322 rfl (lv_at hl 5 rfl) ?_
                    refine lv_iload hx hb dL_law_323 (lv_at hl 1 rfl) ?_
                    refine lv_iconst (v := 2) hx hb dL_law_325 (by decide) ?_
                    refine xiadd (v := 2) S dL_law_326 (by decide) ?_
                    refine xsld (v := x2) S hX hbl hbA hS (vin rfl) h2 dL_law_327 ?_
                    refine lv_aload_n hx hb dL_law_328 rfl (lv_at hl 5 rfl) ?_
                    refine lv_iload hx hb dL_law_329 (lv_at hl 1 rfl) ?_
                    refine lv_iconst (v := 3) hx hb dL_law_331 (by decide) ?_
                    refine xiadd (v := 3) S dL_law_332 (by decide) ?_
                    refine xsld (v := 1) S hX hbl hbA hS (vin rfl) h3 dL_law_333 ?_
                    refine lv_aload_n hx hb dL_law_334 rfl (lv_at hl 5 rfl) ?_
                    refine lv_iload hx hb dL_law_335 (lv_at hl 1 rfl) ?_
                    refine lv_iconst (v := 4) hx hb dL_law_337 (by decide) ?_
                    refine xiadd (v := 4) S dL_law_338 (by decide) ?_
                    refine xsld (v := x4) S hX hbl hbA hS (vin rfl) h4 dL_law_339 ?_
                    refine fVi [] ((xW o u cI cZ cJ) ++ [(ao, .inl (cJ, 1, .inr (.inl (fun _ => 0))))]) (mid := (mW om 0 q cI cZ)) (As := [.int 0, .int x2, .int 1, .int x4]) (ci := 9) S (c_X9_variable_8 l D cI cZ cJ om q H.size x2 x4 lo_x2 hi_x2 hi_x4) mi_X9_variable kw_7_123 rfl rfl ⟨Nat.le_of_ble_eq_true rfl, Nat.le_of_ble_eq_true rfl⟩ hP hD hK hS hA mW_0 rfl rfl hl.1 (Nat.le_of_ble_eq_true rfl) ⟨Nat.le_of_ble_eq_true rfl, Nat.le_of_ble_eq_true rfl⟩ dL_law_340 (fun H locs hz hP hD hS => ?_)
                    have hP : va_P D vwCl ((mW om 2 q cI cZ) ++ ((xW o u cI cZ cJ) ++ [(ao, .inl (cJ, 1, .inr (.inl (fun _ => 0))))])) H := hP
                    have hD : va_D A ((mW om 2 q cI cZ) ++ ((xW o u cI cZ cJ) ++ [(ao, .inl (cJ, 1, .inr (.inl (fun _ => 0))))])) := hD
                    refine lv_istore (lv' := [(6, .int 0), (5, .int 2), (4, .int 0), (3, .ref ao), (2, .ref om), (1, .ref o), (0, .ref b)]) hx hb dL_law_343 hl (by decide) rfl (fun ls hl => ?_)
                    refine lv_aload_n hx hb dL_law_345 rfl (lv_at hl 4 rfl) ?_
                    refine rdV (As := []) (ci := 9) S (c_X9_thrown_1 l D cI cZ cJ om q) mi_X9_thrown kw_7_89 ⟨rfl, rfl⟩ ⟨Nat.le_of_ble_eq_true rfl, Nat.le_of_ble_eq_true rfl⟩ (va_Pl (ws := (mW om 2 q cI cZ)) (x := ((xW o u cI cZ cJ) ++ [(ao, .inl (cJ, 1, .inr (.inl (fun _ => 0))))])) hP) hK mW_0 rfl rfl hl.1 (Nat.le_of_ble_eq_true rfl) ⟨Nat.le_of_ble_eq_true rfl, Nat.le_of_ble_eq_true rfl⟩ dL_law_346 ?_
                    refine lv_iload hx hb dL_law_349 (lv_at hl 1 rfl) ?_
                    refine lv_icmp_eq (tgt := 356) hx hb dL_law_351 (by decide) (fun _ => ?_) (fun c => absurd c (by decide))
                    refine lv_iload hx hb dL_law_356 (lv_at hl 1 rfl) ?_
                    refine lv_if_ne (tgt := 373) hx hb dL_law_358 (by decide) (fun _ => ?_) (fun c => absurd c (by decide))
                    refine lv_goto (tgt := 1519) hx hb dL_law_373 (by decide) ?_
                    exact law_tail (C := 121) (Z := 12964) S hr hlocks hX hbl (lv_sub hl [2, 6] rfl) hS (Nat.le_of_ble_eq_true rfl) (Nat.le_of_ble_eq_true rfl)
                  · have lo_x4 : 1 ≤ x4 := l_nlt d_310
                    by_cases d_310 : 8 < x4
                    · have lo_x4 : 9 ≤ x4 := l_gt d_310 (by decide)
                      refine wrap (mW om 0 q cI cZ) (mid := ((xW o u cI cZ cJ) ++ [(ao, .inl (cJ, 1, .inr (.inl (fun _ => 0))))])) (As := [.ref o, .int 0, .int x2, .int 1, .int x4, .ref ao]) S (h_variable_9 l D cI cZ cJ o u ao hst ra ga H.size x2 x4 lo_x2 hi_x2 lo_x4) msh_L_variable kw_5_229 rfl rfl ⟨Nat.le_of_ble_eq_true rfl, Nat.le_of_ble_eq_true rfl⟩ hP hD hK hS hA hB hC hl.1 (Nat.le_of_ble_eq_true rfl) ⟨Nat.le_of_ble_eq_true rfl, Nat.le_of_ble_eq_true rfl⟩ dL_law_310 (fun H locs hz hP hD hS => ?_)
                      have hP : va_P D vwCl ((mW om 0 q cI cZ) ++ ((xW o u cI cZ cJ) ++ [(ao, .inl (cJ, 1, .inr (.inl (fun _ => 0))))])) H := hP
                      have hD : va_D A ((mW om 0 q cI cZ) ++ ((xW o u cI cZ cJ) ++ [(ao, .inl (cJ, 1, .inr (.inl (fun _ => 0))))])) := hD
                      refine lv_istore (lv' := [(5, .int 2), (4, .int 0), (3, .ref ao), (2, .ref om), (1, .ref o), (0, .ref b)]) hx hb dL_law_313 hl (by decide) rfl (fun ls hl => ?_)
                      refine lv_aload_n hx hb dL_law_315 rfl (lv_at hl 3 rfl) ?_
                      refine lv_aload_n hx hb dL_law_316 rfl (lv_at hl 5 rfl) ?_
                      refine lv_iload hx hb dL_law_317 (lv_at hl 1 rfl) ?_
                      refine lv_iconst (v := 1) hx hb dL_law_319 (by decide) ?_
                      refine xiadd (v := 1) S dL_law_320 (by decide) ?_
                      refine xsld (v := 0) S hX hbl hbA hS (vin rfl) h1 dL_law_321 ?_
                      refine lv_aload_n hx hb dL_law_322 rfl (lv_at hl 5 rfl) ?_
                      refine lv_iload hx hb dL_law_323 (lv_at hl 1 rfl) ?_
                      refine lv_iconst (v := 2) hx hb dL_law_325 (by decide) ?_
                      refine xiadd (v := 2) S dL_law_326 (by decide) ?_
                      refine xsld (v := x2) S hX hbl hbA hS (vin rfl) h2 dL_law_327 ?_
                      refine lv_aload_n hx hb dL_law_328 rfl (lv_at hl 5 rfl) ?_
                      refine lv_iload hx hb dL_law_329 (lv_at hl 1 rfl) ?_
                      refine lv_iconst (v := 3) hx hb dL_law_331 (by decide) ?_
                      refine xiadd (v := 3) S dL_law_332 (by decide) ?_
                      refine xsld (v := 1) S hX hbl hbA hS (vin rfl) h3 dL_law_333 ?_
                      refine lv_aload_n hx hb dL_law_334 rfl (lv_at hl 5 rfl) ?_
                      refine lv_iload hx hb dL_law_335 (lv_at hl 1 rfl) ?_
                      refine lv_iconst (v := 4) hx hb dL_law_337 (by decide) ?_
                      refine xiadd (v := 4) S dL_law_338 (by decide) ?_
                      refine xsld (v := x4) S hX hbl hbA hS (vin rfl) h4 dL_law_339 ?_
                      refine fVi [] ((xW o u cI cZ cJ) ++ [(ao, .inl (cJ, 1, .inr (.inl (fun _ => 0))))]) (mid := (mW om 0 q cI cZ)) (As := [.int 0, .int x2, .int 1, .int x4]) (ci := 9) S (c_X9_variable_9 l D cI cZ cJ om q H.size x2 x4 lo_x2 hi_x2 lo_x4) mi_X9_variable kw_7_123 rfl rfl ⟨Nat.le_of_ble_eq_true rfl, Nat.le_of_ble_eq_true rfl⟩ hP hD hK hS hA mW_0 rfl rfl hl.1 (Nat.le_of_ble_eq_true rfl) ⟨Nat.le_of_ble_eq_true rfl, Nat.le_of_ble_eq_true rfl⟩ dL_law_340 (fun H locs hz hP hD hS => ?_)
                      have hP : va_P D vwCl ((mW om 2 q cI cZ) ++ ((xW o u cI cZ cJ) ++ [(ao, .inl (cJ, 1, .inr (.inl (fun _ => 0))))])) H := hP
                      have hD : va_D A ((mW om 2 q cI cZ) ++ ((xW o u cI cZ cJ) ++ [(ao, .inl (cJ, 1, .inr (.inl (fun _ => 0))))])) := hD
                      refine lv_istore (lv' := [(6, .int 0), (5, .int 2), (4, .int 0), (3, .ref ao), (2, .ref om), (1, .ref o), (0, .ref b)]) hx hb dL_law_343 hl (by decide) rfl (fun ls hl => ?_)
                      refine lv_aload_n hx hb dL_law_345 rfl (lv_at hl 4 rfl) ?_
                      refine rdV (As := []) (ci := 9) S (c_X9_thrown_1 l D cI cZ cJ om q) mi_X9_thrown kw_7_89 ⟨rfl, rfl⟩ ⟨Nat.le_of_ble_eq_true rfl, Nat.le_of_ble_eq_true rfl⟩ (va_Pl (ws := (mW om 2 q cI cZ)) (x := ((xW o u cI cZ cJ) ++ [(ao, .inl (cJ, 1, .inr (.inl (fun _ => 0))))])) hP) hK mW_0 rfl rfl hl.1 (Nat.le_of_ble_eq_true rfl) ⟨Nat.le_of_ble_eq_true rfl, Nat.le_of_ble_eq_true rfl⟩ dL_law_346 ?_
                      refine lv_iload hx hb dL_law_349 (lv_at hl 1 rfl) ?_
                      refine lv_icmp_eq (tgt := 356) hx hb dL_law_351 (by decide) (fun _ => ?_) (fun c => absurd c (by decide))
                      refine lv_iload hx hb dL_law_356 (lv_at hl 1 rfl) ?_
                      refine lv_if_ne (tgt := 373) hx hb dL_law_358 (by decide) (fun _ => ?_) (fun c => absurd c (by decide))
                      refine lv_goto (tgt := 1519) hx hb dL_law_373 (by decide) ?_
                      exact law_tail (C := 121) (Z := 12964) S hr hlocks hX hbl (lv_sub hl [2, 6] rfl) hS (Nat.le_of_ble_eq_true rfl) (Nat.le_of_ble_eq_true rfl)
                    · have hi_x4 : x4 ≤ 8 := u_ngt d_310
                      refine wrap (mW om 0 q cI cZ) (mid := ((xW o u cI cZ cJ) ++ [(ao, .inl (cJ, 1, .inr (.inl (fun _ => 0))))])) (As := [.ref o, .int 0, .int x2, .int 1, .int x4, .ref ao]) S (h_variable_10 l D cI cZ cJ o u ao hst ra ga H.size x2 x4 lo_x2 hi_x2 lo_x4 hi_x4) msh_L_variable kw_5_229 rfl rfl ⟨Nat.le_of_ble_eq_true rfl, Nat.le_of_ble_eq_true rfl⟩ hP hD hK hS hA hB hC hl.1 (Nat.le_of_ble_eq_true rfl) ⟨Nat.le_of_ble_eq_true rfl, Nat.le_of_ble_eq_true rfl⟩ dL_law_310 (fun H locs hz hP hD hS => ?_)
                      have hP : va_P D vwCl ((mW om 0 q cI cZ) ++ (((((((((xW o u cI cZ cJ).set 5 ((u 4), .inl (cI, 10, .inl (upd (fun _ => 0) (0 : Int32).toNatClampNeg 1)))).set 6 ((u 5), .inl (cI, 10, .inl (upd (fun _ => 0) (0 : Int32).toNatClampNeg 1)))).set 8 ((u 7), .inl (cI, 160, .inl (upd (fun _ => (-1)) (x2 : Int32).toNatClampNeg 7)))).set 9 ((u 8), .inl (cI, 160, .inl (upd (upd (fun _ => 0) (x2 : Int32).toNatClampNeg (-1)) (x2 : Int32).toNatClampNeg 0)))).set 10 ((u 9), .inl (cI, 160, .inl (upd (fun _ => 0) (x2 : Int32).toNatClampNeg x4)))).set 11 ((u 10), .inl (cI, 100, .inl (upd (fun _ => 0) (0 : Int32).toNatClampNeg 7)))).set 12 ((u 11), .inl (cI, 100, .inl (upd (fun _ => 0) (0 : Int32).toNatClampNeg x4)))) ++ [(ao, .inl (cJ, 1, .inr (.inl (vp_updL (fun _ => 0) (0 : Int32).toNatClampNeg 0))))])) H := hP
                      have hD : va_D A ((mW om 0 q cI cZ) ++ (((((((((xW o u cI cZ cJ).set 5 ((u 4), .inl (cI, 10, .inl (upd (fun _ => 0) (0 : Int32).toNatClampNeg 1)))).set 6 ((u 5), .inl (cI, 10, .inl (upd (fun _ => 0) (0 : Int32).toNatClampNeg 1)))).set 8 ((u 7), .inl (cI, 160, .inl (upd (fun _ => (-1)) (x2 : Int32).toNatClampNeg 7)))).set 9 ((u 8), .inl (cI, 160, .inl (upd (upd (fun _ => 0) (x2 : Int32).toNatClampNeg (-1)) (x2 : Int32).toNatClampNeg 0)))).set 10 ((u 9), .inl (cI, 160, .inl (upd (fun _ => 0) (x2 : Int32).toNatClampNeg x4)))).set 11 ((u 10), .inl (cI, 100, .inl (upd (fun _ => 0) (0 : Int32).toNatClampNeg 7)))).set 12 ((u 11), .inl (cI, 100, .inl (upd (fun _ => 0) (0 : Int32).toNatClampNeg x4)))) ++ [(ao, .inl (cJ, 1, .inr (.inl (vp_updL (fun _ => 0) (0 : Int32).toNatClampNeg 0))))])) := hD
                      refine lv_istore (lv' := [(5, .int 0), (4, .int 0), (3, .ref ao), (2, .ref om), (1, .ref o), (0, .ref b)]) hx hb dL_law_313 hl (by decide) rfl (fun ls hl => ?_)
                      refine lv_aload_n hx hb dL_law_315 rfl (lv_at hl 3 rfl) ?_
                      refine lv_aload_n hx hb dL_law_316 rfl (lv_at hl 5 rfl) ?_
                      refine lv_iload hx hb dL_law_317 (lv_at hl 1 rfl) ?_
                      refine lv_iconst (v := 1) hx hb dL_law_319 (by decide) ?_
                      refine xiadd (v := 1) S dL_law_320 (by decide) ?_
                      refine xsld (v := 0) S hX hbl hbA hS (vin rfl) h1 dL_law_321 ?_
                      refine lv_aload_n hx hb dL_law_322 rfl (lv_at hl 5 rfl) ?_
                      refine lv_iload hx hb dL_law_323 (lv_at hl 1 rfl) ?_
                      refine lv_iconst (v := 2) hx hb dL_law_325 (by decide) ?_
                      refine xiadd (v := 2) S dL_law_326 (by decide) ?_
                      refine xsld (v := x2) S hX hbl hbA hS (vin rfl) h2 dL_law_327 ?_
                      refine lv_aload_n hx hb dL_law_328 rfl (lv_at hl 5 rfl) ?_
                      refine lv_iload hx hb dL_law_329 (lv_at hl 1 rfl) ?_
                      refine lv_iconst (v := 3) hx hb dL_law_331 (by decide) ?_
                      refine xiadd (v := 3) S dL_law_332 (by decide) ?_
                      refine xsld (v := 1) S hX hbl hbA hS (vin rfl) h3 dL_law_333 ?_
                      refine lv_aload_n hx hb dL_law_334 rfl (lv_at hl 5 rfl) ?_
                      refine lv_iload hx hb dL_law_335 (lv_at hl 1 rfl) ?_
                      refine lv_iconst (v := 4) hx hb dL_law_337 (by decide) ?_
                      refine xiadd (v := 4) S dL_law_338 (by decide) ?_
                      refine xsld (v := x4) S hX hbl hbA hS (vin rfl) h4 dL_law_339 ?_
                      refine fVi [] (((((((((xW o u cI cZ cJ).set 5 ((u 4), .inl (cI, 10, .inl (upd (fun _ => 0) (0 : Int32).toNatClampNeg 1)))).set 6 ((u 5), .inl (cI, 10, .inl (upd (fun _ => 0) (0 : Int32).toNatClampNeg 1)))).set 8 ((u 7), .inl (cI, 160, .inl (upd (fun _ => (-1)) (x2 : Int32).toNatClampNeg 7)))).set 9 ((u 8), .inl (cI, 160, .inl (upd (upd (fun _ => 0) (x2 : Int32).toNatClampNeg (-1)) (x2 : Int32).toNatClampNeg 0)))).set 10 ((u 9), .inl (cI, 160, .inl (upd (fun _ => 0) (x2 : Int32).toNatClampNeg x4)))).set 11 ((u 10), .inl (cI, 100, .inl (upd (fun _ => 0) (0 : Int32).toNatClampNeg 7)))).set 12 ((u 11), .inl (cI, 100, .inl (upd (fun _ => 0) (0 : Int32).toNatClampNeg x4)))) ++ [(ao, .inl (cJ, 1, .inr (.inl (vp_updL (fun _ => 0) (0 : Int32).toNatClampNeg 0))))]) (mid := (mW om 0 q cI cZ)) (As := [.int 0, .int x2, .int 1, .int x4]) (ci := 9) S (c_X9_variable_10 l D cI cZ cJ om q H.size x2 x4 lo_x2 hi_x2 lo_x4 hi_x4) mi_X9_variable kw_7_123 rfl rfl ⟨Nat.le_of_ble_eq_true rfl, Nat.le_of_ble_eq_true rfl⟩ hP hD hK hS hA mW_0 rfl rfl hl.1 (Nat.le_of_ble_eq_true rfl) ⟨Nat.le_of_ble_eq_true rfl, Nat.le_of_ble_eq_true rfl⟩ dL_law_340 (fun H locs hz hP hD hS => ?_)
                      have hP : va_P D vwCl (((((((((mW om 0 q cI cZ).set 4 ((q 3), .inl (cI, 10, .inl (upd (fun _ => 0) (0 : Int32).toNatClampNeg 1)))).set 5 ((q 4), .inl (cI, 10, .inl (upd (fun _ => 0) (0 : Int32).toNatClampNeg 1)))).set 7 ((q 6), .inl (cI, 160, .inl (upd (fun _ => -1) (x2 : Int32).toNatClampNeg 7)))).set 8 ((q 7), .inl (cI, 160, .inl (upd (fun _ => 0) (x2 : Int32).toNatClampNeg 0)))).set 9 ((q 8), .inl (cI, 160, .inl (upd (fun _ => 0) (x2 : Int32).toNatClampNeg x4)))).set 10 ((q 9), .inl (cI, 100, .inl (upd (fun _ => 0) (0 : Int32).toNatClampNeg 7)))).set 11 ((q 10), .inl (cI, 100, .inl (upd (fun _ => 0) (0 : Int32).toNatClampNeg x4)))) ++ (((((((((xW o u cI cZ cJ).set 5 ((u 4), .inl (cI, 10, .inl (upd (fun _ => 0) (0 : Int32).toNatClampNeg 1)))).set 6 ((u 5), .inl (cI, 10, .inl (upd (fun _ => 0) (0 : Int32).toNatClampNeg 1)))).set 8 ((u 7), .inl (cI, 160, .inl (upd (fun _ => (-1)) (x2 : Int32).toNatClampNeg 7)))).set 9 ((u 8), .inl (cI, 160, .inl (upd (upd (fun _ => 0) (x2 : Int32).toNatClampNeg (-1)) (x2 : Int32).toNatClampNeg 0)))).set 10 ((u 9), .inl (cI, 160, .inl (upd (fun _ => 0) (x2 : Int32).toNatClampNeg x4)))).set 11 ((u 10), .inl (cI, 100, .inl (upd (fun _ => 0) (0 : Int32).toNatClampNeg 7)))).set 12 ((u 11), .inl (cI, 100, .inl (upd (fun _ => 0) (0 : Int32).toNatClampNeg x4)))) ++ [(ao, .inl (cJ, 1, .inr (.inl (vp_updL (fun _ => 0) (0 : Int32).toNatClampNeg 0))))])) H := hP
                      have hD : va_D A (((((((((mW om 0 q cI cZ).set 4 ((q 3), .inl (cI, 10, .inl (upd (fun _ => 0) (0 : Int32).toNatClampNeg 1)))).set 5 ((q 4), .inl (cI, 10, .inl (upd (fun _ => 0) (0 : Int32).toNatClampNeg 1)))).set 7 ((q 6), .inl (cI, 160, .inl (upd (fun _ => -1) (x2 : Int32).toNatClampNeg 7)))).set 8 ((q 7), .inl (cI, 160, .inl (upd (fun _ => 0) (x2 : Int32).toNatClampNeg 0)))).set 9 ((q 8), .inl (cI, 160, .inl (upd (fun _ => 0) (x2 : Int32).toNatClampNeg x4)))).set 10 ((q 9), .inl (cI, 100, .inl (upd (fun _ => 0) (0 : Int32).toNatClampNeg 7)))).set 11 ((q 10), .inl (cI, 100, .inl (upd (fun _ => 0) (0 : Int32).toNatClampNeg x4)))) ++ (((((((((xW o u cI cZ cJ).set 5 ((u 4), .inl (cI, 10, .inl (upd (fun _ => 0) (0 : Int32).toNatClampNeg 1)))).set 6 ((u 5), .inl (cI, 10, .inl (upd (fun _ => 0) (0 : Int32).toNatClampNeg 1)))).set 8 ((u 7), .inl (cI, 160, .inl (upd (fun _ => (-1)) (x2 : Int32).toNatClampNeg 7)))).set 9 ((u 8), .inl (cI, 160, .inl (upd (upd (fun _ => 0) (x2 : Int32).toNatClampNeg (-1)) (x2 : Int32).toNatClampNeg 0)))).set 10 ((u 9), .inl (cI, 160, .inl (upd (fun _ => 0) (x2 : Int32).toNatClampNeg x4)))).set 11 ((u 10), .inl (cI, 100, .inl (upd (fun _ => 0) (0 : Int32).toNatClampNeg 7)))).set 12 ((u 11), .inl (cI, 100, .inl (upd (fun _ => 0) (0 : Int32).toNatClampNeg x4)))) ++ [(ao, .inl (cJ, 1, .inr (.inl (vp_updL (fun _ => 0) (0 : Int32).toNatClampNeg 0))))])) := hD
                      refine lv_istore (lv' := [(6, .int 0), (5, .int 0), (4, .int 0), (3, .ref ao), (2, .ref om), (1, .ref o), (0, .ref b)]) hx hb dL_law_343 hl (by decide) rfl (fun ls hl => ?_)
                      refine lv_aload_n hx hb dL_law_345 rfl (lv_at hl 4 rfl) ?_
                      refine rdV (As := []) (ci := 9) S (c_X9_thrown_5 l D cI cZ cJ om q x2 x4 lo_x2 hi_x2 lo_x4 hi_x4) mi_X9_thrown kw_7_89 ⟨rfl, rfl⟩ ⟨Nat.le_of_ble_eq_true rfl, Nat.le_of_ble_eq_true rfl⟩ (va_Pl (ws := ((((((((mW om 0 q cI cZ).set 4 ((q 3), .inl (cI, 10, .inl (upd (fun _ => 0) (0 : Int32).toNatClampNeg 1)))).set 5 ((q 4), .inl (cI, 10, .inl (upd (fun _ => 0) (0 : Int32).toNatClampNeg 1)))).set 7 ((q 6), .inl (cI, 160, .inl (upd (fun _ => -1) (x2 : Int32).toNatClampNeg 7)))).set 8 ((q 7), .inl (cI, 160, .inl (upd (fun _ => 0) (x2 : Int32).toNatClampNeg 0)))).set 9 ((q 8), .inl (cI, 160, .inl (upd (fun _ => 0) (x2 : Int32).toNatClampNeg x4)))).set 10 ((q 9), .inl (cI, 100, .inl (upd (fun _ => 0) (0 : Int32).toNatClampNeg 7)))).set 11 ((q 10), .inl (cI, 100, .inl (upd (fun _ => 0) (0 : Int32).toNatClampNeg x4))))) (x := (((((((((xW o u cI cZ cJ).set 5 ((u 4), .inl (cI, 10, .inl (upd (fun _ => 0) (0 : Int32).toNatClampNeg 1)))).set 6 ((u 5), .inl (cI, 10, .inl (upd (fun _ => 0) (0 : Int32).toNatClampNeg 1)))).set 8 ((u 7), .inl (cI, 160, .inl (upd (fun _ => (-1)) (x2 : Int32).toNatClampNeg 7)))).set 9 ((u 8), .inl (cI, 160, .inl (upd (upd (fun _ => 0) (x2 : Int32).toNatClampNeg (-1)) (x2 : Int32).toNatClampNeg 0)))).set 10 ((u 9), .inl (cI, 160, .inl (upd (fun _ => 0) (x2 : Int32).toNatClampNeg x4)))).set 11 ((u 10), .inl (cI, 100, .inl (upd (fun _ => 0) (0 : Int32).toNatClampNeg 7)))).set 12 ((u 11), .inl (cI, 100, .inl (upd (fun _ => 0) (0 : Int32).toNatClampNeg x4)))) ++ [(ao, .inl (cJ, 1, .inr (.inl (vp_updL (fun _ => 0) (0 : Int32).toNatClampNeg 0))))])) hP) hK (k := 0) rfl rfl rfl hl.1 (Nat.le_of_ble_eq_true rfl) ⟨Nat.le_of_ble_eq_true rfl, Nat.le_of_ble_eq_true rfl⟩ dL_law_346 ?_
                      refine lv_iload hx hb dL_law_349 (lv_at hl 1 rfl) ?_
                      refine lv_icmp_eq (tgt := 356) hx hb dL_law_351 (by decide) (fun _ => ?_) (fun c => absurd c (by decide))
                      refine lv_iload hx hb dL_law_356 (lv_at hl 1 rfl) ?_
                      refine lv_if_ne (tgt := 373) hx hb dL_law_358 (by decide) (fun c => absurd c (by decide)) (fun _ => ?_)
                      refine lv_aload_n hx hb dL_law_361 rfl (lv_at hl 3 rfl) ?_
                      refine lv_iconst (v := 0) hx hb dL_law_362 (by decide) ?_
                      refine xlald (t0 := 2) (v := 0) S hK hP (q0 := 119) rfl rfl (vin rfl) rfl dL_law_363 ?_
                      refine lv_iload hx hb dL_law_364 (lv_at hl 0 rfl) ?_
                      refine lv_i2l (v := 0) hx hb dL_law_366 (by decide) ?_
                      refine xlcmp (v := 0) S dL_law_367 (by decide) ?_
                      refine lv_if_eq (tgt := 373) hx hb dL_law_368 (by decide) (fun _ => ?_) (fun c => absurd c (by decide))
                      refine lv_goto (tgt := 1519) hx hb dL_law_373 (by decide) ?_
                      exact law_tail (C := 120) (Z := 12958) S hr hlocks hX hbl (lv_sub hl [2, 6] rfl) hS (Nat.le_of_ble_eq_true rfl) (Nat.le_of_ble_eq_true rfl)
                · have ne_x3_1 : ¬ x3 = 1 := d_310
                  have lo_x3 : 2 ≤ x3 := l_ne ne_x3_1 lo_x3 (by decide)
                  by_cases d_310 : x3 = 2
                  · have e_x3 : x3 = 2 := d_310
                    subst e_x3
                    by_cases d_310 : x4 = 0
                    · have e_x4 : x4 = 0 := d_310
                      subst e_x4
                      refine wrap (mW om 0 q cI cZ) (mid := ((xW o u cI cZ cJ) ++ [(ao, .inl (cJ, 1, .inr (.inl (fun _ => 0))))])) (As := [.ref o, .int 0, .int x2, .int 2, .int 0, .ref ao]) S (h_variable_11 l D cI cZ cJ o u ao hst ra ga H.size x2 lo_x2 hi_x2) msh_L_variable kw_5_229 rfl rfl ⟨Nat.le_of_ble_eq_true rfl, Nat.le_of_ble_eq_true rfl⟩ hP hD hK hS hA hB hC hl.1 (Nat.le_of_ble_eq_true rfl) ⟨Nat.le_of_ble_eq_true rfl, Nat.le_of_ble_eq_true rfl⟩ dL_law_310 (fun H locs hz hP hD hS => ?_)
                      have hP : va_P D vwCl ((mW om 0 q cI cZ) ++ (((((((((xW o u cI cZ cJ).set 5 ((u 4), .inl (cI, 10, .inl (upd (fun _ => 0) (0 : Int32).toNatClampNeg 1)))).set 6 ((u 5), .inl (cI, 10, .inl (upd (fun _ => 0) (0 : Int32).toNatClampNeg 1)))).set 8 ((u 7), .inl (cI, 160, .inl (upd (fun _ => (-1)) (x2 : Int32).toNatClampNeg 8)))).set 9 ((u 8), .inl (cI, 160, .inl (upd (upd (fun _ => 0) (x2 : Int32).toNatClampNeg (-1)) (x2 : Int32).toNatClampNeg 0)))).set 10 ((u 9), .inl (cI, 160, .inl (upd (fun _ => 0) (x2 : Int32).toNatClampNeg 0)))).set 11 ((u 10), .inl (cI, 100, .inl (upd (fun _ => 0) (0 : Int32).toNatClampNeg 8)))).set 12 ((u 11), .inl (cI, 100, .inl (upd (fun _ => 0) (0 : Int32).toNatClampNeg 0)))) ++ [(ao, .inl (cJ, 1, .inr (.inl (vp_updL (fun _ => 0) (0 : Int32).toNatClampNeg 0))))])) H := hP
                      have hD : va_D A ((mW om 0 q cI cZ) ++ (((((((((xW o u cI cZ cJ).set 5 ((u 4), .inl (cI, 10, .inl (upd (fun _ => 0) (0 : Int32).toNatClampNeg 1)))).set 6 ((u 5), .inl (cI, 10, .inl (upd (fun _ => 0) (0 : Int32).toNatClampNeg 1)))).set 8 ((u 7), .inl (cI, 160, .inl (upd (fun _ => (-1)) (x2 : Int32).toNatClampNeg 8)))).set 9 ((u 8), .inl (cI, 160, .inl (upd (upd (fun _ => 0) (x2 : Int32).toNatClampNeg (-1)) (x2 : Int32).toNatClampNeg 0)))).set 10 ((u 9), .inl (cI, 160, .inl (upd (fun _ => 0) (x2 : Int32).toNatClampNeg 0)))).set 11 ((u 10), .inl (cI, 100, .inl (upd (fun _ => 0) (0 : Int32).toNatClampNeg 8)))).set 12 ((u 11), .inl (cI, 100, .inl (upd (fun _ => 0) (0 : Int32).toNatClampNeg 0)))) ++ [(ao, .inl (cJ, 1, .inr (.inl (vp_updL (fun _ => 0) (0 : Int32).toNatClampNeg 0))))])) := hD
                      refine lv_istore (lv' := [(5, .int 0), (4, .int 0), (3, .ref ao), (2, .ref om), (1, .ref o), (0, .ref b)]) hx hb dL_law_313 hl (by decide) rfl (fun ls hl => ?_)
                      refine lv_aload_n hx hb dL_law_315 rfl (lv_at hl 3 rfl) ?_
                      refine lv_aload_n hx hb dL_law_316 rfl (lv_at hl 5 rfl) ?_
                      refine lv_iload hx hb dL_law_317 (lv_at hl 1 rfl) ?_
                      refine lv_iconst (v := 1) hx hb dL_law_319 (by decide) ?_
                      refine xiadd (v := 1) S dL_law_320 (by decide) ?_
                      refine xsld (v := 0) S hX hbl hbA hS (vin rfl) h1 dL_law_321 ?_
                      refine lv_aload_n hx hb dL_law_322 rfl (lv_at hl 5 rfl) ?_
                      refine lv_iload hx hb dL_law_323 (lv_at hl 1 rfl) ?_
                      refine lv_iconst (v := 2) hx hb dL_law_325 (by decide) ?_
                      refine xiadd (v := 2) S dL_law_326 (by decide) ?_
                      refine xsld (v := x2) S hX hbl hbA hS (vin rfl) h2 dL_law_327 ?_
                      refine lv_aload_n hx hb dL_law_328 rfl (lv_at hl 5 rfl) ?_
                      refine lv_iload hx hb dL_law_329 (lv_at hl 1 rfl) ?_
                      refine lv_iconst (v := 3) hx hb dL_law_331 (by decide) ?_
                      refine xiadd (v := 3) S dL_law_332 (by decide) ?_
                      refine xsld (v := 2) S hX hbl hbA hS (vin rfl) h3 dL_law_333 ?_
                      refine lv_aload_n hx hb dL_law_334 rfl (lv_at hl 5 rfl) ?_
                      refine lv_iload hx hb dL_law_335 (lv_at hl 1 rfl) ?_
                      refine lv_iconst (v := 4) hx hb dL_law_337 (by decide) ?_
                      refine xiadd (v := 4) S dL_law_338 (by decide) ?_
                      refine xsld (v := 0) S hX hbl hbA hS (vin rfl) h4 dL_law_339 ?_
                      refine fVi [] (((((((((xW o u cI cZ cJ).set 5 ((u 4), .inl (cI, 10, .inl (upd (fun _ => 0) (0 : Int32).toNatClampNeg 1)))).set 6 ((u 5), .inl (cI, 10, .inl (upd (fun _ => 0) (0 : Int32).toNatClampNeg 1)))).set 8 ((u 7), .inl (cI, 160, .inl (upd (fun _ => (-1)) (x2 : Int32).toNatClampNeg 8)))).set 9 ((u 8), .inl (cI, 160, .inl (upd (upd (fun _ => 0) (x2 : Int32).toNatClampNeg (-1)) (x2 : Int32).toNatClampNeg 0)))).set 10 ((u 9), .inl (cI, 160, .inl (upd (fun _ => 0) (x2 : Int32).toNatClampNeg 0)))).set 11 ((u 10), .inl (cI, 100, .inl (upd (fun _ => 0) (0 : Int32).toNatClampNeg 8)))).set 12 ((u 11), .inl (cI, 100, .inl (upd (fun _ => 0) (0 : Int32).toNatClampNeg 0)))) ++ [(ao, .inl (cJ, 1, .inr (.inl (vp_updL (fun _ => 0) (0 : Int32).toNatClampNeg 0))))]) (mid := (mW om 0 q cI cZ)) (As := [.int 0, .int x2, .int 2, .int 0]) (ci := 9) S (c_X9_variable_11 l D cI cZ cJ om q H.size x2 lo_x2 hi_x2) mi_X9_variable kw_7_123 rfl rfl ⟨Nat.le_of_ble_eq_true rfl, Nat.le_of_ble_eq_true rfl⟩ hP hD hK hS hA mW_0 rfl rfl hl.1 (Nat.le_of_ble_eq_true rfl) ⟨Nat.le_of_ble_eq_true rfl, Nat.le_of_ble_eq_true rfl⟩ dL_law_340 (fun H locs hz hP hD hS => ?_)
                      have hP : va_P D vwCl (((((((((mW om 0 q cI cZ).set 4 ((q 3), .inl (cI, 10, .inl (upd (fun _ => 0) (0 : Int32).toNatClampNeg 1)))).set 5 ((q 4), .inl (cI, 10, .inl (upd (fun _ => 0) (0 : Int32).toNatClampNeg 1)))).set 7 ((q 6), .inl (cI, 160, .inl (upd (fun _ => -1) (x2 : Int32).toNatClampNeg 8)))).set 8 ((q 7), .inl (cI, 160, .inl (upd (fun _ => 0) (x2 : Int32).toNatClampNeg 0)))).set 9 ((q 8), .inl (cI, 160, .inl (upd (fun _ => 0) (x2 : Int32).toNatClampNeg 0)))).set 10 ((q 9), .inl (cI, 100, .inl (upd (fun _ => 0) (0 : Int32).toNatClampNeg 8)))).set 11 ((q 10), .inl (cI, 100, .inl (upd (fun _ => 0) (0 : Int32).toNatClampNeg 0)))) ++ (((((((((xW o u cI cZ cJ).set 5 ((u 4), .inl (cI, 10, .inl (upd (fun _ => 0) (0 : Int32).toNatClampNeg 1)))).set 6 ((u 5), .inl (cI, 10, .inl (upd (fun _ => 0) (0 : Int32).toNatClampNeg 1)))).set 8 ((u 7), .inl (cI, 160, .inl (upd (fun _ => (-1)) (x2 : Int32).toNatClampNeg 8)))).set 9 ((u 8), .inl (cI, 160, .inl (upd (upd (fun _ => 0) (x2 : Int32).toNatClampNeg (-1)) (x2 : Int32).toNatClampNeg 0)))).set 10 ((u 9), .inl (cI, 160, .inl (upd (fun _ => 0) (x2 : Int32).toNatClampNeg 0)))).set 11 ((u 10), .inl (cI, 100, .inl (upd (fun _ => 0) (0 : Int32).toNatClampNeg 8)))).set 12 ((u 11), .inl (cI, 100, .inl (upd (fun _ => 0) (0 : Int32).toNatClampNeg 0)))) ++ [(ao, .inl (cJ, 1, .inr (.inl (vp_updL (fun _ => 0) (0 : Int32).toNatClampNeg 0))))])) H := hP
                      have hD : va_D A (((((((((mW om 0 q cI cZ).set 4 ((q 3), .inl (cI, 10, .inl (upd (fun _ => 0) (0 : Int32).toNatClampNeg 1)))).set 5 ((q 4), .inl (cI, 10, .inl (upd (fun _ => 0) (0 : Int32).toNatClampNeg 1)))).set 7 ((q 6), .inl (cI, 160, .inl (upd (fun _ => -1) (x2 : Int32).toNatClampNeg 8)))).set 8 ((q 7), .inl (cI, 160, .inl (upd (fun _ => 0) (x2 : Int32).toNatClampNeg 0)))).set 9 ((q 8), .inl (cI, 160, .inl (upd (fun _ => 0) (x2 : Int32).toNatClampNeg 0)))).set 10 ((q 9), .inl (cI, 100, .inl (upd (fun _ => 0) (0 : Int32).toNatClampNeg 8)))).set 11 ((q 10), .inl (cI, 100, .inl (upd (fun _ => 0) (0 : Int32).toNatClampNeg 0)))) ++ (((((((((xW o u cI cZ cJ).set 5 ((u 4), .inl (cI, 10, .inl (upd (fun _ => 0) (0 : Int32).toNatClampNeg 1)))).set 6 ((u 5), .inl (cI, 10, .inl (upd (fun _ => 0) (0 : Int32).toNatClampNeg 1)))).set 8 ((u 7), .inl (cI, 160, .inl (upd (fun _ => (-1)) (x2 : Int32).toNatClampNeg 8)))).set 9 ((u 8), .inl (cI, 160, .inl (upd (upd (fun _ => 0) (x2 : Int32).toNatClampNeg (-1)) (x2 : Int32).toNatClampNeg 0)))).set 10 ((u 9), .inl (cI, 160, .inl (upd (fun _ => 0) (x2 : Int32).toNatClampNeg 0)))).set 11 ((u 10), .inl (cI, 100, .inl (upd (fun _ => 0) (0 : Int32).toNatClampNeg 8)))).set 12 ((u 11), .inl (cI, 100, .inl (upd (fun _ => 0) (0 : Int32).toNatClampNeg 0)))) ++ [(ao, .inl (cJ, 1, .inr (.inl (vp_updL (fun _ => 0) (0 : Int32).toNatClampNeg 0))))])) := hD
                      refine lv_istore (lv' := [(6, .int 0), (5, .int 0), (4, .int 0), (3, .ref ao), (2, .ref om), (1, .ref o), (0, .ref b)]) hx hb dL_law_343 hl (by decide) rfl (fun ls hl => ?_)
                      refine lv_aload_n hx hb dL_law_345 rfl (lv_at hl 4 rfl) ?_
                      refine rdV (As := []) (ci := 9) S (c_X9_thrown_6 l D cI cZ cJ om q x2 lo_x2 hi_x2) mi_X9_thrown kw_7_89 ⟨rfl, rfl⟩ ⟨Nat.le_of_ble_eq_true rfl, Nat.le_of_ble_eq_true rfl⟩ (va_Pl (ws := ((((((((mW om 0 q cI cZ).set 4 ((q 3), .inl (cI, 10, .inl (upd (fun _ => 0) (0 : Int32).toNatClampNeg 1)))).set 5 ((q 4), .inl (cI, 10, .inl (upd (fun _ => 0) (0 : Int32).toNatClampNeg 1)))).set 7 ((q 6), .inl (cI, 160, .inl (upd (fun _ => -1) (x2 : Int32).toNatClampNeg 8)))).set 8 ((q 7), .inl (cI, 160, .inl (upd (fun _ => 0) (x2 : Int32).toNatClampNeg 0)))).set 9 ((q 8), .inl (cI, 160, .inl (upd (fun _ => 0) (x2 : Int32).toNatClampNeg 0)))).set 10 ((q 9), .inl (cI, 100, .inl (upd (fun _ => 0) (0 : Int32).toNatClampNeg 8)))).set 11 ((q 10), .inl (cI, 100, .inl (upd (fun _ => 0) (0 : Int32).toNatClampNeg 0))))) (x := (((((((((xW o u cI cZ cJ).set 5 ((u 4), .inl (cI, 10, .inl (upd (fun _ => 0) (0 : Int32).toNatClampNeg 1)))).set 6 ((u 5), .inl (cI, 10, .inl (upd (fun _ => 0) (0 : Int32).toNatClampNeg 1)))).set 8 ((u 7), .inl (cI, 160, .inl (upd (fun _ => (-1)) (x2 : Int32).toNatClampNeg 8)))).set 9 ((u 8), .inl (cI, 160, .inl (upd (upd (fun _ => 0) (x2 : Int32).toNatClampNeg (-1)) (x2 : Int32).toNatClampNeg 0)))).set 10 ((u 9), .inl (cI, 160, .inl (upd (fun _ => 0) (x2 : Int32).toNatClampNeg 0)))).set 11 ((u 10), .inl (cI, 100, .inl (upd (fun _ => 0) (0 : Int32).toNatClampNeg 8)))).set 12 ((u 11), .inl (cI, 100, .inl (upd (fun _ => 0) (0 : Int32).toNatClampNeg 0)))) ++ [(ao, .inl (cJ, 1, .inr (.inl (vp_updL (fun _ => 0) (0 : Int32).toNatClampNeg 0))))])) hP) hK (k := 0) rfl rfl rfl hl.1 (Nat.le_of_ble_eq_true rfl) ⟨Nat.le_of_ble_eq_true rfl, Nat.le_of_ble_eq_true rfl⟩ dL_law_346 ?_
                      refine lv_iload hx hb dL_law_349 (lv_at hl 1 rfl) ?_
                      refine lv_icmp_eq (tgt := 356) hx hb dL_law_351 (by decide) (fun _ => ?_) (fun c => absurd c (by decide))
                      refine lv_iload hx hb dL_law_356 (lv_at hl 1 rfl) ?_
                      refine lv_if_ne (tgt := 373) hx hb dL_law_358 (by decide) (fun c => absurd c (by decide)) (fun _ => ?_)
                      refine lv_aload_n hx hb dL_law_361 rfl (lv_at hl 3 rfl) ?_
                      refine lv_iconst (v := 0) hx hb dL_law_362 (by decide) ?_
                      refine xlald (t0 := 2) (v := 0) S hK hP (q0 := 119) rfl rfl (vin rfl) rfl dL_law_363 ?_
                      refine lv_iload hx hb dL_law_364 (lv_at hl 0 rfl) ?_
                      refine lv_i2l (v := 0) hx hb dL_law_366 (by decide) ?_
                      refine xlcmp (v := 0) S dL_law_367 (by decide) ?_
                      refine lv_if_eq (tgt := 373) hx hb dL_law_368 (by decide) (fun _ => ?_) (fun c => absurd c (by decide))
                      refine lv_goto (tgt := 1519) hx hb dL_law_373 (by decide) ?_
                      exact law_tail (C := 120) (Z := 12958) S hr hlocks hX hbl (lv_sub hl [2, 6] rfl) hS (Nat.le_of_ble_eq_true rfl) (Nat.le_of_ble_eq_true rfl)
                    · have ne_x4_0 : ¬ x4 = 0 := d_310
                      refine wrap (mW om 0 q cI cZ) (mid := ((xW o u cI cZ cJ) ++ [(ao, .inl (cJ, 1, .inr (.inl (fun _ => 0))))])) (As := [.ref o, .int 0, .int x2, .int 2, .int x4, .ref ao]) S (h_variable_12 l D cI cZ cJ o u ao hst ra ga H.size x2 x4 lo_x2 hi_x2 ne_x4_0) msh_L_variable kw_5_229 rfl rfl ⟨Nat.le_of_ble_eq_true rfl, Nat.le_of_ble_eq_true rfl⟩ hP hD hK hS hA hB hC hl.1 (Nat.le_of_ble_eq_true rfl) ⟨Nat.le_of_ble_eq_true rfl, Nat.le_of_ble_eq_true rfl⟩ dL_law_310 (fun H locs hz hP hD hS => ?_)
                      have hP : va_P D vwCl ((mW om 0 q cI cZ) ++ ((xW o u cI cZ cJ) ++ [(ao, .inl (cJ, 1, .inr (.inl (fun _ => 0))))])) H := hP
                      have hD : va_D A ((mW om 0 q cI cZ) ++ ((xW o u cI cZ cJ) ++ [(ao, .inl (cJ, 1, .inr (.inl (fun _ => 0))))])) := hD
                      refine lv_istore (lv' := [(5, .int 2), (4, .int 0), (3, .ref ao), (2, .ref om), (1, .ref o), (0, .ref b)]) hx hb dL_law_313 hl (by decide) rfl (fun ls hl => ?_)
                      refine lv_aload_n hx hb dL_law_315 rfl (lv_at hl 3 rfl) ?_
                      refine lv_aload_n hx hb dL_law_316 rfl (lv_at hl 5 rfl) ?_
                      refine lv_iload hx hb dL_law_317 (lv_at hl 1 rfl) ?_
                      refine lv_iconst (v := 1) hx hb dL_law_319 (by decide) ?_
                      refine xiadd (v := 1) S dL_law_320 (by decide) ?_
                      refine xsld (v := 0) S hX hbl hbA hS (vin rfl) h1 dL_law_321 ?_
                      refine lv_aload_n hx hb dL_law_322 rfl (lv_at hl 5 rfl) ?_
                      refine lv_iload hx hb dL_law_323 (lv_at hl 1 rfl) ?_
                      refine lv_iconst (v := 2) hx hb dL_law_325 (by decide) ?_
                      refine xiadd (v := 2) S dL_law_326 (by decide) ?_
                      refine xsld (v := x2) S hX hbl hbA hS (vin rfl) h2 dL_law_327 ?_
                      refine lv_aload_n hx hb dL_law_328 rfl (lv_at hl 5 rfl) ?_
                      refine lv_iload hx hb dL_law_329 (lv_at hl 1 rfl) ?_
                      refine lv_iconst (v := 3) hx hb dL_law_331 (by decide) ?_
                      refine xiadd (v := 3) S dL_law_332 (by decide) ?_
                      refine xsld (v := 2) S hX hbl hbA hS (vin rfl) h3 dL_law_333 ?_
                      refine lv_aload_n hx hb dL_law_334 rfl (lv_at hl 5 rfl) ?_
                      refine lv_iload hx hb dL_law_335 (lv_at hl 1 rfl) ?_
                      refine lv_iconst (v := 4) hx hb dL_law_337 (by decide) ?_
                      refine xiadd (v := 4) S dL_law_338 (by decide) ?_
                      refine xsld (v := x4) S hX hbl hbA hS (vin rfl) h4 dL_law_339 ?_
                      refine fVi [] ((xW o u cI cZ cJ) ++ [(ao, .inl (cJ, 1, .inr (.inl (fun _ => 0))))]) (mid := (mW om 0 q cI cZ)) (As := [.int 0, .int x2, .int 2, .int x4]) (ci := 9) S (c_X9_variable_12 l D cI cZ cJ om q H.size x2 x4 lo_x2 hi_x2 ne_x4_0) mi_X9_variable kw_7_123 rfl rfl ⟨Nat.le_of_ble_eq_true rfl, Nat.le_of_ble_eq_true rfl⟩ hP hD hK hS hA mW_0 rfl rfl hl.1 (Nat.le_of_ble_eq_true rfl) ⟨Nat.le_of_ble_eq_true rfl, Nat.le_of_ble_eq_true rfl⟩ dL_law_340 (fun H locs hz hP hD hS => ?_)
                      have hP : va_P D vwCl ((mW om 2 q cI cZ) ++ ((xW o u cI cZ cJ) ++ [(ao, .inl (cJ, 1, .inr (.inl (fun _ => 0))))])) H := hP
                      have hD : va_D A ((mW om 2 q cI cZ) ++ ((xW o u cI cZ cJ) ++ [(ao, .inl (cJ, 1, .inr (.inl (fun _ => 0))))])) := hD
                      refine lv_istore (lv' := [(6, .int 0), (5, .int 2), (4, .int 0), (3, .ref ao), (2, .ref om), (1, .ref o), (0, .ref b)]) hx hb dL_law_343 hl (by decide) rfl (fun ls hl => ?_)
                      refine lv_aload_n hx hb dL_law_345 rfl (lv_at hl 4 rfl) ?_
                      refine rdV (As := []) (ci := 9) S (c_X9_thrown_1 l D cI cZ cJ om q) mi_X9_thrown kw_7_89 ⟨rfl, rfl⟩ ⟨Nat.le_of_ble_eq_true rfl, Nat.le_of_ble_eq_true rfl⟩ (va_Pl (ws := (mW om 2 q cI cZ)) (x := ((xW o u cI cZ cJ) ++ [(ao, .inl (cJ, 1, .inr (.inl (fun _ => 0))))])) hP) hK mW_0 rfl rfl hl.1 (Nat.le_of_ble_eq_true rfl) ⟨Nat.le_of_ble_eq_true rfl, Nat.le_of_ble_eq_true rfl⟩ dL_law_346 ?_
                      refine lv_iload hx hb dL_law_349 (lv_at hl 1 rfl) ?_
                      refine lv_icmp_eq (tgt := 356) hx hb dL_law_351 (by decide) (fun _ => ?_) (fun c => absurd c (by decide))
                      refine lv_iload hx hb dL_law_356 (lv_at hl 1 rfl) ?_
                      refine lv_if_ne (tgt := 373) hx hb dL_law_358 (by decide) (fun _ => ?_) (fun c => absurd c (by decide))
                      refine lv_goto (tgt := 1519) hx hb dL_law_373 (by decide) ?_
                      exact law_tail (C := 121) (Z := 12964) S hr hlocks hX hbl (lv_sub hl [2, 6] rfl) hS (Nat.le_of_ble_eq_true rfl) (Nat.le_of_ble_eq_true rfl)
                  · have ne_x3_2 : ¬ x3 = 2 := d_310
                    have lo_x3 : 3 ≤ x3 := l_ne ne_x3_2 lo_x3 (by decide)
                    have e_x3 : x3 = 3 := b_eq lo_x3 hi_x3
                    subst e_x3
                    by_cases d_310 : x4 < (-99)
                    · have hi_x4 : x4 ≤ (-100) := u_lt d_310 (by decide)
                      refine wrap (mW om 0 q cI cZ) (mid := ((xW o u cI cZ cJ) ++ [(ao, .inl (cJ, 1, .inr (.inl (fun _ => 0))))])) (As := [.ref o, .int 0, .int x2, .int 3, .int x4, .ref ao]) S (h_variable_13 l D cI cZ cJ o u ao hst ra ga H.size x2 x4 lo_x2 hi_x2 hi_x4) msh_L_variable kw_5_229 rfl rfl ⟨Nat.le_of_ble_eq_true rfl, Nat.le_of_ble_eq_true rfl⟩ hP hD hK hS hA hB hC hl.1 (Nat.le_of_ble_eq_true rfl) ⟨Nat.le_of_ble_eq_true rfl, Nat.le_of_ble_eq_true rfl⟩ dL_law_310 (fun H locs hz hP hD hS => ?_)
                      have hP : va_P D vwCl ((mW om 0 q cI cZ) ++ ((xW o u cI cZ cJ) ++ [(ao, .inl (cJ, 1, .inr (.inl (fun _ => 0))))])) H := hP
                      have hD : va_D A ((mW om 0 q cI cZ) ++ ((xW o u cI cZ cJ) ++ [(ao, .inl (cJ, 1, .inr (.inl (fun _ => 0))))])) := hD
                      refine lv_istore (lv' := [(5, .int 2), (4, .int 0), (3, .ref ao), (2, .ref om), (1, .ref o), (0, .ref b)]) hx hb dL_law_313 hl (by decide) rfl (fun ls hl => ?_)
                      refine lv_aload_n hx hb dL_law_315 rfl (lv_at hl 3 rfl) ?_
                      refine lv_aload_n hx hb dL_law_316 rfl (lv_at hl 5 rfl) ?_
                      refine lv_iload hx hb dL_law_317 (lv_at hl 1 rfl) ?_
                      refine lv_iconst (v := 1) hx hb dL_law_319 (by decide) ?_
                      refine xiadd (v := 1) S dL_law_320 (by decide) ?_
                      refine xsld (v := 0) S hX hbl hbA hS (vin rfl) h1 dL_law_321 ?_
                      refine lv_aload_n hx hb dL_law_322 rfl (lv_at hl 5 rfl) ?_
                      refine lv_iload hx hb dL_law_323 (lv_at hl 1 rfl) ?_
                      refine lv_iconst (v := 2) hx hb dL_law_325 (by decide) ?_
                      refine xiadd (v := 2) S dL_law_326 (by decide) ?_
                      refine xsld (v := x2) S hX hbl hbA hS (vin rfl) h2 dL_law_327 ?_
                      refine lv_aload_n hx hb dL_law_328 rfl (lv_at hl 5 rfl) ?_
                      refine lv_iload hx hb dL_law_329 (lv_at hl 1 rfl) ?_
                      refine lv_iconst (v := 3) hx hb dL_law_331 (by decide) ?_
                      refine xiadd (v := 3) S dL_law_332 (by decide) ?_
                      refine xsld (v := 3) S hX hbl hbA hS (vin rfl) h3 dL_law_333 ?_
                      refine lv_aload_n hx hb dL_law_334 rfl (lv_at hl 5 rfl) ?_
                      refine lv_iload hx hb dL_law_335 (lv_at hl 1 rfl) ?_
                      refine lv_iconst (v := 4) hx hb dL_law_337 (by decide) ?_
                      refine xiadd (v := 4) S dL_law_338 (by decide) ?_
                      refine xsld (v := x4) S hX hbl hbA hS (vin rfl) h4 dL_law_339 ?_
                      refine fVi [] ((xW o u cI cZ cJ) ++ [(ao, .inl (cJ, 1, .inr (.inl (fun _ => 0))))]) (mid := (mW om 0 q cI cZ)) (As := [.int 0, .int x2, .int 3, .int x4]) (ci := 9) S (c_X9_variable_13 l D cI cZ cJ om q H.size x2 x4 lo_x2 hi_x2 hi_x4) mi_X9_variable kw_7_123 rfl rfl ⟨Nat.le_of_ble_eq_true rfl, Nat.le_of_ble_eq_true rfl⟩ hP hD hK hS hA mW_0 rfl rfl hl.1 (Nat.le_of_ble_eq_true rfl) ⟨Nat.le_of_ble_eq_true rfl, Nat.le_of_ble_eq_true rfl⟩ dL_law_340 (fun H locs hz hP hD hS => ?_)
                      have hP : va_P D vwCl ((mW om 2 q cI cZ) ++ ((xW o u cI cZ cJ) ++ [(ao, .inl (cJ, 1, .inr (.inl (fun _ => 0))))])) H := hP
                      have hD : va_D A ((mW om 2 q cI cZ) ++ ((xW o u cI cZ cJ) ++ [(ao, .inl (cJ, 1, .inr (.inl (fun _ => 0))))])) := hD
                      refine lv_istore (lv' := [(6, .int 0), (5, .int 2), (4, .int 0), (3, .ref ao), (2, .ref om), (1, .ref o), (0, .ref b)]) hx hb dL_law_343 hl (by decide) rfl (fun ls hl => ?_)
                      refine lv_aload_n hx hb dL_law_345 rfl (lv_at hl 4 rfl) ?_
                      refine rdV (As := []) (ci := 9) S (c_X9_thrown_1 l D cI cZ cJ om q) mi_X9_thrown kw_7_89 ⟨rfl, rfl⟩ ⟨Nat.le_of_ble_eq_true rfl, Nat.le_of_ble_eq_true rfl⟩ (va_Pl (ws := (mW om 2 q cI cZ)) (x := ((xW o u cI cZ cJ) ++ [(ao, .inl (cJ, 1, .inr (.inl (fun _ => 0))))])) hP) hK mW_0 rfl rfl hl.1 (Nat.le_of_ble_eq_true rfl) ⟨Nat.le_of_ble_eq_true rfl, Nat.le_of_ble_eq_true rfl⟩ dL_law_346 ?_
                      refine lv_iload hx hb dL_law_349 (lv_at hl 1 rfl) ?_
                      refine lv_icmp_eq (tgt := 356) hx hb dL_law_351 (by decide) (fun _ => ?_) (fun c => absurd c (by decide))
                      refine lv_iload hx hb dL_law_356 (lv_at hl 1 rfl) ?_
                      refine lv_if_ne (tgt := 373) hx hb dL_law_358 (by decide) (fun _ => ?_) (fun c => absurd c (by decide))
                      refine lv_goto (tgt := 1519) hx hb dL_law_373 (by decide) ?_
                      exact law_tail (C := 121) (Z := 12964) S hr hlocks hX hbl (lv_sub hl [2, 6] rfl) hS (Nat.le_of_ble_eq_true rfl) (Nat.le_of_ble_eq_true rfl)
                    · have lo_x4 : (-99) ≤ x4 := l_nlt d_310
                      by_cases d_310 : 99 < x4
                      · have lo_x4 : 100 ≤ x4 := l_gt d_310 (by decide)
                        refine wrap (mW om 0 q cI cZ) (mid := ((xW o u cI cZ cJ) ++ [(ao, .inl (cJ, 1, .inr (.inl (fun _ => 0))))])) (As := [.ref o, .int 0, .int x2, .int 3, .int x4, .ref ao]) S (h_variable_14 l D cI cZ cJ o u ao hst ra ga H.size x2 x4 lo_x2 hi_x2 lo_x4) msh_L_variable kw_5_229 rfl rfl ⟨Nat.le_of_ble_eq_true rfl, Nat.le_of_ble_eq_true rfl⟩ hP hD hK hS hA hB hC hl.1 (Nat.le_of_ble_eq_true rfl) ⟨Nat.le_of_ble_eq_true rfl, Nat.le_of_ble_eq_true rfl⟩ dL_law_310 (fun H locs hz hP hD hS => ?_)
                        have hP : va_P D vwCl ((mW om 0 q cI cZ) ++ ((xW o u cI cZ cJ) ++ [(ao, .inl (cJ, 1, .inr (.inl (fun _ => 0))))])) H := hP
                        have hD : va_D A ((mW om 0 q cI cZ) ++ ((xW o u cI cZ cJ) ++ [(ao, .inl (cJ, 1, .inr (.inl (fun _ => 0))))])) := hD
                        refine lv_istore (lv' := [(5, .int 2), (4, .int 0), (3, .ref ao), (2, .ref om), (1, .ref o), (0, .ref b)]) hx hb dL_law_313 hl (by decide) rfl (fun ls hl => ?_)
                        refine lv_aload_n hx hb dL_law_315 rfl (lv_at hl 3 rfl) ?_
                        refine lv_aload_n hx hb dL_law_316 rfl (lv_at hl 5 rfl) ?_
                        refine lv_iload hx hb dL_law_317 (lv_at hl 1 rfl) ?_
                        refine lv_iconst (v := 1) hx hb dL_law_319 (by decide) ?_
                        refine xiadd (v := 1) S dL_law_320 (by decide) ?_
                        refine xsld (v := 0) S hX hbl hbA hS (vin rfl) h1 dL_law_321 ?_
                        refine lv_aload_n hx hb dL_law_322 rfl (lv_at hl 5 rfl) ?_
                        refine lv_iload hx hb dL_law_323 (lv_at hl 1 rfl) ?_
                        refine lv_iconst (v := 2) hx hb dL_law_325 (by decide) ?_
                        refine xiadd (v := 2) S dL_law_326 (by decide) ?_
                        refine xsld (v := x2) S hX hbl hbA hS (vin rfl) h2 dL_law_327 ?_
                        refine lv_aload_n hx hb dL_law_328 rfl (lv_at hl 5 rfl) ?_
                        refine lv_iload hx hb dL_law_329 (lv_at hl 1 rfl) ?_
                        refine lv_iconst (v := 3) hx hb dL_law_331 (by decide) ?_
                        refine xiadd (v := 3) S dL_law_332 (by decide) ?_
                        refine xsld (v := 3) S hX hbl hbA hS (vin rfl) h3 dL_law_333 ?_
                        refine lv_aload_n hx hb dL_law_334 rfl (lv_at hl 5 rfl) ?_
                        refine lv_iload hx hb dL_law_335 (lv_at hl 1 rfl) ?_
                        refine lv_iconst (v := 4) hx hb dL_law_337 (by decide) ?_
                        refine xiadd (v := 4) S dL_law_338 (by decide) ?_
                        refine xsld (v := x4) S hX hbl hbA hS (vin rfl) h4 dL_law_339 ?_
                        refine fVi [] ((xW o u cI cZ cJ) ++ [(ao, .inl (cJ, 1, .inr (.inl (fun _ => 0))))]) (mid := (mW om 0 q cI cZ)) (As := [.int 0, .int x2, .int 3, .int x4]) (ci := 9) S (c_X9_variable_14 l D cI cZ cJ om q H.size x2 x4 lo_x2 hi_x2 lo_x4) mi_X9_variable kw_7_123 rfl rfl ⟨Nat.le_of_ble_eq_true rfl, Nat.le_of_ble_eq_true rfl⟩ hP hD hK hS hA mW_0 rfl rfl hl.1 (Nat.le_of_ble_eq_true rfl) ⟨Nat.le_of_ble_eq_true rfl, Nat.le_of_ble_eq_true rfl⟩ dL_law_340 (fun H locs hz hP hD hS => ?_)
                        have hP : va_P D vwCl ((mW om 2 q cI cZ) ++ ((xW o u cI cZ cJ) ++ [(ao, .inl (cJ, 1, .inr (.inl (fun _ => 0))))])) H := hP
                        have hD : va_D A ((mW om 2 q cI cZ) ++ ((xW o u cI cZ cJ) ++ [(ao, .inl (cJ, 1, .inr (.inl (fun _ => 0))))])) := hD
                        refine lv_istore (lv' := [(6, .int 0), (5, .int 2), (4, .int 0), (3, .ref ao), (2, .ref om), (1, .ref o), (0, .ref b)]) hx hb dL_law_343 hl (by decide) rfl (fun ls hl => ?_)
                        refine lv_aload_n hx hb dL_law_345 rfl (lv_at hl 4 rfl) ?_
                        refine rdV (As := []) (ci := 9) S (c_X9_thrown_1 l D cI cZ cJ om q) mi_X9_thrown kw_7_89 ⟨rfl, rfl⟩ ⟨Nat.le_of_ble_eq_true rfl, Nat.le_of_ble_eq_true rfl⟩ (va_Pl (ws := (mW om 2 q cI cZ)) (x := ((xW o u cI cZ cJ) ++ [(ao, .inl (cJ, 1, .inr (.inl (fun _ => 0))))])) hP) hK mW_0 rfl rfl hl.1 (Nat.le_of_ble_eq_true rfl) ⟨Nat.le_of_ble_eq_true rfl, Nat.le_of_ble_eq_true rfl⟩ dL_law_346 ?_
                        refine lv_iload hx hb dL_law_349 (lv_at hl 1 rfl) ?_
                        refine lv_icmp_eq (tgt := 356) hx hb dL_law_351 (by decide) (fun _ => ?_) (fun c => absurd c (by decide))
                        refine lv_iload hx hb dL_law_356 (lv_at hl 1 rfl) ?_
                        refine lv_if_ne (tgt := 373) hx hb dL_law_358 (by decide) (fun _ => ?_) (fun c => absurd c (by decide))
                        refine lv_goto (tgt := 1519) hx hb dL_law_373 (by decide) ?_
                        exact law_tail (C := 121) (Z := 12964) S hr hlocks hX hbl (lv_sub hl [2, 6] rfl) hS (Nat.le_of_ble_eq_true rfl) (Nat.le_of_ble_eq_true rfl)
                      · have hi_x4 : x4 ≤ 99 := u_ngt d_310
                        refine wrap (mW om 0 q cI cZ) (mid := ((xW o u cI cZ cJ) ++ [(ao, .inl (cJ, 1, .inr (.inl (fun _ => 0))))])) (As := [.ref o, .int 0, .int x2, .int 3, .int x4, .ref ao]) S (h_variable_15 l D cI cZ cJ o u ao hst ra ga H.size x2 x4 lo_x2 hi_x2 lo_x4 hi_x4) msh_L_variable kw_5_229 rfl rfl ⟨Nat.le_of_ble_eq_true rfl, Nat.le_of_ble_eq_true rfl⟩ hP hD hK hS hA hB hC hl.1 (Nat.le_of_ble_eq_true rfl) ⟨Nat.le_of_ble_eq_true rfl, Nat.le_of_ble_eq_true rfl⟩ dL_law_310 (fun H locs hz hP hD hS => ?_)
                        have hP : va_P D vwCl ((mW om 0 q cI cZ) ++ ((((((xW o u cI cZ cJ).set 5 ((u 4), .inl (cI, 10, .inl (upd (fun _ => 0) (0 : Int32).toNatClampNeg 1)))).set 8 ((u 7), .inl (cI, 160, .inl (upd (fun _ => (-1)) (x2 : Int32).toNatClampNeg 9)))).set 9 ((u 8), .inl (cI, 160, .inl (upd (fun _ => 0) (x2 : Int32).toNatClampNeg (-1))))).set 10 ((u 9), .inl (cI, 160, .inl (upd (fun _ => 0) (x2 : Int32).toNatClampNeg x4)))) ++ [(ao, .inl (cJ, 1, .inr (.inl (vp_updL (fun _ => 0) (0 : Int32).toNatClampNeg (-1)))))])) H := hP
                        have hD : va_D A ((mW om 0 q cI cZ) ++ ((((((xW o u cI cZ cJ).set 5 ((u 4), .inl (cI, 10, .inl (upd (fun _ => 0) (0 : Int32).toNatClampNeg 1)))).set 8 ((u 7), .inl (cI, 160, .inl (upd (fun _ => (-1)) (x2 : Int32).toNatClampNeg 9)))).set 9 ((u 8), .inl (cI, 160, .inl (upd (fun _ => 0) (x2 : Int32).toNatClampNeg (-1))))).set 10 ((u 9), .inl (cI, 160, .inl (upd (fun _ => 0) (x2 : Int32).toNatClampNeg x4)))) ++ [(ao, .inl (cJ, 1, .inr (.inl (vp_updL (fun _ => 0) (0 : Int32).toNatClampNeg (-1)))))])) := hD
                        refine lv_istore (lv' := [(5, .int 0), (4, .int 0), (3, .ref ao), (2, .ref om), (1, .ref o), (0, .ref b)]) hx hb dL_law_313 hl (by decide) rfl (fun ls hl => ?_)
                        refine lv_aload_n hx hb dL_law_315 rfl (lv_at hl 3 rfl) ?_
                        refine lv_aload_n hx hb dL_law_316 rfl (lv_at hl 5 rfl) ?_
                        refine lv_iload hx hb dL_law_317 (lv_at hl 1 rfl) ?_
                        refine lv_iconst (v := 1) hx hb dL_law_319 (by decide) ?_
                        refine xiadd (v := 1) S dL_law_320 (by decide) ?_
                        refine xsld (v := 0) S hX hbl hbA hS (vin rfl) h1 dL_law_321 ?_
                        refine lv_aload_n hx hb dL_law_322 rfl (lv_at hl 5 rfl) ?_
                        refine lv_iload hx hb dL_law_323 (lv_at hl 1 rfl) ?_
                        refine lv_iconst (v := 2) hx hb dL_law_325 (by decide) ?_
                        refine xiadd (v := 2) S dL_law_326 (by decide) ?_
                        refine xsld (v := x2) S hX hbl hbA hS (vin rfl) h2 dL_law_327 ?_
                        refine lv_aload_n hx hb dL_law_328 rfl (lv_at hl 5 rfl) ?_
                        refine lv_iload hx hb dL_law_329 (lv_at hl 1 rfl) ?_
                        refine lv_iconst (v := 3) hx hb dL_law_331 (by decide) ?_
                        refine xiadd (v := 3) S dL_law_332 (by decide) ?_
                        refine xsld (v := 3) S hX hbl hbA hS (vin rfl) h3 dL_law_333 ?_
                        refine lv_aload_n hx hb dL_law_334 rfl (lv_at hl 5 rfl) ?_
                        refine lv_iload hx hb dL_law_335 (lv_at hl 1 rfl) ?_
                        refine lv_iconst (v := 4) hx hb dL_law_337 (by decide) ?_
                        refine xiadd (v := 4) S dL_law_338 (by decide) ?_
                        refine xsld (v := x4) S hX hbl hbA hS (vin rfl) h4 dL_law_339 ?_
                        refine fVi [] ((((((xW o u cI cZ cJ).set 5 ((u 4), .inl (cI, 10, .inl (upd (fun _ => 0) (0 : Int32).toNatClampNeg 1)))).set 8 ((u 7), .inl (cI, 160, .inl (upd (fun _ => (-1)) (x2 : Int32).toNatClampNeg 9)))).set 9 ((u 8), .inl (cI, 160, .inl (upd (fun _ => 0) (x2 : Int32).toNatClampNeg (-1))))).set 10 ((u 9), .inl (cI, 160, .inl (upd (fun _ => 0) (x2 : Int32).toNatClampNeg x4)))) ++ [(ao, .inl (cJ, 1, .inr (.inl (vp_updL (fun _ => 0) (0 : Int32).toNatClampNeg (-1)))))]) (mid := (mW om 0 q cI cZ)) (As := [.int 0, .int x2, .int 3, .int x4]) (ci := 9) S (c_X9_variable_15 l D cI cZ cJ om q H.size x2 x4 lo_x2 hi_x2 lo_x4 hi_x4) mi_X9_variable kw_7_123 rfl rfl ⟨Nat.le_of_ble_eq_true rfl, Nat.le_of_ble_eq_true rfl⟩ hP hD hK hS hA mW_0 rfl rfl hl.1 (Nat.le_of_ble_eq_true rfl) ⟨Nat.le_of_ble_eq_true rfl, Nat.le_of_ble_eq_true rfl⟩ dL_law_340 (fun H locs hz hP hD hS => ?_)
                        have hP : va_P D vwCl ((((((mW om 0 q cI cZ).set 4 ((q 3), .inl (cI, 10, .inl (upd (fun _ => 0) (0 : Int32).toNatClampNeg 1)))).set 7 ((q 6), .inl (cI, 160, .inl (upd (fun _ => -1) (x2 : Int32).toNatClampNeg 9)))).set 8 ((q 7), .inl (cI, 160, .inl (upd (fun _ => 0) (x2 : Int32).toNatClampNeg (-1))))).set 9 ((q 8), .inl (cI, 160, .inl (upd (fun _ => 0) (x2 : Int32).toNatClampNeg x4)))) ++ ((((((xW o u cI cZ cJ).set 5 ((u 4), .inl (cI, 10, .inl (upd (fun _ => 0) (0 : Int32).toNatClampNeg 1)))).set 8 ((u 7), .inl (cI, 160, .inl (upd (fun _ => (-1)) (x2 : Int32).toNatClampNeg 9)))).set 9 ((u 8), .inl (cI, 160, .inl (upd (fun _ => 0) (x2 : Int32).toNatClampNeg (-1))))).set 10 ((u 9), .inl (cI, 160, .inl (upd (fun _ => 0) (x2 : Int32).toNatClampNeg x4)))) ++ [(ao, .inl (cJ, 1, .inr (.inl (vp_updL (fun _ => 0) (0 : Int32).toNatClampNeg (-1)))))])) H := hP
                        have hD : va_D A ((((((mW om 0 q cI cZ).set 4 ((q 3), .inl (cI, 10, .inl (upd (fun _ => 0) (0 : Int32).toNatClampNeg 1)))).set 7 ((q 6), .inl (cI, 160, .inl (upd (fun _ => -1) (x2 : Int32).toNatClampNeg 9)))).set 8 ((q 7), .inl (cI, 160, .inl (upd (fun _ => 0) (x2 : Int32).toNatClampNeg (-1))))).set 9 ((q 8), .inl (cI, 160, .inl (upd (fun _ => 0) (x2 : Int32).toNatClampNeg x4)))) ++ ((((((xW o u cI cZ cJ).set 5 ((u 4), .inl (cI, 10, .inl (upd (fun _ => 0) (0 : Int32).toNatClampNeg 1)))).set 8 ((u 7), .inl (cI, 160, .inl (upd (fun _ => (-1)) (x2 : Int32).toNatClampNeg 9)))).set 9 ((u 8), .inl (cI, 160, .inl (upd (fun _ => 0) (x2 : Int32).toNatClampNeg (-1))))).set 10 ((u 9), .inl (cI, 160, .inl (upd (fun _ => 0) (x2 : Int32).toNatClampNeg x4)))) ++ [(ao, .inl (cJ, 1, .inr (.inl (vp_updL (fun _ => 0) (0 : Int32).toNatClampNeg (-1)))))])) := hD
                        refine lv_istore (lv' := [(6, .int (-1)), (5, .int 0), (4, .int 0), (3, .ref ao), (2, .ref om), (1, .ref o), (0, .ref b)]) hx hb dL_law_343 hl (by decide) rfl (fun ls hl => ?_)
                        refine lv_aload_n hx hb dL_law_345 rfl (lv_at hl 4 rfl) ?_
                        refine rdV (As := []) (ci := 9) S (c_X9_thrown_7 l D cI cZ cJ om q x2 x4 lo_x2 hi_x2 lo_x4 hi_x4) mi_X9_thrown kw_7_89 ⟨rfl, rfl⟩ ⟨Nat.le_of_ble_eq_true rfl, Nat.le_of_ble_eq_true rfl⟩ (va_Pl (ws := (((((mW om 0 q cI cZ).set 4 ((q 3), .inl (cI, 10, .inl (upd (fun _ => 0) (0 : Int32).toNatClampNeg 1)))).set 7 ((q 6), .inl (cI, 160, .inl (upd (fun _ => -1) (x2 : Int32).toNatClampNeg 9)))).set 8 ((q 7), .inl (cI, 160, .inl (upd (fun _ => 0) (x2 : Int32).toNatClampNeg (-1))))).set 9 ((q 8), .inl (cI, 160, .inl (upd (fun _ => 0) (x2 : Int32).toNatClampNeg x4))))) (x := ((((((xW o u cI cZ cJ).set 5 ((u 4), .inl (cI, 10, .inl (upd (fun _ => 0) (0 : Int32).toNatClampNeg 1)))).set 8 ((u 7), .inl (cI, 160, .inl (upd (fun _ => (-1)) (x2 : Int32).toNatClampNeg 9)))).set 9 ((u 8), .inl (cI, 160, .inl (upd (fun _ => 0) (x2 : Int32).toNatClampNeg (-1))))).set 10 ((u 9), .inl (cI, 160, .inl (upd (fun _ => 0) (x2 : Int32).toNatClampNeg x4)))) ++ [(ao, .inl (cJ, 1, .inr (.inl (vp_updL (fun _ => 0) (0 : Int32).toNatClampNeg (-1)))))])) hP) hK (k := 0) rfl rfl rfl hl.1 (Nat.le_of_ble_eq_true rfl) ⟨Nat.le_of_ble_eq_true rfl, Nat.le_of_ble_eq_true rfl⟩ dL_law_346 ?_
                        refine lv_iload hx hb dL_law_349 (lv_at hl 1 rfl) ?_
                        refine lv_icmp_eq (tgt := 356) hx hb dL_law_351 (by decide) (fun _ => ?_) (fun c => absurd c (by decide))
                        refine lv_iload hx hb dL_law_356 (lv_at hl 1 rfl) ?_
                        refine lv_if_ne (tgt := 373) hx hb dL_law_358 (by decide) (fun c => absurd c (by decide)) (fun _ => ?_)
                        refine lv_aload_n hx hb dL_law_361 rfl (lv_at hl 3 rfl) ?_
                        refine lv_iconst (v := 0) hx hb dL_law_362 (by decide) ?_
                        refine xlald (t0 := 2) (v := (-1)) S hK hP (q0 := 119) rfl rfl (vin rfl) rfl dL_law_363 ?_
                        refine lv_iload hx hb dL_law_364 (lv_at hl 0 rfl) ?_
                        refine lv_i2l (v := (-1)) hx hb dL_law_366 (by decide) ?_
                        refine xlcmp (v := 0) S dL_law_367 (by decide) ?_
                        refine lv_if_eq (tgt := 373) hx hb dL_law_368 (by decide) (fun _ => ?_) (fun c => absurd c (by decide))
                        refine lv_goto (tgt := 1519) hx hb dL_law_373 (by decide) ?_
                        exact law_tail (C := 120) (Z := 12958) S hr hlocks hX hbl (lv_sub hl [2, 6] rfl) hS (Nat.le_of_ble_eq_true rfl) (Nat.le_of_ble_eq_true rfl)

set_option maxHeartbeats 8000000 in
set_option maxRecDepth 100000 in
theorem law_3 (l : Launch) (hst : l.stackTraces = false) (D : va_G) (cI cZ cJ : ClassId) {p : Program} {e : Env} {s : State} {m : MethodId} {below : List Frame} {meth : Method} {c : Code} {b : Nat} {xs : Nat → Int32} (S : CallFix p m c cL_law 9 s #[Value.ref b] uG RL) (hr : meth.sig.returnType = ret) (hlocks : meth.locks = false) (hX : va_X b 5 xs s s.heap) (hbl : b < s.heap.size) (hK : va_K D vwCl (tyL cI cZ cJ) s) (ra ga : Nat → Nat) (hB : amb ra ga (fun q => s.heap.size ≤ q) s s.heap) (hC : ambC s) (x1 x2 x3 x4 : Int32) (h1 : xs 1 = x1) (h2 : xs 2 = x2) (h3 : xs 3 = x3) (h4 : xs 4 = x4) (o om ao : Nat) (u q : Nat → Nat) (ls : Array Slot) (H : Heap) (locs : List Loc) (hl : lv_has ls 9 [(4, .int 0), (3, .ref ao), (2, .ref om), (1, .ref o), (0, .ref b)]) (hP : va_P D vwCl ((mW om 0 q cI cZ) ++ ((xW o u cI cZ cJ) ++ [(ao, .inl (cJ, 1, .inr (.inl (fun _ => 0))))])) H) (hD : va_D (fun q => s.heap.size ≤ q) ((mW om 0 q cI cZ) ++ ((xW o u cI cZ cJ) ++ [(ao, .inl (cJ, 1, .inr (.inl (fun _ => 0))))]))) (hS : va_S (fun q => s.heap.size ≤ q) s.heap H locs) : W p l e room_1 s m #[Value.ref b] below meth c H locs 120 12958 (lw_Z below #[Value.ref b] s) (F0 m 376 ls []) := by
  have hx := S.1
  have hb := S.2.1
  have hA : ∀ q : Nat, s.heap.size ≤ q → (fun q : Nat => s.heap.size ≤ q) q := fun _ h => h
  have hbA : ¬ (fun q : Nat => s.heap.size ≤ q) b := Nat.not_le.mpr hbl
  refine lv_aload_n hx hb dL_law_376 rfl (lv_at hl 3 rfl) ?_
  refine lv_aload_n hx hb dL_law_377 rfl (lv_at hl 4 rfl) ?_
  refine lv_iload hx hb dL_law_378 (lv_at hl 0 rfl) ?_
  refine lv_iconst (v := 1) hx hb dL_law_380 (by decide) ?_
  refine xiadd (v := 1) S dL_law_381 (by decide) ?_
  refine xsld (v := x1) S hX hbl hbA hS (vin rfl) h1 dL_law_382 ?_
  refine lv_aload_n hx hb dL_law_383 rfl (lv_at hl 4 rfl) ?_
  refine lv_iload hx hb dL_law_384 (lv_at hl 0 rfl) ?_
  refine lv_iconst (v := 2) hx hb dL_law_386 (by decide) ?_
  refine xiadd (v := 2) S dL_law_387 (by decide) ?_
  refine xsld (v := x2) S hX hbl hbA hS (vin rfl) h2 dL_law_388 ?_
  refine lv_aload_n hx hb dL_law_389 rfl (lv_at hl 4 rfl) ?_
  refine lv_iload hx hb dL_law_390 (lv_at hl 0 rfl) ?_
  refine lv_iconst (v := 3) hx hb dL_law_392 (by decide) ?_
  refine xiadd (v := 3) S dL_law_393 (by decide) ?_
  refine xsld (v := x3) S hX hbl hbA hS (vin rfl) h3 dL_law_394 ?_
  refine lv_aload_n hx hb dL_law_395 rfl (lv_at hl 1 rfl) ?_
  by_cases d_396 : x1 < 0
  · have hi_x1 : x1 ≤ (-1) := u_lt d_396 (by decide)
    refine wrap (mW om 0 q cI cZ) (mid := ((xW o u cI cZ cJ) ++ [(ao, .inl (cJ, 1, .inr (.inl (fun _ => 0))))])) (As := [.ref o, .int x1, .int x2, .int x3, .ref ao]) S (h_ofName_0 l D cI cZ cJ o u ao hst ra ga H.size x1 x2 x3 hi_x1) msh_L_ofName kw_6_7 rfl rfl ⟨Nat.le_of_ble_eq_true rfl, Nat.le_of_ble_eq_true rfl⟩ hP hD hK hS hA hB hC hl.1 (Nat.le_of_ble_eq_true rfl) ⟨Nat.le_of_ble_eq_true rfl, Nat.le_of_ble_eq_true rfl⟩ dL_law_396 (fun H locs hz hP hD hS => ?_)
    have hP : va_P D vwCl ((mW om 0 q cI cZ) ++ ((xW o u cI cZ cJ) ++ [(ao, .inl (cJ, 1, .inr (.inl (fun _ => 0))))])) H := hP
    have hD : va_D A ((mW om 0 q cI cZ) ++ ((xW o u cI cZ cJ) ++ [(ao, .inl (cJ, 1, .inr (.inl (fun _ => 0))))])) := hD
    refine lv_istore (lv' := [(5, .int 1), (4, .int 0), (3, .ref ao), (2, .ref om), (1, .ref o), (0, .ref b)]) hx hb dL_law_399 hl (by decide) rfl (fun ls hl => ?_)
    refine lv_aload_n hx hb dL_law_401 rfl (lv_at hl 3 rfl) ?_
    refine lv_aload_n hx hb dL_law_402 rfl (lv_at hl 5 rfl) ?_
    refine lv_iload hx hb dL_law_403 (lv_at hl 1 rfl) ?_
    refine lv_iconst (v := 1) hx hb dL_law_405 (by decide) ?_
    refine xiadd (v := 1) S dL_law_406 (by decide) ?_
    refine xsld (v := x1) S hX hbl hbA hS (vin rfl) h1 dL_law_407 ?_
    refine lv_aload_n hx hb dL_law_408 rfl (lv_at hl 5 rfl) ?_
    refine lv_iload hx hb dL_law_409 (lv_at hl 1 rfl) ?_
    refine lv_iconst (v := 2) hx hb dL_law_411 (by decide) ?_
    refine xiadd (v := 2) S dL_law_412 (by decide) ?_
    refine xsld (v := x2) S hX hbl hbA hS (vin rfl) h2 dL_law_413 ?_
    refine lv_aload_n hx hb dL_law_414 rfl (lv_at hl 5 rfl) ?_
    refine lv_iload hx hb dL_law_415 (lv_at hl 1 rfl) ?_
    refine lv_iconst (v := 3) hx hb dL_law_417 (by decide) ?_
    refine xiadd (v := 3) S dL_law_418 (by decide) ?_
    refine xsld (v := x3) S hX hbl hbA hS (vin rfl) h3 dL_law_419 ?_
    refine fVi [] ((xW o u cI cZ cJ) ++ [(ao, .inl (cJ, 1, .inr (.inl (fun _ => 0))))]) (mid := (mW om 0 q cI cZ)) (As := [.int x1, .int x2, .int x3]) (ci := 9) S (c_X9_ofName_0 l D cI cZ cJ om q H.size x1 x2 x3 hi_x1) mi_X9_ofName kw_7_127 rfl rfl ⟨Nat.le_of_ble_eq_true rfl, Nat.le_of_ble_eq_true rfl⟩ hP hD hK hS hA mW_0 rfl rfl hl.1 (Nat.le_of_ble_eq_true rfl) ⟨Nat.le_of_ble_eq_true rfl, Nat.le_of_ble_eq_true rfl⟩ dL_law_420 (fun H locs hz hP hD hS => ?_)
    have hP : va_P D vwCl ((mW om 1 q cI cZ) ++ ((xW o u cI cZ cJ) ++ [(ao, .inl (cJ, 1, .inr (.inl (fun _ => 0))))])) H := hP
    have hD : va_D A ((mW om 1 q cI cZ) ++ ((xW o u cI cZ cJ) ++ [(ao, .inl (cJ, 1, .inr (.inl (fun _ => 0))))])) := hD
    refine lv_istore (lv' := [(6, .int 0), (5, .int 1), (4, .int 0), (3, .ref ao), (2, .ref om), (1, .ref o), (0, .ref b)]) hx hb dL_law_423 hl (by decide) rfl (fun ls hl => ?_)
    refine lv_aload_n hx hb dL_law_425 rfl (lv_at hl 4 rfl) ?_
    refine rdV (As := []) (ci := 9) S (c_X9_thrown_0 l D cI cZ cJ om q) mi_X9_thrown kw_7_89 ⟨rfl, rfl⟩ ⟨Nat.le_of_ble_eq_true rfl, Nat.le_of_ble_eq_true rfl⟩ (va_Pl (ws := (mW om 1 q cI cZ)) (x := ((xW o u cI cZ cJ) ++ [(ao, .inl (cJ, 1, .inr (.inl (fun _ => 0))))])) hP) hK mW_0 rfl rfl hl.1 (Nat.le_of_ble_eq_true rfl) ⟨Nat.le_of_ble_eq_true rfl, Nat.le_of_ble_eq_true rfl⟩ dL_law_426 ?_
    refine lv_iload hx hb dL_law_429 (lv_at hl 1 rfl) ?_
    refine lv_icmp_eq (tgt := 436) hx hb dL_law_431 (by decide) (fun _ => ?_) (fun c => absurd c (by decide))
    refine lv_iload hx hb dL_law_436 (lv_at hl 1 rfl) ?_
    refine lv_if_ne (tgt := 453) hx hb dL_law_438 (by decide) (fun _ => ?_) (fun c => absurd c (by decide))
    refine lv_goto (tgt := 1519) hx hb dL_law_453 (by decide) ?_
    exact law_tail (C := 121) (Z := 12964) S hr hlocks hX hbl (lv_sub hl [2, 6] rfl) hS (Nat.le_of_ble_eq_true rfl) (Nat.le_of_ble_eq_true rfl)
  · have lo_x1 : 0 ≤ x1 := l_nlt d_396
    by_cases d_396 : 1 ≤ x1
    · have lo_x1 : 1 ≤ x1 := d_396
      refine wrap (mW om 0 q cI cZ) (mid := ((xW o u cI cZ cJ) ++ [(ao, .inl (cJ, 1, .inr (.inl (fun _ => 0))))])) (As := [.ref o, .int x1, .int x2, .int x3, .ref ao]) S (h_ofName_1 l D cI cZ cJ o u ao hst ra ga H.size x1 x2 x3 lo_x1) msh_L_ofName kw_6_7 rfl rfl ⟨Nat.le_of_ble_eq_true rfl, Nat.le_of_ble_eq_true rfl⟩ hP hD hK hS hA hB hC hl.1 (Nat.le_of_ble_eq_true rfl) ⟨Nat.le_of_ble_eq_true rfl, Nat.le_of_ble_eq_true rfl⟩ dL_law_396 (fun H locs hz hP hD hS => ?_)
      have hP : va_P D vwCl ((mW om 0 q cI cZ) ++ ((xW o u cI cZ cJ) ++ [(ao, .inl (cJ, 1, .inr (.inl (fun _ => 0))))])) H := hP
      have hD : va_D A ((mW om 0 q cI cZ) ++ ((xW o u cI cZ cJ) ++ [(ao, .inl (cJ, 1, .inr (.inl (fun _ => 0))))])) := hD
      refine lv_istore (lv' := [(5, .int 1), (4, .int 0), (3, .ref ao), (2, .ref om), (1, .ref o), (0, .ref b)]) hx hb dL_law_399 hl (by decide) rfl (fun ls hl => ?_)
      refine lv_aload_n hx hb dL_law_401 rfl (lv_at hl 3 rfl) ?_
      refine lv_aload_n hx hb dL_law_402 rfl (lv_at hl 5 rfl) ?_
      refine lv_iload hx hb dL_law_403 (lv_at hl 1 rfl) ?_
      refine lv_iconst (v := 1) hx hb dL_law_405 (by decide) ?_
      refine xiadd (v := 1) S dL_law_406 (by decide) ?_
      refine xsld (v := x1) S hX hbl hbA hS (vin rfl) h1 dL_law_407 ?_
      refine lv_aload_n hx hb dL_law_408 rfl (lv_at hl 5 rfl) ?_
      refine lv_iload hx hb dL_law_409 (lv_at hl 1 rfl) ?_
      refine lv_iconst (v := 2) hx hb dL_law_411 (by decide) ?_
      refine xiadd (v := 2) S dL_law_412 (by decide) ?_
      refine xsld (v := x2) S hX hbl hbA hS (vin rfl) h2 dL_law_413 ?_
      refine lv_aload_n hx hb dL_law_414 rfl (lv_at hl 5 rfl) ?_
      refine lv_iload hx hb dL_law_415 (lv_at hl 1 rfl) ?_
      refine lv_iconst (v := 3) hx hb dL_law_417 (by decide) ?_
      refine xiadd (v := 3) S dL_law_418 (by decide) ?_
      refine xsld (v := x3) S hX hbl hbA hS (vin rfl) h3 dL_law_419 ?_
      refine fVi [] ((xW o u cI cZ cJ) ++ [(ao, .inl (cJ, 1, .inr (.inl (fun _ => 0))))]) (mid := (mW om 0 q cI cZ)) (As := [.int x1, .int x2, .int x3]) (ci := 9) S (c_X9_ofName_1 l D cI cZ cJ om q H.size x1 x2 x3 lo_x1) mi_X9_ofName kw_7_127 rfl rfl ⟨Nat.le_of_ble_eq_true rfl, Nat.le_of_ble_eq_true rfl⟩ hP hD hK hS hA mW_0 rfl rfl hl.1 (Nat.le_of_ble_eq_true rfl) ⟨Nat.le_of_ble_eq_true rfl, Nat.le_of_ble_eq_true rfl⟩ dL_law_420 (fun H locs hz hP hD hS => ?_)
      have hP : va_P D vwCl ((mW om 1 q cI cZ) ++ ((xW o u cI cZ cJ) ++ [(ao, .inl (cJ, 1, .inr (.inl (fun _ => 0))))])) H := hP
      have hD : va_D A ((mW om 1 q cI cZ) ++ ((xW o u cI cZ cJ) ++ [(ao, .inl (cJ, 1, .inr (.inl (fun _ => 0))))])) := hD
      refine lv_istore (lv' := [(6, .int 0), (5, .int 1), (4, .int 0), (3, .ref ao), (2, .ref om), (1, .ref o), (0, .ref b)]) hx hb dL_law_423 hl (by decide) rfl (fun ls hl => ?_)
      refine lv_aload_n hx hb dL_law_425 rfl (lv_at hl 4 rfl) ?_
      refine rdV (As := []) (ci := 9) S (c_X9_thrown_0 l D cI cZ cJ om q) mi_X9_thrown kw_7_89 ⟨rfl, rfl⟩ ⟨Nat.le_of_ble_eq_true rfl, Nat.le_of_ble_eq_true rfl⟩ (va_Pl (ws := (mW om 1 q cI cZ)) (x := ((xW o u cI cZ cJ) ++ [(ao, .inl (cJ, 1, .inr (.inl (fun _ => 0))))])) hP) hK mW_0 rfl rfl hl.1 (Nat.le_of_ble_eq_true rfl) ⟨Nat.le_of_ble_eq_true rfl, Nat.le_of_ble_eq_true rfl⟩ dL_law_426 ?_
      refine lv_iload hx hb dL_law_429 (lv_at hl 1 rfl) ?_
      refine lv_icmp_eq (tgt := 436) hx hb dL_law_431 (by decide) (fun _ => ?_) (fun c => absurd c (by decide))
      refine lv_iload hx hb dL_law_436 (lv_at hl 1 rfl) ?_
      refine lv_if_ne (tgt := 453) hx hb dL_law_438 (by decide) (fun _ => ?_) (fun c => absurd c (by decide))
      refine lv_goto (tgt := 1519) hx hb dL_law_453 (by decide) ?_
      exact law_tail (C := 121) (Z := 12964) S hr hlocks hX hbl (lv_sub hl [2, 6] rfl) hS (Nat.le_of_ble_eq_true rfl) (Nat.le_of_ble_eq_true rfl)
    · have hi_x1 : x1 ≤ 0 := u_nge d_396 (by decide)
      have e_x1 : x1 = 0 := b_eq lo_x1 hi_x1
      subst e_x1
      by_cases d_396 : x2 < 0
      · have hi_x2 : x2 ≤ (-1) := u_lt d_396 (by decide)
        refine wrap (mW om 0 q cI cZ) (mid := ((xW o u cI cZ cJ) ++ [(ao, .inl (cJ, 1, .inr (.inl (fun _ => 0))))])) (As := [.ref o, .int 0, .int x2, .int x3, .ref ao]) S (h_ofName_2 l D cI cZ cJ o u ao hst ra ga H.size x2 x3 hi_x2) msh_L_ofName kw_6_7 rfl rfl ⟨Nat.le_of_ble_eq_true rfl, Nat.le_of_ble_eq_true rfl⟩ hP hD hK hS hA hB hC hl.1 (Nat.le_of_ble_eq_true rfl) ⟨Nat.le_of_ble_eq_true rfl, Nat.le_of_ble_eq_true rfl⟩ dL_law_396 (fun H locs hz hP hD hS => ?_)
        have hP : va_P D vwCl ((mW om 0 q cI cZ) ++ ((xW o u cI cZ cJ) ++ [(ao, .inl (cJ, 1, .inr (.inl (fun _ => 0))))])) H := hP
        have hD : va_D A ((mW om 0 q cI cZ) ++ ((xW o u cI cZ cJ) ++ [(ao, .inl (cJ, 1, .inr (.inl (fun _ => 0))))])) := hD
        refine lv_istore (lv' := [(5, .int 2), (4, .int 0), (3, .ref ao), (2, .ref om), (1, .ref o), (0, .ref b)]) hx hb dL_law_399 hl (by decide) rfl (fun ls hl => ?_)
        refine lv_aload_n hx hb dL_law_401 rfl (lv_at hl 3 rfl) ?_
        refine lv_aload_n hx hb dL_law_402 rfl (lv_at hl 5 rfl) ?_
        refine lv_iload hx hb dL_law_403 (lv_at hl 1 rfl) ?_
        refine lv_iconst (v := 1) hx hb dL_law_405 (by decide) ?_
        refine xiadd (v := 1) S dL_law_406 (by decide) ?_
        refine xsld (v := 0) S hX hbl hbA hS (vin rfl) h1 dL_law_407 ?_
        refine lv_aload_n hx hb dL_law_408 rfl (lv_at hl 5 rfl) ?_
        refine lv_iload hx hb dL_law_409 (lv_at hl 1 rfl) ?_
        refine lv_iconst (v := 2) hx hb dL_law_411 (by decide) ?_
        refine xiadd (v := 2) S dL_law_412 (by decide) ?_
        refine xsld (v := x2) S hX hbl hbA hS (vin rfl) h2 dL_law_413 ?_
        refine lv_aload_n hx hb dL_law_414 rfl (lv_at hl 5 rfl) ?_
        refine lv_iload hx hb dL_law_415 (lv_at hl 1 rfl) ?_
        refine lv_iconst (v := 3) hx hb dL_law_417 (by decide) ?_
        refine xiadd (v := 3) S dL_law_418 (by decide) ?_
        refine xsld (v := x3) S hX hbl hbA hS (vin rfl) h3 dL_law_419 ?_
        refine fVi [] ((xW o u cI cZ cJ) ++ [(ao, .inl (cJ, 1, .inr (.inl (fun _ => 0))))]) (mid := (mW om 0 q cI cZ)) (As := [.int 0, .int x2, .int x3]) (ci := 9) S (c_X9_ofName_2 l D cI cZ cJ om q H.size x2 x3 hi_x2) mi_X9_ofName kw_7_127 rfl rfl ⟨Nat.le_of_ble_eq_true rfl, Nat.le_of_ble_eq_true rfl⟩ hP hD hK hS hA mW_0 rfl rfl hl.1 (Nat.le_of_ble_eq_true rfl) ⟨Nat.le_of_ble_eq_true rfl, Nat.le_of_ble_eq_true rfl⟩ dL_law_420 (fun H locs hz hP hD hS => ?_)
        have hP : va_P D vwCl ((mW om 2 q cI cZ) ++ ((xW o u cI cZ cJ) ++ [(ao, .inl (cJ, 1, .inr (.inl (fun _ => 0))))])) H := hP
        have hD : va_D A ((mW om 2 q cI cZ) ++ ((xW o u cI cZ cJ) ++ [(ao, .inl (cJ, 1, .inr (.inl (fun _ => 0))))])) := hD
        refine lv_istore (lv' := [(6, .int 0), (5, .int 2), (4, .int 0), (3, .ref ao), (2, .ref om), (1, .ref o), (0, .ref b)]) hx hb dL_law_423 hl (by decide) rfl (fun ls hl => ?_)
        refine lv_aload_n hx hb dL_law_425 rfl (lv_at hl 4 rfl) ?_
        refine rdV (As := []) (ci := 9) S (c_X9_thrown_1 l D cI cZ cJ om q) mi_X9_thrown kw_7_89 ⟨rfl, rfl⟩ ⟨Nat.le_of_ble_eq_true rfl, Nat.le_of_ble_eq_true rfl⟩ (va_Pl (ws := (mW om 2 q cI cZ)) (x := ((xW o u cI cZ cJ) ++ [(ao, .inl (cJ, 1, .inr (.inl (fun _ => 0))))])) hP) hK mW_0 rfl rfl hl.1 (Nat.le_of_ble_eq_true rfl) ⟨Nat.le_of_ble_eq_true rfl, Nat.le_of_ble_eq_true rfl⟩ dL_law_426 ?_
        refine lv_iload hx hb dL_law_429 (lv_at hl 1 rfl) ?_
        refine lv_icmp_eq (tgt := 436) hx hb dL_law_431 (by decide) (fun _ => ?_) (fun c => absurd c (by decide))
        refine lv_iload hx hb dL_law_436 (lv_at hl 1 rfl) ?_
        refine lv_if_ne (tgt := 453) hx hb dL_law_438 (by decide) (fun _ => ?_) (fun c => absurd c (by decide))
        refine lv_goto (tgt := 1519) hx hb dL_law_453 (by decide) ?_
        exact law_tail (C := 121) (Z := 12964) S hr hlocks hX hbl (lv_sub hl [2, 6] rfl) hS (Nat.le_of_ble_eq_true rfl) (Nat.le_of_ble_eq_true rfl)
      · have lo_x2 : 0 ≤ x2 := l_nlt d_396
        by_cases d_396 : 16 ≤ x2
        · have lo_x2 : 16 ≤ x2 := d_396
          refine wrap (mW om 0 q cI cZ) (mid := ((xW o u cI cZ cJ) ++ [(ao, .inl (cJ, 1, .inr (.inl (fun _ => 0))))])) (As := [.ref o, .int 0, .int x2, .int x3, .ref ao]) S (h_ofName_3 l D cI cZ cJ o u ao hst ra ga H.size x2 x3 lo_x2) msh_L_ofName kw_6_7 rfl rfl ⟨Nat.le_of_ble_eq_true rfl, Nat.le_of_ble_eq_true rfl⟩ hP hD hK hS hA hB hC hl.1 (Nat.le_of_ble_eq_true rfl) ⟨Nat.le_of_ble_eq_true rfl, Nat.le_of_ble_eq_true rfl⟩ dL_law_396 (fun H locs hz hP hD hS => ?_)
          have hP : va_P D vwCl ((mW om 0 q cI cZ) ++ ((xW o u cI cZ cJ) ++ [(ao, .inl (cJ, 1, .inr (.inl (fun _ => 0))))])) H := hP
          have hD : va_D A ((mW om 0 q cI cZ) ++ ((xW o u cI cZ cJ) ++ [(ao, .inl (cJ, 1, .inr (.inl (fun _ => 0))))])) := hD
          refine lv_istore (lv' := [(5, .int 2), (4, .int 0), (3, .ref ao), (2, .ref om), (1, .ref o), (0, .ref b)]) hx hb dL_law_399 hl (by decide) rfl (fun ls hl => ?_)
          refine lv_aload_n hx hb dL_law_401 rfl (lv_at hl 3 rfl) ?_
          refine lv_aload_n hx hb dL_law_402 rfl (lv_at hl 5 rfl) ?_
          refine lv_iload hx hb dL_law_403 (lv_at hl 1 rfl) ?_
          refine lv_iconst (v := 1) hx hb dL_law_405 (by decide) ?_
          refine xiadd (v := 1) S dL_law_406 (by decide) ?_
          refine xsld (v := 0) S hX hbl hbA hS (vin rfl) h1 dL_law_407 ?_
          refine lv_aload_n hx hb dL_law_408 rfl (lv_at hl 5 rfl) ?_
          refine lv_iload hx hb dL_law_409 (lv_at hl 1 rfl) ?_
          refine lv_iconst (v := 2) hx hb dL_law_411 (by decide) ?_
          refine xiadd (v := 2) S dL_law_412 (by decide) ?_
          refine xsld (v := x2) S hX hbl hbA hS (vin rfl) h2 dL_law_413 ?_
          refine lv_aload_n hx hb dL_law_414 rfl (lv_at hl 5 rfl) ?_
          refine lv_iload hx hb dL_law_415 (lv_at hl 1 rfl) ?_
          refine lv_iconst (v := 3) hx hb dL_law_417 (by decide) ?_
          refine xiadd (v := 3) S dL_law_418 (by decide) ?_
          refine xsld (v := x3) S hX hbl hbA hS (vin rfl) h3 dL_law_419 ?_
          refine fVi [] ((xW o u cI cZ cJ) ++ [(ao, .inl (cJ, 1, .inr (.inl (fun _ => 0))))]) (mid := (mW om 0 q cI cZ)) (As := [.int 0, .int x2, .int x3]) (ci := 9) S (c_X9_ofName_3 l D cI cZ cJ om q H.size x2 x3 lo_x2) mi_X9_ofName kw_7_127 rfl rfl ⟨Nat.le_of_ble_eq_true rfl, Nat.le_of_ble_eq_true rfl⟩ hP hD hK hS hA mW_0 rfl rfl hl.1 (Nat.le_of_ble_eq_true rfl) ⟨Nat.le_of_ble_eq_true rfl, Nat.le_of_ble_eq_true rfl⟩ dL_law_420 (fun H locs hz hP hD hS => ?_)
          have hP : va_P D vwCl ((mW om 2 q cI cZ) ++ ((xW o u cI cZ cJ) ++ [(ao, .inl (cJ, 1, .inr (.inl (fun _ => 0))))])) H := hP
          have hD : va_D A ((mW om 2 q cI cZ) ++ ((xW o u cI cZ cJ) ++ [(ao, .inl (cJ, 1, .inr (.inl (fun _ => 0))))])) := hD
          refine lv_istore (lv' := [(6, .int 0), (5, .int 2), (4, .int 0), (3, .ref ao), (2, .ref om), (1, .ref o), (0, .ref b)]) hx hb dL_law_423 hl (by decide) rfl (fun ls hl => ?_)
          refine lv_aload_n hx hb dL_law_425 rfl (lv_at hl 4 rfl) ?_
          refine rdV (As := []) (ci := 9) S (c_X9_thrown_1 l D cI cZ cJ om q) mi_X9_thrown kw_7_89 ⟨rfl, rfl⟩ ⟨Nat.le_of_ble_eq_true rfl, Nat.le_of_ble_eq_true rfl⟩ (va_Pl (ws := (mW om 2 q cI cZ)) (x := ((xW o u cI cZ cJ) ++ [(ao, .inl (cJ, 1, .inr (.inl (fun _ => 0))))])) hP) hK mW_0 rfl rfl hl.1 (Nat.le_of_ble_eq_true rfl) ⟨Nat.le_of_ble_eq_true rfl, Nat.le_of_ble_eq_true rfl⟩ dL_law_426 ?_
          refine lv_iload hx hb dL_law_429 (lv_at hl 1 rfl) ?_
          refine lv_icmp_eq (tgt := 436) hx hb dL_law_431 (by decide) (fun _ => ?_) (fun c => absurd c (by decide))
          refine lv_iload hx hb dL_law_436 (lv_at hl 1 rfl) ?_
          refine lv_if_ne (tgt := 453) hx hb dL_law_438 (by decide) (fun _ => ?_) (fun c => absurd c (by decide))
          refine lv_goto (tgt := 1519) hx hb dL_law_453 (by decide) ?_
          exact law_tail (C := 121) (Z := 12964) S hr hlocks hX hbl (lv_sub hl [2, 6] rfl) hS (Nat.le_of_ble_eq_true rfl) (Nat.le_of_ble_eq_true rfl)
        · have hi_x2 : x2 ≤ 15 := u_nge d_396 (by decide)
          by_cases d_396 : x3 < 0
          · have hi_x3 : x3 ≤ (-1) := u_lt d_396 (by decide)
            refine wrap (mW om 0 q cI cZ) (mid := ((xW o u cI cZ cJ) ++ [(ao, .inl (cJ, 1, .inr (.inl (fun _ => 0))))])) (As := [.ref o, .int 0, .int x2, .int x3, .ref ao]) S (h_ofName_4 l D cI cZ cJ o u ao hst ra ga H.size x2 x3 lo_x2 hi_x2 hi_x3) msh_L_ofName kw_6_7 rfl rfl ⟨Nat.le_of_ble_eq_true rfl, Nat.le_of_ble_eq_true rfl⟩ hP hD hK hS hA hB hC hl.1 (Nat.le_of_ble_eq_true rfl) ⟨Nat.le_of_ble_eq_true rfl, Nat.le_of_ble_eq_true rfl⟩ dL_law_396 (fun H locs hz hP hD hS => ?_)
            have hP : va_P D vwCl ((mW om 0 q cI cZ) ++ ((xW o u cI cZ cJ) ++ [(ao, .inl (cJ, 1, .inr (.inl (fun _ => 0))))])) H := hP
            have hD : va_D A ((mW om 0 q cI cZ) ++ ((xW o u cI cZ cJ) ++ [(ao, .inl (cJ, 1, .inr (.inl (fun _ => 0))))])) := hD
            refine lv_istore (lv' := [(5, .int 2), (4, .int 0), (3, .ref ao), (2, .ref om), (1, .ref o), (0, .ref b)]) hx hb dL_law_399 hl (by decide) rfl (fun ls hl => ?_)
            refine lv_aload_n hx hb dL_law_401 rfl (lv_at hl 3 rfl) ?_
            refine lv_aload_n hx hb dL_law_402 rfl (lv_at hl 5 rfl) ?_
            refine lv_iload hx hb dL_law_403 (lv_at hl 1 rfl) ?_
            refine lv_iconst (v := 1) hx hb dL_law_405 (by decide) ?_
            refine xiadd (v := 1) S dL_law_406 (by decide) ?_
            refine xsld (v := 0) S hX hbl hbA hS (vin rfl) h1 dL_law_407 ?_
            refine lv_aload_n hx hb dL_law_408 rfl (lv_at hl 5 rfl) ?_
            refine lv_iload hx hb dL_law_409 (lv_at hl 1 rfl) ?_
            refine lv_iconst (v := 2) hx hb dL_law_411 (by decide) ?_
            refine xiadd (v := 2) S dL_law_412 (by decide) ?_
            refine xsld (v := x2) S hX hbl hbA hS (vin rfl) h2 dL_law_413 ?_
            refine lv_aload_n hx hb dL_law_414 rfl (lv_at hl 5 rfl) ?_
            refine lv_iload hx hb dL_law_415 (lv_at hl 1 rfl) ?_
            refine lv_iconst (v := 3) hx hb dL_law_417 (by decide) ?_
            refine xiadd (v := 3) S dL_law_418 (by decide) ?_
            refine xsld (v := x3) S hX hbl hbA hS (vin rfl) h3 dL_law_419 ?_
            refine fVi [] ((xW o u cI cZ cJ) ++ [(ao, .inl (cJ, 1, .inr (.inl (fun _ => 0))))]) (mid := (mW om 0 q cI cZ)) (As := [.int 0, .int x2, .int x3]) (ci := 9) S (c_X9_ofName_4 l D cI cZ cJ om q H.size x2 x3 lo_x2 hi_x2 hi_x3) mi_X9_ofName kw_7_127 rfl rfl ⟨Nat.le_of_ble_eq_true rfl, Nat.le_of_ble_eq_true rfl⟩ hP hD hK hS hA mW_0 rfl rfl hl.1 (Nat.le_of_ble_eq_true rfl) ⟨Nat.le_of_ble_eq_true rfl, Nat.le_of_ble_eq_true rfl⟩ dL_law_420 (fun H locs hz hP hD hS => ?_)
            have hP : va_P D vwCl ((mW om 2 q cI cZ) ++ ((xW o u cI cZ cJ) ++ [(ao, .inl (cJ, 1, .inr (.inl (fun _ => 0))))])) H := hP
            have hD : va_D A ((mW om 2 q cI cZ) ++ ((xW o u cI cZ cJ) ++ [(ao, .inl (cJ, 1, .inr (.inl (fun _ => 0))))])) := hD
            refine lv_istore (lv' := [(6, .int 0), (5, .int 2), (4, .int 0), (3, .ref ao), (2, .ref om), (1, .ref o), (0, .ref b)]) hx hb dL_law_423 hl (by decide) rfl (fun ls hl => ?_)
            refine lv_aload_n hx hb dL_law_425 rfl (lv_at hl 4 rfl) ?_
            refine rdV (As := []) (ci := 9) S (c_X9_thrown_1 l D cI cZ cJ om q) mi_X9_thrown kw_7_89 ⟨rfl, rfl⟩ ⟨Nat.le_of_ble_eq_true rfl, Nat.le_of_ble_eq_true rfl⟩ (va_Pl (ws := (mW om 2 q cI cZ)) (x := ((xW o u cI cZ cJ) ++ [(ao, .inl (cJ, 1, .inr (.inl (fun _ => 0))))])) hP) hK mW_0 rfl rfl hl.1 (Nat.le_of_ble_eq_true rfl) ⟨Nat.le_of_ble_eq_true rfl, Nat.le_of_ble_eq_true rfl⟩ dL_law_426 ?_
            refine lv_iload hx hb dL_law_429 (lv_at hl 1 rfl) ?_
            refine lv_icmp_eq (tgt := 436) hx hb dL_law_431 (by decide) (fun _ => ?_) (fun c => absurd c (by decide))
            refine lv_iload hx hb dL_law_436 (lv_at hl 1 rfl) ?_
            refine lv_if_ne (tgt := 453) hx hb dL_law_438 (by decide) (fun _ => ?_) (fun c => absurd c (by decide))
            refine lv_goto (tgt := 1519) hx hb dL_law_453 (by decide) ?_
            exact law_tail (C := 121) (Z := 12964) S hr hlocks hX hbl (lv_sub hl [2, 6] rfl) hS (Nat.le_of_ble_eq_true rfl) (Nat.le_of_ble_eq_true rfl)
          · have lo_x3 : 0 ≤ x3 := l_nlt d_396
            by_cases d_396 : 4 < x3
            · have lo_x3 : 5 ≤ x3 := l_gt d_396 (by decide)
              refine wrap (mW om 0 q cI cZ) (mid := ((xW o u cI cZ cJ) ++ [(ao, .inl (cJ, 1, .inr (.inl (fun _ => 0))))])) (As := [.ref o, .int 0, .int x2, .int x3, .ref ao]) S (h_ofName_5 l D cI cZ cJ o u ao hst ra ga H.size x2 x3 lo_x2 hi_x2 lo_x3) msh_L_ofName kw_6_7 rfl rfl ⟨Nat.le_of_ble_eq_true rfl, Nat.le_of_ble_eq_true rfl⟩ hP hD hK hS hA hB hC hl.1 (Nat.le_of_ble_eq_true rfl) ⟨Nat.le_of_ble_eq_true rfl, Nat.le_of_ble_eq_true rfl⟩ dL_law_396 (fun H locs hz hP hD hS => ?_)
              have hP : va_P D vwCl ((mW om 0 q cI cZ) ++ ((xW o u cI cZ cJ) ++ [(ao, .inl (cJ, 1, .inr (.inl (fun _ => 0))))])) H := hP
              have hD : va_D A ((mW om 0 q cI cZ) ++ ((xW o u cI cZ cJ) ++ [(ao, .inl (cJ, 1, .inr (.inl (fun _ => 0))))])) := hD
              refine lv_istore (lv' := [(5, .int 2), (4, .int 0), (3, .ref ao), (2, .ref om), (1, .ref o), (0, .ref b)]) hx hb dL_law_399 hl (by decide) rfl (fun ls hl => ?_)
              refine lv_aload_n hx hb dL_law_401 rfl (lv_at hl 3 rfl) ?_
              refine lv_aload_n hx hb dL_law_402 rfl (lv_at hl 5 rfl) ?_
              refine lv_iload hx hb dL_law_403 (lv_at hl 1 rfl) ?_
              refine lv_iconst (v := 1) hx hb dL_law_405 (by decide) ?_
              refine xiadd (v := 1) S dL_law_406 (by decide) ?_
              refine xsld (v := 0) S hX hbl hbA hS (vin rfl) h1 dL_law_407 ?_
              refine lv_aload_n hx hb dL_law_408 rfl (lv_at hl 5 rfl) ?_
              refine lv_iload hx hb dL_law_409 (lv_at hl 1 rfl) ?_
              refine lv_iconst (v := 2) hx hb dL_law_411 (by decide) ?_
              refine xiadd (v := 2) S dL_law_412 (by decide) ?_
              refine xsld (v := x2) S hX hbl hbA hS (vin rfl) h2 dL_law_413 ?_
              refine lv_aload_n hx hb dL_law_414 rfl (lv_at hl 5 rfl) ?_
              refine lv_iload hx hb dL_law_415 (lv_at hl 1 rfl) ?_
              refine lv_iconst (v := 3) hx hb dL_law_417 (by decide) ?_
              refine xiadd (v := 3) S dL_law_418 (by decide) ?_
              refine xsld (v := x3) S hX hbl hbA hS (vin rfl) h3 dL_law_419 ?_
              refine fVi [] ((xW o u cI cZ cJ) ++ [(ao, .inl (cJ, 1, .inr (.inl (fun _ => 0))))]) (mid := (mW om 0 q cI cZ)) (As := [.int 0, .int x2, .int x3]) (ci := 9) S (c_X9_ofName_5 l D cI cZ cJ om q H.size x2 x3 lo_x2 hi_x2 lo_x3) mi_X9_ofName kw_7_127 rfl rfl ⟨Nat.le_of_ble_eq_true rfl, Nat.le_of_ble_eq_true rfl⟩ hP hD hK hS hA mW_0 rfl rfl hl.1 (Nat.le_of_ble_eq_true rfl) ⟨Nat.le_of_ble_eq_true rfl, Nat.le_of_ble_eq_true rfl⟩ dL_law_420 (fun H locs hz hP hD hS => ?_)
              have hP : va_P D vwCl ((mW om 2 q cI cZ) ++ ((xW o u cI cZ cJ) ++ [(ao, .inl (cJ, 1, .inr (.inl (fun _ => 0))))])) H := hP
              have hD : va_D A ((mW om 2 q cI cZ) ++ ((xW o u cI cZ cJ) ++ [(ao, .inl (cJ, 1, .inr (.inl (fun _ => 0))))])) := hD
              refine lv_istore (lv' := [(6, .int 0), (5, .int 2), (4, .int 0), (3, .ref ao), (2, .ref om), (1, .ref o), (0, .ref b)]) hx hb dL_law_423 hl (by decide) rfl (fun ls hl => ?_)
              refine lv_aload_n hx hb dL_law_425 rfl (lv_at hl 4 rfl) ?_
              refine rdV (As := []) (ci := 9) S (c_X9_thrown_1 l D cI cZ cJ om q) mi_X9_thrown kw_7_89 ⟨rfl, rfl⟩ ⟨Nat.le_of_ble_eq_true rfl, Nat.le_of_ble_eq_true rfl⟩ (va_Pl (ws := (mW om 2 q cI cZ)) (x := ((xW o u cI cZ cJ) ++ [(ao, .inl (cJ, 1, .inr (.inl (fun _ => 0))))])) hP) hK mW_0 rfl rfl hl.1 (Nat.le_of_ble_eq_true rfl) ⟨Nat.le_of_ble_eq_true rfl, Nat.le_of_ble_eq_true rfl⟩ dL_law_426 ?_
              refine lv_iload hx hb dL_law_429 (lv_at hl 1 rfl) ?_
              refine lv_icmp_eq (tgt := 436) hx hb dL_law_431 (by decide) (fun _ => ?_) (fun c => absurd c (by decide))
              refine lv_iload hx hb dL_law_436 (lv_at hl 1 rfl) ?_
              refine lv_if_ne (tgt := 453) hx hb dL_law_438 (by decide) (fun _ => ?_) (fun c => absurd c (by decide))
              refine lv_goto (tgt := 1519) hx hb dL_law_453 (by decide) ?_
              exact law_tail (C := 121) (Z := 12964) S hr hlocks hX hbl (lv_sub hl [2, 6] rfl) hS (Nat.le_of_ble_eq_true rfl) (Nat.le_of_ble_eq_true rfl)
            · have hi_x3 : x3 ≤ 4 := u_ngt d_396
              refine wrap (mW om 0 q cI cZ) (mid := ((xW o u cI cZ cJ) ++ [(ao, .inl (cJ, 1, .inr (.inl (fun _ => 0))))])) (As := [.ref o, .int 0, .int x2, .int x3, .ref ao]) S (h_ofName_6 l D cI cZ cJ o u ao hst ra ga H.size x2 x3 lo_x2 hi_x2 lo_x3 hi_x3) msh_L_ofName kw_6_7 rfl rfl ⟨Nat.le_of_ble_eq_true rfl, Nat.le_of_ble_eq_true rfl⟩ hP hD hK hS hA hB hC hl.1 (Nat.le_of_ble_eq_true rfl) ⟨Nat.le_of_ble_eq_true rfl, Nat.le_of_ble_eq_true rfl⟩ dL_law_396 (fun H locs hz hP hD hS => ?_)
              have hP : va_P D vwCl ((mW om 0 q cI cZ) ++ ((xW o u cI cZ cJ) ++ [(ao, .inl (cJ, 1, .inr (.inl (vp_updL (fun _ => 0) (0 : Int32).toNatClampNeg (-1)))))])) H := hP
              have hD : va_D A ((mW om 0 q cI cZ) ++ ((xW o u cI cZ cJ) ++ [(ao, .inl (cJ, 1, .inr (.inl (vp_updL (fun _ => 0) (0 : Int32).toNatClampNeg (-1)))))])) := hD
              refine lv_istore (lv' := [(5, .int 0), (4, .int 0), (3, .ref ao), (2, .ref om), (1, .ref o), (0, .ref b)]) hx hb dL_law_399 hl (by decide) rfl (fun ls hl => ?_)
              refine lv_aload_n hx hb dL_law_401 rfl (lv_at hl 3 rfl) ?_
              refine lv_aload_n hx hb dL_law_402 rfl (lv_at hl 5 rfl) ?_
              refine lv_iload hx hb dL_law_403 (lv_at hl 1 rfl) ?_
              refine lv_iconst (v := 1) hx hb dL_law_405 (by decide) ?_
              refine xiadd (v := 1) S dL_law_406 (by decide) ?_
              refine xsld (v := 0) S hX hbl hbA hS (vin rfl) h1 dL_law_407 ?_
              refine lv_aload_n hx hb dL_law_408 rfl (lv_at hl 5 rfl) ?_
              refine lv_iload hx hb dL_law_409 (lv_at hl 1 rfl) ?_
              refine lv_iconst (v := 2) hx hb dL_law_411 (by decide) ?_
              refine xiadd (v := 2) S dL_law_412 (by decide) ?_
              refine xsld (v := x2) S hX hbl hbA hS (vin rfl) h2 dL_law_413 ?_
              refine lv_aload_n hx hb dL_law_414 rfl (lv_at hl 5 rfl) ?_
              refine lv_iload hx hb dL_law_415 (lv_at hl 1 rfl) ?_
              refine lv_iconst (v := 3) hx hb dL_law_417 (by decide) ?_
              refine xiadd (v := 3) S dL_law_418 (by decide) ?_
              refine xsld (v := x3) S hX hbl hbA hS (vin rfl) h3 dL_law_419 ?_
              refine fVi [] ((xW o u cI cZ cJ) ++ [(ao, .inl (cJ, 1, .inr (.inl (vp_updL (fun _ => 0) (0 : Int32).toNatClampNeg (-1)))))]) (mid := (mW om 0 q cI cZ)) (As := [.int 0, .int x2, .int x3]) (ci := 9) S (c_X9_ofName_6 l D cI cZ cJ om q H.size x2 x3 lo_x2 hi_x2 lo_x3 hi_x3) mi_X9_ofName kw_7_127 rfl rfl ⟨Nat.le_of_ble_eq_true rfl, Nat.le_of_ble_eq_true rfl⟩ hP hD hK hS hA mW_0 rfl rfl hl.1 (Nat.le_of_ble_eq_true rfl) ⟨Nat.le_of_ble_eq_true rfl, Nat.le_of_ble_eq_true rfl⟩ dL_law_420 (fun H locs hz hP hD hS => ?_)
              have hP : va_P D vwCl ((mW om 0 q cI cZ) ++ ((xW o u cI cZ cJ) ++ [(ao, .inl (cJ, 1, .inr (.inl (vp_updL (fun _ => 0) (0 : Int32).toNatClampNeg (-1)))))])) H := hP
              have hD : va_D A ((mW om 0 q cI cZ) ++ ((xW o u cI cZ cJ) ++ [(ao, .inl (cJ, 1, .inr (.inl (vp_updL (fun _ => 0) (0 : Int32).toNatClampNeg (-1)))))])) := hD
              refine lv_istore (lv' := [(6, .int (-1)), (5, .int 0), (4, .int 0), (3, .ref ao), (2, .ref om), (1, .ref o), (0, .ref b)]) hx hb dL_law_423 hl (by decide) rfl (fun ls hl => ?_)
              refine lv_aload_n hx hb dL_law_425 rfl (lv_at hl 4 rfl) ?_
              refine rdV (As := []) (ci := 9) S (c_X9_thrown_8 l D cI cZ cJ om q) mi_X9_thrown kw_7_89 ⟨rfl, rfl⟩ ⟨Nat.le_of_ble_eq_true rfl, Nat.le_of_ble_eq_true rfl⟩ (va_Pl (ws := (mW om 0 q cI cZ)) (x := ((xW o u cI cZ cJ) ++ [(ao, .inl (cJ, 1, .inr (.inl (vp_updL (fun _ => 0) (0 : Int32).toNatClampNeg (-1)))))])) hP) hK mW_0 rfl rfl hl.1 (Nat.le_of_ble_eq_true rfl) ⟨Nat.le_of_ble_eq_true rfl, Nat.le_of_ble_eq_true rfl⟩ dL_law_426 ?_
              refine lv_iload hx hb dL_law_429 (lv_at hl 1 rfl) ?_
              refine lv_icmp_eq (tgt := 436) hx hb dL_law_431 (by decide) (fun _ => ?_) (fun c => absurd c (by decide))
              refine lv_iload hx hb dL_law_436 (lv_at hl 1 rfl) ?_
              refine lv_if_ne (tgt := 453) hx hb dL_law_438 (by decide) (fun c => absurd c (by decide)) (fun _ => ?_)
              refine lv_aload_n hx hb dL_law_441 rfl (lv_at hl 3 rfl) ?_
              refine lv_iconst (v := 0) hx hb dL_law_442 (by decide) ?_
              refine xlald (t0 := 2) (v := (-1)) S hK hP (q0 := 119) rfl rfl (vin rfl) rfl dL_law_443 ?_
              refine lv_iload hx hb dL_law_444 (lv_at hl 0 rfl) ?_
              refine lv_i2l (v := (-1)) hx hb dL_law_446 (by decide) ?_
              refine xlcmp (v := 0) S dL_law_447 (by decide) ?_
              refine lv_if_eq (tgt := 453) hx hb dL_law_448 (by decide) (fun _ => ?_) (fun c => absurd c (by decide))
              refine lv_goto (tgt := 1519) hx hb dL_law_453 (by decide) ?_
              exact law_tail (C := 120) (Z := 12958) S hr hlocks hX hbl (lv_sub hl [2, 6] rfl) hS (Nat.le_of_ble_eq_true rfl) (Nat.le_of_ble_eq_true rfl)

set_option maxHeartbeats 8000000 in
set_option maxRecDepth 100000 in
theorem law_4 (l : Launch) (hst : l.stackTraces = false) (D : va_G) (cI cZ cJ : ClassId) {p : Program} {e : Env} {s : State} {m : MethodId} {below : List Frame} {meth : Method} {c : Code} {b : Nat} {xs : Nat → Int32} (S : CallFix p m c cL_law 9 s #[Value.ref b] uG RL) (hr : meth.sig.returnType = ret) (hlocks : meth.locks = false) (hX : va_X b 5 xs s s.heap) (hbl : b < s.heap.size) (hK : va_K D vwCl (tyL cI cZ cJ) s) (ra ga : Nat → Nat) (hB : amb ra ga (fun q => s.heap.size ≤ q) s s.heap) (hC : ambC s) (x1 x2 x3 x4 : Int32) (h1 : xs 1 = x1) (h2 : xs 2 = x2) (h3 : xs 3 = x3) (h4 : xs 4 = x4) (o om ao : Nat) (u q : Nat → Nat) (ls : Array Slot) (H : Heap) (locs : List Loc) (hl : lv_has ls 9 [(4, .int 0), (3, .ref ao), (2, .ref om), (1, .ref o), (0, .ref b)]) (hP : va_P D vwCl ((mW om 0 q cI cZ) ++ ((xW o u cI cZ cJ) ++ [(ao, .inl (cJ, 1, .inr (.inl (fun _ => 0))))])) H) (hD : va_D (fun q => s.heap.size ≤ q) ((mW om 0 q cI cZ) ++ ((xW o u cI cZ cJ) ++ [(ao, .inl (cJ, 1, .inr (.inl (fun _ => 0))))]))) (hS : va_S (fun q => s.heap.size ≤ q) s.heap H locs) : W p l e room_1 s m #[Value.ref b] below meth c H locs 120 12958 (lw_Z below #[Value.ref b] s) (F0 m 456 ls []) := by
  have hx := S.1
  have hb := S.2.1
  have hA : ∀ q : Nat, s.heap.size ≤ q → (fun q : Nat => s.heap.size ≤ q) q := fun _ h => h
  have hbA : ¬ (fun q : Nat => s.heap.size ≤ q) b := Nat.not_le.mpr hbl
  refine lv_aload_n hx hb dL_law_456 rfl (lv_at hl 3 rfl) ?_
  refine lv_aload_n hx hb dL_law_457 rfl (lv_at hl 4 rfl) ?_
  refine lv_iload hx hb dL_law_458 (lv_at hl 0 rfl) ?_
  refine lv_iconst (v := 1) hx hb dL_law_460 (by decide) ?_
  refine xiadd (v := 1) S dL_law_461 (by decide) ?_
  refine xsld (v := x1) S hX hbl hbA hS (vin rfl) h1 dL_law_462 ?_
  refine lv_aload_n hx hb dL_law_463 rfl (lv_at hl 4 rfl) ?_
  refine lv_iload hx hb dL_law_464 (lv_at hl 0 rfl) ?_
  refine lv_iconst (v := 2) hx hb dL_law_466 (by decide) ?_
  refine xiadd (v := 2) S dL_law_467 (by decide) ?_
  refine xsld (v := x2) S hX hbl hbA hS (vin rfl) h2 dL_law_468 ?_
  refine lv_aload_n hx hb dL_law_469 rfl (lv_at hl 1 rfl) ?_
  by_cases d_470 : 6 < x2
  · have lo_x2 : 7 ≤ x2 := l_gt d_470 (by decide)
    by_cases d_470 : x1 < 0
    · have hi_x1 : x1 ≤ (-1) := u_lt d_470 (by decide)
      refine wrap (mW om 0 q cI cZ) (mid := ((xW o u cI cZ cJ) ++ [(ao, .inl (cJ, 1, .inr (.inl (fun _ => 0))))])) (As := [.ref o, .int x1, .int x2, .ref ao]) S (h_ofProcedure_0 l D cI cZ cJ o u ao hst ra ga H.size x1 x2 hi_x1 lo_x2) msh_L_ofProcedure kw_6_16 rfl rfl ⟨Nat.le_of_ble_eq_true rfl, Nat.le_of_ble_eq_true rfl⟩ hP hD hK hS hA hB hC hl.1 (Nat.le_of_ble_eq_true rfl) ⟨Nat.le_of_ble_eq_true rfl, Nat.le_of_ble_eq_true rfl⟩ dL_law_470 (fun H locs hz hP hD hS => ?_)
      have hP : va_P D vwCl ((mW om 0 q cI cZ) ++ ((xW o u cI cZ cJ) ++ [(ao, .inl (cJ, 1, .inr (.inl (fun _ => 0))))])) H := hP
      have hD : va_D A ((mW om 0 q cI cZ) ++ ((xW o u cI cZ cJ) ++ [(ao, .inl (cJ, 1, .inr (.inl (fun _ => 0))))])) := hD
      refine lv_istore (lv' := [(5, .int 1), (4, .int 0), (3, .ref ao), (2, .ref om), (1, .ref o), (0, .ref b)]) hx hb dL_law_473 hl (by decide) rfl (fun ls hl => ?_)
      refine lv_aload_n hx hb dL_law_475 rfl (lv_at hl 3 rfl) ?_
      refine lv_aload_n hx hb dL_law_476 rfl (lv_at hl 5 rfl) ?_
      refine lv_iload hx hb dL_law_477 (lv_at hl 1 rfl) ?_
      refine lv_iconst (v := 1) hx hb dL_law_479 (by decide) ?_
      refine xiadd (v := 1) S dL_law_480 (by decide) ?_
      refine xsld (v := x1) S hX hbl hbA hS (vin rfl) h1 dL_law_481 ?_
      refine lv_aload_n hx hb dL_law_482 rfl (lv_at hl 5 rfl) ?_
      refine lv_iload hx hb dL_law_483 (lv_at hl 1 rfl) ?_
      refine lv_iconst (v := 2) hx hb dL_law_485 (by decide) ?_
      refine xiadd (v := 2) S dL_law_486 (by decide) ?_
      refine xsld (v := x2) S hX hbl hbA hS (vin rfl) h2 dL_law_487 ?_
      refine fVi [] ((xW o u cI cZ cJ) ++ [(ao, .inl (cJ, 1, .inr (.inl (fun _ => 0))))]) (mid := (mW om 0 q cI cZ)) (As := [.int x1, .int x2]) (ci := 9) S (c_X9_ofProcedure_0 l D cI cZ cJ om q H.size x1 x2 hi_x1 lo_x2) mi_X9_ofProcedure kw_7_199 rfl rfl ⟨Nat.le_of_ble_eq_true rfl, Nat.le_of_ble_eq_true rfl⟩ hP hD hK hS hA mW_0 rfl rfl hl.1 (Nat.le_of_ble_eq_true rfl) ⟨Nat.le_of_ble_eq_true rfl, Nat.le_of_ble_eq_true rfl⟩ dL_law_488 (fun H locs hz hP hD hS => ?_)
      have hP : va_P D vwCl ((mW om 1 q cI cZ) ++ ((xW o u cI cZ cJ) ++ [(ao, .inl (cJ, 1, .inr (.inl (fun _ => 0))))])) H := hP
      have hD : va_D A ((mW om 1 q cI cZ) ++ ((xW o u cI cZ cJ) ++ [(ao, .inl (cJ, 1, .inr (.inl (fun _ => 0))))])) := hD
      refine lv_istore (lv' := [(6, .int 0), (5, .int 1), (4, .int 0), (3, .ref ao), (2, .ref om), (1, .ref o), (0, .ref b)]) hx hb dL_law_491 hl (by decide) rfl (fun ls hl => ?_)
      refine lv_aload_n hx hb dL_law_493 rfl (lv_at hl 4 rfl) ?_
      refine rdV (As := []) (ci := 9) S (c_X9_thrown_0 l D cI cZ cJ om q) mi_X9_thrown kw_7_89 ⟨rfl, rfl⟩ ⟨Nat.le_of_ble_eq_true rfl, Nat.le_of_ble_eq_true rfl⟩ (va_Pl (ws := (mW om 1 q cI cZ)) (x := ((xW o u cI cZ cJ) ++ [(ao, .inl (cJ, 1, .inr (.inl (fun _ => 0))))])) hP) hK mW_0 rfl rfl hl.1 (Nat.le_of_ble_eq_true rfl) ⟨Nat.le_of_ble_eq_true rfl, Nat.le_of_ble_eq_true rfl⟩ dL_law_494 ?_
      refine lv_iload hx hb dL_law_497 (lv_at hl 1 rfl) ?_
      refine lv_icmp_eq (tgt := 504) hx hb dL_law_499 (by decide) (fun _ => ?_) (fun c => absurd c (by decide))
      refine lv_iload hx hb dL_law_504 (lv_at hl 1 rfl) ?_
      refine lv_if_ne (tgt := 521) hx hb dL_law_506 (by decide) (fun _ => ?_) (fun c => absurd c (by decide))
      refine lv_goto (tgt := 1519) hx hb dL_law_521 (by decide) ?_
      exact law_tail (C := 121) (Z := 12964) S hr hlocks hX hbl (lv_sub hl [2, 6] rfl) hS (Nat.le_of_ble_eq_true rfl) (Nat.le_of_ble_eq_true rfl)
    · have lo_x1 : 0 ≤ x1 := l_nlt d_470
      by_cases d_470 : 1 ≤ x1
      · have lo_x1 : 1 ≤ x1 := d_470
        refine wrap (mW om 0 q cI cZ) (mid := ((xW o u cI cZ cJ) ++ [(ao, .inl (cJ, 1, .inr (.inl (fun _ => 0))))])) (As := [.ref o, .int x1, .int x2, .ref ao]) S (h_ofProcedure_1 l D cI cZ cJ o u ao hst ra ga H.size x1 x2 lo_x1 lo_x2) msh_L_ofProcedure kw_6_16 rfl rfl ⟨Nat.le_of_ble_eq_true rfl, Nat.le_of_ble_eq_true rfl⟩ hP hD hK hS hA hB hC hl.1 (Nat.le_of_ble_eq_true rfl) ⟨Nat.le_of_ble_eq_true rfl, Nat.le_of_ble_eq_true rfl⟩ dL_law_470 (fun H locs hz hP hD hS => ?_)
        have hP : va_P D vwCl ((mW om 0 q cI cZ) ++ ((xW o u cI cZ cJ) ++ [(ao, .inl (cJ, 1, .inr (.inl (fun _ => 0))))])) H := hP
        have hD : va_D A ((mW om 0 q cI cZ) ++ ((xW o u cI cZ cJ) ++ [(ao, .inl (cJ, 1, .inr (.inl (fun _ => 0))))])) := hD
        refine lv_istore (lv' := [(5, .int 1), (4, .int 0), (3, .ref ao), (2, .ref om), (1, .ref o), (0, .ref b)]) hx hb dL_law_473 hl (by decide) rfl (fun ls hl => ?_)
        refine lv_aload_n hx hb dL_law_475 rfl (lv_at hl 3 rfl) ?_
        refine lv_aload_n hx hb dL_law_476 rfl (lv_at hl 5 rfl) ?_
        refine lv_iload hx hb dL_law_477 (lv_at hl 1 rfl) ?_
        refine lv_iconst (v := 1) hx hb dL_law_479 (by decide) ?_
        refine xiadd (v := 1) S dL_law_480 (by decide) ?_
        refine xsld (v := x1) S hX hbl hbA hS (vin rfl) h1 dL_law_481 ?_
        refine lv_aload_n hx hb dL_law_482 rfl (lv_at hl 5 rfl) ?_
        refine lv_iload hx hb dL_law_483 (lv_at hl 1 rfl) ?_
        refine lv_iconst (v := 2) hx hb dL_law_485 (by decide) ?_
        refine xiadd (v := 2) S dL_law_486 (by decide) ?_
        refine xsld (v := x2) S hX hbl hbA hS (vin rfl) h2 dL_law_487 ?_
        refine fVi [] ((xW o u cI cZ cJ) ++ [(ao, .inl (cJ, 1, .inr (.inl (fun _ => 0))))]) (mid := (mW om 0 q cI cZ)) (As := [.int x1, .int x2]) (ci := 9) S (c_X9_ofProcedure_1 l D cI cZ cJ om q H.size x1 x2 lo_x1 lo_x2) mi_X9_ofProcedure kw_7_199 rfl rfl ⟨Nat.le_of_ble_eq_true rfl, Nat.le_of_ble_eq_true rfl⟩ hP hD hK hS hA mW_0 rfl rfl hl.1 (Nat.le_of_ble_eq_true rfl) ⟨Nat.le_of_ble_eq_true rfl, Nat.le_of_ble_eq_true rfl⟩ dL_law_488 (fun H locs hz hP hD hS => ?_)
        have hP : va_P D vwCl ((mW om 1 q cI cZ) ++ ((xW o u cI cZ cJ) ++ [(ao, .inl (cJ, 1, .inr (.inl (fun _ => 0))))])) H := hP
        have hD : va_D A ((mW om 1 q cI cZ) ++ ((xW o u cI cZ cJ) ++ [(ao, .inl (cJ, 1, .inr (.inl (fun _ => 0))))])) := hD
        refine lv_istore (lv' := [(6, .int 0), (5, .int 1), (4, .int 0), (3, .ref ao), (2, .ref om), (1, .ref o), (0, .ref b)]) hx hb dL_law_491 hl (by decide) rfl (fun ls hl => ?_)
        refine lv_aload_n hx hb dL_law_493 rfl (lv_at hl 4 rfl) ?_
        refine rdV (As := []) (ci := 9) S (c_X9_thrown_0 l D cI cZ cJ om q) mi_X9_thrown kw_7_89 ⟨rfl, rfl⟩ ⟨Nat.le_of_ble_eq_true rfl, Nat.le_of_ble_eq_true rfl⟩ (va_Pl (ws := (mW om 1 q cI cZ)) (x := ((xW o u cI cZ cJ) ++ [(ao, .inl (cJ, 1, .inr (.inl (fun _ => 0))))])) hP) hK mW_0 rfl rfl hl.1 (Nat.le_of_ble_eq_true rfl) ⟨Nat.le_of_ble_eq_true rfl, Nat.le_of_ble_eq_true rfl⟩ dL_law_494 ?_
        refine lv_iload hx hb dL_law_497 (lv_at hl 1 rfl) ?_
        refine lv_icmp_eq (tgt := 504) hx hb dL_law_499 (by decide) (fun _ => ?_) (fun c => absurd c (by decide))
        refine lv_iload hx hb dL_law_504 (lv_at hl 1 rfl) ?_
        refine lv_if_ne (tgt := 521) hx hb dL_law_506 (by decide) (fun _ => ?_) (fun c => absurd c (by decide))
        refine lv_goto (tgt := 1519) hx hb dL_law_521 (by decide) ?_
        exact law_tail (C := 121) (Z := 12964) S hr hlocks hX hbl (lv_sub hl [2, 6] rfl) hS (Nat.le_of_ble_eq_true rfl) (Nat.le_of_ble_eq_true rfl)
      · have hi_x1 : x1 ≤ 0 := u_nge d_470 (by decide)
        have e_x1 : x1 = 0 := b_eq lo_x1 hi_x1
        subst e_x1
        by_cases d_470 : 7 < x2
        · have lo_x2 : 8 ≤ x2 := l_gt d_470 (by decide)
          refine wrap (mW om 0 q cI cZ) (mid := ((xW o u cI cZ cJ) ++ [(ao, .inl (cJ, 1, .inr (.inl (fun _ => 0))))])) (As := [.ref o, .int 0, .int x2, .ref ao]) S (h_ofProcedure_2 l D cI cZ cJ o u ao hst ra ga H.size x2 lo_x2) msh_L_ofProcedure kw_6_16 rfl rfl ⟨Nat.le_of_ble_eq_true rfl, Nat.le_of_ble_eq_true rfl⟩ hP hD hK hS hA hB hC hl.1 (Nat.le_of_ble_eq_true rfl) ⟨Nat.le_of_ble_eq_true rfl, Nat.le_of_ble_eq_true rfl⟩ dL_law_470 (fun H locs hz hP hD hS => ?_)
          have hP : va_P D vwCl ((mW om 0 q cI cZ) ++ ((xW o u cI cZ cJ) ++ [(ao, .inl (cJ, 1, .inr (.inl (fun _ => 0))))])) H := hP
          have hD : va_D A ((mW om 0 q cI cZ) ++ ((xW o u cI cZ cJ) ++ [(ao, .inl (cJ, 1, .inr (.inl (fun _ => 0))))])) := hD
          refine lv_istore (lv' := [(5, .int 2), (4, .int 0), (3, .ref ao), (2, .ref om), (1, .ref o), (0, .ref b)]) hx hb dL_law_473 hl (by decide) rfl (fun ls hl => ?_)
          refine lv_aload_n hx hb dL_law_475 rfl (lv_at hl 3 rfl) ?_
          refine lv_aload_n hx hb dL_law_476 rfl (lv_at hl 5 rfl) ?_
          refine lv_iload hx hb dL_law_477 (lv_at hl 1 rfl) ?_
          refine lv_iconst (v := 1) hx hb dL_law_479 (by decide) ?_
          refine xiadd (v := 1) S dL_law_480 (by decide) ?_
          refine xsld (v := 0) S hX hbl hbA hS (vin rfl) h1 dL_law_481 ?_
          refine lv_aload_n hx hb dL_law_482 rfl (lv_at hl 5 rfl) ?_
          refine lv_iload hx hb dL_law_483 (lv_at hl 1 rfl) ?_
          refine lv_iconst (v := 2) hx hb dL_law_485 (by decide) ?_
          refine xiadd (v := 2) S dL_law_486 (by decide) ?_
          refine xsld (v := x2) S hX hbl hbA hS (vin rfl) h2 dL_law_487 ?_
          refine fVi [] ((xW o u cI cZ cJ) ++ [(ao, .inl (cJ, 1, .inr (.inl (fun _ => 0))))]) (mid := (mW om 0 q cI cZ)) (As := [.int 0, .int x2]) (ci := 9) S (c_X9_ofProcedure_2 l D cI cZ cJ om q H.size x2 lo_x2) mi_X9_ofProcedure kw_7_199 rfl rfl ⟨Nat.le_of_ble_eq_true rfl, Nat.le_of_ble_eq_true rfl⟩ hP hD hK hS hA mW_0 rfl rfl hl.1 (Nat.le_of_ble_eq_true rfl) ⟨Nat.le_of_ble_eq_true rfl, Nat.le_of_ble_eq_true rfl⟩ dL_law_488 (fun H locs hz hP hD hS => ?_)
          have hP : va_P D vwCl ((mW om 2 q cI cZ) ++ ((xW o u cI cZ cJ) ++ [(ao, .inl (cJ, 1, .inr (.inl (fun _ => 0))))])) H := hP
          have hD : va_D A ((mW om 2 q cI cZ) ++ ((xW o u cI cZ cJ) ++ [(ao, .inl (cJ, 1, .inr (.inl (fun _ => 0))))])) := hD
          refine lv_istore (lv' := [(6, .int 0), (5, .int 2), (4, .int 0), (3, .ref ao), (2, .ref om), (1, .ref o), (0, .ref b)]) hx hb dL_law_491 hl (by decide) rfl (fun ls hl => ?_)
          refine lv_aload_n hx hb dL_law_493 rfl (lv_at hl 4 rfl) ?_
          refine rdV (As := []) (ci := 9) S (c_X9_thrown_1 l D cI cZ cJ om q) mi_X9_thrown kw_7_89 ⟨rfl, rfl⟩ ⟨Nat.le_of_ble_eq_true rfl, Nat.le_of_ble_eq_true rfl⟩ (va_Pl (ws := (mW om 2 q cI cZ)) (x := ((xW o u cI cZ cJ) ++ [(ao, .inl (cJ, 1, .inr (.inl (fun _ => 0))))])) hP) hK mW_0 rfl rfl hl.1 (Nat.le_of_ble_eq_true rfl) ⟨Nat.le_of_ble_eq_true rfl, Nat.le_of_ble_eq_true rfl⟩ dL_law_494 ?_
          refine lv_iload hx hb dL_law_497 (lv_at hl 1 rfl) ?_
          refine lv_icmp_eq (tgt := 504) hx hb dL_law_499 (by decide) (fun _ => ?_) (fun c => absurd c (by decide))
          refine lv_iload hx hb dL_law_504 (lv_at hl 1 rfl) ?_
          refine lv_if_ne (tgt := 521) hx hb dL_law_506 (by decide) (fun _ => ?_) (fun c => absurd c (by decide))
          refine lv_goto (tgt := 1519) hx hb dL_law_521 (by decide) ?_
          exact law_tail (C := 121) (Z := 12964) S hr hlocks hX hbl (lv_sub hl [2, 6] rfl) hS (Nat.le_of_ble_eq_true rfl) (Nat.le_of_ble_eq_true rfl)
        · have hi_x2 : x2 ≤ 7 := u_ngt d_470
          have e_x2 : x2 = 7 := b_eq lo_x2 hi_x2
          subst e_x2
          refine wrap (mW om 0 q cI cZ) (mid := ((xW o u cI cZ cJ) ++ [(ao, .inl (cJ, 1, .inr (.inl (fun _ => 0))))])) (As := [.ref o, .int 0, .int 7, .ref ao]) S (h_ofProcedure_3 l D cI cZ cJ o u ao hst ra ga H.size) msh_L_ofProcedure kw_6_16 rfl rfl ⟨Nat.le_of_ble_eq_true rfl, Nat.le_of_ble_eq_true rfl⟩ hP hD hK hS hA hB hC hl.1 (Nat.le_of_ble_eq_true rfl) ⟨Nat.le_of_ble_eq_true rfl, Nat.le_of_ble_eq_true rfl⟩ dL_law_470 (fun H locs hz hP hD hS => ?_)
          have hP : va_P D vwCl ((mW om 0 q cI cZ) ++ ((((((((xW o u cI cZ cJ).set 0 (o, .inr (8, ((xF u).set 9 (.int 0))))).set 32 ((u 31), .inl (cZ, 10, .inl (upd (upd (upd (upd (upd (upd (upd (upd (upd (upd (fun _ => 0) (0 : Int32).toNatClampNeg 0) (1 : Int32).toNatClampNeg 0) (2 : Int32).toNatClampNeg 0) (3 : Int32).toNatClampNeg 0) (4 : Int32).toNatClampNeg 0) (5 : Int32).toNatClampNeg 0) (6 : Int32).toNatClampNeg 0) (7 : Int32).toNatClampNeg 0) (8 : Int32).toNatClampNeg 0) (9 : Int32).toNatClampNeg 0)))).set 34 ((u 33), .inr (2, ([.ref (u 0), .ref (u 12), .ref (u 19), .int 0, .ref (u 34), .ref (u 35), .ref (u 36), .ref (u 37), .int 0].set 3 (.int 1))))).set 35 ((u 34), .inl (cI, 120, .inl (upd (fun _ => 0) (0 : Int32).toNatClampNeg 10)))).set 36 ((u 35), .inl (cI, 120, .inl (upd (fun _ => 0) (0 : Int32).toNatClampNeg 0)))).set 37 ((u 36), .inl (cI, 120, .inl (upd (fun _ => 0) (0 : Int32).toNatClampNeg (-1))))) ++ [(ao, .inl (cJ, 1, .inr (.inl (vp_updL (fun _ => 0) (0 : Int32).toNatClampNeg 0))))])) H := hP
          have hD : va_D A ((mW om 0 q cI cZ) ++ ((((((((xW o u cI cZ cJ).set 0 (o, .inr (8, ((xF u).set 9 (.int 0))))).set 32 ((u 31), .inl (cZ, 10, .inl (upd (upd (upd (upd (upd (upd (upd (upd (upd (upd (fun _ => 0) (0 : Int32).toNatClampNeg 0) (1 : Int32).toNatClampNeg 0) (2 : Int32).toNatClampNeg 0) (3 : Int32).toNatClampNeg 0) (4 : Int32).toNatClampNeg 0) (5 : Int32).toNatClampNeg 0) (6 : Int32).toNatClampNeg 0) (7 : Int32).toNatClampNeg 0) (8 : Int32).toNatClampNeg 0) (9 : Int32).toNatClampNeg 0)))).set 34 ((u 33), .inr (2, ([.ref (u 0), .ref (u 12), .ref (u 19), .int 0, .ref (u 34), .ref (u 35), .ref (u 36), .ref (u 37), .int 0].set 3 (.int 1))))).set 35 ((u 34), .inl (cI, 120, .inl (upd (fun _ => 0) (0 : Int32).toNatClampNeg 10)))).set 36 ((u 35), .inl (cI, 120, .inl (upd (fun _ => 0) (0 : Int32).toNatClampNeg 0)))).set 37 ((u 36), .inl (cI, 120, .inl (upd (fun _ => 0) (0 : Int32).toNatClampNeg (-1))))) ++ [(ao, .inl (cJ, 1, .inr (.inl (vp_updL (fun _ => 0) (0 : Int32).toNatClampNeg 0))))])) := hD
          refine lv_istore (lv' := [(5, .int 0), (4, .int 0), (3, .ref ao), (2, .ref om), (1, .ref o), (0, .ref b)]) hx hb dL_law_473 hl (by decide) rfl (fun ls hl => ?_)
          refine lv_aload_n hx hb dL_law_475 rfl (lv_at hl 3 rfl) ?_
          refine lv_aload_n hx hb dL_law_476 rfl (lv_at hl 5 rfl) ?_
          refine lv_iload hx hb dL_law_477 (lv_at hl 1 rfl) ?_
          refine lv_iconst (v := 1) hx hb dL_law_479 (by decide) ?_
          refine xiadd (v := 1) S dL_law_480 (by decide) ?_
          refine xsld (v := 0) S hX hbl hbA hS (vin rfl) h1 dL_law_481 ?_
          refine lv_aload_n hx hb dL_law_482 rfl (lv_at hl 5 rfl) ?_
          refine lv_iload hx hb dL_law_483 (lv_at hl 1 rfl) ?_
          refine lv_iconst (v := 2) hx hb dL_law_485 (by decide) ?_
          refine xiadd (v := 2) S dL_law_486 (by decide) ?_
          refine xsld (v := 7) S hX hbl hbA hS (vin rfl) h2 dL_law_487 ?_
          refine fVi [] ((((((((xW o u cI cZ cJ).set 0 (o, .inr (8, ((xF u).set 9 (.int 0))))).set 32 ((u 31), .inl (cZ, 10, .inl (upd (upd (upd (upd (upd (upd (upd (upd (upd (upd (fun _ => 0) (0 : Int32).toNatClampNeg 0) (1 : Int32).toNatClampNeg 0) (2 : Int32).toNatClampNeg 0) (3 : Int32).toNatClampNeg 0) (4 : Int32).toNatClampNeg 0) (5 : Int32).toNatClampNeg 0) (6 : Int32).toNatClampNeg 0) (7 : Int32).toNatClampNeg 0) (8 : Int32).toNatClampNeg 0) (9 : Int32).toNatClampNeg 0)))).set 34 ((u 33), .inr (2, ([.ref (u 0), .ref (u 12), .ref (u 19), .int 0, .ref (u 34), .ref (u 35), .ref (u 36), .ref (u 37), .int 0].set 3 (.int 1))))).set 35 ((u 34), .inl (cI, 120, .inl (upd (fun _ => 0) (0 : Int32).toNatClampNeg 10)))).set 36 ((u 35), .inl (cI, 120, .inl (upd (fun _ => 0) (0 : Int32).toNatClampNeg 0)))).set 37 ((u 36), .inl (cI, 120, .inl (upd (fun _ => 0) (0 : Int32).toNatClampNeg (-1))))) ++ [(ao, .inl (cJ, 1, .inr (.inl (vp_updL (fun _ => 0) (0 : Int32).toNatClampNeg 0))))]) (mid := (mW om 0 q cI cZ)) (As := [.int 0, .int 7]) (ci := 9) S (c_X9_ofProcedure_3 l D cI cZ cJ om q H.size) mi_X9_ofProcedure kw_7_199 rfl rfl ⟨Nat.le_of_ble_eq_true rfl, Nat.le_of_ble_eq_true rfl⟩ hP hD hK hS hA mW_0 rfl rfl hl.1 (Nat.le_of_ble_eq_true rfl) ⟨Nat.le_of_ble_eq_true rfl, Nat.le_of_ble_eq_true rfl⟩ dL_law_488 (fun H locs hz hP hD hS => ?_)
          have hP : va_P D vwCl ((mW om 0 q cI cZ) ++ ((((((((xW o u cI cZ cJ).set 0 (o, .inr (8, ((xF u).set 9 (.int 0))))).set 32 ((u 31), .inl (cZ, 10, .inl (upd (upd (upd (upd (upd (upd (upd (upd (upd (upd (fun _ => 0) (0 : Int32).toNatClampNeg 0) (1 : Int32).toNatClampNeg 0) (2 : Int32).toNatClampNeg 0) (3 : Int32).toNatClampNeg 0) (4 : Int32).toNatClampNeg 0) (5 : Int32).toNatClampNeg 0) (6 : Int32).toNatClampNeg 0) (7 : Int32).toNatClampNeg 0) (8 : Int32).toNatClampNeg 0) (9 : Int32).toNatClampNeg 0)))).set 34 ((u 33), .inr (2, ([.ref (u 0), .ref (u 12), .ref (u 19), .int 0, .ref (u 34), .ref (u 35), .ref (u 36), .ref (u 37), .int 0].set 3 (.int 1))))).set 35 ((u 34), .inl (cI, 120, .inl (upd (fun _ => 0) (0 : Int32).toNatClampNeg 10)))).set 36 ((u 35), .inl (cI, 120, .inl (upd (fun _ => 0) (0 : Int32).toNatClampNeg 0)))).set 37 ((u 36), .inl (cI, 120, .inl (upd (fun _ => 0) (0 : Int32).toNatClampNeg (-1))))) ++ [(ao, .inl (cJ, 1, .inr (.inl (vp_updL (fun _ => 0) (0 : Int32).toNatClampNeg 0))))])) H := hP
          have hD : va_D A ((mW om 0 q cI cZ) ++ ((((((((xW o u cI cZ cJ).set 0 (o, .inr (8, ((xF u).set 9 (.int 0))))).set 32 ((u 31), .inl (cZ, 10, .inl (upd (upd (upd (upd (upd (upd (upd (upd (upd (upd (fun _ => 0) (0 : Int32).toNatClampNeg 0) (1 : Int32).toNatClampNeg 0) (2 : Int32).toNatClampNeg 0) (3 : Int32).toNatClampNeg 0) (4 : Int32).toNatClampNeg 0) (5 : Int32).toNatClampNeg 0) (6 : Int32).toNatClampNeg 0) (7 : Int32).toNatClampNeg 0) (8 : Int32).toNatClampNeg 0) (9 : Int32).toNatClampNeg 0)))).set 34 ((u 33), .inr (2, ([.ref (u 0), .ref (u 12), .ref (u 19), .int 0, .ref (u 34), .ref (u 35), .ref (u 36), .ref (u 37), .int 0].set 3 (.int 1))))).set 35 ((u 34), .inl (cI, 120, .inl (upd (fun _ => 0) (0 : Int32).toNatClampNeg 10)))).set 36 ((u 35), .inl (cI, 120, .inl (upd (fun _ => 0) (0 : Int32).toNatClampNeg 0)))).set 37 ((u 36), .inl (cI, 120, .inl (upd (fun _ => 0) (0 : Int32).toNatClampNeg (-1))))) ++ [(ao, .inl (cJ, 1, .inr (.inl (vp_updL (fun _ => 0) (0 : Int32).toNatClampNeg 0))))])) := hD
          refine lv_istore (lv' := [(6, .int 0), (5, .int 0), (4, .int 0), (3, .ref ao), (2, .ref om), (1, .ref o), (0, .ref b)]) hx hb dL_law_491 hl (by decide) rfl (fun ls hl => ?_)
          refine lv_aload_n hx hb dL_law_493 rfl (lv_at hl 4 rfl) ?_
          refine rdV (As := []) (ci := 9) S (c_X9_thrown_8 l D cI cZ cJ om q) mi_X9_thrown kw_7_89 ⟨rfl, rfl⟩ ⟨Nat.le_of_ble_eq_true rfl, Nat.le_of_ble_eq_true rfl⟩ (va_Pl (ws := (mW om 0 q cI cZ)) (x := ((((((((xW o u cI cZ cJ).set 0 (o, .inr (8, ((xF u).set 9 (.int 0))))).set 32 ((u 31), .inl (cZ, 10, .inl (upd (upd (upd (upd (upd (upd (upd (upd (upd (upd (fun _ => 0) (0 : Int32).toNatClampNeg 0) (1 : Int32).toNatClampNeg 0) (2 : Int32).toNatClampNeg 0) (3 : Int32).toNatClampNeg 0) (4 : Int32).toNatClampNeg 0) (5 : Int32).toNatClampNeg 0) (6 : Int32).toNatClampNeg 0) (7 : Int32).toNatClampNeg 0) (8 : Int32).toNatClampNeg 0) (9 : Int32).toNatClampNeg 0)))).set 34 ((u 33), .inr (2, ([.ref (u 0), .ref (u 12), .ref (u 19), .int 0, .ref (u 34), .ref (u 35), .ref (u 36), .ref (u 37), .int 0].set 3 (.int 1))))).set 35 ((u 34), .inl (cI, 120, .inl (upd (fun _ => 0) (0 : Int32).toNatClampNeg 10)))).set 36 ((u 35), .inl (cI, 120, .inl (upd (fun _ => 0) (0 : Int32).toNatClampNeg 0)))).set 37 ((u 36), .inl (cI, 120, .inl (upd (fun _ => 0) (0 : Int32).toNatClampNeg (-1))))) ++ [(ao, .inl (cJ, 1, .inr (.inl (vp_updL (fun _ => 0) (0 : Int32).toNatClampNeg 0))))])) hP) hK mW_0 rfl rfl hl.1 (Nat.le_of_ble_eq_true rfl) ⟨Nat.le_of_ble_eq_true rfl, Nat.le_of_ble_eq_true rfl⟩ dL_law_494 ?_
          refine lv_iload hx hb dL_law_497 (lv_at hl 1 rfl) ?_
          refine lv_icmp_eq (tgt := 504) hx hb dL_law_499 (by decide) (fun _ => ?_) (fun c => absurd c (by decide))
          refine lv_iload hx hb dL_law_504 (lv_at hl 1 rfl) ?_
          refine lv_if_ne (tgt := 521) hx hb dL_law_506 (by decide) (fun c => absurd c (by decide)) (fun _ => ?_)
          refine lv_aload_n hx hb dL_law_509 rfl (lv_at hl 3 rfl) ?_
          refine lv_iconst (v := 0) hx hb dL_law_510 (by decide) ?_
          refine xlald (t0 := 2) (v := 0) S hK hP (q0 := 119) rfl rfl (vin rfl) rfl dL_law_511 ?_
          refine lv_iload hx hb dL_law_512 (lv_at hl 0 rfl) ?_
          refine lv_i2l (v := 0) hx hb dL_law_514 (by decide) ?_
          refine xlcmp (v := 0) S dL_law_515 (by decide) ?_
          refine lv_if_eq (tgt := 521) hx hb dL_law_516 (by decide) (fun _ => ?_) (fun c => absurd c (by decide))
          refine lv_goto (tgt := 1519) hx hb dL_law_521 (by decide) ?_
          exact law_tail (C := 121) (Z := 13069) S hr hlocks hX hbl (lv_sub hl [2, 6] rfl) hS (Nat.le_of_ble_eq_true rfl) (Nat.le_of_ble_eq_true rfl)
  · have hi_x2 : x2 ≤ 6 := u_ngt d_470
    by_cases d_470 : x2 = 0
    · have e_x2 : x2 = 0 := d_470
      subst e_x2
      by_cases d_470 : x1 < 0
      · have hi_x1 : x1 ≤ (-1) := u_lt d_470 (by decide)
        refine wrap (mW om 0 q cI cZ) (mid := ((xW o u cI cZ cJ) ++ [(ao, .inl (cJ, 1, .inr (.inl (fun _ => 0))))])) (As := [.ref o, .int x1, .int 0, .ref ao]) S (h_ofProcedure_4 l D cI cZ cJ o u ao hst ra ga H.size x1 hi_x1) msh_L_ofProcedure kw_6_16 rfl rfl ⟨Nat.le_of_ble_eq_true rfl, Nat.le_of_ble_eq_true rfl⟩ hP hD hK hS hA hB hC hl.1 (Nat.le_of_ble_eq_true rfl) ⟨Nat.le_of_ble_eq_true rfl, Nat.le_of_ble_eq_true rfl⟩ dL_law_470 (fun H locs hz hP hD hS => ?_)
        have hP : va_P D vwCl ((mW om 0 q cI cZ) ++ ((xW o u cI cZ cJ) ++ [(ao, .inl (cJ, 1, .inr (.inl (fun _ => 0))))])) H := hP
        have hD : va_D A ((mW om 0 q cI cZ) ++ ((xW o u cI cZ cJ) ++ [(ao, .inl (cJ, 1, .inr (.inl (fun _ => 0))))])) := hD
        refine lv_istore (lv' := [(5, .int 1), (4, .int 0), (3, .ref ao), (2, .ref om), (1, .ref o), (0, .ref b)]) hx hb dL_law_473 hl (by decide) rfl (fun ls hl => ?_)
        refine lv_aload_n hx hb dL_law_475 rfl (lv_at hl 3 rfl) ?_
        refine lv_aload_n hx hb dL_law_476 rfl (lv_at hl 5 rfl) ?_
        refine lv_iload hx hb dL_law_477 (lv_at hl 1 rfl) ?_
        refine lv_iconst (v := 1) hx hb dL_law_479 (by decide) ?_
        refine xiadd (v := 1) S dL_law_480 (by decide) ?_
        refine xsld (v := x1) S hX hbl hbA hS (vin rfl) h1 dL_law_481 ?_
        refine lv_aload_n hx hb dL_law_482 rfl (lv_at hl 5 rfl) ?_
        refine lv_iload hx hb dL_law_483 (lv_at hl 1 rfl) ?_
        refine lv_iconst (v := 2) hx hb dL_law_485 (by decide) ?_
        refine xiadd (v := 2) S dL_law_486 (by decide) ?_
        refine xsld (v := 0) S hX hbl hbA hS (vin rfl) h2 dL_law_487 ?_
        refine fVi [] ((xW o u cI cZ cJ) ++ [(ao, .inl (cJ, 1, .inr (.inl (fun _ => 0))))]) (mid := (mW om 0 q cI cZ)) (As := [.int x1, .int 0]) (ci := 9) S (c_X9_ofProcedure_4 l D cI cZ cJ om q H.size x1 hi_x1) mi_X9_ofProcedure kw_7_199 rfl rfl ⟨Nat.le_of_ble_eq_true rfl, Nat.le_of_ble_eq_true rfl⟩ hP hD hK hS hA mW_0 rfl rfl hl.1 (Nat.le_of_ble_eq_true rfl) ⟨Nat.le_of_ble_eq_true rfl, Nat.le_of_ble_eq_true rfl⟩ dL_law_488 (fun H locs hz hP hD hS => ?_)
        have hP : va_P D vwCl ((mW om 1 q cI cZ) ++ ((xW o u cI cZ cJ) ++ [(ao, .inl (cJ, 1, .inr (.inl (fun _ => 0))))])) H := hP
        have hD : va_D A ((mW om 1 q cI cZ) ++ ((xW o u cI cZ cJ) ++ [(ao, .inl (cJ, 1, .inr (.inl (fun _ => 0))))])) := hD
        refine lv_istore (lv' := [(6, .int 0), (5, .int 1), (4, .int 0), (3, .ref ao), (2, .ref om), (1, .ref o), (0, .ref b)]) hx hb dL_law_491 hl (by decide) rfl (fun ls hl => ?_)
        refine lv_aload_n hx hb dL_law_493 rfl (lv_at hl 4 rfl) ?_
        refine rdV (As := []) (ci := 9) S (c_X9_thrown_0 l D cI cZ cJ om q) mi_X9_thrown kw_7_89 ⟨rfl, rfl⟩ ⟨Nat.le_of_ble_eq_true rfl, Nat.le_of_ble_eq_true rfl⟩ (va_Pl (ws := (mW om 1 q cI cZ)) (x := ((xW o u cI cZ cJ) ++ [(ao, .inl (cJ, 1, .inr (.inl (fun _ => 0))))])) hP) hK mW_0 rfl rfl hl.1 (Nat.le_of_ble_eq_true rfl) ⟨Nat.le_of_ble_eq_true rfl, Nat.le_of_ble_eq_true rfl⟩ dL_law_494 ?_
        refine lv_iload hx hb dL_law_497 (lv_at hl 1 rfl) ?_
        refine lv_icmp_eq (tgt := 504) hx hb dL_law_499 (by decide) (fun _ => ?_) (fun c => absurd c (by decide))
        refine lv_iload hx hb dL_law_504 (lv_at hl 1 rfl) ?_
        refine lv_if_ne (tgt := 521) hx hb dL_law_506 (by decide) (fun _ => ?_) (fun c => absurd c (by decide))
        refine lv_goto (tgt := 1519) hx hb dL_law_521 (by decide) ?_
        exact law_tail (C := 121) (Z := 12964) S hr hlocks hX hbl (lv_sub hl [2, 6] rfl) hS (Nat.le_of_ble_eq_true rfl) (Nat.le_of_ble_eq_true rfl)
      · have lo_x1 : 0 ≤ x1 := l_nlt d_470
        by_cases d_470 : 1 ≤ x1
        · have lo_x1 : 1 ≤ x1 := d_470
          refine wrap (mW om 0 q cI cZ) (mid := ((xW o u cI cZ cJ) ++ [(ao, .inl (cJ, 1, .inr (.inl (fun _ => 0))))])) (As := [.ref o, .int x1, .int 0, .ref ao]) S (h_ofProcedure_5 l D cI cZ cJ o u ao hst ra ga H.size x1 lo_x1) msh_L_ofProcedure kw_6_16 rfl rfl ⟨Nat.le_of_ble_eq_true rfl, Nat.le_of_ble_eq_true rfl⟩ hP hD hK hS hA hB hC hl.1 (Nat.le_of_ble_eq_true rfl) ⟨Nat.le_of_ble_eq_true rfl, Nat.le_of_ble_eq_true rfl⟩ dL_law_470 (fun H locs hz hP hD hS => ?_)
          have hP : va_P D vwCl ((mW om 0 q cI cZ) ++ ((xW o u cI cZ cJ) ++ [(ao, .inl (cJ, 1, .inr (.inl (fun _ => 0))))])) H := hP
          have hD : va_D A ((mW om 0 q cI cZ) ++ ((xW o u cI cZ cJ) ++ [(ao, .inl (cJ, 1, .inr (.inl (fun _ => 0))))])) := hD
          refine lv_istore (lv' := [(5, .int 1), (4, .int 0), (3, .ref ao), (2, .ref om), (1, .ref o), (0, .ref b)]) hx hb dL_law_473 hl (by decide) rfl (fun ls hl => ?_)
          refine lv_aload_n hx hb dL_law_475 rfl (lv_at hl 3 rfl) ?_
          refine lv_aload_n hx hb dL_law_476 rfl (lv_at hl 5 rfl) ?_
          refine lv_iload hx hb dL_law_477 (lv_at hl 1 rfl) ?_
          refine lv_iconst (v := 1) hx hb dL_law_479 (by decide) ?_
          refine xiadd (v := 1) S dL_law_480 (by decide) ?_
          refine xsld (v := x1) S hX hbl hbA hS (vin rfl) h1 dL_law_481 ?_
          refine lv_aload_n hx hb dL_law_482 rfl (lv_at hl 5 rfl) ?_
          refine lv_iload hx hb dL_law_483 (lv_at hl 1 rfl) ?_
          refine lv_iconst (v := 2) hx hb dL_law_485 (by decide) ?_
          refine xiadd (v := 2) S dL_law_486 (by decide) ?_
          refine xsld (v := 0) S hX hbl hbA hS (vin rfl) h2 dL_law_487 ?_
          refine fVi [] ((xW o u cI cZ cJ) ++ [(ao, .inl (cJ, 1, .inr (.inl (fun _ => 0))))]) (mid := (mW om 0 q cI cZ)) (As := [.int x1, .int 0]) (ci := 9) S (c_X9_ofProcedure_5 l D cI cZ cJ om q H.size x1 lo_x1) mi_X9_ofProcedure kw_7_199 rfl rfl ⟨Nat.le_of_ble_eq_true rfl, Nat.le_of_ble_eq_true rfl⟩ hP hD hK hS hA mW_0 rfl rfl hl.1 (Nat.le_of_ble_eq_true rfl) ⟨Nat.le_of_ble_eq_true rfl, Nat.le_of_ble_eq_true rfl⟩ dL_law_488 (fun H locs hz hP hD hS => ?_)
          have hP : va_P D vwCl ((mW om 1 q cI cZ) ++ ((xW o u cI cZ cJ) ++ [(ao, .inl (cJ, 1, .inr (.inl (fun _ => 0))))])) H := hP
          have hD : va_D A ((mW om 1 q cI cZ) ++ ((xW o u cI cZ cJ) ++ [(ao, .inl (cJ, 1, .inr (.inl (fun _ => 0))))])) := hD
          refine lv_istore (lv' := [(6, .int 0), (5, .int 1), (4, .int 0), (3, .ref ao), (2, .ref om), (1, .ref o), (0, .ref b)]) hx hb dL_law_491 hl (by decide) rfl (fun ls hl => ?_)
          refine lv_aload_n hx hb dL_law_493 rfl (lv_at hl 4 rfl) ?_
          refine rdV (As := []) (ci := 9) S (c_X9_thrown_0 l D cI cZ cJ om q) mi_X9_thrown kw_7_89 ⟨rfl, rfl⟩ ⟨Nat.le_of_ble_eq_true rfl, Nat.le_of_ble_eq_true rfl⟩ (va_Pl (ws := (mW om 1 q cI cZ)) (x := ((xW o u cI cZ cJ) ++ [(ao, .inl (cJ, 1, .inr (.inl (fun _ => 0))))])) hP) hK mW_0 rfl rfl hl.1 (Nat.le_of_ble_eq_true rfl) ⟨Nat.le_of_ble_eq_true rfl, Nat.le_of_ble_eq_true rfl⟩ dL_law_494 ?_
          refine lv_iload hx hb dL_law_497 (lv_at hl 1 rfl) ?_
          refine lv_icmp_eq (tgt := 504) hx hb dL_law_499 (by decide) (fun _ => ?_) (fun c => absurd c (by decide))
          refine lv_iload hx hb dL_law_504 (lv_at hl 1 rfl) ?_
          refine lv_if_ne (tgt := 521) hx hb dL_law_506 (by decide) (fun _ => ?_) (fun c => absurd c (by decide))
          refine lv_goto (tgt := 1519) hx hb dL_law_521 (by decide) ?_
          exact law_tail (C := 121) (Z := 12964) S hr hlocks hX hbl (lv_sub hl [2, 6] rfl) hS (Nat.le_of_ble_eq_true rfl) (Nat.le_of_ble_eq_true rfl)
        · have hi_x1 : x1 ≤ 0 := u_nge d_470 (by decide)
          have e_x1 : x1 = 0 := b_eq lo_x1 hi_x1
          subst e_x1
          refine wrap (mW om 0 q cI cZ) (mid := ((xW o u cI cZ cJ) ++ [(ao, .inl (cJ, 1, .inr (.inl (fun _ => 0))))])) (As := [.ref o, .int 0, .int 0, .ref ao]) S (h_ofProcedure_6 l D cI cZ cJ o u ao hst ra ga H.size) msh_L_ofProcedure kw_6_16 rfl rfl ⟨Nat.le_of_ble_eq_true rfl, Nat.le_of_ble_eq_true rfl⟩ hP hD hK hS hA hB hC hl.1 (Nat.le_of_ble_eq_true rfl) ⟨Nat.le_of_ble_eq_true rfl, Nat.le_of_ble_eq_true rfl⟩ dL_law_470 (fun H locs hz hP hD hS => ?_)
          have hP : va_P D vwCl ((mW om 0 q cI cZ) ++ ((((((((xW o u cI cZ cJ).set 0 (o, .inr (8, ((xF u).set 9 (.int 0))))).set 32 ((u 31), .inl (cZ, 10, .inl (upd (upd (upd (upd (upd (upd (upd (upd (upd (upd (fun _ => 0) (0 : Int32).toNatClampNeg 0) (1 : Int32).toNatClampNeg 0) (2 : Int32).toNatClampNeg 0) (3 : Int32).toNatClampNeg 0) (4 : Int32).toNatClampNeg 0) (5 : Int32).toNatClampNeg 0) (6 : Int32).toNatClampNeg 0) (7 : Int32).toNatClampNeg 0) (8 : Int32).toNatClampNeg 0) (9 : Int32).toNatClampNeg 0)))).set 34 ((u 33), .inr (2, ([.ref (u 0), .ref (u 12), .ref (u 19), .int 0, .ref (u 34), .ref (u 35), .ref (u 36), .ref (u 37), .int 0].set 3 (.int 1))))).set 35 ((u 34), .inl (cI, 120, .inl (upd (fun _ => 0) (0 : Int32).toNatClampNeg 10)))).set 36 ((u 35), .inl (cI, 120, .inl (upd (fun _ => 0) (0 : Int32).toNatClampNeg 0)))).set 37 ((u 36), .inl (cI, 120, .inl (upd (fun _ => 0) (0 : Int32).toNatClampNeg (-1))))) ++ [(ao, .inl (cJ, 1, .inr (.inl (vp_updL (fun _ => 0) (0 : Int32).toNatClampNeg (-1)))))])) H := hP
          have hD : va_D A ((mW om 0 q cI cZ) ++ ((((((((xW o u cI cZ cJ).set 0 (o, .inr (8, ((xF u).set 9 (.int 0))))).set 32 ((u 31), .inl (cZ, 10, .inl (upd (upd (upd (upd (upd (upd (upd (upd (upd (upd (fun _ => 0) (0 : Int32).toNatClampNeg 0) (1 : Int32).toNatClampNeg 0) (2 : Int32).toNatClampNeg 0) (3 : Int32).toNatClampNeg 0) (4 : Int32).toNatClampNeg 0) (5 : Int32).toNatClampNeg 0) (6 : Int32).toNatClampNeg 0) (7 : Int32).toNatClampNeg 0) (8 : Int32).toNatClampNeg 0) (9 : Int32).toNatClampNeg 0)))).set 34 ((u 33), .inr (2, ([.ref (u 0), .ref (u 12), .ref (u 19), .int 0, .ref (u 34), .ref (u 35), .ref (u 36), .ref (u 37), .int 0].set 3 (.int 1))))).set 35 ((u 34), .inl (cI, 120, .inl (upd (fun _ => 0) (0 : Int32).toNatClampNeg 10)))).set 36 ((u 35), .inl (cI, 120, .inl (upd (fun _ => 0) (0 : Int32).toNatClampNeg 0)))).set 37 ((u 36), .inl (cI, 120, .inl (upd (fun _ => 0) (0 : Int32).toNatClampNeg (-1))))) ++ [(ao, .inl (cJ, 1, .inr (.inl (vp_updL (fun _ => 0) (0 : Int32).toNatClampNeg (-1)))))])) := hD
          refine lv_istore (lv' := [(5, .int 0), (4, .int 0), (3, .ref ao), (2, .ref om), (1, .ref o), (0, .ref b)]) hx hb dL_law_473 hl (by decide) rfl (fun ls hl => ?_)
          refine lv_aload_n hx hb dL_law_475 rfl (lv_at hl 3 rfl) ?_
          refine lv_aload_n hx hb dL_law_476 rfl (lv_at hl 5 rfl) ?_
          refine lv_iload hx hb dL_law_477 (lv_at hl 1 rfl) ?_
          refine lv_iconst (v := 1) hx hb dL_law_479 (by decide) ?_
          refine xiadd (v := 1) S dL_law_480 (by decide) ?_
          refine xsld (v := 0) S hX hbl hbA hS (vin rfl) h1 dL_law_481 ?_
          refine lv_aload_n hx hb dL_law_482 rfl (lv_at hl 5 rfl) ?_
          refine lv_iload hx hb dL_law_483 (lv_at hl 1 rfl) ?_
          refine lv_iconst (v := 2) hx hb dL_law_485 (by decide) ?_
          refine xiadd (v := 2) S dL_law_486 (by decide) ?_
          refine xsld (v := 0) S hX hbl hbA hS (vin rfl) h2 dL_law_487 ?_
          refine fVi [] ((((((((xW o u cI cZ cJ).set 0 (o, .inr (8, ((xF u).set 9 (.int 0))))).set 32 ((u 31), .inl (cZ, 10, .inl (upd (upd (upd (upd (upd (upd (upd (upd (upd (upd (fun _ => 0) (0 : Int32).toNatClampNeg 0) (1 : Int32).toNatClampNeg 0) (2 : Int32).toNatClampNeg 0) (3 : Int32).toNatClampNeg 0) (4 : Int32).toNatClampNeg 0) (5 : Int32).toNatClampNeg 0) (6 : Int32).toNatClampNeg 0) (7 : Int32).toNatClampNeg 0) (8 : Int32).toNatClampNeg 0) (9 : Int32).toNatClampNeg 0)))).set 34 ((u 33), .inr (2, ([.ref (u 0), .ref (u 12), .ref (u 19), .int 0, .ref (u 34), .ref (u 35), .ref (u 36), .ref (u 37), .int 0].set 3 (.int 1))))).set 35 ((u 34), .inl (cI, 120, .inl (upd (fun _ => 0) (0 : Int32).toNatClampNeg 10)))).set 36 ((u 35), .inl (cI, 120, .inl (upd (fun _ => 0) (0 : Int32).toNatClampNeg 0)))).set 37 ((u 36), .inl (cI, 120, .inl (upd (fun _ => 0) (0 : Int32).toNatClampNeg (-1))))) ++ [(ao, .inl (cJ, 1, .inr (.inl (vp_updL (fun _ => 0) (0 : Int32).toNatClampNeg (-1)))))]) (mid := (mW om 0 q cI cZ)) (As := [.int 0, .int 0]) (ci := 9) S (c_X9_ofProcedure_6 l D cI cZ cJ om q H.size) mi_X9_ofProcedure kw_7_199 rfl rfl ⟨Nat.le_of_ble_eq_true rfl, Nat.le_of_ble_eq_true rfl⟩ hP hD hK hS hA mW_0 rfl rfl hl.1 (Nat.le_of_ble_eq_true rfl) ⟨Nat.le_of_ble_eq_true rfl, Nat.le_of_ble_eq_true rfl⟩ dL_law_488 (fun H locs hz hP hD hS => ?_)
          have hP : va_P D vwCl ((mW om 0 q cI cZ) ++ ((((((((xW o u cI cZ cJ).set 0 (o, .inr (8, ((xF u).set 9 (.int 0))))).set 32 ((u 31), .inl (cZ, 10, .inl (upd (upd (upd (upd (upd (upd (upd (upd (upd (upd (fun _ => 0) (0 : Int32).toNatClampNeg 0) (1 : Int32).toNatClampNeg 0) (2 : Int32).toNatClampNeg 0) (3 : Int32).toNatClampNeg 0) (4 : Int32).toNatClampNeg 0) (5 : Int32).toNatClampNeg 0) (6 : Int32).toNatClampNeg 0) (7 : Int32).toNatClampNeg 0) (8 : Int32).toNatClampNeg 0) (9 : Int32).toNatClampNeg 0)))).set 34 ((u 33), .inr (2, ([.ref (u 0), .ref (u 12), .ref (u 19), .int 0, .ref (u 34), .ref (u 35), .ref (u 36), .ref (u 37), .int 0].set 3 (.int 1))))).set 35 ((u 34), .inl (cI, 120, .inl (upd (fun _ => 0) (0 : Int32).toNatClampNeg 10)))).set 36 ((u 35), .inl (cI, 120, .inl (upd (fun _ => 0) (0 : Int32).toNatClampNeg 0)))).set 37 ((u 36), .inl (cI, 120, .inl (upd (fun _ => 0) (0 : Int32).toNatClampNeg (-1))))) ++ [(ao, .inl (cJ, 1, .inr (.inl (vp_updL (fun _ => 0) (0 : Int32).toNatClampNeg (-1)))))])) H := hP
          have hD : va_D A ((mW om 0 q cI cZ) ++ ((((((((xW o u cI cZ cJ).set 0 (o, .inr (8, ((xF u).set 9 (.int 0))))).set 32 ((u 31), .inl (cZ, 10, .inl (upd (upd (upd (upd (upd (upd (upd (upd (upd (upd (fun _ => 0) (0 : Int32).toNatClampNeg 0) (1 : Int32).toNatClampNeg 0) (2 : Int32).toNatClampNeg 0) (3 : Int32).toNatClampNeg 0) (4 : Int32).toNatClampNeg 0) (5 : Int32).toNatClampNeg 0) (6 : Int32).toNatClampNeg 0) (7 : Int32).toNatClampNeg 0) (8 : Int32).toNatClampNeg 0) (9 : Int32).toNatClampNeg 0)))).set 34 ((u 33), .inr (2, ([.ref (u 0), .ref (u 12), .ref (u 19), .int 0, .ref (u 34), .ref (u 35), .ref (u 36), .ref (u 37), .int 0].set 3 (.int 1))))).set 35 ((u 34), .inl (cI, 120, .inl (upd (fun _ => 0) (0 : Int32).toNatClampNeg 10)))).set 36 ((u 35), .inl (cI, 120, .inl (upd (fun _ => 0) (0 : Int32).toNatClampNeg 0)))).set 37 ((u 36), .inl (cI, 120, .inl (upd (fun _ => 0) (0 : Int32).toNatClampNeg (-1))))) ++ [(ao, .inl (cJ, 1, .inr (.inl (vp_updL (fun _ => 0) (0 : Int32).toNatClampNeg (-1)))))])) := hD
          refine lv_istore (lv' := [(6, .int (-1)), (5, .int 0), (4, .int 0), (3, .ref ao), (2, .ref om), (1, .ref o), (0, .ref b)]) hx hb dL_law_491 hl (by decide) rfl (fun ls hl => ?_)
          refine lv_aload_n hx hb dL_law_493 rfl (lv_at hl 4 rfl) ?_
          refine rdV (As := []) (ci := 9) S (c_X9_thrown_8 l D cI cZ cJ om q) mi_X9_thrown kw_7_89 ⟨rfl, rfl⟩ ⟨Nat.le_of_ble_eq_true rfl, Nat.le_of_ble_eq_true rfl⟩ (va_Pl (ws := (mW om 0 q cI cZ)) (x := ((((((((xW o u cI cZ cJ).set 0 (o, .inr (8, ((xF u).set 9 (.int 0))))).set 32 ((u 31), .inl (cZ, 10, .inl (upd (upd (upd (upd (upd (upd (upd (upd (upd (upd (fun _ => 0) (0 : Int32).toNatClampNeg 0) (1 : Int32).toNatClampNeg 0) (2 : Int32).toNatClampNeg 0) (3 : Int32).toNatClampNeg 0) (4 : Int32).toNatClampNeg 0) (5 : Int32).toNatClampNeg 0) (6 : Int32).toNatClampNeg 0) (7 : Int32).toNatClampNeg 0) (8 : Int32).toNatClampNeg 0) (9 : Int32).toNatClampNeg 0)))).set 34 ((u 33), .inr (2, ([.ref (u 0), .ref (u 12), .ref (u 19), .int 0, .ref (u 34), .ref (u 35), .ref (u 36), .ref (u 37), .int 0].set 3 (.int 1))))).set 35 ((u 34), .inl (cI, 120, .inl (upd (fun _ => 0) (0 : Int32).toNatClampNeg 10)))).set 36 ((u 35), .inl (cI, 120, .inl (upd (fun _ => 0) (0 : Int32).toNatClampNeg 0)))).set 37 ((u 36), .inl (cI, 120, .inl (upd (fun _ => 0) (0 : Int32).toNatClampNeg (-1))))) ++ [(ao, .inl (cJ, 1, .inr (.inl (vp_updL (fun _ => 0) (0 : Int32).toNatClampNeg (-1)))))])) hP) hK mW_0 rfl rfl hl.1 (Nat.le_of_ble_eq_true rfl) ⟨Nat.le_of_ble_eq_true rfl, Nat.le_of_ble_eq_true rfl⟩ dL_law_494 ?_
          refine lv_iload hx hb dL_law_497 (lv_at hl 1 rfl) ?_
          refine lv_icmp_eq (tgt := 504) hx hb dL_law_499 (by decide) (fun _ => ?_) (fun c => absurd c (by decide))
          refine lv_iload hx hb dL_law_504 (lv_at hl 1 rfl) ?_
          refine lv_if_ne (tgt := 521) hx hb dL_law_506 (by decide) (fun c => absurd c (by decide)) (fun _ => ?_)
          refine lv_aload_n hx hb dL_law_509 rfl (lv_at hl 3 rfl) ?_
          refine lv_iconst (v := 0) hx hb dL_law_510 (by decide) ?_
          refine xlald (t0 := 2) (v := (-1)) S hK hP (q0 := 119) rfl rfl (vin rfl) rfl dL_law_511 ?_
          refine lv_iload hx hb dL_law_512 (lv_at hl 0 rfl) ?_
          refine lv_i2l (v := (-1)) hx hb dL_law_514 (by decide) ?_
          refine xlcmp (v := 0) S dL_law_515 (by decide) ?_
          refine lv_if_eq (tgt := 521) hx hb dL_law_516 (by decide) (fun _ => ?_) (fun c => absurd c (by decide))
          refine lv_goto (tgt := 1519) hx hb dL_law_521 (by decide) ?_
          exact law_tail (C := 120) (Z := 12958) S hr hlocks hX hbl (lv_sub hl [2, 6] rfl) hS (Nat.le_of_ble_eq_true rfl) (Nat.le_of_ble_eq_true rfl)
    · have ne_x2_0 : ¬ x2 = 0 := d_470
      by_cases d_470 : x2 = 1
      · have e_x2 : x2 = 1 := d_470
        subst e_x2
        by_cases d_470 : x1 < 0
        · have hi_x1 : x1 ≤ (-1) := u_lt d_470 (by decide)
          refine wrap (mW om 0 q cI cZ) (mid := ((xW o u cI cZ cJ) ++ [(ao, .inl (cJ, 1, .inr (.inl (fun _ => 0))))])) (As := [.ref o, .int x1, .int 1, .ref ao]) S (h_ofProcedure_7 l D cI cZ cJ o u ao hst ra ga H.size x1 hi_x1) msh_L_ofProcedure kw_6_16 rfl rfl ⟨Nat.le_of_ble_eq_true rfl, Nat.le_of_ble_eq_true rfl⟩ hP hD hK hS hA hB hC hl.1 (Nat.le_of_ble_eq_true rfl) ⟨Nat.le_of_ble_eq_true rfl, Nat.le_of_ble_eq_true rfl⟩ dL_law_470 (fun H locs hz hP hD hS => ?_)
          have hP : va_P D vwCl ((mW om 0 q cI cZ) ++ ((xW o u cI cZ cJ) ++ [(ao, .inl (cJ, 1, .inr (.inl (fun _ => 0))))])) H := hP
          have hD : va_D A ((mW om 0 q cI cZ) ++ ((xW o u cI cZ cJ) ++ [(ao, .inl (cJ, 1, .inr (.inl (fun _ => 0))))])) := hD
          refine lv_istore (lv' := [(5, .int 1), (4, .int 0), (3, .ref ao), (2, .ref om), (1, .ref o), (0, .ref b)]) hx hb dL_law_473 hl (by decide) rfl (fun ls hl => ?_)
          refine lv_aload_n hx hb dL_law_475 rfl (lv_at hl 3 rfl) ?_
          refine lv_aload_n hx hb dL_law_476 rfl (lv_at hl 5 rfl) ?_
          refine lv_iload hx hb dL_law_477 (lv_at hl 1 rfl) ?_
          refine lv_iconst (v := 1) hx hb dL_law_479 (by decide) ?_
          refine xiadd (v := 1) S dL_law_480 (by decide) ?_
          refine xsld (v := x1) S hX hbl hbA hS (vin rfl) h1 dL_law_481 ?_
          refine lv_aload_n hx hb dL_law_482 rfl (lv_at hl 5 rfl) ?_
          refine lv_iload hx hb dL_law_483 (lv_at hl 1 rfl) ?_
          refine lv_iconst (v := 2) hx hb dL_law_485 (by decide) ?_
          refine xiadd (v := 2) S dL_law_486 (by decide) ?_
          refine xsld (v := 1) S hX hbl hbA hS (vin rfl) h2 dL_law_487 ?_
          refine fVi [] ((xW o u cI cZ cJ) ++ [(ao, .inl (cJ, 1, .inr (.inl (fun _ => 0))))]) (mid := (mW om 0 q cI cZ)) (As := [.int x1, .int 1]) (ci := 9) S (c_X9_ofProcedure_7 l D cI cZ cJ om q H.size x1 hi_x1) mi_X9_ofProcedure kw_7_199 rfl rfl ⟨Nat.le_of_ble_eq_true rfl, Nat.le_of_ble_eq_true rfl⟩ hP hD hK hS hA mW_0 rfl rfl hl.1 (Nat.le_of_ble_eq_true rfl) ⟨Nat.le_of_ble_eq_true rfl, Nat.le_of_ble_eq_true rfl⟩ dL_law_488 (fun H locs hz hP hD hS => ?_)
          have hP : va_P D vwCl ((mW om 1 q cI cZ) ++ ((xW o u cI cZ cJ) ++ [(ao, .inl (cJ, 1, .inr (.inl (fun _ => 0))))])) H := hP
          have hD : va_D A ((mW om 1 q cI cZ) ++ ((xW o u cI cZ cJ) ++ [(ao, .inl (cJ, 1, .inr (.inl (fun _ => 0))))])) := hD
          refine lv_istore (lv' := [(6, .int 0), (5, .int 1), (4, .int 0), (3, .ref ao), (2, .ref om), (1, .ref o), (0, .ref b)]) hx hb dL_law_491 hl (by decide) rfl (fun ls hl => ?_)
          refine lv_aload_n hx hb dL_law_493 rfl (lv_at hl 4 rfl) ?_
          refine rdV (As := []) (ci := 9) S (c_X9_thrown_0 l D cI cZ cJ om q) mi_X9_thrown kw_7_89 ⟨rfl, rfl⟩ ⟨Nat.le_of_ble_eq_true rfl, Nat.le_of_ble_eq_true rfl⟩ (va_Pl (ws := (mW om 1 q cI cZ)) (x := ((xW o u cI cZ cJ) ++ [(ao, .inl (cJ, 1, .inr (.inl (fun _ => 0))))])) hP) hK mW_0 rfl rfl hl.1 (Nat.le_of_ble_eq_true rfl) ⟨Nat.le_of_ble_eq_true rfl, Nat.le_of_ble_eq_true rfl⟩ dL_law_494 ?_
          refine lv_iload hx hb dL_law_497 (lv_at hl 1 rfl) ?_
          refine lv_icmp_eq (tgt := 504) hx hb dL_law_499 (by decide) (fun _ => ?_) (fun c => absurd c (by decide))
          refine lv_iload hx hb dL_law_504 (lv_at hl 1 rfl) ?_
          refine lv_if_ne (tgt := 521) hx hb dL_law_506 (by decide) (fun _ => ?_) (fun c => absurd c (by decide))
          refine lv_goto (tgt := 1519) hx hb dL_law_521 (by decide) ?_
          exact law_tail (C := 121) (Z := 12964) S hr hlocks hX hbl (lv_sub hl [2, 6] rfl) hS (Nat.le_of_ble_eq_true rfl) (Nat.le_of_ble_eq_true rfl)
        · have lo_x1 : 0 ≤ x1 := l_nlt d_470
          by_cases d_470 : 1 ≤ x1
          · have lo_x1 : 1 ≤ x1 := d_470
            refine wrap (mW om 0 q cI cZ) (mid := ((xW o u cI cZ cJ) ++ [(ao, .inl (cJ, 1, .inr (.inl (fun _ => 0))))])) (As := [.ref o, .int x1, .int 1, .ref ao]) S (h_ofProcedure_8 l D cI cZ cJ o u ao hst ra ga H.size x1 lo_x1) msh_L_ofProcedure kw_6_16 rfl rfl ⟨Nat.le_of_ble_eq_true rfl, Nat.le_of_ble_eq_true rfl⟩ hP hD hK hS hA hB hC hl.1 (Nat.le_of_ble_eq_true rfl) ⟨Nat.le_of_ble_eq_true rfl, Nat.le_of_ble_eq_true rfl⟩ dL_law_470 (fun H locs hz hP hD hS => ?_)
            have hP : va_P D vwCl ((mW om 0 q cI cZ) ++ ((xW o u cI cZ cJ) ++ [(ao, .inl (cJ, 1, .inr (.inl (fun _ => 0))))])) H := hP
            have hD : va_D A ((mW om 0 q cI cZ) ++ ((xW o u cI cZ cJ) ++ [(ao, .inl (cJ, 1, .inr (.inl (fun _ => 0))))])) := hD
            refine lv_istore (lv' := [(5, .int 1), (4, .int 0), (3, .ref ao), (2, .ref om), (1, .ref o), (0, .ref b)]) hx hb dL_law_473 hl (by decide) rfl (fun ls hl => ?_)
            refine lv_aload_n hx hb dL_law_475 rfl (lv_at hl 3 rfl) ?_
            refine lv_aload_n hx hb dL_law_476 rfl (lv_at hl 5 rfl) ?_
            refine lv_iload hx hb dL_law_477 (lv_at hl 1 rfl) ?_
            refine lv_iconst (v := 1) hx hb dL_law_479 (by decide) ?_
            refine xiadd (v := 1) S dL_law_480 (by decide) ?_
            refine xsld (v := x1) S hX hbl hbA hS (vin rfl) h1 dL_law_481 ?_
            refine lv_aload_n hx hb dL_law_482 rfl (lv_at hl 5 rfl) ?_
            refine lv_iload hx hb dL_law_483 (lv_at hl 1 rfl) ?_
            refine lv_iconst (v := 2) hx hb dL_law_485 (by decide) ?_
            refine xiadd (v := 2) S dL_law_486 (by decide) ?_
            refine xsld (v := 1) S hX hbl hbA hS (vin rfl) h2 dL_law_487 ?_
            refine fVi [] ((xW o u cI cZ cJ) ++ [(ao, .inl (cJ, 1, .inr (.inl (fun _ => 0))))]) (mid := (mW om 0 q cI cZ)) (As := [.int x1, .int 1]) (ci := 9) S (c_X9_ofProcedure_8 l D cI cZ cJ om q H.size x1 lo_x1) mi_X9_ofProcedure kw_7_199 rfl rfl ⟨Nat.le_of_ble_eq_true rfl, Nat.le_of_ble_eq_true rfl⟩ hP hD hK hS hA mW_0 rfl rfl hl.1 (Nat.le_of_ble_eq_true rfl) ⟨Nat.le_of_ble_eq_true rfl, Nat.le_of_ble_eq_true rfl⟩ dL_law_488 (fun H locs hz hP hD hS => ?_)
            have hP : va_P D vwCl ((mW om 1 q cI cZ) ++ ((xW o u cI cZ cJ) ++ [(ao, .inl (cJ, 1, .inr (.inl (fun _ => 0))))])) H := hP
            have hD : va_D A ((mW om 1 q cI cZ) ++ ((xW o u cI cZ cJ) ++ [(ao, .inl (cJ, 1, .inr (.inl (fun _ => 0))))])) := hD
            refine lv_istore (lv' := [(6, .int 0), (5, .int 1), (4, .int 0), (3, .ref ao), (2, .ref om), (1, .ref o), (0, .ref b)]) hx hb dL_law_491 hl (by decide) rfl (fun ls hl => ?_)
            refine lv_aload_n hx hb dL_law_493 rfl (lv_at hl 4 rfl) ?_
            refine rdV (As := []) (ci := 9) S (c_X9_thrown_0 l D cI cZ cJ om q) mi_X9_thrown kw_7_89 ⟨rfl, rfl⟩ ⟨Nat.le_of_ble_eq_true rfl, Nat.le_of_ble_eq_true rfl⟩ (va_Pl (ws := (mW om 1 q cI cZ)) (x := ((xW o u cI cZ cJ) ++ [(ao, .inl (cJ, 1, .inr (.inl (fun _ => 0))))])) hP) hK mW_0 rfl rfl hl.1 (Nat.le_of_ble_eq_true rfl) ⟨Nat.le_of_ble_eq_true rfl, Nat.le_of_ble_eq_true rfl⟩ dL_law_494 ?_
            refine lv_iload hx hb dL_law_497 (lv_at hl 1 rfl) ?_
            refine lv_icmp_eq (tgt := 504) hx hb dL_law_499 (by decide) (fun _ => ?_) (fun c => absurd c (by decide))
            refine lv_iload hx hb dL_law_504 (lv_at hl 1 rfl) ?_
            refine lv_if_ne (tgt := 521) hx hb dL_law_506 (by decide) (fun _ => ?_) (fun c => absurd c (by decide))
            refine lv_goto (tgt := 1519) hx hb dL_law_521 (by decide) ?_
            exact law_tail (C := 121) (Z := 12964) S hr hlocks hX hbl (lv_sub hl [2, 6] rfl) hS (Nat.le_of_ble_eq_true rfl) (Nat.le_of_ble_eq_true rfl)
          · have hi_x1 : x1 ≤ 0 := u_nge d_470 (by decide)
            have e_x1 : x1 = 0 := b_eq lo_x1 hi_x1
            subst e_x1
            refine wrap (mW om 0 q cI cZ) (mid := ((xW o u cI cZ cJ) ++ [(ao, .inl (cJ, 1, .inr (.inl (fun _ => 0))))])) (As := [.ref o, .int 0, .int 1, .ref ao]) S (h_ofProcedure_9 l D cI cZ cJ o u ao hst ra ga H.size) msh_L_ofProcedure kw_6_16 rfl rfl ⟨Nat.le_of_ble_eq_true rfl, Nat.le_of_ble_eq_true rfl⟩ hP hD hK hS hA hB hC hl.1 (Nat.le_of_ble_eq_true rfl) ⟨Nat.le_of_ble_eq_true rfl, Nat.le_of_ble_eq_true rfl⟩ dL_law_470 (fun H locs hz hP hD hS => ?_)
            have hP : va_P D vwCl ((mW om 0 q cI cZ) ++ ((((((((xW o u cI cZ cJ).set 0 (o, .inr (8, ((xF u).set 9 (.int 0))))).set 32 ((u 31), .inl (cZ, 10, .inl (upd (upd (upd (upd (upd (upd (upd (upd (upd (upd (fun _ => 0) (0 : Int32).toNatClampNeg 0) (1 : Int32).toNatClampNeg 0) (2 : Int32).toNatClampNeg 0) (3 : Int32).toNatClampNeg 0) (4 : Int32).toNatClampNeg 0) (5 : Int32).toNatClampNeg 0) (6 : Int32).toNatClampNeg 0) (7 : Int32).toNatClampNeg 0) (8 : Int32).toNatClampNeg 0) (9 : Int32).toNatClampNeg 0)))).set 34 ((u 33), .inr (2, ([.ref (u 0), .ref (u 12), .ref (u 19), .int 0, .ref (u 34), .ref (u 35), .ref (u 36), .ref (u 37), .int 0].set 3 (.int 1))))).set 35 ((u 34), .inl (cI, 120, .inl (upd (fun _ => 0) (0 : Int32).toNatClampNeg 10)))).set 36 ((u 35), .inl (cI, 120, .inl (upd (fun _ => 0) (0 : Int32).toNatClampNeg 0)))).set 37 ((u 36), .inl (cI, 120, .inl (upd (fun _ => 0) (0 : Int32).toNatClampNeg (-1))))) ++ [(ao, .inl (cJ, 1, .inr (.inl (vp_updL (fun _ => 0) (0 : Int32).toNatClampNeg (-1)))))])) H := hP
            have hD : va_D A ((mW om 0 q cI cZ) ++ ((((((((xW o u cI cZ cJ).set 0 (o, .inr (8, ((xF u).set 9 (.int 0))))).set 32 ((u 31), .inl (cZ, 10, .inl (upd (upd (upd (upd (upd (upd (upd (upd (upd (upd (fun _ => 0) (0 : Int32).toNatClampNeg 0) (1 : Int32).toNatClampNeg 0) (2 : Int32).toNatClampNeg 0) (3 : Int32).toNatClampNeg 0) (4 : Int32).toNatClampNeg 0) (5 : Int32).toNatClampNeg 0) (6 : Int32).toNatClampNeg 0) (7 : Int32).toNatClampNeg 0) (8 : Int32).toNatClampNeg 0) (9 : Int32).toNatClampNeg 0)))).set 34 ((u 33), .inr (2, ([.ref (u 0), .ref (u 12), .ref (u 19), .int 0, .ref (u 34), .ref (u 35), .ref (u 36), .ref (u 37), .int 0].set 3 (.int 1))))).set 35 ((u 34), .inl (cI, 120, .inl (upd (fun _ => 0) (0 : Int32).toNatClampNeg 10)))).set 36 ((u 35), .inl (cI, 120, .inl (upd (fun _ => 0) (0 : Int32).toNatClampNeg 0)))).set 37 ((u 36), .inl (cI, 120, .inl (upd (fun _ => 0) (0 : Int32).toNatClampNeg (-1))))) ++ [(ao, .inl (cJ, 1, .inr (.inl (vp_updL (fun _ => 0) (0 : Int32).toNatClampNeg (-1)))))])) := hD
            refine lv_istore (lv' := [(5, .int 0), (4, .int 0), (3, .ref ao), (2, .ref om), (1, .ref o), (0, .ref b)]) hx hb dL_law_473 hl (by decide) rfl (fun ls hl => ?_)
            refine lv_aload_n hx hb dL_law_475 rfl (lv_at hl 3 rfl) ?_
            refine lv_aload_n hx hb dL_law_476 rfl (lv_at hl 5 rfl) ?_
            refine lv_iload hx hb dL_law_477 (lv_at hl 1 rfl) ?_
            refine lv_iconst (v := 1) hx hb dL_law_479 (by decide) ?_
            refine xiadd (v := 1) S dL_law_480 (by decide) ?_
            refine xsld (v := 0) S hX hbl hbA hS (vin rfl) h1 dL_law_481 ?_
            refine lv_aload_n hx hb dL_law_482 rfl (lv_at hl 5 rfl) ?_
            refine lv_iload hx hb dL_law_483 (lv_at hl 1 rfl) ?_
            refine lv_iconst (v := 2) hx hb dL_law_485 (by decide) ?_
            refine xiadd (v := 2) S dL_law_486 (by decide) ?_
            refine xsld (v := 1) S hX hbl hbA hS (vin rfl) h2 dL_law_487 ?_
            refine fVi [] ((((((((xW o u cI cZ cJ).set 0 (o, .inr (8, ((xF u).set 9 (.int 0))))).set 32 ((u 31), .inl (cZ, 10, .inl (upd (upd (upd (upd (upd (upd (upd (upd (upd (upd (fun _ => 0) (0 : Int32).toNatClampNeg 0) (1 : Int32).toNatClampNeg 0) (2 : Int32).toNatClampNeg 0) (3 : Int32).toNatClampNeg 0) (4 : Int32).toNatClampNeg 0) (5 : Int32).toNatClampNeg 0) (6 : Int32).toNatClampNeg 0) (7 : Int32).toNatClampNeg 0) (8 : Int32).toNatClampNeg 0) (9 : Int32).toNatClampNeg 0)))).set 34 ((u 33), .inr (2, ([.ref (u 0), .ref (u 12), .ref (u 19), .int 0, .ref (u 34), .ref (u 35), .ref (u 36), .ref (u 37), .int 0].set 3 (.int 1))))).set 35 ((u 34), .inl (cI, 120, .inl (upd (fun _ => 0) (0 : Int32).toNatClampNeg 10)))).set 36 ((u 35), .inl (cI, 120, .inl (upd (fun _ => 0) (0 : Int32).toNatClampNeg 0)))).set 37 ((u 36), .inl (cI, 120, .inl (upd (fun _ => 0) (0 : Int32).toNatClampNeg (-1))))) ++ [(ao, .inl (cJ, 1, .inr (.inl (vp_updL (fun _ => 0) (0 : Int32).toNatClampNeg (-1)))))]) (mid := (mW om 0 q cI cZ)) (As := [.int 0, .int 1]) (ci := 9) S (c_X9_ofProcedure_9 l D cI cZ cJ om q H.size) mi_X9_ofProcedure kw_7_199 rfl rfl ⟨Nat.le_of_ble_eq_true rfl, Nat.le_of_ble_eq_true rfl⟩ hP hD hK hS hA mW_0 rfl rfl hl.1 (Nat.le_of_ble_eq_true rfl) ⟨Nat.le_of_ble_eq_true rfl, Nat.le_of_ble_eq_true rfl⟩ dL_law_488 (fun H locs hz hP hD hS => ?_)
            have hP : va_P D vwCl ((mW om 0 q cI cZ) ++ ((((((((xW o u cI cZ cJ).set 0 (o, .inr (8, ((xF u).set 9 (.int 0))))).set 32 ((u 31), .inl (cZ, 10, .inl (upd (upd (upd (upd (upd (upd (upd (upd (upd (upd (fun _ => 0) (0 : Int32).toNatClampNeg 0) (1 : Int32).toNatClampNeg 0) (2 : Int32).toNatClampNeg 0) (3 : Int32).toNatClampNeg 0) (4 : Int32).toNatClampNeg 0) (5 : Int32).toNatClampNeg 0) (6 : Int32).toNatClampNeg 0) (7 : Int32).toNatClampNeg 0) (8 : Int32).toNatClampNeg 0) (9 : Int32).toNatClampNeg 0)))).set 34 ((u 33), .inr (2, ([.ref (u 0), .ref (u 12), .ref (u 19), .int 0, .ref (u 34), .ref (u 35), .ref (u 36), .ref (u 37), .int 0].set 3 (.int 1))))).set 35 ((u 34), .inl (cI, 120, .inl (upd (fun _ => 0) (0 : Int32).toNatClampNeg 10)))).set 36 ((u 35), .inl (cI, 120, .inl (upd (fun _ => 0) (0 : Int32).toNatClampNeg 0)))).set 37 ((u 36), .inl (cI, 120, .inl (upd (fun _ => 0) (0 : Int32).toNatClampNeg (-1))))) ++ [(ao, .inl (cJ, 1, .inr (.inl (vp_updL (fun _ => 0) (0 : Int32).toNatClampNeg (-1)))))])) H := hP
            have hD : va_D A ((mW om 0 q cI cZ) ++ ((((((((xW o u cI cZ cJ).set 0 (o, .inr (8, ((xF u).set 9 (.int 0))))).set 32 ((u 31), .inl (cZ, 10, .inl (upd (upd (upd (upd (upd (upd (upd (upd (upd (upd (fun _ => 0) (0 : Int32).toNatClampNeg 0) (1 : Int32).toNatClampNeg 0) (2 : Int32).toNatClampNeg 0) (3 : Int32).toNatClampNeg 0) (4 : Int32).toNatClampNeg 0) (5 : Int32).toNatClampNeg 0) (6 : Int32).toNatClampNeg 0) (7 : Int32).toNatClampNeg 0) (8 : Int32).toNatClampNeg 0) (9 : Int32).toNatClampNeg 0)))).set 34 ((u 33), .inr (2, ([.ref (u 0), .ref (u 12), .ref (u 19), .int 0, .ref (u 34), .ref (u 35), .ref (u 36), .ref (u 37), .int 0].set 3 (.int 1))))).set 35 ((u 34), .inl (cI, 120, .inl (upd (fun _ => 0) (0 : Int32).toNatClampNeg 10)))).set 36 ((u 35), .inl (cI, 120, .inl (upd (fun _ => 0) (0 : Int32).toNatClampNeg 0)))).set 37 ((u 36), .inl (cI, 120, .inl (upd (fun _ => 0) (0 : Int32).toNatClampNeg (-1))))) ++ [(ao, .inl (cJ, 1, .inr (.inl (vp_updL (fun _ => 0) (0 : Int32).toNatClampNeg (-1)))))])) := hD
            refine lv_istore (lv' := [(6, .int (-1)), (5, .int 0), (4, .int 0), (3, .ref ao), (2, .ref om), (1, .ref o), (0, .ref b)]) hx hb dL_law_491 hl (by decide) rfl (fun ls hl => ?_)
            refine lv_aload_n hx hb dL_law_493 rfl (lv_at hl 4 rfl) ?_
            refine rdV (As := []) (ci := 9) S (c_X9_thrown_8 l D cI cZ cJ om q) mi_X9_thrown kw_7_89 ⟨rfl, rfl⟩ ⟨Nat.le_of_ble_eq_true rfl, Nat.le_of_ble_eq_true rfl⟩ (va_Pl (ws := (mW om 0 q cI cZ)) (x := ((((((((xW o u cI cZ cJ).set 0 (o, .inr (8, ((xF u).set 9 (.int 0))))).set 32 ((u 31), .inl (cZ, 10, .inl (upd (upd (upd (upd (upd (upd (upd (upd (upd (upd (fun _ => 0) (0 : Int32).toNatClampNeg 0) (1 : Int32).toNatClampNeg 0) (2 : Int32).toNatClampNeg 0) (3 : Int32).toNatClampNeg 0) (4 : Int32).toNatClampNeg 0) (5 : Int32).toNatClampNeg 0) (6 : Int32).toNatClampNeg 0) (7 : Int32).toNatClampNeg 0) (8 : Int32).toNatClampNeg 0) (9 : Int32).toNatClampNeg 0)))).set 34 ((u 33), .inr (2, ([.ref (u 0), .ref (u 12), .ref (u 19), .int 0, .ref (u 34), .ref (u 35), .ref (u 36), .ref (u 37), .int 0].set 3 (.int 1))))).set 35 ((u 34), .inl (cI, 120, .inl (upd (fun _ => 0) (0 : Int32).toNatClampNeg 10)))).set 36 ((u 35), .inl (cI, 120, .inl (upd (fun _ => 0) (0 : Int32).toNatClampNeg 0)))).set 37 ((u 36), .inl (cI, 120, .inl (upd (fun _ => 0) (0 : Int32).toNatClampNeg (-1))))) ++ [(ao, .inl (cJ, 1, .inr (.inl (vp_updL (fun _ => 0) (0 : Int32).toNatClampNeg (-1)))))])) hP) hK mW_0 rfl rfl hl.1 (Nat.le_of_ble_eq_true rfl) ⟨Nat.le_of_ble_eq_true rfl, Nat.le_of_ble_eq_true rfl⟩ dL_law_494 ?_
            refine lv_iload hx hb dL_law_497 (lv_at hl 1 rfl) ?_
            refine lv_icmp_eq (tgt := 504) hx hb dL_law_499 (by decide) (fun _ => ?_) (fun c => absurd c (by decide))
            refine lv_iload hx hb dL_law_504 (lv_at hl 1 rfl) ?_
            refine lv_if_ne (tgt := 521) hx hb dL_law_506 (by decide) (fun c => absurd c (by decide)) (fun _ => ?_)
            refine lv_aload_n hx hb dL_law_509 rfl (lv_at hl 3 rfl) ?_
            refine lv_iconst (v := 0) hx hb dL_law_510 (by decide) ?_
            refine xlald (t0 := 2) (v := (-1)) S hK hP (q0 := 119) rfl rfl (vin rfl) rfl dL_law_511 ?_
            refine lv_iload hx hb dL_law_512 (lv_at hl 0 rfl) ?_
            refine lv_i2l (v := (-1)) hx hb dL_law_514 (by decide) ?_
            refine xlcmp (v := 0) S dL_law_515 (by decide) ?_
            refine lv_if_eq (tgt := 521) hx hb dL_law_516 (by decide) (fun _ => ?_) (fun c => absurd c (by decide))
            refine lv_goto (tgt := 1519) hx hb dL_law_521 (by decide) ?_
            exact law_tail (C := 120) (Z := 12958) S hr hlocks hX hbl (lv_sub hl [2, 6] rfl) hS (Nat.le_of_ble_eq_true rfl) (Nat.le_of_ble_eq_true rfl)
      · have ne_x2_1 : ¬ x2 = 1 := d_470
        by_cases d_470 : x2 = 2
        · have e_x2 : x2 = 2 := d_470
          subst e_x2
          by_cases d_470 : x1 < 0
          · have hi_x1 : x1 ≤ (-1) := u_lt d_470 (by decide)
            refine wrap (mW om 0 q cI cZ) (mid := ((xW o u cI cZ cJ) ++ [(ao, .inl (cJ, 1, .inr (.inl (fun _ => 0))))])) (As := [.ref o, .int x1, .int 2, .ref ao]) S (h_ofProcedure_10 l D cI cZ cJ o u ao hst ra ga H.size x1 hi_x1) msh_L_ofProcedure kw_6_16 rfl rfl ⟨Nat.le_of_ble_eq_true rfl, Nat.le_of_ble_eq_true rfl⟩ hP hD hK hS hA hB hC hl.1 (Nat.le_of_ble_eq_true rfl) ⟨Nat.le_of_ble_eq_true rfl, Nat.le_of_ble_eq_true rfl⟩ dL_law_470 (fun H locs hz hP hD hS => ?_)
            have hP : va_P D vwCl ((mW om 0 q cI cZ) ++ ((xW o u cI cZ cJ) ++ [(ao, .inl (cJ, 1, .inr (.inl (fun _ => 0))))])) H := hP
            have hD : va_D A ((mW om 0 q cI cZ) ++ ((xW o u cI cZ cJ) ++ [(ao, .inl (cJ, 1, .inr (.inl (fun _ => 0))))])) := hD
            refine lv_istore (lv' := [(5, .int 1), (4, .int 0), (3, .ref ao), (2, .ref om), (1, .ref o), (0, .ref b)]) hx hb dL_law_473 hl (by decide) rfl (fun ls hl => ?_)
            refine lv_aload_n hx hb dL_law_475 rfl (lv_at hl 3 rfl) ?_
            refine lv_aload_n hx hb dL_law_476 rfl (lv_at hl 5 rfl) ?_
            refine lv_iload hx hb dL_law_477 (lv_at hl 1 rfl) ?_
            refine lv_iconst (v := 1) hx hb dL_law_479 (by decide) ?_
            refine xiadd (v := 1) S dL_law_480 (by decide) ?_
            refine xsld (v := x1) S hX hbl hbA hS (vin rfl) h1 dL_law_481 ?_
            refine lv_aload_n hx hb dL_law_482 rfl (lv_at hl 5 rfl) ?_
            refine lv_iload hx hb dL_law_483 (lv_at hl 1 rfl) ?_
            refine lv_iconst (v := 2) hx hb dL_law_485 (by decide) ?_
            refine xiadd (v := 2) S dL_law_486 (by decide) ?_
            refine xsld (v := 2) S hX hbl hbA hS (vin rfl) h2 dL_law_487 ?_
            refine fVi [] ((xW o u cI cZ cJ) ++ [(ao, .inl (cJ, 1, .inr (.inl (fun _ => 0))))]) (mid := (mW om 0 q cI cZ)) (As := [.int x1, .int 2]) (ci := 9) S (c_X9_ofProcedure_10 l D cI cZ cJ om q H.size x1 hi_x1) mi_X9_ofProcedure kw_7_199 rfl rfl ⟨Nat.le_of_ble_eq_true rfl, Nat.le_of_ble_eq_true rfl⟩ hP hD hK hS hA mW_0 rfl rfl hl.1 (Nat.le_of_ble_eq_true rfl) ⟨Nat.le_of_ble_eq_true rfl, Nat.le_of_ble_eq_true rfl⟩ dL_law_488 (fun H locs hz hP hD hS => ?_)
            have hP : va_P D vwCl ((mW om 1 q cI cZ) ++ ((xW o u cI cZ cJ) ++ [(ao, .inl (cJ, 1, .inr (.inl (fun _ => 0))))])) H := hP
            have hD : va_D A ((mW om 1 q cI cZ) ++ ((xW o u cI cZ cJ) ++ [(ao, .inl (cJ, 1, .inr (.inl (fun _ => 0))))])) := hD
            refine lv_istore (lv' := [(6, .int 0), (5, .int 1), (4, .int 0), (3, .ref ao), (2, .ref om), (1, .ref o), (0, .ref b)]) hx hb dL_law_491 hl (by decide) rfl (fun ls hl => ?_)
            refine lv_aload_n hx hb dL_law_493 rfl (lv_at hl 4 rfl) ?_
            refine rdV (As := []) (ci := 9) S (c_X9_thrown_0 l D cI cZ cJ om q) mi_X9_thrown kw_7_89 ⟨rfl, rfl⟩ ⟨Nat.le_of_ble_eq_true rfl, Nat.le_of_ble_eq_true rfl⟩ (va_Pl (ws := (mW om 1 q cI cZ)) (x := ((xW o u cI cZ cJ) ++ [(ao, .inl (cJ, 1, .inr (.inl (fun _ => 0))))])) hP) hK mW_0 rfl rfl hl.1 (Nat.le_of_ble_eq_true rfl) ⟨Nat.le_of_ble_eq_true rfl, Nat.le_of_ble_eq_true rfl⟩ dL_law_494 ?_
            refine lv_iload hx hb dL_law_497 (lv_at hl 1 rfl) ?_
            refine lv_icmp_eq (tgt := 504) hx hb dL_law_499 (by decide) (fun _ => ?_) (fun c => absurd c (by decide))
            refine lv_iload hx hb dL_law_504 (lv_at hl 1 rfl) ?_
            refine lv_if_ne (tgt := 521) hx hb dL_law_506 (by decide) (fun _ => ?_) (fun c => absurd c (by decide))
            refine lv_goto (tgt := 1519) hx hb dL_law_521 (by decide) ?_
            exact law_tail (C := 121) (Z := 12964) S hr hlocks hX hbl (lv_sub hl [2, 6] rfl) hS (Nat.le_of_ble_eq_true rfl) (Nat.le_of_ble_eq_true rfl)
          · have lo_x1 : 0 ≤ x1 := l_nlt d_470
            by_cases d_470 : 1 ≤ x1
            · have lo_x1 : 1 ≤ x1 := d_470
              refine wrap (mW om 0 q cI cZ) (mid := ((xW o u cI cZ cJ) ++ [(ao, .inl (cJ, 1, .inr (.inl (fun _ => 0))))])) (As := [.ref o, .int x1, .int 2, .ref ao]) S (h_ofProcedure_11 l D cI cZ cJ o u ao hst ra ga H.size x1 lo_x1) msh_L_ofProcedure kw_6_16 rfl rfl ⟨Nat.le_of_ble_eq_true rfl, Nat.le_of_ble_eq_true rfl⟩ hP hD hK hS hA hB hC hl.1 (Nat.le_of_ble_eq_true rfl) ⟨Nat.le_of_ble_eq_true rfl, Nat.le_of_ble_eq_true rfl⟩ dL_law_470 (fun H locs hz hP hD hS => ?_)
              have hP : va_P D vwCl ((mW om 0 q cI cZ) ++ ((xW o u cI cZ cJ) ++ [(ao, .inl (cJ, 1, .inr (.inl (fun _ => 0))))])) H := hP
              have hD : va_D A ((mW om 0 q cI cZ) ++ ((xW o u cI cZ cJ) ++ [(ao, .inl (cJ, 1, .inr (.inl (fun _ => 0))))])) := hD
              refine lv_istore (lv' := [(5, .int 1), (4, .int 0), (3, .ref ao), (2, .ref om), (1, .ref o), (0, .ref b)]) hx hb dL_law_473 hl (by decide) rfl (fun ls hl => ?_)
              refine lv_aload_n hx hb dL_law_475 rfl (lv_at hl 3 rfl) ?_
              refine lv_aload_n hx hb dL_law_476 rfl (lv_at hl 5 rfl) ?_
              refine lv_iload hx hb dL_law_477 (lv_at hl 1 rfl) ?_
              refine lv_iconst (v := 1) hx hb dL_law_479 (by decide) ?_
              refine xiadd (v := 1) S dL_law_480 (by decide) ?_
              refine xsld (v := x1) S hX hbl hbA hS (vin rfl) h1 dL_law_481 ?_
              refine lv_aload_n hx hb dL_law_482 rfl (lv_at hl 5 rfl) ?_
              refine lv_iload hx hb dL_law_483 (lv_at hl 1 rfl) ?_
              refine lv_iconst (v := 2) hx hb dL_law_485 (by decide) ?_
              refine xiadd (v := 2) S dL_law_486 (by decide) ?_
              refine xsld (v := 2) S hX hbl hbA hS (vin rfl) h2 dL_law_487 ?_
              refine fVi [] ((xW o u cI cZ cJ) ++ [(ao, .inl (cJ, 1, .inr (.inl (fun _ => 0))))]) (mid := (mW om 0 q cI cZ)) (As := [.int x1, .int 2]) (ci := 9) S (c_X9_ofProcedure_11 l D cI cZ cJ om q H.size x1 lo_x1) mi_X9_ofProcedure kw_7_199 rfl rfl ⟨Nat.le_of_ble_eq_true rfl, Nat.le_of_ble_eq_true rfl⟩ hP hD hK hS hA mW_0 rfl rfl hl.1 (Nat.le_of_ble_eq_true rfl) ⟨Nat.le_of_ble_eq_true rfl, Nat.le_of_ble_eq_true rfl⟩ dL_law_488 (fun H locs hz hP hD hS => ?_)
              have hP : va_P D vwCl ((mW om 1 q cI cZ) ++ ((xW o u cI cZ cJ) ++ [(ao, .inl (cJ, 1, .inr (.inl (fun _ => 0))))])) H := hP
              have hD : va_D A ((mW om 1 q cI cZ) ++ ((xW o u cI cZ cJ) ++ [(ao, .inl (cJ, 1, .inr (.inl (fun _ => 0))))])) := hD
              refine lv_istore (lv' := [(6, .int 0), (5, .int 1), (4, .int 0), (3, .ref ao), (2, .ref om), (1, .ref o), (0, .ref b)]) hx hb dL_law_491 hl (by decide) rfl (fun ls hl => ?_)
              refine lv_aload_n hx hb dL_law_493 rfl (lv_at hl 4 rfl) ?_
              refine rdV (As := []) (ci := 9) S (c_X9_thrown_0 l D cI cZ cJ om q) mi_X9_thrown kw_7_89 ⟨rfl, rfl⟩ ⟨Nat.le_of_ble_eq_true rfl, Nat.le_of_ble_eq_true rfl⟩ (va_Pl (ws := (mW om 1 q cI cZ)) (x := ((xW o u cI cZ cJ) ++ [(ao, .inl (cJ, 1, .inr (.inl (fun _ => 0))))])) hP) hK mW_0 rfl rfl hl.1 (Nat.le_of_ble_eq_true rfl) ⟨Nat.le_of_ble_eq_true rfl, Nat.le_of_ble_eq_true rfl⟩ dL_law_494 ?_
              refine lv_iload hx hb dL_law_497 (lv_at hl 1 rfl) ?_
              refine lv_icmp_eq (tgt := 504) hx hb dL_law_499 (by decide) (fun _ => ?_) (fun c => absurd c (by decide))
              refine lv_iload hx hb dL_law_504 (lv_at hl 1 rfl) ?_
              refine lv_if_ne (tgt := 521) hx hb dL_law_506 (by decide) (fun _ => ?_) (fun c => absurd c (by decide))
              refine lv_goto (tgt := 1519) hx hb dL_law_521 (by decide) ?_
              exact law_tail (C := 121) (Z := 12964) S hr hlocks hX hbl (lv_sub hl [2, 6] rfl) hS (Nat.le_of_ble_eq_true rfl) (Nat.le_of_ble_eq_true rfl)
            · have hi_x1 : x1 ≤ 0 := u_nge d_470 (by decide)
              have e_x1 : x1 = 0 := b_eq lo_x1 hi_x1
              subst e_x1
              refine wrap (mW om 0 q cI cZ) (mid := ((xW o u cI cZ cJ) ++ [(ao, .inl (cJ, 1, .inr (.inl (fun _ => 0))))])) (As := [.ref o, .int 0, .int 2, .ref ao]) S (h_ofProcedure_12 l D cI cZ cJ o u ao hst ra ga H.size) msh_L_ofProcedure kw_6_16 rfl rfl ⟨Nat.le_of_ble_eq_true rfl, Nat.le_of_ble_eq_true rfl⟩ hP hD hK hS hA hB hC hl.1 (Nat.le_of_ble_eq_true rfl) ⟨Nat.le_of_ble_eq_true rfl, Nat.le_of_ble_eq_true rfl⟩ dL_law_470 (fun H locs hz hP hD hS => ?_)
              have hP : va_P D vwCl ((mW om 0 q cI cZ) ++ ((((((((xW o u cI cZ cJ).set 0 (o, .inr (8, ((xF u).set 9 (.int 0))))).set 32 ((u 31), .inl (cZ, 10, .inl (upd (upd (upd (upd (upd (upd (upd (upd (upd (upd (fun _ => 0) (0 : Int32).toNatClampNeg 0) (1 : Int32).toNatClampNeg 0) (2 : Int32).toNatClampNeg 0) (3 : Int32).toNatClampNeg 0) (4 : Int32).toNatClampNeg 0) (5 : Int32).toNatClampNeg 0) (6 : Int32).toNatClampNeg 0) (7 : Int32).toNatClampNeg 0) (8 : Int32).toNatClampNeg 0) (9 : Int32).toNatClampNeg 0)))).set 34 ((u 33), .inr (2, ([.ref (u 0), .ref (u 12), .ref (u 19), .int 0, .ref (u 34), .ref (u 35), .ref (u 36), .ref (u 37), .int 0].set 3 (.int 1))))).set 35 ((u 34), .inl (cI, 120, .inl (upd (fun _ => 0) (0 : Int32).toNatClampNeg 10)))).set 36 ((u 35), .inl (cI, 120, .inl (upd (fun _ => 0) (0 : Int32).toNatClampNeg 0)))).set 37 ((u 36), .inl (cI, 120, .inl (upd (fun _ => 0) (0 : Int32).toNatClampNeg (-1))))) ++ [(ao, .inl (cJ, 1, .inr (.inl (vp_updL (fun _ => 0) (0 : Int32).toNatClampNeg 0))))])) H := hP
              have hD : va_D A ((mW om 0 q cI cZ) ++ ((((((((xW o u cI cZ cJ).set 0 (o, .inr (8, ((xF u).set 9 (.int 0))))).set 32 ((u 31), .inl (cZ, 10, .inl (upd (upd (upd (upd (upd (upd (upd (upd (upd (upd (fun _ => 0) (0 : Int32).toNatClampNeg 0) (1 : Int32).toNatClampNeg 0) (2 : Int32).toNatClampNeg 0) (3 : Int32).toNatClampNeg 0) (4 : Int32).toNatClampNeg 0) (5 : Int32).toNatClampNeg 0) (6 : Int32).toNatClampNeg 0) (7 : Int32).toNatClampNeg 0) (8 : Int32).toNatClampNeg 0) (9 : Int32).toNatClampNeg 0)))).set 34 ((u 33), .inr (2, ([.ref (u 0), .ref (u 12), .ref (u 19), .int 0, .ref (u 34), .ref (u 35), .ref (u 36), .ref (u 37), .int 0].set 3 (.int 1))))).set 35 ((u 34), .inl (cI, 120, .inl (upd (fun _ => 0) (0 : Int32).toNatClampNeg 10)))).set 36 ((u 35), .inl (cI, 120, .inl (upd (fun _ => 0) (0 : Int32).toNatClampNeg 0)))).set 37 ((u 36), .inl (cI, 120, .inl (upd (fun _ => 0) (0 : Int32).toNatClampNeg (-1))))) ++ [(ao, .inl (cJ, 1, .inr (.inl (vp_updL (fun _ => 0) (0 : Int32).toNatClampNeg 0))))])) := hD
              refine lv_istore (lv' := [(5, .int 0), (4, .int 0), (3, .ref ao), (2, .ref om), (1, .ref o), (0, .ref b)]) hx hb dL_law_473 hl (by decide) rfl (fun ls hl => ?_)
              refine lv_aload_n hx hb dL_law_475 rfl (lv_at hl 3 rfl) ?_
              refine lv_aload_n hx hb dL_law_476 rfl (lv_at hl 5 rfl) ?_
              refine lv_iload hx hb dL_law_477 (lv_at hl 1 rfl) ?_
              refine lv_iconst (v := 1) hx hb dL_law_479 (by decide) ?_
              refine xiadd (v := 1) S dL_law_480 (by decide) ?_
              refine xsld (v := 0) S hX hbl hbA hS (vin rfl) h1 dL_law_481 ?_
              refine lv_aload_n hx hb dL_law_482 rfl (lv_at hl 5 rfl) ?_
              refine lv_iload hx hb dL_law_483 (lv_at hl 1 rfl) ?_
              refine lv_iconst (v := 2) hx hb dL_law_485 (by decide) ?_
              refine xiadd (v := 2) S dL_law_486 (by decide) ?_
              refine xsld (v := 2) S hX hbl hbA hS (vin rfl) h2 dL_law_487 ?_
              refine fVi [] ((((((((xW o u cI cZ cJ).set 0 (o, .inr (8, ((xF u).set 9 (.int 0))))).set 32 ((u 31), .inl (cZ, 10, .inl (upd (upd (upd (upd (upd (upd (upd (upd (upd (upd (fun _ => 0) (0 : Int32).toNatClampNeg 0) (1 : Int32).toNatClampNeg 0) (2 : Int32).toNatClampNeg 0) (3 : Int32).toNatClampNeg 0) (4 : Int32).toNatClampNeg 0) (5 : Int32).toNatClampNeg 0) (6 : Int32).toNatClampNeg 0) (7 : Int32).toNatClampNeg 0) (8 : Int32).toNatClampNeg 0) (9 : Int32).toNatClampNeg 0)))).set 34 ((u 33), .inr (2, ([.ref (u 0), .ref (u 12), .ref (u 19), .int 0, .ref (u 34), .ref (u 35), .ref (u 36), .ref (u 37), .int 0].set 3 (.int 1))))).set 35 ((u 34), .inl (cI, 120, .inl (upd (fun _ => 0) (0 : Int32).toNatClampNeg 10)))).set 36 ((u 35), .inl (cI, 120, .inl (upd (fun _ => 0) (0 : Int32).toNatClampNeg 0)))).set 37 ((u 36), .inl (cI, 120, .inl (upd (fun _ => 0) (0 : Int32).toNatClampNeg (-1))))) ++ [(ao, .inl (cJ, 1, .inr (.inl (vp_updL (fun _ => 0) (0 : Int32).toNatClampNeg 0))))]) (mid := (mW om 0 q cI cZ)) (As := [.int 0, .int 2]) (ci := 9) S (c_X9_ofProcedure_12 l D cI cZ cJ om q H.size) mi_X9_ofProcedure kw_7_199 rfl rfl ⟨Nat.le_of_ble_eq_true rfl, Nat.le_of_ble_eq_true rfl⟩ hP hD hK hS hA mW_0 rfl rfl hl.1 (Nat.le_of_ble_eq_true rfl) ⟨Nat.le_of_ble_eq_true rfl, Nat.le_of_ble_eq_true rfl⟩ dL_law_488 (fun H locs hz hP hD hS => ?_)
              have hP : va_P D vwCl ((mW om 0 q cI cZ) ++ ((((((((xW o u cI cZ cJ).set 0 (o, .inr (8, ((xF u).set 9 (.int 0))))).set 32 ((u 31), .inl (cZ, 10, .inl (upd (upd (upd (upd (upd (upd (upd (upd (upd (upd (fun _ => 0) (0 : Int32).toNatClampNeg 0) (1 : Int32).toNatClampNeg 0) (2 : Int32).toNatClampNeg 0) (3 : Int32).toNatClampNeg 0) (4 : Int32).toNatClampNeg 0) (5 : Int32).toNatClampNeg 0) (6 : Int32).toNatClampNeg 0) (7 : Int32).toNatClampNeg 0) (8 : Int32).toNatClampNeg 0) (9 : Int32).toNatClampNeg 0)))).set 34 ((u 33), .inr (2, ([.ref (u 0), .ref (u 12), .ref (u 19), .int 0, .ref (u 34), .ref (u 35), .ref (u 36), .ref (u 37), .int 0].set 3 (.int 1))))).set 35 ((u 34), .inl (cI, 120, .inl (upd (fun _ => 0) (0 : Int32).toNatClampNeg 10)))).set 36 ((u 35), .inl (cI, 120, .inl (upd (fun _ => 0) (0 : Int32).toNatClampNeg 0)))).set 37 ((u 36), .inl (cI, 120, .inl (upd (fun _ => 0) (0 : Int32).toNatClampNeg (-1))))) ++ [(ao, .inl (cJ, 1, .inr (.inl (vp_updL (fun _ => 0) (0 : Int32).toNatClampNeg 0))))])) H := hP
              have hD : va_D A ((mW om 0 q cI cZ) ++ ((((((((xW o u cI cZ cJ).set 0 (o, .inr (8, ((xF u).set 9 (.int 0))))).set 32 ((u 31), .inl (cZ, 10, .inl (upd (upd (upd (upd (upd (upd (upd (upd (upd (upd (fun _ => 0) (0 : Int32).toNatClampNeg 0) (1 : Int32).toNatClampNeg 0) (2 : Int32).toNatClampNeg 0) (3 : Int32).toNatClampNeg 0) (4 : Int32).toNatClampNeg 0) (5 : Int32).toNatClampNeg 0) (6 : Int32).toNatClampNeg 0) (7 : Int32).toNatClampNeg 0) (8 : Int32).toNatClampNeg 0) (9 : Int32).toNatClampNeg 0)))).set 34 ((u 33), .inr (2, ([.ref (u 0), .ref (u 12), .ref (u 19), .int 0, .ref (u 34), .ref (u 35), .ref (u 36), .ref (u 37), .int 0].set 3 (.int 1))))).set 35 ((u 34), .inl (cI, 120, .inl (upd (fun _ => 0) (0 : Int32).toNatClampNeg 10)))).set 36 ((u 35), .inl (cI, 120, .inl (upd (fun _ => 0) (0 : Int32).toNatClampNeg 0)))).set 37 ((u 36), .inl (cI, 120, .inl (upd (fun _ => 0) (0 : Int32).toNatClampNeg (-1))))) ++ [(ao, .inl (cJ, 1, .inr (.inl (vp_updL (fun _ => 0) (0 : Int32).toNatClampNeg 0))))])) := hD
              refine lv_istore (lv' := [(6, .int 0), (5, .int 0), (4, .int 0), (3, .ref ao), (2, .ref om), (1, .ref o), (0, .ref b)]) hx hb dL_law_491 hl (by decide) rfl (fun ls hl => ?_)
              refine lv_aload_n hx hb dL_law_493 rfl (lv_at hl 4 rfl) ?_
              refine rdV (As := []) (ci := 9) S (c_X9_thrown_8 l D cI cZ cJ om q) mi_X9_thrown kw_7_89 ⟨rfl, rfl⟩ ⟨Nat.le_of_ble_eq_true rfl, Nat.le_of_ble_eq_true rfl⟩ (va_Pl (ws := (mW om 0 q cI cZ)) (x := ((((((((xW o u cI cZ cJ).set 0 (o, .inr (8, ((xF u).set 9 (.int 0))))).set 32 ((u 31), .inl (cZ, 10, .inl (upd (upd (upd (upd (upd (upd (upd (upd (upd (upd (fun _ => 0) (0 : Int32).toNatClampNeg 0) (1 : Int32).toNatClampNeg 0) (2 : Int32).toNatClampNeg 0) (3 : Int32).toNatClampNeg 0) (4 : Int32).toNatClampNeg 0) (5 : Int32).toNatClampNeg 0) (6 : Int32).toNatClampNeg 0) (7 : Int32).toNatClampNeg 0) (8 : Int32).toNatClampNeg 0) (9 : Int32).toNatClampNeg 0)))).set 34 ((u 33), .inr (2, ([.ref (u 0), .ref (u 12), .ref (u 19), .int 0, .ref (u 34), .ref (u 35), .ref (u 36), .ref (u 37), .int 0].set 3 (.int 1))))).set 35 ((u 34), .inl (cI, 120, .inl (upd (fun _ => 0) (0 : Int32).toNatClampNeg 10)))).set 36 ((u 35), .inl (cI, 120, .inl (upd (fun _ => 0) (0 : Int32).toNatClampNeg 0)))).set 37 ((u 36), .inl (cI, 120, .inl (upd (fun _ => 0) (0 : Int32).toNatClampNeg (-1))))) ++ [(ao, .inl (cJ, 1, .inr (.inl (vp_updL (fun _ => 0) (0 : Int32).toNatClampNeg 0))))])) hP) hK mW_0 rfl rfl hl.1 (Nat.le_of_ble_eq_true rfl) ⟨Nat.le_of_ble_eq_true rfl, Nat.le_of_ble_eq_true rfl⟩ dL_law_494 ?_
              refine lv_iload hx hb dL_law_497 (lv_at hl 1 rfl) ?_
              refine lv_icmp_eq (tgt := 504) hx hb dL_law_499 (by decide) (fun _ => ?_) (fun c => absurd c (by decide))
              refine lv_iload hx hb dL_law_504 (lv_at hl 1 rfl) ?_
              refine lv_if_ne (tgt := 521) hx hb dL_law_506 (by decide) (fun c => absurd c (by decide)) (fun _ => ?_)
              refine lv_aload_n hx hb dL_law_509 rfl (lv_at hl 3 rfl) ?_
              refine lv_iconst (v := 0) hx hb dL_law_510 (by decide) ?_
              refine xlald (t0 := 2) (v := 0) S hK hP (q0 := 119) rfl rfl (vin rfl) rfl dL_law_511 ?_
              refine lv_iload hx hb dL_law_512 (lv_at hl 0 rfl) ?_
              refine lv_i2l (v := 0) hx hb dL_law_514 (by decide) ?_
              refine xlcmp (v := 0) S dL_law_515 (by decide) ?_
              refine lv_if_eq (tgt := 521) hx hb dL_law_516 (by decide) (fun _ => ?_) (fun c => absurd c (by decide))
              refine lv_goto (tgt := 1519) hx hb dL_law_521 (by decide) ?_
              exact law_tail (C := 120) (Z := 12958) S hr hlocks hX hbl (lv_sub hl [2, 6] rfl) hS (Nat.le_of_ble_eq_true rfl) (Nat.le_of_ble_eq_true rfl)
        · have ne_x2_2 : ¬ x2 = 2 := d_470
          by_cases d_470 : x2 = 3
          · have e_x2 : x2 = 3 := d_470
            subst e_x2
            by_cases d_470 : x1 < 0
            · have hi_x1 : x1 ≤ (-1) := u_lt d_470 (by decide)
              refine wrap (mW om 0 q cI cZ) (mid := ((xW o u cI cZ cJ) ++ [(ao, .inl (cJ, 1, .inr (.inl (fun _ => 0))))])) (As := [.ref o, .int x1, .int 3, .ref ao]) S (h_ofProcedure_13 l D cI cZ cJ o u ao hst ra ga H.size x1 hi_x1) msh_L_ofProcedure kw_6_16 rfl rfl ⟨Nat.le_of_ble_eq_true rfl, Nat.le_of_ble_eq_true rfl⟩ hP hD hK hS hA hB hC hl.1 (Nat.le_of_ble_eq_true rfl) ⟨Nat.le_of_ble_eq_true rfl, Nat.le_of_ble_eq_true rfl⟩ dL_law_470 (fun H locs hz hP hD hS => ?_)
              have hP : va_P D vwCl ((mW om 0 q cI cZ) ++ ((xW o u cI cZ cJ) ++ [(ao, .inl (cJ, 1, .inr (.inl (fun _ => 0))))])) H := hP
              have hD : va_D A ((mW om 0 q cI cZ) ++ ((xW o u cI cZ cJ) ++ [(ao, .inl (cJ, 1, .inr (.inl (fun _ => 0))))])) := hD
              refine lv_istore (lv' := [(5, .int 1), (4, .int 0), (3, .ref ao), (2, .ref om), (1, .ref o), (0, .ref b)]) hx hb dL_law_473 hl (by decide) rfl (fun ls hl => ?_)
              refine lv_aload_n hx hb dL_law_475 rfl (lv_at hl 3 rfl) ?_
              refine lv_aload_n hx hb dL_law_476 rfl (lv_at hl 5 rfl) ?_
              refine lv_iload hx hb dL_law_477 (lv_at hl 1 rfl) ?_
              refine lv_iconst (v := 1) hx hb dL_law_479 (by decide) ?_
              refine xiadd (v := 1) S dL_law_480 (by decide) ?_
              refine xsld (v := x1) S hX hbl hbA hS (vin rfl) h1 dL_law_481 ?_
              refine lv_aload_n hx hb dL_law_482 rfl (lv_at hl 5 rfl) ?_
              refine lv_iload hx hb dL_law_483 (lv_at hl 1 rfl) ?_
              refine lv_iconst (v := 2) hx hb dL_law_485 (by decide) ?_
              refine xiadd (v := 2) S dL_law_486 (by decide) ?_
              refine xsld (v := 3) S hX hbl hbA hS (vin rfl) h2 dL_law_487 ?_
              refine fVi [] ((xW o u cI cZ cJ) ++ [(ao, .inl (cJ, 1, .inr (.inl (fun _ => 0))))]) (mid := (mW om 0 q cI cZ)) (As := [.int x1, .int 3]) (ci := 9) S (c_X9_ofProcedure_13 l D cI cZ cJ om q H.size x1 hi_x1) mi_X9_ofProcedure kw_7_199 rfl rfl ⟨Nat.le_of_ble_eq_true rfl, Nat.le_of_ble_eq_true rfl⟩ hP hD hK hS hA mW_0 rfl rfl hl.1 (Nat.le_of_ble_eq_true rfl) ⟨Nat.le_of_ble_eq_true rfl, Nat.le_of_ble_eq_true rfl⟩ dL_law_488 (fun H locs hz hP hD hS => ?_)
              have hP : va_P D vwCl ((mW om 1 q cI cZ) ++ ((xW o u cI cZ cJ) ++ [(ao, .inl (cJ, 1, .inr (.inl (fun _ => 0))))])) H := hP
              have hD : va_D A ((mW om 1 q cI cZ) ++ ((xW o u cI cZ cJ) ++ [(ao, .inl (cJ, 1, .inr (.inl (fun _ => 0))))])) := hD
              refine lv_istore (lv' := [(6, .int 0), (5, .int 1), (4, .int 0), (3, .ref ao), (2, .ref om), (1, .ref o), (0, .ref b)]) hx hb dL_law_491 hl (by decide) rfl (fun ls hl => ?_)
              refine lv_aload_n hx hb dL_law_493 rfl (lv_at hl 4 rfl) ?_
              refine rdV (As := []) (ci := 9) S (c_X9_thrown_0 l D cI cZ cJ om q) mi_X9_thrown kw_7_89 ⟨rfl, rfl⟩ ⟨Nat.le_of_ble_eq_true rfl, Nat.le_of_ble_eq_true rfl⟩ (va_Pl (ws := (mW om 1 q cI cZ)) (x := ((xW o u cI cZ cJ) ++ [(ao, .inl (cJ, 1, .inr (.inl (fun _ => 0))))])) hP) hK mW_0 rfl rfl hl.1 (Nat.le_of_ble_eq_true rfl) ⟨Nat.le_of_ble_eq_true rfl, Nat.le_of_ble_eq_true rfl⟩ dL_law_494 ?_
              refine lv_iload hx hb dL_law_497 (lv_at hl 1 rfl) ?_
              refine lv_icmp_eq (tgt := 504) hx hb dL_law_499 (by decide) (fun _ => ?_) (fun c => absurd c (by decide))
              refine lv_iload hx hb dL_law_504 (lv_at hl 1 rfl) ?_
              refine lv_if_ne (tgt := 521) hx hb dL_law_506 (by decide) (fun _ => ?_) (fun c => absurd c (by decide))
              refine lv_goto (tgt := 1519) hx hb dL_law_521 (by decide) ?_
              exact law_tail (C := 121) (Z := 12964) S hr hlocks hX hbl (lv_sub hl [2, 6] rfl) hS (Nat.le_of_ble_eq_true rfl) (Nat.le_of_ble_eq_true rfl)
            · have lo_x1 : 0 ≤ x1 := l_nlt d_470
              by_cases d_470 : 1 ≤ x1
              · have lo_x1 : 1 ≤ x1 := d_470
                refine wrap (mW om 0 q cI cZ) (mid := ((xW o u cI cZ cJ) ++ [(ao, .inl (cJ, 1, .inr (.inl (fun _ => 0))))])) (As := [.ref o, .int x1, .int 3, .ref ao]) S (h_ofProcedure_14 l D cI cZ cJ o u ao hst ra ga H.size x1 lo_x1) msh_L_ofProcedure kw_6_16 rfl rfl ⟨Nat.le_of_ble_eq_true rfl, Nat.le_of_ble_eq_true rfl⟩ hP hD hK hS hA hB hC hl.1 (Nat.le_of_ble_eq_true rfl) ⟨Nat.le_of_ble_eq_true rfl, Nat.le_of_ble_eq_true rfl⟩ dL_law_470 (fun H locs hz hP hD hS => ?_)
                have hP : va_P D vwCl ((mW om 0 q cI cZ) ++ ((xW o u cI cZ cJ) ++ [(ao, .inl (cJ, 1, .inr (.inl (fun _ => 0))))])) H := hP
                have hD : va_D A ((mW om 0 q cI cZ) ++ ((xW o u cI cZ cJ) ++ [(ao, .inl (cJ, 1, .inr (.inl (fun _ => 0))))])) := hD
                refine lv_istore (lv' := [(5, .int 1), (4, .int 0), (3, .ref ao), (2, .ref om), (1, .ref o), (0, .ref b)]) hx hb dL_law_473 hl (by decide) rfl (fun ls hl => ?_)
                refine lv_aload_n hx hb dL_law_475 rfl (lv_at hl 3 rfl) ?_
                refine lv_aload_n hx hb dL_law_476 rfl (lv_at hl 5 rfl) ?_
                refine lv_iload hx hb dL_law_477 (lv_at hl 1 rfl) ?_
                refine lv_iconst (v := 1) hx hb dL_law_479 (by decide) ?_
                refine xiadd (v := 1) S dL_law_480 (by decide) ?_
                refine xsld (v := x1) S hX hbl hbA hS (vin rfl) h1 dL_law_481 ?_
                refine lv_aload_n hx hb dL_law_482 rfl (lv_at hl 5 rfl) ?_
                refine lv_iload hx hb dL_law_483 (lv_at hl 1 rfl) ?_
                refine lv_iconst (v := 2) hx hb dL_law_485 (by decide) ?_
                refine xiadd (v := 2) S dL_law_486 (by decide) ?_
                refine xsld (v := 3) S hX hbl hbA hS (vin rfl) h2 dL_law_487 ?_
                refine fVi [] ((xW o u cI cZ cJ) ++ [(ao, .inl (cJ, 1, .inr (.inl (fun _ => 0))))]) (mid := (mW om 0 q cI cZ)) (As := [.int x1, .int 3]) (ci := 9) S (c_X9_ofProcedure_14 l D cI cZ cJ om q H.size x1 lo_x1) mi_X9_ofProcedure kw_7_199 rfl rfl ⟨Nat.le_of_ble_eq_true rfl, Nat.le_of_ble_eq_true rfl⟩ hP hD hK hS hA mW_0 rfl rfl hl.1 (Nat.le_of_ble_eq_true rfl) ⟨Nat.le_of_ble_eq_true rfl, Nat.le_of_ble_eq_true rfl⟩ dL_law_488 (fun H locs hz hP hD hS => ?_)
                have hP : va_P D vwCl ((mW om 1 q cI cZ) ++ ((xW o u cI cZ cJ) ++ [(ao, .inl (cJ, 1, .inr (.inl (fun _ => 0))))])) H := hP
                have hD : va_D A ((mW om 1 q cI cZ) ++ ((xW o u cI cZ cJ) ++ [(ao, .inl (cJ, 1, .inr (.inl (fun _ => 0))))])) := hD
                refine lv_istore (lv' := [(6, .int 0), (5, .int 1), (4, .int 0), (3, .ref ao), (2, .ref om), (1, .ref o), (0, .ref b)]) hx hb dL_law_491 hl (by decide) rfl (fun ls hl => ?_)
                refine lv_aload_n hx hb dL_law_493 rfl (lv_at hl 4 rfl) ?_
                refine rdV (As := []) (ci := 9) S (c_X9_thrown_0 l D cI cZ cJ om q) mi_X9_thrown kw_7_89 ⟨rfl, rfl⟩ ⟨Nat.le_of_ble_eq_true rfl, Nat.le_of_ble_eq_true rfl⟩ (va_Pl (ws := (mW om 1 q cI cZ)) (x := ((xW o u cI cZ cJ) ++ [(ao, .inl (cJ, 1, .inr (.inl (fun _ => 0))))])) hP) hK mW_0 rfl rfl hl.1 (Nat.le_of_ble_eq_true rfl) ⟨Nat.le_of_ble_eq_true rfl, Nat.le_of_ble_eq_true rfl⟩ dL_law_494 ?_
                refine lv_iload hx hb dL_law_497 (lv_at hl 1 rfl) ?_
                refine lv_icmp_eq (tgt := 504) hx hb dL_law_499 (by decide) (fun _ => ?_) (fun c => absurd c (by decide))
                refine lv_iload hx hb dL_law_504 (lv_at hl 1 rfl) ?_
                refine lv_if_ne (tgt := 521) hx hb dL_law_506 (by decide) (fun _ => ?_) (fun c => absurd c (by decide))
                refine lv_goto (tgt := 1519) hx hb dL_law_521 (by decide) ?_
                exact law_tail (C := 121) (Z := 12964) S hr hlocks hX hbl (lv_sub hl [2, 6] rfl) hS (Nat.le_of_ble_eq_true rfl) (Nat.le_of_ble_eq_true rfl)
              · have hi_x1 : x1 ≤ 0 := u_nge d_470 (by decide)
                have e_x1 : x1 = 0 := b_eq lo_x1 hi_x1
                subst e_x1
                refine wrap (mW om 0 q cI cZ) (mid := ((xW o u cI cZ cJ) ++ [(ao, .inl (cJ, 1, .inr (.inl (fun _ => 0))))])) (As := [.ref o, .int 0, .int 3, .ref ao]) S (h_ofProcedure_15 l D cI cZ cJ o u ao hst ra ga H.size) msh_L_ofProcedure kw_6_16 rfl rfl ⟨Nat.le_of_ble_eq_true rfl, Nat.le_of_ble_eq_true rfl⟩ hP hD hK hS hA hB hC hl.1 (Nat.le_of_ble_eq_true rfl) ⟨Nat.le_of_ble_eq_true rfl, Nat.le_of_ble_eq_true rfl⟩ dL_law_470 (fun H locs hz hP hD hS => ?_)
                have hP : va_P D vwCl ((mW om 0 q cI cZ) ++ ((((((((xW o u cI cZ cJ).set 0 (o, .inr (8, ((xF u).set 9 (.int 0))))).set 32 ((u 31), .inl (cZ, 10, .inl (upd (upd (upd (upd (upd (upd (upd (upd (upd (upd (fun _ => 0) (0 : Int32).toNatClampNeg 0) (1 : Int32).toNatClampNeg 0) (2 : Int32).toNatClampNeg 0) (3 : Int32).toNatClampNeg 0) (4 : Int32).toNatClampNeg 0) (5 : Int32).toNatClampNeg 0) (6 : Int32).toNatClampNeg 0) (7 : Int32).toNatClampNeg 0) (8 : Int32).toNatClampNeg 0) (9 : Int32).toNatClampNeg 0)))).set 34 ((u 33), .inr (2, ([.ref (u 0), .ref (u 12), .ref (u 19), .int 0, .ref (u 34), .ref (u 35), .ref (u 36), .ref (u 37), .int 0].set 3 (.int 1))))).set 35 ((u 34), .inl (cI, 120, .inl (upd (fun _ => 0) (0 : Int32).toNatClampNeg 10)))).set 36 ((u 35), .inl (cI, 120, .inl (upd (fun _ => 0) (0 : Int32).toNatClampNeg 0)))).set 37 ((u 36), .inl (cI, 120, .inl (upd (fun _ => 0) (0 : Int32).toNatClampNeg (-1))))) ++ [(ao, .inl (cJ, 1, .inr (.inl (vp_updL (fun _ => 0) (0 : Int32).toNatClampNeg 0))))])) H := hP
                have hD : va_D A ((mW om 0 q cI cZ) ++ ((((((((xW o u cI cZ cJ).set 0 (o, .inr (8, ((xF u).set 9 (.int 0))))).set 32 ((u 31), .inl (cZ, 10, .inl (upd (upd (upd (upd (upd (upd (upd (upd (upd (upd (fun _ => 0) (0 : Int32).toNatClampNeg 0) (1 : Int32).toNatClampNeg 0) (2 : Int32).toNatClampNeg 0) (3 : Int32).toNatClampNeg 0) (4 : Int32).toNatClampNeg 0) (5 : Int32).toNatClampNeg 0) (6 : Int32).toNatClampNeg 0) (7 : Int32).toNatClampNeg 0) (8 : Int32).toNatClampNeg 0) (9 : Int32).toNatClampNeg 0)))).set 34 ((u 33), .inr (2, ([.ref (u 0), .ref (u 12), .ref (u 19), .int 0, .ref (u 34), .ref (u 35), .ref (u 36), .ref (u 37), .int 0].set 3 (.int 1))))).set 35 ((u 34), .inl (cI, 120, .inl (upd (fun _ => 0) (0 : Int32).toNatClampNeg 10)))).set 36 ((u 35), .inl (cI, 120, .inl (upd (fun _ => 0) (0 : Int32).toNatClampNeg 0)))).set 37 ((u 36), .inl (cI, 120, .inl (upd (fun _ => 0) (0 : Int32).toNatClampNeg (-1))))) ++ [(ao, .inl (cJ, 1, .inr (.inl (vp_updL (fun _ => 0) (0 : Int32).toNatClampNeg 0))))])) := hD
                refine lv_istore (lv' := [(5, .int 0), (4, .int 0), (3, .ref ao), (2, .ref om), (1, .ref o), (0, .ref b)]) hx hb dL_law_473 hl (by decide) rfl (fun ls hl => ?_)
                refine lv_aload_n hx hb dL_law_475 rfl (lv_at hl 3 rfl) ?_
                refine lv_aload_n hx hb dL_law_476 rfl (lv_at hl 5 rfl) ?_
                refine lv_iload hx hb dL_law_477 (lv_at hl 1 rfl) ?_
                refine lv_iconst (v := 1) hx hb dL_law_479 (by decide) ?_
                refine xiadd (v := 1) S dL_law_480 (by decide) ?_
                refine xsld (v := 0) S hX hbl hbA hS (vin rfl) h1 dL_law_481 ?_
                refine lv_aload_n hx hb dL_law_482 rfl (lv_at hl 5 rfl) ?_
                refine lv_iload hx hb dL_law_483 (lv_at hl 1 rfl) ?_
                refine lv_iconst (v := 2) hx hb dL_law_485 (by decide) ?_
                refine xiadd (v := 2) S dL_law_486 (by decide) ?_
                refine xsld (v := 3) S hX hbl hbA hS (vin rfl) h2 dL_law_487 ?_
                refine fVi [] ((((((((xW o u cI cZ cJ).set 0 (o, .inr (8, ((xF u).set 9 (.int 0))))).set 32 ((u 31), .inl (cZ, 10, .inl (upd (upd (upd (upd (upd (upd (upd (upd (upd (upd (fun _ => 0) (0 : Int32).toNatClampNeg 0) (1 : Int32).toNatClampNeg 0) (2 : Int32).toNatClampNeg 0) (3 : Int32).toNatClampNeg 0) (4 : Int32).toNatClampNeg 0) (5 : Int32).toNatClampNeg 0) (6 : Int32).toNatClampNeg 0) (7 : Int32).toNatClampNeg 0) (8 : Int32).toNatClampNeg 0) (9 : Int32).toNatClampNeg 0)))).set 34 ((u 33), .inr (2, ([.ref (u 0), .ref (u 12), .ref (u 19), .int 0, .ref (u 34), .ref (u 35), .ref (u 36), .ref (u 37), .int 0].set 3 (.int 1))))).set 35 ((u 34), .inl (cI, 120, .inl (upd (fun _ => 0) (0 : Int32).toNatClampNeg 10)))).set 36 ((u 35), .inl (cI, 120, .inl (upd (fun _ => 0) (0 : Int32).toNatClampNeg 0)))).set 37 ((u 36), .inl (cI, 120, .inl (upd (fun _ => 0) (0 : Int32).toNatClampNeg (-1))))) ++ [(ao, .inl (cJ, 1, .inr (.inl (vp_updL (fun _ => 0) (0 : Int32).toNatClampNeg 0))))]) (mid := (mW om 0 q cI cZ)) (As := [.int 0, .int 3]) (ci := 9) S (c_X9_ofProcedure_15 l D cI cZ cJ om q H.size) mi_X9_ofProcedure kw_7_199 rfl rfl ⟨Nat.le_of_ble_eq_true rfl, Nat.le_of_ble_eq_true rfl⟩ hP hD hK hS hA mW_0 rfl rfl hl.1 (Nat.le_of_ble_eq_true rfl) ⟨Nat.le_of_ble_eq_true rfl, Nat.le_of_ble_eq_true rfl⟩ dL_law_488 (fun H locs hz hP hD hS => ?_)
                have hP : va_P D vwCl ((mW om 0 q cI cZ) ++ ((((((((xW o u cI cZ cJ).set 0 (o, .inr (8, ((xF u).set 9 (.int 0))))).set 32 ((u 31), .inl (cZ, 10, .inl (upd (upd (upd (upd (upd (upd (upd (upd (upd (upd (fun _ => 0) (0 : Int32).toNatClampNeg 0) (1 : Int32).toNatClampNeg 0) (2 : Int32).toNatClampNeg 0) (3 : Int32).toNatClampNeg 0) (4 : Int32).toNatClampNeg 0) (5 : Int32).toNatClampNeg 0) (6 : Int32).toNatClampNeg 0) (7 : Int32).toNatClampNeg 0) (8 : Int32).toNatClampNeg 0) (9 : Int32).toNatClampNeg 0)))).set 34 ((u 33), .inr (2, ([.ref (u 0), .ref (u 12), .ref (u 19), .int 0, .ref (u 34), .ref (u 35), .ref (u 36), .ref (u 37), .int 0].set 3 (.int 1))))).set 35 ((u 34), .inl (cI, 120, .inl (upd (fun _ => 0) (0 : Int32).toNatClampNeg 10)))).set 36 ((u 35), .inl (cI, 120, .inl (upd (fun _ => 0) (0 : Int32).toNatClampNeg 0)))).set 37 ((u 36), .inl (cI, 120, .inl (upd (fun _ => 0) (0 : Int32).toNatClampNeg (-1))))) ++ [(ao, .inl (cJ, 1, .inr (.inl (vp_updL (fun _ => 0) (0 : Int32).toNatClampNeg 0))))])) H := hP
                have hD : va_D A ((mW om 0 q cI cZ) ++ ((((((((xW o u cI cZ cJ).set 0 (o, .inr (8, ((xF u).set 9 (.int 0))))).set 32 ((u 31), .inl (cZ, 10, .inl (upd (upd (upd (upd (upd (upd (upd (upd (upd (upd (fun _ => 0) (0 : Int32).toNatClampNeg 0) (1 : Int32).toNatClampNeg 0) (2 : Int32).toNatClampNeg 0) (3 : Int32).toNatClampNeg 0) (4 : Int32).toNatClampNeg 0) (5 : Int32).toNatClampNeg 0) (6 : Int32).toNatClampNeg 0) (7 : Int32).toNatClampNeg 0) (8 : Int32).toNatClampNeg 0) (9 : Int32).toNatClampNeg 0)))).set 34 ((u 33), .inr (2, ([.ref (u 0), .ref (u 12), .ref (u 19), .int 0, .ref (u 34), .ref (u 35), .ref (u 36), .ref (u 37), .int 0].set 3 (.int 1))))).set 35 ((u 34), .inl (cI, 120, .inl (upd (fun _ => 0) (0 : Int32).toNatClampNeg 10)))).set 36 ((u 35), .inl (cI, 120, .inl (upd (fun _ => 0) (0 : Int32).toNatClampNeg 0)))).set 37 ((u 36), .inl (cI, 120, .inl (upd (fun _ => 0) (0 : Int32).toNatClampNeg (-1))))) ++ [(ao, .inl (cJ, 1, .inr (.inl (vp_updL (fun _ => 0) (0 : Int32).toNatClampNeg 0))))])) := hD
                refine lv_istore (lv' := [(6, .int 0), (5, .int 0), (4, .int 0), (3, .ref ao), (2, .ref om), (1, .ref o), (0, .ref b)]) hx hb dL_law_491 hl (by decide) rfl (fun ls hl => ?_)
                refine lv_aload_n hx hb dL_law_493 rfl (lv_at hl 4 rfl) ?_
                refine rdV (As := []) (ci := 9) S (c_X9_thrown_8 l D cI cZ cJ om q) mi_X9_thrown kw_7_89 ⟨rfl, rfl⟩ ⟨Nat.le_of_ble_eq_true rfl, Nat.le_of_ble_eq_true rfl⟩ (va_Pl (ws := (mW om 0 q cI cZ)) (x := ((((((((xW o u cI cZ cJ).set 0 (o, .inr (8, ((xF u).set 9 (.int 0))))).set 32 ((u 31), .inl (cZ, 10, .inl (upd (upd (upd (upd (upd (upd (upd (upd (upd (upd (fun _ => 0) (0 : Int32).toNatClampNeg 0) (1 : Int32).toNatClampNeg 0) (2 : Int32).toNatClampNeg 0) (3 : Int32).toNatClampNeg 0) (4 : Int32).toNatClampNeg 0) (5 : Int32).toNatClampNeg 0) (6 : Int32).toNatClampNeg 0) (7 : Int32).toNatClampNeg 0) (8 : Int32).toNatClampNeg 0) (9 : Int32).toNatClampNeg 0)))).set 34 ((u 33), .inr (2, ([.ref (u 0), .ref (u 12), .ref (u 19), .int 0, .ref (u 34), .ref (u 35), .ref (u 36), .ref (u 37), .int 0].set 3 (.int 1))))).set 35 ((u 34), .inl (cI, 120, .inl (upd (fun _ => 0) (0 : Int32).toNatClampNeg 10)))).set 36 ((u 35), .inl (cI, 120, .inl (upd (fun _ => 0) (0 : Int32).toNatClampNeg 0)))).set 37 ((u 36), .inl (cI, 120, .inl (upd (fun _ => 0) (0 : Int32).toNatClampNeg (-1))))) ++ [(ao, .inl (cJ, 1, .inr (.inl (vp_updL (fun _ => 0) (0 : Int32).toNatClampNeg 0))))])) hP) hK mW_0 rfl rfl hl.1 (Nat.le_of_ble_eq_true rfl) ⟨Nat.le_of_ble_eq_true rfl, Nat.le_of_ble_eq_true rfl⟩ dL_law_494 ?_
                refine lv_iload hx hb dL_law_497 (lv_at hl 1 rfl) ?_
                refine lv_icmp_eq (tgt := 504) hx hb dL_law_499 (by decide) (fun _ => ?_) (fun c => absurd c (by decide))
                refine lv_iload hx hb dL_law_504 (lv_at hl 1 rfl) ?_
                refine lv_if_ne (tgt := 521) hx hb dL_law_506 (by decide) (fun c => absurd c (by decide)) (fun _ => ?_)
                refine lv_aload_n hx hb dL_law_509 rfl (lv_at hl 3 rfl) ?_
                refine lv_iconst (v := 0) hx hb dL_law_510 (by decide) ?_
                refine xlald (t0 := 2) (v := 0) S hK hP (q0 := 119) rfl rfl (vin rfl) rfl dL_law_511 ?_
                refine lv_iload hx hb dL_law_512 (lv_at hl 0 rfl) ?_
                refine lv_i2l (v := 0) hx hb dL_law_514 (by decide) ?_
                refine xlcmp (v := 0) S dL_law_515 (by decide) ?_
                refine lv_if_eq (tgt := 521) hx hb dL_law_516 (by decide) (fun _ => ?_) (fun c => absurd c (by decide))
                refine lv_goto (tgt := 1519) hx hb dL_law_521 (by decide) ?_
                exact law_tail (C := 120) (Z := 12958) S hr hlocks hX hbl (lv_sub hl [2, 6] rfl) hS (Nat.le_of_ble_eq_true rfl) (Nat.le_of_ble_eq_true rfl)
          · have ne_x2_3 : ¬ x2 = 3 := d_470
            by_cases d_470 : x2 = 4
            · have e_x2 : x2 = 4 := d_470
              subst e_x2
              by_cases d_470 : x1 < 0
              · have hi_x1 : x1 ≤ (-1) := u_lt d_470 (by decide)
                refine wrap (mW om 0 q cI cZ) (mid := ((xW o u cI cZ cJ) ++ [(ao, .inl (cJ, 1, .inr (.inl (fun _ => 0))))])) (As := [.ref o, .int x1, .int 4, .ref ao]) S (h_ofProcedure_16 l D cI cZ cJ o u ao hst ra ga H.size x1 hi_x1) msh_L_ofProcedure kw_6_16 rfl rfl ⟨Nat.le_of_ble_eq_true rfl, Nat.le_of_ble_eq_true rfl⟩ hP hD hK hS hA hB hC hl.1 (Nat.le_of_ble_eq_true rfl) ⟨Nat.le_of_ble_eq_true rfl, Nat.le_of_ble_eq_true rfl⟩ dL_law_470 (fun H locs hz hP hD hS => ?_)
                have hP : va_P D vwCl ((mW om 0 q cI cZ) ++ ((xW o u cI cZ cJ) ++ [(ao, .inl (cJ, 1, .inr (.inl (fun _ => 0))))])) H := hP
                have hD : va_D A ((mW om 0 q cI cZ) ++ ((xW o u cI cZ cJ) ++ [(ao, .inl (cJ, 1, .inr (.inl (fun _ => 0))))])) := hD
                refine lv_istore (lv' := [(5, .int 1), (4, .int 0), (3, .ref ao), (2, .ref om), (1, .ref o), (0, .ref b)]) hx hb dL_law_473 hl (by decide) rfl (fun ls hl => ?_)
                refine lv_aload_n hx hb dL_law_475 rfl (lv_at hl 3 rfl) ?_
                refine lv_aload_n hx hb dL_law_476 rfl (lv_at hl 5 rfl) ?_
                refine lv_iload hx hb dL_law_477 (lv_at hl 1 rfl) ?_
                refine lv_iconst (v := 1) hx hb dL_law_479 (by decide) ?_
                refine xiadd (v := 1) S dL_law_480 (by decide) ?_
                refine xsld (v := x1) S hX hbl hbA hS (vin rfl) h1 dL_law_481 ?_
                refine lv_aload_n hx hb dL_law_482 rfl (lv_at hl 5 rfl) ?_
                refine lv_iload hx hb dL_law_483 (lv_at hl 1 rfl) ?_
                refine lv_iconst (v := 2) hx hb dL_law_485 (by decide) ?_
                refine xiadd (v := 2) S dL_law_486 (by decide) ?_
                refine xsld (v := 4) S hX hbl hbA hS (vin rfl) h2 dL_law_487 ?_
                refine fVi [] ((xW o u cI cZ cJ) ++ [(ao, .inl (cJ, 1, .inr (.inl (fun _ => 0))))]) (mid := (mW om 0 q cI cZ)) (As := [.int x1, .int 4]) (ci := 9) S (c_X9_ofProcedure_16 l D cI cZ cJ om q H.size x1 hi_x1) mi_X9_ofProcedure kw_7_199 rfl rfl ⟨Nat.le_of_ble_eq_true rfl, Nat.le_of_ble_eq_true rfl⟩ hP hD hK hS hA mW_0 rfl rfl hl.1 (Nat.le_of_ble_eq_true rfl) ⟨Nat.le_of_ble_eq_true rfl, Nat.le_of_ble_eq_true rfl⟩ dL_law_488 (fun H locs hz hP hD hS => ?_)
                have hP : va_P D vwCl ((mW om 1 q cI cZ) ++ ((xW o u cI cZ cJ) ++ [(ao, .inl (cJ, 1, .inr (.inl (fun _ => 0))))])) H := hP
                have hD : va_D A ((mW om 1 q cI cZ) ++ ((xW o u cI cZ cJ) ++ [(ao, .inl (cJ, 1, .inr (.inl (fun _ => 0))))])) := hD
                refine lv_istore (lv' := [(6, .int 0), (5, .int 1), (4, .int 0), (3, .ref ao), (2, .ref om), (1, .ref o), (0, .ref b)]) hx hb dL_law_491 hl (by decide) rfl (fun ls hl => ?_)
                refine lv_aload_n hx hb dL_law_493 rfl (lv_at hl 4 rfl) ?_
                refine rdV (As := []) (ci := 9) S (c_X9_thrown_0 l D cI cZ cJ om q) mi_X9_thrown kw_7_89 ⟨rfl, rfl⟩ ⟨Nat.le_of_ble_eq_true rfl, Nat.le_of_ble_eq_true rfl⟩ (va_Pl (ws := (mW om 1 q cI cZ)) (x := ((xW o u cI cZ cJ) ++ [(ao, .inl (cJ, 1, .inr (.inl (fun _ => 0))))])) hP) hK mW_0 rfl rfl hl.1 (Nat.le_of_ble_eq_true rfl) ⟨Nat.le_of_ble_eq_true rfl, Nat.le_of_ble_eq_true rfl⟩ dL_law_494 ?_
                refine lv_iload hx hb dL_law_497 (lv_at hl 1 rfl) ?_
                refine lv_icmp_eq (tgt := 504) hx hb dL_law_499 (by decide) (fun _ => ?_) (fun c => absurd c (by decide))
                refine lv_iload hx hb dL_law_504 (lv_at hl 1 rfl) ?_
                refine lv_if_ne (tgt := 521) hx hb dL_law_506 (by decide) (fun _ => ?_) (fun c => absurd c (by decide))
                refine lv_goto (tgt := 1519) hx hb dL_law_521 (by decide) ?_
                exact law_tail (C := 121) (Z := 12964) S hr hlocks hX hbl (lv_sub hl [2, 6] rfl) hS (Nat.le_of_ble_eq_true rfl) (Nat.le_of_ble_eq_true rfl)
              · have lo_x1 : 0 ≤ x1 := l_nlt d_470
                by_cases d_470 : 1 ≤ x1
                · have lo_x1 : 1 ≤ x1 := d_470
                  refine wrap (mW om 0 q cI cZ) (mid := ((xW o u cI cZ cJ) ++ [(ao, .inl (cJ, 1, .inr (.inl (fun _ => 0))))])) (As := [.ref o, .int x1, .int 4, .ref ao]) S (h_ofProcedure_17 l D cI cZ cJ o u ao hst ra ga H.size x1 lo_x1) msh_L_ofProcedure kw_6_16 rfl rfl ⟨Nat.le_of_ble_eq_true rfl, Nat.le_of_ble_eq_true rfl⟩ hP hD hK hS hA hB hC hl.1 (Nat.le_of_ble_eq_true rfl) ⟨Nat.le_of_ble_eq_true rfl, Nat.le_of_ble_eq_true rfl⟩ dL_law_470 (fun H locs hz hP hD hS => ?_)
                  have hP : va_P D vwCl ((mW om 0 q cI cZ) ++ ((xW o u cI cZ cJ) ++ [(ao, .inl (cJ, 1, .inr (.inl (fun _ => 0))))])) H := hP
                  have hD : va_D A ((mW om 0 q cI cZ) ++ ((xW o u cI cZ cJ) ++ [(ao, .inl (cJ, 1, .inr (.inl (fun _ => 0))))])) := hD
                  refine lv_istore (lv' := [(5, .int 1), (4, .int 0), (3, .ref ao), (2, .ref om), (1, .ref o), (0, .ref b)]) hx hb dL_law_473 hl (by decide) rfl (fun ls hl => ?_)
                  refine lv_aload_n hx hb dL_law_475 rfl (lv_at hl 3 rfl) ?_
                  refine lv_aload_n hx hb dL_law_476 rfl (lv_at hl 5 rfl) ?_
                  refine lv_iload hx hb dL_law_477 (lv_at hl 1 rfl) ?_
                  refine lv_iconst (v := 1) hx hb dL_law_479 (by decide) ?_
                  refine xiadd (v := 1) S dL_law_480 (by decide) ?_
                  refine xsld (v := x1) S hX hbl hbA hS (vin rfl) h1 dL_law_481 ?_
                  refine lv_aload_n hx hb dL_law_482 rfl (lv_at hl 5 rfl) ?_
                  refine lv_iload hx hb dL_law_483 (lv_at hl 1 rfl) ?_
                  refine lv_iconst (v := 2) hx hb dL_law_485 (by decide) ?_
                  refine xiadd (v := 2) S dL_law_486 (by decide) ?_
                  refine xsld (v := 4) S hX hbl hbA hS (vin rfl) h2 dL_law_487 ?_
                  refine fVi [] ((xW o u cI cZ cJ) ++ [(ao, .inl (cJ, 1, .inr (.inl (fun _ => 0))))]) (mid := (mW om 0 q cI cZ)) (As := [.int x1, .int 4]) (ci := 9) S (c_X9_ofProcedure_17 l D cI cZ cJ om q H.size x1 lo_x1) mi_X9_ofProcedure kw_7_199 rfl rfl ⟨Nat.le_of_ble_eq_true rfl, Nat.le_of_ble_eq_true rfl⟩ hP hD hK hS hA mW_0 rfl rfl hl.1 (Nat.le_of_ble_eq_true rfl) ⟨Nat.le_of_ble_eq_true rfl, Nat.le_of_ble_eq_true rfl⟩ dL_law_488 (fun H locs hz hP hD hS => ?_)
                  have hP : va_P D vwCl ((mW om 1 q cI cZ) ++ ((xW o u cI cZ cJ) ++ [(ao, .inl (cJ, 1, .inr (.inl (fun _ => 0))))])) H := hP
                  have hD : va_D A ((mW om 1 q cI cZ) ++ ((xW o u cI cZ cJ) ++ [(ao, .inl (cJ, 1, .inr (.inl (fun _ => 0))))])) := hD
                  refine lv_istore (lv' := [(6, .int 0), (5, .int 1), (4, .int 0), (3, .ref ao), (2, .ref om), (1, .ref o), (0, .ref b)]) hx hb dL_law_491 hl (by decide) rfl (fun ls hl => ?_)
                  refine lv_aload_n hx hb dL_law_493 rfl (lv_at hl 4 rfl) ?_
                  refine rdV (As := []) (ci := 9) S (c_X9_thrown_0 l D cI cZ cJ om q) mi_X9_thrown kw_7_89 ⟨rfl, rfl⟩ ⟨Nat.le_of_ble_eq_true rfl, Nat.le_of_ble_eq_true rfl⟩ (va_Pl (ws := (mW om 1 q cI cZ)) (x := ((xW o u cI cZ cJ) ++ [(ao, .inl (cJ, 1, .inr (.inl (fun _ => 0))))])) hP) hK mW_0 rfl rfl hl.1 (Nat.le_of_ble_eq_true rfl) ⟨Nat.le_of_ble_eq_true rfl, Nat.le_of_ble_eq_true rfl⟩ dL_law_494 ?_
                  refine lv_iload hx hb dL_law_497 (lv_at hl 1 rfl) ?_
                  refine lv_icmp_eq (tgt := 504) hx hb dL_law_499 (by decide) (fun _ => ?_) (fun c => absurd c (by decide))
                  refine lv_iload hx hb dL_law_504 (lv_at hl 1 rfl) ?_
                  refine lv_if_ne (tgt := 521) hx hb dL_law_506 (by decide) (fun _ => ?_) (fun c => absurd c (by decide))
                  refine lv_goto (tgt := 1519) hx hb dL_law_521 (by decide) ?_
                  exact law_tail (C := 121) (Z := 12964) S hr hlocks hX hbl (lv_sub hl [2, 6] rfl) hS (Nat.le_of_ble_eq_true rfl) (Nat.le_of_ble_eq_true rfl)
                · have hi_x1 : x1 ≤ 0 := u_nge d_470 (by decide)
                  have e_x1 : x1 = 0 := b_eq lo_x1 hi_x1
                  subst e_x1
                  refine wrap (mW om 0 q cI cZ) (mid := ((xW o u cI cZ cJ) ++ [(ao, .inl (cJ, 1, .inr (.inl (fun _ => 0))))])) (As := [.ref o, .int 0, .int 4, .ref ao]) S (h_ofProcedure_18 l D cI cZ cJ o u ao hst ra ga H.size) msh_L_ofProcedure kw_6_16 rfl rfl ⟨Nat.le_of_ble_eq_true rfl, Nat.le_of_ble_eq_true rfl⟩ hP hD hK hS hA hB hC hl.1 (Nat.le_of_ble_eq_true rfl) ⟨Nat.le_of_ble_eq_true rfl, Nat.le_of_ble_eq_true rfl⟩ dL_law_470 (fun H locs hz hP hD hS => ?_)
                  have hP : va_P D vwCl ((mW om 0 q cI cZ) ++ ((((((((xW o u cI cZ cJ).set 0 (o, .inr (8, ((xF u).set 9 (.int 0))))).set 32 ((u 31), .inl (cZ, 10, .inl (upd (upd (upd (upd (upd (upd (upd (upd (upd (upd (fun _ => 0) (0 : Int32).toNatClampNeg 0) (1 : Int32).toNatClampNeg 0) (2 : Int32).toNatClampNeg 0) (3 : Int32).toNatClampNeg 0) (4 : Int32).toNatClampNeg 0) (5 : Int32).toNatClampNeg 0) (6 : Int32).toNatClampNeg 0) (7 : Int32).toNatClampNeg 0) (8 : Int32).toNatClampNeg 0) (9 : Int32).toNatClampNeg 0)))).set 34 ((u 33), .inr (2, ([.ref (u 0), .ref (u 12), .ref (u 19), .int 0, .ref (u 34), .ref (u 35), .ref (u 36), .ref (u 37), .int 0].set 3 (.int 1))))).set 35 ((u 34), .inl (cI, 120, .inl (upd (fun _ => 0) (0 : Int32).toNatClampNeg 10)))).set 36 ((u 35), .inl (cI, 120, .inl (upd (fun _ => 0) (0 : Int32).toNatClampNeg 0)))).set 37 ((u 36), .inl (cI, 120, .inl (upd (fun _ => 0) (0 : Int32).toNatClampNeg (-1))))) ++ [(ao, .inl (cJ, 1, .inr (.inl (vp_updL (fun _ => 0) (0 : Int32).toNatClampNeg 0))))])) H := hP
                  have hD : va_D A ((mW om 0 q cI cZ) ++ ((((((((xW o u cI cZ cJ).set 0 (o, .inr (8, ((xF u).set 9 (.int 0))))).set 32 ((u 31), .inl (cZ, 10, .inl (upd (upd (upd (upd (upd (upd (upd (upd (upd (upd (fun _ => 0) (0 : Int32).toNatClampNeg 0) (1 : Int32).toNatClampNeg 0) (2 : Int32).toNatClampNeg 0) (3 : Int32).toNatClampNeg 0) (4 : Int32).toNatClampNeg 0) (5 : Int32).toNatClampNeg 0) (6 : Int32).toNatClampNeg 0) (7 : Int32).toNatClampNeg 0) (8 : Int32).toNatClampNeg 0) (9 : Int32).toNatClampNeg 0)))).set 34 ((u 33), .inr (2, ([.ref (u 0), .ref (u 12), .ref (u 19), .int 0, .ref (u 34), .ref (u 35), .ref (u 36), .ref (u 37), .int 0].set 3 (.int 1))))).set 35 ((u 34), .inl (cI, 120, .inl (upd (fun _ => 0) (0 : Int32).toNatClampNeg 10)))).set 36 ((u 35), .inl (cI, 120, .inl (upd (fun _ => 0) (0 : Int32).toNatClampNeg 0)))).set 37 ((u 36), .inl (cI, 120, .inl (upd (fun _ => 0) (0 : Int32).toNatClampNeg (-1))))) ++ [(ao, .inl (cJ, 1, .inr (.inl (vp_updL (fun _ => 0) (0 : Int32).toNatClampNeg 0))))])) := hD
                  refine lv_istore (lv' := [(5, .int 0), (4, .int 0), (3, .ref ao), (2, .ref om), (1, .ref o), (0, .ref b)]) hx hb dL_law_473 hl (by decide) rfl (fun ls hl => ?_)
                  refine lv_aload_n hx hb dL_law_475 rfl (lv_at hl 3 rfl) ?_
                  refine lv_aload_n hx hb dL_law_476 rfl (lv_at hl 5 rfl) ?_
                  refine lv_iload hx hb dL_law_477 (lv_at hl 1 rfl) ?_
                  refine lv_iconst (v := 1) hx hb dL_law_479 (by decide) ?_
                  refine xiadd (v := 1) S dL_law_480 (by decide) ?_
                  refine xsld (v := 0) S hX hbl hbA hS (vin rfl) h1 dL_law_481 ?_
                  refine lv_aload_n hx hb dL_law_482 rfl (lv_at hl 5 rfl) ?_
                  refine lv_iload hx hb dL_law_483 (lv_at hl 1 rfl) ?_
                  refine lv_iconst (v := 2) hx hb dL_law_485 (by decide) ?_
                  refine xiadd (v := 2) S dL_law_486 (by decide) ?_
                  refine xsld (v := 4) S hX hbl hbA hS (vin rfl) h2 dL_law_487 ?_
                  refine fVi [] ((((((((xW o u cI cZ cJ).set 0 (o, .inr (8, ((xF u).set 9 (.int 0))))).set 32 ((u 31), .inl (cZ, 10, .inl (upd (upd (upd (upd (upd (upd (upd (upd (upd (upd (fun _ => 0) (0 : Int32).toNatClampNeg 0) (1 : Int32).toNatClampNeg 0) (2 : Int32).toNatClampNeg 0) (3 : Int32).toNatClampNeg 0) (4 : Int32).toNatClampNeg 0) (5 : Int32).toNatClampNeg 0) (6 : Int32).toNatClampNeg 0) (7 : Int32).toNatClampNeg 0) (8 : Int32).toNatClampNeg 0) (9 : Int32).toNatClampNeg 0)))).set 34 ((u 33), .inr (2, ([.ref (u 0), .ref (u 12), .ref (u 19), .int 0, .ref (u 34), .ref (u 35), .ref (u 36), .ref (u 37), .int 0].set 3 (.int 1))))).set 35 ((u 34), .inl (cI, 120, .inl (upd (fun _ => 0) (0 : Int32).toNatClampNeg 10)))).set 36 ((u 35), .inl (cI, 120, .inl (upd (fun _ => 0) (0 : Int32).toNatClampNeg 0)))).set 37 ((u 36), .inl (cI, 120, .inl (upd (fun _ => 0) (0 : Int32).toNatClampNeg (-1))))) ++ [(ao, .inl (cJ, 1, .inr (.inl (vp_updL (fun _ => 0) (0 : Int32).toNatClampNeg 0))))]) (mid := (mW om 0 q cI cZ)) (As := [.int 0, .int 4]) (ci := 9) S (c_X9_ofProcedure_18 l D cI cZ cJ om q H.size) mi_X9_ofProcedure kw_7_199 rfl rfl ⟨Nat.le_of_ble_eq_true rfl, Nat.le_of_ble_eq_true rfl⟩ hP hD hK hS hA mW_0 rfl rfl hl.1 (Nat.le_of_ble_eq_true rfl) ⟨Nat.le_of_ble_eq_true rfl, Nat.le_of_ble_eq_true rfl⟩ dL_law_488 (fun H locs hz hP hD hS => ?_)
                  have hP : va_P D vwCl ((mW om 0 q cI cZ) ++ ((((((((xW o u cI cZ cJ).set 0 (o, .inr (8, ((xF u).set 9 (.int 0))))).set 32 ((u 31), .inl (cZ, 10, .inl (upd (upd (upd (upd (upd (upd (upd (upd (upd (upd (fun _ => 0) (0 : Int32).toNatClampNeg 0) (1 : Int32).toNatClampNeg 0) (2 : Int32).toNatClampNeg 0) (3 : Int32).toNatClampNeg 0) (4 : Int32).toNatClampNeg 0) (5 : Int32).toNatClampNeg 0) (6 : Int32).toNatClampNeg 0) (7 : Int32).toNatClampNeg 0) (8 : Int32).toNatClampNeg 0) (9 : Int32).toNatClampNeg 0)))).set 34 ((u 33), .inr (2, ([.ref (u 0), .ref (u 12), .ref (u 19), .int 0, .ref (u 34), .ref (u 35), .ref (u 36), .ref (u 37), .int 0].set 3 (.int 1))))).set 35 ((u 34), .inl (cI, 120, .inl (upd (fun _ => 0) (0 : Int32).toNatClampNeg 10)))).set 36 ((u 35), .inl (cI, 120, .inl (upd (fun _ => 0) (0 : Int32).toNatClampNeg 0)))).set 37 ((u 36), .inl (cI, 120, .inl (upd (fun _ => 0) (0 : Int32).toNatClampNeg (-1))))) ++ [(ao, .inl (cJ, 1, .inr (.inl (vp_updL (fun _ => 0) (0 : Int32).toNatClampNeg 0))))])) H := hP
                  have hD : va_D A ((mW om 0 q cI cZ) ++ ((((((((xW o u cI cZ cJ).set 0 (o, .inr (8, ((xF u).set 9 (.int 0))))).set 32 ((u 31), .inl (cZ, 10, .inl (upd (upd (upd (upd (upd (upd (upd (upd (upd (upd (fun _ => 0) (0 : Int32).toNatClampNeg 0) (1 : Int32).toNatClampNeg 0) (2 : Int32).toNatClampNeg 0) (3 : Int32).toNatClampNeg 0) (4 : Int32).toNatClampNeg 0) (5 : Int32).toNatClampNeg 0) (6 : Int32).toNatClampNeg 0) (7 : Int32).toNatClampNeg 0) (8 : Int32).toNatClampNeg 0) (9 : Int32).toNatClampNeg 0)))).set 34 ((u 33), .inr (2, ([.ref (u 0), .ref (u 12), .ref (u 19), .int 0, .ref (u 34), .ref (u 35), .ref (u 36), .ref (u 37), .int 0].set 3 (.int 1))))).set 35 ((u 34), .inl (cI, 120, .inl (upd (fun _ => 0) (0 : Int32).toNatClampNeg 10)))).set 36 ((u 35), .inl (cI, 120, .inl (upd (fun _ => 0) (0 : Int32).toNatClampNeg 0)))).set 37 ((u 36), .inl (cI, 120, .inl (upd (fun _ => 0) (0 : Int32).toNatClampNeg (-1))))) ++ [(ao, .inl (cJ, 1, .inr (.inl (vp_updL (fun _ => 0) (0 : Int32).toNatClampNeg 0))))])) := hD
                  refine lv_istore (lv' := [(6, .int 0), (5, .int 0), (4, .int 0), (3, .ref ao), (2, .ref om), (1, .ref o), (0, .ref b)]) hx hb dL_law_491 hl (by decide) rfl (fun ls hl => ?_)
                  refine lv_aload_n hx hb dL_law_493 rfl (lv_at hl 4 rfl) ?_
                  refine rdV (As := []) (ci := 9) S (c_X9_thrown_8 l D cI cZ cJ om q) mi_X9_thrown kw_7_89 ⟨rfl, rfl⟩ ⟨Nat.le_of_ble_eq_true rfl, Nat.le_of_ble_eq_true rfl⟩ (va_Pl (ws := (mW om 0 q cI cZ)) (x := ((((((((xW o u cI cZ cJ).set 0 (o, .inr (8, ((xF u).set 9 (.int 0))))).set 32 ((u 31), .inl (cZ, 10, .inl (upd (upd (upd (upd (upd (upd (upd (upd (upd (upd (fun _ => 0) (0 : Int32).toNatClampNeg 0) (1 : Int32).toNatClampNeg 0) (2 : Int32).toNatClampNeg 0) (3 : Int32).toNatClampNeg 0) (4 : Int32).toNatClampNeg 0) (5 : Int32).toNatClampNeg 0) (6 : Int32).toNatClampNeg 0) (7 : Int32).toNatClampNeg 0) (8 : Int32).toNatClampNeg 0) (9 : Int32).toNatClampNeg 0)))).set 34 ((u 33), .inr (2, ([.ref (u 0), .ref (u 12), .ref (u 19), .int 0, .ref (u 34), .ref (u 35), .ref (u 36), .ref (u 37), .int 0].set 3 (.int 1))))).set 35 ((u 34), .inl (cI, 120, .inl (upd (fun _ => 0) (0 : Int32).toNatClampNeg 10)))).set 36 ((u 35), .inl (cI, 120, .inl (upd (fun _ => 0) (0 : Int32).toNatClampNeg 0)))).set 37 ((u 36), .inl (cI, 120, .inl (upd (fun _ => 0) (0 : Int32).toNatClampNeg (-1))))) ++ [(ao, .inl (cJ, 1, .inr (.inl (vp_updL (fun _ => 0) (0 : Int32).toNatClampNeg 0))))])) hP) hK mW_0 rfl rfl hl.1 (Nat.le_of_ble_eq_true rfl) ⟨Nat.le_of_ble_eq_true rfl, Nat.le_of_ble_eq_true rfl⟩ dL_law_494 ?_
                  refine lv_iload hx hb dL_law_497 (lv_at hl 1 rfl) ?_
                  refine lv_icmp_eq (tgt := 504) hx hb dL_law_499 (by decide) (fun _ => ?_) (fun c => absurd c (by decide))
                  refine lv_iload hx hb dL_law_504 (lv_at hl 1 rfl) ?_
                  refine lv_if_ne (tgt := 521) hx hb dL_law_506 (by decide) (fun c => absurd c (by decide)) (fun _ => ?_)
                  refine lv_aload_n hx hb dL_law_509 rfl (lv_at hl 3 rfl) ?_
                  refine lv_iconst (v := 0) hx hb dL_law_510 (by decide) ?_
                  refine xlald (t0 := 2) (v := 0) S hK hP (q0 := 119) rfl rfl (vin rfl) rfl dL_law_511 ?_
                  refine lv_iload hx hb dL_law_512 (lv_at hl 0 rfl) ?_
                  refine lv_i2l (v := 0) hx hb dL_law_514 (by decide) ?_
                  refine xlcmp (v := 0) S dL_law_515 (by decide) ?_
                  refine lv_if_eq (tgt := 521) hx hb dL_law_516 (by decide) (fun _ => ?_) (fun c => absurd c (by decide))
                  refine lv_goto (tgt := 1519) hx hb dL_law_521 (by decide) ?_
                  exact law_tail (C := 120) (Z := 12958) S hr hlocks hX hbl (lv_sub hl [2, 6] rfl) hS (Nat.le_of_ble_eq_true rfl) (Nat.le_of_ble_eq_true rfl)
            · have ne_x2_4 : ¬ x2 = 4 := d_470
              by_cases d_470 : x2 = 5
              · have e_x2 : x2 = 5 := d_470
                subst e_x2
                by_cases d_470 : x1 < 0
                · have hi_x1 : x1 ≤ (-1) := u_lt d_470 (by decide)
                  refine wrap (mW om 0 q cI cZ) (mid := ((xW o u cI cZ cJ) ++ [(ao, .inl (cJ, 1, .inr (.inl (fun _ => 0))))])) (As := [.ref o, .int x1, .int 5, .ref ao]) S (h_ofProcedure_19 l D cI cZ cJ o u ao hst ra ga H.size x1 hi_x1) msh_L_ofProcedure kw_6_16 rfl rfl ⟨Nat.le_of_ble_eq_true rfl, Nat.le_of_ble_eq_true rfl⟩ hP hD hK hS hA hB hC hl.1 (Nat.le_of_ble_eq_true rfl) ⟨Nat.le_of_ble_eq_true rfl, Nat.le_of_ble_eq_true rfl⟩ dL_law_470 (fun H locs hz hP hD hS => ?_)
                  have hP : va_P D vwCl ((mW om 0 q cI cZ) ++ ((xW o u cI cZ cJ) ++ [(ao, .inl (cJ, 1, .inr (.inl (fun _ => 0))))])) H := hP
                  have hD : va_D A ((mW om 0 q cI cZ) ++ ((xW o u cI cZ cJ) ++ [(ao, .inl (cJ, 1, .inr (.inl (fun _ => 0))))])) := hD
                  refine lv_istore (lv' := [(5, .int 1), (4, .int 0), (3, .ref ao), (2, .ref om), (1, .ref o), (0, .ref b)]) hx hb dL_law_473 hl (by decide) rfl (fun ls hl => ?_)
                  refine lv_aload_n hx hb dL_law_475 rfl (lv_at hl 3 rfl) ?_
                  refine lv_aload_n hx hb dL_law_476 rfl (lv_at hl 5 rfl) ?_
                  refine lv_iload hx hb dL_law_477 (lv_at hl 1 rfl) ?_
                  refine lv_iconst (v := 1) hx hb dL_law_479 (by decide) ?_
                  refine xiadd (v := 1) S dL_law_480 (by decide) ?_
                  refine xsld (v := x1) S hX hbl hbA hS (vin rfl) h1 dL_law_481 ?_
                  refine lv_aload_n hx hb dL_law_482 rfl (lv_at hl 5 rfl) ?_
                  refine lv_iload hx hb dL_law_483 (lv_at hl 1 rfl) ?_
                  refine lv_iconst (v := 2) hx hb dL_law_485 (by decide) ?_
                  refine xiadd (v := 2) S dL_law_486 (by decide) ?_
                  refine xsld (v := 5) S hX hbl hbA hS (vin rfl) h2 dL_law_487 ?_
                  refine fVi [] ((xW o u cI cZ cJ) ++ [(ao, .inl (cJ, 1, .inr (.inl (fun _ => 0))))]) (mid := (mW om 0 q cI cZ)) (As := [.int x1, .int 5]) (ci := 9) S (c_X9_ofProcedure_19 l D cI cZ cJ om q H.size x1 hi_x1) mi_X9_ofProcedure kw_7_199 rfl rfl ⟨Nat.le_of_ble_eq_true rfl, Nat.le_of_ble_eq_true rfl⟩ hP hD hK hS hA mW_0 rfl rfl hl.1 (Nat.le_of_ble_eq_true rfl) ⟨Nat.le_of_ble_eq_true rfl, Nat.le_of_ble_eq_true rfl⟩ dL_law_488 (fun H locs hz hP hD hS => ?_)
                  have hP : va_P D vwCl ((mW om 1 q cI cZ) ++ ((xW o u cI cZ cJ) ++ [(ao, .inl (cJ, 1, .inr (.inl (fun _ => 0))))])) H := hP
                  have hD : va_D A ((mW om 1 q cI cZ) ++ ((xW o u cI cZ cJ) ++ [(ao, .inl (cJ, 1, .inr (.inl (fun _ => 0))))])) := hD
                  refine lv_istore (lv' := [(6, .int 0), (5, .int 1), (4, .int 0), (3, .ref ao), (2, .ref om), (1, .ref o), (0, .ref b)]) hx hb dL_law_491 hl (by decide) rfl (fun ls hl => ?_)
                  refine lv_aload_n hx hb dL_law_493 rfl (lv_at hl 4 rfl) ?_
                  refine rdV (As := []) (ci := 9) S (c_X9_thrown_0 l D cI cZ cJ om q) mi_X9_thrown kw_7_89 ⟨rfl, rfl⟩ ⟨Nat.le_of_ble_eq_true rfl, Nat.le_of_ble_eq_true rfl⟩ (va_Pl (ws := (mW om 1 q cI cZ)) (x := ((xW o u cI cZ cJ) ++ [(ao, .inl (cJ, 1, .inr (.inl (fun _ => 0))))])) hP) hK mW_0 rfl rfl hl.1 (Nat.le_of_ble_eq_true rfl) ⟨Nat.le_of_ble_eq_true rfl, Nat.le_of_ble_eq_true rfl⟩ dL_law_494 ?_
                  refine lv_iload hx hb dL_law_497 (lv_at hl 1 rfl) ?_
                  refine lv_icmp_eq (tgt := 504) hx hb dL_law_499 (by decide) (fun _ => ?_) (fun c => absurd c (by decide))
                  refine lv_iload hx hb dL_law_504 (lv_at hl 1 rfl) ?_
                  refine lv_if_ne (tgt := 521) hx hb dL_law_506 (by decide) (fun _ => ?_) (fun c => absurd c (by decide))
                  refine lv_goto (tgt := 1519) hx hb dL_law_521 (by decide) ?_
                  exact law_tail (C := 121) (Z := 12964) S hr hlocks hX hbl (lv_sub hl [2, 6] rfl) hS (Nat.le_of_ble_eq_true rfl) (Nat.le_of_ble_eq_true rfl)
                · have lo_x1 : 0 ≤ x1 := l_nlt d_470
                  by_cases d_470 : 1 ≤ x1
                  · have lo_x1 : 1 ≤ x1 := d_470
                    refine wrap (mW om 0 q cI cZ) (mid := ((xW o u cI cZ cJ) ++ [(ao, .inl (cJ, 1, .inr (.inl (fun _ => 0))))])) (As := [.ref o, .int x1, .int 5, .ref ao]) S (h_ofProcedure_20 l D cI cZ cJ o u ao hst ra ga H.size x1 lo_x1) msh_L_ofProcedure kw_6_16 rfl rfl ⟨Nat.le_of_ble_eq_true rfl, Nat.le_of_ble_eq_true rfl⟩ hP hD hK hS hA hB hC hl.1 (Nat.le_of_ble_eq_true rfl) ⟨Nat.le_of_ble_eq_true rfl, Nat.le_of_ble_eq_true rfl⟩ dL_law_470 (fun H locs hz hP hD hS => ?_)
                    have hP : va_P D vwCl ((mW om 0 q cI cZ) ++ ((xW o u cI cZ cJ) ++ [(ao, .inl (cJ, 1, .inr (.inl (fun _ => 0))))])) H := hP
                    have hD : va_D A ((mW om 0 q cI cZ) ++ ((xW o u cI cZ cJ) ++ [(ao, .inl (cJ, 1, .inr (.inl (fun _ => 0))))])) := hD
                    refine lv_istore (lv' := [(5, .int 1), (4, .int 0), (3, .ref ao), (2, .ref om), (1, .ref o), (0, .ref b)]) hx hb dL_law_473 hl (by decide) rfl (fun ls hl => ?_)
                    refine lv_aload_n hx hb dL_law_475 rfl (lv_at hl 3 rfl) ?_
                    refine lv_aload_n hx hb dL_law_476 rfl (lv_at hl 5 rfl) ?_
                    refine lv_iload hx hb dL_law_477 (lv_at hl 1 rfl) ?_
                    refine lv_iconst (v := 1) hx hb dL_law_479 (by decide) ?_
                    refine xiadd (v := 1) S dL_law_480 (by decide) ?_
                    refine xsld (v := x1) S hX hbl hbA hS (vin rfl) h1 dL_law_481 ?_
                    refine lv_aload_n hx hb dL_law_482 rfl (lv_at hl 5 rfl) ?_
                    refine lv_iload hx hb dL_law_483 (lv_at hl 1 rfl) ?_
                    refine lv_iconst (v := 2) hx hb dL_law_485 (by decide) ?_
                    refine xiadd (v := 2) S dL_law_486 (by decide) ?_
                    refine xsld (v := 5) S hX hbl hbA hS (vin rfl) h2 dL_law_487 ?_
                    refine fVi [] ((xW o u cI cZ cJ) ++ [(ao, .inl (cJ, 1, .inr (.inl (fun _ => 0))))]) (mid := (mW om 0 q cI cZ)) (As := [.int x1, .int 5]) (ci := 9) S (c_X9_ofProcedure_20 l D cI cZ cJ om q H.size x1 lo_x1) mi_X9_ofProcedure kw_7_199 rfl rfl ⟨Nat.le_of_ble_eq_true rfl, Nat.le_of_ble_eq_true rfl⟩ hP hD hK hS hA mW_0 rfl rfl hl.1 (Nat.le_of_ble_eq_true rfl) ⟨Nat.le_of_ble_eq_true rfl, Nat.le_of_ble_eq_true rfl⟩ dL_law_488 (fun H locs hz hP hD hS => ?_)
                    have hP : va_P D vwCl ((mW om 1 q cI cZ) ++ ((xW o u cI cZ cJ) ++ [(ao, .inl (cJ, 1, .inr (.inl (fun _ => 0))))])) H := hP
                    have hD : va_D A ((mW om 1 q cI cZ) ++ ((xW o u cI cZ cJ) ++ [(ao, .inl (cJ, 1, .inr (.inl (fun _ => 0))))])) := hD
                    refine lv_istore (lv' := [(6, .int 0), (5, .int 1), (4, .int 0), (3, .ref ao), (2, .ref om), (1, .ref o), (0, .ref b)]) hx hb dL_law_491 hl (by decide) rfl (fun ls hl => ?_)
                    refine lv_aload_n hx hb dL_law_493 rfl (lv_at hl 4 rfl) ?_
                    refine rdV (As := []) (ci := 9) S (c_X9_thrown_0 l D cI cZ cJ om q) mi_X9_thrown kw_7_89 ⟨rfl, rfl⟩ ⟨Nat.le_of_ble_eq_true rfl, Nat.le_of_ble_eq_true rfl⟩ (va_Pl (ws := (mW om 1 q cI cZ)) (x := ((xW o u cI cZ cJ) ++ [(ao, .inl (cJ, 1, .inr (.inl (fun _ => 0))))])) hP) hK mW_0 rfl rfl hl.1 (Nat.le_of_ble_eq_true rfl) ⟨Nat.le_of_ble_eq_true rfl, Nat.le_of_ble_eq_true rfl⟩ dL_law_494 ?_
                    refine lv_iload hx hb dL_law_497 (lv_at hl 1 rfl) ?_
                    refine lv_icmp_eq (tgt := 504) hx hb dL_law_499 (by decide) (fun _ => ?_) (fun c => absurd c (by decide))
                    refine lv_iload hx hb dL_law_504 (lv_at hl 1 rfl) ?_
                    refine lv_if_ne (tgt := 521) hx hb dL_law_506 (by decide) (fun _ => ?_) (fun c => absurd c (by decide))
                    refine lv_goto (tgt := 1519) hx hb dL_law_521 (by decide) ?_
                    exact law_tail (C := 121) (Z := 12964) S hr hlocks hX hbl (lv_sub hl [2, 6] rfl) hS (Nat.le_of_ble_eq_true rfl) (Nat.le_of_ble_eq_true rfl)
                  · have hi_x1 : x1 ≤ 0 := u_nge d_470 (by decide)
                    have e_x1 : x1 = 0 := b_eq lo_x1 hi_x1
                    subst e_x1
                    refine wrap (mW om 0 q cI cZ) (mid := ((xW o u cI cZ cJ) ++ [(ao, .inl (cJ, 1, .inr (.inl (fun _ => 0))))])) (As := [.ref o, .int 0, .int 5, .ref ao]) S (h_ofProcedure_21 l D cI cZ cJ o u ao hst ra ga H.size) msh_L_ofProcedure kw_6_16 rfl rfl ⟨Nat.le_of_ble_eq_true rfl, Nat.le_of_ble_eq_true rfl⟩ hP hD hK hS hA hB hC hl.1 (Nat.le_of_ble_eq_true rfl) ⟨Nat.le_of_ble_eq_true rfl, Nat.le_of_ble_eq_true rfl⟩ dL_law_470 (fun H locs hz hP hD hS => ?_)
                    have hP : va_P D vwCl ((mW om 0 q cI cZ) ++ ((((((((xW o u cI cZ cJ).set 0 (o, .inr (8, ((xF u).set 9 (.int 0))))).set 32 ((u 31), .inl (cZ, 10, .inl (upd (upd (upd (upd (upd (upd (upd (upd (upd (upd (fun _ => 0) (0 : Int32).toNatClampNeg 0) (1 : Int32).toNatClampNeg 0) (2 : Int32).toNatClampNeg 0) (3 : Int32).toNatClampNeg 0) (4 : Int32).toNatClampNeg 0) (5 : Int32).toNatClampNeg 0) (6 : Int32).toNatClampNeg 0) (7 : Int32).toNatClampNeg 0) (8 : Int32).toNatClampNeg 0) (9 : Int32).toNatClampNeg 0)))).set 34 ((u 33), .inr (2, ([.ref (u 0), .ref (u 12), .ref (u 19), .int 0, .ref (u 34), .ref (u 35), .ref (u 36), .ref (u 37), .int 0].set 3 (.int 1))))).set 35 ((u 34), .inl (cI, 120, .inl (upd (fun _ => 0) (0 : Int32).toNatClampNeg 10)))).set 36 ((u 35), .inl (cI, 120, .inl (upd (fun _ => 0) (0 : Int32).toNatClampNeg 0)))).set 37 ((u 36), .inl (cI, 120, .inl (upd (fun _ => 0) (0 : Int32).toNatClampNeg (-1))))) ++ [(ao, .inl (cJ, 1, .inr (.inl (vp_updL (fun _ => 0) (0 : Int32).toNatClampNeg 0))))])) H := hP
                    have hD : va_D A ((mW om 0 q cI cZ) ++ ((((((((xW o u cI cZ cJ).set 0 (o, .inr (8, ((xF u).set 9 (.int 0))))).set 32 ((u 31), .inl (cZ, 10, .inl (upd (upd (upd (upd (upd (upd (upd (upd (upd (upd (fun _ => 0) (0 : Int32).toNatClampNeg 0) (1 : Int32).toNatClampNeg 0) (2 : Int32).toNatClampNeg 0) (3 : Int32).toNatClampNeg 0) (4 : Int32).toNatClampNeg 0) (5 : Int32).toNatClampNeg 0) (6 : Int32).toNatClampNeg 0) (7 : Int32).toNatClampNeg 0) (8 : Int32).toNatClampNeg 0) (9 : Int32).toNatClampNeg 0)))).set 34 ((u 33), .inr (2, ([.ref (u 0), .ref (u 12), .ref (u 19), .int 0, .ref (u 34), .ref (u 35), .ref (u 36), .ref (u 37), .int 0].set 3 (.int 1))))).set 35 ((u 34), .inl (cI, 120, .inl (upd (fun _ => 0) (0 : Int32).toNatClampNeg 10)))).set 36 ((u 35), .inl (cI, 120, .inl (upd (fun _ => 0) (0 : Int32).toNatClampNeg 0)))).set 37 ((u 36), .inl (cI, 120, .inl (upd (fun _ => 0) (0 : Int32).toNatClampNeg (-1))))) ++ [(ao, .inl (cJ, 1, .inr (.inl (vp_updL (fun _ => 0) (0 : Int32).toNatClampNeg 0))))])) := hD
                    refine lv_istore (lv' := [(5, .int 0), (4, .int 0), (3, .ref ao), (2, .ref om), (1, .ref o), (0, .ref b)]) hx hb dL_law_473 hl (by decide) rfl (fun ls hl => ?_)
                    refine lv_aload_n hx hb dL_law_475 rfl (lv_at hl 3 rfl) ?_
                    refine lv_aload_n hx hb dL_law_476 rfl (lv_at hl 5 rfl) ?_
                    refine lv_iload hx hb dL_law_477 (lv_at hl 1 rfl) ?_
                    refine lv_iconst (v := 1) hx hb dL_law_479 (by decide) ?_
                    refine xiadd (v := 1) S dL_law_480 (by decide) ?_
                    refine xsld (v := 0) S hX hbl hbA hS (vin rfl) h1 dL_law_481 ?_
                    refine lv_aload_n hx hb dL_law_482 rfl (lv_at hl 5 rfl) ?_
                    refine lv_iload hx hb dL_law_483 (lv_at hl 1 rfl) ?_
                    refine lv_iconst (v := 2) hx hb dL_law_485 (by decide) ?_
                    refine xiadd (v := 2) S dL_law_486 (by decide) ?_
                    refine xsld (v := 5) S hX hbl hbA hS (vin rfl) h2 dL_law_487 ?_
                    refine fVi [] ((((((((xW o u cI cZ cJ).set 0 (o, .inr (8, ((xF u).set 9 (.int 0))))).set 32 ((u 31), .inl (cZ, 10, .inl (upd (upd (upd (upd (upd (upd (upd (upd (upd (upd (fun _ => 0) (0 : Int32).toNatClampNeg 0) (1 : Int32).toNatClampNeg 0) (2 : Int32).toNatClampNeg 0) (3 : Int32).toNatClampNeg 0) (4 : Int32).toNatClampNeg 0) (5 : Int32).toNatClampNeg 0) (6 : Int32).toNatClampNeg 0) (7 : Int32).toNatClampNeg 0) (8 : Int32).toNatClampNeg 0) (9 : Int32).toNatClampNeg 0)))).set 34 ((u 33), .inr (2, ([.ref (u 0), .ref (u 12), .ref (u 19), .int 0, .ref (u 34), .ref (u 35), .ref (u 36), .ref (u 37), .int 0].set 3 (.int 1))))).set 35 ((u 34), .inl (cI, 120, .inl (upd (fun _ => 0) (0 : Int32).toNatClampNeg 10)))).set 36 ((u 35), .inl (cI, 120, .inl (upd (fun _ => 0) (0 : Int32).toNatClampNeg 0)))).set 37 ((u 36), .inl (cI, 120, .inl (upd (fun _ => 0) (0 : Int32).toNatClampNeg (-1))))) ++ [(ao, .inl (cJ, 1, .inr (.inl (vp_updL (fun _ => 0) (0 : Int32).toNatClampNeg 0))))]) (mid := (mW om 0 q cI cZ)) (As := [.int 0, .int 5]) (ci := 9) S (c_X9_ofProcedure_21 l D cI cZ cJ om q H.size) mi_X9_ofProcedure kw_7_199 rfl rfl ⟨Nat.le_of_ble_eq_true rfl, Nat.le_of_ble_eq_true rfl⟩ hP hD hK hS hA mW_0 rfl rfl hl.1 (Nat.le_of_ble_eq_true rfl) ⟨Nat.le_of_ble_eq_true rfl, Nat.le_of_ble_eq_true rfl⟩ dL_law_488 (fun H locs hz hP hD hS => ?_)
                    have hP : va_P D vwCl ((mW om 0 q cI cZ) ++ ((((((((xW o u cI cZ cJ).set 0 (o, .inr (8, ((xF u).set 9 (.int 0))))).set 32 ((u 31), .inl (cZ, 10, .inl (upd (upd (upd (upd (upd (upd (upd (upd (upd (upd (fun _ => 0) (0 : Int32).toNatClampNeg 0) (1 : Int32).toNatClampNeg 0) (2 : Int32).toNatClampNeg 0) (3 : Int32).toNatClampNeg 0) (4 : Int32).toNatClampNeg 0) (5 : Int32).toNatClampNeg 0) (6 : Int32).toNatClampNeg 0) (7 : Int32).toNatClampNeg 0) (8 : Int32).toNatClampNeg 0) (9 : Int32).toNatClampNeg 0)))).set 34 ((u 33), .inr (2, ([.ref (u 0), .ref (u 12), .ref (u 19), .int 0, .ref (u 34), .ref (u 35), .ref (u 36), .ref (u 37), .int 0].set 3 (.int 1))))).set 35 ((u 34), .inl (cI, 120, .inl (upd (fun _ => 0) (0 : Int32).toNatClampNeg 10)))).set 36 ((u 35), .inl (cI, 120, .inl (upd (fun _ => 0) (0 : Int32).toNatClampNeg 0)))).set 37 ((u 36), .inl (cI, 120, .inl (upd (fun _ => 0) (0 : Int32).toNatClampNeg (-1))))) ++ [(ao, .inl (cJ, 1, .inr (.inl (vp_updL (fun _ => 0) (0 : Int32).toNatClampNeg 0))))])) H := hP
                    have hD : va_D A ((mW om 0 q cI cZ) ++ ((((((((xW o u cI cZ cJ).set 0 (o, .inr (8, ((xF u).set 9 (.int 0))))).set 32 ((u 31), .inl (cZ, 10, .inl (upd (upd (upd (upd (upd (upd (upd (upd (upd (upd (fun _ => 0) (0 : Int32).toNatClampNeg 0) (1 : Int32).toNatClampNeg 0) (2 : Int32).toNatClampNeg 0) (3 : Int32).toNatClampNeg 0) (4 : Int32).toNatClampNeg 0) (5 : Int32).toNatClampNeg 0) (6 : Int32).toNatClampNeg 0) (7 : Int32).toNatClampNeg 0) (8 : Int32).toNatClampNeg 0) (9 : Int32).toNatClampNeg 0)))).set 34 ((u 33), .inr (2, ([.ref (u 0), .ref (u 12), .ref (u 19), .int 0, .ref (u 34), .ref (u 35), .ref (u 36), .ref (u 37), .int 0].set 3 (.int 1))))).set 35 ((u 34), .inl (cI, 120, .inl (upd (fun _ => 0) (0 : Int32).toNatClampNeg 10)))).set 36 ((u 35), .inl (cI, 120, .inl (upd (fun _ => 0) (0 : Int32).toNatClampNeg 0)))).set 37 ((u 36), .inl (cI, 120, .inl (upd (fun _ => 0) (0 : Int32).toNatClampNeg (-1))))) ++ [(ao, .inl (cJ, 1, .inr (.inl (vp_updL (fun _ => 0) (0 : Int32).toNatClampNeg 0))))])) := hD
                    refine lv_istore (lv' := [(6, .int 0), (5, .int 0), (4, .int 0), (3, .ref ao), (2, .ref om), (1, .ref o), (0, .ref b)]) hx hb dL_law_491 hl (by decide) rfl (fun ls hl => ?_)
                    refine lv_aload_n hx hb dL_law_493 rfl (lv_at hl 4 rfl) ?_
                    refine rdV (As := []) (ci := 9) S (c_X9_thrown_8 l D cI cZ cJ om q) mi_X9_thrown kw_7_89 ⟨rfl, rfl⟩ ⟨Nat.le_of_ble_eq_true rfl, Nat.le_of_ble_eq_true rfl⟩ (va_Pl (ws := (mW om 0 q cI cZ)) (x := ((((((((xW o u cI cZ cJ).set 0 (o, .inr (8, ((xF u).set 9 (.int 0))))).set 32 ((u 31), .inl (cZ, 10, .inl (upd (upd (upd (upd (upd (upd (upd (upd (upd (upd (fun _ => 0) (0 : Int32).toNatClampNeg 0) (1 : Int32).toNatClampNeg 0) (2 : Int32).toNatClampNeg 0) (3 : Int32).toNatClampNeg 0) (4 : Int32).toNatClampNeg 0) (5 : Int32).toNatClampNeg 0) (6 : Int32).toNatClampNeg 0) (7 : Int32).toNatClampNeg 0) (8 : Int32).toNatClampNeg 0) (9 : Int32).toNatClampNeg 0)))).set 34 ((u 33), .inr (2, ([.ref (u 0), .ref (u 12), .ref (u 19), .int 0, .ref (u 34), .ref (u 35), .ref (u 36), .ref (u 37), .int 0].set 3 (.int 1))))).set 35 ((u 34), .inl (cI, 120, .inl (upd (fun _ => 0) (0 : Int32).toNatClampNeg 10)))).set 36 ((u 35), .inl (cI, 120, .inl (upd (fun _ => 0) (0 : Int32).toNatClampNeg 0)))).set 37 ((u 36), .inl (cI, 120, .inl (upd (fun _ => 0) (0 : Int32).toNatClampNeg (-1))))) ++ [(ao, .inl (cJ, 1, .inr (.inl (vp_updL (fun _ => 0) (0 : Int32).toNatClampNeg 0))))])) hP) hK mW_0 rfl rfl hl.1 (Nat.le_of_ble_eq_true rfl) ⟨Nat.le_of_ble_eq_true rfl, Nat.le_of_ble_eq_true rfl⟩ dL_law_494 ?_
                    refine lv_iload hx hb dL_law_497 (lv_at hl 1 rfl) ?_
                    refine lv_icmp_eq (tgt := 504) hx hb dL_law_499 (by decide) (fun _ => ?_) (fun c => absurd c (by decide))
                    refine lv_iload hx hb dL_law_504 (lv_at hl 1 rfl) ?_
                    refine lv_if_ne (tgt := 521) hx hb dL_law_506 (by decide) (fun c => absurd c (by decide)) (fun _ => ?_)
                    refine lv_aload_n hx hb dL_law_509 rfl (lv_at hl 3 rfl) ?_
                    refine lv_iconst (v := 0) hx hb dL_law_510 (by decide) ?_
                    refine xlald (t0 := 2) (v := 0) S hK hP (q0 := 119) rfl rfl (vin rfl) rfl dL_law_511 ?_
                    refine lv_iload hx hb dL_law_512 (lv_at hl 0 rfl) ?_
                    refine lv_i2l (v := 0) hx hb dL_law_514 (by decide) ?_
                    refine xlcmp (v := 0) S dL_law_515 (by decide) ?_
                    refine lv_if_eq (tgt := 521) hx hb dL_law_516 (by decide) (fun _ => ?_) (fun c => absurd c (by decide))
                    refine lv_goto (tgt := 1519) hx hb dL_law_521 (by decide) ?_
                    exact law_tail (C := 120) (Z := 12958) S hr hlocks hX hbl (lv_sub hl [2, 6] rfl) hS (Nat.le_of_ble_eq_true rfl) (Nat.le_of_ble_eq_true rfl)
              · have ne_x2_5 : ¬ x2 = 5 := d_470
                by_cases d_470 : x1 < 0
                · have hi_x1 : x1 ≤ (-1) := u_lt d_470 (by decide)
                  refine wrap (mW om 0 q cI cZ) (mid := ((xW o u cI cZ cJ) ++ [(ao, .inl (cJ, 1, .inr (.inl (fun _ => 0))))])) (As := [.ref o, .int x1, .int x2, .ref ao]) S (h_ofProcedure_22 l D cI cZ cJ o u ao hst ra ga H.size x1 x2 hi_x1 hi_x2 ne_x2_0 ne_x2_1 ne_x2_2 ne_x2_3 ne_x2_4 ne_x2_5) msh_L_ofProcedure kw_6_16 rfl rfl ⟨Nat.le_of_ble_eq_true rfl, Nat.le_of_ble_eq_true rfl⟩ hP hD hK hS hA hB hC hl.1 (Nat.le_of_ble_eq_true rfl) ⟨Nat.le_of_ble_eq_true rfl, Nat.le_of_ble_eq_true rfl⟩ dL_law_470 (fun H locs hz hP hD hS => ?_)
                  have hP : va_P D vwCl ((mW om 0 q cI cZ) ++ ((xW o u cI cZ cJ) ++ [(ao, .inl (cJ, 1, .inr (.inl (fun _ => 0))))])) H := hP
                  have hD : va_D A ((mW om 0 q cI cZ) ++ ((xW o u cI cZ cJ) ++ [(ao, .inl (cJ, 1, .inr (.inl (fun _ => 0))))])) := hD
                  refine lv_istore (lv' := [(5, .int 1), (4, .int 0), (3, .ref ao), (2, .ref om), (1, .ref o), (0, .ref b)]) hx hb dL_law_473 hl (by decide) rfl (fun ls hl => ?_)
                  refine lv_aload_n hx hb dL_law_475 rfl (lv_at hl 3 rfl) ?_
                  refine lv_aload_n hx hb dL_law_476 rfl (lv_at hl 5 rfl) ?_
                  refine lv_iload hx hb dL_law_477 (lv_at hl 1 rfl) ?_
                  refine lv_iconst (v := 1) hx hb dL_law_479 (by decide) ?_
                  refine xiadd (v := 1) S dL_law_480 (by decide) ?_
                  refine xsld (v := x1) S hX hbl hbA hS (vin rfl) h1 dL_law_481 ?_
                  refine lv_aload_n hx hb dL_law_482 rfl (lv_at hl 5 rfl) ?_
                  refine lv_iload hx hb dL_law_483 (lv_at hl 1 rfl) ?_
                  refine lv_iconst (v := 2) hx hb dL_law_485 (by decide) ?_
                  refine xiadd (v := 2) S dL_law_486 (by decide) ?_
                  refine xsld (v := x2) S hX hbl hbA hS (vin rfl) h2 dL_law_487 ?_
                  refine fVi [] ((xW o u cI cZ cJ) ++ [(ao, .inl (cJ, 1, .inr (.inl (fun _ => 0))))]) (mid := (mW om 0 q cI cZ)) (As := [.int x1, .int x2]) (ci := 9) S (c_X9_ofProcedure_22 l D cI cZ cJ om q H.size x1 x2 hi_x1 hi_x2 ne_x2_0 ne_x2_1 ne_x2_2 ne_x2_3 ne_x2_4 ne_x2_5) mi_X9_ofProcedure kw_7_199 rfl rfl ⟨Nat.le_of_ble_eq_true rfl, Nat.le_of_ble_eq_true rfl⟩ hP hD hK hS hA mW_0 rfl rfl hl.1 (Nat.le_of_ble_eq_true rfl) ⟨Nat.le_of_ble_eq_true rfl, Nat.le_of_ble_eq_true rfl⟩ dL_law_488 (fun H locs hz hP hD hS => ?_)
                  have hP : va_P D vwCl ((mW om 1 q cI cZ) ++ ((xW o u cI cZ cJ) ++ [(ao, .inl (cJ, 1, .inr (.inl (fun _ => 0))))])) H := hP
                  have hD : va_D A ((mW om 1 q cI cZ) ++ ((xW o u cI cZ cJ) ++ [(ao, .inl (cJ, 1, .inr (.inl (fun _ => 0))))])) := hD
                  refine lv_istore (lv' := [(6, .int 0), (5, .int 1), (4, .int 0), (3, .ref ao), (2, .ref om), (1, .ref o), (0, .ref b)]) hx hb dL_law_491 hl (by decide) rfl (fun ls hl => ?_)
                  refine lv_aload_n hx hb dL_law_493 rfl (lv_at hl 4 rfl) ?_
                  refine rdV (As := []) (ci := 9) S (c_X9_thrown_0 l D cI cZ cJ om q) mi_X9_thrown kw_7_89 ⟨rfl, rfl⟩ ⟨Nat.le_of_ble_eq_true rfl, Nat.le_of_ble_eq_true rfl⟩ (va_Pl (ws := (mW om 1 q cI cZ)) (x := ((xW o u cI cZ cJ) ++ [(ao, .inl (cJ, 1, .inr (.inl (fun _ => 0))))])) hP) hK mW_0 rfl rfl hl.1 (Nat.le_of_ble_eq_true rfl) ⟨Nat.le_of_ble_eq_true rfl, Nat.le_of_ble_eq_true rfl⟩ dL_law_494 ?_
                  refine lv_iload hx hb dL_law_497 (lv_at hl 1 rfl) ?_
                  refine lv_icmp_eq (tgt := 504) hx hb dL_law_499 (by decide) (fun _ => ?_) (fun c => absurd c (by decide))
                  refine lv_iload hx hb dL_law_504 (lv_at hl 1 rfl) ?_
                  refine lv_if_ne (tgt := 521) hx hb dL_law_506 (by decide) (fun _ => ?_) (fun c => absurd c (by decide))
                  refine lv_goto (tgt := 1519) hx hb dL_law_521 (by decide) ?_
                  exact law_tail (C := 121) (Z := 12964) S hr hlocks hX hbl (lv_sub hl [2, 6] rfl) hS (Nat.le_of_ble_eq_true rfl) (Nat.le_of_ble_eq_true rfl)
                · have lo_x1 : 0 ≤ x1 := l_nlt d_470
                  by_cases d_470 : 1 ≤ x1
                  · have lo_x1 : 1 ≤ x1 := d_470
                    refine wrap (mW om 0 q cI cZ) (mid := ((xW o u cI cZ cJ) ++ [(ao, .inl (cJ, 1, .inr (.inl (fun _ => 0))))])) (As := [.ref o, .int x1, .int x2, .ref ao]) S (h_ofProcedure_23 l D cI cZ cJ o u ao hst ra ga H.size x1 x2 lo_x1 hi_x2 ne_x2_0 ne_x2_1 ne_x2_2 ne_x2_3 ne_x2_4 ne_x2_5) msh_L_ofProcedure kw_6_16 rfl rfl ⟨Nat.le_of_ble_eq_true rfl, Nat.le_of_ble_eq_true rfl⟩ hP hD hK hS hA hB hC hl.1 (Nat.le_of_ble_eq_true rfl) ⟨Nat.le_of_ble_eq_true rfl, Nat.le_of_ble_eq_true rfl⟩ dL_law_470 (fun H locs hz hP hD hS => ?_)
                    have hP : va_P D vwCl ((mW om 0 q cI cZ) ++ ((xW o u cI cZ cJ) ++ [(ao, .inl (cJ, 1, .inr (.inl (fun _ => 0))))])) H := hP
                    have hD : va_D A ((mW om 0 q cI cZ) ++ ((xW o u cI cZ cJ) ++ [(ao, .inl (cJ, 1, .inr (.inl (fun _ => 0))))])) := hD
                    refine lv_istore (lv' := [(5, .int 1), (4, .int 0), (3, .ref ao), (2, .ref om), (1, .ref o), (0, .ref b)]) hx hb dL_law_473 hl (by decide) rfl (fun ls hl => ?_)
                    refine lv_aload_n hx hb dL_law_475 rfl (lv_at hl 3 rfl) ?_
                    refine lv_aload_n hx hb dL_law_476 rfl (lv_at hl 5 rfl) ?_
                    refine lv_iload hx hb dL_law_477 (lv_at hl 1 rfl) ?_
                    refine lv_iconst (v := 1) hx hb dL_law_479 (by decide) ?_
                    refine xiadd (v := 1) S dL_law_480 (by decide) ?_
                    refine xsld (v := x1) S hX hbl hbA hS (vin rfl) h1 dL_law_481 ?_
                    refine lv_aload_n hx hb dL_law_482 rfl (lv_at hl 5 rfl) ?_
                    refine lv_iload hx hb dL_law_483 (lv_at hl 1 rfl) ?_
                    refine lv_iconst (v := 2) hx hb dL_law_485 (by decide) ?_
                    refine xiadd (v := 2) S dL_law_486 (by decide) ?_
                    refine xsld (v := x2) S hX hbl hbA hS (vin rfl) h2 dL_law_487 ?_
                    refine fVi [] ((xW o u cI cZ cJ) ++ [(ao, .inl (cJ, 1, .inr (.inl (fun _ => 0))))]) (mid := (mW om 0 q cI cZ)) (As := [.int x1, .int x2]) (ci := 9) S (c_X9_ofProcedure_23 l D cI cZ cJ om q H.size x1 x2 lo_x1 hi_x2 ne_x2_0 ne_x2_1 ne_x2_2 ne_x2_3 ne_x2_4 ne_x2_5) mi_X9_ofProcedure kw_7_199 rfl rfl ⟨Nat.le_of_ble_eq_true rfl, Nat.le_of_ble_eq_true rfl⟩ hP hD hK hS hA mW_0 rfl rfl hl.1 (Nat.le_of_ble_eq_true rfl) ⟨Nat.le_of_ble_eq_true rfl, Nat.le_of_ble_eq_true rfl⟩ dL_law_488 (fun H locs hz hP hD hS => ?_)
                    have hP : va_P D vwCl ((mW om 1 q cI cZ) ++ ((xW o u cI cZ cJ) ++ [(ao, .inl (cJ, 1, .inr (.inl (fun _ => 0))))])) H := hP
                    have hD : va_D A ((mW om 1 q cI cZ) ++ ((xW o u cI cZ cJ) ++ [(ao, .inl (cJ, 1, .inr (.inl (fun _ => 0))))])) := hD
                    refine lv_istore (lv' := [(6, .int 0), (5, .int 1), (4, .int 0), (3, .ref ao), (2, .ref om), (1, .ref o), (0, .ref b)]) hx hb dL_law_491 hl (by decide) rfl (fun ls hl => ?_)
                    refine lv_aload_n hx hb dL_law_493 rfl (lv_at hl 4 rfl) ?_
                    refine rdV (As := []) (ci := 9) S (c_X9_thrown_0 l D cI cZ cJ om q) mi_X9_thrown kw_7_89 ⟨rfl, rfl⟩ ⟨Nat.le_of_ble_eq_true rfl, Nat.le_of_ble_eq_true rfl⟩ (va_Pl (ws := (mW om 1 q cI cZ)) (x := ((xW o u cI cZ cJ) ++ [(ao, .inl (cJ, 1, .inr (.inl (fun _ => 0))))])) hP) hK mW_0 rfl rfl hl.1 (Nat.le_of_ble_eq_true rfl) ⟨Nat.le_of_ble_eq_true rfl, Nat.le_of_ble_eq_true rfl⟩ dL_law_494 ?_
                    refine lv_iload hx hb dL_law_497 (lv_at hl 1 rfl) ?_
                    refine lv_icmp_eq (tgt := 504) hx hb dL_law_499 (by decide) (fun _ => ?_) (fun c => absurd c (by decide))
                    refine lv_iload hx hb dL_law_504 (lv_at hl 1 rfl) ?_
                    refine lv_if_ne (tgt := 521) hx hb dL_law_506 (by decide) (fun _ => ?_) (fun c => absurd c (by decide))
                    refine lv_goto (tgt := 1519) hx hb dL_law_521 (by decide) ?_
                    exact law_tail (C := 121) (Z := 12964) S hr hlocks hX hbl (lv_sub hl [2, 6] rfl) hS (Nat.le_of_ble_eq_true rfl) (Nat.le_of_ble_eq_true rfl)
                  · have hi_x1 : x1 ≤ 0 := u_nge d_470 (by decide)
                    have e_x1 : x1 = 0 := b_eq lo_x1 hi_x1
                    subst e_x1
                    by_cases d_470 : x2 < 0
                    · have hi_x2 : x2 ≤ (-1) := u_lt d_470 (by decide)
                      refine wrap (mW om 0 q cI cZ) (mid := ((xW o u cI cZ cJ) ++ [(ao, .inl (cJ, 1, .inr (.inl (fun _ => 0))))])) (As := [.ref o, .int 0, .int x2, .ref ao]) S (h_ofProcedure_24 l D cI cZ cJ o u ao hst ra ga H.size x2 hi_x2 ne_x2_0 ne_x2_1 ne_x2_2 ne_x2_3 ne_x2_4 ne_x2_5) msh_L_ofProcedure kw_6_16 rfl rfl ⟨Nat.le_of_ble_eq_true rfl, Nat.le_of_ble_eq_true rfl⟩ hP hD hK hS hA hB hC hl.1 (Nat.le_of_ble_eq_true rfl) ⟨Nat.le_of_ble_eq_true rfl, Nat.le_of_ble_eq_true rfl⟩ dL_law_470 (fun H locs hz hP hD hS => ?_)
                      have hP : va_P D vwCl ((mW om 0 q cI cZ) ++ ((xW o u cI cZ cJ) ++ [(ao, .inl (cJ, 1, .inr (.inl (fun _ => 0))))])) H := hP
                      have hD : va_D A ((mW om 0 q cI cZ) ++ ((xW o u cI cZ cJ) ++ [(ao, .inl (cJ, 1, .inr (.inl (fun _ => 0))))])) := hD
                      refine lv_istore (lv' := [(5, .int 2), (4, .int 0), (3, .ref ao), (2, .ref om), (1, .ref o), (0, .ref b)]) hx hb dL_law_473 hl (by decide) rfl (fun ls hl => ?_)
                      refine lv_aload_n hx hb dL_law_475 rfl (lv_at hl 3 rfl) ?_
                      refine lv_aload_n hx hb dL_law_476 rfl (lv_at hl 5 rfl) ?_
                      refine lv_iload hx hb dL_law_477 (lv_at hl 1 rfl) ?_
                      refine lv_iconst (v := 1) hx hb dL_law_479 (by decide) ?_
                      refine xiadd (v := 1) S dL_law_480 (by decide) ?_
                      refine xsld (v := 0) S hX hbl hbA hS (vin rfl) h1 dL_law_481 ?_
                      refine lv_aload_n hx hb dL_law_482 rfl (lv_at hl 5 rfl) ?_
                      refine lv_iload hx hb dL_law_483 (lv_at hl 1 rfl) ?_
                      refine lv_iconst (v := 2) hx hb dL_law_485 (by decide) ?_
                      refine xiadd (v := 2) S dL_law_486 (by decide) ?_
                      refine xsld (v := x2) S hX hbl hbA hS (vin rfl) h2 dL_law_487 ?_
                      refine fVi [] ((xW o u cI cZ cJ) ++ [(ao, .inl (cJ, 1, .inr (.inl (fun _ => 0))))]) (mid := (mW om 0 q cI cZ)) (As := [.int 0, .int x2]) (ci := 9) S (c_X9_ofProcedure_24 l D cI cZ cJ om q H.size x2 hi_x2 ne_x2_0 ne_x2_1 ne_x2_2 ne_x2_3 ne_x2_4 ne_x2_5) mi_X9_ofProcedure kw_7_199 rfl rfl ⟨Nat.le_of_ble_eq_true rfl, Nat.le_of_ble_eq_true rfl⟩ hP hD hK hS hA mW_0 rfl rfl hl.1 (Nat.le_of_ble_eq_true rfl) ⟨Nat.le_of_ble_eq_true rfl, Nat.le_of_ble_eq_true rfl⟩ dL_law_488 (fun H locs hz hP hD hS => ?_)
                      have hP : va_P D vwCl ((mW om 2 q cI cZ) ++ ((xW o u cI cZ cJ) ++ [(ao, .inl (cJ, 1, .inr (.inl (fun _ => 0))))])) H := hP
                      have hD : va_D A ((mW om 2 q cI cZ) ++ ((xW o u cI cZ cJ) ++ [(ao, .inl (cJ, 1, .inr (.inl (fun _ => 0))))])) := hD
                      refine lv_istore (lv' := [(6, .int 0), (5, .int 2), (4, .int 0), (3, .ref ao), (2, .ref om), (1, .ref o), (0, .ref b)]) hx hb dL_law_491 hl (by decide) rfl (fun ls hl => ?_)
                      refine lv_aload_n hx hb dL_law_493 rfl (lv_at hl 4 rfl) ?_
                      refine rdV (As := []) (ci := 9) S (c_X9_thrown_1 l D cI cZ cJ om q) mi_X9_thrown kw_7_89 ⟨rfl, rfl⟩ ⟨Nat.le_of_ble_eq_true rfl, Nat.le_of_ble_eq_true rfl⟩ (va_Pl (ws := (mW om 2 q cI cZ)) (x := ((xW o u cI cZ cJ) ++ [(ao, .inl (cJ, 1, .inr (.inl (fun _ => 0))))])) hP) hK mW_0 rfl rfl hl.1 (Nat.le_of_ble_eq_true rfl) ⟨Nat.le_of_ble_eq_true rfl, Nat.le_of_ble_eq_true rfl⟩ dL_law_494 ?_
                      refine lv_iload hx hb dL_law_497 (lv_at hl 1 rfl) ?_
                      refine lv_icmp_eq (tgt := 504) hx hb dL_law_499 (by decide) (fun _ => ?_) (fun c => absurd c (by decide))
                      refine lv_iload hx hb dL_law_504 (lv_at hl 1 rfl) ?_
                      refine lv_if_ne (tgt := 521) hx hb dL_law_506 (by decide) (fun _ => ?_) (fun c => absurd c (by decide))
                      refine lv_goto (tgt := 1519) hx hb dL_law_521 (by decide) ?_
                      exact law_tail (C := 121) (Z := 12964) S hr hlocks hX hbl (lv_sub hl [2, 6] rfl) hS (Nat.le_of_ble_eq_true rfl) (Nat.le_of_ble_eq_true rfl)
                    · have lo_x2 : 0 ≤ x2 := l_nlt d_470
                      have lo_x2 : 1 ≤ x2 := l_ne ne_x2_0 lo_x2 (by decide)
                      have lo_x2 : 2 ≤ x2 := l_ne ne_x2_1 lo_x2 (by decide)
                      have lo_x2 : 3 ≤ x2 := l_ne ne_x2_2 lo_x2 (by decide)
                      have lo_x2 : 4 ≤ x2 := l_ne ne_x2_3 lo_x2 (by decide)
                      have lo_x2 : 5 ≤ x2 := l_ne ne_x2_4 lo_x2 (by decide)
                      have lo_x2 : 6 ≤ x2 := l_ne ne_x2_5 lo_x2 (by decide)
                      have e_x2 : x2 = 6 := b_eq lo_x2 hi_x2
                      subst e_x2
                      refine wrap (mW om 0 q cI cZ) (mid := ((xW o u cI cZ cJ) ++ [(ao, .inl (cJ, 1, .inr (.inl (fun _ => 0))))])) (As := [.ref o, .int 0, .int 6, .ref ao]) S (h_ofProcedure_25 l D cI cZ cJ o u ao hst ra ga H.size) msh_L_ofProcedure kw_6_16 rfl rfl ⟨Nat.le_of_ble_eq_true rfl, Nat.le_of_ble_eq_true rfl⟩ hP hD hK hS hA hB hC hl.1 (Nat.le_of_ble_eq_true rfl) ⟨Nat.le_of_ble_eq_true rfl, Nat.le_of_ble_eq_true rfl⟩ dL_law_470 (fun H locs hz hP hD hS => ?_)
                      have hP : va_P D vwCl ((mW om 0 q cI cZ) ++ ((((((((xW o u cI cZ cJ).set 0 (o, .inr (8, ((xF u).set 9 (.int 0))))).set 32 ((u 31), .inl (cZ, 10, .inl (upd (upd (upd (upd (upd (upd (upd (upd (upd (upd (fun _ => 0) (0 : Int32).toNatClampNeg 0) (1 : Int32).toNatClampNeg 0) (2 : Int32).toNatClampNeg 0) (3 : Int32).toNatClampNeg 0) (4 : Int32).toNatClampNeg 0) (5 : Int32).toNatClampNeg 0) (6 : Int32).toNatClampNeg 0) (7 : Int32).toNatClampNeg 0) (8 : Int32).toNatClampNeg 0) (9 : Int32).toNatClampNeg 0)))).set 34 ((u 33), .inr (2, ([.ref (u 0), .ref (u 12), .ref (u 19), .int 0, .ref (u 34), .ref (u 35), .ref (u 36), .ref (u 37), .int 0].set 3 (.int 1))))).set 35 ((u 34), .inl (cI, 120, .inl (upd (fun _ => 0) (0 : Int32).toNatClampNeg 10)))).set 36 ((u 35), .inl (cI, 120, .inl (upd (fun _ => 0) (0 : Int32).toNatClampNeg 0)))).set 37 ((u 36), .inl (cI, 120, .inl (upd (fun _ => 0) (0 : Int32).toNatClampNeg (-1))))) ++ [(ao, .inl (cJ, 1, .inr (.inl (vp_updL (fun _ => 0) (0 : Int32).toNatClampNeg (-1)))))])) H := hP
                      have hD : va_D A ((mW om 0 q cI cZ) ++ ((((((((xW o u cI cZ cJ).set 0 (o, .inr (8, ((xF u).set 9 (.int 0))))).set 32 ((u 31), .inl (cZ, 10, .inl (upd (upd (upd (upd (upd (upd (upd (upd (upd (upd (fun _ => 0) (0 : Int32).toNatClampNeg 0) (1 : Int32).toNatClampNeg 0) (2 : Int32).toNatClampNeg 0) (3 : Int32).toNatClampNeg 0) (4 : Int32).toNatClampNeg 0) (5 : Int32).toNatClampNeg 0) (6 : Int32).toNatClampNeg 0) (7 : Int32).toNatClampNeg 0) (8 : Int32).toNatClampNeg 0) (9 : Int32).toNatClampNeg 0)))).set 34 ((u 33), .inr (2, ([.ref (u 0), .ref (u 12), .ref (u 19), .int 0, .ref (u 34), .ref (u 35), .ref (u 36), .ref (u 37), .int 0].set 3 (.int 1))))).set 35 ((u 34), .inl (cI, 120, .inl (upd (fun _ => 0) (0 : Int32).toNatClampNeg 10)))).set 36 ((u 35), .inl (cI, 120, .inl (upd (fun _ => 0) (0 : Int32).toNatClampNeg 0)))).set 37 ((u 36), .inl (cI, 120, .inl (upd (fun _ => 0) (0 : Int32).toNatClampNeg (-1))))) ++ [(ao, .inl (cJ, 1, .inr (.inl (vp_updL (fun _ => 0) (0 : Int32).toNatClampNeg (-1)))))])) := hD
                      refine lv_istore (lv' := [(5, .int 0), (4, .int 0), (3, .ref ao), (2, .ref om), (1, .ref o), (0, .ref b)]) hx hb dL_law_473 hl (by decide) rfl (fun ls hl => ?_)
                      refine lv_aload_n hx hb dL_law_475 rfl (lv_at hl 3 rfl) ?_
                      refine lv_aload_n hx hb dL_law_476 rfl (lv_at hl 5 rfl) ?_
                      refine lv_iload hx hb dL_law_477 (lv_at hl 1 rfl) ?_
                      refine lv_iconst (v := 1) hx hb dL_law_479 (by decide) ?_
                      refine xiadd (v := 1) S dL_law_480 (by decide) ?_
                      refine xsld (v := 0) S hX hbl hbA hS (vin rfl) h1 dL_law_481 ?_
                      refine lv_aload_n hx hb dL_law_482 rfl (lv_at hl 5 rfl) ?_
                      refine lv_iload hx hb dL_law_483 (lv_at hl 1 rfl) ?_
                      refine lv_iconst (v := 2) hx hb dL_law_485 (by decide) ?_
                      refine xiadd (v := 2) S dL_law_486 (by decide) ?_
                      refine xsld (v := 6) S hX hbl hbA hS (vin rfl) h2 dL_law_487 ?_
                      refine fVi [] ((((((((xW o u cI cZ cJ).set 0 (o, .inr (8, ((xF u).set 9 (.int 0))))).set 32 ((u 31), .inl (cZ, 10, .inl (upd (upd (upd (upd (upd (upd (upd (upd (upd (upd (fun _ => 0) (0 : Int32).toNatClampNeg 0) (1 : Int32).toNatClampNeg 0) (2 : Int32).toNatClampNeg 0) (3 : Int32).toNatClampNeg 0) (4 : Int32).toNatClampNeg 0) (5 : Int32).toNatClampNeg 0) (6 : Int32).toNatClampNeg 0) (7 : Int32).toNatClampNeg 0) (8 : Int32).toNatClampNeg 0) (9 : Int32).toNatClampNeg 0)))).set 34 ((u 33), .inr (2, ([.ref (u 0), .ref (u 12), .ref (u 19), .int 0, .ref (u 34), .ref (u 35), .ref (u 36), .ref (u 37), .int 0].set 3 (.int 1))))).set 35 ((u 34), .inl (cI, 120, .inl (upd (fun _ => 0) (0 : Int32).toNatClampNeg 10)))).set 36 ((u 35), .inl (cI, 120, .inl (upd (fun _ => 0) (0 : Int32).toNatClampNeg 0)))).set 37 ((u 36), .inl (cI, 120, .inl (upd (fun _ => 0) (0 : Int32).toNatClampNeg (-1))))) ++ [(ao, .inl (cJ, 1, .inr (.inl (vp_updL (fun _ => 0) (0 : Int32).toNatClampNeg (-1)))))]) (mid := (mW om 0 q cI cZ)) (As := [.int 0, .int 6]) (ci := 9) S (c_X9_ofProcedure_25 l D cI cZ cJ om q H.size) mi_X9_ofProcedure kw_7_199 rfl rfl ⟨Nat.le_of_ble_eq_true rfl, Nat.le_of_ble_eq_true rfl⟩ hP hD hK hS hA mW_0 rfl rfl hl.1 (Nat.le_of_ble_eq_true rfl) ⟨Nat.le_of_ble_eq_true rfl, Nat.le_of_ble_eq_true rfl⟩ dL_law_488 (fun H locs hz hP hD hS => ?_)
                      have hP : va_P D vwCl ((mW om 0 q cI cZ) ++ ((((((((xW o u cI cZ cJ).set 0 (o, .inr (8, ((xF u).set 9 (.int 0))))).set 32 ((u 31), .inl (cZ, 10, .inl (upd (upd (upd (upd (upd (upd (upd (upd (upd (upd (fun _ => 0) (0 : Int32).toNatClampNeg 0) (1 : Int32).toNatClampNeg 0) (2 : Int32).toNatClampNeg 0) (3 : Int32).toNatClampNeg 0) (4 : Int32).toNatClampNeg 0) (5 : Int32).toNatClampNeg 0) (6 : Int32).toNatClampNeg 0) (7 : Int32).toNatClampNeg 0) (8 : Int32).toNatClampNeg 0) (9 : Int32).toNatClampNeg 0)))).set 34 ((u 33), .inr (2, ([.ref (u 0), .ref (u 12), .ref (u 19), .int 0, .ref (u 34), .ref (u 35), .ref (u 36), .ref (u 37), .int 0].set 3 (.int 1))))).set 35 ((u 34), .inl (cI, 120, .inl (upd (fun _ => 0) (0 : Int32).toNatClampNeg 10)))).set 36 ((u 35), .inl (cI, 120, .inl (upd (fun _ => 0) (0 : Int32).toNatClampNeg 0)))).set 37 ((u 36), .inl (cI, 120, .inl (upd (fun _ => 0) (0 : Int32).toNatClampNeg (-1))))) ++ [(ao, .inl (cJ, 1, .inr (.inl (vp_updL (fun _ => 0) (0 : Int32).toNatClampNeg (-1)))))])) H := hP
                      have hD : va_D A ((mW om 0 q cI cZ) ++ ((((((((xW o u cI cZ cJ).set 0 (o, .inr (8, ((xF u).set 9 (.int 0))))).set 32 ((u 31), .inl (cZ, 10, .inl (upd (upd (upd (upd (upd (upd (upd (upd (upd (upd (fun _ => 0) (0 : Int32).toNatClampNeg 0) (1 : Int32).toNatClampNeg 0) (2 : Int32).toNatClampNeg 0) (3 : Int32).toNatClampNeg 0) (4 : Int32).toNatClampNeg 0) (5 : Int32).toNatClampNeg 0) (6 : Int32).toNatClampNeg 0) (7 : Int32).toNatClampNeg 0) (8 : Int32).toNatClampNeg 0) (9 : Int32).toNatClampNeg 0)))).set 34 ((u 33), .inr (2, ([.ref (u 0), .ref (u 12), .ref (u 19), .int 0, .ref (u 34), .ref (u 35), .ref (u 36), .ref (u 37), .int 0].set 3 (.int 1))))).set 35 ((u 34), .inl (cI, 120, .inl (upd (fun _ => 0) (0 : Int32).toNatClampNeg 10)))).set 36 ((u 35), .inl (cI, 120, .inl (upd (fun _ => 0) (0 : Int32).toNatClampNeg 0)))).set 37 ((u 36), .inl (cI, 120, .inl (upd (fun _ => 0) (0 : Int32).toNatClampNeg (-1))))) ++ [(ao, .inl (cJ, 1, .inr (.inl (vp_updL (fun _ => 0) (0 : Int32).toNatClampNeg (-1)))))])) := hD
                      refine lv_istore (lv' := [(6, .int (-1)), (5, .int 0), (4, .int 0), (3, .ref ao), (2, .ref om), (1, .ref o), (0, .ref b)]) hx hb dL_law_491 hl (by decide) rfl (fun ls hl => ?_)
                      refine lv_aload_n hx hb dL_law_493 rfl (lv_at hl 4 rfl) ?_
                      refine rdV (As := []) (ci := 9) S (c_X9_thrown_8 l D cI cZ cJ om q) mi_X9_thrown kw_7_89 ⟨rfl, rfl⟩ ⟨Nat.le_of_ble_eq_true rfl, Nat.le_of_ble_eq_true rfl⟩ (va_Pl (ws := (mW om 0 q cI cZ)) (x := ((((((((xW o u cI cZ cJ).set 0 (o, .inr (8, ((xF u).set 9 (.int 0))))).set 32 ((u 31), .inl (cZ, 10, .inl (upd (upd (upd (upd (upd (upd (upd (upd (upd (upd (fun _ => 0) (0 : Int32).toNatClampNeg 0) (1 : Int32).toNatClampNeg 0) (2 : Int32).toNatClampNeg 0) (3 : Int32).toNatClampNeg 0) (4 : Int32).toNatClampNeg 0) (5 : Int32).toNatClampNeg 0) (6 : Int32).toNatClampNeg 0) (7 : Int32).toNatClampNeg 0) (8 : Int32).toNatClampNeg 0) (9 : Int32).toNatClampNeg 0)))).set 34 ((u 33), .inr (2, ([.ref (u 0), .ref (u 12), .ref (u 19), .int 0, .ref (u 34), .ref (u 35), .ref (u 36), .ref (u 37), .int 0].set 3 (.int 1))))).set 35 ((u 34), .inl (cI, 120, .inl (upd (fun _ => 0) (0 : Int32).toNatClampNeg 10)))).set 36 ((u 35), .inl (cI, 120, .inl (upd (fun _ => 0) (0 : Int32).toNatClampNeg 0)))).set 37 ((u 36), .inl (cI, 120, .inl (upd (fun _ => 0) (0 : Int32).toNatClampNeg (-1))))) ++ [(ao, .inl (cJ, 1, .inr (.inl (vp_updL (fun _ => 0) (0 : Int32).toNatClampNeg (-1)))))])) hP) hK mW_0 rfl rfl hl.1 (Nat.le_of_ble_eq_true rfl) ⟨Nat.le_of_ble_eq_true rfl, Nat.le_of_ble_eq_true rfl⟩ dL_law_494 ?_
                      refine lv_iload hx hb dL_law_497 (lv_at hl 1 rfl) ?_
                      refine lv_icmp_eq (tgt := 504) hx hb dL_law_499 (by decide) (fun _ => ?_) (fun c => absurd c (by decide))
                      refine lv_iload hx hb dL_law_504 (lv_at hl 1 rfl) ?_
                      refine lv_if_ne (tgt := 521) hx hb dL_law_506 (by decide) (fun c => absurd c (by decide)) (fun _ => ?_)
                      refine lv_aload_n hx hb dL_law_509 rfl (lv_at hl 3 rfl) ?_
                      refine lv_iconst (v := 0) hx hb dL_law_510 (by decide) ?_
                      refine xlald (t0 := 2) (v := (-1)) S hK hP (q0 := 119) rfl rfl (vin rfl) rfl dL_law_511 ?_
                      refine lv_iload hx hb dL_law_512 (lv_at hl 0 rfl) ?_
                      refine lv_i2l (v := (-1)) hx hb dL_law_514 (by decide) ?_
                      refine xlcmp (v := 0) S dL_law_515 (by decide) ?_
                      refine lv_if_eq (tgt := 521) hx hb dL_law_516 (by decide) (fun _ => ?_) (fun c => absurd c (by decide))
                      refine lv_goto (tgt := 1519) hx hb dL_law_521 (by decide) ?_
                      exact law_tail (C := 120) (Z := 12958) S hr hlocks hX hbl (lv_sub hl [2, 6] rfl) hS (Nat.le_of_ble_eq_true rfl) (Nat.le_of_ble_eq_true rfl)

set_option maxHeartbeats 8000000 in
set_option maxRecDepth 100000 in
theorem law_5 (l : Launch) (hst : l.stackTraces = false) (D : va_G) (cI cZ cJ : ClassId) {p : Program} {e : Env} {s : State} {m : MethodId} {below : List Frame} {meth : Method} {c : Code} {b : Nat} {xs : Nat → Int32} (S : CallFix p m c cL_law 9 s #[Value.ref b] uG RL) (hr : meth.sig.returnType = ret) (hlocks : meth.locks = false) (hX : va_X b 5 xs s s.heap) (hbl : b < s.heap.size) (hK : va_K D vwCl (tyL cI cZ cJ) s) (ra ga : Nat → Nat) (hB : amb ra ga (fun q => s.heap.size ≤ q) s s.heap) (hC : ambC s) (x1 x2 x3 x4 : Int32) (h1 : xs 1 = x1) (h2 : xs 2 = x2) (h3 : xs 3 = x3) (h4 : xs 4 = x4) (o om ao : Nat) (u q : Nat → Nat) (ls : Array Slot) (H : Heap) (locs : List Loc) (hl : lv_has ls 9 [(4, .int 0), (3, .ref ao), (2, .ref om), (1, .ref o), (0, .ref b)]) (hP : va_P D vwCl ((mW om 0 q cI cZ) ++ ((xW o u cI cZ cJ) ++ [(ao, .inl (cJ, 1, .inr (.inl (fun _ => 0))))])) H) (hD : va_D (fun q => s.heap.size ≤ q) ((mW om 0 q cI cZ) ++ ((xW o u cI cZ cJ) ++ [(ao, .inl (cJ, 1, .inr (.inl (fun _ => 0))))]))) (hS : va_S (fun q => s.heap.size ≤ q) s.heap H locs) : W p l e room_1 s m #[Value.ref b] below meth c H locs 120 12958 (lw_Z below #[Value.ref b] s) (F0 m 524 ls []) := by
  have hx := S.1
  have hb := S.2.1
  have hA : ∀ q : Nat, s.heap.size ≤ q → (fun q : Nat => s.heap.size ≤ q) q := fun _ h => h
  have hbA : ¬ (fun q : Nat => s.heap.size ≤ q) b := Nat.not_le.mpr hbl
  refine lv_aload_n hx hb dL_law_524 rfl (lv_at hl 3 rfl) ?_
  refine lv_aload_n hx hb dL_law_525 rfl (lv_at hl 4 rfl) ?_
  refine lv_iload hx hb dL_law_526 (lv_at hl 0 rfl) ?_
  refine lv_iconst (v := 1) hx hb dL_law_528 (by decide) ?_
  refine xiadd (v := 1) S dL_law_529 (by decide) ?_
  refine xsld (v := x1) S hX hbl hbA hS (vin rfl) h1 dL_law_530 ?_
  refine lv_aload_n hx hb dL_law_531 rfl (lv_at hl 4 rfl) ?_
  refine lv_iload hx hb dL_law_532 (lv_at hl 0 rfl) ?_
  refine lv_iconst (v := 2) hx hb dL_law_534 (by decide) ?_
  refine xiadd (v := 2) S dL_law_535 (by decide) ?_
  refine xsld (v := x2) S hX hbl hbA hS (vin rfl) h2 dL_law_536 ?_
  refine lv_aload_n hx hb dL_law_537 rfl (lv_at hl 4 rfl) ?_
  refine lv_iload hx hb dL_law_538 (lv_at hl 0 rfl) ?_
  refine lv_iconst (v := 3) hx hb dL_law_540 (by decide) ?_
  refine xiadd (v := 3) S dL_law_541 (by decide) ?_
  refine xsld (v := x3) S hX hbl hbA hS (vin rfl) h3 dL_law_542 ?_
  refine lv_aload_n hx hb dL_law_543 rfl (lv_at hl 4 rfl) ?_
  refine lv_iload hx hb dL_law_544 (lv_at hl 0 rfl) ?_
  refine lv_iconst (v := 4) hx hb dL_law_546 (by decide) ?_
  refine xiadd (v := 4) S dL_law_547 (by decide) ?_
  refine xsld (v := x4) S hX hbl hbA hS (vin rfl) h4 dL_law_548 ?_
  refine lv_aload_n hx hb dL_law_549 rfl (lv_at hl 1 rfl) ?_
  by_cases d_550 : x1 = 0
  · have e_x1 : x1 = 0 := d_550
    subst e_x1
    by_cases d_550 : x2 < (-999)
    · have hi_x2 : x2 ≤ (-1000) := u_lt d_550 (by decide)
      refine wrap (mW om 0 q cI cZ) (mid := ((xW o u cI cZ cJ) ++ [(ao, .inl (cJ, 1, .inr (.inl (fun _ => 0))))])) (As := [.ref o, .int 0, .int x2, .int x3, .int x4, .ref ao]) S (h_node_0 l D cI cZ cJ o u ao hst ra ga H.size x2 x3 x4 hi_x2) msh_L_node kw_6_20 rfl rfl ⟨Nat.le_of_ble_eq_true rfl, Nat.le_of_ble_eq_true rfl⟩ hP hD hK hS hA hB hC hl.1 (Nat.le_of_ble_eq_true rfl) ⟨Nat.le_of_ble_eq_true rfl, Nat.le_of_ble_eq_true rfl⟩ dL_law_550 (fun H locs hz hP hD hS => ?_)
      have hP : va_P D vwCl ((mW om 0 q cI cZ) ++ ((xW o u cI cZ cJ) ++ [(ao, .inl (cJ, 1, .inr (.inl (fun _ => 0))))])) H := hP
      have hD : va_D A ((mW om 0 q cI cZ) ++ ((xW o u cI cZ cJ) ++ [(ao, .inl (cJ, 1, .inr (.inl (fun _ => 0))))])) := hD
      refine lv_istore (lv' := [(5, .int 1), (4, .int 0), (3, .ref ao), (2, .ref om), (1, .ref o), (0, .ref b)]) hx hb dL_law_553 hl (by decide) rfl (fun ls hl => ?_)
      refine lv_aload_n hx hb dL_law_555 rfl (lv_at hl 3 rfl) ?_
      refine lv_aload_n hx hb dL_law_556 rfl (lv_at hl 5 rfl) ?_
      refine lv_iload hx hb dL_law_557 (lv_at hl 1 rfl) ?_
      refine lv_iconst (v := 1) hx hb dL_law_559 (by decide) ?_
      refine xiadd (v := 1) S dL_law_560 (by decide) ?_
      refine xsld (v := 0) S hX hbl hbA hS (vin rfl) h1 dL_law_561 ?_
      refine lv_aload_n hx hb dL_law_562 rfl (lv_at hl 5 rfl) ?_
      refine lv_iload hx hb dL_law_563 (lv_at hl 1 rfl) ?_
      refine lv_iconst (v := 2) hx hb dL_law_565 (by decide) ?_
      refine xiadd (v := 2) S dL_law_566 (by decide) ?_
      refine xsld (v := x2) S hX hbl hbA hS (vin rfl) h2 dL_law_567 ?_
      refine lv_aload_n hx hb dL_law_568 rfl (lv_at hl 5 rfl) ?_
      refine lv_iload hx hb dL_law_569 (lv_at hl 1 rfl) ?_
      refine lv_iconst (v := 3) hx hb dL_law_571 (by decide) ?_
      refine xiadd (v := 3) S dL_law_572 (by decide) ?_
      refine xsld (v := x3) S hX hbl hbA hS (vin rfl) h3 dL_law_573 ?_
      refine lv_aload_n hx hb dL_law_574 rfl (lv_at hl 5 rfl) ?_
      refine lv_iload hx hb dL_law_575 (lv_at hl 1 rfl) ?_
      refine lv_iconst (v := 4) hx hb dL_law_577 (by decide) ?_
      refine xiadd (v := 4) S dL_law_578 (by decide) ?_
      refine xsld (v := x4) S hX hbl hbA hS (vin rfl) h4 dL_law_579 ?_
      refine fVi [] ((xW o u cI cZ cJ) ++ [(ao, .inl (cJ, 1, .inr (.inl (fun _ => 0))))]) (mid := (mW om 0 q cI cZ)) (As := [.int 0, .int x2, .int x3, .int x4]) (ci := 9) S (c_X9_node_0 l D cI cZ cJ om q H.size x2 x3 x4 hi_x2) mi_X9_node kw_7_151 rfl rfl ⟨Nat.le_of_ble_eq_true rfl, Nat.le_of_ble_eq_true rfl⟩ hP hD hK hS hA mW_0 rfl rfl hl.1 (Nat.le_of_ble_eq_true rfl) ⟨Nat.le_of_ble_eq_true rfl, Nat.le_of_ble_eq_true rfl⟩ dL_law_580 (fun H locs hz hP hD hS => ?_)
      have hP : va_P D vwCl ((mW om 1 q cI cZ) ++ ((xW o u cI cZ cJ) ++ [(ao, .inl (cJ, 1, .inr (.inl (fun _ => 0))))])) H := hP
      have hD : va_D A ((mW om 1 q cI cZ) ++ ((xW o u cI cZ cJ) ++ [(ao, .inl (cJ, 1, .inr (.inl (fun _ => 0))))])) := hD
      refine lv_istore (lv' := [(6, .int 0), (5, .int 1), (4, .int 0), (3, .ref ao), (2, .ref om), (1, .ref o), (0, .ref b)]) hx hb dL_law_583 hl (by decide) rfl (fun ls hl => ?_)
      refine lv_aload_n hx hb dL_law_585 rfl (lv_at hl 4 rfl) ?_
      refine rdV (As := []) (ci := 9) S (c_X9_thrown_0 l D cI cZ cJ om q) mi_X9_thrown kw_7_89 ⟨rfl, rfl⟩ ⟨Nat.le_of_ble_eq_true rfl, Nat.le_of_ble_eq_true rfl⟩ (va_Pl (ws := (mW om 1 q cI cZ)) (x := ((xW o u cI cZ cJ) ++ [(ao, .inl (cJ, 1, .inr (.inl (fun _ => 0))))])) hP) hK mW_0 rfl rfl hl.1 (Nat.le_of_ble_eq_true rfl) ⟨Nat.le_of_ble_eq_true rfl, Nat.le_of_ble_eq_true rfl⟩ dL_law_586 ?_
      refine lv_iload hx hb dL_law_589 (lv_at hl 1 rfl) ?_
      refine lv_icmp_eq (tgt := 596) hx hb dL_law_591 (by decide) (fun _ => ?_) (fun c => absurd c (by decide))
      refine lv_iload hx hb dL_law_596 (lv_at hl 1 rfl) ?_
      refine lv_if_ne (tgt := 613) hx hb dL_law_598 (by decide) (fun _ => ?_) (fun c => absurd c (by decide))
      refine lv_goto (tgt := 1519) hx hb dL_law_613 (by decide) ?_
      exact law_tail (C := 121) (Z := 12964) S hr hlocks hX hbl (lv_sub hl [2, 6] rfl) hS (Nat.le_of_ble_eq_true rfl) (Nat.le_of_ble_eq_true rfl)
    · have lo_x2 : (-999) ≤ x2 := l_nlt d_550
      by_cases d_550 : 999 < x2
      · have lo_x2 : 1000 ≤ x2 := l_gt d_550 (by decide)
        refine wrap (mW om 0 q cI cZ) (mid := ((xW o u cI cZ cJ) ++ [(ao, .inl (cJ, 1, .inr (.inl (fun _ => 0))))])) (As := [.ref o, .int 0, .int x2, .int x3, .int x4, .ref ao]) S (h_node_1 l D cI cZ cJ o u ao hst ra ga H.size x2 x3 x4 lo_x2) msh_L_node kw_6_20 rfl rfl ⟨Nat.le_of_ble_eq_true rfl, Nat.le_of_ble_eq_true rfl⟩ hP hD hK hS hA hB hC hl.1 (Nat.le_of_ble_eq_true rfl) ⟨Nat.le_of_ble_eq_true rfl, Nat.le_of_ble_eq_true rfl⟩ dL_law_550 (fun H locs hz hP hD hS => ?_)
        have hP : va_P D vwCl ((mW om 0 q cI cZ) ++ ((xW o u cI cZ cJ) ++ [(ao, .inl (cJ, 1, .inr (.inl (fun _ => 0))))])) H := hP
        have hD : va_D A ((mW om 0 q cI cZ) ++ ((xW o u cI cZ cJ) ++ [(ao, .inl (cJ, 1, .inr (.inl (fun _ => 0))))])) := hD
        refine lv_istore (lv' := [(5, .int 1), (4, .int 0), (3, .ref ao), (2, .ref om), (1, .ref o), (0, .ref b)]) hx hb dL_law_553 hl (by decide) rfl (fun ls hl => ?_)
        refine lv_aload_n hx hb dL_law_555 rfl (lv_at hl 3 rfl) ?_
        refine lv_aload_n hx hb dL_law_556 rfl (lv_at hl 5 rfl) ?_
        refine lv_iload hx hb dL_law_557 (lv_at hl 1 rfl) ?_
        refine lv_iconst (v := 1) hx hb dL_law_559 (by decide) ?_
        refine xiadd (v := 1) S dL_law_560 (by decide) ?_
        refine xsld (v := 0) S hX hbl hbA hS (vin rfl) h1 dL_law_561 ?_
        refine lv_aload_n hx hb dL_law_562 rfl (lv_at hl 5 rfl) ?_
        refine lv_iload hx hb dL_law_563 (lv_at hl 1 rfl) ?_
        refine lv_iconst (v := 2) hx hb dL_law_565 (by decide) ?_
        refine xiadd (v := 2) S dL_law_566 (by decide) ?_
        refine xsld (v := x2) S hX hbl hbA hS (vin rfl) h2 dL_law_567 ?_
        refine lv_aload_n hx hb dL_law_568 rfl (lv_at hl 5 rfl) ?_
        refine lv_iload hx hb dL_law_569 (lv_at hl 1 rfl) ?_
        refine lv_iconst (v := 3) hx hb dL_law_571 (by decide) ?_
        refine xiadd (v := 3) S dL_law_572 (by decide) ?_
        refine xsld (v := x3) S hX hbl hbA hS (vin rfl) h3 dL_law_573 ?_
        refine lv_aload_n hx hb dL_law_574 rfl (lv_at hl 5 rfl) ?_
        refine lv_iload hx hb dL_law_575 (lv_at hl 1 rfl) ?_
        refine lv_iconst (v := 4) hx hb dL_law_577 (by decide) ?_
        refine xiadd (v := 4) S dL_law_578 (by decide) ?_
        refine xsld (v := x4) S hX hbl hbA hS (vin rfl) h4 dL_law_579 ?_
        refine fVi [] ((xW o u cI cZ cJ) ++ [(ao, .inl (cJ, 1, .inr (.inl (fun _ => 0))))]) (mid := (mW om 0 q cI cZ)) (As := [.int 0, .int x2, .int x3, .int x4]) (ci := 9) S (c_X9_node_1 l D cI cZ cJ om q H.size x2 x3 x4 lo_x2) mi_X9_node kw_7_151 rfl rfl ⟨Nat.le_of_ble_eq_true rfl, Nat.le_of_ble_eq_true rfl⟩ hP hD hK hS hA mW_0 rfl rfl hl.1 (Nat.le_of_ble_eq_true rfl) ⟨Nat.le_of_ble_eq_true rfl, Nat.le_of_ble_eq_true rfl⟩ dL_law_580 (fun H locs hz hP hD hS => ?_)
        have hP : va_P D vwCl ((mW om 1 q cI cZ) ++ ((xW o u cI cZ cJ) ++ [(ao, .inl (cJ, 1, .inr (.inl (fun _ => 0))))])) H := hP
        have hD : va_D A ((mW om 1 q cI cZ) ++ ((xW o u cI cZ cJ) ++ [(ao, .inl (cJ, 1, .inr (.inl (fun _ => 0))))])) := hD
        refine lv_istore (lv' := [(6, .int 0), (5, .int 1), (4, .int 0), (3, .ref ao), (2, .ref om), (1, .ref o), (0, .ref b)]) hx hb dL_law_583 hl (by decide) rfl (fun ls hl => ?_)
        refine lv_aload_n hx hb dL_law_585 rfl (lv_at hl 4 rfl) ?_
        refine rdV (As := []) (ci := 9) S (c_X9_thrown_0 l D cI cZ cJ om q) mi_X9_thrown kw_7_89 ⟨rfl, rfl⟩ ⟨Nat.le_of_ble_eq_true rfl, Nat.le_of_ble_eq_true rfl⟩ (va_Pl (ws := (mW om 1 q cI cZ)) (x := ((xW o u cI cZ cJ) ++ [(ao, .inl (cJ, 1, .inr (.inl (fun _ => 0))))])) hP) hK mW_0 rfl rfl hl.1 (Nat.le_of_ble_eq_true rfl) ⟨Nat.le_of_ble_eq_true rfl, Nat.le_of_ble_eq_true rfl⟩ dL_law_586 ?_
        refine lv_iload hx hb dL_law_589 (lv_at hl 1 rfl) ?_
        refine lv_icmp_eq (tgt := 596) hx hb dL_law_591 (by decide) (fun _ => ?_) (fun c => absurd c (by decide))
        refine lv_iload hx hb dL_law_596 (lv_at hl 1 rfl) ?_
        refine lv_if_ne (tgt := 613) hx hb dL_law_598 (by decide) (fun _ => ?_) (fun c => absurd c (by decide))
        refine lv_goto (tgt := 1519) hx hb dL_law_613 (by decide) ?_
        exact law_tail (C := 121) (Z := 12964) S hr hlocks hX hbl (lv_sub hl [2, 6] rfl) hS (Nat.le_of_ble_eq_true rfl) (Nat.le_of_ble_eq_true rfl)
      · have hi_x2 : x2 ≤ 999 := u_ngt d_550
        by_cases d_550 : x3 = 0
        · have e_x3 : x3 = 0 := d_550
          subst e_x3
          by_cases d_550 : x4 = 0
          · have e_x4 : x4 = 0 := d_550
            subst e_x4
            refine wrap (mW om 0 q cI cZ) (mid := ((xW o u cI cZ cJ) ++ [(ao, .inl (cJ, 1, .inr (.inl (fun _ => 0))))])) (As := [.ref o, .int 0, .int x2, .int 0, .int 0, .ref ao]) S (h_node_2 l D cI cZ cJ o u ao hst ra ga H.size x2 lo_x2 hi_x2) msh_L_node kw_6_20 rfl rfl ⟨Nat.le_of_ble_eq_true rfl, Nat.le_of_ble_eq_true rfl⟩ hP hD hK hS hA hB hC hl.1 (Nat.le_of_ble_eq_true rfl) ⟨Nat.le_of_ble_eq_true rfl, Nat.le_of_ble_eq_true rfl⟩ dL_law_550 (fun H locs hz hP hD hS => ?_)
            have hP : va_P D vwCl ((mW om 0 q cI cZ) ++ (((((((((xW o u cI cZ cJ).set 13 ((u 12), .inr (5, ([.int 0, .ref (u 13), .ref (u 14), .ref (u 15), .ref (u 16), .ref (u 17), .ref (u 18)].set 0 (.int 1))))).set 14 ((u 13), .inl (cI, 110, .inl (upd (fun _ => 0) (0 : Int32).toNatClampNeg 0)))).set 15 ((u 14), .inl (cI, 110, .inl (upd (fun _ => 0) (0 : Int32).toNatClampNeg x2)))).set 16 ((u 15), .inl (cI, 110, .inl (upd (fun _ => 0) (0 : Int32).toNatClampNeg 0)))).set 17 ((u 16), .inl (cI, 110, .inl (upd (fun _ => 0) (0 : Int32).toNatClampNeg 0)))).set 18 ((u 17), .inl (cI, 110, .inl (upd (fun _ => 0) (0 : Int32).toNatClampNeg (-1))))).set 19 ((u 18), .inl (cI, 110, .inl (upd (fun _ => 0) (0 : Int32).toNatClampNeg (-1))))) ++ [(ao, .inl (cJ, 1, .inr (.inl (vp_updL (fun _ => 0) (0 : Int32).toNatClampNeg 0))))])) H := hP
            have hD : va_D A ((mW om 0 q cI cZ) ++ (((((((((xW o u cI cZ cJ).set 13 ((u 12), .inr (5, ([.int 0, .ref (u 13), .ref (u 14), .ref (u 15), .ref (u 16), .ref (u 17), .ref (u 18)].set 0 (.int 1))))).set 14 ((u 13), .inl (cI, 110, .inl (upd (fun _ => 0) (0 : Int32).toNatClampNeg 0)))).set 15 ((u 14), .inl (cI, 110, .inl (upd (fun _ => 0) (0 : Int32).toNatClampNeg x2)))).set 16 ((u 15), .inl (cI, 110, .inl (upd (fun _ => 0) (0 : Int32).toNatClampNeg 0)))).set 17 ((u 16), .inl (cI, 110, .inl (upd (fun _ => 0) (0 : Int32).toNatClampNeg 0)))).set 18 ((u 17), .inl (cI, 110, .inl (upd (fun _ => 0) (0 : Int32).toNatClampNeg (-1))))).set 19 ((u 18), .inl (cI, 110, .inl (upd (fun _ => 0) (0 : Int32).toNatClampNeg (-1))))) ++ [(ao, .inl (cJ, 1, .inr (.inl (vp_updL (fun _ => 0) (0 : Int32).toNatClampNeg 0))))])) := hD
            refine lv_istore (lv' := [(5, .int 0), (4, .int 0), (3, .ref ao), (2, .ref om), (1, .ref o), (0, .ref b)]) hx hb dL_law_553 hl (by decide) rfl (fun ls hl => ?_)
            refine lv_aload_n hx hb dL_law_555 rfl (lv_at hl 3 rfl) ?_
            refine lv_aload_n hx hb dL_law_556 rfl (lv_at hl 5 rfl) ?_
            refine lv_iload hx hb dL_law_557 (lv_at hl 1 rfl) ?_
            refine lv_iconst (v := 1) hx hb dL_law_559 (by decide) ?_
            refine xiadd (v := 1) S dL_law_560 (by decide) ?_
            refine xsld (v := 0) S hX hbl hbA hS (vin rfl) h1 dL_law_561 ?_
            refine lv_aload_n hx hb dL_law_562 rfl (lv_at hl 5 rfl) ?_
            refine lv_iload hx hb dL_law_563 (lv_at hl 1 rfl) ?_
            refine lv_iconst (v := 2) hx hb dL_law_565 (by decide) ?_
            refine xiadd (v := 2) S dL_law_566 (by decide) ?_
            refine xsld (v := x2) S hX hbl hbA hS (vin rfl) h2 dL_law_567 ?_
            refine lv_aload_n hx hb dL_law_568 rfl (lv_at hl 5 rfl) ?_
            refine lv_iload hx hb dL_law_569 (lv_at hl 1 rfl) ?_
            refine lv_iconst (v := 3) hx hb dL_law_571 (by decide) ?_
            refine xiadd (v := 3) S dL_law_572 (by decide) ?_
            refine xsld (v := 0) S hX hbl hbA hS (vin rfl) h3 dL_law_573 ?_
            refine lv_aload_n hx hb dL_law_574 rfl (lv_at hl 5 rfl) ?_
            refine lv_iload hx hb dL_law_575 (lv_at hl 1 rfl) ?_
            refine lv_iconst (v := 4) hx hb dL_law_577 (by decide) ?_
            refine xiadd (v := 4) S dL_law_578 (by decide) ?_
            refine xsld (v := 0) S hX hbl hbA hS (vin rfl) h4 dL_law_579 ?_
            refine fVi [] (((((((((xW o u cI cZ cJ).set 13 ((u 12), .inr (5, ([.int 0, .ref (u 13), .ref (u 14), .ref (u 15), .ref (u 16), .ref (u 17), .ref (u 18)].set 0 (.int 1))))).set 14 ((u 13), .inl (cI, 110, .inl (upd (fun _ => 0) (0 : Int32).toNatClampNeg 0)))).set 15 ((u 14), .inl (cI, 110, .inl (upd (fun _ => 0) (0 : Int32).toNatClampNeg x2)))).set 16 ((u 15), .inl (cI, 110, .inl (upd (fun _ => 0) (0 : Int32).toNatClampNeg 0)))).set 17 ((u 16), .inl (cI, 110, .inl (upd (fun _ => 0) (0 : Int32).toNatClampNeg 0)))).set 18 ((u 17), .inl (cI, 110, .inl (upd (fun _ => 0) (0 : Int32).toNatClampNeg (-1))))).set 19 ((u 18), .inl (cI, 110, .inl (upd (fun _ => 0) (0 : Int32).toNatClampNeg (-1))))) ++ [(ao, .inl (cJ, 1, .inr (.inl (vp_updL (fun _ => 0) (0 : Int32).toNatClampNeg 0))))]) (mid := (mW om 0 q cI cZ)) (As := [.int 0, .int x2, .int 0, .int 0]) (ci := 9) S (c_X9_node_2 l D cI cZ cJ om q H.size x2 lo_x2 hi_x2) mi_X9_node kw_7_151 rfl rfl ⟨Nat.le_of_ble_eq_true rfl, Nat.le_of_ble_eq_true rfl⟩ hP hD hK hS hA mW_0 rfl rfl hl.1 (Nat.le_of_ble_eq_true rfl) ⟨Nat.le_of_ble_eq_true rfl, Nat.le_of_ble_eq_true rfl⟩ dL_law_580 (fun H locs hz hP hD hS => ?_)
            have hP : va_P D vwCl (((((((((mW om 0 q cI cZ).set 0 (om, .inr (9, ((mF 0 q).set 13 (.int 1))))).set 12 ((q 11), .inl (cI, 110, .inl (upd (fun _ => 0) (0 : Int32).toNatClampNeg 0)))).set 13 ((q 12), .inl (cI, 110, .inl (upd (fun _ => 0) (0 : Int32).toNatClampNeg x2)))).set 14 ((q 13), .inl (cI, 110, .inl (upd (fun _ => 0) (0 : Int32).toNatClampNeg 0)))).set 15 ((q 14), .inl (cI, 110, .inl (upd (fun _ => 0) (0 : Int32).toNatClampNeg 0)))).set 16 ((q 15), .inl (cI, 110, .inl (upd (fun _ => 0) (0 : Int32).toNatClampNeg (-1))))).set 17 ((q 16), .inl (cI, 110, .inl (upd (fun _ => 0) (0 : Int32).toNatClampNeg (-1))))) ++ (((((((((xW o u cI cZ cJ).set 13 ((u 12), .inr (5, ([.int 0, .ref (u 13), .ref (u 14), .ref (u 15), .ref (u 16), .ref (u 17), .ref (u 18)].set 0 (.int 1))))).set 14 ((u 13), .inl (cI, 110, .inl (upd (fun _ => 0) (0 : Int32).toNatClampNeg 0)))).set 15 ((u 14), .inl (cI, 110, .inl (upd (fun _ => 0) (0 : Int32).toNatClampNeg x2)))).set 16 ((u 15), .inl (cI, 110, .inl (upd (fun _ => 0) (0 : Int32).toNatClampNeg 0)))).set 17 ((u 16), .inl (cI, 110, .inl (upd (fun _ => 0) (0 : Int32).toNatClampNeg 0)))).set 18 ((u 17), .inl (cI, 110, .inl (upd (fun _ => 0) (0 : Int32).toNatClampNeg (-1))))).set 19 ((u 18), .inl (cI, 110, .inl (upd (fun _ => 0) (0 : Int32).toNatClampNeg (-1))))) ++ [(ao, .inl (cJ, 1, .inr (.inl (vp_updL (fun _ => 0) (0 : Int32).toNatClampNeg 0))))])) H := hP
            have hD : va_D A (((((((((mW om 0 q cI cZ).set 0 (om, .inr (9, ((mF 0 q).set 13 (.int 1))))).set 12 ((q 11), .inl (cI, 110, .inl (upd (fun _ => 0) (0 : Int32).toNatClampNeg 0)))).set 13 ((q 12), .inl (cI, 110, .inl (upd (fun _ => 0) (0 : Int32).toNatClampNeg x2)))).set 14 ((q 13), .inl (cI, 110, .inl (upd (fun _ => 0) (0 : Int32).toNatClampNeg 0)))).set 15 ((q 14), .inl (cI, 110, .inl (upd (fun _ => 0) (0 : Int32).toNatClampNeg 0)))).set 16 ((q 15), .inl (cI, 110, .inl (upd (fun _ => 0) (0 : Int32).toNatClampNeg (-1))))).set 17 ((q 16), .inl (cI, 110, .inl (upd (fun _ => 0) (0 : Int32).toNatClampNeg (-1))))) ++ (((((((((xW o u cI cZ cJ).set 13 ((u 12), .inr (5, ([.int 0, .ref (u 13), .ref (u 14), .ref (u 15), .ref (u 16), .ref (u 17), .ref (u 18)].set 0 (.int 1))))).set 14 ((u 13), .inl (cI, 110, .inl (upd (fun _ => 0) (0 : Int32).toNatClampNeg 0)))).set 15 ((u 14), .inl (cI, 110, .inl (upd (fun _ => 0) (0 : Int32).toNatClampNeg x2)))).set 16 ((u 15), .inl (cI, 110, .inl (upd (fun _ => 0) (0 : Int32).toNatClampNeg 0)))).set 17 ((u 16), .inl (cI, 110, .inl (upd (fun _ => 0) (0 : Int32).toNatClampNeg 0)))).set 18 ((u 17), .inl (cI, 110, .inl (upd (fun _ => 0) (0 : Int32).toNatClampNeg (-1))))).set 19 ((u 18), .inl (cI, 110, .inl (upd (fun _ => 0) (0 : Int32).toNatClampNeg (-1))))) ++ [(ao, .inl (cJ, 1, .inr (.inl (vp_updL (fun _ => 0) (0 : Int32).toNatClampNeg 0))))])) := hD
            refine lv_istore (lv' := [(6, .int 0), (5, .int 0), (4, .int 0), (3, .ref ao), (2, .ref om), (1, .ref o), (0, .ref b)]) hx hb dL_law_583 hl (by decide) rfl (fun ls hl => ?_)
            refine lv_aload_n hx hb dL_law_585 rfl (lv_at hl 4 rfl) ?_
            refine rdV (As := []) (ci := 9) S (c_X9_thrown_9 l D cI cZ cJ om q x2 lo_x2 hi_x2) mi_X9_thrown kw_7_89 ⟨rfl, rfl⟩ ⟨Nat.le_of_ble_eq_true rfl, Nat.le_of_ble_eq_true rfl⟩ (va_Pl (ws := ((((((((mW om 0 q cI cZ).set 0 (om, .inr (9, ((mF 0 q).set 13 (.int 1))))).set 12 ((q 11), .inl (cI, 110, .inl (upd (fun _ => 0) (0 : Int32).toNatClampNeg 0)))).set 13 ((q 12), .inl (cI, 110, .inl (upd (fun _ => 0) (0 : Int32).toNatClampNeg x2)))).set 14 ((q 13), .inl (cI, 110, .inl (upd (fun _ => 0) (0 : Int32).toNatClampNeg 0)))).set 15 ((q 14), .inl (cI, 110, .inl (upd (fun _ => 0) (0 : Int32).toNatClampNeg 0)))).set 16 ((q 15), .inl (cI, 110, .inl (upd (fun _ => 0) (0 : Int32).toNatClampNeg (-1))))).set 17 ((q 16), .inl (cI, 110, .inl (upd (fun _ => 0) (0 : Int32).toNatClampNeg (-1)))))) (x := (((((((((xW o u cI cZ cJ).set 13 ((u 12), .inr (5, ([.int 0, .ref (u 13), .ref (u 14), .ref (u 15), .ref (u 16), .ref (u 17), .ref (u 18)].set 0 (.int 1))))).set 14 ((u 13), .inl (cI, 110, .inl (upd (fun _ => 0) (0 : Int32).toNatClampNeg 0)))).set 15 ((u 14), .inl (cI, 110, .inl (upd (fun _ => 0) (0 : Int32).toNatClampNeg x2)))).set 16 ((u 15), .inl (cI, 110, .inl (upd (fun _ => 0) (0 : Int32).toNatClampNeg 0)))).set 17 ((u 16), .inl (cI, 110, .inl (upd (fun _ => 0) (0 : Int32).toNatClampNeg 0)))).set 18 ((u 17), .inl (cI, 110, .inl (upd (fun _ => 0) (0 : Int32).toNatClampNeg (-1))))).set 19 ((u 18), .inl (cI, 110, .inl (upd (fun _ => 0) (0 : Int32).toNatClampNeg (-1))))) ++ [(ao, .inl (cJ, 1, .inr (.inl (vp_updL (fun _ => 0) (0 : Int32).toNatClampNeg 0))))])) hP) hK (k := 0) rfl rfl rfl hl.1 (Nat.le_of_ble_eq_true rfl) ⟨Nat.le_of_ble_eq_true rfl, Nat.le_of_ble_eq_true rfl⟩ dL_law_586 ?_
            refine lv_iload hx hb dL_law_589 (lv_at hl 1 rfl) ?_
            refine lv_icmp_eq (tgt := 596) hx hb dL_law_591 (by decide) (fun _ => ?_) (fun c => absurd c (by decide))
            refine lv_iload hx hb dL_law_596 (lv_at hl 1 rfl) ?_
            refine lv_if_ne (tgt := 613) hx hb dL_law_598 (by decide) (fun c => absurd c (by decide)) (fun _ => ?_)
            refine lv_aload_n hx hb dL_law_601 rfl (lv_at hl 3 rfl) ?_
            refine lv_iconst (v := 0) hx hb dL_law_602 (by decide) ?_
            refine xlald (t0 := 2) (v := 0) S hK hP (q0 := 119) rfl rfl (vin rfl) rfl dL_law_603 ?_
            refine lv_iload hx hb dL_law_604 (lv_at hl 0 rfl) ?_
            refine lv_i2l (v := 0) hx hb dL_law_606 (by decide) ?_
            refine xlcmp (v := 0) S dL_law_607 (by decide) ?_
            refine lv_if_eq (tgt := 613) hx hb dL_law_608 (by decide) (fun _ => ?_) (fun c => absurd c (by decide))
            refine lv_goto (tgt := 1519) hx hb dL_law_613 (by decide) ?_
            exact law_tail (C := 120) (Z := 12958) S hr hlocks hX hbl (lv_sub hl [2, 6] rfl) hS (Nat.le_of_ble_eq_true rfl) (Nat.le_of_ble_eq_true rfl)
          · have ne_x4_0 : ¬ x4 = 0 := d_550
            refine wrap (mW om 0 q cI cZ) (mid := ((xW o u cI cZ cJ) ++ [(ao, .inl (cJ, 1, .inr (.inl (fun _ => 0))))])) (As := [.ref o, .int 0, .int x2, .int 0, .int x4, .ref ao]) S (h_node_3 l D cI cZ cJ o u ao hst ra ga H.size x2 x4 lo_x2 hi_x2 ne_x4_0) msh_L_node kw_6_20 rfl rfl ⟨Nat.le_of_ble_eq_true rfl, Nat.le_of_ble_eq_true rfl⟩ hP hD hK hS hA hB hC hl.1 (Nat.le_of_ble_eq_true rfl) ⟨Nat.le_of_ble_eq_true rfl, Nat.le_of_ble_eq_true rfl⟩ dL_law_550 (fun H locs hz hP hD hS => ?_)
            have hP : va_P D vwCl ((mW om 0 q cI cZ) ++ ((xW o u cI cZ cJ) ++ [(ao, .inl (cJ, 1, .inr (.inl (fun _ => 0))))])) H := hP
            have hD : va_D A ((mW om 0 q cI cZ) ++ ((xW o u cI cZ cJ) ++ [(ao, .inl (cJ, 1, .inr (.inl (fun _ => 0))))])) := hD
            refine lv_istore (lv' := [(5, .int 1), (4, .int 0), (3, .ref ao), (2, .ref om), (1, .ref o), (0, .ref b)]) hx hb dL_law_553 hl (by decide) rfl (fun ls hl => ?_)
            refine lv_aload_n hx hb dL_law_555 rfl (lv_at hl 3 rfl) ?_
            refine lv_aload_n hx hb dL_law_556 rfl (lv_at hl 5 rfl) ?_
            refine lv_iload hx hb dL_law_557 (lv_at hl 1 rfl) ?_
            refine lv_iconst (v := 1) hx hb dL_law_559 (by decide) ?_
            refine xiadd (v := 1) S dL_law_560 (by decide) ?_
            refine xsld (v := 0) S hX hbl hbA hS (vin rfl) h1 dL_law_561 ?_
            refine lv_aload_n hx hb dL_law_562 rfl (lv_at hl 5 rfl) ?_
            refine lv_iload hx hb dL_law_563 (lv_at hl 1 rfl) ?_
            refine lv_iconst (v := 2) hx hb dL_law_565 (by decide) ?_
            refine xiadd (v := 2) S dL_law_566 (by decide) ?_
            refine xsld (v := x2) S hX hbl hbA hS (vin rfl) h2 dL_law_567 ?_
            refine lv_aload_n hx hb dL_law_568 rfl (lv_at hl 5 rfl) ?_
            refine lv_iload hx hb dL_law_569 (lv_at hl 1 rfl) ?_
            refine lv_iconst (v := 3) hx hb dL_law_571 (by decide) ?_
            refine xiadd (v := 3) S dL_law_572 (by decide) ?_
            refine xsld (v := 0) S hX hbl hbA hS (vin rfl) h3 dL_law_573 ?_
            refine lv_aload_n hx hb dL_law_574 rfl (lv_at hl 5 rfl) ?_
            refine lv_iload hx hb dL_law_575 (lv_at hl 1 rfl) ?_
            refine lv_iconst (v := 4) hx hb dL_law_577 (by decide) ?_
            refine xiadd (v := 4) S dL_law_578 (by decide) ?_
            refine xsld (v := x4) S hX hbl hbA hS (vin rfl) h4 dL_law_579 ?_
            refine fVi [] ((xW o u cI cZ cJ) ++ [(ao, .inl (cJ, 1, .inr (.inl (fun _ => 0))))]) (mid := (mW om 0 q cI cZ)) (As := [.int 0, .int x2, .int 0, .int x4]) (ci := 9) S (c_X9_node_3 l D cI cZ cJ om q H.size x2 x4 lo_x2 hi_x2 ne_x4_0) mi_X9_node kw_7_151 rfl rfl ⟨Nat.le_of_ble_eq_true rfl, Nat.le_of_ble_eq_true rfl⟩ hP hD hK hS hA mW_0 rfl rfl hl.1 (Nat.le_of_ble_eq_true rfl) ⟨Nat.le_of_ble_eq_true rfl, Nat.le_of_ble_eq_true rfl⟩ dL_law_580 (fun H locs hz hP hD hS => ?_)
            have hP : va_P D vwCl ((mW om 1 q cI cZ) ++ ((xW o u cI cZ cJ) ++ [(ao, .inl (cJ, 1, .inr (.inl (fun _ => 0))))])) H := hP
            have hD : va_D A ((mW om 1 q cI cZ) ++ ((xW o u cI cZ cJ) ++ [(ao, .inl (cJ, 1, .inr (.inl (fun _ => 0))))])) := hD
            refine lv_istore (lv' := [(6, .int 0), (5, .int 1), (4, .int 0), (3, .ref ao), (2, .ref om), (1, .ref o), (0, .ref b)]) hx hb dL_law_583 hl (by decide) rfl (fun ls hl => ?_)
            refine lv_aload_n hx hb dL_law_585 rfl (lv_at hl 4 rfl) ?_
            refine rdV (As := []) (ci := 9) S (c_X9_thrown_0 l D cI cZ cJ om q) mi_X9_thrown kw_7_89 ⟨rfl, rfl⟩ ⟨Nat.le_of_ble_eq_true rfl, Nat.le_of_ble_eq_true rfl⟩ (va_Pl (ws := (mW om 1 q cI cZ)) (x := ((xW o u cI cZ cJ) ++ [(ao, .inl (cJ, 1, .inr (.inl (fun _ => 0))))])) hP) hK mW_0 rfl rfl hl.1 (Nat.le_of_ble_eq_true rfl) ⟨Nat.le_of_ble_eq_true rfl, Nat.le_of_ble_eq_true rfl⟩ dL_law_586 ?_
            refine lv_iload hx hb dL_law_589 (lv_at hl 1 rfl) ?_
            refine lv_icmp_eq (tgt := 596) hx hb dL_law_591 (by decide) (fun _ => ?_) (fun c => absurd c (by decide))
            refine lv_iload hx hb dL_law_596 (lv_at hl 1 rfl) ?_
            refine lv_if_ne (tgt := 613) hx hb dL_law_598 (by decide) (fun _ => ?_) (fun c => absurd c (by decide))
            refine lv_goto (tgt := 1519) hx hb dL_law_613 (by decide) ?_
            exact law_tail (C := 121) (Z := 12964) S hr hlocks hX hbl (lv_sub hl [2, 6] rfl) hS (Nat.le_of_ble_eq_true rfl) (Nat.le_of_ble_eq_true rfl)
        · have ne_x3_0 : ¬ x3 = 0 := d_550
          refine wrap (mW om 0 q cI cZ) (mid := ((xW o u cI cZ cJ) ++ [(ao, .inl (cJ, 1, .inr (.inl (fun _ => 0))))])) (As := [.ref o, .int 0, .int x2, .int x3, .int x4, .ref ao]) S (h_node_4 l D cI cZ cJ o u ao hst ra ga H.size x2 x3 x4 lo_x2 hi_x2 ne_x3_0) msh_L_node kw_6_20 rfl rfl ⟨Nat.le_of_ble_eq_true rfl, Nat.le_of_ble_eq_true rfl⟩ hP hD hK hS hA hB hC hl.1 (Nat.le_of_ble_eq_true rfl) ⟨Nat.le_of_ble_eq_true rfl, Nat.le_of_ble_eq_true rfl⟩ dL_law_550 (fun H locs hz hP hD hS => ?_)
          have hP : va_P D vwCl ((mW om 0 q cI cZ) ++ ((xW o u cI cZ cJ) ++ [(ao, .inl (cJ, 1, .inr (.inl (fun _ => 0))))])) H := hP
          have hD : va_D A ((mW om 0 q cI cZ) ++ ((xW o u cI cZ cJ) ++ [(ao, .inl (cJ, 1, .inr (.inl (fun _ => 0))))])) := hD
          refine lv_istore (lv' := [(5, .int 1), (4, .int 0), (3, .ref ao), (2, .ref om), (1, .ref o), (0, .ref b)]) hx hb dL_law_553 hl (by decide) rfl (fun ls hl => ?_)
          refine lv_aload_n hx hb dL_law_555 rfl (lv_at hl 3 rfl) ?_
          refine lv_aload_n hx hb dL_law_556 rfl (lv_at hl 5 rfl) ?_
          refine lv_iload hx hb dL_law_557 (lv_at hl 1 rfl) ?_
          refine lv_iconst (v := 1) hx hb dL_law_559 (by decide) ?_
          refine xiadd (v := 1) S dL_law_560 (by decide) ?_
          refine xsld (v := 0) S hX hbl hbA hS (vin rfl) h1 dL_law_561 ?_
          refine lv_aload_n hx hb dL_law_562 rfl (lv_at hl 5 rfl) ?_
          refine lv_iload hx hb dL_law_563 (lv_at hl 1 rfl) ?_
          refine lv_iconst (v := 2) hx hb dL_law_565 (by decide) ?_
          refine xiadd (v := 2) S dL_law_566 (by decide) ?_
          refine xsld (v := x2) S hX hbl hbA hS (vin rfl) h2 dL_law_567 ?_
          refine lv_aload_n hx hb dL_law_568 rfl (lv_at hl 5 rfl) ?_
          refine lv_iload hx hb dL_law_569 (lv_at hl 1 rfl) ?_
          refine lv_iconst (v := 3) hx hb dL_law_571 (by decide) ?_
          refine xiadd (v := 3) S dL_law_572 (by decide) ?_
          refine xsld (v := x3) S hX hbl hbA hS (vin rfl) h3 dL_law_573 ?_
          refine lv_aload_n hx hb dL_law_574 rfl (lv_at hl 5 rfl) ?_
          refine lv_iload hx hb dL_law_575 (lv_at hl 1 rfl) ?_
          refine lv_iconst (v := 4) hx hb dL_law_577 (by decide) ?_
          refine xiadd (v := 4) S dL_law_578 (by decide) ?_
          refine xsld (v := x4) S hX hbl hbA hS (vin rfl) h4 dL_law_579 ?_
          refine fVi [] ((xW o u cI cZ cJ) ++ [(ao, .inl (cJ, 1, .inr (.inl (fun _ => 0))))]) (mid := (mW om 0 q cI cZ)) (As := [.int 0, .int x2, .int x3, .int x4]) (ci := 9) S (c_X9_node_4 l D cI cZ cJ om q H.size x2 x3 x4 lo_x2 hi_x2 ne_x3_0) mi_X9_node kw_7_151 rfl rfl ⟨Nat.le_of_ble_eq_true rfl, Nat.le_of_ble_eq_true rfl⟩ hP hD hK hS hA mW_0 rfl rfl hl.1 (Nat.le_of_ble_eq_true rfl) ⟨Nat.le_of_ble_eq_true rfl, Nat.le_of_ble_eq_true rfl⟩ dL_law_580 (fun H locs hz hP hD hS => ?_)
          have hP : va_P D vwCl ((mW om 1 q cI cZ) ++ ((xW o u cI cZ cJ) ++ [(ao, .inl (cJ, 1, .inr (.inl (fun _ => 0))))])) H := hP
          have hD : va_D A ((mW om 1 q cI cZ) ++ ((xW o u cI cZ cJ) ++ [(ao, .inl (cJ, 1, .inr (.inl (fun _ => 0))))])) := hD
          refine lv_istore (lv' := [(6, .int 0), (5, .int 1), (4, .int 0), (3, .ref ao), (2, .ref om), (1, .ref o), (0, .ref b)]) hx hb dL_law_583 hl (by decide) rfl (fun ls hl => ?_)
          refine lv_aload_n hx hb dL_law_585 rfl (lv_at hl 4 rfl) ?_
          refine rdV (As := []) (ci := 9) S (c_X9_thrown_0 l D cI cZ cJ om q) mi_X9_thrown kw_7_89 ⟨rfl, rfl⟩ ⟨Nat.le_of_ble_eq_true rfl, Nat.le_of_ble_eq_true rfl⟩ (va_Pl (ws := (mW om 1 q cI cZ)) (x := ((xW o u cI cZ cJ) ++ [(ao, .inl (cJ, 1, .inr (.inl (fun _ => 0))))])) hP) hK mW_0 rfl rfl hl.1 (Nat.le_of_ble_eq_true rfl) ⟨Nat.le_of_ble_eq_true rfl, Nat.le_of_ble_eq_true rfl⟩ dL_law_586 ?_
          refine lv_iload hx hb dL_law_589 (lv_at hl 1 rfl) ?_
          refine lv_icmp_eq (tgt := 596) hx hb dL_law_591 (by decide) (fun _ => ?_) (fun c => absurd c (by decide))
          refine lv_iload hx hb dL_law_596 (lv_at hl 1 rfl) ?_
          refine lv_if_ne (tgt := 613) hx hb dL_law_598 (by decide) (fun _ => ?_) (fun c => absurd c (by decide))
          refine lv_goto (tgt := 1519) hx hb dL_law_613 (by decide) ?_
          exact law_tail (C := 121) (Z := 12964) S hr hlocks hX hbl (lv_sub hl [2, 6] rfl) hS (Nat.le_of_ble_eq_true rfl) (Nat.le_of_ble_eq_true rfl)
  · have ne_x1_0 : ¬ x1 = 0 := d_550
    by_cases d_550 : x1 = 1
    · have e_x1 : x1 = 1 := d_550
      subst e_x1
      by_cases d_550 : x2 < 0
      · have hi_x2 : x2 ≤ (-1) := u_lt d_550 (by decide)
        refine wrap (mW om 0 q cI cZ) (mid := ((xW o u cI cZ cJ) ++ [(ao, .inl (cJ, 1, .inr (.inl (fun _ => 0))))])) (As := [.ref o, .int 1, .int x2, .int x3, .int x4, .ref ao]) S (h_node_5 l D cI cZ cJ o u ao hst ra ga H.size x2 x3 x4 hi_x2) msh_L_node kw_6_20 rfl rfl ⟨Nat.le_of_ble_eq_true rfl, Nat.le_of_ble_eq_true rfl⟩ hP hD hK hS hA hB hC hl.1 (Nat.le_of_ble_eq_true rfl) ⟨Nat.le_of_ble_eq_true rfl, Nat.le_of_ble_eq_true rfl⟩ dL_law_550 (fun H locs hz hP hD hS => ?_)
        have hP : va_P D vwCl ((mW om 0 q cI cZ) ++ ((xW o u cI cZ cJ) ++ [(ao, .inl (cJ, 1, .inr (.inl (fun _ => 0))))])) H := hP
        have hD : va_D A ((mW om 0 q cI cZ) ++ ((xW o u cI cZ cJ) ++ [(ao, .inl (cJ, 1, .inr (.inl (fun _ => 0))))])) := hD
        refine lv_istore (lv' := [(5, .int 1), (4, .int 0), (3, .ref ao), (2, .ref om), (1, .ref o), (0, .ref b)]) hx hb dL_law_553 hl (by decide) rfl (fun ls hl => ?_)
        refine lv_aload_n hx hb dL_law_555 rfl (lv_at hl 3 rfl) ?_
        refine lv_aload_n hx hb dL_law_556 rfl (lv_at hl 5 rfl) ?_
        refine lv_iload hx hb dL_law_557 (lv_at hl 1 rfl) ?_
        refine lv_iconst (v := 1) hx hb dL_law_559 (by decide) ?_
        refine xiadd (v := 1) S dL_law_560 (by decide) ?_
        refine xsld (v := 1) S hX hbl hbA hS (vin rfl) h1 dL_law_561 ?_
        refine lv_aload_n hx hb dL_law_562 rfl (lv_at hl 5 rfl) ?_
        refine lv_iload hx hb dL_law_563 (lv_at hl 1 rfl) ?_
        refine lv_iconst (v := 2) hx hb dL_law_565 (by decide) ?_
        refine xiadd (v := 2) S dL_law_566 (by decide) ?_
        refine xsld (v := x2) S hX hbl hbA hS (vin rfl) h2 dL_law_567 ?_
        refine lv_aload_n hx hb dL_law_568 rfl (lv_at hl 5 rfl) ?_
        refine lv_iload hx hb dL_law_569 (lv_at hl 1 rfl) ?_
        refine lv_iconst (v := 3) hx hb dL_law_571 (by decide) ?_
        refine xiadd (v := 3) S dL_law_572 (by decide) ?_
        refine xsld (v := x3) S hX hbl hbA hS (vin rfl) h3 dL_law_573 ?_
        refine lv_aload_n hx hb dL_law_574 rfl (lv_at hl 5 rfl) ?_
        refine lv_iload hx hb dL_law_575 (lv_at hl 1 rfl) ?_
        refine lv_iconst (v := 4) hx hb dL_law_577 (by decide) ?_
        refine xiadd (v := 4) S dL_law_578 (by decide) ?_
        refine xsld (v := x4) S hX hbl hbA hS (vin rfl) h4 dL_law_579 ?_
        refine fVi [] ((xW o u cI cZ cJ) ++ [(ao, .inl (cJ, 1, .inr (.inl (fun _ => 0))))]) (mid := (mW om 0 q cI cZ)) (As := [.int 1, .int x2, .int x3, .int x4]) (ci := 9) S (c_X9_node_5 l D cI cZ cJ om q H.size x2 x3 x4 hi_x2) mi_X9_node kw_7_151 rfl rfl ⟨Nat.le_of_ble_eq_true rfl, Nat.le_of_ble_eq_true rfl⟩ hP hD hK hS hA mW_0 rfl rfl hl.1 (Nat.le_of_ble_eq_true rfl) ⟨Nat.le_of_ble_eq_true rfl, Nat.le_of_ble_eq_true rfl⟩ dL_law_580 (fun H locs hz hP hD hS => ?_)
        have hP : va_P D vwCl ((mW om 1 q cI cZ) ++ ((xW o u cI cZ cJ) ++ [(ao, .inl (cJ, 1, .inr (.inl (fun _ => 0))))])) H := hP
        have hD : va_D A ((mW om 1 q cI cZ) ++ ((xW o u cI cZ cJ) ++ [(ao, .inl (cJ, 1, .inr (.inl (fun _ => 0))))])) := hD
        refine lv_istore (lv' := [(6, .int 0), (5, .int 1), (4, .int 0), (3, .ref ao), (2, .ref om), (1, .ref o), (0, .ref b)]) hx hb dL_law_583 hl (by decide) rfl (fun ls hl => ?_)
        refine lv_aload_n hx hb dL_law_585 rfl (lv_at hl 4 rfl) ?_
        refine rdV (As := []) (ci := 9) S (c_X9_thrown_0 l D cI cZ cJ om q) mi_X9_thrown kw_7_89 ⟨rfl, rfl⟩ ⟨Nat.le_of_ble_eq_true rfl, Nat.le_of_ble_eq_true rfl⟩ (va_Pl (ws := (mW om 1 q cI cZ)) (x := ((xW o u cI cZ cJ) ++ [(ao, .inl (cJ, 1, .inr (.inl (fun _ => 0))))])) hP) hK mW_0 rfl rfl hl.1 (Nat.le_of_ble_eq_true rfl) ⟨Nat.le_of_ble_eq_true rfl, Nat.le_of_ble_eq_true rfl⟩ dL_law_586 ?_
        refine lv_iload hx hb dL_law_589 (lv_at hl 1 rfl) ?_
        refine lv_icmp_eq (tgt := 596) hx hb dL_law_591 (by decide) (fun _ => ?_) (fun c => absurd c (by decide))
        refine lv_iload hx hb dL_law_596 (lv_at hl 1 rfl) ?_
        refine lv_if_ne (tgt := 613) hx hb dL_law_598 (by decide) (fun _ => ?_) (fun c => absurd c (by decide))
        refine lv_goto (tgt := 1519) hx hb dL_law_613 (by decide) ?_
        exact law_tail (C := 121) (Z := 12964) S hr hlocks hX hbl (lv_sub hl [2, 6] rfl) hS (Nat.le_of_ble_eq_true rfl) (Nat.le_of_ble_eq_true rfl)
      · have lo_x2 : 0 ≤ x2 := l_nlt d_550
        by_cases d_550 : 16 ≤ x2
        · have lo_x2 : 16 ≤ x2 := d_550
          refine wrap (mW om 0 q cI cZ) (mid := ((xW o u cI cZ cJ) ++ [(ao, .inl (cJ, 1, .inr (.inl (fun _ => 0))))])) (As := [.ref o, .int 1, .int x2, .int x3, .int x4, .ref ao]) S (h_node_6 l D cI cZ cJ o u ao hst ra ga H.size x2 x3 x4 lo_x2) msh_L_node kw_6_20 rfl rfl ⟨Nat.le_of_ble_eq_true rfl, Nat.le_of_ble_eq_true rfl⟩ hP hD hK hS hA hB hC hl.1 (Nat.le_of_ble_eq_true rfl) ⟨Nat.le_of_ble_eq_true rfl, Nat.le_of_ble_eq_true rfl⟩ dL_law_550 (fun H locs hz hP hD hS => ?_)
          have hP : va_P D vwCl ((mW om 0 q cI cZ) ++ ((xW o u cI cZ cJ) ++ [(ao, .inl (cJ, 1, .inr (.inl (fun _ => 0))))])) H := hP
          have hD : va_D A ((mW om 0 q cI cZ) ++ ((xW o u cI cZ cJ) ++ [(ao, .inl (cJ, 1, .inr (.inl (fun _ => 0))))])) := hD
          refine lv_istore (lv' := [(5, .int 1), (4, .int 0), (3, .ref ao), (2, .ref om), (1, .ref o), (0, .ref b)]) hx hb dL_law_553 hl (by decide) rfl (fun ls hl => ?_)
          refine lv_aload_n hx hb dL_law_555 rfl (lv_at hl 3 rfl) ?_
          refine lv_aload_n hx hb dL_law_556 rfl (lv_at hl 5 rfl) ?_
          refine lv_iload hx hb dL_law_557 (lv_at hl 1 rfl) ?_
          refine lv_iconst (v := 1) hx hb dL_law_559 (by decide) ?_
          refine xiadd (v := 1) S dL_law_560 (by decide) ?_
          refine xsld (v := 1) S hX hbl hbA hS (vin rfl) h1 dL_law_561 ?_
          refine lv_aload_n hx hb dL_law_562 rfl (lv_at hl 5 rfl) ?_
          refine lv_iload hx hb dL_law_563 (lv_at hl 1 rfl) ?_
          refine lv_iconst (v := 2) hx hb dL_law_565 (by decide) ?_
          refine xiadd (v := 2) S dL_law_566 (by decide) ?_
          refine xsld (v := x2) S hX hbl hbA hS (vin rfl) h2 dL_law_567 ?_
          refine lv_aload_n hx hb dL_law_568 rfl (lv_at hl 5 rfl) ?_
          refine lv_iload hx hb dL_law_569 (lv_at hl 1 rfl) ?_
          refine lv_iconst (v := 3) hx hb dL_law_571 (by decide) ?_
          refine xiadd (v := 3) S dL_law_572 (by decide) ?_
          refine xsld (v := x3) S hX hbl hbA hS (vin rfl) h3 dL_law_573 ?_
          refine lv_aload_n hx hb dL_law_574 rfl (lv_at hl 5 rfl) ?_
          refine lv_iload hx hb dL_law_575 (lv_at hl 1 rfl) ?_
          refine lv_iconst (v := 4) hx hb dL_law_577 (by decide) ?_
          refine xiadd (v := 4) S dL_law_578 (by decide) ?_
          refine xsld (v := x4) S hX hbl hbA hS (vin rfl) h4 dL_law_579 ?_
          refine fVi [] ((xW o u cI cZ cJ) ++ [(ao, .inl (cJ, 1, .inr (.inl (fun _ => 0))))]) (mid := (mW om 0 q cI cZ)) (As := [.int 1, .int x2, .int x3, .int x4]) (ci := 9) S (c_X9_node_6 l D cI cZ cJ om q H.size x2 x3 x4 lo_x2) mi_X9_node kw_7_151 rfl rfl ⟨Nat.le_of_ble_eq_true rfl, Nat.le_of_ble_eq_true rfl⟩ hP hD hK hS hA mW_0 rfl rfl hl.1 (Nat.le_of_ble_eq_true rfl) ⟨Nat.le_of_ble_eq_true rfl, Nat.le_of_ble_eq_true rfl⟩ dL_law_580 (fun H locs hz hP hD hS => ?_)
          have hP : va_P D vwCl ((mW om 1 q cI cZ) ++ ((xW o u cI cZ cJ) ++ [(ao, .inl (cJ, 1, .inr (.inl (fun _ => 0))))])) H := hP
          have hD : va_D A ((mW om 1 q cI cZ) ++ ((xW o u cI cZ cJ) ++ [(ao, .inl (cJ, 1, .inr (.inl (fun _ => 0))))])) := hD
          refine lv_istore (lv' := [(6, .int 0), (5, .int 1), (4, .int 0), (3, .ref ao), (2, .ref om), (1, .ref o), (0, .ref b)]) hx hb dL_law_583 hl (by decide) rfl (fun ls hl => ?_)
          refine lv_aload_n hx hb dL_law_585 rfl (lv_at hl 4 rfl) ?_
          refine rdV (As := []) (ci := 9) S (c_X9_thrown_0 l D cI cZ cJ om q) mi_X9_thrown kw_7_89 ⟨rfl, rfl⟩ ⟨Nat.le_of_ble_eq_true rfl, Nat.le_of_ble_eq_true rfl⟩ (va_Pl (ws := (mW om 1 q cI cZ)) (x := ((xW o u cI cZ cJ) ++ [(ao, .inl (cJ, 1, .inr (.inl (fun _ => 0))))])) hP) hK mW_0 rfl rfl hl.1 (Nat.le_of_ble_eq_true rfl) ⟨Nat.le_of_ble_eq_true rfl, Nat.le_of_ble_eq_true rfl⟩ dL_law_586 ?_
          refine lv_iload hx hb dL_law_589 (lv_at hl 1 rfl) ?_
          refine lv_icmp_eq (tgt := 596) hx hb dL_law_591 (by decide) (fun _ => ?_) (fun c => absurd c (by decide))
          refine lv_iload hx hb dL_law_596 (lv_at hl 1 rfl) ?_
          refine lv_if_ne (tgt := 613) hx hb dL_law_598 (by decide) (fun _ => ?_) (fun c => absurd c (by decide))
          refine lv_goto (tgt := 1519) hx hb dL_law_613 (by decide) ?_
          exact law_tail (C := 121) (Z := 12964) S hr hlocks hX hbl (lv_sub hl [2, 6] rfl) hS (Nat.le_of_ble_eq_true rfl) (Nat.le_of_ble_eq_true rfl)
        · have hi_x2 : x2 ≤ 15 := u_nge d_550 (by decide)
          by_cases d_550 : x3 = 0
          · have e_x3 : x3 = 0 := d_550
            subst e_x3
            by_cases d_550 : x4 = 0
            · have e_x4 : x4 = 0 := d_550
              subst e_x4
              refine wrap (mW om 0 q cI cZ) (mid := ((xW o u cI cZ cJ) ++ [(ao, .inl (cJ, 1, .inr (.inl (fun _ => 0))))])) (As := [.ref o, .int 1, .int x2, .int 0, .int 0, .ref ao]) S (h_node_7 l D cI cZ cJ o u ao hst ra ga H.size x2 lo_x2 hi_x2) msh_L_node kw_6_20 rfl rfl ⟨Nat.le_of_ble_eq_true rfl, Nat.le_of_ble_eq_true rfl⟩ hP hD hK hS hA hB hC hl.1 (Nat.le_of_ble_eq_true rfl) ⟨Nat.le_of_ble_eq_true rfl, Nat.le_of_ble_eq_true rfl⟩ dL_law_550 (fun H locs hz hP hD hS => ?_)
              have hP : va_P D vwCl ((mW om 0 q cI cZ) ++ (((((((((xW o u cI cZ cJ).set 13 ((u 12), .inr (5, ([.int 0, .ref (u 13), .ref (u 14), .ref (u 15), .ref (u 16), .ref (u 17), .ref (u 18)].set 0 (.int 1))))).set 14 ((u 13), .inl (cI, 110, .inl (upd (fun _ => 0) (0 : Int32).toNatClampNeg 1)))).set 15 ((u 14), .inl (cI, 110, .inl (upd (fun _ => 0) (0 : Int32).toNatClampNeg x2)))).set 16 ((u 15), .inl (cI, 110, .inl (upd (fun _ => 0) (0 : Int32).toNatClampNeg 0)))).set 17 ((u 16), .inl (cI, 110, .inl (upd (fun _ => 0) (0 : Int32).toNatClampNeg 0)))).set 18 ((u 17), .inl (cI, 110, .inl (upd (fun _ => 0) (0 : Int32).toNatClampNeg (-1))))).set 19 ((u 18), .inl (cI, 110, .inl (upd (fun _ => 0) (0 : Int32).toNatClampNeg (-1))))) ++ [(ao, .inl (cJ, 1, .inr (.inl (vp_updL (fun _ => 0) (0 : Int32).toNatClampNeg 0))))])) H := hP
              have hD : va_D A ((mW om 0 q cI cZ) ++ (((((((((xW o u cI cZ cJ).set 13 ((u 12), .inr (5, ([.int 0, .ref (u 13), .ref (u 14), .ref (u 15), .ref (u 16), .ref (u 17), .ref (u 18)].set 0 (.int 1))))).set 14 ((u 13), .inl (cI, 110, .inl (upd (fun _ => 0) (0 : Int32).toNatClampNeg 1)))).set 15 ((u 14), .inl (cI, 110, .inl (upd (fun _ => 0) (0 : Int32).toNatClampNeg x2)))).set 16 ((u 15), .inl (cI, 110, .inl (upd (fun _ => 0) (0 : Int32).toNatClampNeg 0)))).set 17 ((u 16), .inl (cI, 110, .inl (upd (fun _ => 0) (0 : Int32).toNatClampNeg 0)))).set 18 ((u 17), .inl (cI, 110, .inl (upd (fun _ => 0) (0 : Int32).toNatClampNeg (-1))))).set 19 ((u 18), .inl (cI, 110, .inl (upd (fun _ => 0) (0 : Int32).toNatClampNeg (-1))))) ++ [(ao, .inl (cJ, 1, .inr (.inl (vp_updL (fun _ => 0) (0 : Int32).toNatClampNeg 0))))])) := hD
              refine lv_istore (lv' := [(5, .int 0), (4, .int 0), (3, .ref ao), (2, .ref om), (1, .ref o), (0, .ref b)]) hx hb dL_law_553 hl (by decide) rfl (fun ls hl => ?_)
              refine lv_aload_n hx hb dL_law_555 rfl (lv_at hl 3 rfl) ?_
              refine lv_aload_n hx hb dL_law_556 rfl (lv_at hl 5 rfl) ?_
              refine lv_iload hx hb dL_law_557 (lv_at hl 1 rfl) ?_
              refine lv_iconst (v := 1) hx hb dL_law_559 (by decide) ?_
              refine xiadd (v := 1) S dL_law_560 (by decide) ?_
              refine xsld (v := 1) S hX hbl hbA hS (vin rfl) h1 dL_law_561 ?_
              refine lv_aload_n hx hb dL_law_562 rfl (lv_at hl 5 rfl) ?_
              refine lv_iload hx hb dL_law_563 (lv_at hl 1 rfl) ?_
              refine lv_iconst (v := 2) hx hb dL_law_565 (by decide) ?_
              refine xiadd (v := 2) S dL_law_566 (by decide) ?_
              refine xsld (v := x2) S hX hbl hbA hS (vin rfl) h2 dL_law_567 ?_
              refine lv_aload_n hx hb dL_law_568 rfl (lv_at hl 5 rfl) ?_
              refine lv_iload hx hb dL_law_569 (lv_at hl 1 rfl) ?_
              refine lv_iconst (v := 3) hx hb dL_law_571 (by decide) ?_
              refine xiadd (v := 3) S dL_law_572 (by decide) ?_
              refine xsld (v := 0) S hX hbl hbA hS (vin rfl) h3 dL_law_573 ?_
              refine lv_aload_n hx hb dL_law_574 rfl (lv_at hl 5 rfl) ?_
              refine lv_iload hx hb dL_law_575 (lv_at hl 1 rfl) ?_
              refine lv_iconst (v := 4) hx hb dL_law_577 (by decide) ?_
              refine xiadd (v := 4) S dL_law_578 (by decide) ?_
              refine xsld (v := 0) S hX hbl hbA hS (vin rfl) h4 dL_law_579 ?_
              refine fVi [] (((((((((xW o u cI cZ cJ).set 13 ((u 12), .inr (5, ([.int 0, .ref (u 13), .ref (u 14), .ref (u 15), .ref (u 16), .ref (u 17), .ref (u 18)].set 0 (.int 1))))).set 14 ((u 13), .inl (cI, 110, .inl (upd (fun _ => 0) (0 : Int32).toNatClampNeg 1)))).set 15 ((u 14), .inl (cI, 110, .inl (upd (fun _ => 0) (0 : Int32).toNatClampNeg x2)))).set 16 ((u 15), .inl (cI, 110, .inl (upd (fun _ => 0) (0 : Int32).toNatClampNeg 0)))).set 17 ((u 16), .inl (cI, 110, .inl (upd (fun _ => 0) (0 : Int32).toNatClampNeg 0)))).set 18 ((u 17), .inl (cI, 110, .inl (upd (fun _ => 0) (0 : Int32).toNatClampNeg (-1))))).set 19 ((u 18), .inl (cI, 110, .inl (upd (fun _ => 0) (0 : Int32).toNatClampNeg (-1))))) ++ [(ao, .inl (cJ, 1, .inr (.inl (vp_updL (fun _ => 0) (0 : Int32).toNatClampNeg 0))))]) (mid := (mW om 0 q cI cZ)) (As := [.int 1, .int x2, .int 0, .int 0]) (ci := 9) S (c_X9_node_7 l D cI cZ cJ om q H.size x2 lo_x2 hi_x2) mi_X9_node kw_7_151 rfl rfl ⟨Nat.le_of_ble_eq_true rfl, Nat.le_of_ble_eq_true rfl⟩ hP hD hK hS hA mW_0 rfl rfl hl.1 (Nat.le_of_ble_eq_true rfl) ⟨Nat.le_of_ble_eq_true rfl, Nat.le_of_ble_eq_true rfl⟩ dL_law_580 (fun H locs hz hP hD hS => ?_)
              have hP : va_P D vwCl (((((((((mW om 0 q cI cZ).set 0 (om, .inr (9, ((mF 0 q).set 13 (.int 1))))).set 12 ((q 11), .inl (cI, 110, .inl (upd (fun _ => 0) (0 : Int32).toNatClampNeg 1)))).set 13 ((q 12), .inl (cI, 110, .inl (upd (fun _ => 0) (0 : Int32).toNatClampNeg x2)))).set 14 ((q 13), .inl (cI, 110, .inl (upd (fun _ => 0) (0 : Int32).toNatClampNeg 0)))).set 15 ((q 14), .inl (cI, 110, .inl (upd (fun _ => 0) (0 : Int32).toNatClampNeg 0)))).set 16 ((q 15), .inl (cI, 110, .inl (upd (fun _ => 0) (0 : Int32).toNatClampNeg (-1))))).set 17 ((q 16), .inl (cI, 110, .inl (upd (fun _ => 0) (0 : Int32).toNatClampNeg (-1))))) ++ (((((((((xW o u cI cZ cJ).set 13 ((u 12), .inr (5, ([.int 0, .ref (u 13), .ref (u 14), .ref (u 15), .ref (u 16), .ref (u 17), .ref (u 18)].set 0 (.int 1))))).set 14 ((u 13), .inl (cI, 110, .inl (upd (fun _ => 0) (0 : Int32).toNatClampNeg 1)))).set 15 ((u 14), .inl (cI, 110, .inl (upd (fun _ => 0) (0 : Int32).toNatClampNeg x2)))).set 16 ((u 15), .inl (cI, 110, .inl (upd (fun _ => 0) (0 : Int32).toNatClampNeg 0)))).set 17 ((u 16), .inl (cI, 110, .inl (upd (fun _ => 0) (0 : Int32).toNatClampNeg 0)))).set 18 ((u 17), .inl (cI, 110, .inl (upd (fun _ => 0) (0 : Int32).toNatClampNeg (-1))))).set 19 ((u 18), .inl (cI, 110, .inl (upd (fun _ => 0) (0 : Int32).toNatClampNeg (-1))))) ++ [(ao, .inl (cJ, 1, .inr (.inl (vp_updL (fun _ => 0) (0 : Int32).toNatClampNeg 0))))])) H := hP
              have hD : va_D A (((((((((mW om 0 q cI cZ).set 0 (om, .inr (9, ((mF 0 q).set 13 (.int 1))))).set 12 ((q 11), .inl (cI, 110, .inl (upd (fun _ => 0) (0 : Int32).toNatClampNeg 1)))).set 13 ((q 12), .inl (cI, 110, .inl (upd (fun _ => 0) (0 : Int32).toNatClampNeg x2)))).set 14 ((q 13), .inl (cI, 110, .inl (upd (fun _ => 0) (0 : Int32).toNatClampNeg 0)))).set 15 ((q 14), .inl (cI, 110, .inl (upd (fun _ => 0) (0 : Int32).toNatClampNeg 0)))).set 16 ((q 15), .inl (cI, 110, .inl (upd (fun _ => 0) (0 : Int32).toNatClampNeg (-1))))).set 17 ((q 16), .inl (cI, 110, .inl (upd (fun _ => 0) (0 : Int32).toNatClampNeg (-1))))) ++ (((((((((xW o u cI cZ cJ).set 13 ((u 12), .inr (5, ([.int 0, .ref (u 13), .ref (u 14), .ref (u 15), .ref (u 16), .ref (u 17), .ref (u 18)].set 0 (.int 1))))).set 14 ((u 13), .inl (cI, 110, .inl (upd (fun _ => 0) (0 : Int32).toNatClampNeg 1)))).set 15 ((u 14), .inl (cI, 110, .inl (upd (fun _ => 0) (0 : Int32).toNatClampNeg x2)))).set 16 ((u 15), .inl (cI, 110, .inl (upd (fun _ => 0) (0 : Int32).toNatClampNeg 0)))).set 17 ((u 16), .inl (cI, 110, .inl (upd (fun _ => 0) (0 : Int32).toNatClampNeg 0)))).set 18 ((u 17), .inl (cI, 110, .inl (upd (fun _ => 0) (0 : Int32).toNatClampNeg (-1))))).set 19 ((u 18), .inl (cI, 110, .inl (upd (fun _ => 0) (0 : Int32).toNatClampNeg (-1))))) ++ [(ao, .inl (cJ, 1, .inr (.inl (vp_updL (fun _ => 0) (0 : Int32).toNatClampNeg 0))))])) := hD
              refine lv_istore (lv' := [(6, .int 0), (5, .int 0), (4, .int 0), (3, .ref ao), (2, .ref om), (1, .ref o), (0, .ref b)]) hx hb dL_law_583 hl (by decide) rfl (fun ls hl => ?_)
              refine lv_aload_n hx hb dL_law_585 rfl (lv_at hl 4 rfl) ?_
              refine rdV (As := []) (ci := 9) S (c_X9_thrown_10 l D cI cZ cJ om q x2 lo_x2 hi_x2) mi_X9_thrown kw_7_89 ⟨rfl, rfl⟩ ⟨Nat.le_of_ble_eq_true rfl, Nat.le_of_ble_eq_true rfl⟩ (va_Pl (ws := ((((((((mW om 0 q cI cZ).set 0 (om, .inr (9, ((mF 0 q).set 13 (.int 1))))).set 12 ((q 11), .inl (cI, 110, .inl (upd (fun _ => 0) (0 : Int32).toNatClampNeg 1)))).set 13 ((q 12), .inl (cI, 110, .inl (upd (fun _ => 0) (0 : Int32).toNatClampNeg x2)))).set 14 ((q 13), .inl (cI, 110, .inl (upd (fun _ => 0) (0 : Int32).toNatClampNeg 0)))).set 15 ((q 14), .inl (cI, 110, .inl (upd (fun _ => 0) (0 : Int32).toNatClampNeg 0)))).set 16 ((q 15), .inl (cI, 110, .inl (upd (fun _ => 0) (0 : Int32).toNatClampNeg (-1))))).set 17 ((q 16), .inl (cI, 110, .inl (upd (fun _ => 0) (0 : Int32).toNatClampNeg (-1)))))) (x := (((((((((xW o u cI cZ cJ).set 13 ((u 12), .inr (5, ([.int 0, .ref (u 13), .ref (u 14), .ref (u 15), .ref (u 16), .ref (u 17), .ref (u 18)].set 0 (.int 1))))).set 14 ((u 13), .inl (cI, 110, .inl (upd (fun _ => 0) (0 : Int32).toNatClampNeg 1)))).set 15 ((u 14), .inl (cI, 110, .inl (upd (fun _ => 0) (0 : Int32).toNatClampNeg x2)))).set 16 ((u 15), .inl (cI, 110, .inl (upd (fun _ => 0) (0 : Int32).toNatClampNeg 0)))).set 17 ((u 16), .inl (cI, 110, .inl (upd (fun _ => 0) (0 : Int32).toNatClampNeg 0)))).set 18 ((u 17), .inl (cI, 110, .inl (upd (fun _ => 0) (0 : Int32).toNatClampNeg (-1))))).set 19 ((u 18), .inl (cI, 110, .inl (upd (fun _ => 0) (0 : Int32).toNatClampNeg (-1))))) ++ [(ao, .inl (cJ, 1, .inr (.inl (vp_updL (fun _ => 0) (0 : Int32).toNatClampNeg 0))))])) hP) hK (k := 0) rfl rfl rfl hl.1 (Nat.le_of_ble_eq_true rfl) ⟨Nat.le_of_ble_eq_true rfl, Nat.le_of_ble_eq_true rfl⟩ dL_law_586 ?_
              refine lv_iload hx hb dL_law_589 (lv_at hl 1 rfl) ?_
              refine lv_icmp_eq (tgt := 596) hx hb dL_law_591 (by decide) (fun _ => ?_) (fun c => absurd c (by decide))
              refine lv_iload hx hb dL_law_596 (lv_at hl 1 rfl) ?_
              refine lv_if_ne (tgt := 613) hx hb dL_law_598 (by decide) (fun c => absurd c (by decide)) (fun _ => ?_)
              refine lv_aload_n hx hb dL_law_601 rfl (lv_at hl 3 rfl) ?_
              refine lv_iconst (v := 0) hx hb dL_law_602 (by decide) ?_
              refine xlald (t0 := 2) (v := 0) S hK hP (q0 := 119) rfl rfl (vin rfl) rfl dL_law_603 ?_
              refine lv_iload hx hb dL_law_604 (lv_at hl 0 rfl) ?_
              refine lv_i2l (v := 0) hx hb dL_law_606 (by decide) ?_
              refine xlcmp (v := 0) S dL_law_607 (by decide) ?_
              refine lv_if_eq (tgt := 613) hx hb dL_law_608 (by decide) (fun _ => ?_) (fun c => absurd c (by decide))
              refine lv_goto (tgt := 1519) hx hb dL_law_613 (by decide) ?_
              exact law_tail (C := 120) (Z := 12958) S hr hlocks hX hbl (lv_sub hl [2, 6] rfl) hS (Nat.le_of_ble_eq_true rfl) (Nat.le_of_ble_eq_true rfl)
            · have ne_x4_0 : ¬ x4 = 0 := d_550
              refine wrap (mW om 0 q cI cZ) (mid := ((xW o u cI cZ cJ) ++ [(ao, .inl (cJ, 1, .inr (.inl (fun _ => 0))))])) (As := [.ref o, .int 1, .int x2, .int 0, .int x4, .ref ao]) S (h_node_8 l D cI cZ cJ o u ao hst ra ga H.size x2 x4 lo_x2 hi_x2 ne_x4_0) msh_L_node kw_6_20 rfl rfl ⟨Nat.le_of_ble_eq_true rfl, Nat.le_of_ble_eq_true rfl⟩ hP hD hK hS hA hB hC hl.1 (Nat.le_of_ble_eq_true rfl) ⟨Nat.le_of_ble_eq_true rfl, Nat.le_of_ble_eq_true rfl⟩ dL_law_550 (fun H locs hz hP hD hS => ?_)
              have hP : va_P D vwCl ((mW om 0 q cI cZ) ++ ((xW o u cI cZ cJ) ++ [(ao, .inl (cJ, 1, .inr (.inl (fun _ => 0))))])) H := hP
              have hD : va_D A ((mW om 0 q cI cZ) ++ ((xW o u cI cZ cJ) ++ [(ao, .inl (cJ, 1, .inr (.inl (fun _ => 0))))])) := hD
              refine lv_istore (lv' := [(5, .int 1), (4, .int 0), (3, .ref ao), (2, .ref om), (1, .ref o), (0, .ref b)]) hx hb dL_law_553 hl (by decide) rfl (fun ls hl => ?_)
              refine lv_aload_n hx hb dL_law_555 rfl (lv_at hl 3 rfl) ?_
              refine lv_aload_n hx hb dL_law_556 rfl (lv_at hl 5 rfl) ?_
              refine lv_iload hx hb dL_law_557 (lv_at hl 1 rfl) ?_
              refine lv_iconst (v := 1) hx hb dL_law_559 (by decide) ?_
              refine xiadd (v := 1) S dL_law_560 (by decide) ?_
              refine xsld (v := 1) S hX hbl hbA hS (vin rfl) h1 dL_law_561 ?_
              refine lv_aload_n hx hb dL_law_562 rfl (lv_at hl 5 rfl) ?_
              refine lv_iload hx hb dL_law_563 (lv_at hl 1 rfl) ?_
              refine lv_iconst (v := 2) hx hb dL_law_565 (by decide) ?_
              refine xiadd (v := 2) S dL_law_566 (by decide) ?_
              refine xsld (v := x2) S hX hbl hbA hS (vin rfl) h2 dL_law_567 ?_
              refine lv_aload_n hx hb dL_law_568 rfl (lv_at hl 5 rfl) ?_
              refine lv_iload hx hb dL_law_569 (lv_at hl 1 rfl) ?_
              refine lv_iconst (v := 3) hx hb dL_law_571 (by decide) ?_
              refine xiadd (v := 3) S dL_law_572 (by decide) ?_
              refine xsld (v := 0) S hX hbl hbA hS (vin rfl) h3 dL_law_573 ?_
              refine lv_aload_n hx hb dL_law_574 rfl (lv_at hl 5 rfl) ?_
              refine lv_iload hx hb dL_law_575 (lv_at hl 1 rfl) ?_
              refine lv_iconst (v := 4) hx hb dL_law_577 (by decide) ?_
              refine xiadd (v := 4) S dL_law_578 (by decide) ?_
              refine xsld (v := x4) S hX hbl hbA hS (vin rfl) h4 dL_law_579 ?_
              refine fVi [] ((xW o u cI cZ cJ) ++ [(ao, .inl (cJ, 1, .inr (.inl (fun _ => 0))))]) (mid := (mW om 0 q cI cZ)) (As := [.int 1, .int x2, .int 0, .int x4]) (ci := 9) S (c_X9_node_8 l D cI cZ cJ om q H.size x2 x4 lo_x2 hi_x2 ne_x4_0) mi_X9_node kw_7_151 rfl rfl ⟨Nat.le_of_ble_eq_true rfl, Nat.le_of_ble_eq_true rfl⟩ hP hD hK hS hA mW_0 rfl rfl hl.1 (Nat.le_of_ble_eq_true rfl) ⟨Nat.le_of_ble_eq_true rfl, Nat.le_of_ble_eq_true rfl⟩ dL_law_580 (fun H locs hz hP hD hS => ?_)
              have hP : va_P D vwCl ((mW om 1 q cI cZ) ++ ((xW o u cI cZ cJ) ++ [(ao, .inl (cJ, 1, .inr (.inl (fun _ => 0))))])) H := hP
              have hD : va_D A ((mW om 1 q cI cZ) ++ ((xW o u cI cZ cJ) ++ [(ao, .inl (cJ, 1, .inr (.inl (fun _ => 0))))])) := hD
              refine lv_istore (lv' := [(6, .int 0), (5, .int 1), (4, .int 0), (3, .ref ao), (2, .ref om), (1, .ref o), (0, .ref b)]) hx hb dL_law_583 hl (by decide) rfl (fun ls hl => ?_)
              refine lv_aload_n hx hb dL_law_585 rfl (lv_at hl 4 rfl) ?_
              refine rdV (As := []) (ci := 9) S (c_X9_thrown_0 l D cI cZ cJ om q) mi_X9_thrown kw_7_89 ⟨rfl, rfl⟩ ⟨Nat.le_of_ble_eq_true rfl, Nat.le_of_ble_eq_true rfl⟩ (va_Pl (ws := (mW om 1 q cI cZ)) (x := ((xW o u cI cZ cJ) ++ [(ao, .inl (cJ, 1, .inr (.inl (fun _ => 0))))])) hP) hK mW_0 rfl rfl hl.1 (Nat.le_of_ble_eq_true rfl) ⟨Nat.le_of_ble_eq_true rfl, Nat.le_of_ble_eq_true rfl⟩ dL_law_586 ?_
              refine lv_iload hx hb dL_law_589 (lv_at hl 1 rfl) ?_
              refine lv_icmp_eq (tgt := 596) hx hb dL_law_591 (by decide) (fun _ => ?_) (fun c => absurd c (by decide))
              refine lv_iload hx hb dL_law_596 (lv_at hl 1 rfl) ?_
              refine lv_if_ne (tgt := 613) hx hb dL_law_598 (by decide) (fun _ => ?_) (fun c => absurd c (by decide))
              refine lv_goto (tgt := 1519) hx hb dL_law_613 (by decide) ?_
              exact law_tail (C := 121) (Z := 12964) S hr hlocks hX hbl (lv_sub hl [2, 6] rfl) hS (Nat.le_of_ble_eq_true rfl) (Nat.le_of_ble_eq_true rfl)
          · have ne_x3_0 : ¬ x3 = 0 := d_550
            refine wrap (mW om 0 q cI cZ) (mid := ((xW o u cI cZ cJ) ++ [(ao, .inl (cJ, 1, .inr (.inl (fun _ => 0))))])) (As := [.ref o, .int 1, .int x2, .int x3, .int x4, .ref ao]) S (h_node_9 l D cI cZ cJ o u ao hst ra ga H.size x2 x3 x4 lo_x2 hi_x2 ne_x3_0) msh_L_node kw_6_20 rfl rfl ⟨Nat.le_of_ble_eq_true rfl, Nat.le_of_ble_eq_true rfl⟩ hP hD hK hS hA hB hC hl.1 (Nat.le_of_ble_eq_true rfl) ⟨Nat.le_of_ble_eq_true rfl, Nat.le_of_ble_eq_true rfl⟩ dL_law_550 (fun H locs hz hP hD hS => ?_)
            have hP : va_P D vwCl ((mW om 0 q cI cZ) ++ ((xW o u cI cZ cJ) ++ [(ao, .inl (cJ, 1, .inr (.inl (fun _ => 0))))])) H := hP
            have hD : va_D A ((mW om 0 q cI cZ) ++ ((xW o u cI cZ cJ) ++ [(ao, .inl (cJ, 1, .inr (.inl (fun _ => 0))))])) := hD
            refine lv_istore (lv' := [(5, .int 1), (4, .int 0), (3, .ref ao), (2, .ref om), (1, .ref o), (0, .ref b)]) hx hb dL_law_553 hl (by decide) rfl (fun ls hl => ?_)
            refine lv_aload_n hx hb dL_law_555 rfl (lv_at hl 3 rfl) ?_
            refine lv_aload_n hx hb dL_law_556 rfl (lv_at hl 5 rfl) ?_
            refine lv_iload hx hb dL_law_557 (lv_at hl 1 rfl) ?_
            refine lv_iconst (v := 1) hx hb dL_law_559 (by decide) ?_
            refine xiadd (v := 1) S dL_law_560 (by decide) ?_
            refine xsld (v := 1) S hX hbl hbA hS (vin rfl) h1 dL_law_561 ?_
            refine lv_aload_n hx hb dL_law_562 rfl (lv_at hl 5 rfl) ?_
            refine lv_iload hx hb dL_law_563 (lv_at hl 1 rfl) ?_
            refine lv_iconst (v := 2) hx hb dL_law_565 (by decide) ?_
            refine xiadd (v := 2) S dL_law_566 (by decide) ?_
            refine xsld (v := x2) S hX hbl hbA hS (vin rfl) h2 dL_law_567 ?_
            refine lv_aload_n hx hb dL_law_568 rfl (lv_at hl 5 rfl) ?_
            refine lv_iload hx hb dL_law_569 (lv_at hl 1 rfl) ?_
            refine lv_iconst (v := 3) hx hb dL_law_571 (by decide) ?_
            refine xiadd (v := 3) S dL_law_572 (by decide) ?_
            refine xsld (v := x3) S hX hbl hbA hS (vin rfl) h3 dL_law_573 ?_
            refine lv_aload_n hx hb dL_law_574 rfl (lv_at hl 5 rfl) ?_
            refine lv_iload hx hb dL_law_575 (lv_at hl 1 rfl) ?_
            refine lv_iconst (v := 4) hx hb dL_law_577 (by decide) ?_
            refine xiadd (v := 4) S dL_law_578 (by decide) ?_
            refine xsld (v := x4) S hX hbl hbA hS (vin rfl) h4 dL_law_579 ?_
            refine fVi [] ((xW o u cI cZ cJ) ++ [(ao, .inl (cJ, 1, .inr (.inl (fun _ => 0))))]) (mid := (mW om 0 q cI cZ)) (As := [.int 1, .int x2, .int x3, .int x4]) (ci := 9) S (c_X9_node_9 l D cI cZ cJ om q H.size x2 x3 x4 lo_x2 hi_x2 ne_x3_0) mi_X9_node kw_7_151 rfl rfl ⟨Nat.le_of_ble_eq_true rfl, Nat.le_of_ble_eq_true rfl⟩ hP hD hK hS hA mW_0 rfl rfl hl.1 (Nat.le_of_ble_eq_true rfl) ⟨Nat.le_of_ble_eq_true rfl, Nat.le_of_ble_eq_true rfl⟩ dL_law_580 (fun H locs hz hP hD hS => ?_)
            have hP : va_P D vwCl ((mW om 1 q cI cZ) ++ ((xW o u cI cZ cJ) ++ [(ao, .inl (cJ, 1, .inr (.inl (fun _ => 0))))])) H := hP
            have hD : va_D A ((mW om 1 q cI cZ) ++ ((xW o u cI cZ cJ) ++ [(ao, .inl (cJ, 1, .inr (.inl (fun _ => 0))))])) := hD
            refine lv_istore (lv' := [(6, .int 0), (5, .int 1), (4, .int 0), (3, .ref ao), (2, .ref om), (1, .ref o), (0, .ref b)]) hx hb dL_law_583 hl (by decide) rfl (fun ls hl => ?_)
            refine lv_aload_n hx hb dL_law_585 rfl (lv_at hl 4 rfl) ?_
            refine rdV (As := []) (ci := 9) S (c_X9_thrown_0 l D cI cZ cJ om q) mi_X9_thrown kw_7_89 ⟨rfl, rfl⟩ ⟨Nat.le_of_ble_eq_true rfl, Nat.le_of_ble_eq_true rfl⟩ (va_Pl (ws := (mW om 1 q cI cZ)) (x := ((xW o u cI cZ cJ) ++ [(ao, .inl (cJ, 1, .inr (.inl (fun _ => 0))))])) hP) hK mW_0 rfl rfl hl.1 (Nat.le_of_ble_eq_true rfl) ⟨Nat.le_of_ble_eq_true rfl, Nat.le_of_ble_eq_true rfl⟩ dL_law_586 ?_
            refine lv_iload hx hb dL_law_589 (lv_at hl 1 rfl) ?_
            refine lv_icmp_eq (tgt := 596) hx hb dL_law_591 (by decide) (fun _ => ?_) (fun c => absurd c (by decide))
            refine lv_iload hx hb dL_law_596 (lv_at hl 1 rfl) ?_
            refine lv_if_ne (tgt := 613) hx hb dL_law_598 (by decide) (fun _ => ?_) (fun c => absurd c (by decide))
            refine lv_goto (tgt := 1519) hx hb dL_law_613 (by decide) ?_
            exact law_tail (C := 121) (Z := 12964) S hr hlocks hX hbl (lv_sub hl [2, 6] rfl) hS (Nat.le_of_ble_eq_true rfl) (Nat.le_of_ble_eq_true rfl)
    · have ne_x1_1 : ¬ x1 = 1 := d_550
      by_cases d_550 : x1 = 2
      · have e_x1 : x1 = 2 := d_550
        subst e_x1
        refine wrap (mW om 0 q cI cZ) (mid := ((xW o u cI cZ cJ) ++ [(ao, .inl (cJ, 1, .inr (.inl (fun _ => 0))))])) (As := [.ref o, .int 2, .int x2, .int x3, .int x4, .ref ao]) S (h_node_10 l D cI cZ cJ o u ao hst ra ga H.size x2 x3 x4) msh_L_node kw_6_20 rfl rfl ⟨Nat.le_of_ble_eq_true rfl, Nat.le_of_ble_eq_true rfl⟩ hP hD hK hS hA hB hC hl.1 (Nat.le_of_ble_eq_true rfl) ⟨Nat.le_of_ble_eq_true rfl, Nat.le_of_ble_eq_true rfl⟩ dL_law_550 (fun H locs hz hP hD hS => ?_)
        have hP : va_P D vwCl ((mW om 0 q cI cZ) ++ ((xW o u cI cZ cJ) ++ [(ao, .inl (cJ, 1, .inr (.inl (fun _ => 0))))])) H := hP
        have hD : va_D A ((mW om 0 q cI cZ) ++ ((xW o u cI cZ cJ) ++ [(ao, .inl (cJ, 1, .inr (.inl (fun _ => 0))))])) := hD
        refine lv_istore (lv' := [(5, .int 1), (4, .int 0), (3, .ref ao), (2, .ref om), (1, .ref o), (0, .ref b)]) hx hb dL_law_553 hl (by decide) rfl (fun ls hl => ?_)
        refine lv_aload_n hx hb dL_law_555 rfl (lv_at hl 3 rfl) ?_
        refine lv_aload_n hx hb dL_law_556 rfl (lv_at hl 5 rfl) ?_
        refine lv_iload hx hb dL_law_557 (lv_at hl 1 rfl) ?_
        refine lv_iconst (v := 1) hx hb dL_law_559 (by decide) ?_
        refine xiadd (v := 1) S dL_law_560 (by decide) ?_
        refine xsld (v := 2) S hX hbl hbA hS (vin rfl) h1 dL_law_561 ?_
        refine lv_aload_n hx hb dL_law_562 rfl (lv_at hl 5 rfl) ?_
        refine lv_iload hx hb dL_law_563 (lv_at hl 1 rfl) ?_
        refine lv_iconst (v := 2) hx hb dL_law_565 (by decide) ?_
        refine xiadd (v := 2) S dL_law_566 (by decide) ?_
        refine xsld (v := x2) S hX hbl hbA hS (vin rfl) h2 dL_law_567 ?_
        refine lv_aload_n hx hb dL_law_568 rfl (lv_at hl 5 rfl) ?_
        refine lv_iload hx hb dL_law_569 (lv_at hl 1 rfl) ?_
        refine lv_iconst (v := 3) hx hb dL_law_571 (by decide) ?_
        refine xiadd (v := 3) S dL_law_572 (by decide) ?_
        refine xsld (v := x3) S hX hbl hbA hS (vin rfl) h3 dL_law_573 ?_
        refine lv_aload_n hx hb dL_law_574 rfl (lv_at hl 5 rfl) ?_
        refine lv_iload hx hb dL_law_575 (lv_at hl 1 rfl) ?_
        refine lv_iconst (v := 4) hx hb dL_law_577 (by decide) ?_
        refine xiadd (v := 4) S dL_law_578 (by decide) ?_
        refine xsld (v := x4) S hX hbl hbA hS (vin rfl) h4 dL_law_579 ?_
        refine fVi [] ((xW o u cI cZ cJ) ++ [(ao, .inl (cJ, 1, .inr (.inl (fun _ => 0))))]) (mid := (mW om 0 q cI cZ)) (As := [.int 2, .int x2, .int x3, .int x4]) (ci := 9) S (c_X9_node_10 l D cI cZ cJ om q H.size x2 x3 x4) mi_X9_node kw_7_151 rfl rfl ⟨Nat.le_of_ble_eq_true rfl, Nat.le_of_ble_eq_true rfl⟩ hP hD hK hS hA mW_0 rfl rfl hl.1 (Nat.le_of_ble_eq_true rfl) ⟨Nat.le_of_ble_eq_true rfl, Nat.le_of_ble_eq_true rfl⟩ dL_law_580 (fun H locs hz hP hD hS => ?_)
        have hP : va_P D vwCl ((mW om 1 q cI cZ) ++ ((xW o u cI cZ cJ) ++ [(ao, .inl (cJ, 1, .inr (.inl (fun _ => 0))))])) H := hP
        have hD : va_D A ((mW om 1 q cI cZ) ++ ((xW o u cI cZ cJ) ++ [(ao, .inl (cJ, 1, .inr (.inl (fun _ => 0))))])) := hD
        refine lv_istore (lv' := [(6, .int 0), (5, .int 1), (4, .int 0), (3, .ref ao), (2, .ref om), (1, .ref o), (0, .ref b)]) hx hb dL_law_583 hl (by decide) rfl (fun ls hl => ?_)
        refine lv_aload_n hx hb dL_law_585 rfl (lv_at hl 4 rfl) ?_
        refine rdV (As := []) (ci := 9) S (c_X9_thrown_0 l D cI cZ cJ om q) mi_X9_thrown kw_7_89 ⟨rfl, rfl⟩ ⟨Nat.le_of_ble_eq_true rfl, Nat.le_of_ble_eq_true rfl⟩ (va_Pl (ws := (mW om 1 q cI cZ)) (x := ((xW o u cI cZ cJ) ++ [(ao, .inl (cJ, 1, .inr (.inl (fun _ => 0))))])) hP) hK mW_0 rfl rfl hl.1 (Nat.le_of_ble_eq_true rfl) ⟨Nat.le_of_ble_eq_true rfl, Nat.le_of_ble_eq_true rfl⟩ dL_law_586 ?_
        refine lv_iload hx hb dL_law_589 (lv_at hl 1 rfl) ?_
        refine lv_icmp_eq (tgt := 596) hx hb dL_law_591 (by decide) (fun _ => ?_) (fun c => absurd c (by decide))
        refine lv_iload hx hb dL_law_596 (lv_at hl 1 rfl) ?_
        refine lv_if_ne (tgt := 613) hx hb dL_law_598 (by decide) (fun _ => ?_) (fun c => absurd c (by decide))
        refine lv_goto (tgt := 1519) hx hb dL_law_613 (by decide) ?_
        exact law_tail (C := 121) (Z := 12964) S hr hlocks hX hbl (lv_sub hl [2, 6] rfl) hS (Nat.le_of_ble_eq_true rfl) (Nat.le_of_ble_eq_true rfl)
      · have ne_x1_2 : ¬ x1 = 2 := d_550
        by_cases d_550 : x1 = 3
        · have e_x1 : x1 = 3 := d_550
          subst e_x1
          refine wrap (mW om 0 q cI cZ) (mid := ((xW o u cI cZ cJ) ++ [(ao, .inl (cJ, 1, .inr (.inl (fun _ => 0))))])) (As := [.ref o, .int 3, .int x2, .int x3, .int x4, .ref ao]) S (h_node_11 l D cI cZ cJ o u ao hst ra ga H.size x2 x3 x4) msh_L_node kw_6_20 rfl rfl ⟨Nat.le_of_ble_eq_true rfl, Nat.le_of_ble_eq_true rfl⟩ hP hD hK hS hA hB hC hl.1 (Nat.le_of_ble_eq_true rfl) ⟨Nat.le_of_ble_eq_true rfl, Nat.le_of_ble_eq_true rfl⟩ dL_law_550 (fun H locs hz hP hD hS => ?_)
          have hP : va_P D vwCl ((mW om 0 q cI cZ) ++ ((xW o u cI cZ cJ) ++ [(ao, .inl (cJ, 1, .inr (.inl (fun _ => 0))))])) H := hP
          have hD : va_D A ((mW om 0 q cI cZ) ++ ((xW o u cI cZ cJ) ++ [(ao, .inl (cJ, 1, .inr (.inl (fun _ => 0))))])) := hD
          refine lv_istore (lv' := [(5, .int 1), (4, .int 0), (3, .ref ao), (2, .ref om), (1, .ref o), (0, .ref b)]) hx hb dL_law_553 hl (by decide) rfl (fun ls hl => ?_)
          refine lv_aload_n hx hb dL_law_555 rfl (lv_at hl 3 rfl) ?_
          refine lv_aload_n hx hb dL_law_556 rfl (lv_at hl 5 rfl) ?_
          refine lv_iload hx hb dL_law_557 (lv_at hl 1 rfl) ?_
          refine lv_iconst (v := 1) hx hb dL_law_559 (by decide) ?_
          refine xiadd (v := 1) S dL_law_560 (by decide) ?_
          refine xsld (v := 3) S hX hbl hbA hS (vin rfl) h1 dL_law_561 ?_
          refine lv_aload_n hx hb dL_law_562 rfl (lv_at hl 5 rfl) ?_
          refine lv_iload hx hb dL_law_563 (lv_at hl 1 rfl) ?_
          refine lv_iconst (v := 2) hx hb dL_law_565 (by decide) ?_
          refine xiadd (v := 2) S dL_law_566 (by decide) ?_
          refine xsld (v := x2) S hX hbl hbA hS (vin rfl) h2 dL_law_567 ?_
          refine lv_aload_n hx hb dL_law_568 rfl (lv_at hl 5 rfl) ?_
          refine lv_iload hx hb dL_law_569 (lv_at hl 1 rfl) ?_
          refine lv_iconst (v := 3) hx hb dL_law_571 (by decide) ?_
          refine xiadd (v := 3) S dL_law_572 (by decide) ?_
          refine xsld (v := x3) S hX hbl hbA hS (vin rfl) h3 dL_law_573 ?_
          refine lv_aload_n hx hb dL_law_574 rfl (lv_at hl 5 rfl) ?_
          refine lv_iload hx hb dL_law_575 (lv_at hl 1 rfl) ?_
          refine lv_iconst (v := 4) hx hb dL_law_577 (by decide) ?_
          refine xiadd (v := 4) S dL_law_578 (by decide) ?_
          refine xsld (v := x4) S hX hbl hbA hS (vin rfl) h4 dL_law_579 ?_
          refine fVi [] ((xW o u cI cZ cJ) ++ [(ao, .inl (cJ, 1, .inr (.inl (fun _ => 0))))]) (mid := (mW om 0 q cI cZ)) (As := [.int 3, .int x2, .int x3, .int x4]) (ci := 9) S (c_X9_node_11 l D cI cZ cJ om q H.size x2 x3 x4) mi_X9_node kw_7_151 rfl rfl ⟨Nat.le_of_ble_eq_true rfl, Nat.le_of_ble_eq_true rfl⟩ hP hD hK hS hA mW_0 rfl rfl hl.1 (Nat.le_of_ble_eq_true rfl) ⟨Nat.le_of_ble_eq_true rfl, Nat.le_of_ble_eq_true rfl⟩ dL_law_580 (fun H locs hz hP hD hS => ?_)
          have hP : va_P D vwCl ((mW om 1 q cI cZ) ++ ((xW o u cI cZ cJ) ++ [(ao, .inl (cJ, 1, .inr (.inl (fun _ => 0))))])) H := hP
          have hD : va_D A ((mW om 1 q cI cZ) ++ ((xW o u cI cZ cJ) ++ [(ao, .inl (cJ, 1, .inr (.inl (fun _ => 0))))])) := hD
          refine lv_istore (lv' := [(6, .int 0), (5, .int 1), (4, .int 0), (3, .ref ao), (2, .ref om), (1, .ref o), (0, .ref b)]) hx hb dL_law_583 hl (by decide) rfl (fun ls hl => ?_)
          refine lv_aload_n hx hb dL_law_585 rfl (lv_at hl 4 rfl) ?_
          refine rdV (As := []) (ci := 9) S (c_X9_thrown_0 l D cI cZ cJ om q) mi_X9_thrown kw_7_89 ⟨rfl, rfl⟩ ⟨Nat.le_of_ble_eq_true rfl, Nat.le_of_ble_eq_true rfl⟩ (va_Pl (ws := (mW om 1 q cI cZ)) (x := ((xW o u cI cZ cJ) ++ [(ao, .inl (cJ, 1, .inr (.inl (fun _ => 0))))])) hP) hK mW_0 rfl rfl hl.1 (Nat.le_of_ble_eq_true rfl) ⟨Nat.le_of_ble_eq_true rfl, Nat.le_of_ble_eq_true rfl⟩ dL_law_586 ?_
          refine lv_iload hx hb dL_law_589 (lv_at hl 1 rfl) ?_
          refine lv_icmp_eq (tgt := 596) hx hb dL_law_591 (by decide) (fun _ => ?_) (fun c => absurd c (by decide))
          refine lv_iload hx hb dL_law_596 (lv_at hl 1 rfl) ?_
          refine lv_if_ne (tgt := 613) hx hb dL_law_598 (by decide) (fun _ => ?_) (fun c => absurd c (by decide))
          refine lv_goto (tgt := 1519) hx hb dL_law_613 (by decide) ?_
          exact law_tail (C := 121) (Z := 12964) S hr hlocks hX hbl (lv_sub hl [2, 6] rfl) hS (Nat.le_of_ble_eq_true rfl) (Nat.le_of_ble_eq_true rfl)
        · have ne_x1_3 : ¬ x1 = 3 := d_550
          by_cases d_550 : x1 = 4
          · have e_x1 : x1 = 4 := d_550
            subst e_x1
            refine wrap (mW om 0 q cI cZ) (mid := ((xW o u cI cZ cJ) ++ [(ao, .inl (cJ, 1, .inr (.inl (fun _ => 0))))])) (As := [.ref o, .int 4, .int x2, .int x3, .int x4, .ref ao]) S (h_node_12 l D cI cZ cJ o u ao hst ra ga H.size x2 x3 x4) msh_L_node kw_6_20 rfl rfl ⟨Nat.le_of_ble_eq_true rfl, Nat.le_of_ble_eq_true rfl⟩ hP hD hK hS hA hB hC hl.1 (Nat.le_of_ble_eq_true rfl) ⟨Nat.le_of_ble_eq_true rfl, Nat.le_of_ble_eq_true rfl⟩ dL_law_550 (fun H locs hz hP hD hS => ?_)
            have hP : va_P D vwCl ((mW om 0 q cI cZ) ++ ((xW o u cI cZ cJ) ++ [(ao, .inl (cJ, 1, .inr (.inl (fun _ => 0))))])) H := hP
            have hD : va_D A ((mW om 0 q cI cZ) ++ ((xW o u cI cZ cJ) ++ [(ao, .inl (cJ, 1, .inr (.inl (fun _ => 0))))])) := hD
            refine lv_istore (lv' := [(5, .int 1), (4, .int 0), (3, .ref ao), (2, .ref om), (1, .ref o), (0, .ref b)]) hx hb dL_law_553 hl (by decide) rfl (fun ls hl => ?_)
            refine lv_aload_n hx hb dL_law_555 rfl (lv_at hl 3 rfl) ?_
            refine lv_aload_n hx hb dL_law_556 rfl (lv_at hl 5 rfl) ?_
            refine lv_iload hx hb dL_law_557 (lv_at hl 1 rfl) ?_
            refine lv_iconst (v := 1) hx hb dL_law_559 (by decide) ?_
            refine xiadd (v := 1) S dL_law_560 (by decide) ?_
            refine xsld (v := 4) S hX hbl hbA hS (vin rfl) h1 dL_law_561 ?_
            refine lv_aload_n hx hb dL_law_562 rfl (lv_at hl 5 rfl) ?_
            refine lv_iload hx hb dL_law_563 (lv_at hl 1 rfl) ?_
            refine lv_iconst (v := 2) hx hb dL_law_565 (by decide) ?_
            refine xiadd (v := 2) S dL_law_566 (by decide) ?_
            refine xsld (v := x2) S hX hbl hbA hS (vin rfl) h2 dL_law_567 ?_
            refine lv_aload_n hx hb dL_law_568 rfl (lv_at hl 5 rfl) ?_
            refine lv_iload hx hb dL_law_569 (lv_at hl 1 rfl) ?_
            refine lv_iconst (v := 3) hx hb dL_law_571 (by decide) ?_
            refine xiadd (v := 3) S dL_law_572 (by decide) ?_
            refine xsld (v := x3) S hX hbl hbA hS (vin rfl) h3 dL_law_573 ?_
            refine lv_aload_n hx hb dL_law_574 rfl (lv_at hl 5 rfl) ?_
            refine lv_iload hx hb dL_law_575 (lv_at hl 1 rfl) ?_
            refine lv_iconst (v := 4) hx hb dL_law_577 (by decide) ?_
            refine xiadd (v := 4) S dL_law_578 (by decide) ?_
            refine xsld (v := x4) S hX hbl hbA hS (vin rfl) h4 dL_law_579 ?_
            refine fVi [] ((xW o u cI cZ cJ) ++ [(ao, .inl (cJ, 1, .inr (.inl (fun _ => 0))))]) (mid := (mW om 0 q cI cZ)) (As := [.int 4, .int x2, .int x3, .int x4]) (ci := 9) S (c_X9_node_12 l D cI cZ cJ om q H.size x2 x3 x4) mi_X9_node kw_7_151 rfl rfl ⟨Nat.le_of_ble_eq_true rfl, Nat.le_of_ble_eq_true rfl⟩ hP hD hK hS hA mW_0 rfl rfl hl.1 (Nat.le_of_ble_eq_true rfl) ⟨Nat.le_of_ble_eq_true rfl, Nat.le_of_ble_eq_true rfl⟩ dL_law_580 (fun H locs hz hP hD hS => ?_)
            have hP : va_P D vwCl ((mW om 1 q cI cZ) ++ ((xW o u cI cZ cJ) ++ [(ao, .inl (cJ, 1, .inr (.inl (fun _ => 0))))])) H := hP
            have hD : va_D A ((mW om 1 q cI cZ) ++ ((xW o u cI cZ cJ) ++ [(ao, .inl (cJ, 1, .inr (.inl (fun _ => 0))))])) := hD
            refine lv_istore (lv' := [(6, .int 0), (5, .int 1), (4, .int 0), (3, .ref ao), (2, .ref om), (1, .ref o), (0, .ref b)]) hx hb dL_law_583 hl (by decide) rfl (fun ls hl => ?_)
            refine lv_aload_n hx hb dL_law_585 rfl (lv_at hl 4 rfl) ?_
            refine rdV (As := []) (ci := 9) S (c_X9_thrown_0 l D cI cZ cJ om q) mi_X9_thrown kw_7_89 ⟨rfl, rfl⟩ ⟨Nat.le_of_ble_eq_true rfl, Nat.le_of_ble_eq_true rfl⟩ (va_Pl (ws := (mW om 1 q cI cZ)) (x := ((xW o u cI cZ cJ) ++ [(ao, .inl (cJ, 1, .inr (.inl (fun _ => 0))))])) hP) hK mW_0 rfl rfl hl.1 (Nat.le_of_ble_eq_true rfl) ⟨Nat.le_of_ble_eq_true rfl, Nat.le_of_ble_eq_true rfl⟩ dL_law_586 ?_
            refine lv_iload hx hb dL_law_589 (lv_at hl 1 rfl) ?_
            refine lv_icmp_eq (tgt := 596) hx hb dL_law_591 (by decide) (fun _ => ?_) (fun c => absurd c (by decide))
            refine lv_iload hx hb dL_law_596 (lv_at hl 1 rfl) ?_
            refine lv_if_ne (tgt := 613) hx hb dL_law_598 (by decide) (fun _ => ?_) (fun c => absurd c (by decide))
            refine lv_goto (tgt := 1519) hx hb dL_law_613 (by decide) ?_
            exact law_tail (C := 121) (Z := 12964) S hr hlocks hX hbl (lv_sub hl [2, 6] rfl) hS (Nat.le_of_ble_eq_true rfl) (Nat.le_of_ble_eq_true rfl)
          · have ne_x1_4 : ¬ x1 = 4 := d_550
            by_cases d_550 : x1 = 5
            · have e_x1 : x1 = 5 := d_550
              subst e_x1
              refine wrap (mW om 0 q cI cZ) (mid := ((xW o u cI cZ cJ) ++ [(ao, .inl (cJ, 1, .inr (.inl (fun _ => 0))))])) (As := [.ref o, .int 5, .int x2, .int x3, .int x4, .ref ao]) S (h_node_13 l D cI cZ cJ o u ao hst ra ga H.size x2 x3 x4) msh_L_node kw_6_20 rfl rfl ⟨Nat.le_of_ble_eq_true rfl, Nat.le_of_ble_eq_true rfl⟩ hP hD hK hS hA hB hC hl.1 (Nat.le_of_ble_eq_true rfl) ⟨Nat.le_of_ble_eq_true rfl, Nat.le_of_ble_eq_true rfl⟩ dL_law_550 (fun H locs hz hP hD hS => ?_)
              have hP : va_P D vwCl ((mW om 0 q cI cZ) ++ ((xW o u cI cZ cJ) ++ [(ao, .inl (cJ, 1, .inr (.inl (fun _ => 0))))])) H := hP
              have hD : va_D A ((mW om 0 q cI cZ) ++ ((xW o u cI cZ cJ) ++ [(ao, .inl (cJ, 1, .inr (.inl (fun _ => 0))))])) := hD
              refine lv_istore (lv' := [(5, .int 1), (4, .int 0), (3, .ref ao), (2, .ref om), (1, .ref o), (0, .ref b)]) hx hb dL_law_553 hl (by decide) rfl (fun ls hl => ?_)
              refine lv_aload_n hx hb dL_law_555 rfl (lv_at hl 3 rfl) ?_
              refine lv_aload_n hx hb dL_law_556 rfl (lv_at hl 5 rfl) ?_
              refine lv_iload hx hb dL_law_557 (lv_at hl 1 rfl) ?_
              refine lv_iconst (v := 1) hx hb dL_law_559 (by decide) ?_
              refine xiadd (v := 1) S dL_law_560 (by decide) ?_
              refine xsld (v := 5) S hX hbl hbA hS (vin rfl) h1 dL_law_561 ?_
              refine lv_aload_n hx hb dL_law_562 rfl (lv_at hl 5 rfl) ?_
              refine lv_iload hx hb dL_law_563 (lv_at hl 1 rfl) ?_
              refine lv_iconst (v := 2) hx hb dL_law_565 (by decide) ?_
              refine xiadd (v := 2) S dL_law_566 (by decide) ?_
              refine xsld (v := x2) S hX hbl hbA hS (vin rfl) h2 dL_law_567 ?_
              refine lv_aload_n hx hb dL_law_568 rfl (lv_at hl 5 rfl) ?_
              refine lv_iload hx hb dL_law_569 (lv_at hl 1 rfl) ?_
              refine lv_iconst (v := 3) hx hb dL_law_571 (by decide) ?_
              refine xiadd (v := 3) S dL_law_572 (by decide) ?_
              refine xsld (v := x3) S hX hbl hbA hS (vin rfl) h3 dL_law_573 ?_
              refine lv_aload_n hx hb dL_law_574 rfl (lv_at hl 5 rfl) ?_
              refine lv_iload hx hb dL_law_575 (lv_at hl 1 rfl) ?_
              refine lv_iconst (v := 4) hx hb dL_law_577 (by decide) ?_
              refine xiadd (v := 4) S dL_law_578 (by decide) ?_
              refine xsld (v := x4) S hX hbl hbA hS (vin rfl) h4 dL_law_579 ?_
              refine fVi [] ((xW o u cI cZ cJ) ++ [(ao, .inl (cJ, 1, .inr (.inl (fun _ => 0))))]) (mid := (mW om 0 q cI cZ)) (As := [.int 5, .int x2, .int x3, .int x4]) (ci := 9) S (c_X9_node_13 l D cI cZ cJ om q H.size x2 x3 x4) mi_X9_node kw_7_151 rfl rfl ⟨Nat.le_of_ble_eq_true rfl, Nat.le_of_ble_eq_true rfl⟩ hP hD hK hS hA mW_0 rfl rfl hl.1 (Nat.le_of_ble_eq_true rfl) ⟨Nat.le_of_ble_eq_true rfl, Nat.le_of_ble_eq_true rfl⟩ dL_law_580 (fun H locs hz hP hD hS => ?_)
              have hP : va_P D vwCl ((mW om 1 q cI cZ) ++ ((xW o u cI cZ cJ) ++ [(ao, .inl (cJ, 1, .inr (.inl (fun _ => 0))))])) H := hP
              have hD : va_D A ((mW om 1 q cI cZ) ++ ((xW o u cI cZ cJ) ++ [(ao, .inl (cJ, 1, .inr (.inl (fun _ => 0))))])) := hD
              refine lv_istore (lv' := [(6, .int 0), (5, .int 1), (4, .int 0), (3, .ref ao), (2, .ref om), (1, .ref o), (0, .ref b)]) hx hb dL_law_583 hl (by decide) rfl (fun ls hl => ?_)
              refine lv_aload_n hx hb dL_law_585 rfl (lv_at hl 4 rfl) ?_
              refine rdV (As := []) (ci := 9) S (c_X9_thrown_0 l D cI cZ cJ om q) mi_X9_thrown kw_7_89 ⟨rfl, rfl⟩ ⟨Nat.le_of_ble_eq_true rfl, Nat.le_of_ble_eq_true rfl⟩ (va_Pl (ws := (mW om 1 q cI cZ)) (x := ((xW o u cI cZ cJ) ++ [(ao, .inl (cJ, 1, .inr (.inl (fun _ => 0))))])) hP) hK mW_0 rfl rfl hl.1 (Nat.le_of_ble_eq_true rfl) ⟨Nat.le_of_ble_eq_true rfl, Nat.le_of_ble_eq_true rfl⟩ dL_law_586 ?_
              refine lv_iload hx hb dL_law_589 (lv_at hl 1 rfl) ?_
              refine lv_icmp_eq (tgt := 596) hx hb dL_law_591 (by decide) (fun _ => ?_) (fun c => absurd c (by decide))
              refine lv_iload hx hb dL_law_596 (lv_at hl 1 rfl) ?_
              refine lv_if_ne (tgt := 613) hx hb dL_law_598 (by decide) (fun _ => ?_) (fun c => absurd c (by decide))
              refine lv_goto (tgt := 1519) hx hb dL_law_613 (by decide) ?_
              exact law_tail (C := 121) (Z := 12964) S hr hlocks hX hbl (lv_sub hl [2, 6] rfl) hS (Nat.le_of_ble_eq_true rfl) (Nat.le_of_ble_eq_true rfl)
            · have ne_x1_5 : ¬ x1 = 5 := d_550
              by_cases d_550 : x1 = 6
              · have e_x1 : x1 = 6 := d_550
                subst e_x1
                refine wrap (mW om 0 q cI cZ) (mid := ((xW o u cI cZ cJ) ++ [(ao, .inl (cJ, 1, .inr (.inl (fun _ => 0))))])) (As := [.ref o, .int 6, .int x2, .int x3, .int x4, .ref ao]) S (h_node_14 l D cI cZ cJ o u ao hst ra ga H.size x2 x3 x4) msh_L_node kw_6_20 rfl rfl ⟨Nat.le_of_ble_eq_true rfl, Nat.le_of_ble_eq_true rfl⟩ hP hD hK hS hA hB hC hl.1 (Nat.le_of_ble_eq_true rfl) ⟨Nat.le_of_ble_eq_true rfl, Nat.le_of_ble_eq_true rfl⟩ dL_law_550 (fun H locs hz hP hD hS => ?_)
                have hP : va_P D vwCl ((mW om 0 q cI cZ) ++ ((xW o u cI cZ cJ) ++ [(ao, .inl (cJ, 1, .inr (.inl (fun _ => 0))))])) H := hP
                have hD : va_D A ((mW om 0 q cI cZ) ++ ((xW o u cI cZ cJ) ++ [(ao, .inl (cJ, 1, .inr (.inl (fun _ => 0))))])) := hD
                refine lv_istore (lv' := [(5, .int 1), (4, .int 0), (3, .ref ao), (2, .ref om), (1, .ref o), (0, .ref b)]) hx hb dL_law_553 hl (by decide) rfl (fun ls hl => ?_)
                refine lv_aload_n hx hb dL_law_555 rfl (lv_at hl 3 rfl) ?_
                refine lv_aload_n hx hb dL_law_556 rfl (lv_at hl 5 rfl) ?_
                refine lv_iload hx hb dL_law_557 (lv_at hl 1 rfl) ?_
                refine lv_iconst (v := 1) hx hb dL_law_559 (by decide) ?_
                refine xiadd (v := 1) S dL_law_560 (by decide) ?_
                refine xsld (v := 6) S hX hbl hbA hS (vin rfl) h1 dL_law_561 ?_
                refine lv_aload_n hx hb dL_law_562 rfl (lv_at hl 5 rfl) ?_
                refine lv_iload hx hb dL_law_563 (lv_at hl 1 rfl) ?_
                refine lv_iconst (v := 2) hx hb dL_law_565 (by decide) ?_
                refine xiadd (v := 2) S dL_law_566 (by decide) ?_
                refine xsld (v := x2) S hX hbl hbA hS (vin rfl) h2 dL_law_567 ?_
                refine lv_aload_n hx hb dL_law_568 rfl (lv_at hl 5 rfl) ?_
                refine lv_iload hx hb dL_law_569 (lv_at hl 1 rfl) ?_
                refine lv_iconst (v := 3) hx hb dL_law_571 (by decide) ?_
                refine xiadd (v := 3) S dL_law_572 (by decide) ?_
                refine xsld (v := x3) S hX hbl hbA hS (vin rfl) h3 dL_law_573 ?_
                refine lv_aload_n hx hb dL_law_574 rfl (lv_at hl 5 rfl) ?_
                refine lv_iload hx hb dL_law_575 (lv_at hl 1 rfl) ?_
                refine lv_iconst (v := 4) hx hb dL_law_577 (by decide) ?_
                refine xiadd (v := 4) S dL_law_578 (by decide) ?_
                refine xsld (v := x4) S hX hbl hbA hS (vin rfl) h4 dL_law_579 ?_
                refine fVi [] ((xW o u cI cZ cJ) ++ [(ao, .inl (cJ, 1, .inr (.inl (fun _ => 0))))]) (mid := (mW om 0 q cI cZ)) (As := [.int 6, .int x2, .int x3, .int x4]) (ci := 9) S (c_X9_node_14 l D cI cZ cJ om q H.size x2 x3 x4) mi_X9_node kw_7_151 rfl rfl ⟨Nat.le_of_ble_eq_true rfl, Nat.le_of_ble_eq_true rfl⟩ hP hD hK hS hA mW_0 rfl rfl hl.1 (Nat.le_of_ble_eq_true rfl) ⟨Nat.le_of_ble_eq_true rfl, Nat.le_of_ble_eq_true rfl⟩ dL_law_580 (fun H locs hz hP hD hS => ?_)
                have hP : va_P D vwCl ((mW om 1 q cI cZ) ++ ((xW o u cI cZ cJ) ++ [(ao, .inl (cJ, 1, .inr (.inl (fun _ => 0))))])) H := hP
                have hD : va_D A ((mW om 1 q cI cZ) ++ ((xW o u cI cZ cJ) ++ [(ao, .inl (cJ, 1, .inr (.inl (fun _ => 0))))])) := hD
                refine lv_istore (lv' := [(6, .int 0), (5, .int 1), (4, .int 0), (3, .ref ao), (2, .ref om), (1, .ref o), (0, .ref b)]) hx hb dL_law_583 hl (by decide) rfl (fun ls hl => ?_)
                refine lv_aload_n hx hb dL_law_585 rfl (lv_at hl 4 rfl) ?_
                refine rdV (As := []) (ci := 9) S (c_X9_thrown_0 l D cI cZ cJ om q) mi_X9_thrown kw_7_89 ⟨rfl, rfl⟩ ⟨Nat.le_of_ble_eq_true rfl, Nat.le_of_ble_eq_true rfl⟩ (va_Pl (ws := (mW om 1 q cI cZ)) (x := ((xW o u cI cZ cJ) ++ [(ao, .inl (cJ, 1, .inr (.inl (fun _ => 0))))])) hP) hK mW_0 rfl rfl hl.1 (Nat.le_of_ble_eq_true rfl) ⟨Nat.le_of_ble_eq_true rfl, Nat.le_of_ble_eq_true rfl⟩ dL_law_586 ?_
                refine lv_iload hx hb dL_law_589 (lv_at hl 1 rfl) ?_
                refine lv_icmp_eq (tgt := 596) hx hb dL_law_591 (by decide) (fun _ => ?_) (fun c => absurd c (by decide))
                refine lv_iload hx hb dL_law_596 (lv_at hl 1 rfl) ?_
                refine lv_if_ne (tgt := 613) hx hb dL_law_598 (by decide) (fun _ => ?_) (fun c => absurd c (by decide))
                refine lv_goto (tgt := 1519) hx hb dL_law_613 (by decide) ?_
                exact law_tail (C := 121) (Z := 12964) S hr hlocks hX hbl (lv_sub hl [2, 6] rfl) hS (Nat.le_of_ble_eq_true rfl) (Nat.le_of_ble_eq_true rfl)
              · have ne_x1_6 : ¬ x1 = 6 := d_550
                by_cases d_550 : x1 = 7
                · have e_x1 : x1 = 7 := d_550
                  subst e_x1
                  refine wrap (mW om 0 q cI cZ) (mid := ((xW o u cI cZ cJ) ++ [(ao, .inl (cJ, 1, .inr (.inl (fun _ => 0))))])) (As := [.ref o, .int 7, .int x2, .int x3, .int x4, .ref ao]) S (h_node_15 l D cI cZ cJ o u ao hst ra ga H.size x2 x3 x4) msh_L_node kw_6_20 rfl rfl ⟨Nat.le_of_ble_eq_true rfl, Nat.le_of_ble_eq_true rfl⟩ hP hD hK hS hA hB hC hl.1 (Nat.le_of_ble_eq_true rfl) ⟨Nat.le_of_ble_eq_true rfl, Nat.le_of_ble_eq_true rfl⟩ dL_law_550 (fun H locs hz hP hD hS => ?_)
                  have hP : va_P D vwCl ((mW om 0 q cI cZ) ++ ((xW o u cI cZ cJ) ++ [(ao, .inl (cJ, 1, .inr (.inl (fun _ => 0))))])) H := hP
                  have hD : va_D A ((mW om 0 q cI cZ) ++ ((xW o u cI cZ cJ) ++ [(ao, .inl (cJ, 1, .inr (.inl (fun _ => 0))))])) := hD
                  refine lv_istore (lv' := [(5, .int 1), (4, .int 0), (3, .ref ao), (2, .ref om), (1, .ref o), (0, .ref b)]) hx hb dL_law_553 hl (by decide) rfl (fun ls hl => ?_)
                  refine lv_aload_n hx hb dL_law_555 rfl (lv_at hl 3 rfl) ?_
                  refine lv_aload_n hx hb dL_law_556 rfl (lv_at hl 5 rfl) ?_
                  refine lv_iload hx hb dL_law_557 (lv_at hl 1 rfl) ?_
                  refine lv_iconst (v := 1) hx hb dL_law_559 (by decide) ?_
                  refine xiadd (v := 1) S dL_law_560 (by decide) ?_
                  refine xsld (v := 7) S hX hbl hbA hS (vin rfl) h1 dL_law_561 ?_
                  refine lv_aload_n hx hb dL_law_562 rfl (lv_at hl 5 rfl) ?_
                  refine lv_iload hx hb dL_law_563 (lv_at hl 1 rfl) ?_
                  refine lv_iconst (v := 2) hx hb dL_law_565 (by decide) ?_
                  refine xiadd (v := 2) S dL_law_566 (by decide) ?_
                  refine xsld (v := x2) S hX hbl hbA hS (vin rfl) h2 dL_law_567 ?_
                  refine lv_aload_n hx hb dL_law_568 rfl (lv_at hl 5 rfl) ?_
                  refine lv_iload hx hb dL_law_569 (lv_at hl 1 rfl) ?_
                  refine lv_iconst (v := 3) hx hb dL_law_571 (by decide) ?_
                  refine xiadd (v := 3) S dL_law_572 (by decide) ?_
                  refine xsld (v := x3) S hX hbl hbA hS (vin rfl) h3 dL_law_573 ?_
                  refine lv_aload_n hx hb dL_law_574 rfl (lv_at hl 5 rfl) ?_
                  refine lv_iload hx hb dL_law_575 (lv_at hl 1 rfl) ?_
                  refine lv_iconst (v := 4) hx hb dL_law_577 (by decide) ?_
                  refine xiadd (v := 4) S dL_law_578 (by decide) ?_
                  refine xsld (v := x4) S hX hbl hbA hS (vin rfl) h4 dL_law_579 ?_
                  refine fVi [] ((xW o u cI cZ cJ) ++ [(ao, .inl (cJ, 1, .inr (.inl (fun _ => 0))))]) (mid := (mW om 0 q cI cZ)) (As := [.int 7, .int x2, .int x3, .int x4]) (ci := 9) S (c_X9_node_15 l D cI cZ cJ om q H.size x2 x3 x4) mi_X9_node kw_7_151 rfl rfl ⟨Nat.le_of_ble_eq_true rfl, Nat.le_of_ble_eq_true rfl⟩ hP hD hK hS hA mW_0 rfl rfl hl.1 (Nat.le_of_ble_eq_true rfl) ⟨Nat.le_of_ble_eq_true rfl, Nat.le_of_ble_eq_true rfl⟩ dL_law_580 (fun H locs hz hP hD hS => ?_)
                  have hP : va_P D vwCl ((mW om 1 q cI cZ) ++ ((xW o u cI cZ cJ) ++ [(ao, .inl (cJ, 1, .inr (.inl (fun _ => 0))))])) H := hP
                  have hD : va_D A ((mW om 1 q cI cZ) ++ ((xW o u cI cZ cJ) ++ [(ao, .inl (cJ, 1, .inr (.inl (fun _ => 0))))])) := hD
                  refine lv_istore (lv' := [(6, .int 0), (5, .int 1), (4, .int 0), (3, .ref ao), (2, .ref om), (1, .ref o), (0, .ref b)]) hx hb dL_law_583 hl (by decide) rfl (fun ls hl => ?_)
                  refine lv_aload_n hx hb dL_law_585 rfl (lv_at hl 4 rfl) ?_
                  refine rdV (As := []) (ci := 9) S (c_X9_thrown_0 l D cI cZ cJ om q) mi_X9_thrown kw_7_89 ⟨rfl, rfl⟩ ⟨Nat.le_of_ble_eq_true rfl, Nat.le_of_ble_eq_true rfl⟩ (va_Pl (ws := (mW om 1 q cI cZ)) (x := ((xW o u cI cZ cJ) ++ [(ao, .inl (cJ, 1, .inr (.inl (fun _ => 0))))])) hP) hK mW_0 rfl rfl hl.1 (Nat.le_of_ble_eq_true rfl) ⟨Nat.le_of_ble_eq_true rfl, Nat.le_of_ble_eq_true rfl⟩ dL_law_586 ?_
                  refine lv_iload hx hb dL_law_589 (lv_at hl 1 rfl) ?_
                  refine lv_icmp_eq (tgt := 596) hx hb dL_law_591 (by decide) (fun _ => ?_) (fun c => absurd c (by decide))
                  refine lv_iload hx hb dL_law_596 (lv_at hl 1 rfl) ?_
                  refine lv_if_ne (tgt := 613) hx hb dL_law_598 (by decide) (fun _ => ?_) (fun c => absurd c (by decide))
                  refine lv_goto (tgt := 1519) hx hb dL_law_613 (by decide) ?_
                  exact law_tail (C := 121) (Z := 12964) S hr hlocks hX hbl (lv_sub hl [2, 6] rfl) hS (Nat.le_of_ble_eq_true rfl) (Nat.le_of_ble_eq_true rfl)
                · have ne_x1_7 : ¬ x1 = 7 := d_550
                  by_cases d_550 : x1 = 8
                  · have e_x1 : x1 = 8 := d_550
                    subst e_x1
                    by_cases d_550 : x2 < 0
                    · have hi_x2 : x2 ≤ (-1) := u_lt d_550 (by decide)
                      refine wrap (mW om 0 q cI cZ) (mid := ((xW o u cI cZ cJ) ++ [(ao, .inl (cJ, 1, .inr (.inl (fun _ => 0))))])) (As := [.ref o, .int 8, .int x2, .int x3, .int x4, .ref ao]) S (h_node_16 l D cI cZ cJ o u ao hst ra ga H.size x2 x3 x4 hi_x2) msh_L_node kw_6_20 rfl rfl ⟨Nat.le_of_ble_eq_true rfl, Nat.le_of_ble_eq_true rfl⟩ hP hD hK hS hA hB hC hl.1 (Nat.le_of_ble_eq_true rfl) ⟨Nat.le_of_ble_eq_true rfl, Nat.le_of_ble_eq_true rfl⟩ dL_law_550 (fun H locs hz hP hD hS => ?_)
                      have hP : va_P D vwCl ((mW om 0 q cI cZ) ++ ((xW o u cI cZ cJ) ++ [(ao, .inl (cJ, 1, .inr (.inl (fun _ => 0))))])) H := hP
                      have hD : va_D A ((mW om 0 q cI cZ) ++ ((xW o u cI cZ cJ) ++ [(ao, .inl (cJ, 1, .inr (.inl (fun _ => 0))))])) := hD
                      refine lv_istore (lv' := [(5, .int 1), (4, .int 0), (3, .ref ao), (2, .ref om), (1, .ref o), (0, .ref b)]) hx hb dL_law_553 hl (by decide) rfl (fun ls hl => ?_)
                      refine lv_aload_n hx hb dL_law_555 rfl (lv_at hl 3 rfl) ?_
                      refine lv_aload_n hx hb dL_law_556 rfl (lv_at hl 5 rfl) ?_
                      refine lv_iload hx hb dL_law_557 (lv_at hl 1 rfl) ?_
                      refine lv_iconst (v := 1) hx hb dL_law_559 (by decide) ?_
                      refine xiadd (v := 1) S dL_law_560 (by decide) ?_
                      refine xsld (v := 8) S hX hbl hbA hS (vin rfl) h1 dL_law_561 ?_
                      refine lv_aload_n hx hb dL_law_562 rfl (lv_at hl 5 rfl) ?_
                      refine lv_iload hx hb dL_law_563 (lv_at hl 1 rfl) ?_
                      refine lv_iconst (v := 2) hx hb dL_law_565 (by decide) ?_
                      refine xiadd (v := 2) S dL_law_566 (by decide) ?_
                      refine xsld (v := x2) S hX hbl hbA hS (vin rfl) h2 dL_law_567 ?_
                      refine lv_aload_n hx hb dL_law_568 rfl (lv_at hl 5 rfl) ?_
                      refine lv_iload hx hb dL_law_569 (lv_at hl 1 rfl) ?_
                      refine lv_iconst (v := 3) hx hb dL_law_571 (by decide) ?_
                      refine xiadd (v := 3) S dL_law_572 (by decide) ?_
                      refine xsld (v := x3) S hX hbl hbA hS (vin rfl) h3 dL_law_573 ?_
                      refine lv_aload_n hx hb dL_law_574 rfl (lv_at hl 5 rfl) ?_
                      refine lv_iload hx hb dL_law_575 (lv_at hl 1 rfl) ?_
                      refine lv_iconst (v := 4) hx hb dL_law_577 (by decide) ?_
                      refine xiadd (v := 4) S dL_law_578 (by decide) ?_
                      refine xsld (v := x4) S hX hbl hbA hS (vin rfl) h4 dL_law_579 ?_
                      refine fVi [] ((xW o u cI cZ cJ) ++ [(ao, .inl (cJ, 1, .inr (.inl (fun _ => 0))))]) (mid := (mW om 0 q cI cZ)) (As := [.int 8, .int x2, .int x3, .int x4]) (ci := 9) S (c_X9_node_16 l D cI cZ cJ om q H.size x2 x3 x4 hi_x2) mi_X9_node kw_7_151 rfl rfl ⟨Nat.le_of_ble_eq_true rfl, Nat.le_of_ble_eq_true rfl⟩ hP hD hK hS hA mW_0 rfl rfl hl.1 (Nat.le_of_ble_eq_true rfl) ⟨Nat.le_of_ble_eq_true rfl, Nat.le_of_ble_eq_true rfl⟩ dL_law_580 (fun H locs hz hP hD hS => ?_)
                      have hP : va_P D vwCl ((mW om 1 q cI cZ) ++ ((xW o u cI cZ cJ) ++ [(ao, .inl (cJ, 1, .inr (.inl (fun _ => 0))))])) H := hP
                      have hD : va_D A ((mW om 1 q cI cZ) ++ ((xW o u cI cZ cJ) ++ [(ao, .inl (cJ, 1, .inr (.inl (fun _ => 0))))])) := hD
                      refine lv_istore (lv' := [(6, .int 0), (5, .int 1), (4, .int 0), (3, .ref ao), (2, .ref om), (1, .ref o), (0, .ref b)]) hx hb dL_law_583 hl (by decide) rfl (fun ls hl => ?_)
                      refine lv_aload_n hx hb dL_law_585 rfl (lv_at hl 4 rfl) ?_
                      refine rdV (As := []) (ci := 9) S (c_X9_thrown_0 l D cI cZ cJ om q) mi_X9_thrown kw_7_89 ⟨rfl, rfl⟩ ⟨Nat.le_of_ble_eq_true rfl, Nat.le_of_ble_eq_true rfl⟩ (va_Pl (ws := (mW om 1 q cI cZ)) (x := ((xW o u cI cZ cJ) ++ [(ao, .inl (cJ, 1, .inr (.inl (fun _ => 0))))])) hP) hK mW_0 rfl rfl hl.1 (Nat.le_of_ble_eq_true rfl) ⟨Nat.le_of_ble_eq_true rfl, Nat.le_of_ble_eq_true rfl⟩ dL_law_586 ?_
                      refine lv_iload hx hb dL_law_589 (lv_at hl 1 rfl) ?_
                      refine lv_icmp_eq (tgt := 596) hx hb dL_law_591 (by decide) (fun _ => ?_) (fun c => absurd c (by decide))
                      refine lv_iload hx hb dL_law_596 (lv_at hl 1 rfl) ?_
                      refine lv_if_ne (tgt := 613) hx hb dL_law_598 (by decide) (fun _ => ?_) (fun c => absurd c (by decide))
                      refine lv_goto (tgt := 1519) hx hb dL_law_613 (by decide) ?_
                      exact law_tail (C := 121) (Z := 12964) S hr hlocks hX hbl (lv_sub hl [2, 6] rfl) hS (Nat.le_of_ble_eq_true rfl) (Nat.le_of_ble_eq_true rfl)
                    · have lo_x2 : 0 ≤ x2 := l_nlt d_550
                      by_cases d_550 : 16 ≤ x2
                      · have lo_x2 : 16 ≤ x2 := d_550
                        refine wrap (mW om 0 q cI cZ) (mid := ((xW o u cI cZ cJ) ++ [(ao, .inl (cJ, 1, .inr (.inl (fun _ => 0))))])) (As := [.ref o, .int 8, .int x2, .int x3, .int x4, .ref ao]) S (h_node_17 l D cI cZ cJ o u ao hst ra ga H.size x2 x3 x4 lo_x2) msh_L_node kw_6_20 rfl rfl ⟨Nat.le_of_ble_eq_true rfl, Nat.le_of_ble_eq_true rfl⟩ hP hD hK hS hA hB hC hl.1 (Nat.le_of_ble_eq_true rfl) ⟨Nat.le_of_ble_eq_true rfl, Nat.le_of_ble_eq_true rfl⟩ dL_law_550 (fun H locs hz hP hD hS => ?_)
                        have hP : va_P D vwCl ((mW om 0 q cI cZ) ++ ((xW o u cI cZ cJ) ++ [(ao, .inl (cJ, 1, .inr (.inl (fun _ => 0))))])) H := hP
                        have hD : va_D A ((mW om 0 q cI cZ) ++ ((xW o u cI cZ cJ) ++ [(ao, .inl (cJ, 1, .inr (.inl (fun _ => 0))))])) := hD
                        refine lv_istore (lv' := [(5, .int 1), (4, .int 0), (3, .ref ao), (2, .ref om), (1, .ref o), (0, .ref b)]) hx hb dL_law_553 hl (by decide) rfl (fun ls hl => ?_)
                        refine lv_aload_n hx hb dL_law_555 rfl (lv_at hl 3 rfl) ?_
                        refine lv_aload_n hx hb dL_law_556 rfl (lv_at hl 5 rfl) ?_
                        refine lv_iload hx hb dL_law_557 (lv_at hl 1 rfl) ?_
                        refine lv_iconst (v := 1) hx hb dL_law_559 (by decide) ?_
                        refine xiadd (v := 1) S dL_law_560 (by decide) ?_
                        refine xsld (v := 8) S hX hbl hbA hS (vin rfl) h1 dL_law_561 ?_
                        refine lv_aload_n hx hb dL_law_562 rfl (lv_at hl 5 rfl) ?_
                        refine lv_iload hx hb dL_law_563 (lv_at hl 1 rfl) ?_
                        refine lv_iconst (v := 2) hx hb dL_law_565 (by decide) ?_
                        refine xiadd (v := 2) S dL_law_566 (by decide) ?_
                        refine xsld (v := x2) S hX hbl hbA hS (vin rfl) h2 dL_law_567 ?_
                        refine lv_aload_n hx hb dL_law_568 rfl (lv_at hl 5 rfl) ?_
                        refine lv_iload hx hb dL_law_569 (lv_at hl 1 rfl) ?_
                        refine lv_iconst (v := 3) hx hb dL_law_571 (by decide) ?_
                        refine xiadd (v := 3) S dL_law_572 (by decide) ?_
                        refine xsld (v := x3) S hX hbl hbA hS (vin rfl) h3 dL_law_573 ?_
                        refine lv_aload_n hx hb dL_law_574 rfl (lv_at hl 5 rfl) ?_
                        refine lv_iload hx hb dL_law_575 (lv_at hl 1 rfl) ?_
                        refine lv_iconst (v := 4) hx hb dL_law_577 (by decide) ?_
                        refine xiadd (v := 4) S dL_law_578 (by decide) ?_
                        refine xsld (v := x4) S hX hbl hbA hS (vin rfl) h4 dL_law_579 ?_
                        refine fVi [] ((xW o u cI cZ cJ) ++ [(ao, .inl (cJ, 1, .inr (.inl (fun _ => 0))))]) (mid := (mW om 0 q cI cZ)) (As := [.int 8, .int x2, .int x3, .int x4]) (ci := 9) S (c_X9_node_17 l D cI cZ cJ om q H.size x2 x3 x4 lo_x2) mi_X9_node kw_7_151 rfl rfl ⟨Nat.le_of_ble_eq_true rfl, Nat.le_of_ble_eq_true rfl⟩ hP hD hK hS hA mW_0 rfl rfl hl.1 (Nat.le_of_ble_eq_true rfl) ⟨Nat.le_of_ble_eq_true rfl, Nat.le_of_ble_eq_true rfl⟩ dL_law_580 (fun H locs hz hP hD hS => ?_)
                        have hP : va_P D vwCl ((mW om 1 q cI cZ) ++ ((xW o u cI cZ cJ) ++ [(ao, .inl (cJ, 1, .inr (.inl (fun _ => 0))))])) H := hP
                        have hD : va_D A ((mW om 1 q cI cZ) ++ ((xW o u cI cZ cJ) ++ [(ao, .inl (cJ, 1, .inr (.inl (fun _ => 0))))])) := hD
                        refine lv_istore (lv' := [(6, .int 0), (5, .int 1), (4, .int 0), (3, .ref ao), (2, .ref om), (1, .ref o), (0, .ref b)]) hx hb dL_law_583 hl (by decide) rfl (fun ls hl => ?_)
                        refine lv_aload_n hx hb dL_law_585 rfl (lv_at hl 4 rfl) ?_
                        refine rdV (As := []) (ci := 9) S (c_X9_thrown_0 l D cI cZ cJ om q) mi_X9_thrown kw_7_89 ⟨rfl, rfl⟩ ⟨Nat.le_of_ble_eq_true rfl, Nat.le_of_ble_eq_true rfl⟩ (va_Pl (ws := (mW om 1 q cI cZ)) (x := ((xW o u cI cZ cJ) ++ [(ao, .inl (cJ, 1, .inr (.inl (fun _ => 0))))])) hP) hK mW_0 rfl rfl hl.1 (Nat.le_of_ble_eq_true rfl) ⟨Nat.le_of_ble_eq_true rfl, Nat.le_of_ble_eq_true rfl⟩ dL_law_586 ?_
                        refine lv_iload hx hb dL_law_589 (lv_at hl 1 rfl) ?_
                        refine lv_icmp_eq (tgt := 596) hx hb dL_law_591 (by decide) (fun _ => ?_) (fun c => absurd c (by decide))
                        refine lv_iload hx hb dL_law_596 (lv_at hl 1 rfl) ?_
                        refine lv_if_ne (tgt := 613) hx hb dL_law_598 (by decide) (fun _ => ?_) (fun c => absurd c (by decide))
                        refine lv_goto (tgt := 1519) hx hb dL_law_613 (by decide) ?_
                        exact law_tail (C := 121) (Z := 12964) S hr hlocks hX hbl (lv_sub hl [2, 6] rfl) hS (Nat.le_of_ble_eq_true rfl) (Nat.le_of_ble_eq_true rfl)
                      · have hi_x2 : x2 ≤ 15 := u_nge d_550 (by decide)
                        by_cases d_550 : x3 = (-1)
                        · have e_x3 : x3 = (-1) := d_550
                          subst e_x3
                          by_cases d_550 : x4 = 0
                          · have e_x4 : x4 = 0 := d_550
                            subst e_x4
                            refine wrap (mW om 0 q cI cZ) (mid := ((xW o u cI cZ cJ) ++ [(ao, .inl (cJ, 1, .inr (.inl (fun _ => 0))))])) (As := [.ref o, .int 8, .int x2, .int (-1), .int 0, .ref ao]) S (h_node_18 l D cI cZ cJ o u ao hst ra ga H.size x2 lo_x2 hi_x2) msh_L_node kw_6_20 rfl rfl ⟨Nat.le_of_ble_eq_true rfl, Nat.le_of_ble_eq_true rfl⟩ hP hD hK hS hA hB hC hl.1 (Nat.le_of_ble_eq_true rfl) ⟨Nat.le_of_ble_eq_true rfl, Nat.le_of_ble_eq_true rfl⟩ dL_law_550 (fun H locs hz hP hD hS => ?_)
                            have hP : va_P D vwCl ((mW om 0 q cI cZ) ++ (((((((((xW o u cI cZ cJ).set 13 ((u 12), .inr (5, ([.int 0, .ref (u 13), .ref (u 14), .ref (u 15), .ref (u 16), .ref (u 17), .ref (u 18)].set 0 (.int 1))))).set 14 ((u 13), .inl (cI, 110, .inl (upd (fun _ => 0) (0 : Int32).toNatClampNeg 8)))).set 15 ((u 14), .inl (cI, 110, .inl (upd (fun _ => 0) (0 : Int32).toNatClampNeg x2)))).set 16 ((u 15), .inl (cI, 110, .inl (upd (fun _ => 0) (0 : Int32).toNatClampNeg (-1))))).set 17 ((u 16), .inl (cI, 110, .inl (upd (fun _ => 0) (0 : Int32).toNatClampNeg 0)))).set 18 ((u 17), .inl (cI, 110, .inl (upd (fun _ => 0) (0 : Int32).toNatClampNeg (-1))))).set 19 ((u 18), .inl (cI, 110, .inl (upd (fun _ => 0) (0 : Int32).toNatClampNeg (-1))))) ++ [(ao, .inl (cJ, 1, .inr (.inl (vp_updL (fun _ => 0) (0 : Int32).toNatClampNeg 0))))])) H := hP
                            have hD : va_D A ((mW om 0 q cI cZ) ++ (((((((((xW o u cI cZ cJ).set 13 ((u 12), .inr (5, ([.int 0, .ref (u 13), .ref (u 14), .ref (u 15), .ref (u 16), .ref (u 17), .ref (u 18)].set 0 (.int 1))))).set 14 ((u 13), .inl (cI, 110, .inl (upd (fun _ => 0) (0 : Int32).toNatClampNeg 8)))).set 15 ((u 14), .inl (cI, 110, .inl (upd (fun _ => 0) (0 : Int32).toNatClampNeg x2)))).set 16 ((u 15), .inl (cI, 110, .inl (upd (fun _ => 0) (0 : Int32).toNatClampNeg (-1))))).set 17 ((u 16), .inl (cI, 110, .inl (upd (fun _ => 0) (0 : Int32).toNatClampNeg 0)))).set 18 ((u 17), .inl (cI, 110, .inl (upd (fun _ => 0) (0 : Int32).toNatClampNeg (-1))))).set 19 ((u 18), .inl (cI, 110, .inl (upd (fun _ => 0) (0 : Int32).toNatClampNeg (-1))))) ++ [(ao, .inl (cJ, 1, .inr (.inl (vp_updL (fun _ => 0) (0 : Int32).toNatClampNeg 0))))])) := hD
                            refine lv_istore (lv' := [(5, .int 0), (4, .int 0), (3, .ref ao), (2, .ref om), (1, .ref o), (0, .ref b)]) hx hb dL_law_553 hl (by decide) rfl (fun ls hl => ?_)
                            refine lv_aload_n hx hb dL_law_555 rfl (lv_at hl 3 rfl) ?_
                            refine lv_aload_n hx hb dL_law_556 rfl (lv_at hl 5 rfl) ?_
                            refine lv_iload hx hb dL_law_557 (lv_at hl 1 rfl) ?_
                            refine lv_iconst (v := 1) hx hb dL_law_559 (by decide) ?_
                            refine xiadd (v := 1) S dL_law_560 (by decide) ?_
                            refine xsld (v := 8) S hX hbl hbA hS (vin rfl) h1 dL_law_561 ?_
                            refine lv_aload_n hx hb dL_law_562 rfl (lv_at hl 5 rfl) ?_
                            refine lv_iload hx hb dL_law_563 (lv_at hl 1 rfl) ?_
                            refine lv_iconst (v := 2) hx hb dL_law_565 (by decide) ?_
                            refine xiadd (v := 2) S dL_law_566 (by decide) ?_
                            refine xsld (v := x2) S hX hbl hbA hS (vin rfl) h2 dL_law_567 ?_
                            refine lv_aload_n hx hb dL_law_568 rfl (lv_at hl 5 rfl) ?_
                            refine lv_iload hx hb dL_law_569 (lv_at hl 1 rfl) ?_
                            refine lv_iconst (v := 3) hx hb dL_law_571 (by decide) ?_
                            refine xiadd (v := 3) S dL_law_572 (by decide) ?_
                            refine xsld (v := (-1)) S hX hbl hbA hS (vin rfl) h3 dL_law_573 ?_
                            refine lv_aload_n hx hb dL_law_574 rfl (lv_at hl 5 rfl) ?_
                            refine lv_iload hx hb dL_law_575 (lv_at hl 1 rfl) ?_
                            refine lv_iconst (v := 4) hx hb dL_law_577 (by decide) ?_
                            refine xiadd (v := 4) S dL_law_578 (by decide) ?_
                            refine xsld (v := 0) S hX hbl hbA hS (vin rfl) h4 dL_law_579 ?_
                            refine fVi [] (((((((((xW o u cI cZ cJ).set 13 ((u 12), .inr (5, ([.int 0, .ref (u 13), .ref (u 14), .ref (u 15), .ref (u 16), .ref (u 17), .ref (u 18)].set 0 (.int 1))))).set 14 ((u 13), .inl (cI, 110, .inl (upd (fun _ => 0) (0 : Int32).toNatClampNeg 8)))).set 15 ((u 14), .inl (cI, 110, .inl (upd (fun _ => 0) (0 : Int32).toNatClampNeg x2)))).set 16 ((u 15), .inl (cI, 110, .inl (upd (fun _ => 0) (0 : Int32).toNatClampNeg (-1))))).set 17 ((u 16), .inl (cI, 110, .inl (upd (fun _ => 0) (0 : Int32).toNatClampNeg 0)))).set 18 ((u 17), .inl (cI, 110, .inl (upd (fun _ => 0) (0 : Int32).toNatClampNeg (-1))))).set 19 ((u 18), .inl (cI, 110, .inl (upd (fun _ => 0) (0 : Int32).toNatClampNeg (-1))))) ++ [(ao, .inl (cJ, 1, .inr (.inl (vp_updL (fun _ => 0) (0 : Int32).toNatClampNeg 0))))]) (mid := (mW om 0 q cI cZ)) (As := [.int 8, .int x2, .int (-1), .int 0]) (ci := 9) S (c_X9_node_18 l D cI cZ cJ om q H.size x2 lo_x2 hi_x2) mi_X9_node kw_7_151 rfl rfl ⟨Nat.le_of_ble_eq_true rfl, Nat.le_of_ble_eq_true rfl⟩ hP hD hK hS hA mW_0 rfl rfl hl.1 (Nat.le_of_ble_eq_true rfl) ⟨Nat.le_of_ble_eq_true rfl, Nat.le_of_ble_eq_true rfl⟩ dL_law_580 (fun H locs hz hP hD hS => ?_)
                            have hP : va_P D vwCl (((((((((mW om 0 q cI cZ).set 0 (om, .inr (9, ((mF 0 q).set 13 (.int 1))))).set 12 ((q 11), .inl (cI, 110, .inl (upd (fun _ => 0) (0 : Int32).toNatClampNeg 8)))).set 13 ((q 12), .inl (cI, 110, .inl (upd (fun _ => 0) (0 : Int32).toNatClampNeg x2)))).set 14 ((q 13), .inl (cI, 110, .inl (upd (fun _ => 0) (0 : Int32).toNatClampNeg (-1))))).set 15 ((q 14), .inl (cI, 110, .inl (upd (fun _ => 0) (0 : Int32).toNatClampNeg 0)))).set 16 ((q 15), .inl (cI, 110, .inl (upd (fun _ => 0) (0 : Int32).toNatClampNeg (-1))))).set 17 ((q 16), .inl (cI, 110, .inl (upd (fun _ => 0) (0 : Int32).toNatClampNeg (-1))))) ++ (((((((((xW o u cI cZ cJ).set 13 ((u 12), .inr (5, ([.int 0, .ref (u 13), .ref (u 14), .ref (u 15), .ref (u 16), .ref (u 17), .ref (u 18)].set 0 (.int 1))))).set 14 ((u 13), .inl (cI, 110, .inl (upd (fun _ => 0) (0 : Int32).toNatClampNeg 8)))).set 15 ((u 14), .inl (cI, 110, .inl (upd (fun _ => 0) (0 : Int32).toNatClampNeg x2)))).set 16 ((u 15), .inl (cI, 110, .inl (upd (fun _ => 0) (0 : Int32).toNatClampNeg (-1))))).set 17 ((u 16), .inl (cI, 110, .inl (upd (fun _ => 0) (0 : Int32).toNatClampNeg 0)))).set 18 ((u 17), .inl (cI, 110, .inl (upd (fun _ => 0) (0 : Int32).toNatClampNeg (-1))))).set 19 ((u 18), .inl (cI, 110, .inl (upd (fun _ => 0) (0 : Int32).toNatClampNeg (-1))))) ++ [(ao, .inl (cJ, 1, .inr (.inl (vp_updL (fun _ => 0) (0 : Int32).toNatClampNeg 0))))])) H := hP
                            have hD : va_D A (((((((((mW om 0 q cI cZ).set 0 (om, .inr (9, ((mF 0 q).set 13 (.int 1))))).set 12 ((q 11), .inl (cI, 110, .inl (upd (fun _ => 0) (0 : Int32).toNatClampNeg 8)))).set 13 ((q 12), .inl (cI, 110, .inl (upd (fun _ => 0) (0 : Int32).toNatClampNeg x2)))).set 14 ((q 13), .inl (cI, 110, .inl (upd (fun _ => 0) (0 : Int32).toNatClampNeg (-1))))).set 15 ((q 14), .inl (cI, 110, .inl (upd (fun _ => 0) (0 : Int32).toNatClampNeg 0)))).set 16 ((q 15), .inl (cI, 110, .inl (upd (fun _ => 0) (0 : Int32).toNatClampNeg (-1))))).set 17 ((q 16), .inl (cI, 110, .inl (upd (fun _ => 0) (0 : Int32).toNatClampNeg (-1))))) ++ (((((((((xW o u cI cZ cJ).set 13 ((u 12), .inr (5, ([.int 0, .ref (u 13), .ref (u 14), .ref (u 15), .ref (u 16), .ref (u 17), .ref (u 18)].set 0 (.int 1))))).set 14 ((u 13), .inl (cI, 110, .inl (upd (fun _ => 0) (0 : Int32).toNatClampNeg 8)))).set 15 ((u 14), .inl (cI, 110, .inl (upd (fun _ => 0) (0 : Int32).toNatClampNeg x2)))).set 16 ((u 15), .inl (cI, 110, .inl (upd (fun _ => 0) (0 : Int32).toNatClampNeg (-1))))).set 17 ((u 16), .inl (cI, 110, .inl (upd (fun _ => 0) (0 : Int32).toNatClampNeg 0)))).set 18 ((u 17), .inl (cI, 110, .inl (upd (fun _ => 0) (0 : Int32).toNatClampNeg (-1))))).set 19 ((u 18), .inl (cI, 110, .inl (upd (fun _ => 0) (0 : Int32).toNatClampNeg (-1))))) ++ [(ao, .inl (cJ, 1, .inr (.inl (vp_updL (fun _ => 0) (0 : Int32).toNatClampNeg 0))))])) := hD
                            refine lv_istore (lv' := [(6, .int 0), (5, .int 0), (4, .int 0), (3, .ref ao), (2, .ref om), (1, .ref o), (0, .ref b)]) hx hb dL_law_583 hl (by decide) rfl (fun ls hl => ?_)
                            refine lv_aload_n hx hb dL_law_585 rfl (lv_at hl 4 rfl) ?_
                            refine rdV (As := []) (ci := 9) S (c_X9_thrown_11 l D cI cZ cJ om q x2 lo_x2 hi_x2) mi_X9_thrown kw_7_89 ⟨rfl, rfl⟩ ⟨Nat.le_of_ble_eq_true rfl, Nat.le_of_ble_eq_true rfl⟩ (va_Pl (ws := ((((((((mW om 0 q cI cZ).set 0 (om, .inr (9, ((mF 0 q).set 13 (.int 1))))).set 12 ((q 11), .inl (cI, 110, .inl (upd (fun _ => 0) (0 : Int32).toNatClampNeg 8)))).set 13 ((q 12), .inl (cI, 110, .inl (upd (fun _ => 0) (0 : Int32).toNatClampNeg x2)))).set 14 ((q 13), .inl (cI, 110, .inl (upd (fun _ => 0) (0 : Int32).toNatClampNeg (-1))))).set 15 ((q 14), .inl (cI, 110, .inl (upd (fun _ => 0) (0 : Int32).toNatClampNeg 0)))).set 16 ((q 15), .inl (cI, 110, .inl (upd (fun _ => 0) (0 : Int32).toNatClampNeg (-1))))).set 17 ((q 16), .inl (cI, 110, .inl (upd (fun _ => 0) (0 : Int32).toNatClampNeg (-1)))))) (x := (((((((((xW o u cI cZ cJ).set 13 ((u 12), .inr (5, ([.int 0, .ref (u 13), .ref (u 14), .ref (u 15), .ref (u 16), .ref (u 17), .ref (u 18)].set 0 (.int 1))))).set 14 ((u 13), .inl (cI, 110, .inl (upd (fun _ => 0) (0 : Int32).toNatClampNeg 8)))).set 15 ((u 14), .inl (cI, 110, .inl (upd (fun _ => 0) (0 : Int32).toNatClampNeg x2)))).set 16 ((u 15), .inl (cI, 110, .inl (upd (fun _ => 0) (0 : Int32).toNatClampNeg (-1))))).set 17 ((u 16), .inl (cI, 110, .inl (upd (fun _ => 0) (0 : Int32).toNatClampNeg 0)))).set 18 ((u 17), .inl (cI, 110, .inl (upd (fun _ => 0) (0 : Int32).toNatClampNeg (-1))))).set 19 ((u 18), .inl (cI, 110, .inl (upd (fun _ => 0) (0 : Int32).toNatClampNeg (-1))))) ++ [(ao, .inl (cJ, 1, .inr (.inl (vp_updL (fun _ => 0) (0 : Int32).toNatClampNeg 0))))])) hP) hK (k := 0) rfl rfl rfl hl.1 (Nat.le_of_ble_eq_true rfl) ⟨Nat.le_of_ble_eq_true rfl, Nat.le_of_ble_eq_true rfl⟩ dL_law_586 ?_
                            refine lv_iload hx hb dL_law_589 (lv_at hl 1 rfl) ?_
                            refine lv_icmp_eq (tgt := 596) hx hb dL_law_591 (by decide) (fun _ => ?_) (fun c => absurd c (by decide))
                            refine lv_iload hx hb dL_law_596 (lv_at hl 1 rfl) ?_
                            refine lv_if_ne (tgt := 613) hx hb dL_law_598 (by decide) (fun c => absurd c (by decide)) (fun _ => ?_)
                            refine lv_aload_n hx hb dL_law_601 rfl (lv_at hl 3 rfl) ?_
                            refine lv_iconst (v := 0) hx hb dL_law_602 (by decide) ?_
                            refine xlald (t0 := 2) (v := 0) S hK hP (q0 := 119) rfl rfl (vin rfl) rfl dL_law_603 ?_
                            refine lv_iload hx hb dL_law_604 (lv_at hl 0 rfl) ?_
                            refine lv_i2l (v := 0) hx hb dL_law_606 (by decide) ?_
                            refine xlcmp (v := 0) S dL_law_607 (by decide) ?_
                            refine lv_if_eq (tgt := 613) hx hb dL_law_608 (by decide) (fun _ => ?_) (fun c => absurd c (by decide))
                            refine lv_goto (tgt := 1519) hx hb dL_law_613 (by decide) ?_
                            exact law_tail (C := 120) (Z := 12958) S hr hlocks hX hbl (lv_sub hl [2, 6] rfl) hS (Nat.le_of_ble_eq_true rfl) (Nat.le_of_ble_eq_true rfl)
                          · have ne_x4_0 : ¬ x4 = 0 := d_550
                            refine wrap (mW om 0 q cI cZ) (mid := ((xW o u cI cZ cJ) ++ [(ao, .inl (cJ, 1, .inr (.inl (fun _ => 0))))])) (As := [.ref o, .int 8, .int x2, .int (-1), .int x4, .ref ao]) S (h_node_19 l D cI cZ cJ o u ao hst ra ga H.size x2 x4 lo_x2 hi_x2 ne_x4_0) msh_L_node kw_6_20 rfl rfl ⟨Nat.le_of_ble_eq_true rfl, Nat.le_of_ble_eq_true rfl⟩ hP hD hK hS hA hB hC hl.1 (Nat.le_of_ble_eq_true rfl) ⟨Nat.le_of_ble_eq_true rfl, Nat.le_of_ble_eq_true rfl⟩ dL_law_550 (fun H locs hz hP hD hS => ?_)
                            have hP : va_P D vwCl ((mW om 0 q cI cZ) ++ ((xW o u cI cZ cJ) ++ [(ao, .inl (cJ, 1, .inr (.inl (fun _ => 0))))])) H := hP
                            have hD : va_D A ((mW om 0 q cI cZ) ++ ((xW o u cI cZ cJ) ++ [(ao, .inl (cJ, 1, .inr (.inl (fun _ => 0))))])) := hD
                            refine lv_istore (lv' := [(5, .int 1), (4, .int 0), (3, .ref ao), (2, .ref om), (1, .ref o), (0, .ref b)]) hx hb dL_law_553 hl (by decide) rfl (fun ls hl => ?_)
                            refine lv_aload_n hx hb dL_law_555 rfl (lv_at hl 3 rfl) ?_
                            refine lv_aload_n hx hb dL_law_556 rfl (lv_at hl 5 rfl) ?_
                            refine lv_iload hx hb dL_law_557 (lv_at hl 1 rfl) ?_
                            refine lv_iconst (v := 1) hx hb dL_law_559 (by decide) ?_
                            refine xiadd (v := 1) S dL_law_560 (by decide) ?_
                            refine xsld (v := 8) S hX hbl hbA hS (vin rfl) h1 dL_law_561 ?_
                            refine lv_aload_n hx hb dL_law_562 rfl (lv_at hl 5 rfl) ?_
                            refine lv_iload hx hb dL_law_563 (lv_at hl 1 rfl) ?_
                            refine lv_iconst (v := 2) hx hb dL_law_565 (by decide) ?_
                            refine xiadd (v := 2) S dL_law_566 (by decide) ?_
                            refine xsld (v := x2) S hX hbl hbA hS (vin rfl) h2 dL_law_567 ?_
                            refine lv_aload_n hx hb dL_law_568 rfl (lv_at hl 5 rfl) ?_
                            refine lv_iload hx hb dL_law_569 (lv_at hl 1 rfl) ?_
                            refine lv_iconst (v := 3) hx hb dL_law_571 (by decide) ?_
                            refine xiadd (v := 3) S dL_law_572 (by decide) ?_
                            refine xsld (v := (-1)) S hX hbl hbA hS (vin rfl) h3 dL_law_573 ?_
                            refine lv_aload_n hx hb dL_law_574 rfl (lv_at hl 5 rfl) ?_
                            refine lv_iload hx hb dL_law_575 (lv_at hl 1 rfl) ?_
                            refine lv_iconst (v := 4) hx hb dL_law_577 (by decide) ?_
                            refine xiadd (v := 4) S dL_law_578 (by decide) ?_
                            refine xsld (v := x4) S hX hbl hbA hS (vin rfl) h4 dL_law_579 ?_
                            refine fVi [] ((xW o u cI cZ cJ) ++ [(ao, .inl (cJ, 1, .inr (.inl (fun _ => 0))))]) (mid := (mW om 0 q cI cZ)) (As := [.int 8, .int x2, .int (-1), .int x4]) (ci := 9) S (c_X9_node_19 l D cI cZ cJ om q H.size x2 x4 lo_x2 hi_x2 ne_x4_0) mi_X9_node kw_7_151 rfl rfl ⟨Nat.le_of_ble_eq_true rfl, Nat.le_of_ble_eq_true rfl⟩ hP hD hK hS hA mW_0 rfl rfl hl.1 (Nat.le_of_ble_eq_true rfl) ⟨Nat.le_of_ble_eq_true rfl, Nat.le_of_ble_eq_true rfl⟩ dL_law_580 (fun H locs hz hP hD hS => ?_)
                            have hP : va_P D vwCl ((mW om 1 q cI cZ) ++ ((xW o u cI cZ cJ) ++ [(ao, .inl (cJ, 1, .inr (.inl (fun _ => 0))))])) H := hP
                            have hD : va_D A ((mW om 1 q cI cZ) ++ ((xW o u cI cZ cJ) ++ [(ao, .inl (cJ, 1, .inr (.inl (fun _ => 0))))])) := hD
                            refine lv_istore (lv' := [(6, .int 0), (5, .int 1), (4, .int 0), (3, .ref ao), (2, .ref om), (1, .ref o), (0, .ref b)]) hx hb dL_law_583 hl (by decide) rfl (fun ls hl => ?_)
                            refine lv_aload_n hx hb dL_law_585 rfl (lv_at hl 4 rfl) ?_
                            refine rdV (As := []) (ci := 9) S (c_X9_thrown_0 l D cI cZ cJ om q) mi_X9_thrown kw_7_89 ⟨rfl, rfl⟩ ⟨Nat.le_of_ble_eq_true rfl, Nat.le_of_ble_eq_true rfl⟩ (va_Pl (ws := (mW om 1 q cI cZ)) (x := ((xW o u cI cZ cJ) ++ [(ao, .inl (cJ, 1, .inr (.inl (fun _ => 0))))])) hP) hK mW_0 rfl rfl hl.1 (Nat.le_of_ble_eq_true rfl) ⟨Nat.le_of_ble_eq_true rfl, Nat.le_of_ble_eq_true rfl⟩ dL_law_586 ?_
                            refine lv_iload hx hb dL_law_589 (lv_at hl 1 rfl) ?_
                            refine lv_icmp_eq (tgt := 596) hx hb dL_law_591 (by decide) (fun _ => ?_) (fun c => absurd c (by decide))
                            refine lv_iload hx hb dL_law_596 (lv_at hl 1 rfl) ?_
                            refine lv_if_ne (tgt := 613) hx hb dL_law_598 (by decide) (fun _ => ?_) (fun c => absurd c (by decide))
                            refine lv_goto (tgt := 1519) hx hb dL_law_613 (by decide) ?_
                            exact law_tail (C := 121) (Z := 12964) S hr hlocks hX hbl (lv_sub hl [2, 6] rfl) hS (Nat.le_of_ble_eq_true rfl) (Nat.le_of_ble_eq_true rfl)
                        · have ne_x3_m1 : ¬ x3 = (-1) := d_550
                          refine wrap (mW om 0 q cI cZ) (mid := ((xW o u cI cZ cJ) ++ [(ao, .inl (cJ, 1, .inr (.inl (fun _ => 0))))])) (As := [.ref o, .int 8, .int x2, .int x3, .int x4, .ref ao]) S (h_node_20 l D cI cZ cJ o u ao hst ra ga H.size x2 x3 x4 lo_x2 hi_x2 ne_x3_m1) msh_L_node kw_6_20 rfl rfl ⟨Nat.le_of_ble_eq_true rfl, Nat.le_of_ble_eq_true rfl⟩ hP hD hK hS hA hB hC hl.1 (Nat.le_of_ble_eq_true rfl) ⟨Nat.le_of_ble_eq_true rfl, Nat.le_of_ble_eq_true rfl⟩ dL_law_550 (fun H locs hz hP hD hS => ?_)
                          have hP : va_P D vwCl ((mW om 0 q cI cZ) ++ ((xW o u cI cZ cJ) ++ [(ao, .inl (cJ, 1, .inr (.inl (fun _ => 0))))])) H := hP
                          have hD : va_D A ((mW om 0 q cI cZ) ++ ((xW o u cI cZ cJ) ++ [(ao, .inl (cJ, 1, .inr (.inl (fun _ => 0))))])) := hD
                          refine lv_istore (lv' := [(5, .int 1), (4, .int 0), (3, .ref ao), (2, .ref om), (1, .ref o), (0, .ref b)]) hx hb dL_law_553 hl (by decide) rfl (fun ls hl => ?_)
                          refine lv_aload_n hx hb dL_law_555 rfl (lv_at hl 3 rfl) ?_
                          refine lv_aload_n hx hb dL_law_556 rfl (lv_at hl 5 rfl) ?_
                          refine lv_iload hx hb dL_law_557 (lv_at hl 1 rfl) ?_
                          refine lv_iconst (v := 1) hx hb dL_law_559 (by decide) ?_
                          refine xiadd (v := 1) S dL_law_560 (by decide) ?_
                          refine xsld (v := 8) S hX hbl hbA hS (vin rfl) h1 dL_law_561 ?_
                          refine lv_aload_n hx hb dL_law_562 rfl (lv_at hl 5 rfl) ?_
                          refine lv_iload hx hb dL_law_563 (lv_at hl 1 rfl) ?_
                          refine lv_iconst (v := 2) hx hb dL_law_565 (by decide) ?_
                          refine xiadd (v := 2) S dL_law_566 (by decide) ?_
                          refine xsld (v := x2) S hX hbl hbA hS (vin rfl) h2 dL_law_567 ?_
                          refine lv_aload_n hx hb dL_law_568 rfl (lv_at hl 5 rfl) ?_
                          refine lv_iload hx hb dL_law_569 (lv_at hl 1 rfl) ?_
                          refine lv_iconst (v := 3) hx hb dL_law_571 (by decide) ?_
                          refine xiadd (v := 3) S dL_law_572 (by decide) ?_
                          refine xsld (v := x3) S hX hbl hbA hS (vin rfl) h3 dL_law_573 ?_
                          refine lv_aload_n hx hb dL_law_574 rfl (lv_at hl 5 rfl) ?_
                          refine lv_iload hx hb dL_law_575 (lv_at hl 1 rfl) ?_
                          refine lv_iconst (v := 4) hx hb dL_law_577 (by decide) ?_
                          refine xiadd (v := 4) S dL_law_578 (by decide) ?_
                          refine xsld (v := x4) S hX hbl hbA hS (vin rfl) h4 dL_law_579 ?_
                          refine fVi [] ((xW o u cI cZ cJ) ++ [(ao, .inl (cJ, 1, .inr (.inl (fun _ => 0))))]) (mid := (mW om 0 q cI cZ)) (As := [.int 8, .int x2, .int x3, .int x4]) (ci := 9) S (c_X9_node_20 l D cI cZ cJ om q H.size x2 x3 x4 lo_x2 hi_x2 ne_x3_m1) mi_X9_node kw_7_151 rfl rfl ⟨Nat.le_of_ble_eq_true rfl, Nat.le_of_ble_eq_true rfl⟩ hP hD hK hS hA mW_0 rfl rfl hl.1 (Nat.le_of_ble_eq_true rfl) ⟨Nat.le_of_ble_eq_true rfl, Nat.le_of_ble_eq_true rfl⟩ dL_law_580 (fun H locs hz hP hD hS => ?_)
                          have hP : va_P D vwCl ((mW om 1 q cI cZ) ++ ((xW o u cI cZ cJ) ++ [(ao, .inl (cJ, 1, .inr (.inl (fun _ => 0))))])) H := hP
                          have hD : va_D A ((mW om 1 q cI cZ) ++ ((xW o u cI cZ cJ) ++ [(ao, .inl (cJ, 1, .inr (.inl (fun _ => 0))))])) := hD
                          refine lv_istore (lv' := [(6, .int 0), (5, .int 1), (4, .int 0), (3, .ref ao), (2, .ref om), (1, .ref o), (0, .ref b)]) hx hb dL_law_583 hl (by decide) rfl (fun ls hl => ?_)
                          refine lv_aload_n hx hb dL_law_585 rfl (lv_at hl 4 rfl) ?_
                          refine rdV (As := []) (ci := 9) S (c_X9_thrown_0 l D cI cZ cJ om q) mi_X9_thrown kw_7_89 ⟨rfl, rfl⟩ ⟨Nat.le_of_ble_eq_true rfl, Nat.le_of_ble_eq_true rfl⟩ (va_Pl (ws := (mW om 1 q cI cZ)) (x := ((xW o u cI cZ cJ) ++ [(ao, .inl (cJ, 1, .inr (.inl (fun _ => 0))))])) hP) hK mW_0 rfl rfl hl.1 (Nat.le_of_ble_eq_true rfl) ⟨Nat.le_of_ble_eq_true rfl, Nat.le_of_ble_eq_true rfl⟩ dL_law_586 ?_
                          refine lv_iload hx hb dL_law_589 (lv_at hl 1 rfl) ?_
                          refine lv_icmp_eq (tgt := 596) hx hb dL_law_591 (by decide) (fun _ => ?_) (fun c => absurd c (by decide))
                          refine lv_iload hx hb dL_law_596 (lv_at hl 1 rfl) ?_
                          refine lv_if_ne (tgt := 613) hx hb dL_law_598 (by decide) (fun _ => ?_) (fun c => absurd c (by decide))
                          refine lv_goto (tgt := 1519) hx hb dL_law_613 (by decide) ?_
                          exact law_tail (C := 121) (Z := 12964) S hr hlocks hX hbl (lv_sub hl [2, 6] rfl) hS (Nat.le_of_ble_eq_true rfl) (Nat.le_of_ble_eq_true rfl)
                  · have ne_x1_8 : ¬ x1 = 8 := d_550
                    by_cases d_550 : x1 = 9
                    · have e_x1 : x1 = 9 := d_550
                      subst e_x1
                      refine wrap (mW om 0 q cI cZ) (mid := ((xW o u cI cZ cJ) ++ [(ao, .inl (cJ, 1, .inr (.inl (fun _ => 0))))])) (As := [.ref o, .int 9, .int x2, .int x3, .int x4, .ref ao]) S (h_node_21 l D cI cZ cJ o u ao hst ra ga H.size x2 x3 x4) msh_L_node kw_6_20 rfl rfl ⟨Nat.le_of_ble_eq_true rfl, Nat.le_of_ble_eq_true rfl⟩ hP hD hK hS hA hB hC hl.1 (Nat.le_of_ble_eq_true rfl) ⟨Nat.le_of_ble_eq_true rfl, Nat.le_of_ble_eq_true rfl⟩ dL_law_550 (fun H locs hz hP hD hS => ?_)
                      have hP : va_P D vwCl ((mW om 0 q cI cZ) ++ ((xW o u cI cZ cJ) ++ [(ao, .inl (cJ, 1, .inr (.inl (fun _ => 0))))])) H := hP
                      have hD : va_D A ((mW om 0 q cI cZ) ++ ((xW o u cI cZ cJ) ++ [(ao, .inl (cJ, 1, .inr (.inl (fun _ => 0))))])) := hD
                      refine lv_istore (lv' := [(5, .int 1), (4, .int 0), (3, .ref ao), (2, .ref om), (1, .ref o), (0, .ref b)]) hx hb dL_law_553 hl (by decide) rfl (fun ls hl => ?_)
                      refine lv_aload_n hx hb dL_law_555 rfl (lv_at hl 3 rfl) ?_
                      refine lv_aload_n hx hb dL_law_556 rfl (lv_at hl 5 rfl) ?_
                      refine lv_iload hx hb dL_law_557 (lv_at hl 1 rfl) ?_
                      refine lv_iconst (v := 1) hx hb dL_law_559 (by decide) ?_
                      refine xiadd (v := 1) S dL_law_560 (by decide) ?_
                      refine xsld (v := 9) S hX hbl hbA hS (vin rfl) h1 dL_law_561 ?_
                      refine lv_aload_n hx hb dL_law_562 rfl (lv_at hl 5 rfl) ?_
                      refine lv_iload hx hb dL_law_563 (lv_at hl 1 rfl) ?_
                      refine lv_iconst (v := 2) hx hb dL_law_565 (by decide) ?_
                      refine xiadd (v := 2) S dL_law_566 (by decide) ?_
                      refine xsld (v := x2) S hX hbl hbA hS (vin rfl) h2 dL_law_567 ?_
                      refine lv_aload_n hx hb dL_law_568 rfl (lv_at hl 5 rfl) ?_
                      refine lv_iload hx hb dL_law_569 (lv_at hl 1 rfl) ?_
                      refine lv_iconst (v := 3) hx hb dL_law_571 (by decide) ?_
                      refine xiadd (v := 3) S dL_law_572 (by decide) ?_
                      refine xsld (v := x3) S hX hbl hbA hS (vin rfl) h3 dL_law_573 ?_
                      refine lv_aload_n hx hb dL_law_574 rfl (lv_at hl 5 rfl) ?_
                      refine lv_iload hx hb dL_law_575 (lv_at hl 1 rfl) ?_
                      refine lv_iconst (v := 4) hx hb dL_law_577 (by decide) ?_
                      refine xiadd (v := 4) S dL_law_578 (by decide) ?_
                      refine xsld (v := x4) S hX hbl hbA hS (vin rfl) h4 dL_law_579 ?_
                      refine fVi [] ((xW o u cI cZ cJ) ++ [(ao, .inl (cJ, 1, .inr (.inl (fun _ => 0))))]) (mid := (mW om 0 q cI cZ)) (As := [.int 9, .int x2, .int x3, .int x4]) (ci := 9) S (c_X9_node_21 l D cI cZ cJ om q H.size x2 x3 x4) mi_X9_node kw_7_151 rfl rfl ⟨Nat.le_of_ble_eq_true rfl, Nat.le_of_ble_eq_true rfl⟩ hP hD hK hS hA mW_0 rfl rfl hl.1 (Nat.le_of_ble_eq_true rfl) ⟨Nat.le_of_ble_eq_true rfl, Nat.le_of_ble_eq_true rfl⟩ dL_law_580 (fun H locs hz hP hD hS => ?_)
                      have hP : va_P D vwCl ((mW om 1 q cI cZ) ++ ((xW o u cI cZ cJ) ++ [(ao, .inl (cJ, 1, .inr (.inl (fun _ => 0))))])) H := hP
                      have hD : va_D A ((mW om 1 q cI cZ) ++ ((xW o u cI cZ cJ) ++ [(ao, .inl (cJ, 1, .inr (.inl (fun _ => 0))))])) := hD
                      refine lv_istore (lv' := [(6, .int 0), (5, .int 1), (4, .int 0), (3, .ref ao), (2, .ref om), (1, .ref o), (0, .ref b)]) hx hb dL_law_583 hl (by decide) rfl (fun ls hl => ?_)
                      refine lv_aload_n hx hb dL_law_585 rfl (lv_at hl 4 rfl) ?_
                      refine rdV (As := []) (ci := 9) S (c_X9_thrown_0 l D cI cZ cJ om q) mi_X9_thrown kw_7_89 ⟨rfl, rfl⟩ ⟨Nat.le_of_ble_eq_true rfl, Nat.le_of_ble_eq_true rfl⟩ (va_Pl (ws := (mW om 1 q cI cZ)) (x := ((xW o u cI cZ cJ) ++ [(ao, .inl (cJ, 1, .inr (.inl (fun _ => 0))))])) hP) hK mW_0 rfl rfl hl.1 (Nat.le_of_ble_eq_true rfl) ⟨Nat.le_of_ble_eq_true rfl, Nat.le_of_ble_eq_true rfl⟩ dL_law_586 ?_
                      refine lv_iload hx hb dL_law_589 (lv_at hl 1 rfl) ?_
                      refine lv_icmp_eq (tgt := 596) hx hb dL_law_591 (by decide) (fun _ => ?_) (fun c => absurd c (by decide))
                      refine lv_iload hx hb dL_law_596 (lv_at hl 1 rfl) ?_
                      refine lv_if_ne (tgt := 613) hx hb dL_law_598 (by decide) (fun _ => ?_) (fun c => absurd c (by decide))
                      refine lv_goto (tgt := 1519) hx hb dL_law_613 (by decide) ?_
                      exact law_tail (C := 121) (Z := 12964) S hr hlocks hX hbl (lv_sub hl [2, 6] rfl) hS (Nat.le_of_ble_eq_true rfl) (Nat.le_of_ble_eq_true rfl)
                    · have ne_x1_9 : ¬ x1 = 9 := d_550
                      by_cases d_550 : x1 = 10
                      · have e_x1 : x1 = 10 := d_550
                        subst e_x1
                        by_cases d_550 : x2 < 0
                        · have hi_x2 : x2 ≤ (-1) := u_lt d_550 (by decide)
                          refine wrap (mW om 0 q cI cZ) (mid := ((xW o u cI cZ cJ) ++ [(ao, .inl (cJ, 1, .inr (.inl (fun _ => 0))))])) (As := [.ref o, .int 10, .int x2, .int x3, .int x4, .ref ao]) S (h_node_22 l D cI cZ cJ o u ao hst ra ga H.size x2 x3 x4 hi_x2) msh_L_node kw_6_20 rfl rfl ⟨Nat.le_of_ble_eq_true rfl, Nat.le_of_ble_eq_true rfl⟩ hP hD hK hS hA hB hC hl.1 (Nat.le_of_ble_eq_true rfl) ⟨Nat.le_of_ble_eq_true rfl, Nat.le_of_ble_eq_true rfl⟩ dL_law_550 (fun H locs hz hP hD hS => ?_)
                          have hP : va_P D vwCl ((mW om 0 q cI cZ) ++ ((xW o u cI cZ cJ) ++ [(ao, .inl (cJ, 1, .inr (.inl (fun _ => 0))))])) H := hP
                          have hD : va_D A ((mW om 0 q cI cZ) ++ ((xW o u cI cZ cJ) ++ [(ao, .inl (cJ, 1, .inr (.inl (fun _ => 0))))])) := hD
                          refine lv_istore (lv' := [(5, .int 1), (4, .int 0), (3, .ref ao), (2, .ref om), (1, .ref o), (0, .ref b)]) hx hb dL_law_553 hl (by decide) rfl (fun ls hl => ?_)
                          refine lv_aload_n hx hb dL_law_555 rfl (lv_at hl 3 rfl) ?_
                          refine lv_aload_n hx hb dL_law_556 rfl (lv_at hl 5 rfl) ?_
                          refine lv_iload hx hb dL_law_557 (lv_at hl 1 rfl) ?_
                          refine lv_iconst (v := 1) hx hb dL_law_559 (by decide) ?_
                          refine xiadd (v := 1) S dL_law_560 (by decide) ?_
                          refine xsld (v := 10) S hX hbl hbA hS (vin rfl) h1 dL_law_561 ?_
                          refine lv_aload_n hx hb dL_law_562 rfl (lv_at hl 5 rfl) ?_
                          refine lv_iload hx hb dL_law_563 (lv_at hl 1 rfl) ?_
                          refine lv_iconst (v := 2) hx hb dL_law_565 (by decide) ?_
                          refine xiadd (v := 2) S dL_law_566 (by decide) ?_
                          refine xsld (v := x2) S hX hbl hbA hS (vin rfl) h2 dL_law_567 ?_
                          refine lv_aload_n hx hb dL_law_568 rfl (lv_at hl 5 rfl) ?_
                          refine lv_iload hx hb dL_law_569 (lv_at hl 1 rfl) ?_
                          refine lv_iconst (v := 3) hx hb dL_law_571 (by decide) ?_
                          refine xiadd (v := 3) S dL_law_572 (by decide) ?_
                          refine xsld (v := x3) S hX hbl hbA hS (vin rfl) h3 dL_law_573 ?_
                          refine lv_aload_n hx hb dL_law_574 rfl (lv_at hl 5 rfl) ?_
                          refine lv_iload hx hb dL_law_575 (lv_at hl 1 rfl) ?_
                          refine lv_iconst (v := 4) hx hb dL_law_577 (by decide) ?_
                          refine xiadd (v := 4) S dL_law_578 (by decide) ?_
                          refine xsld (v := x4) S hX hbl hbA hS (vin rfl) h4 dL_law_579 ?_
                          refine fVi [] ((xW o u cI cZ cJ) ++ [(ao, .inl (cJ, 1, .inr (.inl (fun _ => 0))))]) (mid := (mW om 0 q cI cZ)) (As := [.int 10, .int x2, .int x3, .int x4]) (ci := 9) S (c_X9_node_22 l D cI cZ cJ om q H.size x2 x3 x4 hi_x2) mi_X9_node kw_7_151 rfl rfl ⟨Nat.le_of_ble_eq_true rfl, Nat.le_of_ble_eq_true rfl⟩ hP hD hK hS hA mW_0 rfl rfl hl.1 (Nat.le_of_ble_eq_true rfl) ⟨Nat.le_of_ble_eq_true rfl, Nat.le_of_ble_eq_true rfl⟩ dL_law_580 (fun H locs hz hP hD hS => ?_)
                          have hP : va_P D vwCl ((mW om 1 q cI cZ) ++ ((xW o u cI cZ cJ) ++ [(ao, .inl (cJ, 1, .inr (.inl (fun _ => 0))))])) H := hP
                          have hD : va_D A ((mW om 1 q cI cZ) ++ ((xW o u cI cZ cJ) ++ [(ao, .inl (cJ, 1, .inr (.inl (fun _ => 0))))])) := hD
                          refine lv_istore (lv' := [(6, .int 0), (5, .int 1), (4, .int 0), (3, .ref ao), (2, .ref om), (1, .ref o), (0, .ref b)]) hx hb dL_law_583 hl (by decide) rfl (fun ls hl => ?_)
                          refine lv_aload_n hx hb dL_law_585 rfl (lv_at hl 4 rfl) ?_
                          refine rdV (As := []) (ci := 9) S (c_X9_thrown_0 l D cI cZ cJ om q) mi_X9_thrown kw_7_89 ⟨rfl, rfl⟩ ⟨Nat.le_of_ble_eq_true rfl, Nat.le_of_ble_eq_true rfl⟩ (va_Pl (ws := (mW om 1 q cI cZ)) (x := ((xW o u cI cZ cJ) ++ [(ao, .inl (cJ, 1, .inr (.inl (fun _ => 0))))])) hP) hK mW_0 rfl rfl hl.1 (Nat.le_of_ble_eq_true rfl) ⟨Nat.le_of_ble_eq_true rfl, Nat.le_of_ble_eq_true rfl⟩ dL_law_586 ?_
                          refine lv_iload hx hb dL_law_589 (lv_at hl 1 rfl) ?_
                          refine lv_icmp_eq (tgt := 596) hx hb dL_law_591 (by decide) (fun _ => ?_) (fun c => absurd c (by decide))
                          refine lv_iload hx hb dL_law_596 (lv_at hl 1 rfl) ?_
                          refine lv_if_ne (tgt := 613) hx hb dL_law_598 (by decide) (fun _ => ?_) (fun c => absurd c (by decide))
                          refine lv_goto (tgt := 1519) hx hb dL_law_613 (by decide) ?_
                          exact law_tail (C := 121) (Z := 12964) S hr hlocks hX hbl (lv_sub hl [2, 6] rfl) hS (Nat.le_of_ble_eq_true rfl) (Nat.le_of_ble_eq_true rfl)
                        · have lo_x2 : 0 ≤ x2 := l_nlt d_550
                          by_cases d_550 : 16 ≤ x2
                          · have lo_x2 : 16 ≤ x2 := d_550
                            refine wrap (mW om 0 q cI cZ) (mid := ((xW o u cI cZ cJ) ++ [(ao, .inl (cJ, 1, .inr (.inl (fun _ => 0))))])) (As := [.ref o, .int 10, .int x2, .int x3, .int x4, .ref ao]) S (h_node_23 l D cI cZ cJ o u ao hst ra ga H.size x2 x3 x4 lo_x2) msh_L_node kw_6_20 rfl rfl ⟨Nat.le_of_ble_eq_true rfl, Nat.le_of_ble_eq_true rfl⟩ hP hD hK hS hA hB hC hl.1 (Nat.le_of_ble_eq_true rfl) ⟨Nat.le_of_ble_eq_true rfl, Nat.le_of_ble_eq_true rfl⟩ dL_law_550 (fun H locs hz hP hD hS => ?_)
                            have hP : va_P D vwCl ((mW om 0 q cI cZ) ++ ((xW o u cI cZ cJ) ++ [(ao, .inl (cJ, 1, .inr (.inl (fun _ => 0))))])) H := hP
                            have hD : va_D A ((mW om 0 q cI cZ) ++ ((xW o u cI cZ cJ) ++ [(ao, .inl (cJ, 1, .inr (.inl (fun _ => 0))))])) := hD
                            refine lv_istore (lv' := [(5, .int 1), (4, .int 0), (3, .ref ao), (2, .ref om), (1, .ref o), (0, .ref b)]) hx hb dL_law_553 hl (by decide) rfl (fun ls hl => ?_)
                            refine lv_aload_n hx hb dL_law_555 rfl (lv_at hl 3 rfl) ?_
                            refine lv_aload_n hx hb dL_law_556 rfl (lv_at hl 5 rfl) ?_
                            refine lv_iload hx hb dL_law_557 (lv_at hl 1 rfl) ?_
                            refine lv_iconst (v := 1) hx hb dL_law_559 (by decide) ?_
                            refine xiadd (v := 1) S dL_law_560 (by decide) ?_
                            refine xsld (v := 10) S hX hbl hbA hS (vin rfl) h1 dL_law_561 ?_
                            refine lv_aload_n hx hb dL_law_562 rfl (lv_at hl 5 rfl) ?_
                            refine lv_iload hx hb dL_law_563 (lv_at hl 1 rfl) ?_
                            refine lv_iconst (v := 2) hx hb dL_law_565 (by decide) ?_
                            refine xiadd (v := 2) S dL_law_566 (by decide) ?_
                            refine xsld (v := x2) S hX hbl hbA hS (vin rfl) h2 dL_law_567 ?_
                            refine lv_aload_n hx hb dL_law_568 rfl (lv_at hl 5 rfl) ?_
                            refine lv_iload hx hb dL_law_569 (lv_at hl 1 rfl) ?_
                            refine lv_iconst (v := 3) hx hb dL_law_571 (by decide) ?_
                            refine xiadd (v := 3) S dL_law_572 (by decide) ?_
                            refine xsld (v := x3) S hX hbl hbA hS (vin rfl) h3 dL_law_573 ?_
                            refine lv_aload_n hx hb dL_law_574 rfl (lv_at hl 5 rfl) ?_
                            refine lv_iload hx hb dL_law_575 (lv_at hl 1 rfl) ?_
                            refine lv_iconst (v := 4) hx hb dL_law_577 (by decide) ?_
                            refine xiadd (v := 4) S dL_law_578 (by decide) ?_
                            refine xsld (v := x4) S hX hbl hbA hS (vin rfl) h4 dL_law_579 ?_
                            refine fVi [] ((xW o u cI cZ cJ) ++ [(ao, .inl (cJ, 1, .inr (.inl (fun _ => 0))))]) (mid := (mW om 0 q cI cZ)) (As := [.int 10, .int x2, .int x3, .int x4]) (ci := 9) S (c_X9_node_23 l D cI cZ cJ om q H.size x2 x3 x4 lo_x2) mi_X9_node kw_7_151 rfl rfl ⟨Nat.le_of_ble_eq_true rfl, Nat.le_of_ble_eq_true rfl⟩ hP hD hK hS hA mW_0 rfl rfl hl.1 (Nat.le_of_ble_eq_true rfl) ⟨Nat.le_of_ble_eq_true rfl, Nat.le_of_ble_eq_true rfl⟩ dL_law_580 (fun H locs hz hP hD hS => ?_)
                            have hP : va_P D vwCl ((mW om 1 q cI cZ) ++ ((xW o u cI cZ cJ) ++ [(ao, .inl (cJ, 1, .inr (.inl (fun _ => 0))))])) H := hP
                            have hD : va_D A ((mW om 1 q cI cZ) ++ ((xW o u cI cZ cJ) ++ [(ao, .inl (cJ, 1, .inr (.inl (fun _ => 0))))])) := hD
                            refine lv_istore (lv' := [(6, .int 0), (5, .int 1), (4, .int 0), (3, .ref ao), (2, .ref om), (1, .ref o), (0, .ref b)]) hx hb dL_law_583 hl (by decide) rfl (fun ls hl => ?_)
                            refine lv_aload_n hx hb dL_law_585 rfl (lv_at hl 4 rfl) ?_
                            refine rdV (As := []) (ci := 9) S (c_X9_thrown_0 l D cI cZ cJ om q) mi_X9_thrown kw_7_89 ⟨rfl, rfl⟩ ⟨Nat.le_of_ble_eq_true rfl, Nat.le_of_ble_eq_true rfl⟩ (va_Pl (ws := (mW om 1 q cI cZ)) (x := ((xW o u cI cZ cJ) ++ [(ao, .inl (cJ, 1, .inr (.inl (fun _ => 0))))])) hP) hK mW_0 rfl rfl hl.1 (Nat.le_of_ble_eq_true rfl) ⟨Nat.le_of_ble_eq_true rfl, Nat.le_of_ble_eq_true rfl⟩ dL_law_586 ?_
                            refine lv_iload hx hb dL_law_589 (lv_at hl 1 rfl) ?_
                            refine lv_icmp_eq (tgt := 596) hx hb dL_law_591 (by decide) (fun _ => ?_) (fun c => absurd c (by decide))
                            refine lv_iload hx hb dL_law_596 (lv_at hl 1 rfl) ?_
                            refine lv_if_ne (tgt := 613) hx hb dL_law_598 (by decide) (fun _ => ?_) (fun c => absurd c (by decide))
                            refine lv_goto (tgt := 1519) hx hb dL_law_613 (by decide) ?_
                            exact law_tail (C := 121) (Z := 12964) S hr hlocks hX hbl (lv_sub hl [2, 6] rfl) hS (Nat.le_of_ble_eq_true rfl) (Nat.le_of_ble_eq_true rfl)
                          · have hi_x2 : x2 ≤ 15 := u_nge d_550 (by decide)
                            by_cases d_550 : x3 = 0
                            · have e_x3 : x3 = 0 := d_550
                              subst e_x3
                              by_cases d_550 : x4 = 0
                              · have e_x4 : x4 = 0 := d_550
                                subst e_x4
                                refine wrap (mW om 0 q cI cZ) (mid := ((xW o u cI cZ cJ) ++ [(ao, .inl (cJ, 1, .inr (.inl (fun _ => 0))))])) (As := [.ref o, .int 10, .int x2, .int 0, .int 0, .ref ao]) S (h_node_24 l D cI cZ cJ o u ao hst ra ga H.size x2 lo_x2 hi_x2) msh_L_node kw_6_20 rfl rfl ⟨Nat.le_of_ble_eq_true rfl, Nat.le_of_ble_eq_true rfl⟩ hP hD hK hS hA hB hC hl.1 (Nat.le_of_ble_eq_true rfl) ⟨Nat.le_of_ble_eq_true rfl, Nat.le_of_ble_eq_true rfl⟩ dL_law_550 (fun H locs hz hP hD hS => ?_)
                                have hP : va_P D vwCl ((mW om 0 q cI cZ) ++ (((((((((xW o u cI cZ cJ).set 13 ((u 12), .inr (5, ([.int 0, .ref (u 13), .ref (u 14), .ref (u 15), .ref (u 16), .ref (u 17), .ref (u 18)].set 0 (.int 1))))).set 14 ((u 13), .inl (cI, 110, .inl (upd (fun _ => 0) (0 : Int32).toNatClampNeg 10)))).set 15 ((u 14), .inl (cI, 110, .inl (upd (fun _ => 0) (0 : Int32).toNatClampNeg x2)))).set 16 ((u 15), .inl (cI, 110, .inl (upd (fun _ => 0) (0 : Int32).toNatClampNeg 0)))).set 17 ((u 16), .inl (cI, 110, .inl (upd (fun _ => 0) (0 : Int32).toNatClampNeg 0)))).set 18 ((u 17), .inl (cI, 110, .inl (upd (fun _ => 0) (0 : Int32).toNatClampNeg (-1))))).set 19 ((u 18), .inl (cI, 110, .inl (upd (fun _ => 0) (0 : Int32).toNatClampNeg (-1))))) ++ [(ao, .inl (cJ, 1, .inr (.inl (vp_updL (fun _ => 0) (0 : Int32).toNatClampNeg 0))))])) H := hP
                                have hD : va_D A ((mW om 0 q cI cZ) ++ (((((((((xW o u cI cZ cJ).set 13 ((u 12), .inr (5, ([.int 0, .ref (u 13), .ref (u 14), .ref (u 15), .ref (u 16), .ref (u 17), .ref (u 18)].set 0 (.int 1))))).set 14 ((u 13), .inl (cI, 110, .inl (upd (fun _ => 0) (0 : Int32).toNatClampNeg 10)))).set 15 ((u 14), .inl (cI, 110, .inl (upd (fun _ => 0) (0 : Int32).toNatClampNeg x2)))).set 16 ((u 15), .inl (cI, 110, .inl (upd (fun _ => 0) (0 : Int32).toNatClampNeg 0)))).set 17 ((u 16), .inl (cI, 110, .inl (upd (fun _ => 0) (0 : Int32).toNatClampNeg 0)))).set 18 ((u 17), .inl (cI, 110, .inl (upd (fun _ => 0) (0 : Int32).toNatClampNeg (-1))))).set 19 ((u 18), .inl (cI, 110, .inl (upd (fun _ => 0) (0 : Int32).toNatClampNeg (-1))))) ++ [(ao, .inl (cJ, 1, .inr (.inl (vp_updL (fun _ => 0) (0 : Int32).toNatClampNeg 0))))])) := hD
                                refine lv_istore (lv' := [(5, .int 0), (4, .int 0), (3, .ref ao), (2, .ref om), (1, .ref o), (0, .ref b)]) hx hb dL_law_553 hl (by decide) rfl (fun ls hl => ?_)
                                refine lv_aload_n hx hb dL_law_555 rfl (lv_at hl 3 rfl) ?_
                                refine lv_aload_n hx hb dL_law_556 rfl (lv_at hl 5 rfl) ?_
                                refine lv_iload hx hb dL_law_557 (lv_at hl 1 rfl) ?_
                                refine lv_iconst (v := 1) hx hb dL_law_559 (by decide) ?_
                                refine xiadd (v := 1) S dL_law_560 (by decide) ?_
                                refine xsld (v := 10) S hX hbl hbA hS (vin rfl) h1 dL_law_561 ?_
                                refine lv_aload_n hx hb dL_law_562 rfl (lv_at hl 5 rfl) ?_
                                refine lv_iload hx hb dL_law_563 (lv_at hl 1 rfl) ?_
                                refine lv_iconst (v := 2) hx hb dL_law_565 (by decide) ?_
                                refine xiadd (v := 2) S dL_law_566 (by decide) ?_
                                refine xsld (v := x2) S hX hbl hbA hS (vin rfl) h2 dL_law_567 ?_
                                refine lv_aload_n hx hb dL_law_568 rfl (lv_at hl 5 rfl) ?_
                                refine lv_iload hx hb dL_law_569 (lv_at hl 1 rfl) ?_
                                refine lv_iconst (v := 3) hx hb dL_law_571 (by decide) ?_
                                refine xiadd (v := 3) S dL_law_572 (by decide) ?_
                                refine xsld (v := 0) S hX hbl hbA hS (vin rfl) h3 dL_law_573 ?_
                                refine lv_aload_n hx hb dL_law_574 rfl (lv_at hl 5 rfl) ?_
                                refine lv_iload hx hb dL_law_575 (lv_at hl 1 rfl) ?_
                                refine lv_iconst (v := 4) hx hb dL_law_577 (by decide) ?_
                                refine xiadd (v := 4) S dL_law_578 (by decide) ?_
                                refine xsld (v := 0) S hX hbl hbA hS (vin rfl) h4 dL_law_579 ?_
                                refine fVi [] (((((((((xW o u cI cZ cJ).set 13 ((u 12), .inr (5, ([.int 0, .ref (u 13), .ref (u 14), .ref (u 15), .ref (u 16), .ref (u 17), .ref (u 18)].set 0 (.int 1))))).set 14 ((u 13), .inl (cI, 110, .inl (upd (fun _ => 0) (0 : Int32).toNatClampNeg 10)))).set 15 ((u 14), .inl (cI, 110, .inl (upd (fun _ => 0) (0 : Int32).toNatClampNeg x2)))).set 16 ((u 15), .inl (cI, 110, .inl (upd (fun _ => 0) (0 : Int32).toNatClampNeg 0)))).set 17 ((u 16), .inl (cI, 110, .inl (upd (fun _ => 0) (0 : Int32).toNatClampNeg 0)))).set 18 ((u 17), .inl (cI, 110, .inl (upd (fun _ => 0) (0 : Int32).toNatClampNeg (-1))))).set 19 ((u 18), .inl (cI, 110, .inl (upd (fun _ => 0) (0 : Int32).toNatClampNeg (-1))))) ++ [(ao, .inl (cJ, 1, .inr (.inl (vp_updL (fun _ => 0) (0 : Int32).toNatClampNeg 0))))]) (mid := (mW om 0 q cI cZ)) (As := [.int 10, .int x2, .int 0, .int 0]) (ci := 9) S (c_X9_node_24 l D cI cZ cJ om q H.size x2 lo_x2 hi_x2) mi_X9_node kw_7_151 rfl rfl ⟨Nat.le_of_ble_eq_true rfl, Nat.le_of_ble_eq_true rfl⟩ hP hD hK hS hA mW_0 rfl rfl hl.1 (Nat.le_of_ble_eq_true rfl) ⟨Nat.le_of_ble_eq_true rfl, Nat.le_of_ble_eq_true rfl⟩ dL_law_580 (fun H locs hz hP hD hS => ?_)
                                have hP : va_P D vwCl (((((((((mW om 0 q cI cZ).set 0 (om, .inr (9, ((mF 0 q).set 13 (.int 1))))).set 12 ((q 11), .inl (cI, 110, .inl (upd (fun _ => 0) (0 : Int32).toNatClampNeg 10)))).set 13 ((q 12), .inl (cI, 110, .inl (upd (fun _ => 0) (0 : Int32).toNatClampNeg x2)))).set 14 ((q 13), .inl (cI, 110, .inl (upd (fun _ => 0) (0 : Int32).toNatClampNeg 0)))).set 15 ((q 14), .inl (cI, 110, .inl (upd (fun _ => 0) (0 : Int32).toNatClampNeg 0)))).set 16 ((q 15), .inl (cI, 110, .inl (upd (fun _ => 0) (0 : Int32).toNatClampNeg (-1))))).set 17 ((q 16), .inl (cI, 110, .inl (upd (fun _ => 0) (0 : Int32).toNatClampNeg (-1))))) ++ (((((((((xW o u cI cZ cJ).set 13 ((u 12), .inr (5, ([.int 0, .ref (u 13), .ref (u 14), .ref (u 15), .ref (u 16), .ref (u 17), .ref (u 18)].set 0 (.int 1))))).set 14 ((u 13), .inl (cI, 110, .inl (upd (fun _ => 0) (0 : Int32).toNatClampNeg 10)))).set 15 ((u 14), .inl (cI, 110, .inl (upd (fun _ => 0) (0 : Int32).toNatClampNeg x2)))).set 16 ((u 15), .inl (cI, 110, .inl (upd (fun _ => 0) (0 : Int32).toNatClampNeg 0)))).set 17 ((u 16), .inl (cI, 110, .inl (upd (fun _ => 0) (0 : Int32).toNatClampNeg 0)))).set 18 ((u 17), .inl (cI, 110, .inl (upd (fun _ => 0) (0 : Int32).toNatClampNeg (-1))))).set 19 ((u 18), .inl (cI, 110, .inl (upd (fun _ => 0) (0 : Int32).toNatClampNeg (-1))))) ++ [(ao, .inl (cJ, 1, .inr (.inl (vp_updL (fun _ => 0) (0 : Int32).toNatClampNeg 0))))])) H := hP
                                have hD : va_D A (((((((((mW om 0 q cI cZ).set 0 (om, .inr (9, ((mF 0 q).set 13 (.int 1))))).set 12 ((q 11), .inl (cI, 110, .inl (upd (fun _ => 0) (0 : Int32).toNatClampNeg 10)))).set 13 ((q 12), .inl (cI, 110, .inl (upd (fun _ => 0) (0 : Int32).toNatClampNeg x2)))).set 14 ((q 13), .inl (cI, 110, .inl (upd (fun _ => 0) (0 : Int32).toNatClampNeg 0)))).set 15 ((q 14), .inl (cI, 110, .inl (upd (fun _ => 0) (0 : Int32).toNatClampNeg 0)))).set 16 ((q 15), .inl (cI, 110, .inl (upd (fun _ => 0) (0 : Int32).toNatClampNeg (-1))))).set 17 ((q 16), .inl (cI, 110, .inl (upd (fun _ => 0) (0 : Int32).toNatClampNeg (-1))))) ++ (((((((((xW o u cI cZ cJ).set 13 ((u 12), .inr (5, ([.int 0, .ref (u 13), .ref (u 14), .ref (u 15), .ref (u 16), .ref (u 17), .ref (u 18)].set 0 (.int 1))))).set 14 ((u 13), .inl (cI, 110, .inl (upd (fun _ => 0) (0 : Int32).toNatClampNeg 10)))).set 15 ((u 14), .inl (cI, 110, .inl (upd (fun _ => 0) (0 : Int32).toNatClampNeg x2)))).set 16 ((u 15), .inl (cI, 110, .inl (upd (fun _ => 0) (0 : Int32).toNatClampNeg 0)))).set 17 ((u 16), .inl (cI, 110, .inl (upd (fun _ => 0) (0 : Int32).toNatClampNeg 0)))).set 18 ((u 17), .inl (cI, 110, .inl (upd (fun _ => 0) (0 : Int32).toNatClampNeg (-1))))).set 19 ((u 18), .inl (cI, 110, .inl (upd (fun _ => 0) (0 : Int32).toNatClampNeg (-1))))) ++ [(ao, .inl (cJ, 1, .inr (.inl (vp_updL (fun _ => 0) (0 : Int32).toNatClampNeg 0))))])) := hD
                                refine lv_istore (lv' := [(6, .int 0), (5, .int 0), (4, .int 0), (3, .ref ao), (2, .ref om), (1, .ref o), (0, .ref b)]) hx hb dL_law_583 hl (by decide) rfl (fun ls hl => ?_)
                                refine lv_aload_n hx hb dL_law_585 rfl (lv_at hl 4 rfl) ?_
                                refine rdV (As := []) (ci := 9) S (c_X9_thrown_12 l D cI cZ cJ om q x2 lo_x2 hi_x2) mi_X9_thrown kw_7_89 ⟨rfl, rfl⟩ ⟨Nat.le_of_ble_eq_true rfl, Nat.le_of_ble_eq_true rfl⟩ (va_Pl (ws := ((((((((mW om 0 q cI cZ).set 0 (om, .inr (9, ((mF 0 q).set 13 (.int 1))))).set 12 ((q 11), .inl (cI, 110, .inl (upd (fun _ => 0) (0 : Int32).toNatClampNeg 10)))).set 13 ((q 12), .inl (cI, 110, .inl (upd (fun _ => 0) (0 : Int32).toNatClampNeg x2)))).set 14 ((q 13), .inl (cI, 110, .inl (upd (fun _ => 0) (0 : Int32).toNatClampNeg 0)))).set 15 ((q 14), .inl (cI, 110, .inl (upd (fun _ => 0) (0 : Int32).toNatClampNeg 0)))).set 16 ((q 15), .inl (cI, 110, .inl (upd (fun _ => 0) (0 : Int32).toNatClampNeg (-1))))).set 17 ((q 16), .inl (cI, 110, .inl (upd (fun _ => 0) (0 : Int32).toNatClampNeg (-1)))))) (x := (((((((((xW o u cI cZ cJ).set 13 ((u 12), .inr (5, ([.int 0, .ref (u 13), .ref (u 14), .ref (u 15), .ref (u 16), .ref (u 17), .ref (u 18)].set 0 (.int 1))))).set 14 ((u 13), .inl (cI, 110, .inl (upd (fun _ => 0) (0 : Int32).toNatClampNeg 10)))).set 15 ((u 14), .inl (cI, 110, .inl (upd (fun _ => 0) (0 : Int32).toNatClampNeg x2)))).set 16 ((u 15), .inl (cI, 110, .inl (upd (fun _ => 0) (0 : Int32).toNatClampNeg 0)))).set 17 ((u 16), .inl (cI, 110, .inl (upd (fun _ => 0) (0 : Int32).toNatClampNeg 0)))).set 18 ((u 17), .inl (cI, 110, .inl (upd (fun _ => 0) (0 : Int32).toNatClampNeg (-1))))).set 19 ((u 18), .inl (cI, 110, .inl (upd (fun _ => 0) (0 : Int32).toNatClampNeg (-1))))) ++ [(ao, .inl (cJ, 1, .inr (.inl (vp_updL (fun _ => 0) (0 : Int32).toNatClampNeg 0))))])) hP) hK (k := 0) rfl rfl rfl hl.1 (Nat.le_of_ble_eq_true rfl) ⟨Nat.le_of_ble_eq_true rfl, Nat.le_of_ble_eq_true rfl⟩ dL_law_586 ?_
                                refine lv_iload hx hb dL_law_589 (lv_at hl 1 rfl) ?_
                                refine lv_icmp_eq (tgt := 596) hx hb dL_law_591 (by decide) (fun _ => ?_) (fun c => absurd c (by decide))
                                refine lv_iload hx hb dL_law_596 (lv_at hl 1 rfl) ?_
                                refine lv_if_ne (tgt := 613) hx hb dL_law_598 (by decide) (fun c => absurd c (by decide)) (fun _ => ?_)
                                refine lv_aload_n hx hb dL_law_601 rfl (lv_at hl 3 rfl) ?_
                                refine lv_iconst (v := 0) hx hb dL_law_602 (by decide) ?_
                                refine xlald (t0 := 2) (v := 0) S hK hP (q0 := 119) rfl rfl (vin rfl) rfl dL_law_603 ?_
                                refine lv_iload hx hb dL_law_604 (lv_at hl 0 rfl) ?_
                                refine lv_i2l (v := 0) hx hb dL_law_606 (by decide) ?_
                                refine xlcmp (v := 0) S dL_law_607 (by decide) ?_
                                refine lv_if_eq (tgt := 613) hx hb dL_law_608 (by decide) (fun _ => ?_) (fun c => absurd c (by decide))
                                refine lv_goto (tgt := 1519) hx hb dL_law_613 (by decide) ?_
                                exact law_tail (C := 120) (Z := 12958) S hr hlocks hX hbl (lv_sub hl [2, 6] rfl) hS (Nat.le_of_ble_eq_true rfl) (Nat.le_of_ble_eq_true rfl)
                              · have ne_x4_0 : ¬ x4 = 0 := d_550
                                refine wrap (mW om 0 q cI cZ) (mid := ((xW o u cI cZ cJ) ++ [(ao, .inl (cJ, 1, .inr (.inl (fun _ => 0))))])) (As := [.ref o, .int 10, .int x2, .int 0, .int x4, .ref ao]) S (h_node_25 l D cI cZ cJ o u ao hst ra ga H.size x2 x4 lo_x2 hi_x2 ne_x4_0) msh_L_node kw_6_20 rfl rfl ⟨Nat.le_of_ble_eq_true rfl, Nat.le_of_ble_eq_true rfl⟩ hP hD hK hS hA hB hC hl.1 (Nat.le_of_ble_eq_true rfl) ⟨Nat.le_of_ble_eq_true rfl, Nat.le_of_ble_eq_true rfl⟩ dL_law_550 (fun H locs hz hP hD hS => ?_)
                                have hP : va_P D vwCl ((mW om 0 q cI cZ) ++ ((xW o u cI cZ cJ) ++ [(ao, .inl (cJ, 1, .inr (.inl (fun _ => 0))))])) H := hP
                                have hD : va_D A ((mW om 0 q cI cZ) ++ ((xW o u cI cZ cJ) ++ [(ao, .inl (cJ, 1, .inr (.inl (fun _ => 0))))])) := hD
                                refine lv_istore (lv' := [(5, .int 1), (4, .int 0), (3, .ref ao), (2, .ref om), (1, .ref o), (0, .ref b)]) hx hb dL_law_553 hl (by decide) rfl (fun ls hl => ?_)
                                refine lv_aload_n hx hb dL_law_555 rfl (lv_at hl 3 rfl) ?_
                                refine lv_aload_n hx hb dL_law_556 rfl (lv_at hl 5 rfl) ?_
                                refine lv_iload hx hb dL_law_557 (lv_at hl 1 rfl) ?_
                                refine lv_iconst (v := 1) hx hb dL_law_559 (by decide) ?_
                                refine xiadd (v := 1) S dL_law_560 (by decide) ?_
                                refine xsld (v := 10) S hX hbl hbA hS (vin rfl) h1 dL_law_561 ?_
                                refine lv_aload_n hx hb dL_law_562 rfl (lv_at hl 5 rfl) ?_
                                refine lv_iload hx hb dL_law_563 (lv_at hl 1 rfl) ?_
                                refine lv_iconst (v := 2) hx hb dL_law_565 (by decide) ?_
                                refine xiadd (v := 2) S dL_law_566 (by decide) ?_
                                refine xsld (v := x2) S hX hbl hbA hS (vin rfl) h2 dL_law_567 ?_
                                refine lv_aload_n hx hb dL_law_568 rfl (lv_at hl 5 rfl) ?_
                                refine lv_iload hx hb dL_law_569 (lv_at hl 1 rfl) ?_
                                refine lv_iconst (v := 3) hx hb dL_law_571 (by decide) ?_
                                refine xiadd (v := 3) S dL_law_572 (by decide) ?_
                                refine xsld (v := 0) S hX hbl hbA hS (vin rfl) h3 dL_law_573 ?_
                                refine lv_aload_n hx hb dL_law_574 rfl (lv_at hl 5 rfl) ?_
                                refine lv_iload hx hb dL_law_575 (lv_at hl 1 rfl) ?_
                                refine lv_iconst (v := 4) hx hb dL_law_577 (by decide) ?_
                                refine xiadd (v := 4) S dL_law_578 (by decide) ?_
                                refine xsld (v := x4) S hX hbl hbA hS (vin rfl) h4 dL_law_579 ?_
                                refine fVi [] ((xW o u cI cZ cJ) ++ [(ao, .inl (cJ, 1, .inr (.inl (fun _ => 0))))]) (mid := (mW om 0 q cI cZ)) (As := [.int 10, .int x2, .int 0, .int x4]) (ci := 9) S (c_X9_node_25 l D cI cZ cJ om q H.size x2 x4 lo_x2 hi_x2 ne_x4_0) mi_X9_node kw_7_151 rfl rfl ⟨Nat.le_of_ble_eq_true rfl, Nat.le_of_ble_eq_true rfl⟩ hP hD hK hS hA mW_0 rfl rfl hl.1 (Nat.le_of_ble_eq_true rfl) ⟨Nat.le_of_ble_eq_true rfl, Nat.le_of_ble_eq_true rfl⟩ dL_law_580 (fun H locs hz hP hD hS => ?_)
                                have hP : va_P D vwCl ((mW om 1 q cI cZ) ++ ((xW o u cI cZ cJ) ++ [(ao, .inl (cJ, 1, .inr (.inl (fun _ => 0))))])) H := hP
                                have hD : va_D A ((mW om 1 q cI cZ) ++ ((xW o u cI cZ cJ) ++ [(ao, .inl (cJ, 1, .inr (.inl (fun _ => 0))))])) := hD
                                refine lv_istore (lv' := [(6, .int 0), (5, .int 1), (4, .int 0), (3, .ref ao), (2, .ref om), (1, .ref o), (0, .ref b)]) hx hb dL_law_583 hl (by decide) rfl (fun ls hl => ?_)
                                refine lv_aload_n hx hb dL_law_585 rfl (lv_at hl 4 rfl) ?_
                                refine rdV (As := []) (ci := 9) S (c_X9_thrown_0 l D cI cZ cJ om q) mi_X9_thrown kw_7_89 ⟨rfl, rfl⟩ ⟨Nat.le_of_ble_eq_true rfl, Nat.le_of_ble_eq_true rfl⟩ (va_Pl (ws := (mW om 1 q cI cZ)) (x := ((xW o u cI cZ cJ) ++ [(ao, .inl (cJ, 1, .inr (.inl (fun _ => 0))))])) hP) hK mW_0 rfl rfl hl.1 (Nat.le_of_ble_eq_true rfl) ⟨Nat.le_of_ble_eq_true rfl, Nat.le_of_ble_eq_true rfl⟩ dL_law_586 ?_
                                refine lv_iload hx hb dL_law_589 (lv_at hl 1 rfl) ?_
                                refine lv_icmp_eq (tgt := 596) hx hb dL_law_591 (by decide) (fun _ => ?_) (fun c => absurd c (by decide))
                                refine lv_iload hx hb dL_law_596 (lv_at hl 1 rfl) ?_
                                refine lv_if_ne (tgt := 613) hx hb dL_law_598 (by decide) (fun _ => ?_) (fun c => absurd c (by decide))
                                refine lv_goto (tgt := 1519) hx hb dL_law_613 (by decide) ?_
                                exact law_tail (C := 121) (Z := 12964) S hr hlocks hX hbl (lv_sub hl [2, 6] rfl) hS (Nat.le_of_ble_eq_true rfl) (Nat.le_of_ble_eq_true rfl)
                            · have ne_x3_0 : ¬ x3 = 0 := d_550
                              refine wrap (mW om 0 q cI cZ) (mid := ((xW o u cI cZ cJ) ++ [(ao, .inl (cJ, 1, .inr (.inl (fun _ => 0))))])) (As := [.ref o, .int 10, .int x2, .int x3, .int x4, .ref ao]) S (h_node_26 l D cI cZ cJ o u ao hst ra ga H.size x2 x3 x4 lo_x2 hi_x2 ne_x3_0) msh_L_node kw_6_20 rfl rfl ⟨Nat.le_of_ble_eq_true rfl, Nat.le_of_ble_eq_true rfl⟩ hP hD hK hS hA hB hC hl.1 (Nat.le_of_ble_eq_true rfl) ⟨Nat.le_of_ble_eq_true rfl, Nat.le_of_ble_eq_true rfl⟩ dL_law_550 (fun H locs hz hP hD hS => ?_)
                              have hP : va_P D vwCl ((mW om 0 q cI cZ) ++ ((xW o u cI cZ cJ) ++ [(ao, .inl (cJ, 1, .inr (.inl (fun _ => 0))))])) H := hP
                              have hD : va_D A ((mW om 0 q cI cZ) ++ ((xW o u cI cZ cJ) ++ [(ao, .inl (cJ, 1, .inr (.inl (fun _ => 0))))])) := hD
                              refine lv_istore (lv' := [(5, .int 1), (4, .int 0), (3, .ref ao), (2, .ref om), (1, .ref o), (0, .ref b)]) hx hb dL_law_553 hl (by decide) rfl (fun ls hl => ?_)
                              refine lv_aload_n hx hb dL_law_555 rfl (lv_at hl 3 rfl) ?_
                              refine lv_aload_n hx hb dL_law_556 rfl (lv_at hl 5 rfl) ?_
                              refine lv_iload hx hb dL_law_557 (lv_at hl 1 rfl) ?_
                              refine lv_iconst (v := 1) hx hb dL_law_559 (by decide) ?_
                              refine xiadd (v := 1) S dL_law_560 (by decide) ?_
                              refine xsld (v := 10) S hX hbl hbA hS (vin rfl) h1 dL_law_561 ?_
                              refine lv_aload_n hx hb dL_law_562 rfl (lv_at hl 5 rfl) ?_
                              refine lv_iload hx hb dL_law_563 (lv_at hl 1 rfl) ?_
                              refine lv_iconst (v := 2) hx hb dL_law_565 (by decide) ?_
                              refine xiadd (v := 2) S dL_law_566 (by decide) ?_
                              refine xsld (v := x2) S hX hbl hbA hS (vin rfl) h2 dL_law_567 ?_
                              refine lv_aload_n hx hb dL_law_568 rfl (lv_at hl 5 rfl) ?_
                              refine lv_iload hx hb dL_law_569 (lv_at hl 1 rfl) ?_
                              refine lv_iconst (v := 3) hx hb dL_law_571 (by decide) ?_
                              refine xiadd (v := 3) S dL_law_572 (by decide) ?_
                              refine xsld (v := x3) S hX hbl hbA hS (vin rfl) h3 dL_law_573 ?_
                              refine lv_aload_n hx hb dL_law_574 rfl (lv_at hl 5 rfl) ?_
                              refine lv_iload hx hb dL_law_575 (lv_at hl 1 rfl) ?_
                              refine lv_iconst (v := 4) hx hb dL_law_577 (by decide) ?_
                              refine xiadd (v := 4) S dL_law_578 (by decide) ?_
                              refine xsld (v := x4) S hX hbl hbA hS (vin rfl) h4 dL_law_579 ?_
                              refine fVi [] ((xW o u cI cZ cJ) ++ [(ao, .inl (cJ, 1, .inr (.inl (fun _ => 0))))]) (mid := (mW om 0 q cI cZ)) (As := [.int 10, .int x2, .int x3, .int x4]) (ci := 9) S (c_X9_node_26 l D cI cZ cJ om q H.size x2 x3 x4 lo_x2 hi_x2 ne_x3_0) mi_X9_node kw_7_151 rfl rfl ⟨Nat.le_of_ble_eq_true rfl, Nat.le_of_ble_eq_true rfl⟩ hP hD hK hS hA mW_0 rfl rfl hl.1 (Nat.le_of_ble_eq_true rfl) ⟨Nat.le_of_ble_eq_true rfl, Nat.le_of_ble_eq_true rfl⟩ dL_law_580 (fun H locs hz hP hD hS => ?_)
                              have hP : va_P D vwCl ((mW om 1 q cI cZ) ++ ((xW o u cI cZ cJ) ++ [(ao, .inl (cJ, 1, .inr (.inl (fun _ => 0))))])) H := hP
                              have hD : va_D A ((mW om 1 q cI cZ) ++ ((xW o u cI cZ cJ) ++ [(ao, .inl (cJ, 1, .inr (.inl (fun _ => 0))))])) := hD
                              refine lv_istore (lv' := [(6, .int 0), (5, .int 1), (4, .int 0), (3, .ref ao), (2, .ref om), (1, .ref o), (0, .ref b)]) hx hb dL_law_583 hl (by decide) rfl (fun ls hl => ?_)
                              refine lv_aload_n hx hb dL_law_585 rfl (lv_at hl 4 rfl) ?_
                              refine rdV (As := []) (ci := 9) S (c_X9_thrown_0 l D cI cZ cJ om q) mi_X9_thrown kw_7_89 ⟨rfl, rfl⟩ ⟨Nat.le_of_ble_eq_true rfl, Nat.le_of_ble_eq_true rfl⟩ (va_Pl (ws := (mW om 1 q cI cZ)) (x := ((xW o u cI cZ cJ) ++ [(ao, .inl (cJ, 1, .inr (.inl (fun _ => 0))))])) hP) hK mW_0 rfl rfl hl.1 (Nat.le_of_ble_eq_true rfl) ⟨Nat.le_of_ble_eq_true rfl, Nat.le_of_ble_eq_true rfl⟩ dL_law_586 ?_
                              refine lv_iload hx hb dL_law_589 (lv_at hl 1 rfl) ?_
                              refine lv_icmp_eq (tgt := 596) hx hb dL_law_591 (by decide) (fun _ => ?_) (fun c => absurd c (by decide))
                              refine lv_iload hx hb dL_law_596 (lv_at hl 1 rfl) ?_
                              refine lv_if_ne (tgt := 613) hx hb dL_law_598 (by decide) (fun _ => ?_) (fun c => absurd c (by decide))
                              refine lv_goto (tgt := 1519) hx hb dL_law_613 (by decide) ?_
                              exact law_tail (C := 121) (Z := 12964) S hr hlocks hX hbl (lv_sub hl [2, 6] rfl) hS (Nat.le_of_ble_eq_true rfl) (Nat.le_of_ble_eq_true rfl)
                      · have ne_x1_10 : ¬ x1 = 10 := d_550
                        by_cases d_550 : x1 = 11
                        · have e_x1 : x1 = 11 := d_550
                          subst e_x1
                          by_cases d_550 : x2 < 0
                          · have hi_x2 : x2 ≤ (-1) := u_lt d_550 (by decide)
                            refine wrap (mW om 0 q cI cZ) (mid := ((xW o u cI cZ cJ) ++ [(ao, .inl (cJ, 1, .inr (.inl (fun _ => 0))))])) (As := [.ref o, .int 11, .int x2, .int x3, .int x4, .ref ao]) S (h_node_27 l D cI cZ cJ o u ao hst ra ga H.size x2 x3 x4 hi_x2) msh_L_node kw_6_20 rfl rfl ⟨Nat.le_of_ble_eq_true rfl, Nat.le_of_ble_eq_true rfl⟩ hP hD hK hS hA hB hC hl.1 (Nat.le_of_ble_eq_true rfl) ⟨Nat.le_of_ble_eq_true rfl, Nat.le_of_ble_eq_true rfl⟩ dL_law_550 (fun H locs hz hP hD hS => ?_)
                            have hP : va_P D vwCl ((mW om 0 q cI cZ) ++ ((xW o u cI cZ cJ) ++ [(ao, .inl (cJ, 1, .inr (.inl (fun _ => 0))))])) H := hP
                            have hD : va_D A ((mW om 0 q cI cZ) ++ ((xW o u cI cZ cJ) ++ [(ao, .inl (cJ, 1, .inr (.inl (fun _ => 0))))])) := hD
                            refine lv_istore (lv' := [(5, .int 1), (4, .int 0), (3, .ref ao), (2, .ref om), (1, .ref o), (0, .ref b)]) hx hb dL_law_553 hl (by decide) rfl (fun ls hl => ?_)
                            refine lv_aload_n hx hb dL_law_555 rfl (lv_at hl 3 rfl) ?_
                            refine lv_aload_n hx hb dL_law_556 rfl (lv_at hl 5 rfl) ?_
                            refine lv_iload hx hb dL_law_557 (lv_at hl 1 rfl) ?_
                            refine lv_iconst (v := 1) hx hb dL_law_559 (by decide) ?_
                            refine xiadd (v := 1) S dL_law_560 (by decide) ?_
                            refine xsld (v := 11) S hX hbl hbA hS (vin rfl) h1 dL_law_561 ?_
                            refine lv_aload_n hx hb dL_law_562 rfl (lv_at hl 5 rfl) ?_
                            refine lv_iload hx hb dL_law_563 (lv_at hl 1 rfl) ?_
                            refine lv_iconst (v := 2) hx hb dL_law_565 (by decide) ?_
                            refine xiadd (v := 2) S dL_law_566 (by decide) ?_
                            refine xsld (v := x2) S hX hbl hbA hS (vin rfl) h2 dL_law_567 ?_
                            refine lv_aload_n hx hb dL_law_568 rfl (lv_at hl 5 rfl) ?_
                            refine lv_iload hx hb dL_law_569 (lv_at hl 1 rfl) ?_
                            refine lv_iconst (v := 3) hx hb dL_law_571 (by decide) ?_
                            refine xiadd (v := 3) S dL_law_572 (by decide) ?_
                            refine xsld (v := x3) S hX hbl hbA hS (vin rfl) h3 dL_law_573 ?_
                            refine lv_aload_n hx hb dL_law_574 rfl (lv_at hl 5 rfl) ?_
                            refine lv_iload hx hb dL_law_575 (lv_at hl 1 rfl) ?_
                            refine lv_iconst (v := 4) hx hb dL_law_577 (by decide) ?_
                            refine xiadd (v := 4) S dL_law_578 (by decide) ?_
                            refine xsld (v := x4) S hX hbl hbA hS (vin rfl) h4 dL_law_579 ?_
                            refine fVi [] ((xW o u cI cZ cJ) ++ [(ao, .inl (cJ, 1, .inr (.inl (fun _ => 0))))]) (mid := (mW om 0 q cI cZ)) (As := [.int 11, .int x2, .int x3, .int x4]) (ci := 9) S (c_X9_node_27 l D cI cZ cJ om q H.size x2 x3 x4 hi_x2) mi_X9_node kw_7_151 rfl rfl ⟨Nat.le_of_ble_eq_true rfl, Nat.le_of_ble_eq_true rfl⟩ hP hD hK hS hA mW_0 rfl rfl hl.1 (Nat.le_of_ble_eq_true rfl) ⟨Nat.le_of_ble_eq_true rfl, Nat.le_of_ble_eq_true rfl⟩ dL_law_580 (fun H locs hz hP hD hS => ?_)
                            have hP : va_P D vwCl ((mW om 1 q cI cZ) ++ ((xW o u cI cZ cJ) ++ [(ao, .inl (cJ, 1, .inr (.inl (fun _ => 0))))])) H := hP
                            have hD : va_D A ((mW om 1 q cI cZ) ++ ((xW o u cI cZ cJ) ++ [(ao, .inl (cJ, 1, .inr (.inl (fun _ => 0))))])) := hD
                            refine lv_istore (lv' := [(6, .int 0), (5, .int 1), (4, .int 0), (3, .ref ao), (2, .ref om), (1, .ref o), (0, .ref b)]) hx hb dL_law_583 hl (by decide) rfl (fun ls hl => ?_)
                            refine lv_aload_n hx hb dL_law_585 rfl (lv_at hl 4 rfl) ?_
                            refine rdV (As := []) (ci := 9) S (c_X9_thrown_0 l D cI cZ cJ om q) mi_X9_thrown kw_7_89 ⟨rfl, rfl⟩ ⟨Nat.le_of_ble_eq_true rfl, Nat.le_of_ble_eq_true rfl⟩ (va_Pl (ws := (mW om 1 q cI cZ)) (x := ((xW o u cI cZ cJ) ++ [(ao, .inl (cJ, 1, .inr (.inl (fun _ => 0))))])) hP) hK mW_0 rfl rfl hl.1 (Nat.le_of_ble_eq_true rfl) ⟨Nat.le_of_ble_eq_true rfl, Nat.le_of_ble_eq_true rfl⟩ dL_law_586 ?_
                            refine lv_iload hx hb dL_law_589 (lv_at hl 1 rfl) ?_
                            refine lv_icmp_eq (tgt := 596) hx hb dL_law_591 (by decide) (fun _ => ?_) (fun c => absurd c (by decide))
                            refine lv_iload hx hb dL_law_596 (lv_at hl 1 rfl) ?_
                            refine lv_if_ne (tgt := 613) hx hb dL_law_598 (by decide) (fun _ => ?_) (fun c => absurd c (by decide))
                            refine lv_goto (tgt := 1519) hx hb dL_law_613 (by decide) ?_
                            exact law_tail (C := 121) (Z := 12964) S hr hlocks hX hbl (lv_sub hl [2, 6] rfl) hS (Nat.le_of_ble_eq_true rfl) (Nat.le_of_ble_eq_true rfl)
                          · have lo_x2 : 0 ≤ x2 := l_nlt d_550
                            by_cases d_550 : 16 ≤ x2
                            · have lo_x2 : 16 ≤ x2 := d_550
                              refine wrap (mW om 0 q cI cZ) (mid := ((xW o u cI cZ cJ) ++ [(ao, .inl (cJ, 1, .inr (.inl (fun _ => 0))))])) (As := [.ref o, .int 11, .int x2, .int x3, .int x4, .ref ao]) S (h_node_28 l D cI cZ cJ o u ao hst ra ga H.size x2 x3 x4 lo_x2) msh_L_node kw_6_20 rfl rfl ⟨Nat.le_of_ble_eq_true rfl, Nat.le_of_ble_eq_true rfl⟩ hP hD hK hS hA hB hC hl.1 (Nat.le_of_ble_eq_true rfl) ⟨Nat.le_of_ble_eq_true rfl, Nat.le_of_ble_eq_true rfl⟩ dL_law_550 (fun H locs hz hP hD hS => ?_)
                              have hP : va_P D vwCl ((mW om 0 q cI cZ) ++ ((xW o u cI cZ cJ) ++ [(ao, .inl (cJ, 1, .inr (.inl (fun _ => 0))))])) H := hP
                              have hD : va_D A ((mW om 0 q cI cZ) ++ ((xW o u cI cZ cJ) ++ [(ao, .inl (cJ, 1, .inr (.inl (fun _ => 0))))])) := hD
                              refine lv_istore (lv' := [(5, .int 1), (4, .int 0), (3, .ref ao), (2, .ref om), (1, .ref o), (0, .ref b)]) hx hb dL_law_553 hl (by decide) rfl (fun ls hl => ?_)
                              refine lv_aload_n hx hb dL_law_555 rfl (lv_at hl 3 rfl) ?_
                              refine lv_aload_n hx hb dL_law_556 rfl (lv_at hl 5 rfl) ?_
                              refine lv_iload hx hb dL_law_557 (lv_at hl 1 rfl) ?_
                              refine lv_iconst (v := 1) hx hb dL_law_559 (by decide) ?_
                              refine xiadd (v := 1) S dL_law_560 (by decide) ?_
                              refine xsld (v := 11) S hX hbl hbA hS (vin rfl) h1 dL_law_561 ?_
                              refine lv_aload_n hx hb dL_law_562 rfl (lv_at hl 5 rfl) ?_
                              refine lv_iload hx hb dL_law_563 (lv_at hl 1 rfl) ?_
                              refine lv_iconst (v := 2) hx hb dL_law_565 (by decide) ?_
                              refine xiadd (v := 2) S dL_law_566 (by decide) ?_
                              refine xsld (v := x2) S hX hbl hbA hS (vin rfl) h2 dL_law_567 ?_
                              refine lv_aload_n hx hb dL_law_568 rfl (lv_at hl 5 rfl) ?_
                              refine lv_iload hx hb dL_law_569 (lv_at hl 1 rfl) ?_
                              refine lv_iconst (v := 3) hx hb dL_law_571 (by decide) ?_
                              refine xiadd (v := 3) S dL_law_572 (by decide) ?_
                              refine xsld (v := x3) S hX hbl hbA hS (vin rfl) h3 dL_law_573 ?_
                              refine lv_aload_n hx hb dL_law_574 rfl (lv_at hl 5 rfl) ?_
                              refine lv_iload hx hb dL_law_575 (lv_at hl 1 rfl) ?_
                              refine lv_iconst (v := 4) hx hb dL_law_577 (by decide) ?_
                              refine xiadd (v := 4) S dL_law_578 (by decide) ?_
                              refine xsld (v := x4) S hX hbl hbA hS (vin rfl) h4 dL_law_579 ?_
                              refine fVi [] ((xW o u cI cZ cJ) ++ [(ao, .inl (cJ, 1, .inr (.inl (fun _ => 0))))]) (mid := (mW om 0 q cI cZ)) (As := [.int 11, .int x2, .int x3, .int x4]) (ci := 9) S (c_X9_node_28 l D cI cZ cJ om q H.size x2 x3 x4 lo_x2) mi_X9_node kw_7_151 rfl rfl ⟨Nat.le_of_ble_eq_true rfl, Nat.le_of_ble_eq_true rfl⟩ hP hD hK hS hA mW_0 rfl rfl hl.1 (Nat.le_of_ble_eq_true rfl) ⟨Nat.le_of_ble_eq_true rfl, Nat.le_of_ble_eq_true rfl⟩ dL_law_580 (fun H locs hz hP hD hS => ?_)
                              have hP : va_P D vwCl ((mW om 1 q cI cZ) ++ ((xW o u cI cZ cJ) ++ [(ao, .inl (cJ, 1, .inr (.inl (fun _ => 0))))])) H := hP
                              have hD : va_D A ((mW om 1 q cI cZ) ++ ((xW o u cI cZ cJ) ++ [(ao, .inl (cJ, 1, .inr (.inl (fun _ => 0))))])) := hD
                              refine lv_istore (lv' := [(6, .int 0), (5, .int 1), (4, .int 0), (3, .ref ao), (2, .ref om), (1, .ref o), (0, .ref b)]) hx hb dL_law_583 hl (by decide) rfl (fun ls hl => ?_)
                              refine lv_aload_n hx hb dL_law_585 rfl (lv_at hl 4 rfl) ?_
                              refine rdV (As := []) (ci := 9) S (c_X9_thrown_0 l D cI cZ cJ om q) mi_X9_thrown kw_7_89 ⟨rfl, rfl⟩ ⟨Nat.le_of_ble_eq_true rfl, Nat.le_of_ble_eq_true rfl⟩ (va_Pl (ws := (mW om 1 q cI cZ)) (x := ((xW o u cI cZ cJ) ++ [(ao, .inl (cJ, 1, .inr (.inl (fun _ => 0))))])) hP) hK mW_0 rfl rfl hl.1 (Nat.le_of_ble_eq_true rfl) ⟨Nat.le_of_ble_eq_true rfl, Nat.le_of_ble_eq_true rfl⟩ dL_law_586 ?_
                              refine lv_iload hx hb dL_law_589 (lv_at hl 1 rfl) ?_
                              refine lv_icmp_eq (tgt := 596) hx hb dL_law_591 (by decide) (fun _ => ?_) (fun c => absurd c (by decide))
                              refine lv_iload hx hb dL_law_596 (lv_at hl 1 rfl) ?_
                              refine lv_if_ne (tgt := 613) hx hb dL_law_598 (by decide) (fun _ => ?_) (fun c => absurd c (by decide))
                              refine lv_goto (tgt := 1519) hx hb dL_law_613 (by decide) ?_
                              exact law_tail (C := 121) (Z := 12964) S hr hlocks hX hbl (lv_sub hl [2, 6] rfl) hS (Nat.le_of_ble_eq_true rfl) (Nat.le_of_ble_eq_true rfl)
                            · have hi_x2 : x2 ≤ 15 := u_nge d_550 (by decide)
                              by_cases d_550 : x3 = 0
                              · have e_x3 : x3 = 0 := d_550
                                subst e_x3
                                by_cases d_550 : x4 = 0
                                · have e_x4 : x4 = 0 := d_550
                                  subst e_x4
                                  refine wrap (mW om 0 q cI cZ) (mid := ((xW o u cI cZ cJ) ++ [(ao, .inl (cJ, 1, .inr (.inl (fun _ => 0))))])) (As := [.ref o, .int 11, .int x2, .int 0, .int 0, .ref ao]) S (h_node_29 l D cI cZ cJ o u ao hst ra ga H.size x2 lo_x2 hi_x2) msh_L_node kw_6_20 rfl rfl ⟨Nat.le_of_ble_eq_true rfl, Nat.le_of_ble_eq_true rfl⟩ hP hD hK hS hA hB hC hl.1 (Nat.le_of_ble_eq_true rfl) ⟨Nat.le_of_ble_eq_true rfl, Nat.le_of_ble_eq_true rfl⟩ dL_law_550 (fun H locs hz hP hD hS => ?_)
                                  have hP : va_P D vwCl ((mW om 0 q cI cZ) ++ (((((((((xW o u cI cZ cJ).set 13 ((u 12), .inr (5, ([.int 0, .ref (u 13), .ref (u 14), .ref (u 15), .ref (u 16), .ref (u 17), .ref (u 18)].set 0 (.int 1))))).set 14 ((u 13), .inl (cI, 110, .inl (upd (fun _ => 0) (0 : Int32).toNatClampNeg 11)))).set 15 ((u 14), .inl (cI, 110, .inl (upd (fun _ => 0) (0 : Int32).toNatClampNeg x2)))).set 16 ((u 15), .inl (cI, 110, .inl (upd (fun _ => 0) (0 : Int32).toNatClampNeg 0)))).set 17 ((u 16), .inl (cI, 110, .inl (upd (fun _ => 0) (0 : Int32).toNatClampNeg 0)))).set 18 ((u 17), .inl (cI, 110, .inl (upd (fun _ => 0) (0 : Int32).toNatClampNeg (-1))))).set 19 ((u 18), .inl (cI, 110, .inl (upd (fun _ => 0) (0 : Int32).toNatClampNeg (-1))))) ++ [(ao, .inl (cJ, 1, .inr (.inl (vp_updL (fun _ => 0) (0 : Int32).toNatClampNeg 0))))])) H := hP
                                  have hD : va_D A ((mW om 0 q cI cZ) ++ (((((((((xW o u cI cZ cJ).set 13 ((u 12), .inr (5, ([.int 0, .ref (u 13), .ref (u 14), .ref (u 15), .ref (u 16), .ref (u 17), .ref (u 18)].set 0 (.int 1))))).set 14 ((u 13), .inl (cI, 110, .inl (upd (fun _ => 0) (0 : Int32).toNatClampNeg 11)))).set 15 ((u 14), .inl (cI, 110, .inl (upd (fun _ => 0) (0 : Int32).toNatClampNeg x2)))).set 16 ((u 15), .inl (cI, 110, .inl (upd (fun _ => 0) (0 : Int32).toNatClampNeg 0)))).set 17 ((u 16), .inl (cI, 110, .inl (upd (fun _ => 0) (0 : Int32).toNatClampNeg 0)))).set 18 ((u 17), .inl (cI, 110, .inl (upd (fun _ => 0) (0 : Int32).toNatClampNeg (-1))))).set 19 ((u 18), .inl (cI, 110, .inl (upd (fun _ => 0) (0 : Int32).toNatClampNeg (-1))))) ++ [(ao, .inl (cJ, 1, .inr (.inl (vp_updL (fun _ => 0) (0 : Int32).toNatClampNeg 0))))])) := hD
                                  refine lv_istore (lv' := [(5, .int 0), (4, .int 0), (3, .ref ao), (2, .ref om), (1, .ref o), (0, .ref b)]) hx hb dL_law_553 hl (by decide) rfl (fun ls hl => ?_)
                                  refine lv_aload_n hx hb dL_law_555 rfl (lv_at hl 3 rfl) ?_
                                  refine lv_aload_n hx hb dL_law_556 rfl (lv_at hl 5 rfl) ?_
                                  refine lv_iload hx hb dL_law_557 (lv_at hl 1 rfl) ?_
                                  refine lv_iconst (v := 1) hx hb dL_law_559 (by decide) ?_
                                  refine xiadd (v := 1) S dL_law_560 (by decide) ?_
                                  refine xsld (v := 11) S hX hbl hbA hS (vin rfl) h1 dL_law_561 ?_
                                  refine lv_aload_n hx hb dL_law_562 rfl (lv_at hl 5 rfl) ?_
                                  refine lv_iload hx hb dL_law_563 (lv_at hl 1 rfl) ?_
                                  refine lv_iconst (v := 2) hx hb dL_law_565 (by decide) ?_
                                  refine xiadd (v := 2) S dL_law_566 (by decide) ?_
                                  refine xsld (v := x2) S hX hbl hbA hS (vin rfl) h2 dL_law_567 ?_
                                  refine lv_aload_n hx hb dL_law_568 rfl (lv_at hl 5 rfl) ?_
                                  refine lv_iload hx hb dL_law_569 (lv_at hl 1 rfl) ?_
                                  refine lv_iconst (v := 3) hx hb dL_law_571 (by decide) ?_
                                  refine xiadd (v := 3) S dL_law_572 (by decide) ?_
                                  refine xsld (v := 0) S hX hbl hbA hS (vin rfl) h3 dL_law_573 ?_
                                  refine lv_aload_n hx hb dL_law_574 rfl (lv_at hl 5 rfl) ?_
                                  refine lv_iload hx hb dL_law_575 (lv_at hl 1 rfl) ?_
                                  refine lv_iconst (v := 4) hx hb dL_law_577 (by decide) ?_
                                  refine xiadd (v := 4) S dL_law_578 (by decide) ?_
                                  refine xsld (v := 0) S hX hbl hbA hS (vin rfl) h4 dL_law_579 ?_
                                  refine fVi [] (((((((((xW o u cI cZ cJ).set 13 ((u 12), .inr (5, ([.int 0, .ref (u 13), .ref (u 14), .ref (u 15), .ref (u 16), .ref (u 17), .ref (u 18)].set 0 (.int 1))))).set 14 ((u 13), .inl (cI, 110, .inl (upd (fun _ => 0) (0 : Int32).toNatClampNeg 11)))).set 15 ((u 14), .inl (cI, 110, .inl (upd (fun _ => 0) (0 : Int32).toNatClampNeg x2)))).set 16 ((u 15), .inl (cI, 110, .inl (upd (fun _ => 0) (0 : Int32).toNatClampNeg 0)))).set 17 ((u 16), .inl (cI, 110, .inl (upd (fun _ => 0) (0 : Int32).toNatClampNeg 0)))).set 18 ((u 17), .inl (cI, 110, .inl (upd (fun _ => 0) (0 : Int32).toNatClampNeg (-1))))).set 19 ((u 18), .inl (cI, 110, .inl (upd (fun _ => 0) (0 : Int32).toNatClampNeg (-1))))) ++ [(ao, .inl (cJ, 1, .inr (.inl (vp_updL (fun _ => 0) (0 : Int32).toNatClampNeg 0))))]) (mid := (mW om 0 q cI cZ)) (As := [.int 11, .int x2, .int 0, .int 0]) (ci := 9) S (c_X9_node_29 l D cI cZ cJ om q H.size x2 lo_x2 hi_x2) mi_X9_node kw_7_151 rfl rfl ⟨Nat.le_of_ble_eq_true rfl, Nat.le_of_ble_eq_true rfl⟩ hP hD hK hS hA mW_0 rfl rfl hl.1 (Nat.le_of_ble_eq_true rfl) ⟨Nat.le_of_ble_eq_true rfl, Nat.le_of_ble_eq_true rfl⟩ dL_law_580 (fun H locs hz hP hD hS => ?_)
                                  have hP : va_P D vwCl (((((((((mW om 0 q cI cZ).set 0 (om, .inr (9, ((mF 0 q).set 13 (.int 1))))).set 12 ((q 11), .inl (cI, 110, .inl (upd (fun _ => 0) (0 : Int32).toNatClampNeg 11)))).set 13 ((q 12), .inl (cI, 110, .inl (upd (fun _ => 0) (0 : Int32).toNatClampNeg x2)))).set 14 ((q 13), .inl (cI, 110, .inl (upd (fun _ => 0) (0 : Int32).toNatClampNeg 0)))).set 15 ((q 14), .inl (cI, 110, .inl (upd (fun _ => 0) (0 : Int32).toNatClampNeg 0)))).set 16 ((q 15), .inl (cI, 110, .inl (upd (fun _ => 0) (0 : Int32).toNatClampNeg (-1))))).set 17 ((q 16), .inl (cI, 110, .inl (upd (fun _ => 0) (0 : Int32).toNatClampNeg (-1))))) ++ (((((((((xW o u cI cZ cJ).set 13 ((u 12), .inr (5, ([.int 0, .ref (u 13), .ref (u 14), .ref (u 15), .ref (u 16), .ref (u 17), .ref (u 18)].set 0 (.int 1))))).set 14 ((u 13), .inl (cI, 110, .inl (upd (fun _ => 0) (0 : Int32).toNatClampNeg 11)))).set 15 ((u 14), .inl (cI, 110, .inl (upd (fun _ => 0) (0 : Int32).toNatClampNeg x2)))).set 16 ((u 15), .inl (cI, 110, .inl (upd (fun _ => 0) (0 : Int32).toNatClampNeg 0)))).set 17 ((u 16), .inl (cI, 110, .inl (upd (fun _ => 0) (0 : Int32).toNatClampNeg 0)))).set 18 ((u 17), .inl (cI, 110, .inl (upd (fun _ => 0) (0 : Int32).toNatClampNeg (-1))))).set 19 ((u 18), .inl (cI, 110, .inl (upd (fun _ => 0) (0 : Int32).toNatClampNeg (-1))))) ++ [(ao, .inl (cJ, 1, .inr (.inl (vp_updL (fun _ => 0) (0 : Int32).toNatClampNeg 0))))])) H := hP
                                  have hD : va_D A (((((((((mW om 0 q cI cZ).set 0 (om, .inr (9, ((mF 0 q).set 13 (.int 1))))).set 12 ((q 11), .inl (cI, 110, .inl (upd (fun _ => 0) (0 : Int32).toNatClampNeg 11)))).set 13 ((q 12), .inl (cI, 110, .inl (upd (fun _ => 0) (0 : Int32).toNatClampNeg x2)))).set 14 ((q 13), .inl (cI, 110, .inl (upd (fun _ => 0) (0 : Int32).toNatClampNeg 0)))).set 15 ((q 14), .inl (cI, 110, .inl (upd (fun _ => 0) (0 : Int32).toNatClampNeg 0)))).set 16 ((q 15), .inl (cI, 110, .inl (upd (fun _ => 0) (0 : Int32).toNatClampNeg (-1))))).set 17 ((q 16), .inl (cI, 110, .inl (upd (fun _ => 0) (0 : Int32).toNatClampNeg (-1))))) ++ (((((((((xW o u cI cZ cJ).set 13 ((u 12), .inr (5, ([.int 0, .ref (u 13), .ref (u 14), .ref (u 15), .ref (u 16), .ref (u 17), .ref (u 18)].set 0 (.int 1))))).set 14 ((u 13), .inl (cI, 110, .inl (upd (fun _ => 0) (0 : Int32).toNatClampNeg 11)))).set 15 ((u 14), .inl (cI, 110, .inl (upd (fun _ => 0) (0 : Int32).toNatClampNeg x2)))).set 16 ((u 15), .inl (cI, 110, .inl (upd (fun _ => 0) (0 : Int32).toNatClampNeg 0)))).set 17 ((u 16), .inl (cI, 110, .inl (upd (fun _ => 0) (0 : Int32).toNatClampNeg 0)))).set 18 ((u 17), .inl (cI, 110, .inl (upd (fun _ => 0) (0 : Int32).toNatClampNeg (-1))))).set 19 ((u 18), .inl (cI, 110, .inl (upd (fun _ => 0) (0 : Int32).toNatClampNeg (-1))))) ++ [(ao, .inl (cJ, 1, .inr (.inl (vp_updL (fun _ => 0) (0 : Int32).toNatClampNeg 0))))])) := hD
                                  refine lv_istore (lv' := [(6, .int 0), (5, .int 0), (4, .int 0), (3, .ref ao), (2, .ref om), (1, .ref o), (0, .ref b)]) hx hb dL_law_583 hl (by decide) rfl (fun ls hl => ?_)
                                  refine lv_aload_n hx hb dL_law_585 rfl (lv_at hl 4 rfl) ?_
                                  refine rdV (As := []) (ci := 9) S (c_X9_thrown_13 l D cI cZ cJ om q x2 lo_x2 hi_x2) mi_X9_thrown kw_7_89 ⟨rfl, rfl⟩ ⟨Nat.le_of_ble_eq_true rfl, Nat.le_of_ble_eq_true rfl⟩ (va_Pl (ws := ((((((((mW om 0 q cI cZ).set 0 (om, .inr (9, ((mF 0 q).set 13 (.int 1))))).set 12 ((q 11), .inl (cI, 110, .inl (upd (fun _ => 0) (0 : Int32).toNatClampNeg 11)))).set 13 ((q 12), .inl (cI, 110, .inl (upd (fun _ => 0) (0 : Int32).toNatClampNeg x2)))).set 14 ((q 13), .inl (cI, 110, .inl (upd (fun _ => 0) (0 : Int32).toNatClampNeg 0)))).set 15 ((q 14), .inl (cI, 110, .inl (upd (fun _ => 0) (0 : Int32).toNatClampNeg 0)))).set 16 ((q 15), .inl (cI, 110, .inl (upd (fun _ => 0) (0 : Int32).toNatClampNeg (-1))))).set 17 ((q 16), .inl (cI, 110, .inl (upd (fun _ => 0) (0 : Int32).toNatClampNeg (-1)))))) (x := (((((((((xW o u cI cZ cJ).set 13 ((u 12), .inr (5, ([.int 0, .ref (u 13), .ref (u 14), .ref (u 15), .ref (u 16), .ref (u 17), .ref (u 18)].set 0 (.int 1))))).set 14 ((u 13), .inl (cI, 110, .inl (upd (fun _ => 0) (0 : Int32).toNatClampNeg 11)))).set 15 ((u 14), .inl (cI, 110, .inl (upd (fun _ => 0) (0 : Int32).toNatClampNeg x2)))).set 16 ((u 15), .inl (cI, 110, .inl (upd (fun _ => 0) (0 : Int32).toNatClampNeg 0)))).set 17 ((u 16), .inl (cI, 110, .inl (upd (fun _ => 0) (0 : Int32).toNatClampNeg 0)))).set 18 ((u 17), .inl (cI, 110, .inl (upd (fun _ => 0) (0 : Int32).toNatClampNeg (-1))))).set 19 ((u 18), .inl (cI, 110, .inl (upd (fun _ => 0) (0 : Int32).toNatClampNeg (-1))))) ++ [(ao, .inl (cJ, 1, .inr (.inl (vp_updL (fun _ => 0) (0 : Int32).toNatClampNeg 0))))])) hP) hK (k := 0) rfl rfl rfl hl.1 (Nat.le_of_ble_eq_true rfl) ⟨Nat.le_of_ble_eq_true rfl, Nat.le_of_ble_eq_true rfl⟩ dL_law_586 ?_
                                  refine lv_iload hx hb dL_law_589 (lv_at hl 1 rfl) ?_
                                  refine lv_icmp_eq (tgt := 596) hx hb dL_law_591 (by decide) (fun _ => ?_) (fun c => absurd c (by decide))
                                  refine lv_iload hx hb dL_law_596 (lv_at hl 1 rfl) ?_
                                  refine lv_if_ne (tgt := 613) hx hb dL_law_598 (by decide) (fun c => absurd c (by decide)) (fun _ => ?_)
                                  refine lv_aload_n hx hb dL_law_601 rfl (lv_at hl 3 rfl) ?_
                                  refine lv_iconst (v := 0) hx hb dL_law_602 (by decide) ?_
                                  refine xlald (t0 := 2) (v := 0) S hK hP (q0 := 119) rfl rfl (vin rfl) rfl dL_law_603 ?_
                                  refine lv_iload hx hb dL_law_604 (lv_at hl 0 rfl) ?_
                                  refine lv_i2l (v := 0) hx hb dL_law_606 (by decide) ?_
                                  refine xlcmp (v := 0) S dL_law_607 (by decide) ?_
                                  refine lv_if_eq (tgt := 613) hx hb dL_law_608 (by decide) (fun _ => ?_) (fun c => absurd c (by decide))
                                  refine lv_goto (tgt := 1519) hx hb dL_law_613 (by decide) ?_
                                  exact law_tail (C := 120) (Z := 12958) S hr hlocks hX hbl (lv_sub hl [2, 6] rfl) hS (Nat.le_of_ble_eq_true rfl) (Nat.le_of_ble_eq_true rfl)
                                · have ne_x4_0 : ¬ x4 = 0 := d_550
                                  refine wrap (mW om 0 q cI cZ) (mid := ((xW o u cI cZ cJ) ++ [(ao, .inl (cJ, 1, .inr (.inl (fun _ => 0))))])) (As := [.ref o, .int 11, .int x2, .int 0, .int x4, .ref ao]) S (h_node_30 l D cI cZ cJ o u ao hst ra ga H.size x2 x4 lo_x2 hi_x2 ne_x4_0) msh_L_node kw_6_20 rfl rfl ⟨Nat.le_of_ble_eq_true rfl, Nat.le_of_ble_eq_true rfl⟩ hP hD hK hS hA hB hC hl.1 (Nat.le_of_ble_eq_true rfl) ⟨Nat.le_of_ble_eq_true rfl, Nat.le_of_ble_eq_true rfl⟩ dL_law_550 (fun H locs hz hP hD hS => ?_)
                                  have hP : va_P D vwCl ((mW om 0 q cI cZ) ++ ((xW o u cI cZ cJ) ++ [(ao, .inl (cJ, 1, .inr (.inl (fun _ => 0))))])) H := hP
                                  have hD : va_D A ((mW om 0 q cI cZ) ++ ((xW o u cI cZ cJ) ++ [(ao, .inl (cJ, 1, .inr (.inl (fun _ => 0))))])) := hD
                                  refine lv_istore (lv' := [(5, .int 1), (4, .int 0), (3, .ref ao), (2, .ref om), (1, .ref o), (0, .ref b)]) hx hb dL_law_553 hl (by decide) rfl (fun ls hl => ?_)
                                  refine lv_aload_n hx hb dL_law_555 rfl (lv_at hl 3 rfl) ?_
                                  refine lv_aload_n hx hb dL_law_556 rfl (lv_at hl 5 rfl) ?_
                                  refine lv_iload hx hb dL_law_557 (lv_at hl 1 rfl) ?_
                                  refine lv_iconst (v := 1) hx hb dL_law_559 (by decide) ?_
                                  refine xiadd (v := 1) S dL_law_560 (by decide) ?_
                                  refine xsld (v := 11) S hX hbl hbA hS (vin rfl) h1 dL_law_561 ?_
                                  refine lv_aload_n hx hb dL_law_562 rfl (lv_at hl 5 rfl) ?_
                                  refine lv_iload hx hb dL_law_563 (lv_at hl 1 rfl) ?_
                                  refine lv_iconst (v := 2) hx hb dL_law_565 (by decide) ?_
                                  refine xiadd (v := 2) S dL_law_566 (by decide) ?_
                                  refine xsld (v := x2) S hX hbl hbA hS (vin rfl) h2 dL_law_567 ?_
                                  refine lv_aload_n hx hb dL_law_568 rfl (lv_at hl 5 rfl) ?_
                                  refine lv_iload hx hb dL_law_569 (lv_at hl 1 rfl) ?_
                                  refine lv_iconst (v := 3) hx hb dL_law_571 (by decide) ?_
                                  refine xiadd (v := 3) S dL_law_572 (by decide) ?_
                                  refine xsld (v := 0) S hX hbl hbA hS (vin rfl) h3 dL_law_573 ?_
                                  refine lv_aload_n hx hb dL_law_574 rfl (lv_at hl 5 rfl) ?_
                                  refine lv_iload hx hb dL_law_575 (lv_at hl 1 rfl) ?_
                                  refine lv_iconst (v := 4) hx hb dL_law_577 (by decide) ?_
                                  refine xiadd (v := 4) S dL_law_578 (by decide) ?_
                                  refine xsld (v := x4) S hX hbl hbA hS (vin rfl) h4 dL_law_579 ?_
                                  refine fVi [] ((xW o u cI cZ cJ) ++ [(ao, .inl (cJ, 1, .inr (.inl (fun _ => 0))))]) (mid := (mW om 0 q cI cZ)) (As := [.int 11, .int x2, .int 0, .int x4]) (ci := 9) S (c_X9_node_30 l D cI cZ cJ om q H.size x2 x4 lo_x2 hi_x2 ne_x4_0) mi_X9_node kw_7_151 rfl rfl ⟨Nat.le_of_ble_eq_true rfl, Nat.le_of_ble_eq_true rfl⟩ hP hD hK hS hA mW_0 rfl rfl hl.1 (Nat.le_of_ble_eq_true rfl) ⟨Nat.le_of_ble_eq_true rfl, Nat.le_of_ble_eq_true rfl⟩ dL_law_580 (fun H locs hz hP hD hS => ?_)
                                  have hP : va_P D vwCl ((mW om 1 q cI cZ) ++ ((xW o u cI cZ cJ) ++ [(ao, .inl (cJ, 1, .inr (.inl (fun _ => 0))))])) H := hP
                                  have hD : va_D A ((mW om 1 q cI cZ) ++ ((xW o u cI cZ cJ) ++ [(ao, .inl (cJ, 1, .inr (.inl (fun _ => 0))))])) := hD
                                  refine lv_istore (lv' := [(6, .int 0), (5, .int 1), (4, .int 0), (3, .ref ao), (2, .ref om), (1, .ref o), (0, .ref b)]) hx hb dL_law_583 hl (by decide) rfl (fun ls hl => ?_)
                                  refine lv_aload_n hx hb dL_law_585 rfl (lv_at hl 4 rfl) ?_
                                  refine rdV (As := []) (ci := 9) S (c_X9_thrown_0 l D cI cZ cJ om q) mi_X9_thrown kw_7_89 ⟨rfl, rfl⟩ ⟨Nat.le_of_ble_eq_true rfl, Nat.le_of_ble_eq_true rfl⟩ (va_Pl (ws := (mW om 1 q cI cZ)) (x := ((xW o u cI cZ cJ) ++ [(ao, .inl (cJ, 1, .inr (.inl (fun _ => 0))))])) hP) hK mW_0 rfl rfl hl.1 (Nat.le_of_ble_eq_true rfl) ⟨Nat.le_of_ble_eq_true rfl, Nat.le_of_ble_eq_true rfl⟩ dL_law_586 ?_
                                  refine lv_iload hx hb dL_law_589 (lv_at hl 1 rfl) ?_
                                  refine lv_icmp_eq (tgt := 596) hx hb dL_law_591 (by decide) (fun _ => ?_) (fun c => absurd c (by decide))
                                  refine lv_iload hx hb dL_law_596 (lv_at hl 1 rfl) ?_
                                  refine lv_if_ne (tgt := 613) hx hb dL_law_598 (by decide) (fun _ => ?_) (fun c => absurd c (by decide))
                                  refine lv_goto (tgt := 1519) hx hb dL_law_613 (by decide) ?_
                                  exact law_tail (C := 121) (Z := 12964) S hr hlocks hX hbl (lv_sub hl [2, 6] rfl) hS (Nat.le_of_ble_eq_true rfl) (Nat.le_of_ble_eq_true rfl)
                              · have ne_x3_0 : ¬ x3 = 0 := d_550
                                refine wrap (mW om 0 q cI cZ) (mid := ((xW o u cI cZ cJ) ++ [(ao, .inl (cJ, 1, .inr (.inl (fun _ => 0))))])) (As := [.ref o, .int 11, .int x2, .int x3, .int x4, .ref ao]) S (h_node_31 l D cI cZ cJ o u ao hst ra ga H.size x2 x3 x4 lo_x2 hi_x2 ne_x3_0) msh_L_node kw_6_20 rfl rfl ⟨Nat.le_of_ble_eq_true rfl, Nat.le_of_ble_eq_true rfl⟩ hP hD hK hS hA hB hC hl.1 (Nat.le_of_ble_eq_true rfl) ⟨Nat.le_of_ble_eq_true rfl, Nat.le_of_ble_eq_true rfl⟩ dL_law_550 (fun H locs hz hP hD hS => ?_)
                                have hP : va_P D vwCl ((mW om 0 q cI cZ) ++ ((xW o u cI cZ cJ) ++ [(ao, .inl (cJ, 1, .inr (.inl (fun _ => 0))))])) H := hP
                                have hD : va_D A ((mW om 0 q cI cZ) ++ ((xW o u cI cZ cJ) ++ [(ao, .inl (cJ, 1, .inr (.inl (fun _ => 0))))])) := hD
                                refine lv_istore (lv' := [(5, .int 1), (4, .int 0), (3, .ref ao), (2, .ref om), (1, .ref o), (0, .ref b)]) hx hb dL_law_553 hl (by decide) rfl (fun ls hl => ?_)
                                refine lv_aload_n hx hb dL_law_555 rfl (lv_at hl 3 rfl) ?_
                                refine lv_aload_n hx hb dL_law_556 rfl (lv_at hl 5 rfl) ?_
                                refine lv_iload hx hb dL_law_557 (lv_at hl 1 rfl) ?_
                                refine lv_iconst (v := 1) hx hb dL_law_559 (by decide) ?_
                                refine xiadd (v := 1) S dL_law_560 (by decide) ?_
                                refine xsld (v := 11) S hX hbl hbA hS (vin rfl) h1 dL_law_561 ?_
                                refine lv_aload_n hx hb dL_law_562 rfl (lv_at hl 5 rfl) ?_
                                refine lv_iload hx hb dL_law_563 (lv_at hl 1 rfl) ?_
                                refine lv_iconst (v := 2) hx hb dL_law_565 (by decide) ?_
                                refine xiadd (v := 2) S dL_law_566 (by decide) ?_
                                refine xsld (v := x2) S hX hbl hbA hS (vin rfl) h2 dL_law_567 ?_
                                refine lv_aload_n hx hb dL_law_568 rfl (lv_at hl 5 rfl) ?_
                                refine lv_iload hx hb dL_law_569 (lv_at hl 1 rfl) ?_
                                refine lv_iconst (v := 3) hx hb dL_law_571 (by decide) ?_
                                refine xiadd (v := 3) S dL_law_572 (by decide) ?_
                                refine xsld (v := x3) S hX hbl hbA hS (vin rfl) h3 dL_law_573 ?_
                                refine lv_aload_n hx hb dL_law_574 rfl (lv_at hl 5 rfl) ?_
                                refine lv_iload hx hb dL_law_575 (lv_at hl 1 rfl) ?_
                                refine lv_iconst (v := 4) hx hb dL_law_577 (by decide) ?_
                                refine xiadd (v := 4) S dL_law_578 (by decide) ?_
                                refine xsld (v := x4) S hX hbl hbA hS (vin rfl) h4 dL_law_579 ?_
                                refine fVi [] ((xW o u cI cZ cJ) ++ [(ao, .inl (cJ, 1, .inr (.inl (fun _ => 0))))]) (mid := (mW om 0 q cI cZ)) (As := [.int 11, .int x2, .int x3, .int x4]) (ci := 9) S (c_X9_node_31 l D cI cZ cJ om q H.size x2 x3 x4 lo_x2 hi_x2 ne_x3_0) mi_X9_node kw_7_151 rfl rfl ⟨Nat.le_of_ble_eq_true rfl, Nat.le_of_ble_eq_true rfl⟩ hP hD hK hS hA mW_0 rfl rfl hl.1 (Nat.le_of_ble_eq_true rfl) ⟨Nat.le_of_ble_eq_true rfl, Nat.le_of_ble_eq_true rfl⟩ dL_law_580 (fun H locs hz hP hD hS => ?_)
                                have hP : va_P D vwCl ((mW om 1 q cI cZ) ++ ((xW o u cI cZ cJ) ++ [(ao, .inl (cJ, 1, .inr (.inl (fun _ => 0))))])) H := hP
                                have hD : va_D A ((mW om 1 q cI cZ) ++ ((xW o u cI cZ cJ) ++ [(ao, .inl (cJ, 1, .inr (.inl (fun _ => 0))))])) := hD
                                refine lv_istore (lv' := [(6, .int 0), (5, .int 1), (4, .int 0), (3, .ref ao), (2, .ref om), (1, .ref o), (0, .ref b)]) hx hb dL_law_583 hl (by decide) rfl (fun ls hl => ?_)
                                refine lv_aload_n hx hb dL_law_585 rfl (lv_at hl 4 rfl) ?_
                                refine rdV (As := []) (ci := 9) S (c_X9_thrown_0 l D cI cZ cJ om q) mi_X9_thrown kw_7_89 ⟨rfl, rfl⟩ ⟨Nat.le_of_ble_eq_true rfl, Nat.le_of_ble_eq_true rfl⟩ (va_Pl (ws := (mW om 1 q cI cZ)) (x := ((xW o u cI cZ cJ) ++ [(ao, .inl (cJ, 1, .inr (.inl (fun _ => 0))))])) hP) hK mW_0 rfl rfl hl.1 (Nat.le_of_ble_eq_true rfl) ⟨Nat.le_of_ble_eq_true rfl, Nat.le_of_ble_eq_true rfl⟩ dL_law_586 ?_
                                refine lv_iload hx hb dL_law_589 (lv_at hl 1 rfl) ?_
                                refine lv_icmp_eq (tgt := 596) hx hb dL_law_591 (by decide) (fun _ => ?_) (fun c => absurd c (by decide))
                                refine lv_iload hx hb dL_law_596 (lv_at hl 1 rfl) ?_
                                refine lv_if_ne (tgt := 613) hx hb dL_law_598 (by decide) (fun _ => ?_) (fun c => absurd c (by decide))
                                refine lv_goto (tgt := 1519) hx hb dL_law_613 (by decide) ?_
                                exact law_tail (C := 121) (Z := 12964) S hr hlocks hX hbl (lv_sub hl [2, 6] rfl) hS (Nat.le_of_ble_eq_true rfl) (Nat.le_of_ble_eq_true rfl)
                        · have ne_x1_11 : ¬ x1 = 11 := d_550
                          by_cases d_550 : x1 = 12
                          · have e_x1 : x1 = 12 := d_550
                            subst e_x1
                            refine wrap (mW om 0 q cI cZ) (mid := ((xW o u cI cZ cJ) ++ [(ao, .inl (cJ, 1, .inr (.inl (fun _ => 0))))])) (As := [.ref o, .int 12, .int x2, .int x3, .int x4, .ref ao]) S (h_node_32 l D cI cZ cJ o u ao hst ra ga H.size x2 x3 x4) msh_L_node kw_6_20 rfl rfl ⟨Nat.le_of_ble_eq_true rfl, Nat.le_of_ble_eq_true rfl⟩ hP hD hK hS hA hB hC hl.1 (Nat.le_of_ble_eq_true rfl) ⟨Nat.le_of_ble_eq_true rfl, Nat.le_of_ble_eq_true rfl⟩ dL_law_550 (fun H locs hz hP hD hS => ?_)
                            have hP : va_P D vwCl ((mW om 0 q cI cZ) ++ ((xW o u cI cZ cJ) ++ [(ao, .inl (cJ, 1, .inr (.inl (fun _ => 0))))])) H := hP
                            have hD : va_D A ((mW om 0 q cI cZ) ++ ((xW o u cI cZ cJ) ++ [(ao, .inl (cJ, 1, .inr (.inl (fun _ => 0))))])) := hD
                            refine lv_istore (lv' := [(5, .int 1), (4, .int 0), (3, .ref ao), (2, .ref om), (1, .ref o), (0, .ref b)]) hx hb dL_law_553 hl (by decide) rfl (fun ls hl => ?_)
                            refine lv_aload_n hx hb dL_law_555 rfl (lv_at hl 3 rfl) ?_
                            refine lv_aload_n hx hb dL_law_556 rfl (lv_at hl 5 rfl) ?_
                            refine lv_iload hx hb dL_law_557 (lv_at hl 1 rfl) ?_
                            refine lv_iconst (v := 1) hx hb dL_law_559 (by decide) ?_
                            refine xiadd (v := 1) S dL_law_560 (by decide) ?_
                            refine xsld (v := 12) S hX hbl hbA hS (vin rfl) h1 dL_law_561 ?_
                            refine lv_aload_n hx hb dL_law_562 rfl (lv_at hl 5 rfl) ?_
                            refine lv_iload hx hb dL_law_563 (lv_at hl 1 rfl) ?_
                            refine lv_iconst (v := 2) hx hb dL_law_565 (by decide) ?_
                            refine xiadd (v := 2) S dL_law_566 (by decide) ?_
                            refine xsld (v := x2) S hX hbl hbA hS (vin rfl) h2 dL_law_567 ?_
                            refine lv_aload_n hx hb dL_law_568 rfl (lv_at hl 5 rfl) ?_
                            refine lv_iload hx hb dL_law_569 (lv_at hl 1 rfl) ?_
                            refine lv_iconst (v := 3) hx hb dL_law_571 (by decide) ?_
                            refine xiadd (v := 3) S dL_law_572 (by decide) ?_
                            refine xsld (v := x3) S hX hbl hbA hS (vin rfl) h3 dL_law_573 ?_
                            refine lv_aload_n hx hb dL_law_574 rfl (lv_at hl 5 rfl) ?_
                            refine lv_iload hx hb dL_law_575 (lv_at hl 1 rfl) ?_
                            refine lv_iconst (v := 4) hx hb dL_law_577 (by decide) ?_
                            refine xiadd (v := 4) S dL_law_578 (by decide) ?_
                            refine xsld (v := x4) S hX hbl hbA hS (vin rfl) h4 dL_law_579 ?_
                            refine fVi [] ((xW o u cI cZ cJ) ++ [(ao, .inl (cJ, 1, .inr (.inl (fun _ => 0))))]) (mid := (mW om 0 q cI cZ)) (As := [.int 12, .int x2, .int x3, .int x4]) (ci := 9) S (c_X9_node_32 l D cI cZ cJ om q H.size x2 x3 x4) mi_X9_node kw_7_151 rfl rfl ⟨Nat.le_of_ble_eq_true rfl, Nat.le_of_ble_eq_true rfl⟩ hP hD hK hS hA mW_0 rfl rfl hl.1 (Nat.le_of_ble_eq_true rfl) ⟨Nat.le_of_ble_eq_true rfl, Nat.le_of_ble_eq_true rfl⟩ dL_law_580 (fun H locs hz hP hD hS => ?_)
                            have hP : va_P D vwCl ((mW om 1 q cI cZ) ++ ((xW o u cI cZ cJ) ++ [(ao, .inl (cJ, 1, .inr (.inl (fun _ => 0))))])) H := hP
                            have hD : va_D A ((mW om 1 q cI cZ) ++ ((xW o u cI cZ cJ) ++ [(ao, .inl (cJ, 1, .inr (.inl (fun _ => 0))))])) := hD
                            refine lv_istore (lv' := [(6, .int 0), (5, .int 1), (4, .int 0), (3, .ref ao), (2, .ref om), (1, .ref o), (0, .ref b)]) hx hb dL_law_583 hl (by decide) rfl (fun ls hl => ?_)
                            refine lv_aload_n hx hb dL_law_585 rfl (lv_at hl 4 rfl) ?_
                            refine rdV (As := []) (ci := 9) S (c_X9_thrown_0 l D cI cZ cJ om q) mi_X9_thrown kw_7_89 ⟨rfl, rfl⟩ ⟨Nat.le_of_ble_eq_true rfl, Nat.le_of_ble_eq_true rfl⟩ (va_Pl (ws := (mW om 1 q cI cZ)) (x := ((xW o u cI cZ cJ) ++ [(ao, .inl (cJ, 1, .inr (.inl (fun _ => 0))))])) hP) hK mW_0 rfl rfl hl.1 (Nat.le_of_ble_eq_true rfl) ⟨Nat.le_of_ble_eq_true rfl, Nat.le_of_ble_eq_true rfl⟩ dL_law_586 ?_
                            refine lv_iload hx hb dL_law_589 (lv_at hl 1 rfl) ?_
                            refine lv_icmp_eq (tgt := 596) hx hb dL_law_591 (by decide) (fun _ => ?_) (fun c => absurd c (by decide))
                            refine lv_iload hx hb dL_law_596 (lv_at hl 1 rfl) ?_
                            refine lv_if_ne (tgt := 613) hx hb dL_law_598 (by decide) (fun _ => ?_) (fun c => absurd c (by decide))
                            refine lv_goto (tgt := 1519) hx hb dL_law_613 (by decide) ?_
                            exact law_tail (C := 121) (Z := 12964) S hr hlocks hX hbl (lv_sub hl [2, 6] rfl) hS (Nat.le_of_ble_eq_true rfl) (Nat.le_of_ble_eq_true rfl)
                          · have ne_x1_12 : ¬ x1 = 12 := d_550
                            by_cases d_550 : x1 = 13
                            · have e_x1 : x1 = 13 := d_550
                              subst e_x1
                              refine wrap (mW om 0 q cI cZ) (mid := ((xW o u cI cZ cJ) ++ [(ao, .inl (cJ, 1, .inr (.inl (fun _ => 0))))])) (As := [.ref o, .int 13, .int x2, .int x3, .int x4, .ref ao]) S (h_node_33 l D cI cZ cJ o u ao hst ra ga H.size x2 x3 x4) msh_L_node kw_6_20 rfl rfl ⟨Nat.le_of_ble_eq_true rfl, Nat.le_of_ble_eq_true rfl⟩ hP hD hK hS hA hB hC hl.1 (Nat.le_of_ble_eq_true rfl) ⟨Nat.le_of_ble_eq_true rfl, Nat.le_of_ble_eq_true rfl⟩ dL_law_550 (fun H locs hz hP hD hS => ?_)
                              have hP : va_P D vwCl ((mW om 0 q cI cZ) ++ ((xW o u cI cZ cJ) ++ [(ao, .inl (cJ, 1, .inr (.inl (fun _ => 0))))])) H := hP
                              have hD : va_D A ((mW om 0 q cI cZ) ++ ((xW o u cI cZ cJ) ++ [(ao, .inl (cJ, 1, .inr (.inl (fun _ => 0))))])) := hD
                              refine lv_istore (lv' := [(5, .int 1), (4, .int 0), (3, .ref ao), (2, .ref om), (1, .ref o), (0, .ref b)]) hx hb dL_law_553 hl (by decide) rfl (fun ls hl => ?_)
                              refine lv_aload_n hx hb dL_law_555 rfl (lv_at hl 3 rfl) ?_
                              refine lv_aload_n hx hb dL_law_556 rfl (lv_at hl 5 rfl) ?_
                              refine lv_iload hx hb dL_law_557 (lv_at hl 1 rfl) ?_
                              refine lv_iconst (v := 1) hx hb dL_law_559 (by decide) ?_
                              refine xiadd (v := 1) S dL_law_560 (by decide) ?_
                              refine xsld (v := 13) S hX hbl hbA hS (vin rfl) h1 dL_law_561 ?_
                              refine lv_aload_n hx hb dL_law_562 rfl (lv_at hl 5 rfl) ?_
                              refine lv_iload hx hb dL_law_563 (lv_at hl 1 rfl) ?_
                              refine lv_iconst (v := 2) hx hb dL_law_565 (by decide) ?_
                              refine xiadd (v := 2) S dL_law_566 (by decide) ?_
                              refine xsld (v := x2) S hX hbl hbA hS (vin rfl) h2 dL_law_567 ?_
                              refine lv_aload_n hx hb dL_law_568 rfl (lv_at hl 5 rfl) ?_
                              refine lv_iload hx hb dL_law_569 (lv_at hl 1 rfl) ?_
                              refine lv_iconst (v := 3) hx hb dL_law_571 (by decide) ?_
                              refine xiadd (v := 3) S dL_law_572 (by decide) ?_
                              refine xsld (v := x3) S hX hbl hbA hS (vin rfl) h3 dL_law_573 ?_
                              refine lv_aload_n hx hb dL_law_574 rfl (lv_at hl 5 rfl) ?_
                              refine lv_iload hx hb dL_law_575 (lv_at hl 1 rfl) ?_
                              refine lv_iconst (v := 4) hx hb dL_law_577 (by decide) ?_
                              refine xiadd (v := 4) S dL_law_578 (by decide) ?_
                              refine xsld (v := x4) S hX hbl hbA hS (vin rfl) h4 dL_law_579 ?_
                              refine fVi [] ((xW o u cI cZ cJ) ++ [(ao, .inl (cJ, 1, .inr (.inl (fun _ => 0))))]) (mid := (mW om 0 q cI cZ)) (As := [.int 13, .int x2, .int x3, .int x4]) (ci := 9) S (c_X9_node_33 l D cI cZ cJ om q H.size x2 x3 x4) mi_X9_node kw_7_151 rfl rfl ⟨Nat.le_of_ble_eq_true rfl, Nat.le_of_ble_eq_true rfl⟩ hP hD hK hS hA mW_0 rfl rfl hl.1 (Nat.le_of_ble_eq_true rfl) ⟨Nat.le_of_ble_eq_true rfl, Nat.le_of_ble_eq_true rfl⟩ dL_law_580 (fun H locs hz hP hD hS => ?_)
                              have hP : va_P D vwCl ((mW om 1 q cI cZ) ++ ((xW o u cI cZ cJ) ++ [(ao, .inl (cJ, 1, .inr (.inl (fun _ => 0))))])) H := hP
                              have hD : va_D A ((mW om 1 q cI cZ) ++ ((xW o u cI cZ cJ) ++ [(ao, .inl (cJ, 1, .inr (.inl (fun _ => 0))))])) := hD
                              refine lv_istore (lv' := [(6, .int 0), (5, .int 1), (4, .int 0), (3, .ref ao), (2, .ref om), (1, .ref o), (0, .ref b)]) hx hb dL_law_583 hl (by decide) rfl (fun ls hl => ?_)
                              refine lv_aload_n hx hb dL_law_585 rfl (lv_at hl 4 rfl) ?_
                              refine rdV (As := []) (ci := 9) S (c_X9_thrown_0 l D cI cZ cJ om q) mi_X9_thrown kw_7_89 ⟨rfl, rfl⟩ ⟨Nat.le_of_ble_eq_true rfl, Nat.le_of_ble_eq_true rfl⟩ (va_Pl (ws := (mW om 1 q cI cZ)) (x := ((xW o u cI cZ cJ) ++ [(ao, .inl (cJ, 1, .inr (.inl (fun _ => 0))))])) hP) hK mW_0 rfl rfl hl.1 (Nat.le_of_ble_eq_true rfl) ⟨Nat.le_of_ble_eq_true rfl, Nat.le_of_ble_eq_true rfl⟩ dL_law_586 ?_
                              refine lv_iload hx hb dL_law_589 (lv_at hl 1 rfl) ?_
                              refine lv_icmp_eq (tgt := 596) hx hb dL_law_591 (by decide) (fun _ => ?_) (fun c => absurd c (by decide))
                              refine lv_iload hx hb dL_law_596 (lv_at hl 1 rfl) ?_
                              refine lv_if_ne (tgt := 613) hx hb dL_law_598 (by decide) (fun _ => ?_) (fun c => absurd c (by decide))
                              refine lv_goto (tgt := 1519) hx hb dL_law_613 (by decide) ?_
                              exact law_tail (C := 121) (Z := 12964) S hr hlocks hX hbl (lv_sub hl [2, 6] rfl) hS (Nat.le_of_ble_eq_true rfl) (Nat.le_of_ble_eq_true rfl)
                            · have ne_x1_13 : ¬ x1 = 13 := d_550
                              by_cases d_550 : x1 = 14
                              · have e_x1 : x1 = 14 := d_550
                                subst e_x1
                                refine wrap (mW om 0 q cI cZ) (mid := ((xW o u cI cZ cJ) ++ [(ao, .inl (cJ, 1, .inr (.inl (fun _ => 0))))])) (As := [.ref o, .int 14, .int x2, .int x3, .int x4, .ref ao]) S (h_node_34 l D cI cZ cJ o u ao hst ra ga H.size x2 x3 x4) msh_L_node kw_6_20 rfl rfl ⟨Nat.le_of_ble_eq_true rfl, Nat.le_of_ble_eq_true rfl⟩ hP hD hK hS hA hB hC hl.1 (Nat.le_of_ble_eq_true rfl) ⟨Nat.le_of_ble_eq_true rfl, Nat.le_of_ble_eq_true rfl⟩ dL_law_550 (fun H locs hz hP hD hS => ?_)
                                have hP : va_P D vwCl ((mW om 0 q cI cZ) ++ ((xW o u cI cZ cJ) ++ [(ao, .inl (cJ, 1, .inr (.inl (fun _ => 0))))])) H := hP
                                have hD : va_D A ((mW om 0 q cI cZ) ++ ((xW o u cI cZ cJ) ++ [(ao, .inl (cJ, 1, .inr (.inl (fun _ => 0))))])) := hD
                                refine lv_istore (lv' := [(5, .int 1), (4, .int 0), (3, .ref ao), (2, .ref om), (1, .ref o), (0, .ref b)]) hx hb dL_law_553 hl (by decide) rfl (fun ls hl => ?_)
                                refine lv_aload_n hx hb dL_law_555 rfl (lv_at hl 3 rfl) ?_
                                refine lv_aload_n hx hb dL_law_556 rfl (lv_at hl 5 rfl) ?_
                                refine lv_iload hx hb dL_law_557 (lv_at hl 1 rfl) ?_
                                refine lv_iconst (v := 1) hx hb dL_law_559 (by decide) ?_
                                refine xiadd (v := 1) S dL_law_560 (by decide) ?_
                                refine xsld (v := 14) S hX hbl hbA hS (vin rfl) h1 dL_law_561 ?_
                                refine lv_aload_n hx hb dL_law_562 rfl (lv_at hl 5 rfl) ?_
                                refine lv_iload hx hb dL_law_563 (lv_at hl 1 rfl) ?_
                                refine lv_iconst (v := 2) hx hb dL_law_565 (by decide) ?_
                                refine xiadd (v := 2) S dL_law_566 (by decide) ?_
                                refine xsld (v := x2) S hX hbl hbA hS (vin rfl) h2 dL_law_567 ?_
                                refine lv_aload_n hx hb dL_law_568 rfl (lv_at hl 5 rfl) ?_
                                refine lv_iload hx hb dL_law_569 (lv_at hl 1 rfl) ?_
                                refine lv_iconst (v := 3) hx hb dL_law_571 (by decide) ?_
                                refine xiadd (v := 3) S dL_law_572 (by decide) ?_
                                refine xsld (v := x3) S hX hbl hbA hS (vin rfl) h3 dL_law_573 ?_
                                refine lv_aload_n hx hb dL_law_574 rfl (lv_at hl 5 rfl) ?_
                                refine lv_iload hx hb dL_law_575 (lv_at hl 1 rfl) ?_
                                refine lv_iconst (v := 4) hx hb dL_law_577 (by decide) ?_
                                refine xiadd (v := 4) S dL_law_578 (by decide) ?_
                                refine xsld (v := x4) S hX hbl hbA hS (vin rfl) h4 dL_law_579 ?_
                                refine fVi [] ((xW o u cI cZ cJ) ++ [(ao, .inl (cJ, 1, .inr (.inl (fun _ => 0))))]) (mid := (mW om 0 q cI cZ)) (As := [.int 14, .int x2, .int x3, .int x4]) (ci := 9) S (c_X9_node_34 l D cI cZ cJ om q H.size x2 x3 x4) mi_X9_node kw_7_151 rfl rfl ⟨Nat.le_of_ble_eq_true rfl, Nat.le_of_ble_eq_true rfl⟩ hP hD hK hS hA mW_0 rfl rfl hl.1 (Nat.le_of_ble_eq_true rfl) ⟨Nat.le_of_ble_eq_true rfl, Nat.le_of_ble_eq_true rfl⟩ dL_law_580 (fun H locs hz hP hD hS => ?_)
                                have hP : va_P D vwCl ((mW om 1 q cI cZ) ++ ((xW o u cI cZ cJ) ++ [(ao, .inl (cJ, 1, .inr (.inl (fun _ => 0))))])) H := hP
                                have hD : va_D A ((mW om 1 q cI cZ) ++ ((xW o u cI cZ cJ) ++ [(ao, .inl (cJ, 1, .inr (.inl (fun _ => 0))))])) := hD
                                refine lv_istore (lv' := [(6, .int 0), (5, .int 1), (4, .int 0), (3, .ref ao), (2, .ref om), (1, .ref o), (0, .ref b)]) hx hb dL_law_583 hl (by decide) rfl (fun ls hl => ?_)
                                refine lv_aload_n hx hb dL_law_585 rfl (lv_at hl 4 rfl) ?_
                                refine rdV (As := []) (ci := 9) S (c_X9_thrown_0 l D cI cZ cJ om q) mi_X9_thrown kw_7_89 ⟨rfl, rfl⟩ ⟨Nat.le_of_ble_eq_true rfl, Nat.le_of_ble_eq_true rfl⟩ (va_Pl (ws := (mW om 1 q cI cZ)) (x := ((xW o u cI cZ cJ) ++ [(ao, .inl (cJ, 1, .inr (.inl (fun _ => 0))))])) hP) hK mW_0 rfl rfl hl.1 (Nat.le_of_ble_eq_true rfl) ⟨Nat.le_of_ble_eq_true rfl, Nat.le_of_ble_eq_true rfl⟩ dL_law_586 ?_
                                refine lv_iload hx hb dL_law_589 (lv_at hl 1 rfl) ?_
                                refine lv_icmp_eq (tgt := 596) hx hb dL_law_591 (by decide) (fun _ => ?_) (fun c => absurd c (by decide))
                                refine lv_iload hx hb dL_law_596 (lv_at hl 1 rfl) ?_
                                refine lv_if_ne (tgt := 613) hx hb dL_law_598 (by decide) (fun _ => ?_) (fun c => absurd c (by decide))
                                refine lv_goto (tgt := 1519) hx hb dL_law_613 (by decide) ?_
                                exact law_tail (C := 121) (Z := 12964) S hr hlocks hX hbl (lv_sub hl [2, 6] rfl) hS (Nat.le_of_ble_eq_true rfl) (Nat.le_of_ble_eq_true rfl)
                              · have ne_x1_14 : ¬ x1 = 14 := d_550
                                by_cases d_550 : x1 = 15
                                · have e_x1 : x1 = 15 := d_550
                                  subst e_x1
                                  refine wrap (mW om 0 q cI cZ) (mid := ((xW o u cI cZ cJ) ++ [(ao, .inl (cJ, 1, .inr (.inl (fun _ => 0))))])) (As := [.ref o, .int 15, .int x2, .int x3, .int x4, .ref ao]) S (h_node_35 l D cI cZ cJ o u ao hst ra ga H.size x2 x3 x4) msh_L_node kw_6_20 rfl rfl ⟨Nat.le_of_ble_eq_true rfl, Nat.le_of_ble_eq_true rfl⟩ hP hD hK hS hA hB hC hl.1 (Nat.le_of_ble_eq_true rfl) ⟨Nat.le_of_ble_eq_true rfl, Nat.le_of_ble_eq_true rfl⟩ dL_law_550 (fun H locs hz hP hD hS => ?_)
                                  have hP : va_P D vwCl ((mW om 0 q cI cZ) ++ ((xW o u cI cZ cJ) ++ [(ao, .inl (cJ, 1, .inr (.inl (fun _ => 0))))])) H := hP
                                  have hD : va_D A ((mW om 0 q cI cZ) ++ ((xW o u cI cZ cJ) ++ [(ao, .inl (cJ, 1, .inr (.inl (fun _ => 0))))])) := hD
                                  refine lv_istore (lv' := [(5, .int 1), (4, .int 0), (3, .ref ao), (2, .ref om), (1, .ref o), (0, .ref b)]) hx hb dL_law_553 hl (by decide) rfl (fun ls hl => ?_)
                                  refine lv_aload_n hx hb dL_law_555 rfl (lv_at hl 3 rfl) ?_
                                  refine lv_aload_n hx hb dL_law_556 rfl (lv_at hl 5 rfl) ?_
                                  refine lv_iload hx hb dL_law_557 (lv_at hl 1 rfl) ?_
                                  refine lv_iconst (v := 1) hx hb dL_law_559 (by decide) ?_
                                  refine xiadd (v := 1) S dL_law_560 (by decide) ?_
                                  refine xsld (v := 15) S hX hbl hbA hS (vin rfl) h1 dL_law_561 ?_
                                  refine lv_aload_n hx hb dL_law_562 rfl (lv_at hl 5 rfl) ?_
                                  refine lv_iload hx hb dL_law_563 (lv_at hl 1 rfl) ?_
                                  refine lv_iconst (v := 2) hx hb dL_law_565 (by decide) ?_
                                  refine xiadd (v := 2) S dL_law_566 (by decide) ?_
                                  refine xsld (v := x2) S hX hbl hbA hS (vin rfl) h2 dL_law_567 ?_
                                  refine lv_aload_n hx hb dL_law_568 rfl (lv_at hl 5 rfl) ?_
                                  refine lv_iload hx hb dL_law_569 (lv_at hl 1 rfl) ?_
                                  refine lv_iconst (v := 3) hx hb dL_law_571 (by decide) ?_
                                  refine xiadd (v := 3) S dL_law_572 (by decide) ?_
                                  refine xsld (v := x3) S hX hbl hbA hS (vin rfl) h3 dL_law_573 ?_
                                  refine lv_aload_n hx hb dL_law_574 rfl (lv_at hl 5 rfl) ?_
                                  refine lv_iload hx hb dL_law_575 (lv_at hl 1 rfl) ?_
                                  refine lv_iconst (v := 4) hx hb dL_law_577 (by decide) ?_
                                  refine xiadd (v := 4) S dL_law_578 (by decide) ?_
                                  refine xsld (v := x4) S hX hbl hbA hS (vin rfl) h4 dL_law_579 ?_
                                  refine fVi [] ((xW o u cI cZ cJ) ++ [(ao, .inl (cJ, 1, .inr (.inl (fun _ => 0))))]) (mid := (mW om 0 q cI cZ)) (As := [.int 15, .int x2, .int x3, .int x4]) (ci := 9) S (c_X9_node_35 l D cI cZ cJ om q H.size x2 x3 x4) mi_X9_node kw_7_151 rfl rfl ⟨Nat.le_of_ble_eq_true rfl, Nat.le_of_ble_eq_true rfl⟩ hP hD hK hS hA mW_0 rfl rfl hl.1 (Nat.le_of_ble_eq_true rfl) ⟨Nat.le_of_ble_eq_true rfl, Nat.le_of_ble_eq_true rfl⟩ dL_law_580 (fun H locs hz hP hD hS => ?_)
                                  have hP : va_P D vwCl ((mW om 1 q cI cZ) ++ ((xW o u cI cZ cJ) ++ [(ao, .inl (cJ, 1, .inr (.inl (fun _ => 0))))])) H := hP
                                  have hD : va_D A ((mW om 1 q cI cZ) ++ ((xW o u cI cZ cJ) ++ [(ao, .inl (cJ, 1, .inr (.inl (fun _ => 0))))])) := hD
                                  refine lv_istore (lv' := [(6, .int 0), (5, .int 1), (4, .int 0), (3, .ref ao), (2, .ref om), (1, .ref o), (0, .ref b)]) hx hb dL_law_583 hl (by decide) rfl (fun ls hl => ?_)
                                  refine lv_aload_n hx hb dL_law_585 rfl (lv_at hl 4 rfl) ?_
                                  refine rdV (As := []) (ci := 9) S (c_X9_thrown_0 l D cI cZ cJ om q) mi_X9_thrown kw_7_89 ⟨rfl, rfl⟩ ⟨Nat.le_of_ble_eq_true rfl, Nat.le_of_ble_eq_true rfl⟩ (va_Pl (ws := (mW om 1 q cI cZ)) (x := ((xW o u cI cZ cJ) ++ [(ao, .inl (cJ, 1, .inr (.inl (fun _ => 0))))])) hP) hK mW_0 rfl rfl hl.1 (Nat.le_of_ble_eq_true rfl) ⟨Nat.le_of_ble_eq_true rfl, Nat.le_of_ble_eq_true rfl⟩ dL_law_586 ?_
                                  refine lv_iload hx hb dL_law_589 (lv_at hl 1 rfl) ?_
                                  refine lv_icmp_eq (tgt := 596) hx hb dL_law_591 (by decide) (fun _ => ?_) (fun c => absurd c (by decide))
                                  refine lv_iload hx hb dL_law_596 (lv_at hl 1 rfl) ?_
                                  refine lv_if_ne (tgt := 613) hx hb dL_law_598 (by decide) (fun _ => ?_) (fun c => absurd c (by decide))
                                  refine lv_goto (tgt := 1519) hx hb dL_law_613 (by decide) ?_
                                  exact law_tail (C := 121) (Z := 12964) S hr hlocks hX hbl (lv_sub hl [2, 6] rfl) hS (Nat.le_of_ble_eq_true rfl) (Nat.le_of_ble_eq_true rfl)
                                · have ne_x1_15 : ¬ x1 = 15 := d_550
                                  by_cases d_550 : x1 = 16
                                  · have e_x1 : x1 = 16 := d_550
                                    subst e_x1
                                    refine wrap (mW om 0 q cI cZ) (mid := ((xW o u cI cZ cJ) ++ [(ao, .inl (cJ, 1, .inr (.inl (fun _ => 0))))])) (As := [.ref o, .int 16, .int x2, .int x3, .int x4, .ref ao]) S (h_node_36 l D cI cZ cJ o u ao hst ra ga H.size x2 x3 x4) msh_L_node kw_6_20 rfl rfl ⟨Nat.le_of_ble_eq_true rfl, Nat.le_of_ble_eq_true rfl⟩ hP hD hK hS hA hB hC hl.1 (Nat.le_of_ble_eq_true rfl) ⟨Nat.le_of_ble_eq_true rfl, Nat.le_of_ble_eq_true rfl⟩ dL_law_550 (fun H locs hz hP hD hS => ?_)
                                    have hP : va_P D vwCl ((mW om 0 q cI cZ) ++ ((xW o u cI cZ cJ) ++ [(ao, .inl (cJ, 1, .inr (.inl (fun _ => 0))))])) H := hP
                                    have hD : va_D A ((mW om 0 q cI cZ) ++ ((xW o u cI cZ cJ) ++ [(ao, .inl (cJ, 1, .inr (.inl (fun _ => 0))))])) := hD
                                    refine lv_istore (lv' := [(5, .int 1), (4, .int 0), (3, .ref ao), (2, .ref om), (1, .ref o), (0, .ref b)]) hx hb dL_law_553 hl (by decide) rfl (fun ls hl => ?_)
                                    refine lv_aload_n hx hb dL_law_555 rfl (lv_at hl 3 rfl) ?_
                                    refine lv_aload_n hx hb dL_law_556 rfl (lv_at hl 5 rfl) ?_
                                    refine lv_iload hx hb dL_law_557 (lv_at hl 1 rfl) ?_
                                    refine lv_iconst (v := 1) hx hb dL_law_559 (by decide) ?_
                                    refine xiadd (v := 1) S dL_law_560 (by decide) ?_
                                    refine xsld (v := 16) S hX hbl hbA hS (vin rfl) h1 dL_law_561 ?_
                                    refine lv_aload_n hx hb dL_law_562 rfl (lv_at hl 5 rfl) ?_
                                    refine lv_iload hx hb dL_law_563 (lv_at hl 1 rfl) ?_
                                    refine lv_iconst (v := 2) hx hb dL_law_565 (by decide) ?_
                                    refine xiadd (v := 2) S dL_law_566 (by decide) ?_
                                    refine xsld (v := x2) S hX hbl hbA hS (vin rfl) h2 dL_law_567 ?_
                                    refine lv_aload_n hx hb dL_law_568 rfl (lv_at hl 5 rfl) ?_
                                    refine lv_iload hx hb dL_law_569 (lv_at hl 1 rfl) ?_
                                    refine lv_iconst (v := 3) hx hb dL_law_571 (by decide) ?_
                                    refine xiadd (v := 3) S dL_law_572 (by decide) ?_
                                    refine xsld (v := x3) S hX hbl hbA hS (vin rfl) h3 dL_law_573 ?_
                                    refine lv_aload_n hx hb dL_law_574 rfl (lv_at hl 5 rfl) ?_
                                    refine lv_iload hx hb dL_law_575 (lv_at hl 1 rfl) ?_
                                    refine lv_iconst (v := 4) hx hb dL_law_577 (by decide) ?_
                                    refine xiadd (v := 4) S dL_law_578 (by decide) ?_
                                    refine xsld (v := x4) S hX hbl hbA hS (vin rfl) h4 dL_law_579 ?_
                                    refine fVi [] ((xW o u cI cZ cJ) ++ [(ao, .inl (cJ, 1, .inr (.inl (fun _ => 0))))]) (mid := (mW om 0 q cI cZ)) (As := [.int 16, .int x2, .int x3, .int x4]) (ci := 9) S (c_X9_node_36 l D cI cZ cJ om q H.size x2 x3 x4) mi_X9_node kw_7_151 rfl rfl ⟨Nat.le_of_ble_eq_true rfl, Nat.le_of_ble_eq_true rfl⟩ hP hD hK hS hA mW_0 rfl rfl hl.1 (Nat.le_of_ble_eq_true rfl) ⟨Nat.le_of_ble_eq_true rfl, Nat.le_of_ble_eq_true rfl⟩ dL_law_580 (fun H locs hz hP hD hS => ?_)
                                    have hP : va_P D vwCl ((mW om 1 q cI cZ) ++ ((xW o u cI cZ cJ) ++ [(ao, .inl (cJ, 1, .inr (.inl (fun _ => 0))))])) H := hP
                                    have hD : va_D A ((mW om 1 q cI cZ) ++ ((xW o u cI cZ cJ) ++ [(ao, .inl (cJ, 1, .inr (.inl (fun _ => 0))))])) := hD
                                    refine lv_istore (lv' := [(6, .int 0), (5, .int 1), (4, .int 0), (3, .ref ao), (2, .ref om), (1, .ref o), (0, .ref b)]) hx hb dL_law_583 hl (by decide) rfl (fun ls hl => ?_)
                                    refine lv_aload_n hx hb dL_law_585 rfl (lv_at hl 4 rfl) ?_
                                    refine rdV (As := []) (ci := 9) S (c_X9_thrown_0 l D cI cZ cJ om q) mi_X9_thrown kw_7_89 ⟨rfl, rfl⟩ ⟨Nat.le_of_ble_eq_true rfl, Nat.le_of_ble_eq_true rfl⟩ (va_Pl (ws := (mW om 1 q cI cZ)) (x := ((xW o u cI cZ cJ) ++ [(ao, .inl (cJ, 1, .inr (.inl (fun _ => 0))))])) hP) hK mW_0 rfl rfl hl.1 (Nat.le_of_ble_eq_true rfl) ⟨Nat.le_of_ble_eq_true rfl, Nat.le_of_ble_eq_true rfl⟩ dL_law_586 ?_
                                    refine lv_iload hx hb dL_law_589 (lv_at hl 1 rfl) ?_
                                    refine lv_icmp_eq (tgt := 596) hx hb dL_law_591 (by decide) (fun _ => ?_) (fun c => absurd c (by decide))
                                    refine lv_iload hx hb dL_law_596 (lv_at hl 1 rfl) ?_
                                    refine lv_if_ne (tgt := 613) hx hb dL_law_598 (by decide) (fun _ => ?_) (fun c => absurd c (by decide))
                                    refine lv_goto (tgt := 1519) hx hb dL_law_613 (by decide) ?_
                                    exact law_tail (C := 121) (Z := 12964) S hr hlocks hX hbl (lv_sub hl [2, 6] rfl) hS (Nat.le_of_ble_eq_true rfl) (Nat.le_of_ble_eq_true rfl)
                                  · have ne_x1_16 : ¬ x1 = 16 := d_550
                                    by_cases d_550 : x1 = 17
                                    · have e_x1 : x1 = 17 := d_550
                                      subst e_x1
                                      by_cases d_550 : x2 < 0
                                      · have hi_x2 : x2 ≤ (-1) := u_lt d_550 (by decide)
                                        refine wrap (mW om 0 q cI cZ) (mid := ((xW o u cI cZ cJ) ++ [(ao, .inl (cJ, 1, .inr (.inl (fun _ => 0))))])) (As := [.ref o, .int 17, .int x2, .int x3, .int x4, .ref ao]) S (h_node_37 l D cI cZ cJ o u ao hst ra ga H.size x2 x3 x4 hi_x2) msh_L_node kw_6_20 rfl rfl ⟨Nat.le_of_ble_eq_true rfl, Nat.le_of_ble_eq_true rfl⟩ hP hD hK hS hA hB hC hl.1 (Nat.le_of_ble_eq_true rfl) ⟨Nat.le_of_ble_eq_true rfl, Nat.le_of_ble_eq_true rfl⟩ dL_law_550 (fun H locs hz hP hD hS => ?_)
                                        have hP : va_P D vwCl ((mW om 0 q cI cZ) ++ ((xW o u cI cZ cJ) ++ [(ao, .inl (cJ, 1, .inr (.inl (fun _ => 0))))])) H := hP
                                        have hD : va_D A ((mW om 0 q cI cZ) ++ ((xW o u cI cZ cJ) ++ [(ao, .inl (cJ, 1, .inr (.inl (fun _ => 0))))])) := hD
                                        refine lv_istore (lv' := [(5, .int 1), (4, .int 0), (3, .ref ao), (2, .ref om), (1, .ref o), (0, .ref b)]) hx hb dL_law_553 hl (by decide) rfl (fun ls hl => ?_)
                                        refine lv_aload_n hx hb dL_law_555 rfl (lv_at hl 3 rfl) ?_
                                        refine lv_aload_n hx hb dL_law_556 rfl (lv_at hl 5 rfl) ?_
                                        refine lv_iload hx hb dL_law_557 (lv_at hl 1 rfl) ?_
                                        refine lv_iconst (v := 1) hx hb dL_law_559 (by decide) ?_
                                        refine xiadd (v := 1) S dL_law_560 (by decide) ?_
                                        refine xsld (v := 17) S hX hbl hbA hS (vin rfl) h1 dL_law_561 ?_
                                        refine lv_aload_n hx hb dL_law_562 rfl (lv_at hl 5 rfl) ?_
                                        refine lv_iload hx hb dL_law_563 (lv_at hl 1 rfl) ?_
                                        refine lv_iconst (v := 2) hx hb dL_law_565 (by decide) ?_
                                        refine xiadd (v := 2) S dL_law_566 (by decide) ?_
                                        refine xsld (v := x2) S hX hbl hbA hS (vin rfl) h2 dL_law_567 ?_
                                        refine lv_aload_n hx hb dL_law_568 rfl (lv_at hl 5 rfl) ?_
                                        refine lv_iload hx hb dL_law_569 (lv_at hl 1 rfl) ?_
                                        refine lv_iconst (v := 3) hx hb dL_law_571 (by decide) ?_
                                        refine xiadd (v := 3) S dL_law_572 (by decide) ?_
                                        refine xsld (v := x3) S hX hbl hbA hS (vin rfl) h3 dL_law_573 ?_
                                        refine lv_aload_n hx hb dL_law_574 rfl (lv_at hl 5 rfl) ?_
                                        refine lv_iload hx hb dL_law_575 (lv_at hl 1 rfl) ?_
                                        refine lv_iconst (v := 4) hx hb dL_law_577 (by decide) ?_
                                        refine xiadd (v := 4) S dL_law_578 (by decide) ?_
                                        refine xsld (v := x4) S hX hbl hbA hS (vin rfl) h4 dL_law_579 ?_
                                        refine fVi [] ((xW o u cI cZ cJ) ++ [(ao, .inl (cJ, 1, .inr (.inl (fun _ => 0))))]) (mid := (mW om 0 q cI cZ)) (As := [.int 17, .int x2, .int x3, .int x4]) (ci := 9) S (c_X9_node_37 l D cI cZ cJ om q H.size x2 x3 x4 hi_x2) mi_X9_node kw_7_151 rfl rfl ⟨Nat.le_of_ble_eq_true rfl, Nat.le_of_ble_eq_true rfl⟩ hP hD hK hS hA mW_0 rfl rfl hl.1 (Nat.le_of_ble_eq_true rfl) ⟨Nat.le_of_ble_eq_true rfl, Nat.le_of_ble_eq_true rfl⟩ dL_law_580 (fun H locs hz hP hD hS => ?_)
                                        have hP : va_P D vwCl ((mW om 1 q cI cZ) ++ ((xW o u cI cZ cJ) ++ [(ao, .inl (cJ, 1, .inr (.inl (fun _ => 0))))])) H := hP
                                        have hD : va_D A ((mW om 1 q cI cZ) ++ ((xW o u cI cZ cJ) ++ [(ao, .inl (cJ, 1, .inr (.inl (fun _ => 0))))])) := hD
                                        refine lv_istore (lv' := [(6, .int 0), (5, .int 1), (4, .int 0), (3, .ref ao), (2, .ref om), (1, .ref o), (0, .ref b)]) hx hb dL_law_583 hl (by decide) rfl (fun ls hl => ?_)
                                        refine lv_aload_n hx hb dL_law_585 rfl (lv_at hl 4 rfl) ?_
                                        refine rdV (As := []) (ci := 9) S (c_X9_thrown_0 l D cI cZ cJ om q) mi_X9_thrown kw_7_89 ⟨rfl, rfl⟩ ⟨Nat.le_of_ble_eq_true rfl, Nat.le_of_ble_eq_true rfl⟩ (va_Pl (ws := (mW om 1 q cI cZ)) (x := ((xW o u cI cZ cJ) ++ [(ao, .inl (cJ, 1, .inr (.inl (fun _ => 0))))])) hP) hK mW_0 rfl rfl hl.1 (Nat.le_of_ble_eq_true rfl) ⟨Nat.le_of_ble_eq_true rfl, Nat.le_of_ble_eq_true rfl⟩ dL_law_586 ?_
                                        refine lv_iload hx hb dL_law_589 (lv_at hl 1 rfl) ?_
                                        refine lv_icmp_eq (tgt := 596) hx hb dL_law_591 (by decide) (fun _ => ?_) (fun c => absurd c (by decide))
                                        refine lv_iload hx hb dL_law_596 (lv_at hl 1 rfl) ?_
                                        refine lv_if_ne (tgt := 613) hx hb dL_law_598 (by decide) (fun _ => ?_) (fun c => absurd c (by decide))
                                        refine lv_goto (tgt := 1519) hx hb dL_law_613 (by decide) ?_
                                        exact law_tail (C := 121) (Z := 12964) S hr hlocks hX hbl (lv_sub hl [2, 6] rfl) hS (Nat.le_of_ble_eq_true rfl) (Nat.le_of_ble_eq_true rfl)
                                      · have lo_x2 : 0 ≤ x2 := l_nlt d_550
                                        by_cases d_550 : 10 ≤ x2
                                        · have lo_x2 : 10 ≤ x2 := d_550
                                          refine wrap (mW om 0 q cI cZ) (mid := ((xW o u cI cZ cJ) ++ [(ao, .inl (cJ, 1, .inr (.inl (fun _ => 0))))])) (As := [.ref o, .int 17, .int x2, .int x3, .int x4, .ref ao]) S (h_node_38 l D cI cZ cJ o u ao hst ra ga H.size x2 x3 x4 lo_x2) msh_L_node kw_6_20 rfl rfl ⟨Nat.le_of_ble_eq_true rfl, Nat.le_of_ble_eq_true rfl⟩ hP hD hK hS hA hB hC hl.1 (Nat.le_of_ble_eq_true rfl) ⟨Nat.le_of_ble_eq_true rfl, Nat.le_of_ble_eq_true rfl⟩ dL_law_550 (fun H locs hz hP hD hS => ?_)
                                          have hP : va_P D vwCl ((mW om 0 q cI cZ) ++ ((xW o u cI cZ cJ) ++ [(ao, .inl (cJ, 1, .inr (.inl (fun _ => 0))))])) H := hP
                                          have hD : va_D A ((mW om 0 q cI cZ) ++ ((xW o u cI cZ cJ) ++ [(ao, .inl (cJ, 1, .inr (.inl (fun _ => 0))))])) := hD
                                          refine lv_istore (lv' := [(5, .int 1), (4, .int 0), (3, .ref ao), (2, .ref om), (1, .ref o), (0, .ref b)]) hx hb dL_law_553 hl (by decide) rfl (fun ls hl => ?_)
                                          refine lv_aload_n hx hb dL_law_555 rfl (lv_at hl 3 rfl) ?_
                                          refine lv_aload_n hx hb dL_law_556 rfl (lv_at hl 5 rfl) ?_
                                          refine lv_iload hx hb dL_law_557 (lv_at hl 1 rfl) ?_
                                          refine lv_iconst (v := 1) hx hb dL_law_559 (by decide) ?_
                                          refine xiadd (v := 1) S dL_law_560 (by decide) ?_
                                          refine xsld (v := 17) S hX hbl hbA hS (vin rfl) h1 dL_law_561 ?_
                                          refine lv_aload_n hx hb dL_law_562 rfl (lv_at hl 5 rfl) ?_
                                          refine lv_iload hx hb dL_law_563 (lv_at hl 1 rfl) ?_
                                          refine lv_iconst (v := 2) hx hb dL_law_565 (by decide) ?_
                                          refine xiadd (v := 2) S dL_law_566 (by decide) ?_
                                          refine xsld (v := x2) S hX hbl hbA hS (vin rfl) h2 dL_law_567 ?_
                                          refine lv_aload_n hx hb dL_law_568 rfl (lv_at hl 5 rfl) ?_
                                          refine lv_iload hx hb dL_law_569 (lv_at hl 1 rfl) ?_
                                          refine lv_iconst (v := 3) hx hb dL_law_571 (by decide) ?_
                                          refine xiadd (v := 3) S dL_law_572 (by decide) ?_
                                          refine xsld (v := x3) S hX hbl hbA hS (vin rfl) h3 dL_law_573 ?_
                                          refine lv_aload_n hx hb dL_law_574 rfl (lv_at hl 5 rfl) ?_
                                          refine lv_iload hx hb dL_law_575 (lv_at hl 1 rfl) ?_
                                          refine lv_iconst (v := 4) hx hb dL_law_577 (by decide) ?_
                                          refine xiadd (v := 4) S dL_law_578 (by decide) ?_
                                          refine xsld (v := x4) S hX hbl hbA hS (vin rfl) h4 dL_law_579 ?_
                                          refine fVi [] ((xW o u cI cZ cJ) ++ [(ao, .inl (cJ, 1, .inr (.inl (fun _ => 0))))]) (mid := (mW om 0 q cI cZ)) (As := [.int 17, .int x2, .int x3, .int x4]) (ci := 9) S (c_X9_node_38 l D cI cZ cJ om q H.size x2 x3 x4 lo_x2) mi_X9_node kw_7_151 rfl rfl ⟨Nat.le_of_ble_eq_true rfl, Nat.le_of_ble_eq_true rfl⟩ hP hD hK hS hA mW_0 rfl rfl hl.1 (Nat.le_of_ble_eq_true rfl) ⟨Nat.le_of_ble_eq_true rfl, Nat.le_of_ble_eq_true rfl⟩ dL_law_580 (fun H locs hz hP hD hS => ?_)
                                          have hP : va_P D vwCl ((mW om 1 q cI cZ) ++ ((xW o u cI cZ cJ) ++ [(ao, .inl (cJ, 1, .inr (.inl (fun _ => 0))))])) H := hP
                                          have hD : va_D A ((mW om 1 q cI cZ) ++ ((xW o u cI cZ cJ) ++ [(ao, .inl (cJ, 1, .inr (.inl (fun _ => 0))))])) := hD
                                          refine lv_istore (lv' := [(6, .int 0), (5, .int 1), (4, .int 0), (3, .ref ao), (2, .ref om), (1, .ref o), (0, .ref b)]) hx hb dL_law_583 hl (by decide) rfl (fun ls hl => ?_)
                                          refine lv_aload_n hx hb dL_law_585 rfl (lv_at hl 4 rfl) ?_
                                          refine rdV (As := []) (ci := 9) S (c_X9_thrown_0 l D cI cZ cJ om q) mi_X9_thrown kw_7_89 ⟨rfl, rfl⟩ ⟨Nat.le_of_ble_eq_true rfl, Nat.le_of_ble_eq_true rfl⟩ (va_Pl (ws := (mW om 1 q cI cZ)) (x := ((xW o u cI cZ cJ) ++ [(ao, .inl (cJ, 1, .inr (.inl (fun _ => 0))))])) hP) hK mW_0 rfl rfl hl.1 (Nat.le_of_ble_eq_true rfl) ⟨Nat.le_of_ble_eq_true rfl, Nat.le_of_ble_eq_true rfl⟩ dL_law_586 ?_
                                          refine lv_iload hx hb dL_law_589 (lv_at hl 1 rfl) ?_
                                          refine lv_icmp_eq (tgt := 596) hx hb dL_law_591 (by decide) (fun _ => ?_) (fun c => absurd c (by decide))
                                          refine lv_iload hx hb dL_law_596 (lv_at hl 1 rfl) ?_
                                          refine lv_if_ne (tgt := 613) hx hb dL_law_598 (by decide) (fun _ => ?_) (fun c => absurd c (by decide))
                                          refine lv_goto (tgt := 1519) hx hb dL_law_613 (by decide) ?_
                                          exact law_tail (C := 121) (Z := 12964) S hr hlocks hX hbl (lv_sub hl [2, 6] rfl) hS (Nat.le_of_ble_eq_true rfl) (Nat.le_of_ble_eq_true rfl)
                                        · have hi_x2 : x2 ≤ 9 := u_nge d_550 (by decide)
                                          by_cases d_550 : x3 = 0
                                          · have e_x3 : x3 = 0 := d_550
                                            subst e_x3
                                            by_cases d_550 : x4 = 0
                                            · have e_x4 : x4 = 0 := d_550
                                              subst e_x4
                                              refine wrap (mW om 0 q cI cZ) (mid := ((xW o u cI cZ cJ) ++ [(ao, .inl (cJ, 1, .inr (.inl (fun _ => 0))))])) (As := [.ref o, .int 17, .int x2, .int 0, .int 0, .ref ao]) S (h_node_39 l D cI cZ cJ o u ao hst ra ga H.size x2 lo_x2 hi_x2) msh_L_node kw_6_20 rfl rfl ⟨Nat.le_of_ble_eq_true rfl, Nat.le_of_ble_eq_true rfl⟩ hP hD hK hS hA hB hC hl.1 (Nat.le_of_ble_eq_true rfl) ⟨Nat.le_of_ble_eq_true rfl, Nat.le_of_ble_eq_true rfl⟩ dL_law_550 (fun H locs hz hP hD hS => ?_)
                                              have hP : va_P D vwCl ((mW om 0 q cI cZ) ++ (((((((((xW o u cI cZ cJ).set 13 ((u 12), .inr (5, ([.int 0, .ref (u 13), .ref (u 14), .ref (u 15), .ref (u 16), .ref (u 17), .ref (u 18)].set 0 (.int 1))))).set 14 ((u 13), .inl (cI, 110, .inl (upd (fun _ => 0) (0 : Int32).toNatClampNeg 17)))).set 15 ((u 14), .inl (cI, 110, .inl (upd (fun _ => 0) (0 : Int32).toNatClampNeg x2)))).set 16 ((u 15), .inl (cI, 110, .inl (upd (fun _ => 0) (0 : Int32).toNatClampNeg 0)))).set 17 ((u 16), .inl (cI, 110, .inl (upd (fun _ => 0) (0 : Int32).toNatClampNeg 0)))).set 18 ((u 17), .inl (cI, 110, .inl (upd (fun _ => 0) (0 : Int32).toNatClampNeg (-1))))).set 19 ((u 18), .inl (cI, 110, .inl (upd (fun _ => 0) (0 : Int32).toNatClampNeg (-1))))) ++ [(ao, .inl (cJ, 1, .inr (.inl (vp_updL (fun _ => 0) (0 : Int32).toNatClampNeg 0))))])) H := hP
                                              have hD : va_D A ((mW om 0 q cI cZ) ++ (((((((((xW o u cI cZ cJ).set 13 ((u 12), .inr (5, ([.int 0, .ref (u 13), .ref (u 14), .ref (u 15), .ref (u 16), .ref (u 17), .ref (u 18)].set 0 (.int 1))))).set 14 ((u 13), .inl (cI, 110, .inl (upd (fun _ => 0) (0 : Int32).toNatClampNeg 17)))).set 15 ((u 14), .inl (cI, 110, .inl (upd (fun _ => 0) (0 : Int32).toNatClampNeg x2)))).set 16 ((u 15), .inl (cI, 110, .inl (upd (fun _ => 0) (0 : Int32).toNatClampNeg 0)))).set 17 ((u 16), .inl (cI, 110, .inl (upd (fun _ => 0) (0 : Int32).toNatClampNeg 0)))).set 18 ((u 17), .inl (cI, 110, .inl (upd (fun _ => 0) (0 : Int32).toNatClampNeg (-1))))).set 19 ((u 18), .inl (cI, 110, .inl (upd (fun _ => 0) (0 : Int32).toNatClampNeg (-1))))) ++ [(ao, .inl (cJ, 1, .inr (.inl (vp_updL (fun _ => 0) (0 : Int32).toNatClampNeg 0))))])) := hD
                                              refine lv_istore (lv' := [(5, .int 0), (4, .int 0), (3, .ref ao), (2, .ref om), (1, .ref o), (0, .ref b)]) hx hb dL_law_553 hl (by decide) rfl (fun ls hl => ?_)
                                              refine lv_aload_n hx hb dL_law_555 rfl (lv_at hl 3 rfl) ?_
                                              refine lv_aload_n hx hb dL_law_556 rfl (lv_at hl 5 rfl) ?_
                                              refine lv_iload hx hb dL_law_557 (lv_at hl 1 rfl) ?_
                                              refine lv_iconst (v := 1) hx hb dL_law_559 (by decide) ?_
                                              refine xiadd (v := 1) S dL_law_560 (by decide) ?_
                                              refine xsld (v := 17) S hX hbl hbA hS (vin rfl) h1 dL_law_561 ?_
                                              refine lv_aload_n hx hb dL_law_562 rfl (lv_at hl 5 rfl) ?_
                                              refine lv_iload hx hb dL_law_563 (lv_at hl 1 rfl) ?_
                                              refine lv_iconst (v := 2) hx hb dL_law_565 (by decide) ?_
                                              refine xiadd (v := 2) S dL_law_566 (by decide) ?_
                                              refine xsld (v := x2) S hX hbl hbA hS (vin rfl) h2 dL_law_567 ?_
                                              refine lv_aload_n hx hb dL_law_568 rfl (lv_at hl 5 rfl) ?_
                                              refine lv_iload hx hb dL_law_569 (lv_at hl 1 rfl) ?_
                                              refine lv_iconst (v := 3) hx hb dL_law_571 (by decide) ?_
                                              refine xiadd (v := 3) S dL_law_572 (by decide) ?_
                                              refine xsld (v := 0) S hX hbl hbA hS (vin rfl) h3 dL_law_573 ?_
                                              refine lv_aload_n hx hb dL_law_574 rfl (lv_at hl 5 rfl) ?_
                                              refine lv_iload hx hb dL_law_575 (lv_at hl 1 rfl) ?_
                                              refine lv_iconst (v := 4) hx hb dL_law_577 (by decide) ?_
                                              refine xiadd (v := 4) S dL_law_578 (by decide) ?_
                                              refine xsld (v := 0) S hX hbl hbA hS (vin rfl) h4 dL_law_579 ?_
                                              refine fVi [] (((((((((xW o u cI cZ cJ).set 13 ((u 12), .inr (5, ([.int 0, .ref (u 13), .ref (u 14), .ref (u 15), .ref (u 16), .ref (u 17), .ref (u 18)].set 0 (.int 1))))).set 14 ((u 13), .inl (cI, 110, .inl (upd (fun _ => 0) (0 : Int32).toNatClampNeg 17)))).set 15 ((u 14), .inl (cI, 110, .inl (upd (fun _ => 0) (0 : Int32).toNatClampNeg x2)))).set 16 ((u 15), .inl (cI, 110, .inl (upd (fun _ => 0) (0 : Int32).toNatClampNeg 0)))).set 17 ((u 16), .inl (cI, 110, .inl (upd (fun _ => 0) (0 : Int32).toNatClampNeg 0)))).set 18 ((u 17), .inl (cI, 110, .inl (upd (fun _ => 0) (0 : Int32).toNatClampNeg (-1))))).set 19 ((u 18), .inl (cI, 110, .inl (upd (fun _ => 0) (0 : Int32).toNatClampNeg (-1))))) ++ [(ao, .inl (cJ, 1, .inr (.inl (vp_updL (fun _ => 0) (0 : Int32).toNatClampNeg 0))))]) (mid := (mW om 0 q cI cZ)) (As := [.int 17, .int x2, .int 0, .int 0]) (ci := 9) S (c_X9_node_39 l D cI cZ cJ om q H.size x2 lo_x2 hi_x2) mi_X9_node kw_7_151 rfl rfl ⟨Nat.le_of_ble_eq_true rfl, Nat.le_of_ble_eq_true rfl⟩ hP hD hK hS hA mW_0 rfl rfl hl.1 (Nat.le_of_ble_eq_true rfl) ⟨Nat.le_of_ble_eq_true rfl, Nat.le_of_ble_eq_true rfl⟩ dL_law_580 (fun H locs hz hP hD hS => ?_)
                                              have hP : va_P D vwCl (((((((((mW om 0 q cI cZ).set 0 (om, .inr (9, ((mF 0 q).set 13 (.int 1))))).set 12 ((q 11), .inl (cI, 110, .inl (upd (fun _ => 0) (0 : Int32).toNatClampNeg 17)))).set 13 ((q 12), .inl (cI, 110, .inl (upd (fun _ => 0) (0 : Int32).toNatClampNeg x2)))).set 14 ((q 13), .inl (cI, 110, .inl (upd (fun _ => 0) (0 : Int32).toNatClampNeg 0)))).set 15 ((q 14), .inl (cI, 110, .inl (upd (fun _ => 0) (0 : Int32).toNatClampNeg 0)))).set 16 ((q 15), .inl (cI, 110, .inl (upd (fun _ => 0) (0 : Int32).toNatClampNeg (-1))))).set 17 ((q 16), .inl (cI, 110, .inl (upd (fun _ => 0) (0 : Int32).toNatClampNeg (-1))))) ++ (((((((((xW o u cI cZ cJ).set 13 ((u 12), .inr (5, ([.int 0, .ref (u 13), .ref (u 14), .ref (u 15), .ref (u 16), .ref (u 17), .ref (u 18)].set 0 (.int 1))))).set 14 ((u 13), .inl (cI, 110, .inl (upd (fun _ => 0) (0 : Int32).toNatClampNeg 17)))).set 15 ((u 14), .inl (cI, 110, .inl (upd (fun _ => 0) (0 : Int32).toNatClampNeg x2)))).set 16 ((u 15), .inl (cI, 110, .inl (upd (fun _ => 0) (0 : Int32).toNatClampNeg 0)))).set 17 ((u 16), .inl (cI, 110, .inl (upd (fun _ => 0) (0 : Int32).toNatClampNeg 0)))).set 18 ((u 17), .inl (cI, 110, .inl (upd (fun _ => 0) (0 : Int32).toNatClampNeg (-1))))).set 19 ((u 18), .inl (cI, 110, .inl (upd (fun _ => 0) (0 : Int32).toNatClampNeg (-1))))) ++ [(ao, .inl (cJ, 1, .inr (.inl (vp_updL (fun _ => 0) (0 : Int32).toNatClampNeg 0))))])) H := hP
                                              have hD : va_D A (((((((((mW om 0 q cI cZ).set 0 (om, .inr (9, ((mF 0 q).set 13 (.int 1))))).set 12 ((q 11), .inl (cI, 110, .inl (upd (fun _ => 0) (0 : Int32).toNatClampNeg 17)))).set 13 ((q 12), .inl (cI, 110, .inl (upd (fun _ => 0) (0 : Int32).toNatClampNeg x2)))).set 14 ((q 13), .inl (cI, 110, .inl (upd (fun _ => 0) (0 : Int32).toNatClampNeg 0)))).set 15 ((q 14), .inl (cI, 110, .inl (upd (fun _ => 0) (0 : Int32).toNatClampNeg 0)))).set 16 ((q 15), .inl (cI, 110, .inl (upd (fun _ => 0) (0 : Int32).toNatClampNeg (-1))))).set 17 ((q 16), .inl (cI, 110, .inl (upd (fun _ => 0) (0 : Int32).toNatClampNeg (-1))))) ++ (((((((((xW o u cI cZ cJ).set 13 ((u 12), .inr (5, ([.int 0, .ref (u 13), .ref (u 14), .ref (u 15), .ref (u 16), .ref (u 17), .ref (u 18)].set 0 (.int 1))))).set 14 ((u 13), .inl (cI, 110, .inl (upd (fun _ => 0) (0 : Int32).toNatClampNeg 17)))).set 15 ((u 14), .inl (cI, 110, .inl (upd (fun _ => 0) (0 : Int32).toNatClampNeg x2)))).set 16 ((u 15), .inl (cI, 110, .inl (upd (fun _ => 0) (0 : Int32).toNatClampNeg 0)))).set 17 ((u 16), .inl (cI, 110, .inl (upd (fun _ => 0) (0 : Int32).toNatClampNeg 0)))).set 18 ((u 17), .inl (cI, 110, .inl (upd (fun _ => 0) (0 : Int32).toNatClampNeg (-1))))).set 19 ((u 18), .inl (cI, 110, .inl (upd (fun _ => 0) (0 : Int32).toNatClampNeg (-1))))) ++ [(ao, .inl (cJ, 1, .inr (.inl (vp_updL (fun _ => 0) (0 : Int32).toNatClampNeg 0))))])) := hD
                                              refine lv_istore (lv' := [(6, .int 0), (5, .int 0), (4, .int 0), (3, .ref ao), (2, .ref om), (1, .ref o), (0, .ref b)]) hx hb dL_law_583 hl (by decide) rfl (fun ls hl => ?_)
                                              refine lv_aload_n hx hb dL_law_585 rfl (lv_at hl 4 rfl) ?_
                                              refine rdV (As := []) (ci := 9) S (c_X9_thrown_14 l D cI cZ cJ om q x2 lo_x2 hi_x2) mi_X9_thrown kw_7_89 ⟨rfl, rfl⟩ ⟨Nat.le_of_ble_eq_true rfl, Nat.le_of_ble_eq_true rfl⟩ (va_Pl (ws := ((((((((mW om 0 q cI cZ).set 0 (om, .inr (9, ((mF 0 q).set 13 (.int 1))))).set 12 ((q 11), .inl (cI, 110, .inl (upd (fun _ => 0) (0 : Int32).toNatClampNeg 17)))).set 13 ((q 12), .inl (cI, 110, .inl (upd (fun _ => 0) (0 : Int32).toNatClampNeg x2)))).set 14 ((q 13), .inl (cI, 110, .inl (upd (fun _ => 0) (0 : Int32).toNatClampNeg 0)))).set 15 ((q 14), .inl (cI, 110, .inl (upd (fun _ => 0) (0 : Int32).toNatClampNeg 0)))).set 16 ((q 15), .inl (cI, 110, .inl (upd (fun _ => 0) (0 : Int32).toNatClampNeg (-1))))).set 17 ((q 16), .inl (cI, 110, .inl (upd (fun _ => 0) (0 : Int32).toNatClampNeg (-1)))))) (x := (((((((((xW o u cI cZ cJ).set 13 ((u 12), .inr (5, ([.int 0, .ref (u 13), .ref (u 14), .ref (u 15), .ref (u 16), .ref (u 17), .ref (u 18)].set 0 (.int 1))))).set 14 ((u 13), .inl (cI, 110, .inl (upd (fun _ => 0) (0 : Int32).toNatClampNeg 17)))).set 15 ((u 14), .inl (cI, 110, .inl (upd (fun _ => 0) (0 : Int32).toNatClampNeg x2)))).set 16 ((u 15), .inl (cI, 110, .inl (upd (fun _ => 0) (0 : Int32).toNatClampNeg 0)))).set 17 ((u 16), .inl (cI, 110, .inl (upd (fun _ => 0) (0 : Int32).toNatClampNeg 0)))).set 18 ((u 17), .inl (cI, 110, .inl (upd (fun _ => 0) (0 : Int32).toNatClampNeg (-1))))).set 19 ((u 18), .inl (cI, 110, .inl (upd (fun _ => 0) (0 : Int32).toNatClampNeg (-1))))) ++ [(ao, .inl (cJ, 1, .inr (.inl (vp_updL (fun _ => 0) (0 : Int32).toNatClampNeg 0))))])) hP) hK (k := 0) rfl rfl rfl hl.1 (Nat.le_of_ble_eq_true rfl) ⟨Nat.le_of_ble_eq_true rfl, Nat.le_of_ble_eq_true rfl⟩ dL_law_586 ?_
                                              refine lv_iload hx hb dL_law_589 (lv_at hl 1 rfl) ?_
                                              refine lv_icmp_eq (tgt := 596) hx hb dL_law_591 (by decide) (fun _ => ?_) (fun c => absurd c (by decide))
                                              refine lv_iload hx hb dL_law_596 (lv_at hl 1 rfl) ?_
                                              refine lv_if_ne (tgt := 613) hx hb dL_law_598 (by decide) (fun c => absurd c (by decide)) (fun _ => ?_)
                                              refine lv_aload_n hx hb dL_law_601 rfl (lv_at hl 3 rfl) ?_
                                              refine lv_iconst (v := 0) hx hb dL_law_602 (by decide) ?_
                                              refine xlald (t0 := 2) (v := 0) S hK hP (q0 := 119) rfl rfl (vin rfl) rfl dL_law_603 ?_
                                              refine lv_iload hx hb dL_law_604 (lv_at hl 0 rfl) ?_
                                              refine lv_i2l (v := 0) hx hb dL_law_606 (by decide) ?_
                                              refine xlcmp (v := 0) S dL_law_607 (by decide) ?_
                                              refine lv_if_eq (tgt := 613) hx hb dL_law_608 (by decide) (fun _ => ?_) (fun c => absurd c (by decide))
                                              refine lv_goto (tgt := 1519) hx hb dL_law_613 (by decide) ?_
                                              exact law_tail (C := 120) (Z := 12958) S hr hlocks hX hbl (lv_sub hl [2, 6] rfl) hS (Nat.le_of_ble_eq_true rfl) (Nat.le_of_ble_eq_true rfl)
                                            · have ne_x4_0 : ¬ x4 = 0 := d_550
                                              refine wrap (mW om 0 q cI cZ) (mid := ((xW o u cI cZ cJ) ++ [(ao, .inl (cJ, 1, .inr (.inl (fun _ => 0))))])) (As := [.ref o, .int 17, .int x2, .int 0, .int x4, .ref ao]) S (h_node_40 l D cI cZ cJ o u ao hst ra ga H.size x2 x4 lo_x2 hi_x2 ne_x4_0) msh_L_node kw_6_20 rfl rfl ⟨Nat.le_of_ble_eq_true rfl, Nat.le_of_ble_eq_true rfl⟩ hP hD hK hS hA hB hC hl.1 (Nat.le_of_ble_eq_true rfl) ⟨Nat.le_of_ble_eq_true rfl, Nat.le_of_ble_eq_true rfl⟩ dL_law_550 (fun H locs hz hP hD hS => ?_)
                                              have hP : va_P D vwCl ((mW om 0 q cI cZ) ++ ((xW o u cI cZ cJ) ++ [(ao, .inl (cJ, 1, .inr (.inl (fun _ => 0))))])) H := hP
                                              have hD : va_D A ((mW om 0 q cI cZ) ++ ((xW o u cI cZ cJ) ++ [(ao, .inl (cJ, 1, .inr (.inl (fun _ => 0))))])) := hD
                                              refine lv_istore (lv' := [(5, .int 1), (4, .int 0), (3, .ref ao), (2, .ref om), (1, .ref o), (0, .ref b)]) hx hb dL_law_553 hl (by decide) rfl (fun ls hl => ?_)
                                              refine lv_aload_n hx hb dL_law_555 rfl (lv_at hl 3 rfl) ?_
                                              refine lv_aload_n hx hb dL_law_556 rfl (lv_at hl 5 rfl) ?_
                                              refine lv_iload hx hb dL_law_557 (lv_at hl 1 rfl) ?_
                                              refine lv_iconst (v := 1) hx hb dL_law_559 (by decide) ?_
                                              refine xiadd (v := 1) S dL_law_560 (by decide) ?_
                                              refine xsld (v := 17) S hX hbl hbA hS (vin rfl) h1 dL_law_561 ?_
                                              refine lv_aload_n hx hb dL_law_562 rfl (lv_at hl 5 rfl) ?_
                                              refine lv_iload hx hb dL_law_563 (lv_at hl 1 rfl) ?_
                                              refine lv_iconst (v := 2) hx hb dL_law_565 (by decide) ?_
                                              refine xiadd (v := 2) S dL_law_566 (by decide) ?_
                                              refine xsld (v := x2) S hX hbl hbA hS (vin rfl) h2 dL_law_567 ?_
                                              refine lv_aload_n hx hb dL_law_568 rfl (lv_at hl 5 rfl) ?_
                                              refine lv_iload hx hb dL_law_569 (lv_at hl 1 rfl) ?_
                                              refine lv_iconst (v := 3) hx hb dL_law_571 (by decide) ?_
                                              refine xiadd (v := 3) S dL_law_572 (by decide) ?_
                                              refine xsld (v := 0) S hX hbl hbA hS (vin rfl) h3 dL_law_573 ?_
                                              refine lv_aload_n hx hb dL_law_574 rfl (lv_at hl 5 rfl) ?_
                                              refine lv_iload hx hb dL_law_575 (lv_at hl 1 rfl) ?_
                                              refine lv_iconst (v := 4) hx hb dL_law_577 (by decide) ?_
                                              refine xiadd (v := 4) S dL_law_578 (by decide) ?_
                                              refine xsld (v := x4) S hX hbl hbA hS (vin rfl) h4 dL_law_579 ?_
                                              refine fVi [] ((xW o u cI cZ cJ) ++ [(ao, .inl (cJ, 1, .inr (.inl (fun _ => 0))))]) (mid := (mW om 0 q cI cZ)) (As := [.int 17, .int x2, .int 0, .int x4]) (ci := 9) S (c_X9_node_40 l D cI cZ cJ om q H.size x2 x4 lo_x2 hi_x2 ne_x4_0) mi_X9_node kw_7_151 rfl rfl ⟨Nat.le_of_ble_eq_true rfl, Nat.le_of_ble_eq_true rfl⟩ hP hD hK hS hA mW_0 rfl rfl hl.1 (Nat.le_of_ble_eq_true rfl) ⟨Nat.le_of_ble_eq_true rfl, Nat.le_of_ble_eq_true rfl⟩ dL_law_580 (fun H locs hz hP hD hS => ?_)
                                              have hP : va_P D vwCl ((mW om 1 q cI cZ) ++ ((xW o u cI cZ cJ) ++ [(ao, .inl (cJ, 1, .inr (.inl (fun _ => 0))))])) H := hP
                                              have hD : va_D A ((mW om 1 q cI cZ) ++ ((xW o u cI cZ cJ) ++ [(ao, .inl (cJ, 1, .inr (.inl (fun _ => 0))))])) := hD
                                              refine lv_istore (lv' := [(6, .int 0), (5, .int 1), (4, .int 0), (3, .ref ao), (2, .ref om), (1, .ref o), (0, .ref b)]) hx hb dL_law_583 hl (by decide) rfl (fun ls hl => ?_)
                                              refine lv_aload_n hx hb dL_law_585 rfl (lv_at hl 4 rfl) ?_
                                              refine rdV (As := []) (ci := 9) S (c_X9_thrown_0 l D cI cZ cJ om q) mi_X9_thrown kw_7_89 ⟨rfl, rfl⟩ ⟨Nat.le_of_ble_eq_true rfl, Nat.le_of_ble_eq_true rfl⟩ (va_Pl (ws := (mW om 1 q cI cZ)) (x := ((xW o u cI cZ cJ) ++ [(ao, .inl (cJ, 1, .inr (.inl (fun _ => 0))))])) hP) hK mW_0 rfl rfl hl.1 (Nat.le_of_ble_eq_true rfl) ⟨Nat.le_of_ble_eq_true rfl, Nat.le_of_ble_eq_true rfl⟩ dL_law_586 ?_
                                              refine lv_iload hx hb dL_law_589 (lv_at hl 1 rfl) ?_
                                              refine lv_icmp_eq (tgt := 596) hx hb dL_law_591 (by decide) (fun _ => ?_) (fun c => absurd c (by decide))
                                              refine lv_iload hx hb dL_law_596 (lv_at hl 1 rfl) ?_
                                              refine lv_if_ne (tgt := 613) hx hb dL_law_598 (by decide) (fun _ => ?_) (fun c => absurd c (by decide))
                                              refine lv_goto (tgt := 1519) hx hb dL_law_613 (by decide) ?_
                                              exact law_tail (C := 121) (Z := 12964) S hr hlocks hX hbl (lv_sub hl [2, 6] rfl) hS (Nat.le_of_ble_eq_true rfl) (Nat.le_of_ble_eq_true rfl)
                                          · have ne_x3_0 : ¬ x3 = 0 := d_550
                                            refine wrap (mW om 0 q cI cZ) (mid := ((xW o u cI cZ cJ) ++ [(ao, .inl (cJ, 1, .inr (.inl (fun _ => 0))))])) (As := [.ref o, .int 17, .int x2, .int x3, .int x4, .ref ao]) S (h_node_41 l D cI cZ cJ o u ao hst ra ga H.size x2 x3 x4 lo_x2 hi_x2 ne_x3_0) msh_L_node kw_6_20 rfl rfl ⟨Nat.le_of_ble_eq_true rfl, Nat.le_of_ble_eq_true rfl⟩ hP hD hK hS hA hB hC hl.1 (Nat.le_of_ble_eq_true rfl) ⟨Nat.le_of_ble_eq_true rfl, Nat.le_of_ble_eq_true rfl⟩ dL_law_550 (fun H locs hz hP hD hS => ?_)
                                            have hP : va_P D vwCl ((mW om 0 q cI cZ) ++ ((xW o u cI cZ cJ) ++ [(ao, .inl (cJ, 1, .inr (.inl (fun _ => 0))))])) H := hP
                                            have hD : va_D A ((mW om 0 q cI cZ) ++ ((xW o u cI cZ cJ) ++ [(ao, .inl (cJ, 1, .inr (.inl (fun _ => 0))))])) := hD
                                            refine lv_istore (lv' := [(5, .int 1), (4, .int 0), (3, .ref ao), (2, .ref om), (1, .ref o), (0, .ref b)]) hx hb dL_law_553 hl (by decide) rfl (fun ls hl => ?_)
                                            refine lv_aload_n hx hb dL_law_555 rfl (lv_at hl 3 rfl) ?_
                                            refine lv_aload_n hx hb dL_law_556 rfl (lv_at hl 5 rfl) ?_
                                            refine lv_iload hx hb dL_law_557 (lv_at hl 1 rfl) ?_
                                            refine lv_iconst (v := 1) hx hb dL_law_559 (by decide) ?_
                                            refine xiadd (v := 1) S dL_law_560 (by decide) ?_
                                            refine xsld (v := 17) S hX hbl hbA hS (vin rfl) h1 dL_law_561 ?_
                                            refine lv_aload_n hx hb dL_law_562 rfl (lv_at hl 5 rfl) ?_
                                            refine lv_iload hx hb dL_law_563 (lv_at hl 1 rfl) ?_
                                            refine lv_iconst (v := 2) hx hb dL_law_565 (by decide) ?_
                                            refine xiadd (v := 2) S dL_law_566 (by decide) ?_
                                            refine xsld (v := x2) S hX hbl hbA hS (vin rfl) h2 dL_law_567 ?_
                                            refine lv_aload_n hx hb dL_law_568 rfl (lv_at hl 5 rfl) ?_
                                            refine lv_iload hx hb dL_law_569 (lv_at hl 1 rfl) ?_
                                            refine lv_iconst (v := 3) hx hb dL_law_571 (by decide) ?_
                                            refine xiadd (v := 3) S dL_law_572 (by decide) ?_
                                            refine xsld (v := x3) S hX hbl hbA hS (vin rfl) h3 dL_law_573 ?_
                                            refine lv_aload_n hx hb dL_law_574 rfl (lv_at hl 5 rfl) ?_
                                            refine lv_iload hx hb dL_law_575 (lv_at hl 1 rfl) ?_
                                            refine lv_iconst (v := 4) hx hb dL_law_577 (by decide) ?_
                                            refine xiadd (v := 4) S dL_law_578 (by decide) ?_
                                            refine xsld (v := x4) S hX hbl hbA hS (vin rfl) h4 dL_law_579 ?_
                                            refine fVi [] ((xW o u cI cZ cJ) ++ [(ao, .inl (cJ, 1, .inr (.inl (fun _ => 0))))]) (mid := (mW om 0 q cI cZ)) (As := [.int 17, .int x2, .int x3, .int x4]) (ci := 9) S (c_X9_node_41 l D cI cZ cJ om q H.size x2 x3 x4 lo_x2 hi_x2 ne_x3_0) mi_X9_node kw_7_151 rfl rfl ⟨Nat.le_of_ble_eq_true rfl, Nat.le_of_ble_eq_true rfl⟩ hP hD hK hS hA mW_0 rfl rfl hl.1 (Nat.le_of_ble_eq_true rfl) ⟨Nat.le_of_ble_eq_true rfl, Nat.le_of_ble_eq_true rfl⟩ dL_law_580 (fun H locs hz hP hD hS => ?_)
                                            have hP : va_P D vwCl ((mW om 1 q cI cZ) ++ ((xW o u cI cZ cJ) ++ [(ao, .inl (cJ, 1, .inr (.inl (fun _ => 0))))])) H := hP
                                            have hD : va_D A ((mW om 1 q cI cZ) ++ ((xW o u cI cZ cJ) ++ [(ao, .inl (cJ, 1, .inr (.inl (fun _ => 0))))])) := hD
                                            refine lv_istore (lv' := [(6, .int 0), (5, .int 1), (4, .int 0), (3, .ref ao), (2, .ref om), (1, .ref o), (0, .ref b)]) hx hb dL_law_583 hl (by decide) rfl (fun ls hl => ?_)
                                            refine lv_aload_n hx hb dL_law_585 rfl (lv_at hl 4 rfl) ?_
                                            refine rdV (As := []) (ci := 9) S (c_X9_thrown_0 l D cI cZ cJ om q) mi_X9_thrown kw_7_89 ⟨rfl, rfl⟩ ⟨Nat.le_of_ble_eq_true rfl, Nat.le_of_ble_eq_true rfl⟩ (va_Pl (ws := (mW om 1 q cI cZ)) (x := ((xW o u cI cZ cJ) ++ [(ao, .inl (cJ, 1, .inr (.inl (fun _ => 0))))])) hP) hK mW_0 rfl rfl hl.1 (Nat.le_of_ble_eq_true rfl) ⟨Nat.le_of_ble_eq_true rfl, Nat.le_of_ble_eq_true rfl⟩ dL_law_586 ?_
                                            refine lv_iload hx hb dL_law_589 (lv_at hl 1 rfl) ?_
                                            refine lv_icmp_eq (tgt := 596) hx hb dL_law_591 (by decide) (fun _ => ?_) (fun c => absurd c (by decide))
                                            refine lv_iload hx hb dL_law_596 (lv_at hl 1 rfl) ?_
                                            refine lv_if_ne (tgt := 613) hx hb dL_law_598 (by decide) (fun _ => ?_) (fun c => absurd c (by decide))
                                            refine lv_goto (tgt := 1519) hx hb dL_law_613 (by decide) ?_
                                            exact law_tail (C := 121) (Z := 12964) S hr hlocks hX hbl (lv_sub hl [2, 6] rfl) hS (Nat.le_of_ble_eq_true rfl) (Nat.le_of_ble_eq_true rfl)
                                    · have ne_x1_17 : ¬ x1 = 17 := d_550
                                      refine wrap (mW om 0 q cI cZ) (mid := ((xW o u cI cZ cJ) ++ [(ao, .inl (cJ, 1, .inr (.inl (fun _ => 0))))])) (As := [.ref o, .int x1, .int x2, .int x3, .int x4, .ref ao]) S (h_node_42 l D cI cZ cJ o u ao hst ra ga H.size x1 x2 x3 x4 ne_x1_0 ne_x1_1 ne_x1_2 ne_x1_3 ne_x1_4 ne_x1_5 ne_x1_6 ne_x1_7 ne_x1_8 ne_x1_9 ne_x1_10 ne_x1_11 ne_x1_12 ne_x1_13 ne_x1_14 ne_x1_15 ne_x1_16 ne_x1_17) msh_L_node kw_6_20 rfl rfl ⟨Nat.le_of_ble_eq_true rfl, Nat.le_of_ble_eq_true rfl⟩ hP hD hK hS hA hB hC hl.1 (Nat.le_of_ble_eq_true rfl) ⟨Nat.le_of_ble_eq_true rfl, Nat.le_of_ble_eq_true rfl⟩ dL_law_550 (fun H locs hz hP hD hS => ?_)
                                      have hP : va_P D vwCl ((mW om 0 q cI cZ) ++ ((xW o u cI cZ cJ) ++ [(ao, .inl (cJ, 1, .inr (.inl (fun _ => 0))))])) H := hP
                                      have hD : va_D A ((mW om 0 q cI cZ) ++ ((xW o u cI cZ cJ) ++ [(ao, .inl (cJ, 1, .inr (.inl (fun _ => 0))))])) := hD
                                      refine lv_istore (lv' := [(5, .int 1), (4, .int 0), (3, .ref ao), (2, .ref om), (1, .ref o), (0, .ref b)]) hx hb dL_law_553 hl (by decide) rfl (fun ls hl => ?_)
                                      refine lv_aload_n hx hb dL_law_555 rfl (lv_at hl 3 rfl) ?_
                                      refine lv_aload_n hx hb dL_law_556 rfl (lv_at hl 5 rfl) ?_
                                      refine lv_iload hx hb dL_law_557 (lv_at hl 1 rfl) ?_
                                      refine lv_iconst (v := 1) hx hb dL_law_559 (by decide) ?_
                                      refine xiadd (v := 1) S dL_law_560 (by decide) ?_
                                      refine xsld (v := x1) S hX hbl hbA hS (vin rfl) h1 dL_law_561 ?_
                                      refine lv_aload_n hx hb dL_law_562 rfl (lv_at hl 5 rfl) ?_
                                      refine lv_iload hx hb dL_law_563 (lv_at hl 1 rfl) ?_
                                      refine lv_iconst (v := 2) hx hb dL_law_565 (by decide) ?_
                                      refine xiadd (v := 2) S dL_law_566 (by decide) ?_
                                      refine xsld (v := x2) S hX hbl hbA hS (vin rfl) h2 dL_law_567 ?_
                                      refine lv_aload_n hx hb dL_law_568 rfl (lv_at hl 5 rfl) ?_
                                      refine lv_iload hx hb dL_law_569 (lv_at hl 1 rfl) ?_
                                      refine lv_iconst (v := 3) hx hb dL_law_571 (by decide) ?_
                                      refine xiadd (v := 3) S dL_law_572 (by decide) ?_
                                      refine xsld (v := x3) S hX hbl hbA hS (vin rfl) h3 dL_law_573 ?_
                                      refine lv_aload_n hx hb dL_law_574 rfl (lv_at hl 5 rfl) ?_
                                      refine lv_iload hx hb dL_law_575 (lv_at hl 1 rfl) ?_
                                      refine lv_iconst (v := 4) hx hb dL_law_577 (by decide) ?_
                                      refine xiadd (v := 4) S dL_law_578 (by decide) ?_
                                      refine xsld (v := x4) S hX hbl hbA hS (vin rfl) h4 dL_law_579 ?_
                                      refine fVi [] ((xW o u cI cZ cJ) ++ [(ao, .inl (cJ, 1, .inr (.inl (fun _ => 0))))]) (mid := (mW om 0 q cI cZ)) (As := [.int x1, .int x2, .int x3, .int x4]) (ci := 9) S (c_X9_node_42 l D cI cZ cJ om q H.size x1 x2 x3 x4 ne_x1_0 ne_x1_1 ne_x1_2 ne_x1_3 ne_x1_4 ne_x1_5 ne_x1_6 ne_x1_7 ne_x1_8 ne_x1_9 ne_x1_10 ne_x1_11 ne_x1_12 ne_x1_13 ne_x1_14 ne_x1_15 ne_x1_16 ne_x1_17) mi_X9_node kw_7_151 rfl rfl ⟨Nat.le_of_ble_eq_true rfl, Nat.le_of_ble_eq_true rfl⟩ hP hD hK hS hA mW_0 rfl rfl hl.1 (Nat.le_of_ble_eq_true rfl) ⟨Nat.le_of_ble_eq_true rfl, Nat.le_of_ble_eq_true rfl⟩ dL_law_580 (fun H locs hz hP hD hS => ?_)
                                      have hP : va_P D vwCl ((mW om 1 q cI cZ) ++ ((xW o u cI cZ cJ) ++ [(ao, .inl (cJ, 1, .inr (.inl (fun _ => 0))))])) H := hP
                                      have hD : va_D A ((mW om 1 q cI cZ) ++ ((xW o u cI cZ cJ) ++ [(ao, .inl (cJ, 1, .inr (.inl (fun _ => 0))))])) := hD
                                      refine lv_istore (lv' := [(6, .int 0), (5, .int 1), (4, .int 0), (3, .ref ao), (2, .ref om), (1, .ref o), (0, .ref b)]) hx hb dL_law_583 hl (by decide) rfl (fun ls hl => ?_)
                                      refine lv_aload_n hx hb dL_law_585 rfl (lv_at hl 4 rfl) ?_
                                      refine rdV (As := []) (ci := 9) S (c_X9_thrown_0 l D cI cZ cJ om q) mi_X9_thrown kw_7_89 ⟨rfl, rfl⟩ ⟨Nat.le_of_ble_eq_true rfl, Nat.le_of_ble_eq_true rfl⟩ (va_Pl (ws := (mW om 1 q cI cZ)) (x := ((xW o u cI cZ cJ) ++ [(ao, .inl (cJ, 1, .inr (.inl (fun _ => 0))))])) hP) hK mW_0 rfl rfl hl.1 (Nat.le_of_ble_eq_true rfl) ⟨Nat.le_of_ble_eq_true rfl, Nat.le_of_ble_eq_true rfl⟩ dL_law_586 ?_
                                      refine lv_iload hx hb dL_law_589 (lv_at hl 1 rfl) ?_
                                      refine lv_icmp_eq (tgt := 596) hx hb dL_law_591 (by decide) (fun _ => ?_) (fun c => absurd c (by decide))
                                      refine lv_iload hx hb dL_law_596 (lv_at hl 1 rfl) ?_
                                      refine lv_if_ne (tgt := 613) hx hb dL_law_598 (by decide) (fun _ => ?_) (fun c => absurd c (by decide))
                                      refine lv_goto (tgt := 1519) hx hb dL_law_613 (by decide) ?_
                                      exact law_tail (C := 121) (Z := 12964) S hr hlocks hX hbl (lv_sub hl [2, 6] rfl) hS (Nat.le_of_ble_eq_true rfl) (Nat.le_of_ble_eq_true rfl)
