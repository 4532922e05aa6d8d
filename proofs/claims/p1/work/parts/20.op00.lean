set_option maxHeartbeats 8000000 in
set_option maxRecDepth 100000 in
theorem law_0 (l : Launch) (hst : l.stackTraces = false) (D : va_G) (cI cZ cJ : ClassId) {p : Program} {e : Env} {s : State} {m : MethodId} {below : List Frame} {meth : Method} {c : Code} {b : Nat} {xs : Nat → Int32} (S : CallFix p m c cL_law 9 s #[Value.ref b] uG RL) (hr : meth.sig.returnType = ret) (hlocks : meth.locks = false) (hX : va_X b 5 xs s s.heap) (hbl : b < s.heap.size) (hK : va_K D vwCl (tyL cI cZ cJ) s) (ra ga : Nat → Nat) (hB : amb ra ga (fun q => s.heap.size ≤ q) s s.heap) (hC : ambC s) (x1 x2 x3 x4 : Int32) (h1 : xs 1 = x1) (h2 : xs 2 = x2) (h3 : xs 3 = x3) (h4 : xs 4 = x4) (o om ao : Nat) (u q : Nat → Nat) (ls : Array Slot) (H : Heap) (locs : List Loc) (hl : lv_has ls 9 [(4, .int 0), (3, .ref ao), (2, .ref om), (1, .ref o), (0, .ref b)]) (hP : va_P D vwCl ((mW om 0 q cI cZ) ++ ((xW o u cI cZ cJ) ++ [(ao, .inl (cJ, 1, .inr (.inl (fun _ => 0))))])) H) (hD : va_D (fun q => s.heap.size ≤ q) ((mW om 0 q cI cZ) ++ ((xW o u cI cZ cJ) ++ [(ao, .inl (cJ, 1, .inr (.inl (fun _ => 0))))]))) (hS : va_S (fun q => s.heap.size ≤ q) s.heap H locs) : W p l e room_1 s m #[Value.ref b] below meth c H locs 120 12958 (lw_Z below #[Value.ref b] s) (F0 m 136 ls []) := by
  have hx := S.1
  have hb := S.2.1
  have hA : ∀ q : Nat, s.heap.size ≤ q → (fun q : Nat => s.heap.size ≤ q) q := fun _ h => h
  have hbA : ¬ (fun q : Nat => s.heap.size ≤ q) b := Nat.not_le.mpr hbl
  refine lv_aload_n hx hb dL_law_136 rfl (lv_at hl 3 rfl) ?_
  refine lv_aload_n hx hb dL_law_137 rfl (lv_at hl 4 rfl) ?_
  refine lv_iload hx hb dL_law_138 (lv_at hl 0 rfl) ?_
  refine lv_iconst (v := 1) hx hb dL_law_140 (by decide) ?_
  refine xiadd (v := 1) S dL_law_141 (by decide) ?_
  refine xsld (v := x1) S hX hbl hbA hS (vin rfl) h1 dL_law_142 ?_
  refine lv_aload_n hx hb dL_law_143 rfl (lv_at hl 4 rfl) ?_
  refine lv_iload hx hb dL_law_144 (lv_at hl 0 rfl) ?_
  refine lv_iconst (v := 2) hx hb dL_law_146 (by decide) ?_
  refine xiadd (v := 2) S dL_law_147 (by decide) ?_
  refine xsld (v := x2) S hX hbl hbA hS (vin rfl) h2 dL_law_148 ?_
  refine lv_aload_n hx hb dL_law_149 rfl (lv_at hl 1 rfl) ?_
  by_cases d_150 : x1 < 0
  · have hi_x1 : x1 ≤ (-1) := u_lt d_150 (by decide)
    refine wrap (mW om 0 q cI cZ) (mid := ((xW o u cI cZ cJ) ++ [(ao, .inl (cJ, 1, .inr (.inl (fun _ => 0))))])) (As := [.ref o, .int x1, .int x2, .ref ao]) S (h_procedure_0 l D cI cZ cJ o u ao hst ra ga H.size x1 x2 hi_x1) msh_L_procedure kw_5_173 rfl rfl ⟨Nat.le_of_ble_eq_true rfl, Nat.le_of_ble_eq_true rfl⟩ hP hD hK hS hA hB hC hl.1 (Nat.le_of_ble_eq_true rfl) ⟨Nat.le_of_ble_eq_true rfl, Nat.le_of_ble_eq_true rfl⟩ dL_law_150 (fun H locs hz hP hD hS => ?_)
    have hP : va_P D vwCl ((mW om 0 q cI cZ) ++ ((xW o u cI cZ cJ) ++ [(ao, .inl (cJ, 1, .inr (.inl (fun _ => 0))))])) H := hP
    have hD : va_D (fun q : Nat => s.heap.size ≤ q) ((mW om 0 q cI cZ) ++ ((xW o u cI cZ cJ) ++ [(ao, .inl (cJ, 1, .inr (.inl (fun _ => 0))))])) := hD
    refine lv_istore (lv' := [(5, .int 1), (4, .int 0), (3, .ref ao), (2, .ref om), (1, .ref o), (0, .ref b)]) hx hb dL_law_153 hl (by decide) rfl (fun ls hl => ?_)
    refine lv_aload_n hx hb dL_law_155 rfl (lv_at hl 3 rfl) ?_
    refine lv_aload_n hx hb dL_law_156 rfl (lv_at hl 5 rfl) ?_
    refine lv_iload hx hb dL_law_157 (lv_at hl 1 rfl) ?_
    refine lv_iconst (v := 1) hx hb dL_law_159 (by decide) ?_
    refine xiadd (v := 1) S dL_law_160 (by decide) ?_
    refine xsld (v := x1) S hX hbl hbA hS (vin rfl) h1 dL_law_161 ?_
    refine lv_aload_n hx hb dL_law_162 rfl (lv_at hl 5 rfl) ?_
    refine lv_iload hx hb dL_law_163 (lv_at hl 1 rfl) ?_
    refine lv_iconst (v := 2) hx hb dL_law_165 (by decide) ?_
    refine xiadd (v := 2) S dL_law_166 (by decide) ?_
    refine xsld (v := x2) S hX hbl hbA hS (vin rfl) h2 dL_law_167 ?_
    refine fVi [] ((xW o u cI cZ cJ) ++ [(ao, .inl (cJ, 1, .inr (.inl (fun _ => 0))))]) (mid := (mW om 0 q cI cZ)) (As := [.int x1, .int x2]) (ci := 9) S (c_X9_procedure_0 l D cI cZ cJ om q H.size x1 x2 hi_x1) mi_X9_procedure kw_7_93 rfl rfl ⟨Nat.le_of_ble_eq_true rfl, Nat.le_of_ble_eq_true rfl⟩ hP hD hK hS hA mW_0 rfl rfl hl.1 (Nat.le_of_ble_eq_true rfl) ⟨Nat.le_of_ble_eq_true rfl, Nat.le_of_ble_eq_true rfl⟩ dL_law_168 (fun H locs hz hP hD hS => ?_)
    have hP : va_P D vwCl ((mW om 1 q cI cZ) ++ ((xW o u cI cZ cJ) ++ [(ao, .inl (cJ, 1, .inr (.inl (fun _ => 0))))])) H := hP
    have hD : va_D (fun q : Nat => s.heap.size ≤ q) ((mW om 1 q cI cZ) ++ ((xW o u cI cZ cJ) ++ [(ao, .inl (cJ, 1, .inr (.inl (fun _ => 0))))])) := hD
    refine lv_istore (lv' := [(6, .int 0), (5, .int 1), (4, .int 0), (3, .ref ao), (2, .ref om), (1, .ref o), (0, .ref b)]) hx hb dL_law_171 hl (by decide) rfl (fun ls hl => ?_)
    refine lv_aload_n hx hb dL_law_173 rfl (lv_at hl 4 rfl) ?_
    refine rdV (As := []) (ci := 9) S (c_X9_thrown_0 l D cI cZ cJ om q) mi_X9_thrown kw_7_89 ⟨rfl, rfl⟩ ⟨Nat.le_of_ble_eq_true rfl, Nat.le_of_ble_eq_true rfl⟩ (va_Pl (ws := (mW om 1 q cI cZ)) (x := ((xW o u cI cZ cJ) ++ [(ao, .inl (cJ, 1, .inr (.inl (fun _ => 0))))])) hP) hK mW_0 rfl rfl hl.1 (Nat.le_of_ble_eq_true rfl) ⟨Nat.le_of_ble_eq_true rfl, Nat.le_of_ble_eq_true rfl⟩ dL_law_174 ?_
    refine lv_iload hx hb dL_law_177 (lv_at hl 1 rfl) ?_
    refine lv_icmp_eq (tgt := 184) hx hb dL_law_179 (by decide) (fun _ => ?_) (fun c => absurd c (by decide))
    refine lv_iload hx hb dL_law_184 (lv_at hl 1 rfl) ?_
    refine lv_if_ne (tgt := 201) hx hb dL_law_186 (by decide) (fun _ => ?_) (fun c => absurd c (by decide))
    refine lv_goto (tgt := 1519) hx hb dL_law_201 (by decide) ?_
    exact law_tail (cells := 121) (slots := 12964) S hr hlocks hX hbl (lv_sub hl [2, 6] rfl) hS (Nat.le_of_ble_eq_true rfl) (Nat.le_of_ble_eq_true rfl)
  · have lo_x1 : 0 ≤ x1 := l_nlt d_150
    by_cases d_150 : 1 ≤ x1
    · have lo_x1 : 1 ≤ x1 := d_150
      refine wrap (mW om 0 q cI cZ) (mid := ((xW o u cI cZ cJ) ++ [(ao, .inl (cJ, 1, .inr (.inl (fun _ => 0))))])) (As := [.ref o, .int x1, .int x2, .ref ao]) S (h_procedure_1 l D cI cZ cJ o u ao hst ra ga H.size x1 x2 lo_x1) msh_L_procedure kw_5_173 rfl rfl ⟨Nat.le_of_ble_eq_true rfl, Nat.le_of_ble_eq_true rfl⟩ hP hD hK hS hA hB hC hl.1 (Nat.le_of_ble_eq_true rfl) ⟨Nat.le_of_ble_eq_true rfl, Nat.le_of_ble_eq_true rfl⟩ dL_law_150 (fun H locs hz hP hD hS => ?_)
      have hP : va_P D vwCl ((mW om 0 q cI cZ) ++ ((xW o u cI cZ cJ) ++ [(ao, .inl (cJ, 1, .inr (.inl (fun _ => 0))))])) H := hP
      have hD : va_D (fun q : Nat => s.heap.size ≤ q) ((mW om 0 q cI cZ) ++ ((xW o u cI cZ cJ) ++ [(ao, .inl (cJ, 1, .inr (.inl (fun _ => 0))))])) := hD
      refine lv_istore (lv' := [(5, .int 1), (4, .int 0), (3, .ref ao), (2, .ref om), (1, .ref o), (0, .ref b)]) hx hb dL_law_153 hl (by decide) rfl (fun ls hl => ?_)
      refine lv_aload_n hx hb dL_law_155 rfl (lv_at hl 3 rfl) ?_
      refine lv_aload_n hx hb dL_law_156 rfl (lv_at hl 5 rfl) ?_
      refine lv_iload hx hb dL_law_157 (lv_at hl 1 rfl) ?_
      refine lv_iconst (v := 1) hx hb dL_law_159 (by decide) ?_
      refine xiadd (v := 1) S dL_law_160 (by decide) ?_
      refine xsld (v := x1) S hX hbl hbA hS (vin rfl) h1 dL_law_161 ?_
      refine lv_aload_n hx hb dL_law_162 rfl (lv_at hl 5 rfl) ?_
      refine lv_iload hx hb dL_law_163 (lv_at hl 1 rfl) ?_
      refine lv_iconst (v := 2) hx hb dL_law_165 (by decide) ?_
      refine xiadd (v := 2) S dL_law_166 (by decide) ?_
      refine xsld (v := x2) S hX hbl hbA hS (vin rfl) h2 dL_law_167 ?_
      refine fVi [] ((xW o u cI cZ cJ) ++ [(ao, .inl (cJ, 1, .inr (.inl (fun _ => 0))))]) (mid := (mW om 0 q cI cZ)) (As := [.int x1, .int x2]) (ci := 9) S (c_X9_procedure_1 l D cI cZ cJ om q H.size x1 x2 lo_x1) mi_X9_procedure kw_7_93 rfl rfl ⟨Nat.le_of_ble_eq_true rfl, Nat.le_of_ble_eq_true rfl⟩ hP hD hK hS hA mW_0 rfl rfl hl.1 (Nat.le_of_ble_eq_true rfl) ⟨Nat.le_of_ble_eq_true rfl, Nat.le_of_ble_eq_true rfl⟩ dL_law_168 (fun H locs hz hP hD hS => ?_)
      have hP : va_P D vwCl ((mW om 1 q cI cZ) ++ ((xW o u cI cZ cJ) ++ [(ao, .inl (cJ, 1, .inr (.inl (fun _ => 0))))])) H := hP
      have hD : va_D (fun q : Nat => s.heap.size ≤ q) ((mW om 1 q cI cZ) ++ ((xW o u cI cZ cJ) ++ [(ao, .inl (cJ, 1, .inr (.inl (fun _ => 0))))])) := hD
      refine lv_istore (lv' := [(6, .int 0), (5, .int 1), (4, .int 0), (3, .ref ao), (2, .ref om), (1, .ref o), (0, .ref b)]) hx hb dL_law_171 hl (by decide) rfl (fun ls hl => ?_)
      refine lv_aload_n hx hb dL_law_173 rfl (lv_at hl 4 rfl) ?_
      refine rdV (As := []) (ci := 9) S (c_X9_thrown_0 l D cI cZ cJ om q) mi_X9_thrown kw_7_89 ⟨rfl, rfl⟩ ⟨Nat.le_of_ble_eq_true rfl, Nat.le_of_ble_eq_true rfl⟩ (va_Pl (ws := (mW om 1 q cI cZ)) (x := ((xW o u cI cZ cJ) ++ [(ao, .inl (cJ, 1, .inr (.inl (fun _ => 0))))])) hP) hK mW_0 rfl rfl hl.1 (Nat.le_of_ble_eq_true rfl) ⟨Nat.le_of_ble_eq_true rfl, Nat.le_of_ble_eq_true rfl⟩ dL_law_174 ?_
      refine lv_iload hx hb dL_law_177 (lv_at hl 1 rfl) ?_
      refine lv_icmp_eq (tgt := 184) hx hb dL_law_179 (by decide) (fun _ => ?_) (fun c => absurd c (by decide))
      refine lv_iload hx hb dL_law_184 (lv_at hl 1 rfl) ?_
      refine lv_if_ne (tgt := 201) hx hb dL_law_186 (by decide) (fun _ => ?_) (fun c => absurd c (by decide))
      refine lv_goto (tgt := 1519) hx hb dL_law_201 (by decide) ?_
      exact law_tail (cells := 121) (slots := 12964) S hr hlocks hX hbl (lv_sub hl [2, 6] rfl) hS (Nat.le_of_ble_eq_true rfl) (Nat.le_of_ble_eq_true rfl)
    · have hi_x1 : x1 ≤ 0 := u_nge d_150 (by decide)
      have e_x1 : x1 = 0 := b_eq lo_x1 hi_x1
      subst e_x1
      by_cases d_150 : x2 < 0
      · have hi_x2 : x2 ≤ (-1) := u_lt d_150 (by decide)
        refine wrap (mW om 0 q cI cZ) (mid := ((xW o u cI cZ cJ) ++ [(ao, .inl (cJ, 1, .inr (.inl (fun _ => 0))))])) (As := [.ref o, .int 0, .int x2, .ref ao]) S (h_procedure_2 l D cI cZ cJ o u ao hst ra ga H.size x2 hi_x2) msh_L_procedure kw_5_173 rfl rfl ⟨Nat.le_of_ble_eq_true rfl, Nat.le_of_ble_eq_true rfl⟩ hP hD hK hS hA hB hC hl.1 (Nat.le_of_ble_eq_true rfl) ⟨Nat.le_of_ble_eq_true rfl, Nat.le_of_ble_eq_true rfl⟩ dL_law_150 (fun H locs hz hP hD hS => ?_)
        have hP : va_P D vwCl ((mW om 0 q cI cZ) ++ ((xW o u cI cZ cJ) ++ [(ao, .inl (cJ, 1, .inr (.inl (fun _ => 0))))])) H := hP
        have hD : va_D (fun q : Nat => s.heap.size ≤ q) ((mW om 0 q cI cZ) ++ ((xW o u cI cZ cJ) ++ [(ao, .inl (cJ, 1, .inr (.inl (fun _ => 0))))])) := hD
        refine lv_istore (lv' := [(5, .int 2), (4, .int 0), (3, .ref ao), (2, .ref om), (1, .ref o), (0, .ref b)]) hx hb dL_law_153 hl (by decide) rfl (fun ls hl => ?_)
        refine lv_aload_n hx hb dL_law_155 rfl (lv_at hl 3 rfl) ?_
        refine lv_aload_n hx hb dL_law_156 rfl (lv_at hl 5 rfl) ?_
        refine lv_iload hx hb dL_law_157 (lv_at hl 1 rfl) ?_
        refine lv_iconst (v := 1) hx hb dL_law_159 (by decide) ?_
        refine xiadd (v := 1) S dL_law_160 (by decide) ?_
        refine xsld (v := 0) S hX hbl hbA hS (vin rfl) h1 dL_law_161 ?_
        refine lv_aload_n hx hb dL_law_162 rfl (lv_at hl 5 rfl) ?_
        refine lv_iload hx hb dL_law_163 (lv_at hl 1 rfl) ?_
        refine lv_iconst (v := 2) hx hb dL_law_165 (by decide) ?_
        refine xiadd (v := 2) S dL_law_166 (by decide) ?_
        refine xsld (v := x2) S hX hbl hbA hS (vin rfl) h2 dL_law_167 ?_
        refine fVi [] ((xW o u cI cZ cJ) ++ [(ao, .inl (cJ, 1, .inr (.inl (fun _ => 0))))]) (mid := (mW om 0 q cI cZ)) (As := [.int 0, .int x2]) (ci := 9) S (c_X9_procedure_2 l D cI cZ cJ om q H.size x2 hi_x2) mi_X9_procedure kw_7_93 rfl rfl ⟨Nat.le_of_ble_eq_true rfl, Nat.le_of_ble_eq_true rfl⟩ hP hD hK hS hA mW_0 rfl rfl hl.1 (Nat.le_of_ble_eq_true rfl) ⟨Nat.le_of_ble_eq_true rfl, Nat.le_of_ble_eq_true rfl⟩ dL_law_168 (fun H locs hz hP hD hS => ?_)
        have hP : va_P D vwCl ((mW om 2 q cI cZ) ++ ((xW o u cI cZ cJ) ++ [(ao, .inl (cJ, 1, .inr (.inl (fun _ => 0))))])) H := hP
        have hD : va_D (fun q : Nat => s.heap.size ≤ q) ((mW om 2 q cI cZ) ++ ((xW o u cI cZ cJ) ++ [(ao, .inl (cJ, 1, .inr (.inl (fun _ => 0))))])) := hD
        refine lv_istore (lv' := [(6, .int 0), (5, .int 2), (4, .int 0), (3, .ref ao), (2, .ref om), (1, .ref o), (0, .ref b)]) hx hb dL_law_171 hl (by decide) rfl (fun ls hl => ?_)
        refine lv_aload_n hx hb dL_law_173 rfl (lv_at hl 4 rfl) ?_
        refine rdV (As := []) (ci := 9) S (c_X9_thrown_1 l D cI cZ cJ om q) mi_X9_thrown kw_7_89 ⟨rfl, rfl⟩ ⟨Nat.le_of_ble_eq_true rfl, Nat.le_of_ble_eq_true rfl⟩ (va_Pl (ws := (mW om 2 q cI cZ)) (x := ((xW o u cI cZ cJ) ++ [(ao, .inl (cJ, 1, .inr (.inl (fun _ => 0))))])) hP) hK mW_0 rfl rfl hl.1 (Nat.le_of_ble_eq_true rfl) ⟨Nat.le_of_ble_eq_true rfl, Nat.le_of_ble_eq_true rfl⟩ dL_law_174 ?_
        refine lv_iload hx hb dL_law_177 (lv_at hl 1 rfl) ?_
        refine lv_icmp_eq (tgt := 184) hx hb dL_law_179 (by decide) (fun _ => ?_) (fun c => absurd c (by decide))
        refine lv_iload hx hb dL_law_184 (lv_at hl 1 rfl) ?_
        refine lv_if_ne (tgt := 201) hx hb dL_law_186 (by decide) (fun _ => ?_) (fun c => absurd c (by decide))
        refine lv_goto (tgt := 1519) hx hb dL_law_201 (by decide) ?_
        exact law_tail (cells := 121) (slots := 12964) S hr hlocks hX hbl (lv_sub hl [2, 6] rfl) hS (Nat.le_of_ble_eq_true rfl) (Nat.le_of_ble_eq_true rfl)
      · have lo_x2 : 0 ≤ x2 := l_nlt d_150
        by_cases d_150 : 16 ≤ x2
        · have lo_x2 : 16 ≤ x2 := d_150
          refine wrap (mW om 0 q cI cZ) (mid := ((xW o u cI cZ cJ) ++ [(ao, .inl (cJ, 1, .inr (.inl (fun _ => 0))))])) (As := [.ref o, .int 0, .int x2, .ref ao]) S (h_procedure_3 l D cI cZ cJ o u ao hst ra ga H.size x2 lo_x2) msh_L_procedure kw_5_173 rfl rfl ⟨Nat.le_of_ble_eq_true rfl, Nat.le_of_ble_eq_true rfl⟩ hP hD hK hS hA hB hC hl.1 (Nat.le_of_ble_eq_true rfl) ⟨Nat.le_of_ble_eq_true rfl, Nat.le_of_ble_eq_true rfl⟩ dL_law_150 (fun H locs hz hP hD hS => ?_)
          have hP : va_P D vwCl ((mW om 0 q cI cZ) ++ ((xW o u cI cZ cJ) ++ [(ao, .inl (cJ, 1, .inr (.inl (fun _ => 0))))])) H := hP
          have hD : va_D (fun q : Nat => s.heap.size ≤ q) ((mW om 0 q cI cZ) ++ ((xW o u cI cZ cJ) ++ [(ao, .inl (cJ, 1, .inr (.inl (fun _ => 0))))])) := hD
          refine lv_istore (lv' := [(5, .int 2), (4, .int 0), (3, .ref ao), (2, .ref om), (1, .ref o), (0, .ref b)]) hx hb dL_law_153 hl (by decide) rfl (fun ls hl => ?_)
          refine lv_aload_n hx hb dL_law_155 rfl (lv_at hl 3 rfl) ?_
          refine lv_aload_n hx hb dL_law_156 rfl (lv_at hl 5 rfl) ?_
          refine lv_iload hx hb dL_law_157 (lv_at hl 1 rfl) ?_
          refine lv_iconst (v := 1) hx hb dL_law_159 (by decide) ?_
          refine xiadd (v := 1) S dL_law_160 (by decide) ?_
          refine xsld (v := 0) S hX hbl hbA hS (vin rfl) h1 dL_law_161 ?_
          refine lv_aload_n hx hb dL_law_162 rfl (lv_at hl 5 rfl) ?_
          refine lv_iload hx hb dL_law_163 (lv_at hl 1 rfl) ?_
          refine lv_iconst (v := 2) hx hb dL_law_165 (by decide) ?_
          refine xiadd (v := 2) S dL_law_166 (by decide) ?_
          refine xsld (v := x2) S hX hbl hbA hS (vin rfl) h2 dL_law_167 ?_
          refine fVi [] ((xW o u cI cZ cJ) ++ [(ao, .inl (cJ, 1, .inr (.inl (fun _ => 0))))]) (mid := (mW om 0 q cI cZ)) (As := [.int 0, .int x2]) (ci := 9) S (c_X9_procedure_3 l D cI cZ cJ om q H.size x2 lo_x2) mi_X9_procedure kw_7_93 rfl rfl ⟨Nat.le_of_ble_eq_true rfl, Nat.le_of_ble_eq_true rfl⟩ hP hD hK hS hA mW_0 rfl rfl hl.1 (Nat.le_of_ble_eq_true rfl) ⟨Nat.le_of_ble_eq_true rfl, Nat.le_of_ble_eq_true rfl⟩ dL_law_168 (fun H locs hz hP hD hS => ?_)
          have hP : va_P D vwCl ((mW om 2 q cI cZ) ++ ((xW o u cI cZ cJ) ++ [(ao, .inl (cJ, 1, .inr (.inl (fun _ => 0))))])) H := hP
          have hD : va_D (fun q : Nat => s.heap.size ≤ q) ((mW om 2 q cI cZ) ++ ((xW o u cI cZ cJ) ++ [(ao, .inl (cJ, 1, .inr (.inl (fun _ => 0))))])) := hD
          refine lv_istore (lv' := [(6, .int 0), (5, .int 2), (4, .int 0), (3, .ref ao), (2, .ref om), (1, .ref o), (0, .ref b)]) hx hb dL_law_171 hl (by decide) rfl (fun ls hl => ?_)
          refine lv_aload_n hx hb dL_law_173 rfl (lv_at hl 4 rfl) ?_
          refine rdV (As := []) (ci := 9) S (c_X9_thrown_1 l D cI cZ cJ om q) mi_X9_thrown kw_7_89 ⟨rfl, rfl⟩ ⟨Nat.le_of_ble_eq_true rfl, Nat.le_of_ble_eq_true rfl⟩ (va_Pl (ws := (mW om 2 q cI cZ)) (x := ((xW o u cI cZ cJ) ++ [(ao, .inl (cJ, 1, .inr (.inl (fun _ => 0))))])) hP) hK mW_0 rfl rfl hl.1 (Nat.le_of_ble_eq_true rfl) ⟨Nat.le_of_ble_eq_true rfl, Nat.le_of_ble_eq_true rfl⟩ dL_law_174 ?_
          refine lv_iload hx hb dL_law_177 (lv_at hl 1 rfl) ?_
          refine lv_icmp_eq (tgt := 184) hx hb dL_law_179 (by decide) (fun _ => ?_) (fun c => absurd c (by decide))
          refine lv_iload hx hb dL_law_184 (lv_at hl 1 rfl) ?_
          refine lv_if_ne (tgt := 201) hx hb dL_law_186 (by decide) (fun _ => ?_) (fun c => absurd c (by decide))
          refine lv_goto (tgt := 1519) hx hb dL_law_201 (by decide) ?_
          exact law_tail (cells := 121) (slots := 12964) S hr hlocks hX hbl (lv_sub hl [2, 6] rfl) hS (Nat.le_of_ble_eq_true rfl) (Nat.le_of_ble_eq_true rfl)
        · have hi_x2 : x2 ≤ 15 := u_nge d_150 (by decide)
          refine wrap (mW om 0 q cI cZ) (mid := ((xW o u cI cZ cJ) ++ [(ao, .inl (cJ, 1, .inr (.inl (fun _ => 0))))])) (As := [.ref o, .int 0, .int x2, .ref ao]) S (h_procedure_4 l D cI cZ cJ o u ao hst ra ga H.size x2 lo_x2 hi_x2) msh_L_procedure kw_5_173 rfl rfl ⟨Nat.le_of_ble_eq_true rfl, Nat.le_of_ble_eq_true rfl⟩ hP hD hK hS hA hB hC hl.1 (Nat.le_of_ble_eq_true rfl) ⟨Nat.le_of_ble_eq_true rfl, Nat.le_of_ble_eq_true rfl⟩ dL_law_150 (fun H locs hz hP hD hS => ?_)
          have hP : va_P D vwCl ((mW om 0 q cI cZ) ++ ((((((((xW o u cI cZ cJ).set 1 ((u 0), .inr (1, ([.int 1, .ref (u 1), .ref (u 2), .ref (u 3), .ref (u 4), .ref (u 5), .ref (u 6), .ref (u 7), .ref (u 8), .ref (u 9), .ref (u 10), .ref (u 11)].set 0 (.int 2))))).set 2 ((u 1), .inl (cI, 10, .inl (upd (upd (fun _ => 0) (0 : Int32).toNatClampNeg (-1)) (1 : Int32).toNatClampNeg 0)))).set 3 ((u 2), .inl (cI, 10, .inl (upd (upd (fun _ => 0) (0 : Int32).toNatClampNeg (-1)) (1 : Int32).toNatClampNeg x2)))).set 8 ((u 7), .inl (cI, 160, .inl (upd (fun _ => (-1)) (x2 : Int32).toNatClampNeg 10)))).set 9 ((u 8), .inl (cI, 160, .inl (upd (fun _ => 0) (x2 : Int32).toNatClampNeg (-1))))).set 10 ((u 9), .inl (cI, 160, .inl (upd (fun _ => 0) (x2 : Int32).toNatClampNeg 1)))) ++ [(ao, .inl (cJ, 1, .inr (.inl (vp_updL (fun _ => 0) (0 : Int32).toNatClampNeg 1))))])) H := hP
          have hD : va_D (fun q : Nat => s.heap.size ≤ q) ((mW om 0 q cI cZ) ++ ((((((((xW o u cI cZ cJ).set 1 ((u 0), .inr (1, ([.int 1, .ref (u 1), .ref (u 2), .ref (u 3), .ref (u 4), .ref (u 5), .ref (u 6), .ref (u 7), .ref (u 8), .ref (u 9), .ref (u 10), .ref (u 11)].set 0 (.int 2))))).set 2 ((u 1), .inl (cI, 10, .inl (upd (upd (fun _ => 0) (0 : Int32).toNatClampNeg (-1)) (1 : Int32).toNatClampNeg 0)))).set 3 ((u 2), .inl (cI, 10, .inl (upd (upd (fun _ => 0) (0 : Int32).toNatClampNeg (-1)) (1 : Int32).toNatClampNeg x2)))).set 8 ((u 7), .inl (cI, 160, .inl (upd (fun _ => (-1)) (x2 : Int32).toNatClampNeg 10)))).set 9 ((u 8), .inl (cI, 160, .inl (upd (fun _ => 0) (x2 : Int32).toNatClampNeg (-1))))).set 10 ((u 9), .inl (cI, 160, .inl (upd (fun _ => 0) (x2 : Int32).toNatClampNeg 1)))) ++ [(ao, .inl (cJ, 1, .inr (.inl (vp_updL (fun _ => 0) (0 : Int32).toNatClampNeg 1))))])) := hD
          refine lv_istore (lv' := [(5, .int 0), (4, .int 0), (3, .ref ao), (2, .ref om), (1, .ref o), (0, .ref b)]) hx hb dL_law_153 hl (by decide) rfl (fun ls hl => ?_)
          refine lv_aload_n hx hb dL_law_155 rfl (lv_at hl 3 rfl) ?_
          refine lv_aload_n hx hb dL_law_156 rfl (lv_at hl 5 rfl) ?_
          refine lv_iload hx hb dL_law_157 (lv_at hl 1 rfl) ?_
          refine lv_iconst (v := 1) hx hb dL_law_159 (by decide) ?_
          refine xiadd (v := 1) S dL_law_160 (by decide) ?_
          refine xsld (v := 0) S hX hbl hbA hS (vin rfl) h1 dL_law_161 ?_
          refine lv_aload_n hx hb dL_law_162 rfl (lv_at hl 5 rfl) ?_
          refine lv_iload hx hb dL_law_163 (lv_at hl 1 rfl) ?_
          refine lv_iconst (v := 2) hx hb dL_law_165 (by decide) ?_
          refine xiadd (v := 2) S dL_law_166 (by decide) ?_
          refine xsld (v := x2) S hX hbl hbA hS (vin rfl) h2 dL_law_167 ?_
          refine fVi [] ((((((((xW o u cI cZ cJ).set 1 ((u 0), .inr (1, ([.int 1, .ref (u 1), .ref (u 2), .ref (u 3), .ref (u 4), .ref (u 5), .ref (u 6), .ref (u 7), .ref (u 8), .ref (u 9), .ref (u 10), .ref (u 11)].set 0 (.int 2))))).set 2 ((u 1), .inl (cI, 10, .inl (upd (upd (fun _ => 0) (0 : Int32).toNatClampNeg (-1)) (1 : Int32).toNatClampNeg 0)))).set 3 ((u 2), .inl (cI, 10, .inl (upd (upd (fun _ => 0) (0 : Int32).toNatClampNeg (-1)) (1 : Int32).toNatClampNeg x2)))).set 8 ((u 7), .inl (cI, 160, .inl (upd (fun _ => (-1)) (x2 : Int32).toNatClampNeg 10)))).set 9 ((u 8), .inl (cI, 160, .inl (upd (fun _ => 0) (x2 : Int32).toNatClampNeg (-1))))).set 10 ((u 9), .inl (cI, 160, .inl (upd (fun _ => 0) (x2 : Int32).toNatClampNeg 1)))) ++ [(ao, .inl (cJ, 1, .inr (.inl (vp_updL (fun _ => 0) (0 : Int32).toNatClampNeg 1))))]) (mid := (mW om 0 q cI cZ)) (As := [.int 0, .int x2]) (ci := 9) S (c_X9_procedure_4 l D cI cZ cJ om q H.size x2 lo_x2 hi_x2) mi_X9_procedure kw_7_93 rfl rfl ⟨Nat.le_of_ble_eq_true rfl, Nat.le_of_ble_eq_true rfl⟩ hP hD hK hS hA mW_0 rfl rfl hl.1 (Nat.le_of_ble_eq_true rfl) ⟨Nat.le_of_ble_eq_true rfl, Nat.le_of_ble_eq_true rfl⟩ dL_law_168 (fun H locs hz hP hD hS => ?_)
          have hP : va_P D vwCl ((((((((mW om 0 q cI cZ).set 0 (om, .inr (9, ((mF 0 q).set 1 (.int 2))))).set 1 ((q 0), .inl (cI, 10, .inl (upd (upd (fun _ => 0) 0 (-1)) (1 : Int32).toNatClampNeg 0)))).set 2 ((q 1), .inl (cI, 10, .inl (upd (upd (fun _ => 0) 0 (-1)) (1 : Int32).toNatClampNeg x2)))).set 7 ((q 6), .inl (cI, 160, .inl (upd (fun _ => -1) (x2 : Int32).toNatClampNeg 10)))).set 8 ((q 7), .inl (cI, 160, .inl (upd (fun _ => 0) (x2 : Int32).toNatClampNeg (-1))))).set 9 ((q 8), .inl (cI, 160, .inl (upd (fun _ => 0) (x2 : Int32).toNatClampNeg 1)))) ++ ((((((((xW o u cI cZ cJ).set 1 ((u 0), .inr (1, ([.int 1, .ref (u 1), .ref (u 2), .ref (u 3), .ref (u 4), .ref (u 5), .ref (u 6), .ref (u 7), .ref (u 8), .ref (u 9), .ref (u 10), .ref (u 11)].set 0 (.int 2))))).set 2 ((u 1), .inl (cI, 10, .inl (upd (upd (fun _ => 0) (0 : Int32).toNatClampNeg (-1)) (1 : Int32).toNatClampNeg 0)))).set 3 ((u 2), .inl (cI, 10, .inl (upd (upd (fun _ => 0) (0 : Int32).toNatClampNeg (-1)) (1 : Int32).toNatClampNeg x2)))).set 8 ((u 7), .inl (cI, 160, .inl (upd (fun _ => (-1)) (x2 : Int32).toNatClampNeg 10)))).set 9 ((u 8), .inl (cI, 160, .inl (upd (fun _ => 0) (x2 : Int32).toNatClampNeg (-1))))).set 10 ((u 9), .inl (cI, 160, .inl (upd (fun _ => 0) (x2 : Int32).toNatClampNeg 1)))) ++ [(ao, .inl (cJ, 1, .inr (.inl (vp_updL (fun _ => 0) (0 : Int32).toNatClampNeg 1))))])) H := hP
          have hD : va_D (fun q : Nat => s.heap.size ≤ q) ((((((((mW om 0 q cI cZ).set 0 (om, .inr (9, ((mF 0 q).set 1 (.int 2))))).set 1 ((q 0), .inl (cI, 10, .inl (upd (upd (fun _ => 0) 0 (-1)) (1 : Int32).toNatClampNeg 0)))).set 2 ((q 1), .inl (cI, 10, .inl (upd (upd (fun _ => 0) 0 (-1)) (1 : Int32).toNatClampNeg x2)))).set 7 ((q 6), .inl (cI, 160, .inl (upd (fun _ => -1) (x2 : Int32).toNatClampNeg 10)))).set 8 ((q 7), .inl (cI, 160, .inl (upd (fun _ => 0) (x2 : Int32).toNatClampNeg (-1))))).set 9 ((q 8), .inl (cI, 160, .inl (upd (fun _ => 0) (x2 : Int32).toNatClampNeg 1)))) ++ ((((((((xW o u cI cZ cJ).set 1 ((u 0), .inr (1, ([.int 1, .ref (u 1), .ref (u 2), .ref (u 3), .ref (u 4), .ref (u 5), .ref (u 6), .ref (u 7), .ref (u 8), .ref (u 9), .ref (u 10), .ref (u 11)].set 0 (.int 2))))).set 2 ((u 1), .inl (cI, 10, .inl (upd (upd (fun _ => 0) (0 : Int32).toNatClampNeg (-1)) (1 : Int32).toNatClampNeg 0)))).set 3 ((u 2), .inl (cI, 10, .inl (upd (upd (fun _ => 0) (0 : Int32).toNatClampNeg (-1)) (1 : Int32).toNatClampNeg x2)))).set 8 ((u 7), .inl (cI, 160, .inl (upd (fun _ => (-1)) (x2 : Int32).toNatClampNeg 10)))).set 9 ((u 8), .inl (cI, 160, .inl (upd (fun _ => 0) (x2 : Int32).toNatClampNeg (-1))))).set 10 ((u 9), .inl (cI, 160, .inl (upd (fun _ => 0) (x2 : Int32).toNatClampNeg 1)))) ++ [(ao, .inl (cJ, 1, .inr (.inl (vp_updL (fun _ => 0) (0 : Int32).toNatClampNeg 1))))])) := hD
          refine lv_istore (lv' := [(6, .int 1), (5, .int 0), (4, .int 0), (3, .ref ao), (2, .ref om), (1, .ref o), (0, .ref b)]) hx hb dL_law_171 hl (by decide) rfl (fun ls hl => ?_)
          refine lv_aload_n hx hb dL_law_173 rfl (lv_at hl 4 rfl) ?_
          refine rdV (As := []) (ci := 9) S (c_X9_thrown_2 l D cI cZ cJ om q x2 lo_x2 hi_x2) mi_X9_thrown kw_7_89 ⟨rfl, rfl⟩ ⟨Nat.le_of_ble_eq_true rfl, Nat.le_of_ble_eq_true rfl⟩ (va_Pl (ws := (((((((mW om 0 q cI cZ).set 0 (om, .inr (9, ((mF 0 q).set 1 (.int 2))))).set 1 ((q 0), .inl (cI, 10, .inl (upd (upd (fun _ => 0) 0 (-1)) (1 : Int32).toNatClampNeg 0)))).set 2 ((q 1), .inl (cI, 10, .inl (upd (upd (fun _ => 0) 0 (-1)) (1 : Int32).toNatClampNeg x2)))).set 7 ((q 6), .inl (cI, 160, .inl (upd (fun _ => -1) (x2 : Int32).toNatClampNeg 10)))).set 8 ((q 7), .inl (cI, 160, .inl (upd (fun _ => 0) (x2 : Int32).toNatClampNeg (-1))))).set 9 ((q 8), .inl (cI, 160, .inl (upd (fun _ => 0) (x2 : Int32).toNatClampNeg 1))))) (x := ((((((((xW o u cI cZ cJ).set 1 ((u 0), .inr (1, ([.int 1, .ref (u 1), .ref (u 2), .ref (u 3), .ref (u 4), .ref (u 5), .ref (u 6), .ref (u 7), .ref (u 8), .ref (u 9), .ref (u 10), .ref (u 11)].set 0 (.int 2))))).set 2 ((u 1), .inl (cI, 10, .inl (upd (upd (fun _ => 0) (0 : Int32).toNatClampNeg (-1)) (1 : Int32).toNatClampNeg 0)))).set 3 ((u 2), .inl (cI, 10, .inl (upd (upd (fun _ => 0) (0 : Int32).toNatClampNeg (-1)) (1 : Int32).toNatClampNeg x2)))).set 8 ((u 7), .inl (cI, 160, .inl (upd (fun _ => (-1)) (x2 : Int32).toNatClampNeg 10)))).set 9 ((u 8), .inl (cI, 160, .inl (upd (fun _ => 0) (x2 : Int32).toNatClampNeg (-1))))).set 10 ((u 9), .inl (cI, 160, .inl (upd (fun _ => 0) (x2 : Int32).toNatClampNeg 1)))) ++ [(ao, .inl (cJ, 1, .inr (.inl (vp_updL (fun _ => 0) (0 : Int32).toNatClampNeg 1))))])) hP) hK (k := 0) rfl rfl rfl hl.1 (Nat.le_of_ble_eq_true rfl) ⟨Nat.le_of_ble_eq_true rfl, Nat.le_of_ble_eq_true rfl⟩ dL_law_174 ?_
          refine lv_iload hx hb dL_law_177 (lv_at hl 1 rfl) ?_
          refine lv_icmp_eq (tgt := 184) hx hb dL_law_179 (by decide) (fun _ => ?_) (fun c => absurd c (by decide))
          refine lv_iload hx hb dL_law_184 (lv_at hl 1 rfl) ?_
          refine lv_if_ne (tgt := 201) hx hb dL_law_186 (by decide) (fun c => absurd c (by decide)) (fun _ => ?_)
          refine lv_aload_n hx hb dL_law_189 rfl (lv_at hl 3 rfl) ?_
          refine lv_iconst (v := 0) hx hb dL_law_190 (by decide) ?_
          refine xlald (t0 := 2) (v := 1) S hK hP (q0 := 119) rfl rfl (vin rfl) rfl dL_law_191 ?_
          refine lv_iload hx hb dL_law_192 (lv_at hl 0 rfl) ?_
          refine lv_i2l (v := 1) hx hb dL_law_194 (by decide) ?_
          refine xlcmp (v := 0) S dL_law_195 (by decide) ?_
          refine lv_if_eq (tgt := 201) hx hb dL_law_196 (by decide) (fun _ => ?_) (fun c => absurd c (by decide))
          refine lv_goto (tgt := 1519) hx hb dL_law_201 (by decide) ?_
          exact law_tail (cells := 120) (slots := 12958) S hr hlocks hX hbl (lv_sub hl [2, 6] rfl) hS (Nat.le_of_ble_eq_true rfl) (Nat.le_of_ble_eq_true rfl)
