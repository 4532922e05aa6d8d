set_option maxHeartbeats 8000000 in
set_option maxRecDepth 100000 in
theorem m_meanPrinted_1 (l : Launch) (D : va_G) (cI cZ cJ : ClassId) (o : Nat) (q : Nat → Nat) (sz : Nat) : Met l yX9_meanPrinted (uW yX9_meanPrinted cX9_meanPrinted 1 (some .double)) ({ frames := 0, cells := 0, slots := 0, locals := 0 }) (va_Pc [.ref o] (wS D (tyL cI cZ cJ) (mW o 0 q cI cZ) sz)) (wQd (FP.dconst0) D (mW o 0 q cI cZ) (va_A (mW o 0 q cI cZ) sz)) 0 0 (va_A (mW o 0 q cI cZ) sz) := by
  refine wStart (lv := [(0, .ref o)]) (Qc := fun A => wQd (FP.dconst0) D (mW o 0 q cI cZ) A) (by decide) (Nat.le_of_ble_eq_true rfl) rfl ?_
  intro p e s m args below meth c ls A H S hr hlocks hnm hl hK hP hD hS hA
  have hx := S.1
  have hb := S.2.1
  refine lv_aload_n hx hb dX9_meanPrinted_0 rfl (lv_at hl 0 rfl) ?_
  refine lv_iconst (v := 0) hx hb dX9_meanPrinted_1 (by decide) ?_
  refine xp (ci := 9) (v := .int 0) S inX9 tyX9 tyX9_ok nmX9 rfl hK hP hD hS mW_0 0 (by decide) kw_6_147 rfl rfl rfl rfl (Nat.le_of_ble_eq_true rfl) dX9_meanPrinted_2 (fun H locs hP hD hS => ?_)
  have hP : va_P D vwCl (mW o 0 q cI cZ) H := hP
  have hD : va_D A (mW o 0 q cI cZ) := hD
  refine lv_aload_n hx hb dX9_meanPrinted_5 rfl (lv_at hl 0 rfl) ?_
  refine xg (ci := 9) S inX9 rfl hK hP mW_0 24 (by decide) mF_24 kw_6_171 rfl dX9_meanPrinted_6 ?_
  refine lv_iconst (v := 4) hx hb dX9_meanPrinted_9 (by decide) ?_
  refine xiald (t0 := 0) (v := 0) S hK hP mW_18 rfl (vin rfl) rfl dX9_meanPrinted_10 ?_
  refine lv_if_ne (tgt := 18) hx hb dX9_meanPrinted_11 (by decide) (fun c => absurd c (by decide)) (fun _ => ?_)
  refine lv_dconst0 hx hb dX9_meanPrinted_14 ?_
  refine lv_goto (tgt := 31) hx hb dX9_meanPrinted_15 (by decide) ?_
  exact wEndd S hr hlocks hP hD hS (Nat.le_of_ble_eq_true rfl) (Nat.le_of_ble_eq_true rfl) dX9_meanPrinted_31 rfl
