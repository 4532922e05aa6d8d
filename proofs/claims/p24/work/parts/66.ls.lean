section LS
theorem dX9_init_0 : decode cX9_init 0 = .ok (.aload_n 0, 1) := by decide +kernel
theorem dX9_init_1 : decode cX9_init 1 = .ok (.invokespecial 1, 3) := by decide +kernel
theorem dX9_init_4 : decode cX9_init 4 = .ok (.aload_n 0, 1) := by decide +kernel
theorem dX9_init_5 : decode cX9_init 5 = .ok (.new 7, 3) := by decide +kernel
theorem dX9_init_8 : decode cX9_init 8 = .ok (.dup, 1) := by decide +kernel
theorem dX9_init_9 : decode cX9_init 9 = .ok (.invokespecial 9, 3) := by decide +kernel
theorem dX9_init_12 : decode cX9_init 12 = .ok (.putfield 10, 3) := by decide +kernel
theorem dX9_init_15 : decode cX9_init 15 = .ok (.aload_n 0, 1) := by decide +kernel
theorem dX9_init_16 : decode cX9_init 16 = .ok (.bipush 110, 2) := by decide +kernel
theorem dX9_init_18 : decode cX9_init 18 = .ok (.anewarray 16, 3) := by decide +kernel
theorem dX9_init_21 : decode cX9_init 21 = .ok (.putfield 18, 3) := by decide +kernel
theorem dX9_init_24 : decode cX9_init 24 = .ok (.aload_n 0, 1) := by decide +kernel
theorem dX9_init_25 : decode cX9_init 25 = .ok (.iconst 3, 1) := by decide +kernel
theorem dX9_init_26 : decode cX9_init 26 = .ok (.newarray .int, 2) := by decide +kernel
theorem dX9_init_28 : decode cX9_init 28 = .ok (.putfield 22, 3) := by decide +kernel
theorem dX9_init_31 : decode cX9_init 31 = .ok (.aload_n 0, 1) := by decide +kernel
theorem dX9_init_32 : decode cX9_init 32 = .ok (.iconst 4, 1) := by decide +kernel
theorem dX9_init_33 : decode cX9_init 33 = .ok (.newarray .int, 2) := by decide +kernel
theorem dX9_init_35 : decode cX9_init 35 = .ok (.putfield 25, 3) := by decide +kernel
theorem dX9_init_38 : decode cX9_init 38 = .ok (.aload_n 0, 1) := by decide +kernel
theorem dX9_init_39 : decode cX9_init 39 = .ok (.iconst 0, 1) := by decide +kernel
theorem dX9_init_40 : decode cX9_init 40 = .ok (.newarray .int, 2) := by decide +kernel
theorem dX9_init_42 : decode cX9_init 42 = .ok (.putfield 28, 3) := by decide +kernel
theorem dX9_init_45 : decode cX9_init 45 = .ok (.aload_n 0, 1) := by decide +kernel
theorem dX9_init_46 : decode cX9_init 46 = .ok (.iconst 0, 1) := by decide +kernel
theorem dX9_init_47 : decode cX9_init 47 = .ok (.newarray .int, 2) := by decide +kernel
theorem dX9_init_49 : decode cX9_init 49 = .ok (.putfield 31, 3) := by decide +kernel
theorem dX9_init_52 : decode cX9_init 52 = .ok (.aload_n 0, 1) := by decide +kernel
theorem dX9_init_53 : decode cX9_init 53 = .ok (.aload_n 1, 1) := by decide +kernel
theorem dX9_init_54 : decode cX9_init 54 = .ok (.putfield 34, 3) := by decide +kernel
theorem dX9_init_57 : decode cX9_init 57 = .ok (.aload_n 0, 1) := by decide +kernel
theorem dX9_init_58 : decode cX9_init 58 = .ok (.iload_n 2, 1) := by decide +kernel
theorem dX9_init_59 : decode cX9_init 59 = .ok (.putfield 37, 3) := by decide +kernel
theorem dX9_init_62 : decode cX9_init 62 = .ok (.return_, 1) := by decide +kernel
/-- the Mill, fresh: its own fields, and the cells below it -/
def mF (ga : SG) (d : Int32) (U : Nat → Nat) : List Value := [.ref (U 0), .ref ga.1, .int d, .int 0, .ref (U 88), .ref (U 89), .ref (U 90), .int 0, .int 0, .int 0, .int 0, .int 0, .ref (U 91), .ref (U 92)]
def mT (cI cZ cJ : ClassId) (d : Int32) (U : Nat → Nat) : va_W := cW (U 0) (fun j => U (j + 1)) cI cZ cJ 75 (z0 d) ++ [(U 88, .inl (cJ, 110, .inr (.inr (.inr (.inr (fun _ => none)))))), (U 89, .inl (cI, 3, .inl (fun _ => 0))), (U 90, .inl (cI, 4, .inl (fun _ => 0))), (U 91, .inl (cI, 0, .inl (fun _ => 0))), (U 92, .inl (cI, 0, .inl (fun _ => 0)))]
set_option maxHeartbeats 8000000 in
set_option maxRecDepth 100000 in
theorem c_X9_init (l : Launch) (D : va_G) (cI cZ cJ : ClassId) (g : Nat) (d : Int32) (ra : Nat → Nat) (ga : SG) (sz : Nat) : Met l yX9_init (uW yX9_init cX9_init 3 none) ({ frames := 4, cells := 93, slots := 11264, locals := 77 }) (va_Pc [.ref g, .ref ga.1, .int d] (aS ra ga D (tyL cI cZ cJ) [(g, .inr (9, dF9))] sz)) (wQc D (fun U => (g, .inr (9, mF ga d U)) :: mT cI cZ cJ d U) (va_A [(g, .inr (9, dF9))] sz)) 93 11264 (va_A [(g, .inr (9, dF9))] sz) := by
  refine aStart (y := yX9_init) (lv := [(0, .ref g), (1, .ref ga.1), (2, .int d)]) (Qc := fun A => wQc D (fun U => (g, .inr (9, mF ga d U)) :: mT cI cZ cJ d U) A) (by decide) (Nat.le_of_ble_eq_true rfl) rfl ?_
  intro p e s m args below meth c ls A H S hr hlocks hnm hl hK hP hD hS hA hB
  have hx := S.1
  have hb := S.2.1
  have hin : meth.name = "<init>" := hnm
  refine lv_aload_n hx hb dX9_init_0 rfl (lv_at hl 0 rfl) ?_
  refine xobj S kw_3_199 kw_1_60 kw_1_61 hl.1 dX9_init_1 (Nat.le_of_ble_eq_true rfl) (Nat.le_of_ble_eq_true rfl) ?_
  refine lv_aload_n hx hb dX9_init_4 rfl (lv_at hl 0 rfl) ?_
  refine xnew (ci := 8) (fs := dF8) S inX8 tyX8 tyX8_ok kw_3_200 kw_1_28 kw_1_2 hK hP hD hS hA rfl dF8_ok (Nat.le_of_ble_eq_true rfl) (Nat.le_of_ble_eq_true rfl) dX9_init_5 (fun o H hP hD hS => ?_)
  have hP : va_P D vwCl ((g, .inr (9, [.null, .null, .int 0, .int 0, .null, .null, .null, .int 0, .int 0, .int 0, .int 0, .int 0, .null, .null])) :: [(o, .inr (8, dF8))]) H := hP
  have hD : va_D A ((g, .inr (9, [.null, .null, .int 0, .int 0, .null, .null, .null, .int 0, .int 0, .int 0, .int 0, .int 0, .null, .null])) :: [(o, .inr (8, dF8))]) := hD
  refine lv_dup hx hb dX9_init_8 rfl ?_
  refine aI (As := []) (k := 1) S (c_X8_init l D cI cZ cJ o ra ga H.size) mc_X8_init kw_3_201 rfl rfl ⟨Nat.le_of_ble_eq_true rfl, Nat.le_of_ble_eq_true rfl⟩ hP hD hK hS hA hB rfl hl.1 (Nat.le_of_ble_eq_true rfl) ⟨Nat.le_of_ble_eq_true rfl, Nat.le_of_ble_eq_true rfl⟩ dX9_init_9 (fun u H locs hz hP hD hS => ?_)
  have hP : va_P D vwCl ([(g, .inr (9, [.null, .null, .int 0, .int 0, .null, .null, .null, .int 0, .int 0, .int 0, .int 0, .int 0, .null, .null]))] ++ (cW o u cI cZ cJ 75 (z0 d) ++ [])) H := hP
  have hD : va_D A ([(g, .inr (9, [.null, .null, .int 0, .int 0, .null, .null, .null, .int 0, .int 0, .int 0, .int 0, .int 0, .null, .null]))] ++ (cW o u cI cZ cJ 75 (z0 d) ++ [])) := hD
  refine xpF (ci := 9) (v := .ref o) S inX9 tyX9 tyX9_ok nmX9 rfl hK hP hD hS (q0 := 0) rfl 0 (by decide) kw_5_228 rfl rfl hin rfl rfl rfl (Nat.le_of_ble_eq_true rfl) dX9_init_12 (fun H locs hP hD hS => ?_)
  have hP : va_P D vwCl ([(g, .inr (9, [.ref o, .null, .int 0, .int 0, .null, .null, .null, .int 0, .int 0, .int 0, .int 0, .int 0, .null, .null]))] ++ (cW o u cI cZ cJ 75 (z0 d) ++ [])) H := hP
  have hD : va_D A ([(g, .inr (9, [.ref o, .null, .int 0, .int 0, .null, .null, .null, .int 0, .int 0, .int 0, .int 0, .int 0, .null, .null]))] ++ (cW o u cI cZ cJ 75 (z0 d) ++ [])) := hD
  refine lv_aload_n hx hb dX9_init_15 rfl (lv_at hl 0 rfl) ?_
  refine lv_bipush (v := 110) hx hb dX9_init_16 (by decide) ?_
  refine xanewa (t0 := 0) (N := 110) S hB kw_5_226 hK hP hD hS hA (by decide) (by decide) (by decide) (Nat.le_of_ble_eq_true rfl) (Nat.le_of_ble_eq_true rfl) dX9_init_18 (fun n1 H hP hD hS => ?_)
  have hP : va_P D vwCl ([(g, .inr (9, [.ref o, .null, .int 0, .int 0, .null, .null, .null, .int 0, .int 0, .int 0, .int 0, .int 0, .null, .null]))] ++ (cW o u cI cZ cJ 75 (z0 d) ++ [(n1, .inl (cJ, 110, .inr (.inr (.inr (.inr (fun _ => none))))))])) H := hP
  have hD : va_D A ([(g, .inr (9, [.ref o, .null, .int 0, .int 0, .null, .null, .null, .int 0, .int 0, .int 0, .int 0, .int 0, .null, .null]))] ++ (cW o u cI cZ cJ 75 (z0 d) ++ [(n1, .inl (cJ, 110, .inr (.inr (.inr (.inr (fun _ => none))))))])) := hD
  refine xpF (ci := 9) (v := .ref n1) S inX9 tyX9 tyX9_ok nmX9 rfl hK hP hD hS (q0 := 0) rfl 4 (by decide) kw_5_234 rfl rfl hin rfl rfl rfl (Nat.le_of_ble_eq_true rfl) dX9_init_21 (fun H locs hP hD hS => ?_)
  have hP : va_P D vwCl ([(g, .inr (9, [.ref o, .null, .int 0, .int 0, .ref n1, .null, .null, .int 0, .int 0, .int 0, .int 0, .int 0, .null, .null]))] ++ (cW o u cI cZ cJ 75 (z0 d) ++ [(n1, .inl (cJ, 110, .inr (.inr (.inr (.inr (fun _ => none))))))])) H := hP
  have hD : va_D A ([(g, .inr (9, [.ref o, .null, .int 0, .int 0, .ref n1, .null, .null, .int 0, .int 0, .int 0, .int 0, .int 0, .null, .null]))] ++ (cW o u cI cZ cJ 75 (z0 d) ++ [(n1, .inl (cJ, 110, .inr (.inr (.inr (.inr (fun _ => none))))))])) := hD
  refine lv_aload_n hx hb dX9_init_24 rfl (lv_at hl 0 rfl) ?_
  refine lv_iconst (v := 3) hx hb dX9_init_25 (by decide) ?_
  refine xnewa (ty := .int) (t0 := 0) (N := 3) (a0 := (3, .inl (fun _ => 0))) S kw_3_130 rfl (Or.inl rfl) hK hP hD hS hA rfl (fun _ => rfl) (by decide) (by decide) (by decide) (Nat.le_of_ble_eq_true rfl) (Nat.le_of_ble_eq_true rfl) dX9_init_26 (fun n2 H hP hD hS => ?_)
  have hP : va_P D vwCl ([(g, .inr (9, [.ref o, .null, .int 0, .int 0, .ref n1, .null, .null, .int 0, .int 0, .int 0, .int 0, .int 0, .null, .null]))] ++ (cW o u cI cZ cJ 75 (z0 d) ++ [(n1, .inl (cJ, 110, .inr (.inr (.inr (.inr (fun _ => none)))))), (n2, .inl (cI, 3, .inl (fun _ => 0)))])) H := hP
  have hD : va_D A ([(g, .inr (9, [.ref o, .null, .int 0, .int 0, .ref n1, .null, .null, .int 0, .int 0, .int 0, .int 0, .int 0, .null, .null]))] ++ (cW o u cI cZ cJ 75 (z0 d) ++ [(n1, .inl (cJ, 110, .inr (.inr (.inr (.inr (fun _ => none)))))), (n2, .inl (cI, 3, .inl (fun _ => 0)))])) := hD
  refine xp (ci := 9) (v := .ref n2) S inX9 tyX9 tyX9_ok nmX9 rfl hK hP hD hS (q0 := 0) rfl 5 (by decide) kw_5_235 rfl rfl rfl rfl (Nat.le_of_ble_eq_true rfl) dX9_init_28 (fun H locs hP hD hS => ?_)
  have hP : va_P D vwCl ([(g, .inr (9, [.ref o, .null, .int 0, .int 0, .ref n1, .ref n2, .null, .int 0, .int 0, .int 0, .int 0, .int 0, .null, .null]))] ++ (cW o u cI cZ cJ 75 (z0 d) ++ [(n1, .inl (cJ, 110, .inr (.inr (.inr (.inr (fun _ => none)))))), (n2, .inl (cI, 3, .inl (fun _ => 0)))])) H := hP
  have hD : va_D A ([(g, .inr (9, [.ref o, .null, .int 0, .int 0, .ref n1, .ref n2, .null, .int 0, .int 0, .int 0, .int 0, .int 0, .null, .null]))] ++ (cW o u cI cZ cJ 75 (z0 d) ++ [(n1, .inl (cJ, 110, .inr (.inr (.inr (.inr (fun _ => none)))))), (n2, .inl (cI, 3, .inl (fun _ => 0)))])) := hD
  refine lv_aload_n hx hb dX9_init_31 rfl (lv_at hl 0 rfl) ?_
  refine lv_iconst (v := 4) hx hb dX9_init_32 (by decide) ?_
  refine xnewa (ty := .int) (t0 := 0) (N := 4) (a0 := (4, .inl (fun _ => 0))) S kw_3_130 rfl (Or.inl rfl) hK hP hD hS hA rfl (fun _ => rfl) (by decide) (by decide) (by decide) (Nat.le_of_ble_eq_true rfl) (Nat.le_of_ble_eq_true rfl) dX9_init_33 (fun n3 H hP hD hS => ?_)
  have hP : va_P D vwCl ([(g, .inr (9, [.ref o, .null, .int 0, .int 0, .ref n1, .ref n2, .null, .int 0, .int 0, .int 0, .int 0, .int 0, .null, .null]))] ++ (cW o u cI cZ cJ 75 (z0 d) ++ [(n1, .inl (cJ, 110, .inr (.inr (.inr (.inr (fun _ => none)))))), (n2, .inl (cI, 3, .inl (fun _ => 0))), (n3, .inl (cI, 4, .inl (fun _ => 0)))])) H := hP
  have hD : va_D A ([(g, .inr (9, [.ref o, .null, .int 0, .int 0, .ref n1, .ref n2, .null, .int 0, .int 0, .int 0, .int 0, .int 0, .null, .null]))] ++ (cW o u cI cZ cJ 75 (z0 d) ++ [(n1, .inl (cJ, 110, .inr (.inr (.inr (.inr (fun _ => none)))))), (n2, .inl (cI, 3, .inl (fun _ => 0))), (n3, .inl (cI, 4, .inl (fun _ => 0)))])) := hD
  refine xp (ci := 9) (v := .ref n3) S inX9 tyX9 tyX9_ok nmX9 rfl hK hP hD hS (q0 := 0) rfl 6 (by decide) kw_5_236 rfl rfl rfl rfl (Nat.le_of_ble_eq_true rfl) dX9_init_35 (fun H locs hP hD hS => ?_)
  have hP : va_P D vwCl ([(g, .inr (9, [.ref o, .null, .int 0, .int 0, .ref n1, .ref n2, .ref n3, .int 0, .int 0, .int 0, .int 0, .int 0, .null, .null]))] ++ (cW o u cI cZ cJ 75 (z0 d) ++ [(n1, .inl (cJ, 110, .inr (.inr (.inr (.inr (fun _ => none)))))), (n2, .inl (cI, 3, .inl (fun _ => 0))), (n3, .inl (cI, 4, .inl (fun _ => 0)))])) H := hP
  have hD : va_D A ([(g, .inr (9, [.ref o, .null, .int 0, .int 0, .ref n1, .ref n2, .ref n3, .int 0, .int 0, .int 0, .int 0, .int 0, .null, .null]))] ++ (cW o u cI cZ cJ 75 (z0 d) ++ [(n1, .inl (cJ, 110, .inr (.inr (.inr (.inr (fun _ => none)))))), (n2, .inl (cI, 3, .inl (fun _ => 0))), (n3, .inl (cI, 4, .inl (fun _ => 0)))])) := hD
  refine lv_aload_n hx hb dX9_init_38 rfl (lv_at hl 0 rfl) ?_
  refine lv_iconst (v := 0) hx hb dX9_init_39 (by decide) ?_
  refine xnewa (ty := .int) (t0 := 0) (N := 0) (a0 := (0, .inl (fun _ => 0))) S kw_3_130 rfl (Or.inl rfl) hK hP hD hS hA rfl (fun _ => rfl) (by decide) (by decide) (by decide) (Nat.le_of_ble_eq_true rfl) (Nat.le_of_ble_eq_true rfl) dX9_init_40 (fun n4 H hP hD hS => ?_)
  have hP : va_P D vwCl ([(g, .inr (9, [.ref o, .null, .int 0, .int 0, .ref n1, .ref n2, .ref n3, .int 0, .int 0, .int 0, .int 0, .int 0, .null, .null]))] ++ (cW o u cI cZ cJ 75 (z0 d) ++ [(n1, .inl (cJ, 110, .inr (.inr (.inr (.inr (fun _ => none)))))), (n2, .inl (cI, 3, .inl (fun _ => 0))), (n3, .inl (cI, 4, .inl (fun _ => 0))), (n4, .inl (cI, 0, .inl (fun _ => 0)))])) H := hP
  have hD : va_D A ([(g, .inr (9, [.ref o, .null, .int 0, .int 0, .ref n1, .ref n2, .ref n3, .int 0, .int 0, .int 0, .int 0, .int 0, .null, .null]))] ++ (cW o u cI cZ cJ 75 (z0 d) ++ [(n1, .inl (cJ, 110, .inr (.inr (.inr (.inr (fun _ => none)))))), (n2, .inl (cI, 3, .inl (fun _ => 0))), (n3, .inl (cI, 4, .inl (fun _ => 0))), (n4, .inl (cI, 0, .inl (fun _ => 0)))])) := hD
  refine xp (ci := 9) (v := .ref n4) S inX9 tyX9 tyX9_ok nmX9 rfl hK hP hD hS (q0 := 0) rfl 12 (by decide) kw_5_238 rfl rfl rfl rfl (Nat.le_of_ble_eq_true rfl) dX9_init_42 (fun H locs hP hD hS => ?_)
  have hP : va_P D vwCl ([(g, .inr (9, [.ref o, .null, .int 0, .int 0, .ref n1, .ref n2, .ref n3, .int 0, .int 0, .int 0, .int 0, .int 0, .ref n4, .null]))] ++ (cW o u cI cZ cJ 75 (z0 d) ++ [(n1, .inl (cJ, 110, .inr (.inr (.inr (.inr (fun _ => none)))))), (n2, .inl (cI, 3, .inl (fun _ => 0))), (n3, .inl (cI, 4, .inl (fun _ => 0))), (n4, .inl (cI, 0, .inl (fun _ => 0)))])) H := hP
  have hD : va_D A ([(g, .inr (9, [.ref o, .null, .int 0, .int 0, .ref n1, .ref n2, .ref n3, .int 0, .int 0, .int 0, .int 0, .int 0, .ref n4, .null]))] ++ (cW o u cI cZ cJ 75 (z0 d) ++ [(n1, .inl (cJ, 110, .inr (.inr (.inr (.inr (fun _ => none)))))), (n2, .inl (cI, 3, .inl (fun _ => 0))), (n3, .inl (cI, 4, .inl (fun _ => 0))), (n4, .inl (cI, 0, .inl (fun _ => 0)))])) := hD
  refine lv_aload_n hx hb dX9_init_45 rfl (lv_at hl 0 rfl) ?_
  refine lv_iconst (v := 0) hx hb dX9_init_46 (by decide) ?_
  refine xnewa (ty := .int) (t0 := 0) (N := 0) (a0 := (0, .inl (fun _ => 0))) S kw_3_130 rfl (Or.inl rfl) hK hP hD hS hA rfl (fun _ => rfl) (by decide) (by decide) (by decide) (Nat.le_of_ble_eq_true rfl) (Nat.le_of_ble_eq_true rfl) dX9_init_47 (fun n5 H hP hD hS => ?_)
  have hP : va_P D vwCl ([(g, .inr (9, [.ref o, .null, .int 0, .int 0, .ref n1, .ref n2, .ref n3, .int 0, .int 0, .int 0, .int 0, .int 0, .ref n4, .null]))] ++ (cW o u cI cZ cJ 75 (z0 d) ++ [(n1, .inl (cJ, 110, .inr (.inr (.inr (.inr (fun _ => none)))))), (n2, .inl (cI, 3, .inl (fun _ => 0))), (n3, .inl (cI, 4, .inl (fun _ => 0))), (n4, .inl (cI, 0, .inl (fun _ => 0))), (n5, .inl (cI, 0, .inl (fun _ => 0)))])) H := hP
  have hD : va_D A ([(g, .inr (9, [.ref o, .null, .int 0, .int 0, .ref n1, .ref n2, .ref n3, .int 0, .int 0, .int 0, .int 0, .int 0, .ref n4, .null]))] ++ (cW o u cI cZ cJ 75 (z0 d) ++ [(n1, .inl (cJ, 110, .inr (.inr (.inr (.inr (fun _ => none)))))), (n2, .inl (cI, 3, .inl (fun _ => 0))), (n3, .inl (cI, 4, .inl (fun _ => 0))), (n4, .inl (cI, 0, .inl (fun _ => 0))), (n5, .inl (cI, 0, .inl (fun _ => 0)))])) := hD
  refine xp (ci := 9) (v := .ref n5) S inX9 tyX9 tyX9_ok nmX9 rfl hK hP hD hS (q0 := 0) rfl 13 (by decide) kw_5_239 rfl rfl rfl rfl (Nat.le_of_ble_eq_true rfl) dX9_init_49 (fun H locs hP hD hS => ?_)
  have hP : va_P D vwCl ([(g, .inr (9, [.ref o, .null, .int 0, .int 0, .ref n1, .ref n2, .ref n3, .int 0, .int 0, .int 0, .int 0, .int 0, .ref n4, .ref n5]))] ++ (cW o u cI cZ cJ 75 (z0 d) ++ [(n1, .inl (cJ, 110, .inr (.inr (.inr (.inr (fun _ => none)))))), (n2, .inl (cI, 3, .inl (fun _ => 0))), (n3, .inl (cI, 4, .inl (fun _ => 0))), (n4, .inl (cI, 0, .inl (fun _ => 0))), (n5, .inl (cI, 0, .inl (fun _ => 0)))])) H := hP
  have hD : va_D A ([(g, .inr (9, [.ref o, .null, .int 0, .int 0, .ref n1, .ref n2, .ref n3, .int 0, .int 0, .int 0, .int 0, .int 0, .ref n4, .ref n5]))] ++ (cW o u cI cZ cJ 75 (z0 d) ++ [(n1, .inl (cJ, 110, .inr (.inr (.inr (.inr (fun _ => none)))))), (n2, .inl (cI, 3, .inl (fun _ => 0))), (n3, .inl (cI, 4, .inl (fun _ => 0))), (n4, .inl (cI, 0, .inl (fun _ => 0))), (n5, .inl (cI, 0, .inl (fun _ => 0)))])) := hD
  refine lv_aload_n hx hb dX9_init_52 rfl (lv_at hl 0 rfl) ?_
  refine lv_aload_n hx hb dX9_init_53 rfl (lv_at hl 1 rfl) ?_
  refine xpF (ci := 9) (v := .ref ga.1) S inX9 tyX9 tyX9_ok nmX9 rfl hK hP hD hS (q0 := 0) rfl 1 (by decide) kw_5_230 rfl rfl hin rfl rfl rfl (Nat.le_of_ble_eq_true rfl) dX9_init_54 (fun H locs hP hD hS => ?_)
  have hP : va_P D vwCl ([(g, .inr (9, [.ref o, .ref ga.1, .int 0, .int 0, .ref n1, .ref n2, .ref n3, .int 0, .int 0, .int 0, .int 0, .int 0, .ref n4, .ref n5]))] ++ (cW o u cI cZ cJ 75 (z0 d) ++ [(n1, .inl (cJ, 110, .inr (.inr (.inr (.inr (fun _ => none)))))), (n2, .inl (cI, 3, .inl (fun _ => 0))), (n3, .inl (cI, 4, .inl (fun _ => 0))), (n4, .inl (cI, 0, .inl (fun _ => 0))), (n5, .inl (cI, 0, .inl (fun _ => 0)))])) H := hP
  have hD : va_D A ([(g, .inr (9, [.ref o, .ref ga.1, .int 0, .int 0, .ref n1, .ref n2, .ref n3, .int 0, .int 0, .int 0, .int 0, .int 0, .ref n4, .ref n5]))] ++ (cW o u cI cZ cJ 75 (z0 d) ++ [(n1, .inl (cJ, 110, .inr (.inr (.inr (.inr (fun _ => none)))))), (n2, .inl (cI, 3, .inl (fun _ => 0))), (n3, .inl (cI, 4, .inl (fun _ => 0))), (n4, .inl (cI, 0, .inl (fun _ => 0))), (n5, .inl (cI, 0, .inl (fun _ => 0)))])) := hD
  refine lv_aload_n hx hb dX9_init_57 rfl (lv_at hl 0 rfl) ?_
  refine lv_iload_n hx hb dX9_init_58 rfl (lv_at hl 2 rfl) ?_
  refine xp (ci := 9) (v := .int d) S inX9 tyX9 tyX9_ok nmX9 rfl hK hP hD hS (q0 := 0) rfl 2 (by decide) kw_5_231 rfl rfl rfl rfl (Nat.le_of_ble_eq_true rfl) dX9_init_59 (fun H locs hP hD hS => ?_)
  have hP : va_P D vwCl ([(g, .inr (9, [.ref o, .ref ga.1, .int d, .int 0, .ref n1, .ref n2, .ref n3, .int 0, .int 0, .int 0, .int 0, .int 0, .ref n4, .ref n5]))] ++ (cW o u cI cZ cJ 75 (z0 d) ++ [(n1, .inl (cJ, 110, .inr (.inr (.inr (.inr (fun _ => none)))))), (n2, .inl (cI, 3, .inl (fun _ => 0))), (n3, .inl (cI, 4, .inl (fun _ => 0))), (n4, .inl (cI, 0, .inl (fun _ => 0))), (n5, .inl (cI, 0, .inl (fun _ => 0)))])) H := hP
  have hD : va_D A ([(g, .inr (9, [.ref o, .ref ga.1, .int d, .int 0, .ref n1, .ref n2, .ref n3, .int 0, .int 0, .int 0, .int 0, .int 0, .ref n4, .ref n5]))] ++ (cW o u cI cZ cJ 75 (z0 d) ++ [(n1, .inl (cJ, 110, .inr (.inr (.inr (.inr (fun _ => none)))))), (n2, .inl (cI, 3, .inl (fun _ => 0))), (n3, .inl (cI, 4, .inl (fun _ => 0))), (n4, .inl (cI, 0, .inl (fun _ => 0))), (n5, .inl (cI, 0, .inl (fun _ => 0)))])) := hD
  exact wEndc (w1 := fun U => (g, .inr (9, mF ga d U)) :: mT cI cZ cJ d U) (fun j => if j = 0 then o else if j < 88 then u (j - 1) else if j = 88 then n1 else if j = 89 then n2 else if j = 90 then n3 else if j = 91 then n4 else n5) S hr hlocks hP hD hS (Nat.le_of_ble_eq_true rfl) (Nat.le_of_ble_eq_true rfl) dX9_init_62
end LS
