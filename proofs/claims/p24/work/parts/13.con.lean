section XF
def dF0 : List Value := [.null, .null, .null, .int 0, .int 0, .null, .null, .null, .null, .null, .null, .null, .null, .null, .null, .null, .null]
theorem dF0_ok : ∀ j, j < 17 → defaultValue (tyX0 j) = vp_V dF0 j := by decide +kernel
theorem mc_X0_init : mC yX0_init cX0_init 4 3 := ⟨kw_4_212, kw_1_8, kw_4_213, rfl, by decide +kernel, by decide +kernel, by decide +kernel⟩
def dF1 : List Value := [.int 0, .null, .null, .null, .null, .null, .null, .null, .null, .null, .null, .null]
theorem dF1_ok : ∀ j, j < 12 → defaultValue (tyX1 j) = vp_V dF1 j := by decide +kernel
theorem mc_X1_init : mC yX1_init cX1_init 1 0 := ⟨kw_3_208, kw_1_3, kw_3_209, rfl, by decide +kernel, by decide +kernel, by decide +kernel⟩
def dF2 : List Value := [.null, .null, .null, .int 0, .null, .null, .null, .null, .int 0]
theorem dF2_ok : ∀ j, j < 9 → defaultValue (tyX2 j) = vp_V dF2 j := by decide +kernel
theorem mc_X2_init : mC yX2_init cX2_init 4 3 := ⟨kw_4_175, kw_1_7, kw_4_176, rfl, by decide +kernel, by decide +kernel, by decide +kernel⟩
def dF3 : List Value := [.null, .null, .null, .null, .null, .null, .null, .null, .null, .null, .int 0, .int 0, .int 0, .int 0, .int 0, .int 0, .int 0]
theorem dF3_ok : ∀ j, j < 17 → defaultValue (tyX3 j) = vp_V dF3 j := by decide +kernel
theorem mc_X3_init : mC yX3_init cX3_init 5 4 := ⟨kw_5_46, kw_1_9, kw_5_47, rfl, by decide +kernel, by decide +kernel, by decide +kernel⟩
def dF4 : List Value := [.null, .null, .null, .null, .null, .null, .null, .null, .null, .null, .null, .null, .null, .null, .null, .int 0, .int 0, .int 0, .int 0]
theorem dF4_ok : ∀ j, j < 19 → defaultValue (tyX4 j) = vp_V dF4 j := by decide +kernel
theorem mc_X4_init : mC yX4_init cX4_init 3 2 := ⟨kw_4_84, kw_1_6, kw_4_85, rfl, by decide +kernel, by decide +kernel, by decide +kernel⟩
def dF5 : List Value := [.int 0, .null, .null, .null, .null, .null, .null]
theorem dF5_ok : ∀ j, j < 7 → defaultValue (tyX5 j) = vp_V dF5 j := by decide +kernel
theorem mc_X5_init : mC yX5_init cX5_init 1 0 := ⟨kw_4_34, kw_1_5, kw_4_35, rfl, by decide +kernel, by decide +kernel, by decide +kernel⟩
def dF6 : List Value := [.int 0, .int 0, .int 0, .int 0, .int 0, .int 0, .int 0, .int 0, .int 0, .int 0, .long 0, .null, .null, .null]
theorem dF6_ok : ∀ j, j < 14 → defaultValue (tyX6 j) = vp_V dF6 j := by decide +kernel
theorem mc_X6_init : mC yX6_init cX6_init 1 0 := ⟨kw_5_68, kw_1_11, kw_5_69, rfl, by decide +kernel, by decide +kernel, by decide +kernel⟩
def dF7 : List Value := [.int 0, .null, .int 0]
theorem dF7_ok : ∀ j, j < 3 → defaultValue (tyX7 j) = vp_V dF7 j := by decide +kernel
theorem mc_X7_init : mC yX7_init cX7_init 2 1 := ⟨kw_5_51, kw_1_10, kw_5_52, rfl, by decide +kernel, by decide +kernel, by decide +kernel⟩
def dF8 : List Value := [.null, .null, .null, .null, .null, .null, .null, .null, .null, .int 0, .int 0, .int 0, .int 0, .int 0]
theorem dF8_ok : ∀ j, j < 14 → defaultValue (tyX8 j) = vp_V dF8 j := by decide +kernel
theorem mc_X8_init : mC yX8_init cX8_init 1 0 := ⟨kw_3_202, kw_1_2, kw_3_203, rfl, by decide +kernel, by decide +kernel, by decide +kernel⟩
def dF9 : List Value := [.null, .null, .int 0, .int 0, .null, .null, .null, .int 0, .int 0, .int 0, .int 0, .int 0, .null, .null]
theorem dF9_ok : ∀ j, j < 14 → defaultValue (tyX9 j) = vp_V dF9 j := by decide +kernel
theorem mc_X9_init : mC yX9_init cX9_init 3 2 := ⟨kw_3_197, kw_1_1, kw_3_198, rfl, by decide +kernel, by decide +kernel, by decide +kernel⟩
theorem dJ7_fill_53178_0 : decode cJ7_fill_53178 0 = .ok (.iconst 0, 1) := by decide +kernel
theorem dJ7_fill_53178_1 : decode cJ7_fill_53178 1 = .ok (.istore_n 2, 1) := by decide +kernel
theorem dJ7_fill_53178_2 : decode cJ7_fill_53178 2 = .ok (.aload_n 0, 1) := by decide +kernel
theorem dJ7_fill_53178_3 : decode cJ7_fill_53178 3 = .ok (.arraylength, 1) := by decide +kernel
theorem dJ7_fill_53178_4 : decode cJ7_fill_53178 4 = .ok (.istore_n 3, 1) := by decide +kernel
theorem dJ7_fill_53178_5 : decode cJ7_fill_53178 5 = .ok (.iload_n 2, 1) := by decide +kernel
theorem dJ7_fill_53178_6 : decode cJ7_fill_53178 6 = .ok (.iload_n 3, 1) := by decide +kernel
theorem dJ7_fill_53178_7 : decode cJ7_fill_53178 7 = .ok (.if_icmp .ge 13, 3) := by decide +kernel
theorem dJ7_fill_53178_10 : decode cJ7_fill_53178 10 = .ok (.aload_n 0, 1) := by decide +kernel
theorem dJ7_fill_53178_11 : decode cJ7_fill_53178 11 = .ok (.iload_n 2, 1) := by decide +kernel
theorem dJ7_fill_53178_12 : decode cJ7_fill_53178 12 = .ok (.iload_n 1, 1) := by decide +kernel
theorem dJ7_fill_53178_13 : decode cJ7_fill_53178 13 = .ok (.iastore, 1) := by decide +kernel
theorem dJ7_fill_53178_14 : decode cJ7_fill_53178 14 = .ok (.iinc 2 1, 3) := by decide +kernel
theorem dJ7_fill_53178_17 : decode cJ7_fill_53178 17 = .ok (.goto (-12), 3) := by decide +kernel
theorem dJ7_fill_53178_20 : decode cJ7_fill_53178 20 = .ok (.return_, 1) := by decide +kernel
theorem c_fill (l : Launch) (D : va_G) (cI cZ cJ : ClassId) (a N : Nat) (hN : N < 2 ^ 31) (f : Nat → Int32) (v : Int32) (sz : Nat) : Met l yJ7_fill_53178 (uW yJ7_fill_53178 cJ7_fill_53178 4 none) ({ frames := 0, cells := 0, slots := 0, locals := 0 }) (va_Pc [.ref a, .int v] (wS D (tyL cI cZ cJ) [(a, .inl (cI, N, .inl f))] sz)) (wQv D [(a, .inl (cI, N, .inl (fun _ => v)))] (va_A [(a, .inl (cI, N, .inl f))] sz)) 0 0 (va_A [(a, .inl (cI, N, .inl f))] sz) := by
  refine wStart (lv := [(0, .ref a), (1, .int v)]) (Qc := fun A => wQv D [(a, .inl (cI, N, .inl (fun _ => v)))] A) (by decide) (Nat.le_of_ble_eq_true rfl) rfl ?_
  intro p e s m args below meth c ls A H S hr hlocks hnm hl hK hP hD hS hA
  have hx := S.1
  have hb := S.2.1
  refine lv_iconst (v := 0) hx hb dJ7_fill_53178_0 (by decide) ?_
  refine lv_istore_n (lv' := [(2, .int 0), (0, .ref a), (1, .int v)]) hx hb dJ7_fill_53178_1 rfl hl (by decide) rfl (fun ls hl => ?_)
  refine lv_aload_n hx hb dJ7_fill_53178_2 rfl (lv_at hl 1 rfl) ?_
  refine xalen (t0 := 0) (v := nI N) S hK hP (q0 := 0) rfl rfl rfl dJ7_fill_53178_3 ?_
  refine lv_istore_n (lv' := [(3, .int (nI N)), (2, .int 0), (0, .ref a), (1, .int v)]) hx hb dJ7_fill_53178_4 rfl hl (by decide) rfl (fun ls hl => ?_)
  refine xloop N (fun k => [(3, .int (nI N)), (2, .int (nI k)), (0, .ref a), (1, .int v)]) (fun k => [(a, .inl (cI, N, .inl (fl f k v)))]) hl (by show va_P D vwCl [(a, .inl (cI, N, .inl (fl f 0 v)))] H; rw [fl_0]; exact hP) (by show va_D A [(a, .inl (cI, N, .inl (fl f 0 v)))]; rw [fl_0]; exact hD) hS (fun k H locs ls hk hl hP hD hS next => ?_) (fun H locs ls hl hP hD hS => ?_)
  · refine lv_iload_n hx hb dJ7_fill_53178_5 rfl (lv_at hl 1 rfl) ?_
    refine lv_iload_n hx hb dJ7_fill_53178_6 rfl (lv_at hl 0 rfl) ?_
    refine lv_icmp_ge (tgt := 20) hx hb dJ7_fill_53178_7 (by decide) (fun c => absurd c (nI_ge hk hN)) (fun _ => ?_)
    refine lv_aload_n hx hb dJ7_fill_53178_10 rfl (lv_at hl 2 rfl) ?_
    refine lv_iload_n hx hb dJ7_fill_53178_11 rfl (lv_at hl 1 rfl) ?_
    refine lv_iload_n hx hb dJ7_fill_53178_12 rfl (lv_at hl 3 rfl) ?_
    refine xiast (t0 := 0) S hK hP hD hS (q0 := 0) rfl rfl (vp_in_nI hk hN) dJ7_fill_53178_13 (fun H locs hP hD hS => ?_)
    have hP : va_P D vwCl [(a, .inl (cI, N, .inl (upd (fl f k v) (nI k).toNatClampNeg v)))] H := hP
    have hD : va_D A [(a, .inl (cI, N, .inl (upd (fl f k v) (nI k).toNatClampNeg v)))] := hD
    rw [fl_s (by omega)] at hP hD
    refine lv_iinc (v := nI (k + 1)) (lv' := [(2, .int (nI (k + 1))), (3, .int (nI N)), (0, .ref a), (1, .int v)]) hx hb dJ7_fill_53178_14 hl (k := 1) rfl (nI_1 k) (by decide) rfl (fun ls hl => ?_)
    refine lv_goto (tgt := 5) hx hb dJ7_fill_53178_17 (by decide) ?_
    exact next H locs ls (lv_sub hl [1, 0, 2, 3] rfl) hP hD hS
  · refine lv_iload_n hx hb dJ7_fill_53178_5 rfl (lv_at hl 1 rfl) ?_
    refine lv_iload_n hx hb dJ7_fill_53178_6 rfl (lv_at hl 0 rfl) ?_
    refine lv_icmp_ge (tgt := 20) hx hb dJ7_fill_53178_7 (by decide) (fun _ => ?_) (fun c => absurd (Int32.le_refl _) c)
    have hP2 := cellP (ws := [(a, .inl (cI, N, .inl (fl f N v)))]) (k := 0) (g := fun _ => v) fl_N hP rfl
    have hD2 := va_D.set (ws := [(a, .inl (cI, N, .inl (fl f N v)))]) (p := 0) (e := .inl (cI, N, .inl (fun _ => v))) hD rfl
    exact wEndv S hr hlocks hP2 hD2 hS (Nat.le_of_ble_eq_true rfl) (Nat.le_of_ble_eq_true rfl) dJ7_fill_53178_20
end XF
