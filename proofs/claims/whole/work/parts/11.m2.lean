set_option maxHeartbeats 8000000 in
set_option maxRecDepth 100000 in
theorem m_variable_ok2 (l : Launch) (D : va_G) (cI cZ cJ : ClassId) (o : Nat) (q : Nat → Nat) (sz : Nat) (x2 : Int32) (lo_x2 : 0 ≤ x2) (hi_x2 : x2 ≤ 15) : Met l yX9_variable (uW yX9_variable cX9_variable 6 (some .int)) ({ frames := 2, cells := 0, slots := 0, locals := 43 }) (va_Pc [.ref o, .int 0, .int x2, .int 2, .int 0] (wS D (tyL cI cZ cJ) (mW o 0 q cI cZ) sz)) (wQi (0) D ((((((((mW o 0 q cI cZ).set 4 ((q 3), .inl (cI, 10, .inl (upd (fun _ => 0) (0 : Int32).toNatClampNeg 1)))).set 5 ((q 4), .inl (cI, 10, .inl (upd (fun _ => 0) (0 : Int32).toNatClampNeg 1)))).set 7 ((q 6), .inl (cI, 160, .inl (upd (fun _ => -1) (x2 : Int32).toNatClampNeg 8)))).set 8 ((q 7), .inl (cI, 160, .inl (upd (fun _ => 0) (x2 : Int32).toNatClampNeg 0)))).set 9 ((q 8), .inl (cI, 160, .inl (upd (fun _ => 0) (x2 : Int32).toNatClampNeg 0)))).set 10 ((q 9), .inl (cI, 100, .inl (upd (fun _ => 0) (0 : Int32).toNatClampNeg 8)))).set 11 ((q 10), .inl (cI, 100, .inl (upd (fun _ => 0) (0 : Int32).toNatClampNeg 0)))) (va_A (mW o 0 q cI cZ) sz)) 0 0 (va_A (mW o 0 q cI cZ) sz) := by
  refine wStart (lv := [(0, .ref o), (1, .int 0), (2, .int x2), (3, .int 2), (4, .int 0)]) (Qc := fun A => wQi (0) D ((((((((mW o 0 q cI cZ).set 4 ((q 3), .inl (cI, 10, .inl (upd (fun _ => 0) (0 : Int32).toNatClampNeg 1)))).set 5 ((q 4), .inl (cI, 10, .inl (upd (fun _ => 0) (0 : Int32).toNatClampNeg 1)))).set 7 ((q 6), .inl (cI, 160, .inl (upd (fun _ => -1) (x2 : Int32).toNatClampNeg 8)))).set 8 ((q 7), .inl (cI, 160, .inl (upd (fun _ => 0) (x2 : Int32).toNatClampNeg 0)))).set 9 ((q 8), .inl (cI, 160, .inl (upd (fun _ => 0) (x2 : Int32).toNatClampNeg 0)))).set 10 ((q 9), .inl (cI, 100, .inl (upd (fun _ => 0) (0 : Int32).toNatClampNeg 8)))).set 11 ((q 10), .inl (cI, 100, .inl (upd (fun _ => 0) (0 : Int32).toNatClampNeg 0)))) A) (by decide) (Nat.le_of_ble_eq_true rfl) rfl ?_
  intro p e s m args below meth c ls A H S hr hlocks hnm hl hK hP hD hS hA
  have hx := S.1
  have hb := S.2.1
  refine lv_aload_n hx hb dX9_variable_0 rfl (lv_at hl 0 rfl) ?_
  refine lv_iconst (v := 0) hx hb dX9_variable_1 (by decide) ?_
  refine xp (ci := 9) (v := .int 0) S inX9 tyX9 tyX9_ok nmX9 rfl hK hP hD hS mW_0 0 (by decide) kw_6_147 rfl rfl rfl rfl (Nat.le_of_ble_eq_true rfl) dX9_variable_2 (fun H locs hP hD hS => ?_)
  have hP : va_P D vwCl (mW o 0 q cI cZ) H := hP
  have hD : va_D A (mW o 0 q cI cZ) := hD
  refine lv_aload_n hx hb dX9_variable_5 rfl (lv_at hl 0 rfl) ?_
  refine lv_iload_n hx hb dX9_variable_6 rfl (lv_at hl 1 rfl) ?_
  refine rdV (As := [.int 0]) (ci := 9) S (c_X9_isProcedure_1 l D cI cZ cJ o q) mi_X9_isProcedure kw_7_96 ⟨rfl, rfl⟩ ⟨Nat.le_of_ble_eq_true rfl, Nat.le_of_ble_eq_true rfl⟩ hP hK mW_0 rfl rfl hl.1 (Nat.le_of_ble_eq_true rfl) ⟨Nat.le_of_ble_eq_true rfl, Nat.le_of_ble_eq_true rfl⟩ dX9_variable_7 ?_
  refine lv_if_ne (tgt := 19) hx hb dX9_variable_10 (by decide) (fun _ => ?_) (fun c => absurd c (by decide))
  refine lv_iload_n hx hb dX9_variable_19 rfl (lv_at hl 3 rfl) ?_
  refine lv_iconst (v := 1) hx hb dX9_variable_20 (by decide) ?_
  refine lv_icmp_ne (tgt := 35) hx hb dX9_variable_21 (by decide) (fun _ => ?_) (fun c => absurd c (by decide))
  refine lv_iload_n hx hb dX9_variable_35 rfl (lv_at hl 3 rfl) ?_
  refine lv_iconst (v := 3) hx hb dX9_variable_36 (by decide) ?_
  refine lv_icmp_ne (tgt := 52) hx hb dX9_variable_37 (by decide) (fun _ => ?_) (fun c => absurd c (by decide))
  refine lv_iload hx hb dX9_variable_52 (lv_at hl 4 rfl) ?_
  refine lv_if_ne (tgt := 61) hx hb dX9_variable_54 (by decide) (fun c => absurd c (by decide)) (fun _ => ?_)
  refine lv_iconst (v := 1) hx hb dX9_variable_57 (by decide) ?_
  refine lv_goto (tgt := 62) hx hb dX9_variable_58 (by decide) ?_
  refine lv_istore (lv' := [(5, .int 1), (0, .ref o), (1, .int 0), (2, .int x2), (3, .int 2), (4, .int 0)]) hx hb dX9_variable_62 hl (by decide) rfl (fun ls hl => ?_)
  refine lv_iload_n hx hb dX9_variable_64 rfl (lv_at hl 3 rfl) ?_
  refine rdS (As := [.int x2]) S (c_X9_isName_1 l D cI cZ cJ o q x2 lo_x2 hi_x2) ms_X9_isName kw_7_107 ⟨rfl, rfl⟩ ⟨Nat.le_of_ble_eq_true rfl, Nat.le_of_ble_eq_true rfl⟩ hP hK hl.1 (Nat.le_of_ble_eq_true rfl) ⟨Nat.le_of_ble_eq_true rfl, Nat.le_of_ble_eq_true rfl⟩ dX9_variable_65 ?_
  refine lv_if_eq (tgt := 85) hx hb dX9_variable_68 (by decide) (fun c => absurd c (by decide)) (fun _ => ?_)
  refine lv_iload_n hx hb dX9_variable_71 rfl (lv_at hl 4 rfl) ?_
  refine lv_iconst (v := 0) hx hb dX9_variable_72 (by decide) ?_
  refine lv_iconst (v := 3) hx hb dX9_variable_73 (by decide) ?_
  refine rdS (As := [.int 2, .int 0, .int 3]) S (c_X9_isIn_14 l D cI cZ cJ o q) ms_X9_isIn kw_7_100 ⟨rfl, rfl⟩ ⟨Nat.le_of_ble_eq_true rfl, Nat.le_of_ble_eq_true rfl⟩ hP hK hl.1 (Nat.le_of_ble_eq_true rfl) ⟨Nat.le_of_ble_eq_true rfl, Nat.le_of_ble_eq_true rfl⟩ dX9_variable_74 ?_
  refine lv_if_eq (tgt := 85) hx hb dX9_variable_77 (by decide) (fun c => absurd c (by decide)) (fun _ => ?_)
  refine lv_iload hx hb dX9_variable_80 (lv_at hl 0 rfl) ?_
  refine lv_if_ne (tgt := 91) hx hb dX9_variable_82 (by decide) (fun _ => ?_) (fun c => absurd c (by decide))
  refine lv_aload_n hx hb dX9_variable_91 rfl (lv_at hl 1 rfl) ?_
  refine xg (ci := 9) S inX9 rfl hK hP mW_0 5 (by decide) mF_5 kw_6_152 rfl dX9_variable_92 ?_
  refine lv_iload_n hx hb dX9_variable_95 rfl (lv_at hl 2 rfl) ?_
  refine xiald (t0 := 0) (v := 0) S hK hP mW_4 rfl (vin rfl) rfl dX9_variable_96 ?_
  refine lv_bipush (v := 6) hx hb dX9_variable_97 (by decide) ?_
  refine lv_icmp_eq (tgt := 117) hx hb dX9_variable_99 (by decide) (fun c => absurd c (by decide)) (fun _ => ?_)
  refine lv_aload_n hx hb dX9_variable_102 rfl (lv_at hl 1 rfl) ?_
  refine xg (ci := 9) S inX9 rfl hK hP mW_0 8 (by decide) mF_8 kw_6_155 rfl dX9_variable_103 ?_
  refine lv_iload_n hx hb dX9_variable_106 rfl (lv_at hl 2 rfl) ?_
  refine lv_bipush (v := 16) hx hb dX9_variable_107 (by decide) ?_
  refine ximul (v := 0) S dX9_variable_109 (by decide) ?_
  refine lv_iload_n hx hb dX9_variable_110 rfl (lv_at hl 3 rfl) ?_
  refine xiadd (v := x2) S dX9_variable_111 (Int32.zero_add _) ?_
  refine xiald (t0 := 0) (v := (-1)) S hK hP mW_7 rfl (b_in lo_x2 hi_x2 (by decide) (by decide)) rfl dX9_variable_112 ?_
  refine lv_iconst (v := (-1)) hx hb dX9_variable_113 (by decide) ?_
  refine lv_icmp_eq (tgt := 123) hx hb dX9_variable_114 (by decide) (fun _ => ?_) (fun c => absurd c (by decide))
  refine lv_aload_n hx hb dX9_variable_123 rfl (lv_at hl 1 rfl) ?_
  refine xg (ci := 9) S inX9 rfl hK hP mW_0 5 (by decide) mF_5 kw_6_152 rfl dX9_variable_124 ?_
  refine lv_iload_n hx hb dX9_variable_127 rfl (lv_at hl 2 rfl) ?_
  refine lv_dup2_11 hx hb dX9_variable_128 rfl rfl ?_
  refine xiald (t0 := 0) (v := 0) S hK hP mW_4 rfl (vin rfl) rfl dX9_variable_129 ?_
  refine lv_iconst (v := 1) hx hb dX9_variable_130 (by decide) ?_
  refine xiadd (v := 1) S dX9_variable_131 (by decide) ?_
  refine xiast (t0 := 0) S hK hP hD hS mW_4 rfl (vin rfl) dX9_variable_132 (fun H locs hP hD hS => ?_)
  have hP : va_P D vwCl ((mW o 0 q cI cZ).set 4 ((q 3), .inl (cI, 10, .inl (upd (fun _ => 0) (0 : Int32).toNatClampNeg 1)))) H := hP
  have hD : va_D A ((mW o 0 q cI cZ).set 4 ((q 3), .inl (cI, 10, .inl (upd (fun _ => 0) (0 : Int32).toNatClampNeg 1)))) := hD
  refine lv_aload_n hx hb dX9_variable_133 rfl (lv_at hl 1 rfl) ?_
  refine lv_iload_n hx hb dX9_variable_134 rfl (lv_at hl 2 rfl) ?_
  refine lv_iload_n hx hb dX9_variable_135 rfl (lv_at hl 3 rfl) ?_
  refine lv_bipush (v := 6) hx hb dX9_variable_136 (by decide) ?_
  refine lv_iload_n hx hb dX9_variable_138 rfl (lv_at hl 4 rfl) ?_
  refine xiadd (v := 8) S dX9_variable_139 (by decide) ?_
  refine lv_iload_n hx hb dX9_variable_140 rfl (lv_at hl 4 rfl) ?_
  refine lv_iconst (v := 3) hx hb dX9_variable_141 (by decide) ?_
  refine lv_icmp_ne (tgt := 149) hx hb dX9_variable_142 (by decide) (fun _ => ?_) (fun c => absurd c (by decide))
  refine lv_aload_n hx hb dX9_variable_149 rfl (lv_at hl 1 rfl) ?_
  refine lv_iload_n hx hb dX9_variable_150 rfl (lv_at hl 2 rfl) ?_
  refine lv_bipush (v := 6) hx hb dX9_variable_151 (by decide) ?_
  refine lv_iload_n hx hb dX9_variable_153 rfl (lv_at hl 4 rfl) ?_
  refine xiadd (v := 8) S dX9_variable_154 (by decide) ?_
  refine lv_iload hx hb dX9_variable_155 (lv_at hl 5 rfl) ?_
  refine wrV (As := [.int 0, .int 8, .int 0]) (ci := 9) S (c_X9_addPlace_1 l D cI cZ cJ o q H.size) mi_X9_addPlace kw_7_118 rfl rfl ⟨Nat.le_of_ble_eq_true rfl, Nat.le_of_ble_eq_true rfl⟩ hP hD hK hS hA (k := 0) rfl rfl rfl hl.1 (Nat.le_of_ble_eq_true rfl) ⟨Nat.le_of_ble_eq_true rfl, Nat.le_of_ble_eq_true rfl⟩ dX9_variable_157 (fun H locs hz hP hD hS => ?_)
  refine lv_iload hx hb dX9_variable_160 (lv_at hl 5 rfl) ?_
  refine wrV (As := [.int 0, .int x2, .int 8, .int 0, .int 0]) (ci := 9) S (c_X9_declare_2 l D cI cZ cJ o q H.size x2 lo_x2 hi_x2) mi_X9_declare kw_7_110 rfl rfl ⟨Nat.le_of_ble_eq_true rfl, Nat.le_of_ble_eq_true rfl⟩ hP hD hK hS hA (k := 0) rfl rfl rfl hl.1 (Nat.le_of_ble_eq_true rfl) ⟨Nat.le_of_ble_eq_true rfl, Nat.le_of_ble_eq_true rfl⟩ dX9_variable_162 (fun H locs hz hP hD hS => ?_)
  exact wEnd S hr hlocks hP hD hS (Nat.le_of_ble_eq_true rfl) (Nat.le_of_ble_eq_true rfl) dX9_variable_165 rfl

set_option maxHeartbeats 8000000 in
set_option maxRecDepth 100000 in
theorem c_X9_isIn_15 (l : Launch) (D : va_G) (cI cZ cJ : ClassId) (o : Nat) (q : Nat → Nat) (x4 : Int32) (ou_x4_1_8 : ¬ (1 ≤ x4 ∧ x4 ≤ 8)) : Met l yX9_isIn (uW yX9_isIn cX9_isIn 3 (some .boolean)) ({ frames := 0, cells := 0, slots := 0, locals := 0 }) (va_Pc [.int x4, .int 1, .int 8] (pS D (tyL cI cZ cJ) (mW o 0 q cI cZ))) (QcRead (0)) 0 0 (fun _ => False) := by
  refine rdStart (lv := [(0, .int x4), (1, .int 1), (2, .int 8)]) (by decide) (Nat.le_of_ble_eq_true rfl) rfl ?_
  intro p e s m args below meth c ls S hr hlocks hl hP hK
  have hx := S.1
  have hb := S.2.1
  refine lv_iload_n hx hb dX9_isIn_0 rfl (lv_at hl 0 rfl) ?_
  refine lv_iload_n hx hb dX9_isIn_1 rfl (lv_at hl 1 rfl) ?_
  refine lv_icmp_lt (tgt := 14) hx hb dX9_isIn_2 (by decide) (fun c_2 => ?_) (fun c_2 => ?_)
  · have hi_x4 : x4 ≤ 0 := u_lt c_2 (by decide)
    refine lv_iconst (v := 0) hx hb dX9_isIn_14 (by decide) ?_
    exact rdEndZ S hr hlocks dX9_isIn_15 rfl rfl
  · have lo_x4 : 1 ≤ x4 := l_nlt c_2
    have lo_x4 : 9 ≤ x4 := o_l ou_x4_1_8 (b_ge lo_x4 (by decide)) (by decide)
    refine lv_iload_n hx hb dX9_isIn_5 rfl (lv_at hl 0 rfl) ?_
    refine lv_iload_n hx hb dX9_isIn_6 rfl (lv_at hl 2 rfl) ?_
    refine lv_icmp_gt (tgt := 14) hx hb dX9_isIn_7 (by decide) (fun _ => ?_) (fun c => absurd (b_gt lo_x4 (by decide)) c)
    refine lv_iconst (v := 0) hx hb dX9_isIn_14 (by decide) ?_
    exact rdEndZ S hr hlocks dX9_isIn_15 rfl rfl

set_option maxHeartbeats 8000000 in
set_option maxRecDepth 100000 in
theorem c_X9_isIn_16 (l : Launch) (D : va_G) (cI cZ cJ : ClassId) (o : Nat) (q : Nat → Nat) : Met l yX9_isIn (uW yX9_isIn cX9_isIn 3 (some .boolean)) ({ frames := 0, cells := 0, slots := 0, locals := 0 }) (va_Pc [.int 1, .int 0, .int 3] (pS D (tyL cI cZ cJ) (mW o 0 q cI cZ))) (QcRead (1)) 0 0 (fun _ => False) := by
  refine rdStart (lv := [(0, .int 1), (1, .int 0), (2, .int 3)]) (by decide) (Nat.le_of_ble_eq_true rfl) rfl ?_
  intro p e s m args below meth c ls S hr hlocks hl hP hK
  have hx := S.1
  have hb := S.2.1
  refine lv_iload_n hx hb dX9_isIn_0 rfl (lv_at hl 0 rfl) ?_
  refine lv_iload_n hx hb dX9_isIn_1 rfl (lv_at hl 1 rfl) ?_
  refine lv_icmp_lt (tgt := 14) hx hb dX9_isIn_2 (by decide) (fun c => absurd c (by decide)) (fun _ => ?_)
  refine lv_iload_n hx hb dX9_isIn_5 rfl (lv_at hl 0 rfl) ?_
  refine lv_iload_n hx hb dX9_isIn_6 rfl (lv_at hl 2 rfl) ?_
  refine lv_icmp_gt (tgt := 14) hx hb dX9_isIn_7 (by decide) (fun c => absurd c (by decide)) (fun _ => ?_)
  refine lv_iconst (v := 1) hx hb dX9_isIn_10 (by decide) ?_
  refine lv_goto (tgt := 15) hx hb dX9_isIn_11 (by decide) ?_
  exact rdEndZ S hr hlocks dX9_isIn_15 rfl rfl

set_option maxHeartbeats 8000000 in
set_option maxRecDepth 100000 in
theorem m_variable_s1 (l : Launch) (D : va_G) (cI cZ cJ : ClassId) (o : Nat) (q : Nat → Nat) (sz : Nat) (x2 : Int32) (x4 : Int32) (lo_x2 : 0 ≤ x2) (hi_x2 : x2 ≤ 15) (ou_x4_1_8 : ¬ (1 ≤ x4 ∧ x4 ≤ 8)) : Met l yX9_variable (uW yX9_variable cX9_variable 6 (some .int)) ({ frames := 2, cells := 0, slots := 0, locals := 43 }) (va_Pc [.ref o, .int 0, .int x2, .int 1, .int x4] (wS D (tyL cI cZ cJ) (mW o 0 q cI cZ) sz)) (wQi (0) D (mW o 2 q cI cZ) (va_A (mW o 0 q cI cZ) sz)) 0 0 (va_A (mW o 0 q cI cZ) sz) := by
  refine wStart (lv := [(0, .ref o), (1, .int 0), (2, .int x2), (3, .int 1), (4, .int x4)]) (Qc := fun A => wQi (0) D (mW o 2 q cI cZ) A) (by decide) (Nat.le_of_ble_eq_true rfl) rfl ?_
  intro p e s m args below meth c ls A H S hr hlocks hnm hl hK hP hD hS hA
  have hx := S.1
  have hb := S.2.1
  refine lv_aload_n hx hb dX9_variable_0 rfl (lv_at hl 0 rfl) ?_
  refine lv_iconst (v := 0) hx hb dX9_variable_1 (by decide) ?_
  refine xp (ci := 9) (v := .int 0) S inX9 tyX9 tyX9_ok nmX9 rfl hK hP hD hS mW_0 0 (by decide) kw_6_147 rfl rfl rfl rfl (Nat.le_of_ble_eq_true rfl) dX9_variable_2 (fun H locs hP hD hS => ?_)
  have hP : va_P D vwCl (mW o 0 q cI cZ) H := hP
  have hD : va_D A (mW o 0 q cI cZ) := hD
  refine lv_aload_n hx hb dX9_variable_5 rfl (lv_at hl 0 rfl) ?_
  refine lv_iload_n hx hb dX9_variable_6 rfl (lv_at hl 1 rfl) ?_
  refine rdV (As := [.int 0]) (ci := 9) S (c_X9_isProcedure_1 l D cI cZ cJ o q) mi_X9_isProcedure kw_7_96 ⟨rfl, rfl⟩ ⟨Nat.le_of_ble_eq_true rfl, Nat.le_of_ble_eq_true rfl⟩ hP hK mW_0 rfl rfl hl.1 (Nat.le_of_ble_eq_true rfl) ⟨Nat.le_of_ble_eq_true rfl, Nat.le_of_ble_eq_true rfl⟩ dX9_variable_7 ?_
  refine lv_if_ne (tgt := 19) hx hb dX9_variable_10 (by decide) (fun _ => ?_) (fun c => absurd c (by decide))
  refine lv_iload_n hx hb dX9_variable_19 rfl (lv_at hl 3 rfl) ?_
  refine lv_iconst (v := 1) hx hb dX9_variable_20 (by decide) ?_
  refine lv_icmp_ne (tgt := 35) hx hb dX9_variable_21 (by decide) (fun c => absurd c (by decide)) (fun _ => ?_)
  refine lv_iload hx hb dX9_variable_24 (lv_at hl 4 rfl) ?_
  refine lv_iconst (v := 1) hx hb dX9_variable_26 (by decide) ?_
  refine lv_bipush (v := 8) hx hb dX9_variable_27 (by decide) ?_
  refine rdS (As := [.int x4, .int 1, .int 8]) S (c_X9_isIn_15 l D cI cZ cJ o q x4 ou_x4_1_8) ms_X9_isIn kw_7_100 ⟨rfl, rfl⟩ ⟨Nat.le_of_ble_eq_true rfl, Nat.le_of_ble_eq_true rfl⟩ hP hK hl.1 (Nat.le_of_ble_eq_true rfl) ⟨Nat.le_of_ble_eq_true rfl, Nat.le_of_ble_eq_true rfl⟩ dX9_variable_29 ?_
  refine lv_goto (tgt := 62) hx hb dX9_variable_32 (by decide) ?_
  refine lv_istore (lv' := [(5, .int 0), (0, .ref o), (1, .int 0), (2, .int x2), (3, .int 1), (4, .int x4)]) hx hb dX9_variable_62 hl (by decide) rfl (fun ls hl => ?_)
  refine lv_iload_n hx hb dX9_variable_64 rfl (lv_at hl 3 rfl) ?_
  refine rdS (As := [.int x2]) S (c_X9_isName_1 l D cI cZ cJ o q x2 lo_x2 hi_x2) ms_X9_isName kw_7_107 ⟨rfl, rfl⟩ ⟨Nat.le_of_ble_eq_true rfl, Nat.le_of_ble_eq_true rfl⟩ hP hK hl.1 (Nat.le_of_ble_eq_true rfl) ⟨Nat.le_of_ble_eq_true rfl, Nat.le_of_ble_eq_true rfl⟩ dX9_variable_65 ?_
  refine lv_if_eq (tgt := 85) hx hb dX9_variable_68 (by decide) (fun c => absurd c (by decide)) (fun _ => ?_)
  refine lv_iload_n hx hb dX9_variable_71 rfl (lv_at hl 4 rfl) ?_
  refine lv_iconst (v := 0) hx hb dX9_variable_72 (by decide) ?_
  refine lv_iconst (v := 3) hx hb dX9_variable_73 (by decide) ?_
  refine rdS (As := [.int 1, .int 0, .int 3]) S (c_X9_isIn_16 l D cI cZ cJ o q) ms_X9_isIn kw_7_100 ⟨rfl, rfl⟩ ⟨Nat.le_of_ble_eq_true rfl, Nat.le_of_ble_eq_true rfl⟩ hP hK hl.1 (Nat.le_of_ble_eq_true rfl) ⟨Nat.le_of_ble_eq_true rfl, Nat.le_of_ble_eq_true rfl⟩ dX9_variable_74 ?_
  refine lv_if_eq (tgt := 85) hx hb dX9_variable_77 (by decide) (fun c => absurd c (by decide)) (fun _ => ?_)
  refine lv_iload hx hb dX9_variable_80 (lv_at hl 0 rfl) ?_
  refine lv_if_ne (tgt := 91) hx hb dX9_variable_82 (by decide) (fun c => absurd c (by decide)) (fun _ => ?_)
  refine lv_aload_n hx hb dX9_variable_85 rfl (lv_at hl 1 rfl) ?_
  refine lv_iconst (v := 2) hx hb dX9_variable_86 (by decide) ?_
  refine wrV (As := [.int 2]) (ci := 9) S (c_X9_no_1 l D cI cZ cJ o q H.size) mi_X9_no kw_7_103 rfl rfl ⟨Nat.le_of_ble_eq_true rfl, Nat.le_of_ble_eq_true rfl⟩ hP hD hK hS hA mW_0 rfl rfl hl.1 (Nat.le_of_ble_eq_true rfl) ⟨Nat.le_of_ble_eq_true rfl, Nat.le_of_ble_eq_true rfl⟩ dX9_variable_87 (fun H locs hz hP hD hS => ?_)
  exact wEnd S hr hlocks hP hD hS (Nat.le_of_ble_eq_true rfl) (Nat.le_of_ble_eq_true rfl) dX9_variable_90 rfl

set_option maxHeartbeats 8000000 in
set_option maxRecDepth 100000 in
theorem c_X9_addPlace_2 (l : Launch) (D : va_G) (cI cZ cJ : ClassId) (o : Nat) (q : Nat → Nat) (sz : Nat) (x4 : Int32) (lo_x4 : 1 ≤ x4) (hi_x4 : x4 ≤ 8) : Met l yX9_addPlace (uW yX9_addPlace cX9_addPlace 4 (some .int)) ({ frames := 0, cells := 0, slots := 0, locals := 0 }) (va_Pc [.ref o, .int 0, .int 7, .int x4] (wS D (tyL cI cZ cJ) ((mW o 0 q cI cZ).set 4 ((q 3), .inl (cI, 10, .inl (upd (fun _ => 0) (0 : Int32).toNatClampNeg 1)))) sz)) (wQi (0) D (((((mW o 0 q cI cZ).set 4 ((q 3), .inl (cI, 10, .inl (upd (fun _ => 0) (0 : Int32).toNatClampNeg 1)))).set 5 ((q 4), .inl (cI, 10, .inl (upd (fun _ => 0) (0 : Int32).toNatClampNeg 1)))).set 10 ((q 9), .inl (cI, 100, .inl (upd (fun _ => 0) (0 : Int32).toNatClampNeg 7)))).set 11 ((q 10), .inl (cI, 100, .inl (upd (fun _ => 0) (0 : Int32).toNatClampNeg x4)))) (va_A ((mW o 0 q cI cZ).set 4 ((q 3), .inl (cI, 10, .inl (upd (fun _ => 0) (0 : Int32).toNatClampNeg 1)))) sz)) 0 0 (va_A ((mW o 0 q cI cZ).set 4 ((q 3), .inl (cI, 10, .inl (upd (fun _ => 0) (0 : Int32).toNatClampNeg 1)))) sz) := by
  refine wStart (lv := [(0, .ref o), (1, .int 0), (2, .int 7), (3, .int x4)]) (Qc := fun A => wQi (0) D (((((mW o 0 q cI cZ).set 4 ((q 3), .inl (cI, 10, .inl (upd (fun _ => 0) (0 : Int32).toNatClampNeg 1)))).set 5 ((q 4), .inl (cI, 10, .inl (upd (fun _ => 0) (0 : Int32).toNatClampNeg 1)))).set 10 ((q 9), .inl (cI, 100, .inl (upd (fun _ => 0) (0 : Int32).toNatClampNeg 7)))).set 11 ((q 10), .inl (cI, 100, .inl (upd (fun _ => 0) (0 : Int32).toNatClampNeg x4)))) A) (by decide) (Nat.le_of_ble_eq_true rfl) rfl ?_
  intro p e s m args below meth c ls A H S hr hlocks hnm hl hK hP hD hS hA
  have hx := S.1
  have hb := S.2.1
  refine lv_aload_n hx hb dX9_addPlace_0 rfl (lv_at hl 0 rfl) ?_
  refine xg (ci := 9) S inX9 rfl hK hP (q0 := 0) rfl 11 (by decide) mF_11 kw_6_158 rfl dX9_addPlace_1 ?_
  refine lv_iload_n hx hb dX9_addPlace_4 rfl (lv_at hl 1 rfl) ?_
  refine lv_bipush (v := 10) hx hb dX9_addPlace_5 (by decide) ?_
  refine ximul (v := 0) S dX9_addPlace_7 (by decide) ?_
  refine lv_aload_n hx hb dX9_addPlace_8 rfl (lv_at hl 0 rfl) ?_
  refine xg (ci := 9) S inX9 rfl hK hP (q0 := 0) rfl 6 (by decide) mF_6 kw_6_153 rfl dX9_addPlace_9 ?_
  refine lv_iload_n hx hb dX9_addPlace_12 rfl (lv_at hl 1 rfl) ?_
  refine xiald (t0 := 0) (v := 0) S hK hP (q0 := 5) rfl rfl (vin rfl) rfl dX9_addPlace_13 ?_
  refine xiadd (v := 0) S dX9_addPlace_14 (by decide) ?_
  refine lv_iload_n hx hb dX9_addPlace_15 rfl (lv_at hl 2 rfl) ?_
  refine xiast (t0 := 0) S hK hP hD hS (q0 := 10) rfl rfl (vin rfl) dX9_addPlace_16 (fun H locs hP hD hS => ?_)
  have hP : va_P D vwCl (((mW o 0 q cI cZ).set 4 ((q 3), .inl (cI, 10, .inl (upd (fun _ => 0) (0 : Int32).toNatClampNeg 1)))).set 10 ((q 9), .inl (cI, 100, .inl (upd (fun _ => 0) (0 : Int32).toNatClampNeg 7)))) H := hP
  have hD : va_D A (((mW o 0 q cI cZ).set 4 ((q 3), .inl (cI, 10, .inl (upd (fun _ => 0) (0 : Int32).toNatClampNeg 1)))).set 10 ((q 9), .inl (cI, 100, .inl (upd (fun _ => 0) (0 : Int32).toNatClampNeg 7)))) := hD
  refine lv_aload_n hx hb dX9_addPlace_17 rfl (lv_at hl 0 rfl) ?_
  refine xg (ci := 9) S inX9 rfl hK hP (q0 := 0) rfl 12 (by decide) mF_12 kw_6_159 rfl dX9_addPlace_18 ?_
  refine lv_iload_n hx hb dX9_addPlace_21 rfl (lv_at hl 1 rfl) ?_
  refine lv_bipush (v := 10) hx hb dX9_addPlace_22 (by decide) ?_
  refine ximul (v := 0) S dX9_addPlace_24 (by decide) ?_
  refine lv_aload_n hx hb dX9_addPlace_25 rfl (lv_at hl 0 rfl) ?_
  refine xg (ci := 9) S inX9 rfl hK hP (q0 := 0) rfl 6 (by decide) mF_6 kw_6_153 rfl dX9_addPlace_26 ?_
  refine lv_iload_n hx hb dX9_addPlace_29 rfl (lv_at hl 1 rfl) ?_
  refine xiald (t0 := 0) (v := 0) S hK hP (q0 := 5) rfl rfl (vin rfl) rfl dX9_addPlace_30 ?_
  refine xiadd (v := 0) S dX9_addPlace_31 (by decide) ?_
  refine lv_iload_n hx hb dX9_addPlace_32 rfl (lv_at hl 3 rfl) ?_
  refine xiast (t0 := 0) S hK hP hD hS (q0 := 11) rfl rfl (vin rfl) dX9_addPlace_33 (fun H locs hP hD hS => ?_)
  have hP : va_P D vwCl ((((mW o 0 q cI cZ).set 4 ((q 3), .inl (cI, 10, .inl (upd (fun _ => 0) (0 : Int32).toNatClampNeg 1)))).set 10 ((q 9), .inl (cI, 100, .inl (upd (fun _ => 0) (0 : Int32).toNatClampNeg 7)))).set 11 ((q 10), .inl (cI, 100, .inl (upd (fun _ => 0) (0 : Int32).toNatClampNeg x4)))) H := hP
  have hD : va_D A ((((mW o 0 q cI cZ).set 4 ((q 3), .inl (cI, 10, .inl (upd (fun _ => 0) (0 : Int32).toNatClampNeg 1)))).set 10 ((q 9), .inl (cI, 100, .inl (upd (fun _ => 0) (0 : Int32).toNatClampNeg 7)))).set 11 ((q 10), .inl (cI, 100, .inl (upd (fun _ => 0) (0 : Int32).toNatClampNeg x4)))) := hD
  refine lv_aload_n hx hb dX9_addPlace_34 rfl (lv_at hl 0 rfl) ?_
  refine xg (ci := 9) S inX9 rfl hK hP (q0 := 0) rfl 6 (by decide) mF_6 kw_6_153 rfl dX9_addPlace_35 ?_
  refine lv_iload_n hx hb dX9_addPlace_38 rfl (lv_at hl 1 rfl) ?_
  refine lv_dup2_11 hx hb dX9_addPlace_39 rfl rfl ?_
  refine xiald (t0 := 0) (v := 0) S hK hP (q0 := 5) rfl rfl (vin rfl) rfl dX9_addPlace_40 ?_
  refine lv_dup_x2 hx hb dX9_addPlace_41 rfl rfl rfl ?_
  refine lv_iconst (v := 1) hx hb dX9_addPlace_42 (by decide) ?_
  refine xiadd (v := 1) S dX9_addPlace_43 (by decide) ?_
  refine xiast (t0 := 0) S hK hP hD hS (q0 := 5) rfl rfl (vin rfl) dX9_addPlace_44 (fun H locs hP hD hS => ?_)
  have hP : va_P D vwCl (((((mW o 0 q cI cZ).set 4 ((q 3), .inl (cI, 10, .inl (upd (fun _ => 0) (0 : Int32).toNatClampNeg 1)))).set 5 ((q 4), .inl (cI, 10, .inl (upd (fun _ => 0) (0 : Int32).toNatClampNeg 1)))).set 10 ((q 9), .inl (cI, 100, .inl (upd (fun _ => 0) (0 : Int32).toNatClampNeg 7)))).set 11 ((q 10), .inl (cI, 100, .inl (upd (fun _ => 0) (0 : Int32).toNatClampNeg x4)))) H := hP
  have hD : va_D A (((((mW o 0 q cI cZ).set 4 ((q 3), .inl (cI, 10, .inl (upd (fun _ => 0) (0 : Int32).toNatClampNeg 1)))).set 5 ((q 4), .inl (cI, 10, .inl (upd (fun _ => 0) (0 : Int32).toNatClampNeg 1)))).set 10 ((q 9), .inl (cI, 100, .inl (upd (fun _ => 0) (0 : Int32).toNatClampNeg 7)))).set 11 ((q 10), .inl (cI, 100, .inl (upd (fun _ => 0) (0 : Int32).toNatClampNeg x4)))) := hD
  exact wEnd S hr hlocks hP hD hS (Nat.le_of_ble_eq_true rfl) (Nat.le_of_ble_eq_true rfl) dX9_addPlace_45 rfl

set_option maxHeartbeats 8000000 in
set_option maxRecDepth 100000 in
theorem c_X9_declare_3 (l : Launch) (D : va_G) (cI cZ cJ : ClassId) (o : Nat) (q : Nat → Nat) (sz : Nat) (x2 : Int32) (x4 : Int32) (lo_x2 : 0 ≤ x2) (hi_x2 : x2 ≤ 15) (lo_x4 : 1 ≤ x4) (hi_x4 : x4 ≤ 8) : Met l yX9_declare (uW yX9_declare cX9_declare 6 (some .int)) ({ frames := 0, cells := 0, slots := 0, locals := 0 }) (va_Pc [.ref o, .int 0, .int x2, .int 7, .int 0, .int x4] (wS D (tyL cI cZ cJ) (((((mW o 0 q cI cZ).set 4 ((q 3), .inl (cI, 10, .inl (upd (fun _ => 0) (0 : Int32).toNatClampNeg 1)))).set 5 ((q 4), .inl (cI, 10, .inl (upd (fun _ => 0) (0 : Int32).toNatClampNeg 1)))).set 10 ((q 9), .inl (cI, 100, .inl (upd (fun _ => 0) (0 : Int32).toNatClampNeg 7)))).set 11 ((q 10), .inl (cI, 100, .inl (upd (fun _ => 0) (0 : Int32).toNatClampNeg x4)))) sz)) (wQi (0) D ((((((((mW o 0 q cI cZ).set 4 ((q 3), .inl (cI, 10, .inl (upd (fun _ => 0) (0 : Int32).toNatClampNeg 1)))).set 5 ((q 4), .inl (cI, 10, .inl (upd (fun _ => 0) (0 : Int32).toNatClampNeg 1)))).set 7 ((q 6), .inl (cI, 160, .inl (upd (fun _ => -1) (x2 : Int32).toNatClampNeg 7)))).set 8 ((q 7), .inl (cI, 160, .inl (upd (fun _ => 0) (x2 : Int32).toNatClampNeg 0)))).set 9 ((q 8), .inl (cI, 160, .inl (upd (fun _ => 0) (x2 : Int32).toNatClampNeg x4)))).set 10 ((q 9), .inl (cI, 100, .inl (upd (fun _ => 0) (0 : Int32).toNatClampNeg 7)))).set 11 ((q 10), .inl (cI, 100, .inl (upd (fun _ => 0) (0 : Int32).toNatClampNeg x4)))) (va_A (((((mW o 0 q cI cZ).set 4 ((q 3), .inl (cI, 10, .inl (upd (fun _ => 0) (0 : Int32).toNatClampNeg 1)))).set 5 ((q 4), .inl (cI, 10, .inl (upd (fun _ => 0) (0 : Int32).toNatClampNeg 1)))).set 10 ((q 9), .inl (cI, 100, .inl (upd (fun _ => 0) (0 : Int32).toNatClampNeg 7)))).set 11 ((q 10), .inl (cI, 100, .inl (upd (fun _ => 0) (0 : Int32).toNatClampNeg x4)))) sz)) 0 0 (va_A (((((mW o 0 q cI cZ).set 4 ((q 3), .inl (cI, 10, .inl (upd (fun _ => 0) (0 : Int32).toNatClampNeg 1)))).set 5 ((q 4), .inl (cI, 10, .inl (upd (fun _ => 0) (0 : Int32).toNatClampNeg 1)))).set 10 ((q 9), .inl (cI, 100, .inl (upd (fun _ => 0) (0 : Int32).toNatClampNeg 7)))).set 11 ((q 10), .inl (cI, 100, .inl (upd (fun _ => 0) (0 : Int32).toNatClampNeg x4)))) sz) := by
  refine wStart (lv := [(0, .ref o), (1, .int 0), (2, .int x2), (3, .int 7), (4, .int 0), (5, .int x4)]) (Qc := fun A => wQi (0) D ((((((((mW o 0 q cI cZ).set 4 ((q 3), .inl (cI, 10, .inl (upd (fun _ => 0) (0 : Int32).toNatClampNeg 1)))).set 5 ((q 4), .inl (cI, 10, .inl (upd (fun _ => 0) (0 : Int32).toNatClampNeg 1)))).set 7 ((q 6), .inl (cI, 160, .inl (upd (fun _ => -1) (x2 : Int32).toNatClampNeg 7)))).set 8 ((q 7), .inl (cI, 160, .inl (upd (fun _ => 0) (x2 : Int32).toNatClampNeg 0)))).set 9 ((q 8), .inl (cI, 160, .inl (upd (fun _ => 0) (x2 : Int32).toNatClampNeg x4)))).set 10 ((q 9), .inl (cI, 100, .inl (upd (fun _ => 0) (0 : Int32).toNatClampNeg 7)))).set 11 ((q 10), .inl (cI, 100, .inl (upd (fun _ => 0) (0 : Int32).toNatClampNeg x4)))) A) (by decide) (Nat.le_of_ble_eq_true rfl) rfl ?_
  intro p e s m args below meth c ls A H S hr hlocks hnm hl hK hP hD hS hA
  have hx := S.1
  have hb := S.2.1
  refine lv_aload_n hx hb dX9_declare_0 rfl (lv_at hl 0 rfl) ?_
  refine xg (ci := 9) S inX9 rfl hK hP (q0 := 0) rfl 8 (by decide) mF_8 kw_6_155 rfl dX9_declare_1 ?_
  refine lv_iload_n hx hb dX9_declare_4 rfl (lv_at hl 1 rfl) ?_
  refine lv_bipush (v := 16) hx hb dX9_declare_5 (by decide) ?_
  refine ximul (v := 0) S dX9_declare_7 (by decide) ?_
  refine lv_iload_n hx hb dX9_declare_8 rfl (lv_at hl 2 rfl) ?_
  refine xiadd (v := x2) S dX9_declare_9 (Int32.zero_add _) ?_
  refine lv_iload_n hx hb dX9_declare_10 rfl (lv_at hl 3 rfl) ?_
  refine xiast (t0 := 0) S hK hP hD hS (q0 := 7) rfl rfl (b_in lo_x2 hi_x2 (by decide) (by decide)) dX9_declare_11 (fun H locs hP hD hS => ?_)
  have hP : va_P D vwCl ((((((mW o 0 q cI cZ).set 4 ((q 3), .inl (cI, 10, .inl (upd (fun _ => 0) (0 : Int32).toNatClampNeg 1)))).set 5 ((q 4), .inl (cI, 10, .inl (upd (fun _ => 0) (0 : Int32).toNatClampNeg 1)))).set 7 ((q 6), .inl (cI, 160, .inl (upd (fun _ => -1) (x2 : Int32).toNatClampNeg 7)))).set 10 ((q 9), .inl (cI, 100, .inl (upd (fun _ => 0) (0 : Int32).toNatClampNeg 7)))).set 11 ((q 10), .inl (cI, 100, .inl (upd (fun _ => 0) (0 : Int32).toNatClampNeg x4)))) H := hP
  have hD : va_D A ((((((mW o 0 q cI cZ).set 4 ((q 3), .inl (cI, 10, .inl (upd (fun _ => 0) (0 : Int32).toNatClampNeg 1)))).set 5 ((q 4), .inl (cI, 10, .inl (upd (fun _ => 0) (0 : Int32).toNatClampNeg 1)))).set 7 ((q 6), .inl (cI, 160, .inl (upd (fun _ => -1) (x2 : Int32).toNatClampNeg 7)))).set 10 ((q 9), .inl (cI, 100, .inl (upd (fun _ => 0) (0 : Int32).toNatClampNeg 7)))).set 11 ((q 10), .inl (cI, 100, .inl (upd (fun _ => 0) (0 : Int32).toNatClampNeg x4)))) := hD
  refine lv_aload_n hx hb dX9_declare_12 rfl (lv_at hl 0 rfl) ?_
  refine xg (ci := 9) S inX9 rfl hK hP (q0 := 0) rfl 9 (by decide) mF_9 kw_6_156 rfl dX9_declare_13 ?_
  refine lv_iload_n hx hb dX9_declare_16 rfl (lv_at hl 1 rfl) ?_
  refine lv_bipush (v := 16) hx hb dX9_declare_17 (by decide) ?_
  refine ximul (v := 0) S dX9_declare_19 (by decide) ?_
  refine lv_iload_n hx hb dX9_declare_20 rfl (lv_at hl 2 rfl) ?_
  refine xiadd (v := x2) S dX9_declare_21 (Int32.zero_add _) ?_
  refine lv_iload hx hb dX9_declare_22 (lv_at hl 4 rfl) ?_
  refine xiast (t0 := 0) S hK hP hD hS (q0 := 8) rfl rfl (b_in lo_x2 hi_x2 (by decide) (by decide)) dX9_declare_24 (fun H locs hP hD hS => ?_)
  have hP : va_P D vwCl (((((((mW o 0 q cI cZ).set 4 ((q 3), .inl (cI, 10, .inl (upd (fun _ => 0) (0 : Int32).toNatClampNeg 1)))).set 5 ((q 4), .inl (cI, 10, .inl (upd (fun _ => 0) (0 : Int32).toNatClampNeg 1)))).set 7 ((q 6), .inl (cI, 160, .inl (upd (fun _ => -1) (x2 : Int32).toNatClampNeg 7)))).set 8 ((q 7), .inl (cI, 160, .inl (upd (fun _ => 0) (x2 : Int32).toNatClampNeg 0)))).set 10 ((q 9), .inl (cI, 100, .inl (upd (fun _ => 0) (0 : Int32).toNatClampNeg 7)))).set 11 ((q 10), .inl (cI, 100, .inl (upd (fun _ => 0) (0 : Int32).toNatClampNeg x4)))) H := hP
  have hD : va_D A (((((((mW o 0 q cI cZ).set 4 ((q 3), .inl (cI, 10, .inl (upd (fun _ => 0) (0 : Int32).toNatClampNeg 1)))).set 5 ((q 4), .inl (cI, 10, .inl (upd (fun _ => 0) (0 : Int32).toNatClampNeg 1)))).set 7 ((q 6), .inl (cI, 160, .inl (upd (fun _ => -1) (x2 : Int32).toNatClampNeg 7)))).set 8 ((q 7), .inl (cI, 160, .inl (upd (fun _ => 0) (x2 : Int32).toNatClampNeg 0)))).set 10 ((q 9), .inl (cI, 100, .inl (upd (fun _ => 0) (0 : Int32).toNatClampNeg 7)))).set 11 ((q 10), .inl (cI, 100, .inl (upd (fun _ => 0) (0 : Int32).toNatClampNeg x4)))) := hD
  refine lv_aload_n hx hb dX9_declare_25 rfl (lv_at hl 0 rfl) ?_
  refine xg (ci := 9) S inX9 rfl hK hP (q0 := 0) rfl 10 (by decide) mF_10 kw_6_157 rfl dX9_declare_26 ?_
  refine lv_iload_n hx hb dX9_declare_29 rfl (lv_at hl 1 rfl) ?_
  refine lv_bipush (v := 16) hx hb dX9_declare_30 (by decide) ?_
  refine ximul (v := 0) S dX9_declare_32 (by decide) ?_
  refine lv_iload_n hx hb dX9_declare_33 rfl (lv_at hl 2 rfl) ?_
  refine xiadd (v := x2) S dX9_declare_34 (Int32.zero_add _) ?_
  refine lv_iload hx hb dX9_declare_35 (lv_at hl 5 rfl) ?_
  refine xiast (t0 := 0) S hK hP hD hS (q0 := 9) rfl rfl (b_in lo_x2 hi_x2 (by decide) (by decide)) dX9_declare_37 (fun H locs hP hD hS => ?_)
  have hP : va_P D vwCl ((((((((mW o 0 q cI cZ).set 4 ((q 3), .inl (cI, 10, .inl (upd (fun _ => 0) (0 : Int32).toNatClampNeg 1)))).set 5 ((q 4), .inl (cI, 10, .inl (upd (fun _ => 0) (0 : Int32).toNatClampNeg 1)))).set 7 ((q 6), .inl (cI, 160, .inl (upd (fun _ => -1) (x2 : Int32).toNatClampNeg 7)))).set 8 ((q 7), .inl (cI, 160, .inl (upd (fun _ => 0) (x2 : Int32).toNatClampNeg 0)))).set 9 ((q 8), .inl (cI, 160, .inl (upd (fun _ => 0) (x2 : Int32).toNatClampNeg x4)))).set 10 ((q 9), .inl (cI, 100, .inl (upd (fun _ => 0) (0 : Int32).toNatClampNeg 7)))).set 11 ((q 10), .inl (cI, 100, .inl (upd (fun _ => 0) (0 : Int32).toNatClampNeg x4)))) H := hP
  have hD : va_D A ((((((((mW o 0 q cI cZ).set 4 ((q 3), .inl (cI, 10, .inl (upd (fun _ => 0) (0 : Int32).toNatClampNeg 1)))).set 5 ((q 4), .inl (cI, 10, .inl (upd (fun _ => 0) (0 : Int32).toNatClampNeg 1)))).set 7 ((q 6), .inl (cI, 160, .inl (upd (fun _ => -1) (x2 : Int32).toNatClampNeg 7)))).set 8 ((q 7), .inl (cI, 160, .inl (upd (fun _ => 0) (x2 : Int32).toNatClampNeg 0)))).set 9 ((q 8), .inl (cI, 160, .inl (upd (fun _ => 0) (x2 : Int32).toNatClampNeg x4)))).set 10 ((q 9), .inl (cI, 100, .inl (upd (fun _ => 0) (0 : Int32).toNatClampNeg 7)))).set 11 ((q 10), .inl (cI, 100, .inl (upd (fun _ => 0) (0 : Int32).toNatClampNeg x4)))) := hD
  refine lv_iload hx hb dX9_declare_38 (lv_at hl 4 rfl) ?_
  exact wEnd S hr hlocks hP hD hS (Nat.le_of_ble_eq_true rfl) (Nat.le_of_ble_eq_true rfl) dX9_declare_40 rfl

set_option maxHeartbeats 8000000 in
set_option maxRecDepth 100000 in
theorem m_variable_ok1 (l : Launch) (D : va_G) (cI cZ cJ : ClassId) (o : Nat) (q : Nat → Nat) (sz : Nat) (x2 : Int32) (x4 : Int32) (lo_x2 : 0 ≤ x2) (hi_x2 : x2 ≤ 15) (lo_x4 : 1 ≤ x4) (hi_x4 : x4 ≤ 8) : Met l yX9_variable (uW yX9_variable cX9_variable 6 (some .int)) ({ frames := 2, cells := 0, slots := 0, locals := 43 }) (va_Pc [.ref o, .int 0, .int x2, .int 1, .int x4] (wS D (tyL cI cZ cJ) (mW o 0 q cI cZ) sz)) (wQi (0) D ((((((((mW o 0 q cI cZ).set 4 ((q 3), .inl (cI, 10, .inl (upd (fun _ => 0) (0 : Int32).toNatClampNeg 1)))).set 5 ((q 4), .inl (cI, 10, .inl (upd (fun _ => 0) (0 : Int32).toNatClampNeg 1)))).set 7 ((q 6), .inl (cI, 160, .inl (upd (fun _ => -1) (x2 : Int32).toNatClampNeg 7)))).set 8 ((q 7), .inl (cI, 160, .inl (upd (fun _ => 0) (x2 : Int32).toNatClampNeg 0)))).set 9 ((q 8), .inl (cI, 160, .inl (upd (fun _ => 0) (x2 : Int32).toNatClampNeg x4)))).set 10 ((q 9), .inl (cI, 100, .inl (upd (fun _ => 0) (0 : Int32).toNatClampNeg 7)))).set 11 ((q 10), .inl (cI, 100, .inl (upd (fun _ => 0) (0 : Int32).toNatClampNeg x4)))) (va_A (mW o 0 q cI cZ) sz)) 0 0 (va_A (mW o 0 q cI cZ) sz) := by
  refine wStart (lv := [(0, .ref o), (1, .int 0), (2, .int x2), (3, .int 1), (4, .int x4)]) (Qc := fun A => wQi (0) D ((((((((mW o 0 q cI cZ).set 4 ((q 3), .inl (cI, 10, .inl (upd (fun _ => 0) (0 : Int32).toNatClampNeg 1)))).set 5 ((q 4), .inl (cI, 10, .inl (upd (fun _ => 0) (0 : Int32).toNatClampNeg 1)))).set 7 ((q 6), .inl (cI, 160, .inl (upd (fun _ => -1) (x2 : Int32).toNatClampNeg 7)))).set 8 ((q 7), .inl (cI, 160, .inl (upd (fun _ => 0) (x2 : Int32).toNatClampNeg 0)))).set 9 ((q 8), .inl (cI, 160, .inl (upd (fun _ => 0) (x2 : Int32).toNatClampNeg x4)))).set 10 ((q 9), .inl (cI, 100, .inl (upd (fun _ => 0) (0 : Int32).toNatClampNeg 7)))).set 11 ((q 10), .inl (cI, 100, .inl (upd (fun _ => 0) (0 : Int32).toNatClampNeg x4)))) A) (by decide) (Nat.le_of_ble_eq_true rfl) rfl ?_
  intro p e s m args below meth c ls A H S hr hlocks hnm hl hK hP hD hS hA
  have hx := S.1
  have hb := S.2.1
  refine lv_aload_n hx hb dX9_variable_0 rfl (lv_at hl 0 rfl) ?_
  refine lv_iconst (v := 0) hx hb dX9_variable_1 (by decide) ?_
  refine xp (ci := 9) (v := .int 0) S inX9 tyX9 tyX9_ok nmX9 rfl hK hP hD hS mW_0 0 (by decide) kw_6_147 rfl rfl rfl rfl (Nat.le_of_ble_eq_true rfl) dX9_variable_2 (fun H locs hP hD hS => ?_)
  have hP : va_P D vwCl (mW o 0 q cI cZ) H := hP
  have hD : va_D A (mW o 0 q cI cZ) := hD
  refine lv_aload_n hx hb dX9_variable_5 rfl (lv_at hl 0 rfl) ?_
  refine lv_iload_n hx hb dX9_variable_6 rfl (lv_at hl 1 rfl) ?_
  refine rdV (As := [.int 0]) (ci := 9) S (c_X9_isProcedure_1 l D cI cZ cJ o q) mi_X9_isProcedure kw_7_96 ⟨rfl, rfl⟩ ⟨Nat.le_of_ble_eq_true rfl, Nat.le_of_ble_eq_true rfl⟩ hP hK mW_0 rfl rfl hl.1 (Nat.le_of_ble_eq_true rfl) ⟨Nat.le_of_ble_eq_true rfl, Nat.le_of_ble_eq_true rfl⟩ dX9_variable_7 ?_
  refine lv_if_ne (tgt := 19) hx hb dX9_variable_10 (by decide) (fun _ => ?_) (fun c => absurd c (by decide))
  refine lv_iload_n hx hb dX9_variable_19 rfl (lv_at hl 3 rfl) ?_
  refine lv_iconst (v := 1) hx hb dX9_variable_20 (by decide) ?_
  refine lv_icmp_ne (tgt := 35) hx hb dX9_variable_21 (by decide) (fun c => absurd c (by decide)) (fun _ => ?_)
  refine lv_iload hx hb dX9_variable_24 (lv_at hl 4 rfl) ?_
  refine lv_iconst (v := 1) hx hb dX9_variable_26 (by decide) ?_
  refine lv_bipush (v := 8) hx hb dX9_variable_27 (by decide) ?_
  refine rdS (As := [.int x4, .int 1, .int 8]) S (c_X9_isIn_11 l D cI cZ cJ o q x4 lo_x4 hi_x4) ms_X9_isIn kw_7_100 ⟨rfl, rfl⟩ ⟨Nat.le_of_ble_eq_true rfl, Nat.le_of_ble_eq_true rfl⟩ hP hK hl.1 (Nat.le_of_ble_eq_true rfl) ⟨Nat.le_of_ble_eq_true rfl, Nat.le_of_ble_eq_true rfl⟩ dX9_variable_29 ?_
  refine lv_goto (tgt := 62) hx hb dX9_variable_32 (by decide) ?_
  refine lv_istore (lv' := [(5, .int 1), (0, .ref o), (1, .int 0), (2, .int x2), (3, .int 1), (4, .int x4)]) hx hb dX9_variable_62 hl (by decide) rfl (fun ls hl => ?_)
  refine lv_iload_n hx hb dX9_variable_64 rfl (lv_at hl 3 rfl) ?_
  refine rdS (As := [.int x2]) S (c_X9_isName_1 l D cI cZ cJ o q x2 lo_x2 hi_x2) ms_X9_isName kw_7_107 ⟨rfl, rfl⟩ ⟨Nat.le_of_ble_eq_true rfl, Nat.le_of_ble_eq_true rfl⟩ hP hK hl.1 (Nat.le_of_ble_eq_true rfl) ⟨Nat.le_of_ble_eq_true rfl, Nat.le_of_ble_eq_true rfl⟩ dX9_variable_65 ?_
  refine lv_if_eq (tgt := 85) hx hb dX9_variable_68 (by decide) (fun c => absurd c (by decide)) (fun _ => ?_)
  refine lv_iload_n hx hb dX9_variable_71 rfl (lv_at hl 4 rfl) ?_
  refine lv_iconst (v := 0) hx hb dX9_variable_72 (by decide) ?_
  refine lv_iconst (v := 3) hx hb dX9_variable_73 (by decide) ?_
  refine rdS (As := [.int 1, .int 0, .int 3]) S (c_X9_isIn_16 l D cI cZ cJ o q) ms_X9_isIn kw_7_100 ⟨rfl, rfl⟩ ⟨Nat.le_of_ble_eq_true rfl, Nat.le_of_ble_eq_true rfl⟩ hP hK hl.1 (Nat.le_of_ble_eq_true rfl) ⟨Nat.le_of_ble_eq_true rfl, Nat.le_of_ble_eq_true rfl⟩ dX9_variable_74 ?_
  refine lv_if_eq (tgt := 85) hx hb dX9_variable_77 (by decide) (fun c => absurd c (by decide)) (fun _ => ?_)
  refine lv_iload hx hb dX9_variable_80 (lv_at hl 0 rfl) ?_
  refine lv_if_ne (tgt := 91) hx hb dX9_variable_82 (by decide) (fun _ => ?_) (fun c => absurd c (by decide))
  refine lv_aload_n hx hb dX9_variable_91 rfl (lv_at hl 1 rfl) ?_
  refine xg (ci := 9) S inX9 rfl hK hP mW_0 5 (by decide) mF_5 kw_6_152 rfl dX9_variable_92 ?_
  refine lv_iload_n hx hb dX9_variable_95 rfl (lv_at hl 2 rfl) ?_
  refine xiald (t0 := 0) (v := 0) S hK hP mW_4 rfl (vin rfl) rfl dX9_variable_96 ?_
  refine lv_bipush (v := 6) hx hb dX9_variable_97 (by decide) ?_
  refine lv_icmp_eq (tgt := 117) hx hb dX9_variable_99 (by decide) (fun c => absurd c (by decide)) (fun _ => ?_)
  refine lv_aload_n hx hb dX9_variable_102 rfl (lv_at hl 1 rfl) ?_
  refine xg (ci := 9) S inX9 rfl hK hP mW_0 8 (by decide) mF_8 kw_6_155 rfl dX9_variable_103 ?_
  refine lv_iload_n hx hb dX9_variable_106 rfl (lv_at hl 2 rfl) ?_
  refine lv_bipush (v := 16) hx hb dX9_variable_107 (by decide) ?_
  refine ximul (v := 0) S dX9_variable_109 (by decide) ?_
  refine lv_iload_n hx hb dX9_variable_110 rfl (lv_at hl 3 rfl) ?_
  refine xiadd (v := x2) S dX9_variable_111 (Int32.zero_add _) ?_
  refine xiald (t0 := 0) (v := (-1)) S hK hP mW_7 rfl (b_in lo_x2 hi_x2 (by decide) (by decide)) rfl dX9_variable_112 ?_
  refine lv_iconst (v := (-1)) hx hb dX9_variable_113 (by decide) ?_
  refine lv_icmp_eq (tgt := 123) hx hb dX9_variable_114 (by decide) (fun _ => ?_) (fun c => absurd c (by decide))
  refine lv_aload_n hx hb dX9_variable_123 rfl (lv_at hl 1 rfl) ?_
  refine xg (ci := 9) S inX9 rfl hK hP mW_0 5 (by decide) mF_5 kw_6_152 rfl dX9_variable_124 ?_
  refine lv_iload_n hx hb dX9_variable_127 rfl (lv_at hl 2 rfl) ?_
  refine lv_dup2_11 hx hb dX9_variable_128 rfl rfl ?_
  refine xiald (t0 := 0) (v := 0) S hK hP mW_4 rfl (vin rfl) rfl dX9_variable_129 ?_
  refine lv_iconst (v := 1) hx hb dX9_variable_130 (by decide) ?_
  refine xiadd (v := 1) S dX9_variable_131 (by decide) ?_
  refine xiast (t0 := 0) S hK hP hD hS mW_4 rfl (vin rfl) dX9_variable_132 (fun H locs hP hD hS => ?_)
  have hP : va_P D vwCl ((mW o 0 q cI cZ).set 4 ((q 3), .inl (cI, 10, .inl (upd (fun _ => 0) (0 : Int32).toNatClampNeg 1)))) H := hP
  have hD : va_D A ((mW o 0 q cI cZ).set 4 ((q 3), .inl (cI, 10, .inl (upd (fun _ => 0) (0 : Int32).toNatClampNeg 1)))) := hD
  refine lv_aload_n hx hb dX9_variable_133 rfl (lv_at hl 1 rfl) ?_
  refine lv_iload_n hx hb dX9_variable_134 rfl (lv_at hl 2 rfl) ?_
  refine lv_iload_n hx hb dX9_variable_135 rfl (lv_at hl 3 rfl) ?_
  refine lv_bipush (v := 6) hx hb dX9_variable_136 (by decide) ?_
  refine lv_iload_n hx hb dX9_variable_138 rfl (lv_at hl 4 rfl) ?_
  refine xiadd (v := 7) S dX9_variable_139 (by decide) ?_
  refine lv_iload_n hx hb dX9_variable_140 rfl (lv_at hl 4 rfl) ?_
  refine lv_iconst (v := 3) hx hb dX9_variable_141 (by decide) ?_
  refine lv_icmp_ne (tgt := 149) hx hb dX9_variable_142 (by decide) (fun _ => ?_) (fun c => absurd c (by decide))
  refine lv_aload_n hx hb dX9_variable_149 rfl (lv_at hl 1 rfl) ?_
  refine lv_iload_n hx hb dX9_variable_150 rfl (lv_at hl 2 rfl) ?_
  refine lv_bipush (v := 6) hx hb dX9_variable_151 (by decide) ?_
  refine lv_iload_n hx hb dX9_variable_153 rfl (lv_at hl 4 rfl) ?_
  refine xiadd (v := 7) S dX9_variable_154 (by decide) ?_
  refine lv_iload hx hb dX9_variable_155 (lv_at hl 5 rfl) ?_
  refine wrV (As := [.int 0, .int 7, .int x4]) (ci := 9) S (c_X9_addPlace_2 l D cI cZ cJ o q H.size x4 lo_x4 hi_x4) mi_X9_addPlace kw_7_118 rfl rfl ⟨Nat.le_of_ble_eq_true rfl, Nat.le_of_ble_eq_true rfl⟩ hP hD hK hS hA (k := 0) rfl rfl rfl hl.1 (Nat.le_of_ble_eq_true rfl) ⟨Nat.le_of_ble_eq_true rfl, Nat.le_of_ble_eq_true rfl⟩ dX9_variable_157 (fun H locs hz hP hD hS => ?_)
  refine lv_iload hx hb dX9_variable_160 (lv_at hl 5 rfl) ?_
  refine wrV (As := [.int 0, .int x2, .int 7, .int 0, .int x4]) (ci := 9) S (c_X9_declare_3 l D cI cZ cJ o q H.size x2 x4 lo_x2 hi_x2 lo_x4 hi_x4) mi_X9_declare kw_7_110 rfl rfl ⟨Nat.le_of_ble_eq_true rfl, Nat.le_of_ble_eq_true rfl⟩ hP hD hK hS hA (k := 0) rfl rfl rfl hl.1 (Nat.le_of_ble_eq_true rfl) ⟨Nat.le_of_ble_eq_true rfl, Nat.le_of_ble_eq_true rfl⟩ dX9_variable_162 (fun H locs hz hP hD hS => ?_)
  exact wEnd S hr hlocks hP hD hS (Nat.le_of_ble_eq_true rfl) (Nat.le_of_ble_eq_true rfl) dX9_variable_165 rfl

set_option maxHeartbeats 8000000 in
set_option maxRecDepth 100000 in
theorem c_X9_isIn_17 (l : Launch) (D : va_G) (cI cZ cJ : ClassId) (o : Nat) (q : Nat → Nat) (x4 : Int32) (ou_x4_m99_99 : ¬ ((-99) ≤ x4 ∧ x4 ≤ 99)) : Met l yX9_isIn (uW yX9_isIn cX9_isIn 3 (some .boolean)) ({ frames := 0, cells := 0, slots := 0, locals := 0 }) (va_Pc [.int x4, .int (-99), .int 99] (pS D (tyL cI cZ cJ) (mW o 0 q cI cZ))) (QcRead (0)) 0 0 (fun _ => False) := by
  refine rdStart (lv := [(0, .int x4), (1, .int (-99)), (2, .int 99)]) (by decide) (Nat.le_of_ble_eq_true rfl) rfl ?_
  intro p e s m args below meth c ls S hr hlocks hl hP hK
  have hx := S.1
  have hb := S.2.1
  refine lv_iload_n hx hb dX9_isIn_0 rfl (lv_at hl 0 rfl) ?_
  refine lv_iload_n hx hb dX9_isIn_1 rfl (lv_at hl 1 rfl) ?_
  refine lv_icmp_lt (tgt := 14) hx hb dX9_isIn_2 (by decide) (fun c_2 => ?_) (fun c_2 => ?_)
  · have hi_x4 : x4 ≤ (-100) := u_lt c_2 (by decide)
    refine lv_iconst (v := 0) hx hb dX9_isIn_14 (by decide) ?_
    exact rdEndZ S hr hlocks dX9_isIn_15 rfl rfl
  · have lo_x4 : (-99) ≤ x4 := l_nlt c_2
    have lo_x4 : 100 ≤ x4 := o_l ou_x4_m99_99 (b_ge lo_x4 (by decide)) (by decide)
    refine lv_iload_n hx hb dX9_isIn_5 rfl (lv_at hl 0 rfl) ?_
    refine lv_iload_n hx hb dX9_isIn_6 rfl (lv_at hl 2 rfl) ?_
    refine lv_icmp_gt (tgt := 14) hx hb dX9_isIn_7 (by decide) (fun _ => ?_) (fun c => absurd (b_gt lo_x4 (by decide)) c)
    refine lv_iconst (v := 0) hx hb dX9_isIn_14 (by decide) ?_
    exact rdEndZ S hr hlocks dX9_isIn_15 rfl rfl

set_option maxHeartbeats 8000000 in
set_option maxRecDepth 100000 in
theorem c_X9_isIn_18 (l : Launch) (D : va_G) (cI cZ cJ : ClassId) (o : Nat) (q : Nat → Nat) : Met l yX9_isIn (uW yX9_isIn cX9_isIn 3 (some .boolean)) ({ frames := 0, cells := 0, slots := 0, locals := 0 }) (va_Pc [.int 3, .int 0, .int 3] (pS D (tyL cI cZ cJ) (mW o 0 q cI cZ))) (QcRead (1)) 0 0 (fun _ => False) := by
  refine rdStart (lv := [(0, .int 3), (1, .int 0), (2, .int 3)]) (by decide) (Nat.le_of_ble_eq_true rfl) rfl ?_
  intro p e s m args below meth c ls S hr hlocks hl hP hK
  have hx := S.1
  have hb := S.2.1
  refine lv_iload_n hx hb dX9_isIn_0 rfl (lv_at hl 0 rfl) ?_
  refine lv_iload_n hx hb dX9_isIn_1 rfl (lv_at hl 1 rfl) ?_
  refine lv_icmp_lt (tgt := 14) hx hb dX9_isIn_2 (by decide) (fun c => absurd c (by decide)) (fun _ => ?_)
  refine lv_iload_n hx hb dX9_isIn_5 rfl (lv_at hl 0 rfl) ?_
  refine lv_iload_n hx hb dX9_isIn_6 rfl (lv_at hl 2 rfl) ?_
  refine lv_icmp_gt (tgt := 14) hx hb dX9_isIn_7 (by decide) (fun c => absurd c (by decide)) (fun _ => ?_)
  refine lv_iconst (v := 1) hx hb dX9_isIn_10 (by decide) ?_
  refine lv_goto (tgt := 15) hx hb dX9_isIn_11 (by decide) ?_
  exact rdEndZ S hr hlocks dX9_isIn_15 rfl rfl

set_option maxHeartbeats 8000000 in
set_option maxRecDepth 100000 in
theorem m_variable_s3 (l : Launch) (D : va_G) (cI cZ cJ : ClassId) (o : Nat) (q : Nat → Nat) (sz : Nat) (x2 : Int32) (x4 : Int32) (lo_x2 : 0 ≤ x2) (hi_x2 : x2 ≤ 15) (ou_x4_m99_99 : ¬ ((-99) ≤ x4 ∧ x4 ≤ 99)) : Met l yX9_variable (uW yX9_variable cX9_variable 6 (some .int)) ({ frames := 2, cells := 0, slots := 0, locals := 43 }) (va_Pc [.ref o, .int 0, .int x2, .int 3, .int x4] (wS D (tyL cI cZ cJ) (mW o 0 q cI cZ) sz)) (wQi (0) D (mW o 2 q cI cZ) (va_A (mW o 0 q cI cZ) sz)) 0 0 (va_A (mW o 0 q cI cZ) sz) := by
  refine wStart (lv := [(0, .ref o), (1, .int 0), (2, .int x2), (3, .int 3), (4, .int x4)]) (Qc := fun A => wQi (0) D (mW o 2 q cI cZ) A) (by decide) (Nat.le_of_ble_eq_true rfl) rfl ?_
  intro p e s m args below meth c ls A H S hr hlocks hnm hl hK hP hD hS hA
  have hx := S.1
  have hb := S.2.1
  refine lv_aload_n hx hb dX9_variable_0 rfl (lv_at hl 0 rfl) ?_
  refine lv_iconst (v := 0) hx hb dX9_variable_1 (by decide) ?_
  refine xp (ci := 9) (v := .int 0) S inX9 tyX9 tyX9_ok nmX9 rfl hK hP hD hS mW_0 0 (by decide) kw_6_147 rfl rfl rfl rfl (Nat.le_of_ble_eq_true rfl) dX9_variable_2 (fun H locs hP hD hS => ?_)
  have hP : va_P D vwCl (mW o 0 q cI cZ) H := hP
  have hD : va_D A (mW o 0 q cI cZ) := hD
  refine lv_aload_n hx hb dX9_variable_5 rfl (lv_at hl 0 rfl) ?_
  refine lv_iload_n hx hb dX9_variable_6 rfl (lv_at hl 1 rfl) ?_
  refine rdV (As := [.int 0]) (ci := 9) S (c_X9_isProcedure_1 l D cI cZ cJ o q) mi_X9_isProcedure kw_7_96 ⟨rfl, rfl⟩ ⟨Nat.le_of_ble_eq_true rfl, Nat.le_of_ble_eq_true rfl⟩ hP hK mW_0 rfl rfl hl.1 (Nat.le_of_ble_eq_true rfl) ⟨Nat.le_of_ble_eq_true rfl, Nat.le_of_ble_eq_true rfl⟩ dX9_variable_7 ?_
  refine lv_if_ne (tgt := 19) hx hb dX9_variable_10 (by decide) (fun _ => ?_) (fun c => absurd c (by decide))
  refine lv_iload_n hx hb dX9_variable_19 rfl (lv_at hl 3 rfl) ?_
  refine lv_iconst (v := 1) hx hb dX9_variable_20 (by decide) ?_
  refine lv_icmp_ne (tgt := 35) hx hb dX9_variable_21 (by decide) (fun _ => ?_) (fun c => absurd c (by decide))
  refine lv_iload_n hx hb dX9_variable_35 rfl (lv_at hl 3 rfl) ?_
  refine lv_iconst (v := 3) hx hb dX9_variable_36 (by decide) ?_
  refine lv_icmp_ne (tgt := 52) hx hb dX9_variable_37 (by decide) (fun c => absurd c (by decide)) (fun _ => ?_)
  refine lv_iload hx hb dX9_variable_40 (lv_at hl 4 rfl) ?_
  refine lv_bipush (v := (-99)) hx hb dX9_variable_42 (by decide) ?_
  refine lv_bipush (v := 99) hx hb dX9_variable_44 (by decide) ?_
  refine rdS (As := [.int x4, .int (-99), .int 99]) S (c_X9_isIn_17 l D cI cZ cJ o q x4 ou_x4_m99_99) ms_X9_isIn kw_7_100 ⟨rfl, rfl⟩ ⟨Nat.le_of_ble_eq_true rfl, Nat.le_of_ble_eq_true rfl⟩ hP hK hl.1 (Nat.le_of_ble_eq_true rfl) ⟨Nat.le_of_ble_eq_true rfl, Nat.le_of_ble_eq_true rfl⟩ dX9_variable_46 ?_
  refine lv_goto (tgt := 62) hx hb dX9_variable_49 (by decide) ?_
  refine lv_istore (lv' := [(5, .int 0), (0, .ref o), (1, .int 0), (2, .int x2), (3, .int 3), (4, .int x4)]) hx hb dX9_variable_62 hl (by decide) rfl (fun ls hl => ?_)
  refine lv_iload_n hx hb dX9_variable_64 rfl (lv_at hl 3 rfl) ?_
  refine rdS (As := [.int x2]) S (c_X9_isName_1 l D cI cZ cJ o q x2 lo_x2 hi_x2) ms_X9_isName kw_7_107 ⟨rfl, rfl⟩ ⟨Nat.le_of_ble_eq_true rfl, Nat.le_of_ble_eq_true rfl⟩ hP hK hl.1 (Nat.le_of_ble_eq_true rfl) ⟨Nat.le_of_ble_eq_true rfl, Nat.le_of_ble_eq_true rfl⟩ dX9_variable_65 ?_
  refine lv_if_eq (tgt := 85) hx hb dX9_variable_68 (by decide) (fun c => absurd c (by decide)) (fun _ => ?_)
  refine lv_iload_n hx hb dX9_variable_71 rfl (lv_at hl 4 rfl) ?_
  refine lv_iconst (v := 0) hx hb dX9_variable_72 (by decide) ?_
  refine lv_iconst (v := 3) hx hb dX9_variable_73 (by decide) ?_
  refine rdS (As := [.int 3, .int 0, .int 3]) S (c_X9_isIn_18 l D cI cZ cJ o q) ms_X9_isIn kw_7_100 ⟨rfl, rfl⟩ ⟨Nat.le_of_ble_eq_true rfl, Nat.le_of_ble_eq_true rfl⟩ hP hK hl.1 (Nat.le_of_ble_eq_true rfl) ⟨Nat.le_of_ble_eq_true rfl, Nat.le_of_ble_eq_true rfl⟩ dX9_variable_74 ?_
  refine lv_if_eq (tgt := 85) hx hb dX9_variable_77 (by decide) (fun c => absurd c (by decide)) (fun _ => ?_)
  refine lv_iload hx hb dX9_variable_80 (lv_at hl 0 rfl) ?_
  refine lv_if_ne (tgt := 91) hx hb dX9_variable_82 (by decide) (fun c => absurd c (by decide)) (fun _ => ?_)
  refine lv_aload_n hx hb dX9_variable_85 rfl (lv_at hl 1 rfl) ?_
  refine lv_iconst (v := 2) hx hb dX9_variable_86 (by decide) ?_
  refine wrV (As := [.int 2]) (ci := 9) S (c_X9_no_1 l D cI cZ cJ o q H.size) mi_X9_no kw_7_103 rfl rfl ⟨Nat.le_of_ble_eq_true rfl, Nat.le_of_ble_eq_true rfl⟩ hP hD hK hS hA mW_0 rfl rfl hl.1 (Nat.le_of_ble_eq_true rfl) ⟨Nat.le_of_ble_eq_true rfl, Nat.le_of_ble_eq_true rfl⟩ dX9_variable_87 (fun H locs hz hP hD hS => ?_)
  exact wEnd S hr hlocks hP hD hS (Nat.le_of_ble_eq_true rfl) (Nat.le_of_ble_eq_true rfl) dX9_variable_90 rfl

set_option maxHeartbeats 8000000 in
set_option maxRecDepth 100000 in
theorem c_X9_declare_4 (l : Launch) (D : va_G) (cI cZ cJ : ClassId) (o : Nat) (q : Nat → Nat) (sz : Nat) (x2 : Int32) (x4 : Int32) (lo_x2 : 0 ≤ x2) (hi_x2 : x2 ≤ 15) (lo_x4 : (-99) ≤ x4) (hi_x4 : x4 ≤ 99) : Met l yX9_declare (uW yX9_declare cX9_declare 6 (some .int)) ({ frames := 0, cells := 0, slots := 0, locals := 0 }) (va_Pc [.ref o, .int 0, .int x2, .int 9, .int (-1), .int x4] (wS D (tyL cI cZ cJ) ((mW o 0 q cI cZ).set 4 ((q 3), .inl (cI, 10, .inl (upd (fun _ => 0) (0 : Int32).toNatClampNeg 1)))) sz)) (wQi ((-1)) D (((((mW o 0 q cI cZ).set 4 ((q 3), .inl (cI, 10, .inl (upd (fun _ => 0) (0 : Int32).toNatClampNeg 1)))).set 7 ((q 6), .inl (cI, 160, .inl (upd (fun _ => -1) (x2 : Int32).toNatClampNeg 9)))).set 8 ((q 7), .inl (cI, 160, .inl (upd (fun _ => 0) (x2 : Int32).toNatClampNeg (-1))))).set 9 ((q 8), .inl (cI, 160, .inl (upd (fun _ => 0) (x2 : Int32).toNatClampNeg x4)))) (va_A ((mW o 0 q cI cZ).set 4 ((q 3), .inl (cI, 10, .inl (upd (fun _ => 0) (0 : Int32).toNatClampNeg 1)))) sz)) 0 0 (va_A ((mW o 0 q cI cZ).set 4 ((q 3), .inl (cI, 10, .inl (upd (fun _ => 0) (0 : Int32).toNatClampNeg 1)))) sz) := by
  refine wStart (lv := [(0, .ref o), (1, .int 0), (2, .int x2), (3, .int 9), (4, .int (-1)), (5, .int x4)]) (Qc := fun A => wQi ((-1)) D (((((mW o 0 q cI cZ).set 4 ((q 3), .inl (cI, 10, .inl (upd (fun _ => 0) (0 : Int32).toNatClampNeg 1)))).set 7 ((q 6), .inl (cI, 160, .inl (upd (fun _ => -1) (x2 : Int32).toNatClampNeg 9)))).set 8 ((q 7), .inl (cI, 160, .inl (upd (fun _ => 0) (x2 : Int32).toNatClampNeg (-1))))).set 9 ((q 8), .inl (cI, 160, .inl (upd (fun _ => 0) (x2 : Int32).toNatClampNeg x4)))) A) (by decide) (Nat.le_of_ble_eq_true rfl) rfl ?_
  intro p e s m args below meth c ls A H S hr hlocks hnm hl hK hP hD hS hA
  have hx := S.1
  have hb := S.2.1
  refine lv_aload_n hx hb dX9_declare_0 rfl (lv_at hl 0 rfl) ?_
  refine xg (ci := 9) S inX9 rfl hK hP (q0 := 0) rfl 8 (by decide) mF_8 kw_6_155 rfl dX9_declare_1 ?_
  refine lv_iload_n hx hb dX9_declare_4 rfl (lv_at hl 1 rfl) ?_
  refine lv_bipush (v := 16) hx hb dX9_declare_5 (by decide) ?_
  refine ximul (v := 0) S dX9_declare_7 (by decide) ?_
  refine lv_iload_n hx hb dX9_declare_8 rfl (lv_at hl 2 rfl) ?_
  refine xiadd (v := x2) S dX9_declare_9 (Int32.zero_add _) ?_
  refine lv_iload_n hx hb dX9_declare_10 rfl (lv_at hl 3 rfl) ?_
  refine xiast (t0 := 0) S hK hP hD hS (q0 := 7) rfl rfl (b_in lo_x2 hi_x2 (by decide) (by decide)) dX9_declare_11 (fun H locs hP hD hS => ?_)
  have hP : va_P D vwCl (((mW o 0 q cI cZ).set 4 ((q 3), .inl (cI, 10, .inl (upd (fun _ => 0) (0 : Int32).toNatClampNeg 1)))).set 7 ((q 6), .inl (cI, 160, .inl (upd (fun _ => -1) (x2 : Int32).toNatClampNeg 9)))) H := hP
  have hD : va_D A (((mW o 0 q cI cZ).set 4 ((q 3), .inl (cI, 10, .inl (upd (fun _ => 0) (0 : Int32).toNatClampNeg 1)))).set 7 ((q 6), .inl (cI, 160, .inl (upd (fun _ => -1) (x2 : Int32).toNatClampNeg 9)))) := hD
  refine lv_aload_n hx hb dX9_declare_12 rfl (lv_at hl 0 rfl) ?_
  refine xg (ci := 9) S inX9 rfl hK hP (q0 := 0) rfl 9 (by decide) mF_9 kw_6_156 rfl dX9_declare_13 ?_
  refine lv_iload_n hx hb dX9_declare_16 rfl (lv_at hl 1 rfl) ?_
  refine lv_bipush (v := 16) hx hb dX9_declare_17 (by decide) ?_
  refine ximul (v := 0) S dX9_declare_19 (by decide) ?_
  refine lv_iload_n hx hb dX9_declare_20 rfl (lv_at hl 2 rfl) ?_
  refine xiadd (v := x2) S dX9_declare_21 (Int32.zero_add _) ?_
  refine lv_iload hx hb dX9_declare_22 (lv_at hl 4 rfl) ?_
  refine xiast (t0 := 0) S hK hP hD hS (q0 := 8) rfl rfl (b_in lo_x2 hi_x2 (by decide) (by decide)) dX9_declare_24 (fun H locs hP hD hS => ?_)
  have hP : va_P D vwCl ((((mW o 0 q cI cZ).set 4 ((q 3), .inl (cI, 10, .inl (upd (fun _ => 0) (0 : Int32).toNatClampNeg 1)))).set 7 ((q 6), .inl (cI, 160, .inl (upd (fun _ => -1) (x2 : Int32).toNatClampNeg 9)))).set 8 ((q 7), .inl (cI, 160, .inl (upd (fun _ => 0) (x2 : Int32).toNatClampNeg (-1))))) H := hP
  have hD : va_D A ((((mW o 0 q cI cZ).set 4 ((q 3), .inl (cI, 10, .inl (upd (fun _ => 0) (0 : Int32).toNatClampNeg 1)))).set 7 ((q 6), .inl (cI, 160, .inl (upd (fun _ => -1) (x2 : Int32).toNatClampNeg 9)))).set 8 ((q 7), .inl (cI, 160, .inl (upd (fun _ => 0) (x2 : Int32).toNatClampNeg (-1))))) := hD
  refine lv_aload_n hx hb dX9_declare_25 rfl (lv_at hl 0 rfl) ?_
  refine xg (ci := 9) S inX9 rfl hK hP (q0 := 0) rfl 10 (by decide) mF_10 kw_6_157 rfl dX9_declare_26 ?_
  refine lv_iload_n hx hb dX9_declare_29 rfl (lv_at hl 1 rfl) ?_
  refine lv_bipush (v := 16) hx hb dX9_declare_30 (by decide) ?_
  refine ximul (v := 0) S dX9_declare_32 (by decide) ?_
  refine lv_iload_n hx hb dX9_declare_33 rfl (lv_at hl 2 rfl) ?_
  refine xiadd (v := x2) S dX9_declare_34 (Int32.zero_add _) ?_
  refine lv_iload hx hb dX9_declare_35 (lv_at hl 5 rfl) ?_
  refine xiast (t0 := 0) S hK hP hD hS (q0 := 9) rfl rfl (b_in lo_x2 hi_x2 (by decide) (by decide)) dX9_declare_37 (fun H locs hP hD hS => ?_)
  have hP : va_P D vwCl (((((mW o 0 q cI cZ).set 4 ((q 3), .inl (cI, 10, .inl (upd (fun _ => 0) (0 : Int32).toNatClampNeg 1)))).set 7 ((q 6), .inl (cI, 160, .inl (upd (fun _ => -1) (x2 : Int32).toNatClampNeg 9)))).set 8 ((q 7), .inl (cI, 160, .inl (upd (fun _ => 0) (x2 : Int32).toNatClampNeg (-1))))).set 9 ((q 8), .inl (cI, 160, .inl (upd (fun _ => 0) (x2 : Int32).toNatClampNeg x4)))) H := hP
  have hD : va_D A (((((mW o 0 q cI cZ).set 4 ((q 3), .inl (cI, 10, .inl (upd (fun _ => 0) (0 : Int32).toNatClampNeg 1)))).set 7 ((q 6), .inl (cI, 160, .inl (upd (fun _ => -1) (x2 : Int32).toNatClampNeg 9)))).set 8 ((q 7), .inl (cI, 160, .inl (upd (fun _ => 0) (x2 : Int32).toNatClampNeg (-1))))).set 9 ((q 8), .inl (cI, 160, .inl (upd (fun _ => 0) (x2 : Int32).toNatClampNeg x4)))) := hD
  refine lv_iload hx hb dX9_declare_38 (lv_at hl 4 rfl) ?_
  exact wEnd S hr hlocks hP hD hS (Nat.le_of_ble_eq_true rfl) (Nat.le_of_ble_eq_true rfl) dX9_declare_40 rfl

set_option maxHeartbeats 8000000 in
set_option maxRecDepth 100000 in
theorem m_variable_ok3 (l : Launch) (D : va_G) (cI cZ cJ : ClassId) (o : Nat) (q : Nat → Nat) (sz : Nat) (x2 : Int32) (x4 : Int32) (lo_x2 : 0 ≤ x2) (hi_x2 : x2 ≤ 15) (lo_x4 : (-99) ≤ x4) (hi_x4 : x4 ≤ 99) : Met l yX9_variable (uW yX9_variable cX9_variable 6 (some .int)) ({ frames := 2, cells := 0, slots := 0, locals := 43 }) (va_Pc [.ref o, .int 0, .int x2, .int 3, .int x4] (wS D (tyL cI cZ cJ) (mW o 0 q cI cZ) sz)) (wQi ((-1)) D (((((mW o 0 q cI cZ).set 4 ((q 3), .inl (cI, 10, .inl (upd (fun _ => 0) (0 : Int32).toNatClampNeg 1)))).set 7 ((q 6), .inl (cI, 160, .inl (upd (fun _ => -1) (x2 : Int32).toNatClampNeg 9)))).set 8 ((q 7), .inl (cI, 160, .inl (upd (fun _ => 0) (x2 : Int32).toNatClampNeg (-1))))).set 9 ((q 8), .inl (cI, 160, .inl (upd (fun _ => 0) (x2 : Int32).toNatClampNeg x4)))) (va_A (mW o 0 q cI cZ) sz)) 0 0 (va_A (mW o 0 q cI cZ) sz) := by
  refine wStart (lv := [(0, .ref o), (1, .int 0), (2, .int x2), (3, .int 3), (4, .int x4)]) (Qc := fun A => wQi ((-1)) D (((((mW o 0 q cI cZ).set 4 ((q 3), .inl (cI, 10, .inl (upd (fun _ => 0) (0 : Int32).toNatClampNeg 1)))).set 7 ((q 6), .inl (cI, 160, .inl (upd (fun _ => -1) (x2 : Int32).toNatClampNeg 9)))).set 8 ((q 7), .inl (cI, 160, .inl (upd (fun _ => 0) (x2 : Int32).toNatClampNeg (-1))))).set 9 ((q 8), .inl (cI, 160, .inl (upd (fun _ => 0) (x2 : Int32).toNatClampNeg x4)))) A) (by decide) (Nat.le_of_ble_eq_true rfl) rfl ?_
  intro p e s m args below meth c ls A H S hr hlocks hnm hl hK hP hD hS hA
  have hx := S.1
  have hb := S.2.1
  refine lv_aload_n hx hb dX9_variable_0 rfl (lv_at hl 0 rfl) ?_
  refine lv_iconst (v := 0) hx hb dX9_variable_1 (by decide) ?_
  refine xp (ci := 9) (v := .int 0) S inX9 tyX9 tyX9_ok nmX9 rfl hK hP hD hS mW_0 0 (by decide) kw_6_147 rfl rfl rfl rfl (Nat.le_of_ble_eq_true rfl) dX9_variable_2 (fun H locs hP hD hS => ?_)
  have hP : va_P D vwCl (mW o 0 q cI cZ) H := hP
  have hD : va_D A (mW o 0 q cI cZ) := hD
  refine lv_aload_n hx hb dX9_variable_5 rfl (lv_at hl 0 rfl) ?_
  refine lv_iload_n hx hb dX9_variable_6 rfl (lv_at hl 1 rfl) ?_
  refine rdV (As := [.int 0]) (ci := 9) S (c_X9_isProcedure_1 l D cI cZ cJ o q) mi_X9_isProcedure kw_7_96 ⟨rfl, rfl⟩ ⟨Nat.le_of_ble_eq_true rfl, Nat.le_of_ble_eq_true rfl⟩ hP hK mW_0 rfl rfl hl.1 (Nat.le_of_ble_eq_true rfl) ⟨Nat.le_of_ble_eq_true rfl, Nat.le_of_ble_eq_true rfl⟩ dX9_variable_7 ?_
  refine lv_if_ne (tgt := 19) hx hb dX9_variable_10 (by decide) (fun _ => ?_) (fun c => absurd c (by decide))
  refine lv_iload_n hx hb dX9_variable_19 rfl (lv_at hl 3 rfl) ?_
  refine lv_iconst (v := 1) hx hb dX9_variable_20 (by decide) ?_
  refine lv_icmp_ne (tgt := 35) hx hb dX9_variable_21 (by decide) (fun _ => ?_) (fun c => absurd c (by decide))
  refine lv_iload_n hx hb dX9_variable_35 rfl (lv_at hl 3 rfl) ?_
  refine lv_iconst (v := 3) hx hb dX9_variable_36 (by decide) ?_
  refine lv_icmp_ne (tgt := 52) hx hb dX9_variable_37 (by decide) (fun c => absurd c (by decide)) (fun _ => ?_)
  refine lv_iload hx hb dX9_variable_40 (lv_at hl 4 rfl) ?_
  refine lv_bipush (v := (-99)) hx hb dX9_variable_42 (by decide) ?_
  refine lv_bipush (v := 99) hx hb dX9_variable_44 (by decide) ?_
  refine rdS (As := [.int x4, .int (-99), .int 99]) S (c_X9_isIn_8 l D cI cZ cJ o q x4 lo_x4 hi_x4) ms_X9_isIn kw_7_100 ⟨rfl, rfl⟩ ⟨Nat.le_of_ble_eq_true rfl, Nat.le_of_ble_eq_true rfl⟩ hP hK hl.1 (Nat.le_of_ble_eq_true rfl) ⟨Nat.le_of_ble_eq_true rfl, Nat.le_of_ble_eq_true rfl⟩ dX9_variable_46 ?_
  refine lv_goto (tgt := 62) hx hb dX9_variable_49 (by decide) ?_
  refine lv_istore (lv' := [(5, .int 1), (0, .ref o), (1, .int 0), (2, .int x2), (3, .int 3), (4, .int x4)]) hx hb dX9_variable_62 hl (by decide) rfl (fun ls hl => ?_)
  refine lv_iload_n hx hb dX9_variable_64 rfl (lv_at hl 3 rfl) ?_
  refine rdS (As := [.int x2]) S (c_X9_isName_1 l D cI cZ cJ o q x2 lo_x2 hi_x2) ms_X9_isName kw_7_107 ⟨rfl, rfl⟩ ⟨Nat.le_of_ble_eq_true rfl, Nat.le_of_ble_eq_true rfl⟩ hP hK hl.1 (Nat.le_of_ble_eq_true rfl) ⟨Nat.le_of_ble_eq_true rfl, Nat.le_of_ble_eq_true rfl⟩ dX9_variable_65 ?_
  refine lv_if_eq (tgt := 85) hx hb dX9_variable_68 (by decide) (fun c => absurd c (by decide)) (fun _ => ?_)
  refine lv_iload_n hx hb dX9_variable_71 rfl (lv_at hl 4 rfl) ?_
  refine lv_iconst (v := 0) hx hb dX9_variable_72 (by decide) ?_
  refine lv_iconst (v := 3) hx hb dX9_variable_73 (by decide) ?_
  refine rdS (As := [.int 3, .int 0, .int 3]) S (c_X9_isIn_18 l D cI cZ cJ o q) ms_X9_isIn kw_7_100 ⟨rfl, rfl⟩ ⟨Nat.le_of_ble_eq_true rfl, Nat.le_of_ble_eq_true rfl⟩ hP hK hl.1 (Nat.le_of_ble_eq_true rfl) ⟨Nat.le_of_ble_eq_true rfl, Nat.le_of_ble_eq_true rfl⟩ dX9_variable_74 ?_
  refine lv_if_eq (tgt := 85) hx hb dX9_variable_77 (by decide) (fun c => absurd c (by decide)) (fun _ => ?_)
  refine lv_iload hx hb dX9_variable_80 (lv_at hl 0 rfl) ?_
  refine lv_if_ne (tgt := 91) hx hb dX9_variable_82 (by decide) (fun _ => ?_) (fun c => absurd c (by decide))
  refine lv_aload_n hx hb dX9_variable_91 rfl (lv_at hl 1 rfl) ?_
  refine xg (ci := 9) S inX9 rfl hK hP mW_0 5 (by decide) mF_5 kw_6_152 rfl dX9_variable_92 ?_
  refine lv_iload_n hx hb dX9_variable_95 rfl (lv_at hl 2 rfl) ?_
  refine xiald (t0 := 0) (v := 0) S hK hP mW_4 rfl (vin rfl) rfl dX9_variable_96 ?_
  refine lv_bipush (v := 6) hx hb dX9_variable_97 (by decide) ?_
  refine lv_icmp_eq (tgt := 117) hx hb dX9_variable_99 (by decide) (fun c => absurd c (by decide)) (fun _ => ?_)
  refine lv_aload_n hx hb dX9_variable_102 rfl (lv_at hl 1 rfl) ?_
  refine xg (ci := 9) S inX9 rfl hK hP mW_0 8 (by decide) mF_8 kw_6_155 rfl dX9_variable_103 ?_
  refine lv_iload_n hx hb dX9_variable_106 rfl (lv_at hl 2 rfl) ?_
  refine lv_bipush (v := 16) hx hb dX9_variable_107 (by decide) ?_
  refine ximul (v := 0) S dX9_variable_109 (by decide) ?_
  refine lv_iload_n hx hb dX9_variable_110 rfl (lv_at hl 3 rfl) ?_
  refine xiadd (v := x2) S dX9_variable_111 (Int32.zero_add _) ?_
  refine xiald (t0 := 0) (v := (-1)) S hK hP mW_7 rfl (b_in lo_x2 hi_x2 (by decide) (by decide)) rfl dX9_variable_112 ?_
  refine lv_iconst (v := (-1)) hx hb dX9_variable_113 (by decide) ?_
  refine lv_icmp_eq (tgt := 123) hx hb dX9_variable_114 (by decide) (fun _ => ?_) (fun c => absurd c (by decide))
  refine lv_aload_n hx hb dX9_variable_123 rfl (lv_at hl 1 rfl) ?_
  refine xg (ci := 9) S inX9 rfl hK hP mW_0 5 (by decide) mF_5 kw_6_152 rfl dX9_variable_124 ?_
  refine lv_iload_n hx hb dX9_variable_127 rfl (lv_at hl 2 rfl) ?_
  refine lv_dup2_11 hx hb dX9_variable_128 rfl rfl ?_
  refine xiald (t0 := 0) (v := 0) S hK hP mW_4 rfl (vin rfl) rfl dX9_variable_129 ?_
  refine lv_iconst (v := 1) hx hb dX9_variable_130 (by decide) ?_
  refine xiadd (v := 1) S dX9_variable_131 (by decide) ?_
  refine xiast (t0 := 0) S hK hP hD hS mW_4 rfl (vin rfl) dX9_variable_132 (fun H locs hP hD hS => ?_)
  have hP : va_P D vwCl ((mW o 0 q cI cZ).set 4 ((q 3), .inl (cI, 10, .inl (upd (fun _ => 0) (0 : Int32).toNatClampNeg 1)))) H := hP
  have hD : va_D A ((mW o 0 q cI cZ).set 4 ((q 3), .inl (cI, 10, .inl (upd (fun _ => 0) (0 : Int32).toNatClampNeg 1)))) := hD
  refine lv_aload_n hx hb dX9_variable_133 rfl (lv_at hl 1 rfl) ?_
  refine lv_iload_n hx hb dX9_variable_134 rfl (lv_at hl 2 rfl) ?_
  refine lv_iload_n hx hb dX9_variable_135 rfl (lv_at hl 3 rfl) ?_
  refine lv_bipush (v := 6) hx hb dX9_variable_136 (by decide) ?_
  refine lv_iload_n hx hb dX9_variable_138 rfl (lv_at hl 4 rfl) ?_
  refine xiadd (v := 9) S dX9_variable_139 (by decide) ?_
  refine lv_iload_n hx hb dX9_variable_140 rfl (lv_at hl 4 rfl) ?_
  refine lv_iconst (v := 3) hx hb dX9_variable_141 (by decide) ?_
  refine lv_icmp_ne (tgt := 149) hx hb dX9_variable_142 (by decide) (fun c => absurd c (by decide)) (fun _ => ?_)
  refine lv_iconst (v := (-1)) hx hb dX9_variable_145 (by decide) ?_
  refine lv_goto (tgt := 160) hx hb dX9_variable_146 (by decide) ?_
  refine lv_iload hx hb dX9_variable_160 (lv_at hl 5 rfl) ?_
  refine wrV (As := [.int 0, .int x2, .int 9, .int (-1), .int x4]) (ci := 9) S (c_X9_declare_4 l D cI cZ cJ o q H.size x2 x4 lo_x2 hi_x2 lo_x4 hi_x4) mi_X9_declare kw_7_110 rfl rfl ⟨Nat.le_of_ble_eq_true rfl, Nat.le_of_ble_eq_true rfl⟩ hP hD hK hS hA (k := 0) rfl rfl rfl hl.1 (Nat.le_of_ble_eq_true rfl) ⟨Nat.le_of_ble_eq_true rfl, Nat.le_of_ble_eq_true rfl⟩ dX9_variable_162 (fun H locs hz hP hD hS => ?_)
  exact wEnd S hr hlocks hP hD hS (Nat.le_of_ble_eq_true rfl) (Nat.le_of_ble_eq_true rfl) dX9_variable_165 rfl

set_option maxHeartbeats 8000000 in
set_option maxRecDepth 100000 in
theorem m_ofName_p (l : Launch) (D : va_G) (cI cZ cJ : ClassId) (o : Nat) (q : Nat → Nat) (sz : Nat) (x1 : Int32) (x2 : Int32) (x3 : Int32) (ne_x1_0 : ¬ x1 = 0) : Met l yX9_ofName (uW yX9_ofName cX9_ofName 5 (some .int)) ({ frames := 2, cells := 0, slots := 0, locals := 43 }) (va_Pc [.ref o, .int x1, .int x2, .int x3] (wS D (tyL cI cZ cJ) (mW o 0 q cI cZ) sz)) (wQi (0) D (mW o 1 q cI cZ) (va_A (mW o 0 q cI cZ) sz)) 0 0 (va_A (mW o 0 q cI cZ) sz) := by
  refine wStart (lv := [(0, .ref o), (1, .int x1), (2, .int x2), (3, .int x3)]) (Qc := fun A => wQi (0) D (mW o 1 q cI cZ) A) (by decide) (Nat.le_of_ble_eq_true rfl) rfl ?_
  intro p e s m args below meth c ls A H S hr hlocks hnm hl hK hP hD hS hA
  have hx := S.1
  have hb := S.2.1
  refine lv_aload_n hx hb dX9_ofName_0 rfl (lv_at hl 0 rfl) ?_
  refine lv_iconst (v := 0) hx hb dX9_ofName_1 (by decide) ?_
  refine xp (ci := 9) (v := .int 0) S inX9 tyX9 tyX9_ok nmX9 rfl hK hP hD hS mW_0 0 (by decide) kw_6_147 rfl rfl rfl rfl (Nat.le_of_ble_eq_true rfl) dX9_ofName_2 (fun H locs hP hD hS => ?_)
  have hP : va_P D vwCl (mW o 0 q cI cZ) H := hP
  have hD : va_D A (mW o 0 q cI cZ) := hD
  refine lv_aload_n hx hb dX9_ofName_5 rfl (lv_at hl 0 rfl) ?_
  refine lv_iload_n hx hb dX9_ofName_6 rfl (lv_at hl 1 rfl) ?_
  refine rdV (As := [.int x1]) (ci := 9) S (c_X9_isProcedure_0 l D cI cZ cJ o q x1 ne_x1_0) mi_X9_isProcedure kw_7_96 ⟨rfl, rfl⟩ ⟨Nat.le_of_ble_eq_true rfl, Nat.le_of_ble_eq_true rfl⟩ hP hK mW_0 rfl rfl hl.1 (Nat.le_of_ble_eq_true rfl) ⟨Nat.le_of_ble_eq_true rfl, Nat.le_of_ble_eq_true rfl⟩ dX9_ofName_7 ?_
  refine lv_if_ne (tgt := 19) hx hb dX9_ofName_10 (by decide) (fun c => absurd c (by decide)) (fun _ => ?_)
  refine lv_aload_n hx hb dX9_ofName_13 rfl (lv_at hl 0 rfl) ?_
  refine lv_iconst (v := 1) hx hb dX9_ofName_14 (by decide) ?_
  refine wrV (As := [.int 1]) (ci := 9) S (c_X9_no_0 l D cI cZ cJ o q H.size) mi_X9_no kw_7_103 rfl rfl ⟨Nat.le_of_ble_eq_true rfl, Nat.le_of_ble_eq_true rfl⟩ hP hD hK hS hA mW_0 rfl rfl hl.1 (Nat.le_of_ble_eq_true rfl) ⟨Nat.le_of_ble_eq_true rfl, Nat.le_of_ble_eq_true rfl⟩ dX9_ofName_15 (fun H locs hz hP hD hS => ?_)
  exact wEnd S hr hlocks hP hD hS (Nat.le_of_ble_eq_true rfl) (Nat.le_of_ble_eq_true rfl) dX9_ofName_18 rfl

set_option maxHeartbeats 8000000 in
set_option maxRecDepth 100000 in
theorem m_ofName_n (l : Launch) (D : va_G) (cI cZ cJ : ClassId) (o : Nat) (q : Nat → Nat) (sz : Nat) (x2 : Int32) (x3 : Int32) (ou_x2_0_15 : ¬ (0 ≤ x2 ∧ x2 ≤ 15)) : Met l yX9_ofName (uW yX9_ofName cX9_ofName 5 (some .int)) ({ frames := 2, cells := 0, slots := 0, locals := 43 }) (va_Pc [.ref o, .int 0, .int x2, .int x3] (wS D (tyL cI cZ cJ) (mW o 0 q cI cZ) sz)) (wQi (0) D (mW o 2 q cI cZ) (va_A (mW o 0 q cI cZ) sz)) 0 0 (va_A (mW o 0 q cI cZ) sz) := by
  refine wStart (lv := [(0, .ref o), (1, .int 0), (2, .int x2), (3, .int x3)]) (Qc := fun A => wQi (0) D (mW o 2 q cI cZ) A) (by decide) (Nat.le_of_ble_eq_true rfl) rfl ?_
  intro p e s m args below meth c ls A H S hr hlocks hnm hl hK hP hD hS hA
  have hx := S.1
  have hb := S.2.1
  refine lv_aload_n hx hb dX9_ofName_0 rfl (lv_at hl 0 rfl) ?_
  refine lv_iconst (v := 0) hx hb dX9_ofName_1 (by decide) ?_
  refine xp (ci := 9) (v := .int 0) S inX9 tyX9 tyX9_ok nmX9 rfl hK hP hD hS mW_0 0 (by decide) kw_6_147 rfl rfl rfl rfl (Nat.le_of_ble_eq_true rfl) dX9_ofName_2 (fun H locs hP hD hS => ?_)
  have hP : va_P D vwCl (mW o 0 q cI cZ) H := hP
  have hD : va_D A (mW o 0 q cI cZ) := hD
  refine lv_aload_n hx hb dX9_ofName_5 rfl (lv_at hl 0 rfl) ?_
  refine lv_iload_n hx hb dX9_ofName_6 rfl (lv_at hl 1 rfl) ?_
  refine rdV (As := [.int 0]) (ci := 9) S (c_X9_isProcedure_1 l D cI cZ cJ o q) mi_X9_isProcedure kw_7_96 ⟨rfl, rfl⟩ ⟨Nat.le_of_ble_eq_true rfl, Nat.le_of_ble_eq_true rfl⟩ hP hK mW_0 rfl rfl hl.1 (Nat.le_of_ble_eq_true rfl) ⟨Nat.le_of_ble_eq_true rfl, Nat.le_of_ble_eq_true rfl⟩ dX9_ofName_7 ?_
  refine lv_if_ne (tgt := 19) hx hb dX9_ofName_10 (by decide) (fun _ => ?_) (fun c => absurd c (by decide))
  refine lv_iload_n hx hb dX9_ofName_19 rfl (lv_at hl 2 rfl) ?_
  refine rdS (As := [.int x2]) S (c_X9_isName_0 l D cI cZ cJ o q x2 ou_x2_0_15) ms_X9_isName kw_7_107 ⟨rfl, rfl⟩ ⟨Nat.le_of_ble_eq_true rfl, Nat.le_of_ble_eq_true rfl⟩ hP hK hl.1 (Nat.le_of_ble_eq_true rfl) ⟨Nat.le_of_ble_eq_true rfl, Nat.le_of_ble_eq_true rfl⟩ dX9_ofName_20 ?_
  refine lv_if_eq (tgt := 35) hx hb dX9_ofName_23 (by decide) (fun _ => ?_) (fun c => absurd c (by decide))
  refine lv_aload_n hx hb dX9_ofName_35 rfl (lv_at hl 0 rfl) ?_
  refine lv_iconst (v := 2) hx hb dX9_ofName_36 (by decide) ?_
  refine wrV (As := [.int 2]) (ci := 9) S (c_X9_no_1 l D cI cZ cJ o q H.size) mi_X9_no kw_7_103 rfl rfl ⟨Nat.le_of_ble_eq_true rfl, Nat.le_of_ble_eq_true rfl⟩ hP hD hK hS hA mW_0 rfl rfl hl.1 (Nat.le_of_ble_eq_true rfl) ⟨Nat.le_of_ble_eq_true rfl, Nat.le_of_ble_eq_true rfl⟩ dX9_ofName_37 (fun H locs hz hP hD hS => ?_)
  exact wEnd S hr hlocks hP hD hS (Nat.le_of_ble_eq_true rfl) (Nat.le_of_ble_eq_true rfl) dX9_ofName_40 rfl

set_option maxHeartbeats 8000000 in
set_option maxRecDepth 100000 in
theorem c_X9_isIn_19 (l : Launch) (D : va_G) (cI cZ cJ : ClassId) (o : Nat) (q : Nat → Nat) (x3 : Int32) (ou_x3_0_4 : ¬ (0 ≤ x3 ∧ x3 ≤ 4)) : Met l yX9_isIn (uW yX9_isIn cX9_isIn 3 (some .boolean)) ({ frames := 0, cells := 0, slots := 0, locals := 0 }) (va_Pc [.int x3, .int 0, .int 4] (pS D (tyL cI cZ cJ) (mW o 0 q cI cZ))) (QcRead (0)) 0 0 (fun _ => False) := by
  refine rdStart (lv := [(0, .int x3), (1, .int 0), (2, .int 4)]) (by decide) (Nat.le_of_ble_eq_true rfl) rfl ?_
  intro p e s m args below meth c ls S hr hlocks hl hP hK
  have hx := S.1
  have hb := S.2.1
  refine lv_iload_n hx hb dX9_isIn_0 rfl (lv_at hl 0 rfl) ?_
  refine lv_iload_n hx hb dX9_isIn_1 rfl (lv_at hl 1 rfl) ?_
  refine lv_icmp_lt (tgt := 14) hx hb dX9_isIn_2 (by decide) (fun c_2 => ?_) (fun c_2 => ?_)
  · have hi_x3 : x3 ≤ (-1) := u_lt c_2 (by decide)
    refine lv_iconst (v := 0) hx hb dX9_isIn_14 (by decide) ?_
    exact rdEndZ S hr hlocks dX9_isIn_15 rfl rfl
  · have lo_x3 : 0 ≤ x3 := l_nlt c_2
    have lo_x3 : 5 ≤ x3 := o_l ou_x3_0_4 (b_ge lo_x3 (by decide)) (by decide)
    refine lv_iload_n hx hb dX9_isIn_5 rfl (lv_at hl 0 rfl) ?_
    refine lv_iload_n hx hb dX9_isIn_6 rfl (lv_at hl 2 rfl) ?_
    refine lv_icmp_gt (tgt := 14) hx hb dX9_isIn_7 (by decide) (fun _ => ?_) (fun c => absurd (b_gt lo_x3 (by decide)) c)
    refine lv_iconst (v := 0) hx hb dX9_isIn_14 (by decide) ?_
    exact rdEndZ S hr hlocks dX9_isIn_15 rfl rfl

set_option maxHeartbeats 8000000 in
set_option maxRecDepth 100000 in
theorem m_ofName_k (l : Launch) (D : va_G) (cI cZ cJ : ClassId) (o : Nat) (q : Nat → Nat) (sz : Nat) (x2 : Int32) (x3 : Int32) (lo_x2 : 0 ≤ x2) (hi_x2 : x2 ≤ 15) (ou_x3_0_4 : ¬ (0 ≤ x3 ∧ x3 ≤ 4)) : Met l yX9_ofName (uW yX9_ofName cX9_ofName 5 (some .int)) ({ frames := 2, cells := 0, slots := 0, locals := 43 }) (va_Pc [.ref o, .int 0, .int x2, .int x3] (wS D (tyL cI cZ cJ) (mW o 0 q cI cZ) sz)) (wQi (0) D (mW o 2 q cI cZ) (va_A (mW o 0 q cI cZ) sz)) 0 0 (va_A (mW o 0 q cI cZ) sz) := by
  refine wStart (lv := [(0, .ref o), (1, .int 0), (2, .int x2), (3, .int x3)]) (Qc := fun A => wQi (0) D (mW o 2 q cI cZ) A) (by decide) (Nat.le_of_ble_eq_true rfl) rfl ?_
  intro p e s m args below meth c ls A H S hr hlocks hnm hl hK hP hD hS hA
  have hx := S.1
  have hb := S.2.1
  refine lv_aload_n hx hb dX9_ofName_0 rfl (lv_at hl 0 rfl) ?_
  refine lv_iconst (v := 0) hx hb dX9_ofName_1 (by decide) ?_
  refine xp (ci := 9) (v := .int 0) S inX9 tyX9 tyX9_ok nmX9 rfl hK hP hD hS mW_0 0 (by decide) kw_6_147 rfl rfl rfl rfl (Nat.le_of_ble_eq_true rfl) dX9_ofName_2 (fun H locs hP hD hS => ?_)
  have hP : va_P D vwCl (mW o 0 q cI cZ) H := hP
  have hD : va_D A (mW o 0 q cI cZ) := hD
  refine lv_aload_n hx hb dX9_ofName_5 rfl (lv_at hl 0 rfl) ?_
  refine lv_iload_n hx hb dX9_ofName_6 rfl (lv_at hl 1 rfl) ?_
  refine rdV (As := [.int 0]) (ci := 9) S (c_X9_isProcedure_1 l D cI cZ cJ o q) mi_X9_isProcedure kw_7_96 ⟨rfl, rfl⟩ ⟨Nat.le_of_ble_eq_true rfl, Nat.le_of_ble_eq_true rfl⟩ hP hK mW_0 rfl rfl hl.1 (Nat.le_of_ble_eq_true rfl) ⟨Nat.le_of_ble_eq_true rfl, Nat.le_of_ble_eq_true rfl⟩ dX9_ofName_7 ?_
  refine lv_if_ne (tgt := 19) hx hb dX9_ofName_10 (by decide) (fun _ => ?_) (fun c => absurd c (by decide))
  refine lv_iload_n hx hb dX9_ofName_19 rfl (lv_at hl 2 rfl) ?_
  refine rdS (As := [.int x2]) S (c_X9_isName_1 l D cI cZ cJ o q x2 lo_x2 hi_x2) ms_X9_isName kw_7_107 ⟨rfl, rfl⟩ ⟨Nat.le_of_ble_eq_true rfl, Nat.le_of_ble_eq_true rfl⟩ hP hK hl.1 (Nat.le_of_ble_eq_true rfl) ⟨Nat.le_of_ble_eq_true rfl, Nat.le_of_ble_eq_true rfl⟩ dX9_ofName_20 ?_
  refine lv_if_eq (tgt := 35) hx hb dX9_ofName_23 (by decide) (fun c => absurd c (by decide)) (fun _ => ?_)
  refine lv_iload_n hx hb dX9_ofName_26 rfl (lv_at hl 3 rfl) ?_
  refine lv_iconst (v := 0) hx hb dX9_ofName_27 (by decide) ?_
  refine lv_iconst (v := 4) hx hb dX9_ofName_28 (by decide) ?_
  refine rdS (As := [.int x3, .int 0, .int 4]) S (c_X9_isIn_19 l D cI cZ cJ o q x3 ou_x3_0_4) ms_X9_isIn kw_7_100 ⟨rfl, rfl⟩ ⟨Nat.le_of_ble_eq_true rfl, Nat.le_of_ble_eq_true rfl⟩ hP hK hl.1 (Nat.le_of_ble_eq_true rfl) ⟨Nat.le_of_ble_eq_true rfl, Nat.le_of_ble_eq_true rfl⟩ dX9_ofName_29 ?_
  refine lv_if_ne (tgt := 41) hx hb dX9_ofName_32 (by decide) (fun c => absurd c (by decide)) (fun _ => ?_)
  refine lv_aload_n hx hb dX9_ofName_35 rfl (lv_at hl 0 rfl) ?_
  refine lv_iconst (v := 2) hx hb dX9_ofName_36 (by decide) ?_
  refine wrV (As := [.int 2]) (ci := 9) S (c_X9_no_1 l D cI cZ cJ o q H.size) mi_X9_no kw_7_103 rfl rfl ⟨Nat.le_of_ble_eq_true rfl, Nat.le_of_ble_eq_true rfl⟩ hP hD hK hS hA mW_0 rfl rfl hl.1 (Nat.le_of_ble_eq_true rfl) ⟨Nat.le_of_ble_eq_true rfl, Nat.le_of_ble_eq_true rfl⟩ dX9_ofName_37 (fun H locs hz hP hD hS => ?_)
  exact wEnd S hr hlocks hP hD hS (Nat.le_of_ble_eq_true rfl) (Nat.le_of_ble_eq_true rfl) dX9_ofName_40 rfl

set_option maxHeartbeats 8000000 in
set_option maxRecDepth 100000 in
theorem c_X9_isIn_20 (l : Launch) (D : va_G) (cI cZ cJ : ClassId) (o : Nat) (q : Nat → Nat) (x3 : Int32) (lo_x3 : 0 ≤ x3) (hi_x3 : x3 ≤ 4) : Met l yX9_isIn (uW yX9_isIn cX9_isIn 3 (some .boolean)) ({ frames := 0, cells := 0, slots := 0, locals := 0 }) (va_Pc [.int x3, .int 0, .int 4] (pS D (tyL cI cZ cJ) (mW o 0 q cI cZ))) (QcRead (1)) 0 0 (fun _ => False) := by
  refine rdStart (lv := [(0, .int x3), (1, .int 0), (2, .int 4)]) (by decide) (Nat.le_of_ble_eq_true rfl) rfl ?_
  intro p e s m args below meth c ls S hr hlocks hl hP hK
  have hx := S.1
  have hb := S.2.1
  refine lv_iload_n hx hb dX9_isIn_0 rfl (lv_at hl 0 rfl) ?_
  refine lv_iload_n hx hb dX9_isIn_1 rfl (lv_at hl 1 rfl) ?_
  refine lv_icmp_lt (tgt := 14) hx hb dX9_isIn_2 (by decide) (fun c => absurd c (b_nlt lo_x3 (by decide))) (fun _ => ?_)
  refine lv_iload_n hx hb dX9_isIn_5 rfl (lv_at hl 0 rfl) ?_
  refine lv_iload_n hx hb dX9_isIn_6 rfl (lv_at hl 2 rfl) ?_
  refine lv_icmp_gt (tgt := 14) hx hb dX9_isIn_7 (by decide) (fun c => absurd c (b_ngt hi_x3 (by decide))) (fun _ => ?_)
  refine lv_iconst (v := 1) hx hb dX9_isIn_10 (by decide) ?_
  refine lv_goto (tgt := 15) hx hb dX9_isIn_11 (by decide) ?_
  exact rdEndZ S hr hlocks dX9_isIn_15 rfl rfl

set_option maxHeartbeats 8000000 in
set_option maxRecDepth 100000 in
theorem c_X9_declarer_0 (l : Launch) (D : va_G) (cI cZ cJ : ClassId) (o : Nat) (q : Nat → Nat) (x2 : Int32) (lo_x2 : 0 ≤ x2) (hi_x2 : x2 ≤ 15) : Met l yX9_declarer (uW yX9_declarer cX9_declarer 4 (some .int)) ({ frames := 0, cells := 0, slots := 0, locals := 0 }) (va_Pc [.ref o, .int 0, .int x2] (pS D (tyL cI cZ cJ) (mW o 0 q cI cZ))) (QcRead ((-1))) 0 0 (fun _ => False) := by
  refine rdStart (lv := [(0, .ref o), (1, .int 0), (2, .int x2)]) (by decide) (Nat.le_of_ble_eq_true rfl) rfl ?_
  intro p e s m args below meth c ls S hr hlocks hl hP hK
  have hx := S.1
  have hb := S.2.1
  refine lv_iload_n hx hb dX9_declarer_0 rfl (lv_at hl 1 rfl) ?_
  refine lv_istore_n (lv' := [(3, .int 0), (0, .ref o), (1, .int 0), (2, .int x2)]) hx hb dX9_declarer_1 rfl hl (by decide) rfl (fun ls hl => ?_)
  refine lv_iload_n hx hb dX9_declarer_2 rfl (lv_at hl 0 rfl) ?_
  refine lv_iconst (v := (-1)) hx hb dX9_declarer_3 (by decide) ?_
  refine lv_icmp_eq (tgt := 32) hx hb dX9_declarer_4 (by decide) (fun c => absurd c (by decide)) (fun _ => ?_)
  refine lv_aload_n hx hb dX9_declarer_7 rfl (lv_at hl 1 rfl) ?_
  refine xg (ci := 9) S inX9 rfl hK hP mW_0 8 (by decide) mF_8 kw_6_155 rfl dX9_declarer_8 ?_
  refine lv_iload_n hx hb dX9_declarer_11 rfl (lv_at hl 0 rfl) ?_
  refine lv_bipush (v := 16) hx hb dX9_declarer_12 (by decide) ?_
  refine ximul (v := 0) S dX9_declarer_14 (by decide) ?_
  refine lv_iload_n hx hb dX9_declarer_15 rfl (lv_at hl 3 rfl) ?_
  refine xiadd (v := x2) S dX9_declarer_16 (Int32.zero_add _) ?_
  refine xiald (t0 := 0) (v := (-1)) S hK hP mW_7 rfl (b_in lo_x2 hi_x2 (by decide) (by decide)) rfl dX9_declarer_17 ?_
  refine lv_iconst (v := (-1)) hx hb dX9_declarer_18 (by decide) ?_
  refine lv_icmp_ne (tgt := 32) hx hb dX9_declarer_19 (by decide) (fun c => absurd c (by decide)) (fun _ => ?_)
  refine lv_aload_n hx hb dX9_declarer_22 rfl (lv_at hl 1 rfl) ?_
  refine xg (ci := 9) S inX9 rfl hK hP mW_0 2 (by decide) mF_2 kw_6_149 rfl dX9_declarer_23 ?_
  refine lv_iload_n hx hb dX9_declarer_26 rfl (lv_at hl 0 rfl) ?_
  refine xiald (t0 := 0) (v := (-1)) S hK hP mW_1 rfl (vin rfl) rfl dX9_declarer_27 ?_
  refine lv_istore_n (lv' := [(3, .int (-1)), (0, .ref o), (1, .int 0), (2, .int x2)]) hx hb dX9_declarer_28 rfl hl (by decide) rfl (fun ls hl => ?_)
  refine lv_goto (tgt := 2) hx hb dX9_declarer_29 (by decide) ?_
  refine lv_iload_n hx hb dX9_declarer_2 rfl (lv_at hl 0 rfl) ?_
  refine lv_iconst (v := (-1)) hx hb dX9_declarer_3 (by decide) ?_
  refine lv_icmp_eq (tgt := 32) hx hb dX9_declarer_4 (by decide) (fun _ => ?_) (fun c => absurd c (by decide))
  refine lv_iload_n hx hb dX9_declarer_32 rfl (lv_at hl 0 rfl) ?_
  exact rdEnd S hr hlocks dX9_declarer_33 rfl

set_option maxHeartbeats 8000000 in
set_option maxRecDepth 100000 in
theorem m_ofName_ok (l : Launch) (D : va_G) (cI cZ cJ : ClassId) (o : Nat) (q : Nat → Nat) (sz : Nat) (x2 : Int32) (x3 : Int32) (lo_x2 : 0 ≤ x2) (hi_x2 : x2 ≤ 15) (lo_x3 : 0 ≤ x3) (hi_x3 : x3 ≤ 4) : Met l yX9_ofName (uW yX9_ofName cX9_ofName 5 (some .int)) ({ frames := 2, cells := 0, slots := 0, locals := 43 }) (va_Pc [.ref o, .int 0, .int x2, .int x3] (wS D (tyL cI cZ cJ) (mW o 0 q cI cZ) sz)) (wQi ((-1)) D (mW o 0 q cI cZ) (va_A (mW o 0 q cI cZ) sz)) 0 0 (va_A (mW o 0 q cI cZ) sz) := by
  refine wStart (lv := [(0, .ref o), (1, .int 0), (2, .int x2), (3, .int x3)]) (Qc := fun A => wQi ((-1)) D (mW o 0 q cI cZ) A) (by decide) (Nat.le_of_ble_eq_true rfl) rfl ?_
  intro p e s m args below meth c ls A H S hr hlocks hnm hl hK hP hD hS hA
  have hx := S.1
  have hb := S.2.1
  refine lv_aload_n hx hb dX9_ofName_0 rfl (lv_at hl 0 rfl) ?_
  refine lv_iconst (v := 0) hx hb dX9_ofName_1 (by decide) ?_
  refine xp (ci := 9) (v := .int 0) S inX9 tyX9 tyX9_ok nmX9 rfl hK hP hD hS mW_0 0 (by decide) kw_6_147 rfl rfl rfl rfl (Nat.le_of_ble_eq_true rfl) dX9_ofName_2 (fun H locs hP hD hS => ?_)
  have hP : va_P D vwCl (mW o 0 q cI cZ) H := hP
  have hD : va_D A (mW o 0 q cI cZ) := hD
  refine lv_aload_n hx hb dX9_ofName_5 rfl (lv_at hl 0 rfl) ?_
  refine lv_iload_n hx hb dX9_ofName_6 rfl (lv_at hl 1 rfl) ?_
  refine rdV (As := [.int 0]) (ci := 9) S (c_X9_isProcedure_1 l D cI cZ cJ o q) mi_X9_isProcedure kw_7_96 ⟨rfl, rfl⟩ ⟨Nat.le_of_ble_eq_true rfl, Nat.le_of_ble_eq_true rfl⟩ hP hK mW_0 rfl rfl hl.1 (Nat.le_of_ble_eq_true rfl) ⟨Nat.le_of_ble_eq_true rfl, Nat.le_of_ble_eq_true rfl⟩ dX9_ofName_7 ?_
  refine lv_if_ne (tgt := 19) hx hb dX9_ofName_10 (by decide) (fun _ => ?_) (fun c => absurd c (by decide))
  refine lv_iload_n hx hb dX9_ofName_19 rfl (lv_at hl 2 rfl) ?_
  refine rdS (As := [.int x2]) S (c_X9_isName_1 l D cI cZ cJ o q x2 lo_x2 hi_x2) ms_X9_isName kw_7_107 ⟨rfl, rfl⟩ ⟨Nat.le_of_ble_eq_true rfl, Nat.le_of_ble_eq_true rfl⟩ hP hK hl.1 (Nat.le_of_ble_eq_true rfl) ⟨Nat.le_of_ble_eq_true rfl, Nat.le_of_ble_eq_true rfl⟩ dX9_ofName_20 ?_
  refine lv_if_eq (tgt := 35) hx hb dX9_ofName_23 (by decide) (fun c => absurd c (by decide)) (fun _ => ?_)
  refine lv_iload_n hx hb dX9_ofName_26 rfl (lv_at hl 3 rfl) ?_
  refine lv_iconst (v := 0) hx hb dX9_ofName_27 (by decide) ?_
  refine lv_iconst (v := 4) hx hb dX9_ofName_28 (by decide) ?_
  refine rdS (As := [.int x3, .int 0, .int 4]) S (c_X9_isIn_20 l D cI cZ cJ o q x3 lo_x3 hi_x3) ms_X9_isIn kw_7_100 ⟨rfl, rfl⟩ ⟨Nat.le_of_ble_eq_true rfl, Nat.le_of_ble_eq_true rfl⟩ hP hK hl.1 (Nat.le_of_ble_eq_true rfl) ⟨Nat.le_of_ble_eq_true rfl, Nat.le_of_ble_eq_true rfl⟩ dX9_ofName_29 ?_
  refine lv_if_ne (tgt := 41) hx hb dX9_ofName_32 (by decide) (fun _ => ?_) (fun c => absurd c (by decide))
  refine lv_aload_n hx hb dX9_ofName_41 rfl (lv_at hl 0 rfl) ?_
  refine lv_iload_n hx hb dX9_ofName_42 rfl (lv_at hl 1 rfl) ?_
  refine lv_iload_n hx hb dX9_ofName_43 rfl (lv_at hl 2 rfl) ?_
  refine rdV (As := [.int 0, .int x2]) (ci := 9) S (c_X9_declarer_0 l D cI cZ cJ o q x2 lo_x2 hi_x2) mi_X9_declarer kw_7_130 ⟨rfl, rfl⟩ ⟨Nat.le_of_ble_eq_true rfl, Nat.le_of_ble_eq_true rfl⟩ hP hK mW_0 rfl rfl hl.1 (Nat.le_of_ble_eq_true rfl) ⟨Nat.le_of_ble_eq_true rfl, Nat.le_of_ble_eq_true rfl⟩ dX9_ofName_44 ?_
  refine lv_istore (lv' := [(4, .int (-1)), (0, .ref o), (1, .int 0), (2, .int x2), (3, .int x3)]) hx hb dX9_ofName_47 hl (by decide) rfl (fun ls hl => ?_)
  refine lv_iload hx hb dX9_ofName_49 (lv_at hl 0 rfl) ?_
  refine lv_iconst (v := (-1)) hx hb dX9_ofName_51 (by decide) ?_
  refine lv_icmp_eq (tgt := 59) hx hb dX9_ofName_52 (by decide) (fun _ => ?_) (fun c => absurd c (by decide))
  refine lv_iload hx hb dX9_ofName_59 (lv_at hl 0 rfl) ?_
  exact wEnd S hr hlocks hP hD hS (Nat.le_of_ble_eq_true rfl) (Nat.le_of_ble_eq_true rfl) dX9_ofName_61 rfl

set_option maxHeartbeats 8000000 in
set_option maxRecDepth 100000 in
theorem m_ofProcedure_p (l : Launch) (D : va_G) (cI cZ cJ : ClassId) (o : Nat) (q : Nat → Nat) (sz : Nat) (x1 : Int32) (x2 : Int32) (ne_x1_0 : ¬ x1 = 0) : Met l yX9_ofProcedure (uW yX9_ofProcedure cX9_ofProcedure 3 (some .int)) ({ frames := 2, cells := 0, slots := 0, locals := 43 }) (va_Pc [.ref o, .int x1, .int x2] (wS D (tyL cI cZ cJ) (mW o 0 q cI cZ) sz)) (wQi (0) D (mW o 1 q cI cZ) (va_A (mW o 0 q cI cZ) sz)) 0 0 (va_A (mW o 0 q cI cZ) sz) := by
  refine wStart (lv := [(0, .ref o), (1, .int x1), (2, .int x2)]) (Qc := fun A => wQi (0) D (mW o 1 q cI cZ) A) (by decide) (Nat.le_of_ble_eq_true rfl) rfl ?_
  intro p e s m args below meth c ls A H S hr hlocks hnm hl hK hP hD hS hA
  have hx := S.1
  have hb := S.2.1
  refine lv_aload_n hx hb dX9_ofProcedure_0 rfl (lv_at hl 0 rfl) ?_
  refine lv_iconst (v := 0) hx hb dX9_ofProcedure_1 (by decide) ?_
  refine xp (ci := 9) (v := .int 0) S inX9 tyX9 tyX9_ok nmX9 rfl hK hP hD hS mW_0 0 (by decide) kw_6_147 rfl rfl rfl rfl (Nat.le_of_ble_eq_true rfl) dX9_ofProcedure_2 (fun H locs hP hD hS => ?_)
  have hP : va_P D vwCl (mW o 0 q cI cZ) H := hP
  have hD : va_D A (mW o 0 q cI cZ) := hD
  refine lv_aload_n hx hb dX9_ofProcedure_5 rfl (lv_at hl 0 rfl) ?_
  refine lv_iload_n hx hb dX9_ofProcedure_6 rfl (lv_at hl 1 rfl) ?_
  refine rdV (As := [.int x1]) (ci := 9) S (c_X9_isProcedure_0 l D cI cZ cJ o q x1 ne_x1_0) mi_X9_isProcedure kw_7_96 ⟨rfl, rfl⟩ ⟨Nat.le_of_ble_eq_true rfl, Nat.le_of_ble_eq_true rfl⟩ hP hK mW_0 rfl rfl hl.1 (Nat.le_of_ble_eq_true rfl) ⟨Nat.le_of_ble_eq_true rfl, Nat.le_of_ble_eq_true rfl⟩ dX9_ofProcedure_7 ?_
  refine lv_if_ne (tgt := 19) hx hb dX9_ofProcedure_10 (by decide) (fun c => absurd c (by decide)) (fun _ => ?_)
  refine lv_aload_n hx hb dX9_ofProcedure_13 rfl (lv_at hl 0 rfl) ?_
  refine lv_iconst (v := 1) hx hb dX9_ofProcedure_14 (by decide) ?_
  refine wrV (As := [.int 1]) (ci := 9) S (c_X9_no_0 l D cI cZ cJ o q H.size) mi_X9_no kw_7_103 rfl rfl ⟨Nat.le_of_ble_eq_true rfl, Nat.le_of_ble_eq_true rfl⟩ hP hD hK hS hA mW_0 rfl rfl hl.1 (Nat.le_of_ble_eq_true rfl) ⟨Nat.le_of_ble_eq_true rfl, Nat.le_of_ble_eq_true rfl⟩ dX9_ofProcedure_15 (fun H locs hz hP hD hS => ?_)
  exact wEnd S hr hlocks hP hD hS (Nat.le_of_ble_eq_true rfl) (Nat.le_of_ble_eq_true rfl) dX9_ofProcedure_18 rfl

set_option maxHeartbeats 8000000 in
set_option maxRecDepth 100000 in
theorem c_X9_isIn_21 (l : Launch) (D : va_G) (cI cZ cJ : ClassId) (o : Nat) (q : Nat → Nat) (x2 : Int32) (ou_x2_0_7 : ¬ (0 ≤ x2 ∧ x2 ≤ 7)) : Met l yX9_isIn (uW yX9_isIn cX9_isIn 3 (some .boolean)) ({ frames := 0, cells := 0, slots := 0, locals := 0 }) (va_Pc [.int x2, .int 0, .int 7] (pS D (tyL cI cZ cJ) (mW o 0 q cI cZ))) (QcRead (0)) 0 0 (fun _ => False) := by
  refine rdStart (lv := [(0, .int x2), (1, .int 0), (2, .int 7)]) (by decide) (Nat.le_of_ble_eq_true rfl) rfl ?_
  intro p e s m args below meth c ls S hr hlocks hl hP hK
  have hx := S.1
  have hb := S.2.1
  refine lv_iload_n hx hb dX9_isIn_0 rfl (lv_at hl 0 rfl) ?_
  refine lv_iload_n hx hb dX9_isIn_1 rfl (lv_at hl 1 rfl) ?_
  refine lv_icmp_lt (tgt := 14) hx hb dX9_isIn_2 (by decide) (fun c_2 => ?_) (fun c_2 => ?_)
  · have hi_x2 : x2 ≤ (-1) := u_lt c_2 (by decide)
    refine lv_iconst (v := 0) hx hb dX9_isIn_14 (by decide) ?_
    exact rdEndZ S hr hlocks dX9_isIn_15 rfl rfl
  · have lo_x2 : 0 ≤ x2 := l_nlt c_2
    have lo_x2 : 8 ≤ x2 := o_l ou_x2_0_7 (b_ge lo_x2 (by decide)) (by decide)
    refine lv_iload_n hx hb dX9_isIn_5 rfl (lv_at hl 0 rfl) ?_
    refine lv_iload_n hx hb dX9_isIn_6 rfl (lv_at hl 2 rfl) ?_
    refine lv_icmp_gt (tgt := 14) hx hb dX9_isIn_7 (by decide) (fun _ => ?_) (fun c => absurd (b_gt lo_x2 (by decide)) c)
    refine lv_iconst (v := 0) hx hb dX9_isIn_14 (by decide) ?_
    exact rdEndZ S hr hlocks dX9_isIn_15 rfl rfl

set_option maxHeartbeats 8000000 in
set_option maxRecDepth 100000 in
theorem m_ofProcedure_k (l : Launch) (D : va_G) (cI cZ cJ : ClassId) (o : Nat) (q : Nat → Nat) (sz : Nat) (x2 : Int32) (ou_x2_0_7 : ¬ (0 ≤ x2 ∧ x2 ≤ 7)) : Met l yX9_ofProcedure (uW yX9_ofProcedure cX9_ofProcedure 3 (some .int)) ({ frames := 2, cells := 0, slots := 0, locals := 43 }) (va_Pc [.ref o, .int 0, .int x2] (wS D (tyL cI cZ cJ) (mW o 0 q cI cZ) sz)) (wQi (0) D (mW o 2 q cI cZ) (va_A (mW o 0 q cI cZ) sz)) 0 0 (va_A (mW o 0 q cI cZ) sz) := by
  refine wStart (lv := [(0, .ref o), (1, .int 0), (2, .int x2)]) (Qc := fun A => wQi (0) D (mW o 2 q cI cZ) A) (by decide) (Nat.le_of_ble_eq_true rfl) rfl ?_
  intro p e s m args below meth c ls A H S hr hlocks hnm hl hK hP hD hS hA
  have hx := S.1
  have hb := S.2.1
  refine lv_aload_n hx hb dX9_ofProcedure_0 rfl (lv_at hl 0 rfl) ?_
  refine lv_iconst (v := 0) hx hb dX9_ofProcedure_1 (by decide) ?_
  refine xp (ci := 9) (v := .int 0) S inX9 tyX9 tyX9_ok nmX9 rfl hK hP hD hS mW_0 0 (by decide) kw_6_147 rfl rfl rfl rfl (Nat.le_of_ble_eq_true rfl) dX9_ofProcedure_2 (fun H locs hP hD hS => ?_)
  have hP : va_P D vwCl (mW o 0 q cI cZ) H := hP
  have hD : va_D A (mW o 0 q cI cZ) := hD
  refine lv_aload_n hx hb dX9_ofProcedure_5 rfl (lv_at hl 0 rfl) ?_
  refine lv_iload_n hx hb dX9_ofProcedure_6 rfl (lv_at hl 1 rfl) ?_
  refine rdV (As := [.int 0]) (ci := 9) S (c_X9_isProcedure_1 l D cI cZ cJ o q) mi_X9_isProcedure kw_7_96 ⟨rfl, rfl⟩ ⟨Nat.le_of_ble_eq_true rfl, Nat.le_of_ble_eq_true rfl⟩ hP hK mW_0 rfl rfl hl.1 (Nat.le_of_ble_eq_true rfl) ⟨Nat.le_of_ble_eq_true rfl, Nat.le_of_ble_eq_true rfl⟩ dX9_ofProcedure_7 ?_
  refine lv_if_ne (tgt := 19) hx hb dX9_ofProcedure_10 (by decide) (fun _ => ?_) (fun c => absurd c (by decide))
  refine lv_iload_n hx hb dX9_ofProcedure_19 rfl (lv_at hl 2 rfl) ?_
  refine lv_iconst (v := 0) hx hb dX9_ofProcedure_20 (by decide) ?_
  refine lv_bipush (v := 7) hx hb dX9_ofProcedure_21 (by decide) ?_
  refine rdS (As := [.int x2, .int 0, .int 7]) S (c_X9_isIn_21 l D cI cZ cJ o q x2 ou_x2_0_7) ms_X9_isIn kw_7_100 ⟨rfl, rfl⟩ ⟨Nat.le_of_ble_eq_true rfl, Nat.le_of_ble_eq_true rfl⟩ hP hK hl.1 (Nat.le_of_ble_eq_true rfl) ⟨Nat.le_of_ble_eq_true rfl, Nat.le_of_ble_eq_true rfl⟩ dX9_ofProcedure_23 ?_
  refine lv_if_eq (tgt := 38) hx hb dX9_ofProcedure_26 (by decide) (fun _ => ?_) (fun c => absurd c (by decide))
  refine lv_aload_n hx hb dX9_ofProcedure_38 rfl (lv_at hl 0 rfl) ?_
  refine lv_iconst (v := 2) hx hb dX9_ofProcedure_39 (by decide) ?_
  refine wrV (As := [.int 2]) (ci := 9) S (c_X9_no_1 l D cI cZ cJ o q H.size) mi_X9_no kw_7_103 rfl rfl ⟨Nat.le_of_ble_eq_true rfl, Nat.le_of_ble_eq_true rfl⟩ hP hD hK hS hA mW_0 rfl rfl hl.1 (Nat.le_of_ble_eq_true rfl) ⟨Nat.le_of_ble_eq_true rfl, Nat.le_of_ble_eq_true rfl⟩ dX9_ofProcedure_40 (fun H locs hz hP hD hS => ?_)
  exact wEnd S hr hlocks hP hD hS (Nat.le_of_ble_eq_true rfl) (Nat.le_of_ble_eq_true rfl) dX9_ofProcedure_43 rfl

set_option maxHeartbeats 8000000 in
set_option maxRecDepth 100000 in
theorem c_X9_isIn_22 (l : Launch) (D : va_G) (cI cZ cJ : ClassId) (o : Nat) (q : Nat → Nat) : Met l yX9_isIn (uW yX9_isIn cX9_isIn 3 (some .boolean)) ({ frames := 0, cells := 0, slots := 0, locals := 0 }) (va_Pc [.int 0, .int 0, .int 7] (pS D (tyL cI cZ cJ) (mW o 0 q cI cZ))) (QcRead (1)) 0 0 (fun _ => False) := by
  refine rdStart (lv := [(0, .int 0), (1, .int 0), (2, .int 7)]) (by decide) (Nat.le_of_ble_eq_true rfl) rfl ?_
  intro p e s m args below meth c ls S hr hlocks hl hP hK
  have hx := S.1
  have hb := S.2.1
  refine lv_iload_n hx hb dX9_isIn_0 rfl (lv_at hl 0 rfl) ?_
  refine lv_iload_n hx hb dX9_isIn_1 rfl (lv_at hl 1 rfl) ?_
  refine lv_icmp_lt (tgt := 14) hx hb dX9_isIn_2 (by decide) (fun c => absurd c (by decide)) (fun _ => ?_)
  refine lv_iload_n hx hb dX9_isIn_5 rfl (lv_at hl 0 rfl) ?_
  refine lv_iload_n hx hb dX9_isIn_6 rfl (lv_at hl 2 rfl) ?_
  refine lv_icmp_gt (tgt := 14) hx hb dX9_isIn_7 (by decide) (fun c => absurd c (by decide)) (fun _ => ?_)
  refine lv_iconst (v := 1) hx hb dX9_isIn_10 (by decide) ?_
  refine lv_goto (tgt := 15) hx hb dX9_isIn_11 (by decide) ?_
  exact rdEndZ S hr hlocks dX9_isIn_15 rfl rfl

set_option maxHeartbeats 8000000 in
set_option maxRecDepth 100000 in
theorem c_X9_ofProcedureNow_0 (l : Launch) (D : va_G) (cI cZ cJ : ClassId) (o : Nat) (q : Nat → Nat) : Met l yX9_ofProcedureNow (uW yX9_ofProcedureNow cX9_ofProcedureNow 3 (some .int)) ({ frames := 0, cells := 0, slots := 0, locals := 0 }) (va_Pc [.ref o, .int 0, .int 0] (pS D (tyL cI cZ cJ) (mW o 0 q cI cZ))) (QcRead ((-1))) 0 0 (fun _ => False) := by
  refine rdStart (lv := [(0, .ref o), (1, .int 0), (2, .int 0)]) (by decide) (Nat.le_of_ble_eq_true rfl) rfl ?_
  intro p e s m args below meth c ls S hr hlocks hl hP hK
  have hx := S.1
  have hb := S.2.1
  refine lv_iload_n hx hb dX9_ofProcedureNow_0 rfl (lv_at hl 2 rfl) ?_
  refine lv_tableIn (off := 43) (tgt := 44) hx hb dX9_ofProcedureNow_1 (by decide) (by decide) (by decide) (by decide) ?_
  refine lv_aload_n hx hb dX9_ofProcedureNow_44 rfl (lv_at hl 0 rfl) ?_
  refine xg (ci := 9) S inX9 rfl hK hP mW_0 2 (by decide) mF_2 kw_6_149 rfl dX9_ofProcedureNow_45 ?_
  refine lv_iload_n hx hb dX9_ofProcedureNow_48 rfl (lv_at hl 1 rfl) ?_
  refine xiald (t0 := 0) (v := (-1)) S hK hP mW_1 rfl (vin rfl) rfl dX9_ofProcedureNow_49 ?_
  exact rdEnd S hr hlocks dX9_ofProcedureNow_50 rfl

set_option maxHeartbeats 8000000 in
set_option maxRecDepth 100000 in
theorem m_ofProcedure_ok0 (l : Launch) (D : va_G) (cI cZ cJ : ClassId) (o : Nat) (q : Nat → Nat) (sz : Nat) : Met l yX9_ofProcedure (uW yX9_ofProcedure cX9_ofProcedure 3 (some .int)) ({ frames := 2, cells := 0, slots := 0, locals := 43 }) (va_Pc [.ref o, .int 0, .int 0] (wS D (tyL cI cZ cJ) (mW o 0 q cI cZ) sz)) (wQi ((-1)) D (mW o 0 q cI cZ) (va_A (mW o 0 q cI cZ) sz)) 0 0 (va_A (mW o 0 q cI cZ) sz) := by
  refine wStart (lv := [(0, .ref o), (1, .int 0), (2, .int 0)]) (Qc := fun A => wQi ((-1)) D (mW o 0 q cI cZ) A) (by decide) (Nat.le_of_ble_eq_true rfl) rfl ?_
  intro p e s m args below meth c ls A H S hr hlocks hnm hl hK hP hD hS hA
  have hx := S.1
  have hb := S.2.1
  refine lv_aload_n hx hb dX9_ofProcedure_0 rfl (lv_at hl 0 rfl) ?_
  refine lv_iconst (v := 0) hx hb dX9_ofProcedure_1 (by decide) ?_
  refine xp (ci := 9) (v := .int 0) S inX9 tyX9 tyX9_ok nmX9 rfl hK hP hD hS mW_0 0 (by decide) kw_6_147 rfl rfl rfl rfl (Nat.le_of_ble_eq_true rfl) dX9_ofProcedure_2 (fun H locs hP hD hS => ?_)
  have hP : va_P D vwCl (mW o 0 q cI cZ) H := hP
  have hD : va_D A (mW o 0 q cI cZ) := hD
  refine lv_aload_n hx hb dX9_ofProcedure_5 rfl (lv_at hl 0 rfl) ?_
  refine lv_iload_n hx hb dX9_ofProcedure_6 rfl (lv_at hl 1 rfl) ?_
  refine rdV (As := [.int 0]) (ci := 9) S (c_X9_isProcedure_1 l D cI cZ cJ o q) mi_X9_isProcedure kw_7_96 ⟨rfl, rfl⟩ ⟨Nat.le_of_ble_eq_true rfl, Nat.le_of_ble_eq_true rfl⟩ hP hK mW_0 rfl rfl hl.1 (Nat.le_of_ble_eq_true rfl) ⟨Nat.le_of_ble_eq_true rfl, Nat.le_of_ble_eq_true rfl⟩ dX9_ofProcedure_7 ?_
  refine lv_if_ne (tgt := 19) hx hb dX9_ofProcedure_10 (by decide) (fun _ => ?_) (fun c => absurd c (by decide))
  refine lv_iload_n hx hb dX9_ofProcedure_19 rfl (lv_at hl 2 rfl) ?_
  refine lv_iconst (v := 0) hx hb dX9_ofProcedure_20 (by decide) ?_
  refine lv_bipush (v := 7) hx hb dX9_ofProcedure_21 (by decide) ?_
  refine rdS (As := [.int 0, .int 0, .int 7]) S (c_X9_isIn_22 l D cI cZ cJ o q) ms_X9_isIn kw_7_100 ⟨rfl, rfl⟩ ⟨Nat.le_of_ble_eq_true rfl, Nat.le_of_ble_eq_true rfl⟩ hP hK hl.1 (Nat.le_of_ble_eq_true rfl) ⟨Nat.le_of_ble_eq_true rfl, Nat.le_of_ble_eq_true rfl⟩ dX9_ofProcedure_23 ?_
  refine lv_if_eq (tgt := 38) hx hb dX9_ofProcedure_26 (by decide) (fun c => absurd c (by decide)) (fun _ => ?_)
  refine lv_aload_n hx hb dX9_ofProcedure_29 rfl (lv_at hl 0 rfl) ?_
  refine lv_iload_n hx hb dX9_ofProcedure_30 rfl (lv_at hl 1 rfl) ?_
  refine lv_iload_n hx hb dX9_ofProcedure_31 rfl (lv_at hl 2 rfl) ?_
  refine rdV (As := [.int 0, .int 0]) (ci := 9) S (c_X9_ofProcedureNow_0 l D cI cZ cJ o q) mi_X9_ofProcedureNow kw_7_202 ⟨rfl, rfl⟩ ⟨Nat.le_of_ble_eq_true rfl, Nat.le_of_ble_eq_true rfl⟩ hP hK mW_0 rfl rfl hl.1 (Nat.le_of_ble_eq_true rfl) ⟨Nat.le_of_ble_eq_true rfl, Nat.le_of_ble_eq_true rfl⟩ dX9_ofProcedure_32 ?_
  refine lv_goto (tgt := 43) hx hb dX9_ofProcedure_35 (by decide) ?_
  exact wEnd S hr hlocks hP hD hS (Nat.le_of_ble_eq_true rfl) (Nat.le_of_ble_eq_true rfl) dX9_ofProcedure_43 rfl

set_option maxHeartbeats 8000000 in
set_option maxRecDepth 100000 in
theorem c_X9_isIn_23 (l : Launch) (D : va_G) (cI cZ cJ : ClassId) (o : Nat) (q : Nat → Nat) : Met l yX9_isIn (uW yX9_isIn cX9_isIn 3 (some .boolean)) ({ frames := 0, cells := 0, slots := 0, locals := 0 }) (va_Pc [.int 1, .int 0, .int 7] (pS D (tyL cI cZ cJ) (mW o 0 q cI cZ))) (QcRead (1)) 0 0 (fun _ => False) := by
  refine rdStart (lv := [(0, .int 1), (1, .int 0), (2, .int 7)]) (by decide) (Nat.le_of_ble_eq_true rfl) rfl ?_
  intro p e s m args below meth c ls S hr hlocks hl hP hK
  have hx := S.1
  have hb := S.2.1
  refine lv_iload_n hx hb dX9_isIn_0 rfl (lv_at hl 0 rfl) ?_
  refine lv_iload_n hx hb dX9_isIn_1 rfl (lv_at hl 1 rfl) ?_
  refine lv_icmp_lt (tgt := 14) hx hb dX9_isIn_2 (by decide) (fun c => absurd c (by decide)) (fun _ => ?_)
  refine lv_iload_n hx hb dX9_isIn_5 rfl (lv_at hl 0 rfl) ?_
  refine lv_iload_n hx hb dX9_isIn_6 rfl (lv_at hl 2 rfl) ?_
  refine lv_icmp_gt (tgt := 14) hx hb dX9_isIn_7 (by decide) (fun c => absurd c (by decide)) (fun _ => ?_)
  refine lv_iconst (v := 1) hx hb dX9_isIn_10 (by decide) ?_
  refine lv_goto (tgt := 15) hx hb dX9_isIn_11 (by decide) ?_
  exact rdEndZ S hr hlocks dX9_isIn_15 rfl rfl

set_option maxHeartbeats 8000000 in
set_option maxRecDepth 100000 in
theorem c_X9_ofProcedureNow_1 (l : Launch) (D : va_G) (cI cZ cJ : ClassId) (o : Nat) (q : Nat → Nat) : Met l yX9_ofProcedureNow (uW yX9_ofProcedureNow cX9_ofProcedureNow 3 (some .int)) ({ frames := 0, cells := 0, slots := 0, locals := 0 }) (va_Pc [.ref o, .int 0, .int 1] (pS D (tyL cI cZ cJ) (mW o 0 q cI cZ))) (QcRead ((-1))) 0 0 (fun _ => False) := by
  refine rdStart (lv := [(0, .ref o), (1, .int 0), (2, .int 1)]) (by decide) (Nat.le_of_ble_eq_true rfl) rfl ?_
  intro p e s m args below meth c ls S hr hlocks hl hP hK
  have hx := S.1
  have hb := S.2.1
  refine lv_iload_n hx hb dX9_ofProcedureNow_0 rfl (lv_at hl 2 rfl) ?_
  refine lv_tableIn (off := 50) (tgt := 51) hx hb dX9_ofProcedureNow_1 (by decide) (by decide) (by decide) (by decide) ?_
  refine lv_aload_n hx hb dX9_ofProcedureNow_51 rfl (lv_at hl 0 rfl) ?_
  refine xg (ci := 9) S inX9 rfl hK hP mW_0 3 (by decide) mF_3 kw_6_150 rfl dX9_ofProcedureNow_52 ?_
  refine lv_iload_n hx hb dX9_ofProcedureNow_55 rfl (lv_at hl 1 rfl) ?_
  refine xiald (t0 := 0) (v := (-1)) S hK hP mW_2 rfl (vin rfl) rfl dX9_ofProcedureNow_56 ?_
  exact rdEnd S hr hlocks dX9_ofProcedureNow_57 rfl

set_option maxHeartbeats 8000000 in
set_option maxRecDepth 100000 in
theorem m_ofProcedure_ok1 (l : Launch) (D : va_G) (cI cZ cJ : ClassId) (o : Nat) (q : Nat → Nat) (sz : Nat) : Met l yX9_ofProcedure (uW yX9_ofProcedure cX9_ofProcedure 3 (some .int)) ({ frames := 2, cells := 0, slots := 0, locals := 43 }) (va_Pc [.ref o, .int 0, .int 1] (wS D (tyL cI cZ cJ) (mW o 0 q cI cZ) sz)) (wQi ((-1)) D (mW o 0 q cI cZ) (va_A (mW o 0 q cI cZ) sz)) 0 0 (va_A (mW o 0 q cI cZ) sz) := by
  refine wStart (lv := [(0, .ref o), (1, .int 0), (2, .int 1)]) (Qc := fun A => wQi ((-1)) D (mW o 0 q cI cZ) A) (by decide) (Nat.le_of_ble_eq_true rfl) rfl ?_
  intro p e s m args below meth c ls A H S hr hlocks hnm hl hK hP hD hS hA
  have hx := S.1
  have hb := S.2.1
  refine lv_aload_n hx hb dX9_ofProcedure_0 rfl (lv_at hl 0 rfl) ?_
  refine lv_iconst (v := 0) hx hb dX9_ofProcedure_1 (by decide) ?_
  refine xp (ci := 9) (v := .int 0) S inX9 tyX9 tyX9_ok nmX9 rfl hK hP hD hS mW_0 0 (by decide) kw_6_147 rfl rfl rfl rfl (Nat.le_of_ble_eq_true rfl) dX9_ofProcedure_2 (fun H locs hP hD hS => ?_)
  have hP : va_P D vwCl (mW o 0 q cI cZ) H := hP
  have hD : va_D A (mW o 0 q cI cZ) := hD
  refine lv_aload_n hx hb dX9_ofProcedure_5 rfl (lv_at hl 0 rfl) ?_
  refine lv_iload_n hx hb dX9_ofProcedure_6 rfl (lv_at hl 1 rfl) ?_
  refine rdV (As := [.int 0]) (ci := 9) S (c_X9_isProcedure_1 l D cI cZ cJ o q) mi_X9_isProcedure kw_7_96 ⟨rfl, rfl⟩ ⟨Nat.le_of_ble_eq_true rfl, Nat.le_of_ble_eq_true rfl⟩ hP hK mW_0 rfl rfl hl.1 (Nat.le_of_ble_eq_true rfl) ⟨Nat.le_of_ble_eq_true rfl, Nat.le_of_ble_eq_true rfl⟩ dX9_ofProcedure_7 ?_
  refine lv_if_ne (tgt := 19) hx hb dX9_ofProcedure_10 (by decide) (fun _ => ?_) (fun c => absurd c (by decide))
  refine lv_iload_n hx hb dX9_ofProcedure_19 rfl (lv_at hl 2 rfl) ?_
  refine lv_iconst (v := 0) hx hb dX9_ofProcedure_20 (by decide) ?_
  refine lv_bipush (v := 7) hx hb dX9_ofProcedure_21 (by decide) ?_
  refine rdS (As := [.int 1, .int 0, .int 7]) S (c_X9_isIn_23 l D cI cZ cJ o q) ms_X9_isIn kw_7_100 ⟨rfl, rfl⟩ ⟨Nat.le_of_ble_eq_true rfl, Nat.le_of_ble_eq_true rfl⟩ hP hK hl.1 (Nat.le_of_ble_eq_true rfl) ⟨Nat.le_of_ble_eq_true rfl, Nat.le_of_ble_eq_true rfl⟩ dX9_ofProcedure_23 ?_
  refine lv_if_eq (tgt := 38) hx hb dX9_ofProcedure_26 (by decide) (fun c => absurd c (by decide)) (fun _ => ?_)
  refine lv_aload_n hx hb dX9_ofProcedure_29 rfl (lv_at hl 0 rfl) ?_
  refine lv_iload_n hx hb dX9_ofProcedure_30 rfl (lv_at hl 1 rfl) ?_
  refine lv_iload_n hx hb dX9_ofProcedure_31 rfl (lv_at hl 2 rfl) ?_
  refine rdV (As := [.int 0, .int 1]) (ci := 9) S (c_X9_ofProcedureNow_1 l D cI cZ cJ o q) mi_X9_ofProcedureNow kw_7_202 ⟨rfl, rfl⟩ ⟨Nat.le_of_ble_eq_true rfl, Nat.le_of_ble_eq_true rfl⟩ hP hK mW_0 rfl rfl hl.1 (Nat.le_of_ble_eq_true rfl) ⟨Nat.le_of_ble_eq_true rfl, Nat.le_of_ble_eq_true rfl⟩ dX9_ofProcedure_32 ?_
  refine lv_goto (tgt := 43) hx hb dX9_ofProcedure_35 (by decide) ?_
  exact wEnd S hr hlocks hP hD hS (Nat.le_of_ble_eq_true rfl) (Nat.le_of_ble_eq_true rfl) dX9_ofProcedure_43 rfl

set_option maxHeartbeats 8000000 in
set_option maxRecDepth 100000 in
theorem c_X9_isIn_24 (l : Launch) (D : va_G) (cI cZ cJ : ClassId) (o : Nat) (q : Nat → Nat) : Met l yX9_isIn (uW yX9_isIn cX9_isIn 3 (some .boolean)) ({ frames := 0, cells := 0, slots := 0, locals := 0 }) (va_Pc [.int 2, .int 0, .int 7] (pS D (tyL cI cZ cJ) (mW o 0 q cI cZ))) (QcRead (1)) 0 0 (fun _ => False) := by
  refine rdStart (lv := [(0, .int 2), (1, .int 0), (2, .int 7)]) (by decide) (Nat.le_of_ble_eq_true rfl) rfl ?_
  intro p e s m args below meth c ls S hr hlocks hl hP hK
  have hx := S.1
  have hb := S.2.1
  refine lv_iload_n hx hb dX9_isIn_0 rfl (lv_at hl 0 rfl) ?_
  refine lv_iload_n hx hb dX9_isIn_1 rfl (lv_at hl 1 rfl) ?_
  refine lv_icmp_lt (tgt := 14) hx hb dX9_isIn_2 (by decide) (fun c => absurd c (by decide)) (fun _ => ?_)
  refine lv_iload_n hx hb dX9_isIn_5 rfl (lv_at hl 0 rfl) ?_
  refine lv_iload_n hx hb dX9_isIn_6 rfl (lv_at hl 2 rfl) ?_
  refine lv_icmp_gt (tgt := 14) hx hb dX9_isIn_7 (by decide) (fun c => absurd c (by decide)) (fun _ => ?_)
  refine lv_iconst (v := 1) hx hb dX9_isIn_10 (by decide) ?_
  refine lv_goto (tgt := 15) hx hb dX9_isIn_11 (by decide) ?_
  exact rdEndZ S hr hlocks dX9_isIn_15 rfl rfl

set_option maxHeartbeats 8000000 in
set_option maxRecDepth 100000 in
theorem c_X9_ofProcedureNow_2 (l : Launch) (D : va_G) (cI cZ cJ : ClassId) (o : Nat) (q : Nat → Nat) : Met l yX9_ofProcedureNow (uW yX9_ofProcedureNow cX9_ofProcedureNow 3 (some .int)) ({ frames := 0, cells := 0, slots := 0, locals := 0 }) (va_Pc [.ref o, .int 0, .int 2] (pS D (tyL cI cZ cJ) (mW o 0 q cI cZ))) (QcRead (0)) 0 0 (fun _ => False) := by
  refine rdStart (lv := [(0, .ref o), (1, .int 0), (2, .int 2)]) (by decide) (Nat.le_of_ble_eq_true rfl) rfl ?_
  intro p e s m args below meth c ls S hr hlocks hl hP hK
  have hx := S.1
  have hb := S.2.1
  refine lv_iload_n hx hb dX9_ofProcedureNow_0 rfl (lv_at hl 2 rfl) ?_
  refine lv_tableIn (off := 57) (tgt := 58) hx hb dX9_ofProcedureNow_1 (by decide) (by decide) (by decide) (by decide) ?_
  refine lv_aload_n hx hb dX9_ofProcedureNow_58 rfl (lv_at hl 0 rfl) ?_
  refine xg (ci := 9) S inX9 rfl hK hP mW_0 4 (by decide) mF_4 kw_6_151 rfl dX9_ofProcedureNow_59 ?_
  refine lv_iload_n hx hb dX9_ofProcedureNow_62 rfl (lv_at hl 1 rfl) ?_
  refine xiald (t0 := 0) (v := 0) S hK hP mW_3 rfl (vin rfl) rfl dX9_ofProcedureNow_63 ?_
  exact rdEnd S hr hlocks dX9_ofProcedureNow_64 rfl

set_option maxHeartbeats 8000000 in
set_option maxRecDepth 100000 in
theorem m_ofProcedure_ok2 (l : Launch) (D : va_G) (cI cZ cJ : ClassId) (o : Nat) (q : Nat → Nat) (sz : Nat) : Met l yX9_ofProcedure (uW yX9_ofProcedure cX9_ofProcedure 3 (some .int)) ({ frames := 2, cells := 0, slots := 0, locals := 43 }) (va_Pc [.ref o, .int 0, .int 2] (wS D (tyL cI cZ cJ) (mW o 0 q cI cZ) sz)) (wQi (0) D (mW o 0 q cI cZ) (va_A (mW o 0 q cI cZ) sz)) 0 0 (va_A (mW o 0 q cI cZ) sz) := by
  refine wStart (lv := [(0, .ref o), (1, .int 0), (2, .int 2)]) (Qc := fun A => wQi (0) D (mW o 0 q cI cZ) A) (by decide) (Nat.le_of_ble_eq_true rfl) rfl ?_
  intro p e s m args below meth c ls A H S hr hlocks hnm hl hK hP hD hS hA
  have hx := S.1
  have hb := S.2.1
  refine lv_aload_n hx hb dX9_ofProcedure_0 rfl (lv_at hl 0 rfl) ?_
  refine lv_iconst (v := 0) hx hb dX9_ofProcedure_1 (by decide) ?_
  refine xp (ci := 9) (v := .int 0) S inX9 tyX9 tyX9_ok nmX9 rfl hK hP hD hS mW_0 0 (by decide) kw_6_147 rfl rfl rfl rfl (Nat.le_of_ble_eq_true rfl) dX9_ofProcedure_2 (fun H locs hP hD hS => ?_)
  have hP : va_P D vwCl (mW o 0 q cI cZ) H := hP
  have hD : va_D A (mW o 0 q cI cZ) := hD
  refine lv_aload_n hx hb dX9_ofProcedure_5 rfl (lv_at hl 0 rfl) ?_
  refine lv_iload_n hx hb dX9_ofProcedure_6 rfl (lv_at hl 1 rfl) ?_
  refine rdV (As := [.int 0]) (ci := 9) S (c_X9_isProcedure_1 l D cI cZ cJ o q) mi_X9_isProcedure kw_7_96 ⟨rfl, rfl⟩ ⟨Nat.le_of_ble_eq_true rfl, Nat.le_of_ble_eq_true rfl⟩ hP hK mW_0 rfl rfl hl.1 (Nat.le_of_ble_eq_true rfl) ⟨Nat.le_of_ble_eq_true rfl, Nat.le_of_ble_eq_true rfl⟩ dX9_ofProcedure_7 ?_
  refine lv_if_ne (tgt := 19) hx hb dX9_ofProcedure_10 (by decide) (fun _ => ?_) (fun c => absurd c (by decide))
  refine lv_iload_n hx hb dX9_ofProcedure_19 rfl (lv_at hl 2 rfl) ?_
  refine lv_iconst (v := 0) hx hb dX9_ofProcedure_20 (by decide) ?_
  refine lv_bipush (v := 7) hx hb dX9_ofProcedure_21 (by decide) ?_
  refine rdS (As := [.int 2, .int 0, .int 7]) S (c_X9_isIn_24 l D cI cZ cJ o q) ms_X9_isIn kw_7_100 ⟨rfl, rfl⟩ ⟨Nat.le_of_ble_eq_true rfl, Nat.le_of_ble_eq_true rfl⟩ hP hK hl.1 (Nat.le_of_ble_eq_true rfl) ⟨Nat.le_of_ble_eq_true rfl, Nat.le_of_ble_eq_true rfl⟩ dX9_ofProcedure_23 ?_
  refine lv_if_eq (tgt := 38) hx hb dX9_ofProcedure_26 (by decide) (fun c => absurd c (by decide)) (fun _ => ?_)
  refine lv_aload_n hx hb dX9_ofProcedure_29 rfl (lv_at hl 0 rfl) ?_
  refine lv_iload_n hx hb dX9_ofProcedure_30 rfl (lv_at hl 1 rfl) ?_
  refine lv_iload_n hx hb dX9_ofProcedure_31 rfl (lv_at hl 2 rfl) ?_
  refine rdV (As := [.int 0, .int 2]) (ci := 9) S (c_X9_ofProcedureNow_2 l D cI cZ cJ o q) mi_X9_ofProcedureNow kw_7_202 ⟨rfl, rfl⟩ ⟨Nat.le_of_ble_eq_true rfl, Nat.le_of_ble_eq_true rfl⟩ hP hK mW_0 rfl rfl hl.1 (Nat.le_of_ble_eq_true rfl) ⟨Nat.le_of_ble_eq_true rfl, Nat.le_of_ble_eq_true rfl⟩ dX9_ofProcedure_32 ?_
  refine lv_goto (tgt := 43) hx hb dX9_ofProcedure_35 (by decide) ?_
  exact wEnd S hr hlocks hP hD hS (Nat.le_of_ble_eq_true rfl) (Nat.le_of_ble_eq_true rfl) dX9_ofProcedure_43 rfl

set_option maxHeartbeats 8000000 in
set_option maxRecDepth 100000 in
theorem c_X9_isIn_25 (l : Launch) (D : va_G) (cI cZ cJ : ClassId) (o : Nat) (q : Nat → Nat) : Met l yX9_isIn (uW yX9_isIn cX9_isIn 3 (some .boolean)) ({ frames := 0, cells := 0, slots := 0, locals := 0 }) (va_Pc [.int 3, .int 0, .int 7] (pS D (tyL cI cZ cJ) (mW o 0 q cI cZ))) (QcRead (1)) 0 0 (fun _ => False) := by
  refine rdStart (lv := [(0, .int 3), (1, .int 0), (2, .int 7)]) (by decide) (Nat.le_of_ble_eq_true rfl) rfl ?_
  intro p e s m args below meth c ls S hr hlocks hl hP hK
  have hx := S.1
  have hb := S.2.1
  refine lv_iload_n hx hb dX9_isIn_0 rfl (lv_at hl 0 rfl) ?_
  refine lv_iload_n hx hb dX9_isIn_1 rfl (lv_at hl 1 rfl) ?_
  refine lv_icmp_lt (tgt := 14) hx hb dX9_isIn_2 (by decide) (fun c => absurd c (by decide)) (fun _ => ?_)
  refine lv_iload_n hx hb dX9_isIn_5 rfl (lv_at hl 0 rfl) ?_
  refine lv_iload_n hx hb dX9_isIn_6 rfl (lv_at hl 2 rfl) ?_
  refine lv_icmp_gt (tgt := 14) hx hb dX9_isIn_7 (by decide) (fun c => absurd c (by decide)) (fun _ => ?_)
  refine lv_iconst (v := 1) hx hb dX9_isIn_10 (by decide) ?_
  refine lv_goto (tgt := 15) hx hb dX9_isIn_11 (by decide) ?_
  exact rdEndZ S hr hlocks dX9_isIn_15 rfl rfl

set_option maxHeartbeats 8000000 in
set_option maxRecDepth 100000 in
theorem c_X9_ofProcedureNow_3 (l : Launch) (D : va_G) (cI cZ cJ : ClassId) (o : Nat) (q : Nat → Nat) : Met l yX9_ofProcedureNow (uW yX9_ofProcedureNow cX9_ofProcedureNow 3 (some .int)) ({ frames := 0, cells := 0, slots := 0, locals := 0 }) (va_Pc [.ref o, .int 0, .int 3] (pS D (tyL cI cZ cJ) (mW o 0 q cI cZ))) (QcRead (0)) 0 0 (fun _ => False) := by
  refine rdStart (lv := [(0, .ref o), (1, .int 0), (2, .int 3)]) (by decide) (Nat.le_of_ble_eq_true rfl) rfl ?_
  intro p e s m args below meth c ls S hr hlocks hl hP hK
  have hx := S.1
  have hb := S.2.1
  refine lv_iload_n hx hb dX9_ofProcedureNow_0 rfl (lv_at hl 2 rfl) ?_
  refine lv_tableIn (off := 64) (tgt := 65) hx hb dX9_ofProcedureNow_1 (by decide) (by decide) (by decide) (by decide) ?_
  refine lv_aload_n hx hb dX9_ofProcedureNow_65 rfl (lv_at hl 0 rfl) ?_
  refine xg (ci := 9) S inX9 rfl hK hP mW_0 5 (by decide) mF_5 kw_6_152 rfl dX9_ofProcedureNow_66 ?_
  refine lv_iload_n hx hb dX9_ofProcedureNow_69 rfl (lv_at hl 1 rfl) ?_
  refine xiald (t0 := 0) (v := 0) S hK hP mW_4 rfl (vin rfl) rfl dX9_ofProcedureNow_70 ?_
  exact rdEnd S hr hlocks dX9_ofProcedureNow_71 rfl

set_option maxHeartbeats 8000000 in
set_option maxRecDepth 100000 in
theorem m_ofProcedure_ok3 (l : Launch) (D : va_G) (cI cZ cJ : ClassId) (o : Nat) (q : Nat → Nat) (sz : Nat) : Met l yX9_ofProcedure (uW yX9_ofProcedure cX9_ofProcedure 3 (some .int)) ({ frames := 2, cells := 0, slots := 0, locals := 43 }) (va_Pc [.ref o, .int 0, .int 3] (wS D (tyL cI cZ cJ) (mW o 0 q cI cZ) sz)) (wQi (0) D (mW o 0 q cI cZ) (va_A (mW o 0 q cI cZ) sz)) 0 0 (va_A (mW o 0 q cI cZ) sz) := by
  refine wStart (lv := [(0, .ref o), (1, .int 0), (2, .int 3)]) (Qc := fun A => wQi (0) D (mW o 0 q cI cZ) A) (by decide) (Nat.le_of_ble_eq_true rfl) rfl ?_
  intro p e s m args below meth c ls A H S hr hlocks hnm hl hK hP hD hS hA
  have hx := S.1
  have hb := S.2.1
  refine lv_aload_n hx hb dX9_ofProcedure_0 rfl (lv_at hl 0 rfl) ?_
  refine lv_iconst (v := 0) hx hb dX9_ofProcedure_1 (by decide) ?_
  refine xp (ci := 9) (v := .int 0) S inX9 tyX9 tyX9_ok nmX9 rfl hK hP hD hS mW_0 0 (by decide) kw_6_147 rfl rfl rfl rfl (Nat.le_of_ble_eq_true rfl) dX9_ofProcedure_2 (fun H locs hP hD hS => ?_)
  have hP : va_P D vwCl (mW o 0 q cI cZ) H := hP
  have hD : va_D A (mW o 0 q cI cZ) := hD
  refine lv_aload_n hx hb dX9_ofProcedure_5 rfl (lv_at hl 0 rfl) ?_
  refine lv_iload_n hx hb dX9_ofProcedure_6 rfl (lv_at hl 1 rfl) ?_
  refine rdV (As := [.int 0]) (ci := 9) S (c_X9_isProcedure_1 l D cI cZ cJ o q) mi_X9_isProcedure kw_7_96 ⟨rfl, rfl⟩ ⟨Nat.le_of_ble_eq_true rfl, Nat.le_of_ble_eq_true rfl⟩ hP hK mW_0 rfl rfl hl.1 (Nat.le_of_ble_eq_true rfl) ⟨Nat.le_of_ble_eq_true rfl, Nat.le_of_ble_eq_true rfl⟩ dX9_ofProcedure_7 ?_
  refine lv_if_ne (tgt := 19) hx hb dX9_ofProcedure_10 (by decide) (fun _ => ?_) (fun c => absurd c (by decide))
  refine lv_iload_n hx hb dX9_ofProcedure_19 rfl (lv_at hl 2 rfl) ?_
  refine lv_iconst (v := 0) hx hb dX9_ofProcedure_20 (by decide) ?_
  refine lv_bipush (v := 7) hx hb dX9_ofProcedure_21 (by decide) ?_
  refine rdS (As := [.int 3, .int 0, .int 7]) S (c_X9_isIn_25 l D cI cZ cJ o q) ms_X9_isIn kw_7_100 ⟨rfl, rfl⟩ ⟨Nat.le_of_ble_eq_true rfl, Nat.le_of_ble_eq_true rfl⟩ hP hK hl.1 (Nat.le_of_ble_eq_true rfl) ⟨Nat.le_of_ble_eq_true rfl, Nat.le_of_ble_eq_true rfl⟩ dX9_ofProcedure_23 ?_
  refine lv_if_eq (tgt := 38) hx hb dX9_ofProcedure_26 (by decide) (fun c => absurd c (by decide)) (fun _ => ?_)
  refine lv_aload_n hx hb dX9_ofProcedure_29 rfl (lv_at hl 0 rfl) ?_
  refine lv_iload_n hx hb dX9_ofProcedure_30 rfl (lv_at hl 1 rfl) ?_
  refine lv_iload_n hx hb dX9_ofProcedure_31 rfl (lv_at hl 2 rfl) ?_
  refine rdV (As := [.int 0, .int 3]) (ci := 9) S (c_X9_ofProcedureNow_3 l D cI cZ cJ o q) mi_X9_ofProcedureNow kw_7_202 ⟨rfl, rfl⟩ ⟨Nat.le_of_ble_eq_true rfl, Nat.le_of_ble_eq_true rfl⟩ hP hK mW_0 rfl rfl hl.1 (Nat.le_of_ble_eq_true rfl) ⟨Nat.le_of_ble_eq_true rfl, Nat.le_of_ble_eq_true rfl⟩ dX9_ofProcedure_32 ?_
  refine lv_goto (tgt := 43) hx hb dX9_ofProcedure_35 (by decide) ?_
  exact wEnd S hr hlocks hP hD hS (Nat.le_of_ble_eq_true rfl) (Nat.le_of_ble_eq_true rfl) dX9_ofProcedure_43 rfl

set_option maxHeartbeats 8000000 in
set_option maxRecDepth 100000 in
theorem c_X9_isIn_26 (l : Launch) (D : va_G) (cI cZ cJ : ClassId) (o : Nat) (q : Nat → Nat) : Met l yX9_isIn (uW yX9_isIn cX9_isIn 3 (some .boolean)) ({ frames := 0, cells := 0, slots := 0, locals := 0 }) (va_Pc [.int 4, .int 0, .int 7] (pS D (tyL cI cZ cJ) (mW o 0 q cI cZ))) (QcRead (1)) 0 0 (fun _ => False) := by
  refine rdStart (lv := [(0, .int 4), (1, .int 0), (2, .int 7)]) (by decide) (Nat.le_of_ble_eq_true rfl) rfl ?_
  intro p e s m args below meth c ls S hr hlocks hl hP hK
  have hx := S.1
  have hb := S.2.1
  refine lv_iload_n hx hb dX9_isIn_0 rfl (lv_at hl 0 rfl) ?_
  refine lv_iload_n hx hb dX9_isIn_1 rfl (lv_at hl 1 rfl) ?_
  refine lv_icmp_lt (tgt := 14) hx hb dX9_isIn_2 (by decide) (fun c => absurd c (by decide)) (fun _ => ?_)
  refine lv_iload_n hx hb dX9_isIn_5 rfl (lv_at hl 0 rfl) ?_
  refine lv_iload_n hx hb dX9_isIn_6 rfl (lv_at hl 2 rfl) ?_
  refine lv_icmp_gt (tgt := 14) hx hb dX9_isIn_7 (by decide) (fun c => absurd c (by decide)) (fun _ => ?_)
  refine lv_iconst (v := 1) hx hb dX9_isIn_10 (by decide) ?_
  refine lv_goto (tgt := 15) hx hb dX9_isIn_11 (by decide) ?_
  exact rdEndZ S hr hlocks dX9_isIn_15 rfl rfl

set_option maxHeartbeats 8000000 in
set_option maxRecDepth 100000 in
theorem c_X9_escapes_0 (l : Launch) (D : va_G) (cI cZ cJ : ClassId) (o : Nat) (q : Nat → Nat) : Met l yX9_escapes (uW yX9_escapes cX9_escapes 4 (some .int)) ({ frames := 0, cells := 0, slots := 0, locals := 0 }) (va_Pc [.ref o, .int 0] (pS D (tyL cI cZ cJ) (mW o 0 q cI cZ))) (QcRead (0)) 0 0 (fun _ => False) := by
  refine rdStart (lv := [(0, .ref o), (1, .int 0)]) (by decide) (Nat.le_of_ble_eq_true rfl) rfl ?_
  intro p e s m args below meth c ls S hr hlocks hl hP hK
  have hx := S.1
  have hb := S.2.1
  refine lv_iconst (v := 0) hx hb dX9_escapes_0 (by decide) ?_
  refine lv_istore_n (lv' := [(2, .int 0), (0, .ref o), (1, .int 0)]) hx hb dX9_escapes_1 rfl hl (by decide) rfl (fun ls hl => ?_)
  refine lv_iconst (v := 0) hx hb dX9_escapes_2 (by decide) ?_
  refine lv_istore_n (lv' := [(3, .int 0), (2, .int 0), (0, .ref o), (1, .int 0)]) hx hb dX9_escapes_3 rfl hl (by decide) rfl (fun ls hl => ?_)
  refine lv_iload_n hx hb dX9_escapes_4 rfl (lv_at hl 0 rfl) ?_
  refine lv_aload_n hx hb dX9_escapes_5 rfl (lv_at hl 2 rfl) ?_
  refine xg (ci := 9) S inX9 rfl hK hP mW_0 13 (by decide) mF_13 kw_6_160 rfl dX9_escapes_6 ?_
  refine lv_icmp_ge (tgt := 130) hx hb dX9_escapes_9 (by decide) (fun _ => ?_) (fun c => absurd c (by decide))
  refine lv_iload_n hx hb dX9_escapes_130 rfl (lv_at hl 1 rfl) ?_
  exact rdEnd S hr hlocks dX9_escapes_131 rfl

set_option maxHeartbeats 8000000 in
set_option maxRecDepth 100000 in
theorem c_X9_ofProcedureNow_4 (l : Launch) (D : va_G) (cI cZ cJ : ClassId) (o : Nat) (q : Nat → Nat) : Met l yX9_ofProcedureNow (uW yX9_ofProcedureNow cX9_ofProcedureNow 3 (some .int)) ({ frames := 1, cells := 0, slots := 0, locals := 23 }) (va_Pc [.ref o, .int 0, .int 4] (pS D (tyL cI cZ cJ) (mW o 0 q cI cZ))) (QcRead (0)) 0 0 (fun _ => False) := by
  refine rdStart (lv := [(0, .ref o), (1, .int 0), (2, .int 4)]) (by decide) (Nat.le_of_ble_eq_true rfl) rfl ?_
  intro p e s m args below meth c ls S hr hlocks hl hP hK
  have hx := S.1
  have hb := S.2.1
  refine lv_iload_n hx hb dX9_ofProcedureNow_0 rfl (lv_at hl 2 rfl) ?_
  refine lv_tableIn (off := 71) (tgt := 72) hx hb dX9_ofProcedureNow_1 (by decide) (by decide) (by decide) (by decide) ?_
  refine lv_aload_n hx hb dX9_ofProcedureNow_72 rfl (lv_at hl 0 rfl) ?_
  refine lv_iload_n hx hb dX9_ofProcedureNow_73 rfl (lv_at hl 1 rfl) ?_
  refine rdV (As := [.int 0]) (ci := 9) S (c_X9_escapes_0 l D cI cZ cJ o q) mi_X9_escapes kw_7_206 ⟨rfl, rfl⟩ ⟨Nat.le_of_ble_eq_true rfl, Nat.le_of_ble_eq_true rfl⟩ hP hK mW_0 rfl rfl hl.1 (Nat.le_of_ble_eq_true rfl) ⟨Nat.le_of_ble_eq_true rfl, Nat.le_of_ble_eq_true rfl⟩ dX9_ofProcedureNow_74 ?_
  exact rdEnd S hr hlocks dX9_ofProcedureNow_77 rfl

set_option maxHeartbeats 8000000 in
set_option maxRecDepth 100000 in
theorem m_ofProcedure_ok4 (l : Launch) (D : va_G) (cI cZ cJ : ClassId) (o : Nat) (q : Nat → Nat) (sz : Nat) : Met l yX9_ofProcedure (uW yX9_ofProcedure cX9_ofProcedure 3 (some .int)) ({ frames := 2, cells := 0, slots := 0, locals := 45 }) (va_Pc [.ref o, .int 0, .int 4] (wS D (tyL cI cZ cJ) (mW o 0 q cI cZ) sz)) (wQi (0) D (mW o 0 q cI cZ) (va_A (mW o 0 q cI cZ) sz)) 0 0 (va_A (mW o 0 q cI cZ) sz) := by
  refine wStart (lv := [(0, .ref o), (1, .int 0), (2, .int 4)]) (Qc := fun A => wQi (0) D (mW o 0 q cI cZ) A) (by decide) (Nat.le_of_ble_eq_true rfl) rfl ?_
  intro p e s m args below meth c ls A H S hr hlocks hnm hl hK hP hD hS hA
  have hx := S.1
  have hb := S.2.1
  refine lv_aload_n hx hb dX9_ofProcedure_0 rfl (lv_at hl 0 rfl) ?_
  refine lv_iconst (v := 0) hx hb dX9_ofProcedure_1 (by decide) ?_
  refine xp (ci := 9) (v := .int 0) S inX9 tyX9 tyX9_ok nmX9 rfl hK hP hD hS mW_0 0 (by decide) kw_6_147 rfl rfl rfl rfl (Nat.le_of_ble_eq_true rfl) dX9_ofProcedure_2 (fun H locs hP hD hS => ?_)
  have hP : va_P D vwCl (mW o 0 q cI cZ) H := hP
  have hD : va_D A (mW o 0 q cI cZ) := hD
  refine lv_aload_n hx hb dX9_ofProcedure_5 rfl (lv_at hl 0 rfl) ?_
  refine lv_iload_n hx hb dX9_ofProcedure_6 rfl (lv_at hl 1 rfl) ?_
  refine rdV (As := [.int 0]) (ci := 9) S (c_X9_isProcedure_1 l D cI cZ cJ o q) mi_X9_isProcedure kw_7_96 ⟨rfl, rfl⟩ ⟨Nat.le_of_ble_eq_true rfl, Nat.le_of_ble_eq_true rfl⟩ hP hK mW_0 rfl rfl hl.1 (Nat.le_of_ble_eq_true rfl) ⟨Nat.le_of_ble_eq_true rfl, Nat.le_of_ble_eq_true rfl⟩ dX9_ofProcedure_7 ?_
  refine lv_if_ne (tgt := 19) hx hb dX9_ofProcedure_10 (by decide) (fun _ => ?_) (fun c => absurd c (by decide))
  refine lv_iload_n hx hb dX9_ofProcedure_19 rfl (lv_at hl 2 rfl) ?_
  refine lv_iconst (v := 0) hx hb dX9_ofProcedure_20 (by decide) ?_
  refine lv_bipush (v := 7) hx hb dX9_ofProcedure_21 (by decide) ?_
  refine rdS (As := [.int 4, .int 0, .int 7]) S (c_X9_isIn_26 l D cI cZ cJ o q) ms_X9_isIn kw_7_100 ⟨rfl, rfl⟩ ⟨Nat.le_of_ble_eq_true rfl, Nat.le_of_ble_eq_true rfl⟩ hP hK hl.1 (Nat.le_of_ble_eq_true rfl) ⟨Nat.le_of_ble_eq_true rfl, Nat.le_of_ble_eq_true rfl⟩ dX9_ofProcedure_23 ?_
  refine lv_if_eq (tgt := 38) hx hb dX9_ofProcedure_26 (by decide) (fun c => absurd c (by decide)) (fun _ => ?_)
  refine lv_aload_n hx hb dX9_ofProcedure_29 rfl (lv_at hl 0 rfl) ?_
  refine lv_iload_n hx hb dX9_ofProcedure_30 rfl (lv_at hl 1 rfl) ?_
  refine lv_iload_n hx hb dX9_ofProcedure_31 rfl (lv_at hl 2 rfl) ?_
  refine rdV (As := [.int 0, .int 4]) (ci := 9) S (c_X9_ofProcedureNow_4 l D cI cZ cJ o q) mi_X9_ofProcedureNow kw_7_202 ⟨rfl, rfl⟩ ⟨Nat.le_of_ble_eq_true rfl, Nat.le_of_ble_eq_true rfl⟩ hP hK mW_0 rfl rfl hl.1 (Nat.le_of_ble_eq_true rfl) ⟨Nat.le_of_ble_eq_true rfl, Nat.le_of_ble_eq_true rfl⟩ dX9_ofProcedure_32 ?_
  refine lv_goto (tgt := 43) hx hb dX9_ofProcedure_35 (by decide) ?_
  exact wEnd S hr hlocks hP hD hS (Nat.le_of_ble_eq_true rfl) (Nat.le_of_ble_eq_true rfl) dX9_ofProcedure_43 rfl

set_option maxHeartbeats 8000000 in
set_option maxRecDepth 100000 in
theorem c_X9_isIn_27 (l : Launch) (D : va_G) (cI cZ cJ : ClassId) (o : Nat) (q : Nat → Nat) : Met l yX9_isIn (uW yX9_isIn cX9_isIn 3 (some .boolean)) ({ frames := 0, cells := 0, slots := 0, locals := 0 }) (va_Pc [.int 5, .int 0, .int 7] (pS D (tyL cI cZ cJ) (mW o 0 q cI cZ))) (QcRead (1)) 0 0 (fun _ => False) := by
  refine rdStart (lv := [(0, .int 5), (1, .int 0), (2, .int 7)]) (by decide) (Nat.le_of_ble_eq_true rfl) rfl ?_
  intro p e s m args below meth c ls S hr hlocks hl hP hK
  have hx := S.1
  have hb := S.2.1
  refine lv_iload_n hx hb dX9_isIn_0 rfl (lv_at hl 0 rfl) ?_
  refine lv_iload_n hx hb dX9_isIn_1 rfl (lv_at hl 1 rfl) ?_
  refine lv_icmp_lt (tgt := 14) hx hb dX9_isIn_2 (by decide) (fun c => absurd c (by decide)) (fun _ => ?_)
  refine lv_iload_n hx hb dX9_isIn_5 rfl (lv_at hl 0 rfl) ?_
  refine lv_iload_n hx hb dX9_isIn_6 rfl (lv_at hl 2 rfl) ?_
  refine lv_icmp_gt (tgt := 14) hx hb dX9_isIn_7 (by decide) (fun c => absurd c (by decide)) (fun _ => ?_)
  refine lv_iconst (v := 1) hx hb dX9_isIn_10 (by decide) ?_
  refine lv_goto (tgt := 15) hx hb dX9_isIn_11 (by decide) ?_
  exact rdEndZ S hr hlocks dX9_isIn_15 rfl rfl

set_option maxHeartbeats 8000000 in
set_option maxRecDepth 100000 in
theorem c_X9_isHandedOn_0 (l : Launch) (D : va_G) (cI cZ cJ : ClassId) (o : Nat) (q : Nat → Nat) : Met l yX9_isHandedOn (uW yX9_isHandedOn cX9_isHandedOn 3 (some .boolean)) ({ frames := 0, cells := 0, slots := 0, locals := 0 }) (va_Pc [.ref o, .int 0] (pS D (tyL cI cZ cJ) (mW o 0 q cI cZ))) (QcRead (0)) 0 0 (fun _ => False) := by
  refine rdStart (lv := [(0, .ref o), (1, .int 0)]) (by decide) (Nat.le_of_ble_eq_true rfl) rfl ?_
  intro p e s m args below meth c ls S hr hlocks hl hP hK
  have hx := S.1
  have hb := S.2.1
  refine lv_iconst (v := 0) hx hb dX9_isHandedOn_0 (by decide) ?_
  refine lv_istore_n (lv' := [(2, .int 0), (0, .ref o), (1, .int 0)]) hx hb dX9_isHandedOn_1 rfl hl (by decide) rfl (fun ls hl => ?_)
  refine lv_iload_n hx hb dX9_isHandedOn_2 rfl (lv_at hl 0 rfl) ?_
  refine lv_aload_n hx hb dX9_isHandedOn_3 rfl (lv_at hl 1 rfl) ?_
  refine xg (ci := 9) S inX9 rfl hK hP mW_0 13 (by decide) mF_13 kw_6_160 rfl dX9_isHandedOn_4 ?_
  refine lv_icmp_ge (tgt := 77) hx hb dX9_isHandedOn_7 (by decide) (fun _ => ?_) (fun c => absurd c (by decide))
  refine lv_iconst (v := 0) hx hb dX9_isHandedOn_77 (by decide) ?_
  exact rdEndZ S hr hlocks dX9_isHandedOn_78 rfl rfl

set_option maxHeartbeats 8000000 in
set_option maxRecDepth 100000 in
theorem c_X9_ofProcedureNow_5 (l : Launch) (D : va_G) (cI cZ cJ : ClassId) (o : Nat) (q : Nat → Nat) : Met l yX9_ofProcedureNow (uW yX9_ofProcedureNow cX9_ofProcedureNow 3 (some .int)) ({ frames := 1, cells := 0, slots := 0, locals := 22 }) (va_Pc [.ref o, .int 0, .int 5] (pS D (tyL cI cZ cJ) (mW o 0 q cI cZ))) (QcRead (0)) 0 0 (fun _ => False) := by
  refine rdStart (lv := [(0, .ref o), (1, .int 0), (2, .int 5)]) (by decide) (Nat.le_of_ble_eq_true rfl) rfl ?_
  intro p e s m args below meth c ls S hr hlocks hl hP hK
  have hx := S.1
  have hb := S.2.1
  refine lv_iload_n hx hb dX9_ofProcedureNow_0 rfl (lv_at hl 2 rfl) ?_
  refine lv_tableIn (off := 77) (tgt := 78) hx hb dX9_ofProcedureNow_1 (by decide) (by decide) (by decide) (by decide) ?_
  refine lv_aload_n hx hb dX9_ofProcedureNow_78 rfl (lv_at hl 0 rfl) ?_
  refine lv_iload_n hx hb dX9_ofProcedureNow_79 rfl (lv_at hl 1 rfl) ?_
  refine rdV (As := [.int 0]) (ci := 9) S (c_X9_isHandedOn_0 l D cI cZ cJ o q) mi_X9_isHandedOn kw_7_225 ⟨rfl, rfl⟩ ⟨Nat.le_of_ble_eq_true rfl, Nat.le_of_ble_eq_true rfl⟩ hP hK mW_0 rfl rfl hl.1 (Nat.le_of_ble_eq_true rfl) ⟨Nat.le_of_ble_eq_true rfl, Nat.le_of_ble_eq_true rfl⟩ dX9_ofProcedureNow_80 ?_
  refine lv_if_eq (tgt := 90) hx hb dX9_ofProcedureNow_83 (by decide) (fun _ => ?_) (fun c => absurd c (by decide))
  refine lv_iconst (v := 0) hx hb dX9_ofProcedureNow_90 (by decide) ?_
  exact rdEnd S hr hlocks dX9_ofProcedureNow_91 rfl

set_option maxHeartbeats 8000000 in
set_option maxRecDepth 100000 in
theorem m_ofProcedure_ok5 (l : Launch) (D : va_G) (cI cZ cJ : ClassId) (o : Nat) (q : Nat → Nat) (sz : Nat) : Met l yX9_ofProcedure (uW yX9_ofProcedure cX9_ofProcedure 3 (some .int)) ({ frames := 2, cells := 0, slots := 0, locals := 44 }) (va_Pc [.ref o, .int 0, .int 5] (wS D (tyL cI cZ cJ) (mW o 0 q cI cZ) sz)) (wQi (0) D (mW o 0 q cI cZ) (va_A (mW o 0 q cI cZ) sz)) 0 0 (va_A (mW o 0 q cI cZ) sz) := by
  refine wStart (lv := [(0, .ref o), (1, .int 0), (2, .int 5)]) (Qc := fun A => wQi (0) D (mW o 0 q cI cZ) A) (by decide) (Nat.le_of_ble_eq_true rfl) rfl ?_
  intro p e s m args below meth c ls A H S hr hlocks hnm hl hK hP hD hS hA
  have hx := S.1
  have hb := S.2.1
  refine lv_aload_n hx hb dX9_ofProcedure_0 rfl (lv_at hl 0 rfl) ?_
  refine lv_iconst (v := 0) hx hb dX9_ofProcedure_1 (by decide) ?_
  refine xp (ci := 9) (v := .int 0) S inX9 tyX9 tyX9_ok nmX9 rfl hK hP hD hS mW_0 0 (by decide) kw_6_147 rfl rfl rfl rfl (Nat.le_of_ble_eq_true rfl) dX9_ofProcedure_2 (fun H locs hP hD hS => ?_)
  have hP : va_P D vwCl (mW o 0 q cI cZ) H := hP
  have hD : va_D A (mW o 0 q cI cZ) := hD
  refine lv_aload_n hx hb dX9_ofProcedure_5 rfl (lv_at hl 0 rfl) ?_
  refine lv_iload_n hx hb dX9_ofProcedure_6 rfl (lv_at hl 1 rfl) ?_
  refine rdV (As := [.int 0]) (ci := 9) S (c_X9_isProcedure_1 l D cI cZ cJ o q) mi_X9_isProcedure kw_7_96 ⟨rfl, rfl⟩ ⟨Nat.le_of_ble_eq_true rfl, Nat.le_of_ble_eq_true rfl⟩ hP hK mW_0 rfl rfl hl.1 (Nat.le_of_ble_eq_true rfl) ⟨Nat.le_of_ble_eq_true rfl, Nat.le_of_ble_eq_true rfl⟩ dX9_ofProcedure_7 ?_
  refine lv_if_ne (tgt := 19) hx hb dX9_ofProcedure_10 (by decide) (fun _ => ?_) (fun c => absurd c (by decide))
  refine lv_iload_n hx hb dX9_ofProcedure_19 rfl (lv_at hl 2 rfl) ?_
  refine lv_iconst (v := 0) hx hb dX9_ofProcedure_20 (by decide) ?_
  refine lv_bipush (v := 7) hx hb dX9_ofProcedure_21 (by decide) ?_
  refine rdS (As := [.int 5, .int 0, .int 7]) S (c_X9_isIn_27 l D cI cZ cJ o q) ms_X9_isIn kw_7_100 ⟨rfl, rfl⟩ ⟨Nat.le_of_ble_eq_true rfl, Nat.le_of_ble_eq_true rfl⟩ hP hK hl.1 (Nat.le_of_ble_eq_true rfl) ⟨Nat.le_of_ble_eq_true rfl, Nat.le_of_ble_eq_true rfl⟩ dX9_ofProcedure_23 ?_
  refine lv_if_eq (tgt := 38) hx hb dX9_ofProcedure_26 (by decide) (fun c => absurd c (by decide)) (fun _ => ?_)
  refine lv_aload_n hx hb dX9_ofProcedure_29 rfl (lv_at hl 0 rfl) ?_
  refine lv_iload_n hx hb dX9_ofProcedure_30 rfl (lv_at hl 1 rfl) ?_
  refine lv_iload_n hx hb dX9_ofProcedure_31 rfl (lv_at hl 2 rfl) ?_
  refine rdV (As := [.int 0, .int 5]) (ci := 9) S (c_X9_ofProcedureNow_5 l D cI cZ cJ o q) mi_X9_ofProcedureNow kw_7_202 ⟨rfl, rfl⟩ ⟨Nat.le_of_ble_eq_true rfl, Nat.le_of_ble_eq_true rfl⟩ hP hK mW_0 rfl rfl hl.1 (Nat.le_of_ble_eq_true rfl) ⟨Nat.le_of_ble_eq_true rfl, Nat.le_of_ble_eq_true rfl⟩ dX9_ofProcedure_32 ?_
  refine lv_goto (tgt := 43) hx hb dX9_ofProcedure_35 (by decide) ?_
  exact wEnd S hr hlocks hP hD hS (Nat.le_of_ble_eq_true rfl) (Nat.le_of_ble_eq_true rfl) dX9_ofProcedure_43 rfl

set_option maxHeartbeats 8000000 in
set_option maxRecDepth 100000 in
theorem c_X9_isIn_28 (l : Launch) (D : va_G) (cI cZ cJ : ClassId) (o : Nat) (q : Nat → Nat) : Met l yX9_isIn (uW yX9_isIn cX9_isIn 3 (some .boolean)) ({ frames := 0, cells := 0, slots := 0, locals := 0 }) (va_Pc [.int 6, .int 0, .int 7] (pS D (tyL cI cZ cJ) (mW o 0 q cI cZ))) (QcRead (1)) 0 0 (fun _ => False) := by
  refine rdStart (lv := [(0, .int 6), (1, .int 0), (2, .int 7)]) (by decide) (Nat.le_of_ble_eq_true rfl) rfl ?_
  intro p e s m args below meth c ls S hr hlocks hl hP hK
  have hx := S.1
  have hb := S.2.1
  refine lv_iload_n hx hb dX9_isIn_0 rfl (lv_at hl 0 rfl) ?_
  refine lv_iload_n hx hb dX9_isIn_1 rfl (lv_at hl 1 rfl) ?_
  refine lv_icmp_lt (tgt := 14) hx hb dX9_isIn_2 (by decide) (fun c => absurd c (by decide)) (fun _ => ?_)
  refine lv_iload_n hx hb dX9_isIn_5 rfl (lv_at hl 0 rfl) ?_
  refine lv_iload_n hx hb dX9_isIn_6 rfl (lv_at hl 2 rfl) ?_
  refine lv_icmp_gt (tgt := 14) hx hb dX9_isIn_7 (by decide) (fun c => absurd c (by decide)) (fun _ => ?_)
  refine lv_iconst (v := 1) hx hb dX9_isIn_10 (by decide) ?_
  refine lv_goto (tgt := 15) hx hb dX9_isIn_11 (by decide) ?_
  exact rdEndZ S hr hlocks dX9_isIn_15 rfl rfl

set_option maxHeartbeats 8000000 in
set_option maxRecDepth 100000 in
theorem c_X9_ofProcedureNow_6 (l : Launch) (D : va_G) (cI cZ cJ : ClassId) (o : Nat) (q : Nat → Nat) : Met l yX9_ofProcedureNow (uW yX9_ofProcedureNow cX9_ofProcedureNow 3 (some .int)) ({ frames := 0, cells := 0, slots := 0, locals := 0 }) (va_Pc [.ref o, .int 0, .int 6] (pS D (tyL cI cZ cJ) (mW o 0 q cI cZ))) (QcRead ((-1))) 0 0 (fun _ => False) := by
  refine rdStart (lv := [(0, .ref o), (1, .int 0), (2, .int 6)]) (by decide) (Nat.le_of_ble_eq_true rfl) rfl ?_
  intro p e s m args below meth c ls S hr hlocks hl hP hK
  have hx := S.1
  have hb := S.2.1
  refine lv_iload_n hx hb dX9_ofProcedureNow_0 rfl (lv_at hl 2 rfl) ?_
  refine lv_tableIn (off := 91) (tgt := 92) hx hb dX9_ofProcedureNow_1 (by decide) (by decide) (by decide) (by decide) ?_
  refine lv_aload_n hx hb dX9_ofProcedureNow_92 rfl (lv_at hl 0 rfl) ?_
  refine xg (ci := 9) S inX9 rfl hK hP mW_0 7 (by decide) mF_7 kw_6_154 rfl dX9_ofProcedureNow_93 ?_
  refine lv_iload_n hx hb dX9_ofProcedureNow_96 rfl (lv_at hl 1 rfl) ?_
  refine xiald (t0 := 0) (v := (-1)) S hK hP mW_6 rfl (vin rfl) rfl dX9_ofProcedureNow_97 ?_
  exact rdEnd S hr hlocks dX9_ofProcedureNow_98 rfl

set_option maxHeartbeats 8000000 in
set_option maxRecDepth 100000 in
theorem m_ofProcedure_ok6 (l : Launch) (D : va_G) (cI cZ cJ : ClassId) (o : Nat) (q : Nat → Nat) (sz : Nat) : Met l yX9_ofProcedure (uW yX9_ofProcedure cX9_ofProcedure 3 (some .int)) ({ frames := 2, cells := 0, slots := 0, locals := 43 }) (va_Pc [.ref o, .int 0, .int 6] (wS D (tyL cI cZ cJ) (mW o 0 q cI cZ) sz)) (wQi ((-1)) D (mW o 0 q cI cZ) (va_A (mW o 0 q cI cZ) sz)) 0 0 (va_A (mW o 0 q cI cZ) sz) := by
  refine wStart (lv := [(0, .ref o), (1, .int 0), (2, .int 6)]) (Qc := fun A => wQi ((-1)) D (mW o 0 q cI cZ) A) (by decide) (Nat.le_of_ble_eq_true rfl) rfl ?_
  intro p e s m args below meth c ls A H S hr hlocks hnm hl hK hP hD hS hA
  have hx := S.1
  have hb := S.2.1
  refine lv_aload_n hx hb dX9_ofProcedure_0 rfl (lv_at hl 0 rfl) ?_
  refine lv_iconst (v := 0) hx hb dX9_ofProcedure_1 (by decide) ?_
  refine xp (ci := 9) (v := .int 0) S inX9 tyX9 tyX9_ok nmX9 rfl hK hP hD hS mW_0 0 (by decide) kw_6_147 rfl rfl rfl rfl (Nat.le_of_ble_eq_true rfl) dX9_ofProcedure_2 (fun H locs hP hD hS => ?_)
  have hP : va_P D vwCl (mW o 0 q cI cZ) H := hP
  have hD : va_D A (mW o 0 q cI cZ) := hD
  refine lv_aload_n hx hb dX9_ofProcedure_5 rfl (lv_at hl 0 rfl) ?_
  refine lv_iload_n hx hb dX9_ofProcedure_6 rfl (lv_at hl 1 rfl) ?_
  refine rdV (As := [.int 0]) (ci := 9) S (c_X9_isProcedure_1 l D cI cZ cJ o q) mi_X9_isProcedure kw_7_96 ⟨rfl, rfl⟩ ⟨Nat.le_of_ble_eq_true rfl, Nat.le_of_ble_eq_true rfl⟩ hP hK mW_0 rfl rfl hl.1 (Nat.le_of_ble_eq_true rfl) ⟨Nat.le_of_ble_eq_true rfl, Nat.le_of_ble_eq_true rfl⟩ dX9_ofProcedure_7 ?_
  refine lv_if_ne (tgt := 19) hx hb dX9_ofProcedure_10 (by decide) (fun _ => ?_) (fun c => absurd c (by decide))
  refine lv_iload_n hx hb dX9_ofProcedure_19 rfl (lv_at hl 2 rfl) ?_
  refine lv_iconst (v := 0) hx hb dX9_ofProcedure_20 (by decide) ?_
  refine lv_bipush (v := 7) hx hb dX9_ofProcedure_21 (by decide) ?_
  refine rdS (As := [.int 6, .int 0, .int 7]) S (c_X9_isIn_28 l D cI cZ cJ o q) ms_X9_isIn kw_7_100 ⟨rfl, rfl⟩ ⟨Nat.le_of_ble_eq_true rfl, Nat.le_of_ble_eq_true rfl⟩ hP hK hl.1 (Nat.le_of_ble_eq_true rfl) ⟨Nat.le_of_ble_eq_true rfl, Nat.le_of_ble_eq_true rfl⟩ dX9_ofProcedure_23 ?_
  refine lv_if_eq (tgt := 38) hx hb dX9_ofProcedure_26 (by decide) (fun c => absurd c (by decide)) (fun _ => ?_)
  refine lv_aload_n hx hb dX9_ofProcedure_29 rfl (lv_at hl 0 rfl) ?_
  refine lv_iload_n hx hb dX9_ofProcedure_30 rfl (lv_at hl 1 rfl) ?_
  refine lv_iload_n hx hb dX9_ofProcedure_31 rfl (lv_at hl 2 rfl) ?_
  refine rdV (As := [.int 0, .int 6]) (ci := 9) S (c_X9_ofProcedureNow_6 l D cI cZ cJ o q) mi_X9_ofProcedureNow kw_7_202 ⟨rfl, rfl⟩ ⟨Nat.le_of_ble_eq_true rfl, Nat.le_of_ble_eq_true rfl⟩ hP hK mW_0 rfl rfl hl.1 (Nat.le_of_ble_eq_true rfl) ⟨Nat.le_of_ble_eq_true rfl, Nat.le_of_ble_eq_true rfl⟩ dX9_ofProcedure_32 ?_
  refine lv_goto (tgt := 43) hx hb dX9_ofProcedure_35 (by decide) ?_
  exact wEnd S hr hlocks hP hD hS (Nat.le_of_ble_eq_true rfl) (Nat.le_of_ble_eq_true rfl) dX9_ofProcedure_43 rfl

set_option maxHeartbeats 8000000 in
set_option maxRecDepth 100000 in
theorem c_X9_isIn_29 (l : Launch) (D : va_G) (cI cZ cJ : ClassId) (o : Nat) (q : Nat → Nat) : Met l yX9_isIn (uW yX9_isIn cX9_isIn 3 (some .boolean)) ({ frames := 0, cells := 0, slots := 0, locals := 0 }) (va_Pc [.int 7, .int 0, .int 7] (pS D (tyL cI cZ cJ) (mW o 0 q cI cZ))) (QcRead (1)) 0 0 (fun _ => False) := by
  refine rdStart (lv := [(0, .int 7), (1, .int 0), (2, .int 7)]) (by decide) (Nat.le_of_ble_eq_true rfl) rfl ?_
  intro p e s m args below meth c ls S hr hlocks hl hP hK
  have hx := S.1
  have hb := S.2.1
  refine lv_iload_n hx hb dX9_isIn_0 rfl (lv_at hl 0 rfl) ?_
  refine lv_iload_n hx hb dX9_isIn_1 rfl (lv_at hl 1 rfl) ?_
  refine lv_icmp_lt (tgt := 14) hx hb dX9_isIn_2 (by decide) (fun c => absurd c (by decide)) (fun _ => ?_)
  refine lv_iload_n hx hb dX9_isIn_5 rfl (lv_at hl 0 rfl) ?_
  refine lv_iload_n hx hb dX9_isIn_6 rfl (lv_at hl 2 rfl) ?_
  refine lv_icmp_gt (tgt := 14) hx hb dX9_isIn_7 (by decide) (fun c => absurd c (by decide)) (fun _ => ?_)
  refine lv_iconst (v := 1) hx hb dX9_isIn_10 (by decide) ?_
  refine lv_goto (tgt := 15) hx hb dX9_isIn_11 (by decide) ?_
  exact rdEndZ S hr hlocks dX9_isIn_15 rfl rfl

set_option maxHeartbeats 8000000 in
set_option maxRecDepth 100000 in
theorem c_X9_lookFor_0 (l : Launch) (D : va_G) (cI cZ cJ : ClassId) (o : Nat) (q : Nat → Nat) (sz : Nat) : Met l yX9_lookFor (uW yX9_lookFor cX9_lookFor 10 (some .int)) ({ frames := 0, cells := 1, slots := 111, locals := 0 }) (va_Pc [.ref o, .int (-1), .int 0] (wS D (tyL cI cZ cJ) (mW o 0 q cI cZ) sz)) (wQi (1) D (mW o 0 q cI cZ) (va_A (mW o 0 q cI cZ) sz)) 1 111 (va_A (mW o 0 q cI cZ) sz) := by
  refine wStart (lv := [(0, .ref o), (1, .int (-1)), (2, .int 0)]) (Qc := fun A => wQi (1) D (mW o 0 q cI cZ) A) (by decide) (Nat.le_of_ble_eq_true rfl) rfl ?_
  intro p e s m args below meth c ls A H S hr hlocks hnm hl hK hP hD hS hA
  have hx := S.1
  have hb := S.2.1
  refine lv_iconst (v := 0) hx hb dX9_lookFor_0 (by decide) ?_
  refine lv_istore_n (lv' := [(3, .int 0), (0, .ref o), (1, .int (-1)), (2, .int 0)]) hx hb dX9_lookFor_1 rfl hl (by decide) rfl (fun ls hl => ?_)
  refine lv_bipush (v := 111) hx hb dX9_lookFor_2 (by decide) ?_
  refine xnewa (ty := .int) (t0 := 0) (N := 111) (a0 := (111, .inl (fun _ => 0))) S kw_1_100 rfl (Or.inl rfl) hK hP hD hS hA rfl (fun _ => rfl) (by decide) (by decide) (by decide) (Nat.le_of_ble_eq_true rfl) (Nat.le_of_ble_eq_true rfl) dX9_lookFor_4 (fun n1 H hP hD hS => ?_)
  refine lv_astore (lv' := [(4, .ref n1), (3, .int 0), (0, .ref o), (1, .int (-1)), (2, .int 0)]) hx hb dX9_lookFor_6 hl (by decide) rfl (fun ls hl => ?_)
  refine lv_iconst (v := 0) hx hb dX9_lookFor_8 (by decide) ?_
  refine lv_istore (lv' := [(5, .int 0), (4, .ref n1), (3, .int 0), (0, .ref o), (1, .int (-1)), (2, .int 0)]) hx hb dX9_lookFor_9 hl (by decide) rfl (fun ls hl => ?_)
  refine lv_iload hx hb dX9_lookFor_11 (lv_at hl 0 rfl) ?_
  refine lv_aload_n hx hb dX9_lookFor_13 rfl (lv_at hl 3 rfl) ?_
  refine xg (ci := 9) S inX9 rfl hK hP (q0 := 0) rfl 1 (by decide) mF_1 kw_6_148 rfl dX9_lookFor_14 ?_
  refine lv_icmp_ge (tgt := 200) hx hb dX9_lookFor_17 (by decide) (fun c => absurd c (by decide)) (fun _ => ?_)
  refine lv_aload_n hx hb dX9_lookFor_20 rfl (lv_at hl 3 rfl) ?_
  refine xg (ci := 9) S inX9 rfl hK hP (q0 := 0) rfl 7 (by decide) mF_7 kw_6_154 rfl dX9_lookFor_21 ?_
  refine lv_iload hx hb dX9_lookFor_24 (lv_at hl 0 rfl) ?_
  refine xiald (t0 := 0) (v := (-1)) S hK hP (q0 := 6) rfl rfl (vin rfl) rfl dX9_lookFor_26 ?_
  refine lv_iconst (v := (-1)) hx hb dX9_lookFor_27 (by decide) ?_
  refine lv_icmp_ne (tgt := 63) hx hb dX9_lookFor_28 (by decide) (fun c => absurd c (by decide)) (fun _ => ?_)
  refine lv_iload_n hx hb dX9_lookFor_31 rfl (lv_at hl 2 rfl) ?_
  refine lv_iload_n hx hb dX9_lookFor_32 rfl (lv_at hl 4 rfl) ?_
  refine lv_icmp_ne (tgt := 57) hx hb dX9_lookFor_33 (by decide) (fun _ => ?_) (fun c => absurd c (by decide))
  refine lv_iinc (v := 1) (lv' := [(3, .int 1), (5, .int 0), (4, .ref n1), (0, .ref o), (1, .int (-1)), (2, .int 0)]) hx hb dX9_lookFor_57 hl (k := 2) rfl (by decide) (by decide) rfl (fun ls hl => ?_)
  refine lv_goto (tgt := 194) hx hb dX9_lookFor_60 (by decide) ?_
  refine lv_iinc (v := 1) (lv' := [(5, .int 1), (3, .int 1), (4, .ref n1), (0, .ref o), (1, .int (-1)), (2, .int 0)]) hx hb dX9_lookFor_194 hl (k := 1) rfl (by decide) (by decide) rfl (fun ls hl => ?_)
  refine lv_goto (tgt := 11) hx hb dX9_lookFor_197 (by decide) ?_
  refine lv_iload hx hb dX9_lookFor_11 (lv_at hl 0 rfl) ?_
  refine lv_aload_n hx hb dX9_lookFor_13 rfl (lv_at hl 3 rfl) ?_
  refine xg (ci := 9) S inX9 rfl hK hP (q0 := 0) rfl 1 (by decide) mF_1 kw_6_148 rfl dX9_lookFor_14 ?_
  refine lv_icmp_ge (tgt := 200) hx hb dX9_lookFor_17 (by decide) (fun _ => ?_) (fun c => absurd c (by decide))
  refine lv_iload_n hx hb dX9_lookFor_200 rfl (lv_at hl 1 rfl) ?_
  have hP := va_Pl (ws := (mW o 0 q cI cZ)) (x := [(n1, .inl (cI, 111, .inl (fun _ => 0)))]) hP
  have hD := va_Dl (ws := (mW o 0 q cI cZ)) (x := [(n1, .inl (cI, 111, .inl (fun _ => 0)))]) hD
  exact wEnd S hr hlocks hP hD hS (Nat.le_of_ble_eq_true rfl) (Nat.le_of_ble_eq_true rfl) dX9_lookFor_201 rfl
