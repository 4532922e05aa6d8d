set_option maxHeartbeats 8000000 in
set_option maxRecDepth 100000 in
theorem c_X9_hiddenNow_8 (l : Launch) (D : va_G) (cI cZ cJ : ClassId) (o : Nat) (q : Nat → Nat) : Met l yX9_hiddenNow (uW yX9_hiddenNow cX9_hiddenNow 6 (some .int)) ({ frames := 0, cells := 0, slots := 0, locals := 0 }) (va_Pc [.ref o, .int 0, .int 7] (pS D (tyL cI cZ cJ) (mW o 0 q cI cZ))) (QcRead (0)) 0 0 (fun _ => False) := by
  refine rdStart (lv := [(0, .ref o), (1, .int 0), (2, .int 7)]) (by decide) (Nat.le_of_ble_eq_true rfl) rfl ?_
  intro p e s m args below meth c ls S hr hlocks hl hP hK
  have hx := S.1
  have hb := S.2.1
  refine lv_aload_n hx hb dX9_hiddenNow_0 rfl (lv_at hl 0 rfl) ?_
  refine xg (ci := 9) S inX9 rfl hK hP mW_0 8 (by decide) mF_8 kw_6_155 rfl dX9_hiddenNow_1 ?_
  refine lv_iload_n hx hb dX9_hiddenNow_4 rfl (lv_at hl 1 rfl) ?_
  refine lv_bipush (v := 16) hx hb dX9_hiddenNow_5 (by decide) ?_
  refine ximul (v := 0) S dX9_hiddenNow_7 (by decide) ?_
  refine lv_iload_n hx hb dX9_hiddenNow_8 rfl (lv_at hl 2 rfl) ?_
  refine xiadd (v := 7) S dX9_hiddenNow_9 (by decide) ?_
  refine xiald (t0 := 0) (v := (-1)) S hK hP mW_7 rfl (vin rfl) rfl dX9_hiddenNow_10 ?_
  refine lv_iconst (v := (-1)) hx hb dX9_hiddenNow_11 (by decide) ?_
  refine lv_icmp_eq (tgt := 17) hx hb dX9_hiddenNow_12 (by decide) (fun _ => ?_) (fun c => absurd c (by decide))
  refine lv_iconst (v := 0) hx hb dX9_hiddenNow_17 (by decide) ?_
  refine lv_istore_n (lv' := [(3, .int 0), (0, .ref o), (1, .int 0), (2, .int 7)]) hx hb dX9_hiddenNow_18 rfl hl (by decide) rfl (fun ls hl => ?_)
  refine lv_iconst (v := 0) hx hb dX9_hiddenNow_19 (by decide) ?_
  refine lv_istore (lv' := [(4, .int 0), (3, .int 0), (0, .ref o), (1, .int 0), (2, .int 7)]) hx hb dX9_hiddenNow_20 hl (by decide) rfl (fun ls hl => ?_)
  refine lv_iload hx hb dX9_hiddenNow_22 (lv_at hl 0 rfl) ?_
  refine lv_aload_n hx hb dX9_hiddenNow_24 rfl (lv_at hl 2 rfl) ?_
  refine xg (ci := 9) S inX9 rfl hK hP mW_0 13 (by decide) mF_13 kw_6_160 rfl dX9_hiddenNow_25 ?_
  refine lv_icmp_ge (tgt := 135) hx hb dX9_hiddenNow_28 (by decide) (fun _ => ?_) (fun c => absurd c (by decide))
  refine lv_iload_n hx hb dX9_hiddenNow_135 rfl (lv_at hl 1 rfl) ?_
  exact rdEnd S hr hlocks dX9_hiddenNow_136 rfl

set_option maxHeartbeats 8000000 in
set_option maxRecDepth 100000 in
theorem m_digest_1 (l : Launch) (D : va_G) (cI cZ cJ : ClassId) (o : Nat) (q : Nat → Nat) (sz : Nat) : Met l yX9_digest (uW yX9_digest cX9_digest 9 (some .long)) ({ frames := 3, cells := 7, slots := 777, locals := 72 }) (va_Pc [.ref o] (wS D (tyL cI cZ cJ) (mW o 0 q cI cZ) sz)) (wQl (7471511100537308759) D (mW o 0 q cI cZ) (va_A (mW o 0 q cI cZ) sz)) 7 777 (va_A (mW o 0 q cI cZ) sz) := by
  refine wStart (lv := [(0, .ref o)]) (Qc := fun A => wQl (7471511100537308759) D (mW o 0 q cI cZ) A) (by decide) (Nat.le_of_ble_eq_true rfl) rfl ?_
  intro p e s m args below meth c ls A H S hr hlocks hnm hl hK hP hD hS hA
  have hx := S.1
  have hb := S.2.1
  refine lv_aload_n hx hb dX9_digest_0 rfl (lv_at hl 0 rfl) ?_
  refine lv_iconst (v := 0) hx hb dX9_digest_1 (by decide) ?_
  refine xp (ci := 9) (v := .int 0) S inX9 tyX9 tyX9_ok nmX9 rfl hK hP hD hS mW_0 0 (by decide) kw_6_147 rfl rfl rfl rfl (Nat.le_of_ble_eq_true rfl) dX9_digest_2 (fun H locs hP hD hS => ?_)
  have hP : va_P D vwCl (mW o 0 q cI cZ) H := hP
  have hD : va_D A (mW o 0 q cI cZ) := hD
  refine lv_ldc2 hx hb S.2.2.2.1 (S.2.2.2.2 _ kw_9_55) dX9_digest_5 ?_
  refine lv_lstore_n (lv' := [(1, .long 58126), (0, .ref o)]) hx hb dX9_digest_8 rfl hl (by decide) rfl (fun ls hl => ?_)
  refine lv_aload_n hx hb dX9_digest_9 rfl (lv_at hl 1 rfl) ?_
  refine wrV (As := []) (ci := 9) S (c_X9_faults_0 l D cI cZ cJ o q H.size) mi_X9_faults kw_7_229 rfl rfl ⟨Nat.le_of_ble_eq_true rfl, Nat.le_of_ble_eq_true rfl⟩ hP hD hK hS hA mW_0 rfl rfl hl.1 (Nat.le_of_ble_eq_true rfl) ⟨Nat.le_of_ble_eq_true rfl, Nat.le_of_ble_eq_true rfl⟩ dX9_digest_10 (fun H locs hz hP hD hS => ?_)
  refine lv_istore_n (lv' := [(3, .int 1), (1, .long 58126), (0, .ref o)]) hx hb dX9_digest_13 rfl hl (by decide) rfl (fun ls hl => ?_)
  refine lv_iconst (v := 0) hx hb dX9_digest_14 (by decide) ?_
  refine lv_istore (lv' := [(4, .int 0), (3, .int 1), (1, .long 58126), (0, .ref o)]) hx hb dX9_digest_15 hl (by decide) rfl (fun ls hl => ?_)
  refine lv_iload hx hb dX9_digest_17 (lv_at hl 0 rfl) ?_
  refine lv_bipush (v := 11) hx hb dX9_digest_19 (by decide) ?_
  refine lv_icmp_ge (tgt := 44) hx hb dX9_digest_21 (by decide) (fun c => absurd c (by decide)) (fun _ => ?_)
  refine lv_lload_n hx hb dX9_digest_24 rfl (lv_at hl 2 rfl) ?_
  refine lv_ldc2 hx hb S.2.2.2.1 (S.2.2.2.2 _ kw_9_56) dX9_digest_25 ?_
  refine xlmul (v := 1801906) S dX9_digest_28 (by decide) ?_
  refine lv_aload_n hx hb dX9_digest_29 rfl (lv_at hl 3 rfl) ?_
  refine lv_iload hx hb dX9_digest_30 (lv_at hl 0 rfl) ?_
  refine rdV (As := [.int 0]) (ci := 9) S (c_X9_manyNow_0 l D cI cZ cJ o q) mi_X9_manyNow kw_9_27 ⟨rfl, rfl⟩ ⟨Nat.le_of_ble_eq_true rfl, Nat.le_of_ble_eq_true rfl⟩ hP hK mW_0 rfl rfl hl.1 (Nat.le_of_ble_eq_true rfl) ⟨Nat.le_of_ble_eq_true rfl, Nat.le_of_ble_eq_true rfl⟩ dX9_digest_32 ?_
  refine lv_i2l (v := 1) hx hb dX9_digest_35 (by decide) ?_
  refine xladd (v := 1801907) S dX9_digest_36 (by decide) ?_
  refine lv_lstore_n (lv' := [(1, .long 1801907), (4, .int 0), (3, .int 1), (0, .ref o)]) hx hb dX9_digest_37 rfl hl (by decide) rfl (fun ls hl => ?_)
  refine lv_iinc (v := 1) (lv' := [(4, .int 1), (1, .long 1801907), (3, .int 1), (0, .ref o)]) hx hb dX9_digest_38 hl (k := 1) rfl (by decide) (by decide) rfl (fun ls hl => ?_)
  refine lv_goto (tgt := 17) hx hb dX9_digest_41 (by decide) ?_
  refine lv_iload hx hb dX9_digest_17 (lv_at hl 0 rfl) ?_
  refine lv_bipush (v := 11) hx hb dX9_digest_19 (by decide) ?_
  refine lv_icmp_ge (tgt := 44) hx hb dX9_digest_21 (by decide) (fun c => absurd c (by decide)) (fun _ => ?_)
  refine lv_lload_n hx hb dX9_digest_24 rfl (lv_at hl 1 rfl) ?_
  refine lv_ldc2 hx hb S.2.2.2.1 (S.2.2.2.2 _ kw_9_56) dX9_digest_25 ?_
  refine xlmul (v := 55859117) S dX9_digest_28 (by decide) ?_
  refine lv_aload_n hx hb dX9_digest_29 rfl (lv_at hl 3 rfl) ?_
  refine lv_iload hx hb dX9_digest_30 (lv_at hl 0 rfl) ?_
  refine rdV (As := [.int 1]) (ci := 9) S (c_X9_manyNow_1 l D cI cZ cJ o q) mi_X9_manyNow kw_9_27 ⟨rfl, rfl⟩ ⟨Nat.le_of_ble_eq_true rfl, Nat.le_of_ble_eq_true rfl⟩ hP hK mW_0 rfl rfl hl.1 (Nat.le_of_ble_eq_true rfl) ⟨Nat.le_of_ble_eq_true rfl, Nat.le_of_ble_eq_true rfl⟩ dX9_digest_32 ?_
  refine lv_i2l (v := 0) hx hb dX9_digest_35 (by decide) ?_
  refine xladd (v := 55859117) S dX9_digest_36 (by decide) ?_
  refine lv_lstore_n (lv' := [(1, .long 55859117), (4, .int 1), (3, .int 1), (0, .ref o)]) hx hb dX9_digest_37 rfl hl (by decide) rfl (fun ls hl => ?_)
  refine lv_iinc (v := 2) (lv' := [(4, .int 2), (1, .long 55859117), (3, .int 1), (0, .ref o)]) hx hb dX9_digest_38 hl (k := 1) rfl (by decide) (by decide) rfl (fun ls hl => ?_)
  refine lv_goto (tgt := 17) hx hb dX9_digest_41 (by decide) ?_
  refine lv_iload hx hb dX9_digest_17 (lv_at hl 0 rfl) ?_
  refine lv_bipush (v := 11) hx hb dX9_digest_19 (by decide) ?_
  refine lv_icmp_ge (tgt := 44) hx hb dX9_digest_21 (by decide) (fun c => absurd c (by decide)) (fun _ => ?_)
  refine lv_lload_n hx hb dX9_digest_24 rfl (lv_at hl 1 rfl) ?_
  refine lv_ldc2 hx hb S.2.2.2.1 (S.2.2.2.2 _ kw_9_56) dX9_digest_25 ?_
  refine xlmul (v := 1731632627) S dX9_digest_28 (by decide) ?_
  refine lv_aload_n hx hb dX9_digest_29 rfl (lv_at hl 3 rfl) ?_
  refine lv_iload hx hb dX9_digest_30 (lv_at hl 0 rfl) ?_
  refine rdV (As := [.int 2]) (ci := 9) S (c_X9_manyNow_2 l D cI cZ cJ o q) mi_X9_manyNow kw_9_27 ⟨rfl, rfl⟩ ⟨Nat.le_of_ble_eq_true rfl, Nat.le_of_ble_eq_true rfl⟩ hP hK mW_0 rfl rfl hl.1 (Nat.le_of_ble_eq_true rfl) ⟨Nat.le_of_ble_eq_true rfl, Nat.le_of_ble_eq_true rfl⟩ dX9_digest_32 ?_
  refine lv_i2l (v := 0) hx hb dX9_digest_35 (by decide) ?_
  refine xladd (v := 1731632627) S dX9_digest_36 (by decide) ?_
  refine lv_lstore_n (lv' := [(1, .long 1731632627), (4, .int 2), (3, .int 1), (0, .ref o)]) hx hb dX9_digest_37 rfl hl (by decide) rfl (fun ls hl => ?_)
  refine lv_iinc (v := 3) (lv' := [(4, .int 3), (1, .long 1731632627), (3, .int 1), (0, .ref o)]) hx hb dX9_digest_38 hl (k := 1) rfl (by decide) (by decide) rfl (fun ls hl => ?_)
  refine lv_goto (tgt := 17) hx hb dX9_digest_41 (by decide) ?_
  refine lv_iload hx hb dX9_digest_17 (lv_at hl 0 rfl) ?_
  refine lv_bipush (v := 11) hx hb dX9_digest_19 (by decide) ?_
  refine lv_icmp_ge (tgt := 44) hx hb dX9_digest_21 (by decide) (fun c => absurd c (by decide)) (fun _ => ?_)
  refine lv_lload_n hx hb dX9_digest_24 rfl (lv_at hl 1 rfl) ?_
  refine lv_ldc2 hx hb S.2.2.2.1 (S.2.2.2.2 _ kw_9_56) dX9_digest_25 ?_
  refine xlmul (v := 53680611437) S dX9_digest_28 (by decide) ?_
  refine lv_aload_n hx hb dX9_digest_29 rfl (lv_at hl 3 rfl) ?_
  refine lv_iload hx hb dX9_digest_30 (lv_at hl 0 rfl) ?_
  refine wrV (As := [.int 3]) (ci := 9) S (c_X9_manyNow_3 l D cI cZ cJ o q H.size) mi_X9_manyNow kw_9_27 rfl rfl ⟨Nat.le_of_ble_eq_true rfl, Nat.le_of_ble_eq_true rfl⟩ hP hD hK hS hA mW_0 rfl rfl hl.1 (Nat.le_of_ble_eq_true rfl) ⟨Nat.le_of_ble_eq_true rfl, Nat.le_of_ble_eq_true rfl⟩ dX9_digest_32 (fun H locs hz hP hD hS => ?_)
  refine lv_i2l (v := 1) hx hb dX9_digest_35 (by decide) ?_
  refine xladd (v := 53680611438) S dX9_digest_36 (by decide) ?_
  refine lv_lstore_n (lv' := [(1, .long 53680611438), (4, .int 3), (3, .int 1), (0, .ref o)]) hx hb dX9_digest_37 rfl hl (by decide) rfl (fun ls hl => ?_)
  refine lv_iinc (v := 4) (lv' := [(4, .int 4), (1, .long 53680611438), (3, .int 1), (0, .ref o)]) hx hb dX9_digest_38 hl (k := 1) rfl (by decide) (by decide) rfl (fun ls hl => ?_)
  refine lv_goto (tgt := 17) hx hb dX9_digest_41 (by decide) ?_
  refine lv_iload hx hb dX9_digest_17 (lv_at hl 0 rfl) ?_
  refine lv_bipush (v := 11) hx hb dX9_digest_19 (by decide) ?_
  refine lv_icmp_ge (tgt := 44) hx hb dX9_digest_21 (by decide) (fun c => absurd c (by decide)) (fun _ => ?_)
  refine lv_lload_n hx hb dX9_digest_24 rfl (lv_at hl 1 rfl) ?_
  refine lv_ldc2 hx hb S.2.2.2.1 (S.2.2.2.2 _ kw_9_56) dX9_digest_25 ?_
  refine xlmul (v := 1664098954578) S dX9_digest_28 (by decide) ?_
  refine lv_aload_n hx hb dX9_digest_29 rfl (lv_at hl 3 rfl) ?_
  refine lv_iload hx hb dX9_digest_30 (lv_at hl 0 rfl) ?_
  refine rdV (As := [.int 4]) (ci := 9) S (c_X9_manyNow_4 l D cI cZ cJ o q) mi_X9_manyNow kw_9_27 ⟨rfl, rfl⟩ ⟨Nat.le_of_ble_eq_true rfl, Nat.le_of_ble_eq_true rfl⟩ hP hK mW_0 rfl rfl hl.1 (Nat.le_of_ble_eq_true rfl) ⟨Nat.le_of_ble_eq_true rfl, Nat.le_of_ble_eq_true rfl⟩ dX9_digest_32 ?_
  refine lv_i2l (v := 0) hx hb dX9_digest_35 (by decide) ?_
  refine xladd (v := 1664098954578) S dX9_digest_36 (by decide) ?_
  refine lv_lstore_n (lv' := [(1, .long 1664098954578), (4, .int 4), (3, .int 1), (0, .ref o)]) hx hb dX9_digest_37 rfl hl (by decide) rfl (fun ls hl => ?_)
  refine lv_iinc (v := 5) (lv' := [(4, .int 5), (1, .long 1664098954578), (3, .int 1), (0, .ref o)]) hx hb dX9_digest_38 hl (k := 1) rfl (by decide) (by decide) rfl (fun ls hl => ?_)
  refine lv_goto (tgt := 17) hx hb dX9_digest_41 (by decide) ?_
  refine lv_iload hx hb dX9_digest_17 (lv_at hl 0 rfl) ?_
  refine lv_bipush (v := 11) hx hb dX9_digest_19 (by decide) ?_
  refine lv_icmp_ge (tgt := 44) hx hb dX9_digest_21 (by decide) (fun c => absurd c (by decide)) (fun _ => ?_)
  refine lv_lload_n hx hb dX9_digest_24 rfl (lv_at hl 1 rfl) ?_
  refine lv_ldc2 hx hb S.2.2.2.1 (S.2.2.2.2 _ kw_9_56) dX9_digest_25 ?_
  refine xlmul (v := 51587067591918) S dX9_digest_28 (by decide) ?_
  refine lv_aload_n hx hb dX9_digest_29 rfl (lv_at hl 3 rfl) ?_
  refine lv_iload hx hb dX9_digest_30 (lv_at hl 0 rfl) ?_
  refine rdV (As := [.int 5]) (ci := 9) S (c_X9_manyNow_5 l D cI cZ cJ o q) mi_X9_manyNow kw_9_27 ⟨rfl, rfl⟩ ⟨Nat.le_of_ble_eq_true rfl, Nat.le_of_ble_eq_true rfl⟩ hP hK mW_0 rfl rfl hl.1 (Nat.le_of_ble_eq_true rfl) ⟨Nat.le_of_ble_eq_true rfl, Nat.le_of_ble_eq_true rfl⟩ dX9_digest_32 ?_
  refine lv_i2l (v := 0) hx hb dX9_digest_35 (by decide) ?_
  refine xladd (v := 51587067591918) S dX9_digest_36 (by decide) ?_
  refine lv_lstore_n (lv' := [(1, .long 51587067591918), (4, .int 5), (3, .int 1), (0, .ref o)]) hx hb dX9_digest_37 rfl hl (by decide) rfl (fun ls hl => ?_)
  refine lv_iinc (v := 6) (lv' := [(4, .int 6), (1, .long 51587067591918), (3, .int 1), (0, .ref o)]) hx hb dX9_digest_38 hl (k := 1) rfl (by decide) (by decide) rfl (fun ls hl => ?_)
  refine lv_goto (tgt := 17) hx hb dX9_digest_41 (by decide) ?_
  refine lv_iload hx hb dX9_digest_17 (lv_at hl 0 rfl) ?_
  refine lv_bipush (v := 11) hx hb dX9_digest_19 (by decide) ?_
  refine lv_icmp_ge (tgt := 44) hx hb dX9_digest_21 (by decide) (fun c => absurd c (by decide)) (fun _ => ?_)
  refine lv_lload_n hx hb dX9_digest_24 rfl (lv_at hl 1 rfl) ?_
  refine lv_ldc2 hx hb S.2.2.2.1 (S.2.2.2.2 _ kw_9_56) dX9_digest_25 ?_
  refine xlmul (v := 1599199095349458) S dX9_digest_28 (by decide) ?_
  refine lv_aload_n hx hb dX9_digest_29 rfl (lv_at hl 3 rfl) ?_
  refine lv_iload hx hb dX9_digest_30 (lv_at hl 0 rfl) ?_
  refine rdV (As := [.int 6]) (ci := 9) S (c_X9_manyNow_6 l D cI cZ cJ o q) mi_X9_manyNow kw_9_27 ⟨rfl, rfl⟩ ⟨Nat.le_of_ble_eq_true rfl, Nat.le_of_ble_eq_true rfl⟩ hP hK mW_0 rfl rfl hl.1 (Nat.le_of_ble_eq_true rfl) ⟨Nat.le_of_ble_eq_true rfl, Nat.le_of_ble_eq_true rfl⟩ dX9_digest_32 ?_
  refine lv_i2l (v := 0) hx hb dX9_digest_35 (by decide) ?_
  refine xladd (v := 1599199095349458) S dX9_digest_36 (by decide) ?_
  refine lv_lstore_n (lv' := [(1, .long 1599199095349458), (4, .int 6), (3, .int 1), (0, .ref o)]) hx hb dX9_digest_37 rfl hl (by decide) rfl (fun ls hl => ?_)
  refine lv_iinc (v := 7) (lv' := [(4, .int 7), (1, .long 1599199095349458), (3, .int 1), (0, .ref o)]) hx hb dX9_digest_38 hl (k := 1) rfl (by decide) (by decide) rfl (fun ls hl => ?_)
  refine lv_goto (tgt := 17) hx hb dX9_digest_41 (by decide) ?_
  refine lv_iload hx hb dX9_digest_17 (lv_at hl 0 rfl) ?_
  refine lv_bipush (v := 11) hx hb dX9_digest_19 (by decide) ?_
  refine lv_icmp_ge (tgt := 44) hx hb dX9_digest_21 (by decide) (fun c => absurd c (by decide)) (fun _ => ?_)
  refine lv_lload_n hx hb dX9_digest_24 rfl (lv_at hl 1 rfl) ?_
  refine lv_ldc2 hx hb S.2.2.2.1 (S.2.2.2.2 _ kw_9_56) dX9_digest_25 ?_
  refine xlmul (v := 49575171955833198) S dX9_digest_28 (by decide) ?_
  refine lv_aload_n hx hb dX9_digest_29 rfl (lv_at hl 3 rfl) ?_
  refine lv_iload hx hb dX9_digest_30 (lv_at hl 0 rfl) ?_
  refine rdV (As := [.int 7]) (ci := 9) S (c_X9_manyNow_7 l D cI cZ cJ o q) mi_X9_manyNow kw_9_27 ⟨rfl, rfl⟩ ⟨Nat.le_of_ble_eq_true rfl, Nat.le_of_ble_eq_true rfl⟩ hP hK mW_0 rfl rfl hl.1 (Nat.le_of_ble_eq_true rfl) ⟨Nat.le_of_ble_eq_true rfl, Nat.le_of_ble_eq_true rfl⟩ dX9_digest_32 ?_
  refine lv_i2l (v := 7) hx hb dX9_digest_35 (by decide) ?_
  refine xladd (v := 49575171955833205) S dX9_digest_36 (by decide) ?_
  refine lv_lstore_n (lv' := [(1, .long 49575171955833205), (4, .int 7), (3, .int 1), (0, .ref o)]) hx hb dX9_digest_37 rfl hl (by decide) rfl (fun ls hl => ?_)
  refine lv_iinc (v := 8) (lv' := [(4, .int 8), (1, .long 49575171955833205), (3, .int 1), (0, .ref o)]) hx hb dX9_digest_38 hl (k := 1) rfl (by decide) (by decide) rfl (fun ls hl => ?_)
  refine lv_goto (tgt := 17) hx hb dX9_digest_41 (by decide) ?_
  refine lv_iload hx hb dX9_digest_17 (lv_at hl 0 rfl) ?_
  refine lv_bipush (v := 11) hx hb dX9_digest_19 (by decide) ?_
  refine lv_icmp_ge (tgt := 44) hx hb dX9_digest_21 (by decide) (fun c => absurd c (by decide)) (fun _ => ?_)
  refine lv_lload_n hx hb dX9_digest_24 rfl (lv_at hl 1 rfl) ?_
  refine lv_ldc2 hx hb S.2.2.2.1 (S.2.2.2.2 _ kw_9_56) dX9_digest_25 ?_
  refine xlmul (v := 1536830330630829355) S dX9_digest_28 (by decide) ?_
  refine lv_aload_n hx hb dX9_digest_29 rfl (lv_at hl 3 rfl) ?_
  refine lv_iload hx hb dX9_digest_30 (lv_at hl 0 rfl) ?_
  refine rdV (As := [.int 8]) (ci := 9) S (c_X9_manyNow_8 l D cI cZ cJ o q) mi_X9_manyNow kw_9_27 ⟨rfl, rfl⟩ ⟨Nat.le_of_ble_eq_true rfl, Nat.le_of_ble_eq_true rfl⟩ hP hK mW_0 rfl rfl hl.1 (Nat.le_of_ble_eq_true rfl) ⟨Nat.le_of_ble_eq_true rfl, Nat.le_of_ble_eq_true rfl⟩ dX9_digest_32 ?_
  refine lv_i2l (v := 1000) hx hb dX9_digest_35 (by decide) ?_
  refine xladd (v := 1536830330630830355) S dX9_digest_36 (by decide) ?_
  refine lv_lstore_n (lv' := [(1, .long 1536830330630830355), (4, .int 8), (3, .int 1), (0, .ref o)]) hx hb dX9_digest_37 rfl hl (by decide) rfl (fun ls hl => ?_)
  refine lv_iinc (v := 9) (lv' := [(4, .int 9), (1, .long 1536830330630830355), (3, .int 1), (0, .ref o)]) hx hb dX9_digest_38 hl (k := 1) rfl (by decide) (by decide) rfl (fun ls hl => ?_)
  refine lv_goto (tgt := 17) hx hb dX9_digest_41 (by decide) ?_
  refine lv_iload hx hb dX9_digest_17 (lv_at hl 0 rfl) ?_
  refine lv_bipush (v := 11) hx hb dX9_digest_19 (by decide) ?_
  refine lv_icmp_ge (tgt := 44) hx hb dX9_digest_21 (by decide) (fun c => absurd c (by decide)) (fun _ => ?_)
  refine lv_lload_n hx hb dX9_digest_24 rfl (lv_at hl 1 rfl) ?_
  refine lv_ldc2 hx hb S.2.2.2.1 (S.2.2.2.2 _ kw_9_56) dX9_digest_25 ?_
  refine xlmul (v := (-7698491971572913843)) S dX9_digest_28 (by decide) ?_
  refine lv_aload_n hx hb dX9_digest_29 rfl (lv_at hl 3 rfl) ?_
  refine lv_iload hx hb dX9_digest_30 (lv_at hl 0 rfl) ?_
  refine rdV (As := [.int 9]) (ci := 9) S (c_X9_manyNow_9 l D cI cZ cJ o q) mi_X9_manyNow kw_9_27 ⟨rfl, rfl⟩ ⟨Nat.le_of_ble_eq_true rfl, Nat.le_of_ble_eq_true rfl⟩ hP hK mW_0 rfl rfl hl.1 (Nat.le_of_ble_eq_true rfl) ⟨Nat.le_of_ble_eq_true rfl, Nat.le_of_ble_eq_true rfl⟩ dX9_digest_32 ?_
  refine lv_i2l (v := 20) hx hb dX9_digest_35 (by decide) ?_
  refine xladd (v := (-7698491971572913823)) S dX9_digest_36 (by decide) ?_
  refine lv_lstore_n (lv' := [(1, .long (-7698491971572913823)), (4, .int 9), (3, .int 1), (0, .ref o)]) hx hb dX9_digest_37 rfl hl (by decide) rfl (fun ls hl => ?_)
  refine lv_iinc (v := 10) (lv' := [(4, .int 10), (1, .long (-7698491971572913823)), (3, .int 1), (0, .ref o)]) hx hb dX9_digest_38 hl (k := 1) rfl (by decide) (by decide) rfl (fun ls hl => ?_)
  refine lv_goto (tgt := 17) hx hb dX9_digest_41 (by decide) ?_
  refine lv_iload hx hb dX9_digest_17 (lv_at hl 0 rfl) ?_
  refine lv_bipush (v := 11) hx hb dX9_digest_19 (by decide) ?_
  refine lv_icmp_ge (tgt := 44) hx hb dX9_digest_21 (by decide) (fun c => absurd c (by decide)) (fun _ => ?_)
  refine lv_lload_n hx hb dX9_digest_24 rfl (lv_at hl 1 rfl) ?_
  refine lv_ldc2 hx hb S.2.2.2.1 (S.2.2.2.2 _ kw_9_56) dX9_digest_25 ?_
  refine xlmul (v := 1154421839463842495) S dX9_digest_28 (by decide) ?_
  refine lv_aload_n hx hb dX9_digest_29 rfl (lv_at hl 3 rfl) ?_
  refine lv_iload hx hb dX9_digest_30 (lv_at hl 0 rfl) ?_
  refine wrV (As := [.int 10]) (ci := 9) S (c_X9_manyNow_10 l D cI cZ cJ o q H.size) mi_X9_manyNow kw_9_27 rfl rfl ⟨Nat.le_of_ble_eq_true rfl, Nat.le_of_ble_eq_true rfl⟩ hP hD hK hS hA mW_0 rfl rfl hl.1 (Nat.le_of_ble_eq_true rfl) ⟨Nat.le_of_ble_eq_true rfl, Nat.le_of_ble_eq_true rfl⟩ dX9_digest_32 (fun H locs hz hP hD hS => ?_)
  refine lv_i2l (v := 0) hx hb dX9_digest_35 (by decide) ?_
  refine xladd (v := 1154421839463842495) S dX9_digest_36 (by decide) ?_
  refine lv_lstore_n (lv' := [(1, .long 1154421839463842495), (4, .int 10), (3, .int 1), (0, .ref o)]) hx hb dX9_digest_37 rfl hl (by decide) rfl (fun ls hl => ?_)
  refine lv_iinc (v := 11) (lv' := [(4, .int 11), (1, .long 1154421839463842495), (3, .int 1), (0, .ref o)]) hx hb dX9_digest_38 hl (k := 1) rfl (by decide) (by decide) rfl (fun ls hl => ?_)
  refine lv_goto (tgt := 17) hx hb dX9_digest_41 (by decide) ?_
  refine lv_iload hx hb dX9_digest_17 (lv_at hl 0 rfl) ?_
  refine lv_bipush (v := 11) hx hb dX9_digest_19 (by decide) ?_
  refine lv_icmp_ge (tgt := 44) hx hb dX9_digest_21 (by decide) (fun _ => ?_) (fun c => absurd c (by decide))
  refine lv_iconst (v := 0) hx hb dX9_digest_44 (by decide) ?_
  refine lv_istore (lv' := [(4, .int 0), (1, .long 1154421839463842495), (3, .int 1), (0, .ref o)]) hx hb dX9_digest_45 hl (by decide) rfl (fun ls hl => ?_)
  refine lv_iload hx hb dX9_digest_47 (lv_at hl 0 rfl) ?_
  refine lv_aload_n hx hb dX9_digest_49 rfl (lv_at hl 3 rfl) ?_
  refine xg (ci := 9) S inX9 rfl hK hP mW_0 1 (by decide) mF_1 kw_6_148 rfl dX9_digest_50 ?_
  refine lv_icmp_ge (tgt := 192) hx hb dX9_digest_53 (by decide) (fun c => absurd c (by decide)) (fun _ => ?_)
  refine lv_iconst (v := 0) hx hb dX9_digest_56 (by decide) ?_
  refine lv_istore (lv' := [(5, .int 0), (4, .int 0), (1, .long 1154421839463842495), (3, .int 1), (0, .ref o)]) hx hb dX9_digest_57 hl (by decide) rfl (fun ls hl => ?_)
  refine lv_iload hx hb dX9_digest_59 (lv_at hl 0 rfl) ?_
  refine lv_bipush (v := 8) hx hb dX9_digest_61 (by decide) ?_
  refine lv_icmp_ge (tgt := 88) hx hb dX9_digest_63 (by decide) (fun c => absurd c (by decide)) (fun _ => ?_)
  refine lv_lload_n hx hb dX9_digest_66 rfl (lv_at hl 2 rfl) ?_
  refine lv_ldc2 hx hb S.2.2.2.1 (S.2.2.2.2 _ kw_9_56) dX9_digest_67 ?_
  refine xlmul (v := (-1106411124039985887)) S dX9_digest_70 (by decide) ?_
  refine lv_aload_n hx hb dX9_digest_71 rfl (lv_at hl 4 rfl) ?_
  refine lv_iload hx hb dX9_digest_72 (lv_at hl 1 rfl) ?_
  refine lv_iload hx hb dX9_digest_74 (lv_at hl 0 rfl) ?_
  refine rdV (As := [.int 0, .int 0]) (ci := 9) S (c_X9_ofProcedureNow_0 l D cI cZ cJ o q) mi_X9_ofProcedureNow kw_7_202 ⟨rfl, rfl⟩ ⟨Nat.le_of_ble_eq_true rfl, Nat.le_of_ble_eq_true rfl⟩ hP hK mW_0 rfl rfl hl.1 (Nat.le_of_ble_eq_true rfl) ⟨Nat.le_of_ble_eq_true rfl, Nat.le_of_ble_eq_true rfl⟩ dX9_digest_76 ?_
  refine lv_i2l (v := (-1)) hx hb dX9_digest_79 (by decide) ?_
  refine xladd (v := (-1106411124039985888)) S dX9_digest_80 (by decide) ?_
  refine lv_lstore_n (lv' := [(1, .long (-1106411124039985888)), (5, .int 0), (4, .int 0), (3, .int 1), (0, .ref o)]) hx hb dX9_digest_81 rfl hl (by decide) rfl (fun ls hl => ?_)
  refine lv_iinc (v := 1) (lv' := [(5, .int 1), (1, .long (-1106411124039985888)), (4, .int 0), (3, .int 1), (0, .ref o)]) hx hb dX9_digest_82 hl (k := 1) rfl (by decide) (by decide) rfl (fun ls hl => ?_)
  refine lv_goto (tgt := 59) hx hb dX9_digest_85 (by decide) ?_
  refine lv_iload hx hb dX9_digest_59 (lv_at hl 0 rfl) ?_
  refine lv_bipush (v := 8) hx hb dX9_digest_61 (by decide) ?_
  refine lv_icmp_ge (tgt := 88) hx hb dX9_digest_63 (by decide) (fun c => absurd c (by decide)) (fun _ => ?_)
  refine lv_lload_n hx hb dX9_digest_66 rfl (lv_at hl 1 rfl) ?_
  refine lv_ldc2 hx hb S.2.2.2.1 (S.2.2.2.2 _ kw_9_56) dX9_digest_67 ?_
  refine xlmul (v := 2594743302179540704) S dX9_digest_70 (by decide) ?_
  refine lv_aload_n hx hb dX9_digest_71 rfl (lv_at hl 4 rfl) ?_
  refine lv_iload hx hb dX9_digest_72 (lv_at hl 2 rfl) ?_
  refine lv_iload hx hb dX9_digest_74 (lv_at hl 0 rfl) ?_
  refine rdV (As := [.int 0, .int 1]) (ci := 9) S (c_X9_ofProcedureNow_1 l D cI cZ cJ o q) mi_X9_ofProcedureNow kw_7_202 ⟨rfl, rfl⟩ ⟨Nat.le_of_ble_eq_true rfl, Nat.le_of_ble_eq_true rfl⟩ hP hK mW_0 rfl rfl hl.1 (Nat.le_of_ble_eq_true rfl) ⟨Nat.le_of_ble_eq_true rfl, Nat.le_of_ble_eq_true rfl⟩ dX9_digest_76 ?_
  refine lv_i2l (v := (-1)) hx hb dX9_digest_79 (by decide) ?_
  refine xladd (v := 2594743302179540703) S dX9_digest_80 (by decide) ?_
  refine lv_lstore_n (lv' := [(1, .long 2594743302179540703), (5, .int 1), (4, .int 0), (3, .int 1), (0, .ref o)]) hx hb dX9_digest_81 rfl hl (by decide) rfl (fun ls hl => ?_)
  refine lv_iinc (v := 2) (lv' := [(5, .int 2), (1, .long 2594743302179540703), (4, .int 0), (3, .int 1), (0, .ref o)]) hx hb dX9_digest_82 hl (k := 1) rfl (by decide) (by decide) rfl (fun ls hl => ?_)
  refine lv_goto (tgt := 59) hx hb dX9_digest_85 (by decide) ?_
  refine lv_iload hx hb dX9_digest_59 (lv_at hl 0 rfl) ?_
  refine lv_bipush (v := 8) hx hb dX9_digest_61 (by decide) ?_
  refine lv_icmp_ge (tgt := 88) hx hb dX9_digest_63 (by decide) (fun c => absurd c (by decide)) (fun _ => ?_)
  refine lv_lload_n hx hb dX9_digest_66 rfl (lv_at hl 1 rfl) ?_
  refine lv_ldc2 hx hb S.2.2.2.1 (S.2.2.2.2 _ kw_9_56) dX9_digest_67 ?_
  refine xlmul (v := 6650066072727555329) S dX9_digest_70 (by decide) ?_
  refine lv_aload_n hx hb dX9_digest_71 rfl (lv_at hl 4 rfl) ?_
  refine lv_iload hx hb dX9_digest_72 (lv_at hl 2 rfl) ?_
  refine lv_iload hx hb dX9_digest_74 (lv_at hl 0 rfl) ?_
  refine rdV (As := [.int 0, .int 2]) (ci := 9) S (c_X9_ofProcedureNow_2 l D cI cZ cJ o q) mi_X9_ofProcedureNow kw_7_202 ⟨rfl, rfl⟩ ⟨Nat.le_of_ble_eq_true rfl, Nat.le_of_ble_eq_true rfl⟩ hP hK mW_0 rfl rfl hl.1 (Nat.le_of_ble_eq_true rfl) ⟨Nat.le_of_ble_eq_true rfl, Nat.le_of_ble_eq_true rfl⟩ dX9_digest_76 ?_
  refine lv_i2l (v := 0) hx hb dX9_digest_79 (by decide) ?_
  refine xladd (v := 6650066072727555329) S dX9_digest_80 (by decide) ?_
  refine lv_lstore_n (lv' := [(1, .long 6650066072727555329), (5, .int 2), (4, .int 0), (3, .int 1), (0, .ref o)]) hx hb dX9_digest_81 rfl hl (by decide) rfl (fun ls hl => ?_)
  refine lv_iinc (v := 3) (lv' := [(5, .int 3), (1, .long 6650066072727555329), (4, .int 0), (3, .int 1), (0, .ref o)]) hx hb dX9_digest_82 hl (k := 1) rfl (by decide) (by decide) rfl (fun ls hl => ?_)
  refine lv_goto (tgt := 59) hx hb dX9_digest_85 (by decide) ?_
  refine lv_iload hx hb dX9_digest_59 (lv_at hl 0 rfl) ?_
  refine lv_bipush (v := 8) hx hb dX9_digest_61 (by decide) ?_
  refine lv_icmp_ge (tgt := 88) hx hb dX9_digest_63 (by decide) (fun c => absurd c (by decide)) (fun _ => ?_)
  refine lv_lload_n hx hb dX9_digest_66 rfl (lv_at hl 1 rfl) ?_
  refine lv_ldc2 hx hb S.2.2.2.1 (S.2.2.2.2 _ kw_9_56) dX9_digest_67 ?_
  refine xlmul (v := 3237863443749147423) S dX9_digest_70 (by decide) ?_
  refine lv_aload_n hx hb dX9_digest_71 rfl (lv_at hl 4 rfl) ?_
  refine lv_iload hx hb dX9_digest_72 (lv_at hl 2 rfl) ?_
  refine lv_iload hx hb dX9_digest_74 (lv_at hl 0 rfl) ?_
  refine rdV (As := [.int 0, .int 3]) (ci := 9) S (c_X9_ofProcedureNow_3 l D cI cZ cJ o q) mi_X9_ofProcedureNow kw_7_202 ⟨rfl, rfl⟩ ⟨Nat.le_of_ble_eq_true rfl, Nat.le_of_ble_eq_true rfl⟩ hP hK mW_0 rfl rfl hl.1 (Nat.le_of_ble_eq_true rfl) ⟨Nat.le_of_ble_eq_true rfl, Nat.le_of_ble_eq_true rfl⟩ dX9_digest_76 ?_
  refine lv_i2l (v := 0) hx hb dX9_digest_79 (by decide) ?_
  refine xladd (v := 3237863443749147423) S dX9_digest_80 (by decide) ?_
  refine lv_lstore_n (lv' := [(1, .long 3237863443749147423), (5, .int 3), (4, .int 0), (3, .int 1), (0, .ref o)]) hx hb dX9_digest_81 rfl hl (by decide) rfl (fun ls hl => ?_)
  refine lv_iinc (v := 4) (lv' := [(5, .int 4), (1, .long 3237863443749147423), (4, .int 0), (3, .int 1), (0, .ref o)]) hx hb dX9_digest_82 hl (k := 1) rfl (by decide) (by decide) rfl (fun ls hl => ?_)
  refine lv_goto (tgt := 59) hx hb dX9_digest_85 (by decide) ?_
  refine lv_iload hx hb dX9_digest_59 (lv_at hl 0 rfl) ?_
  refine lv_bipush (v := 8) hx hb dX9_digest_61 (by decide) ?_
  refine lv_icmp_ge (tgt := 88) hx hb dX9_digest_63 (by decide) (fun c => absurd c (by decide)) (fun _ => ?_)
  refine lv_lload_n hx hb dX9_digest_66 rfl (lv_at hl 1 rfl) ?_
  refine lv_ldc2 hx hb S.2.2.2.1 (S.2.2.2.2 _ kw_9_56) dX9_digest_67 ?_
  refine xlmul (v := 8140046387675812033) S dX9_digest_70 (by decide) ?_
  refine lv_aload_n hx hb dX9_digest_71 rfl (lv_at hl 4 rfl) ?_
  refine lv_iload hx hb dX9_digest_72 (lv_at hl 2 rfl) ?_
  refine lv_iload hx hb dX9_digest_74 (lv_at hl 0 rfl) ?_
  refine rdV (As := [.int 0, .int 4]) (ci := 9) S (c_X9_ofProcedureNow_4 l D cI cZ cJ o q) mi_X9_ofProcedureNow kw_7_202 ⟨rfl, rfl⟩ ⟨Nat.le_of_ble_eq_true rfl, Nat.le_of_ble_eq_true rfl⟩ hP hK mW_0 rfl rfl hl.1 (Nat.le_of_ble_eq_true rfl) ⟨Nat.le_of_ble_eq_true rfl, Nat.le_of_ble_eq_true rfl⟩ dX9_digest_76 ?_
  refine lv_i2l (v := 0) hx hb dX9_digest_79 (by decide) ?_
  refine xladd (v := 8140046387675812033) S dX9_digest_80 (by decide) ?_
  refine lv_lstore_n (lv' := [(1, .long 8140046387675812033), (5, .int 4), (4, .int 0), (3, .int 1), (0, .ref o)]) hx hb dX9_digest_81 rfl hl (by decide) rfl (fun ls hl => ?_)
  refine lv_iinc (v := 5) (lv' := [(5, .int 5), (1, .long 8140046387675812033), (4, .int 0), (3, .int 1), (0, .ref o)]) hx hb dX9_digest_82 hl (k := 1) rfl (by decide) (by decide) rfl (fun ls hl => ?_)
  refine lv_goto (tgt := 59) hx hb dX9_digest_85 (by decide) ?_
  refine lv_iload hx hb dX9_digest_59 (lv_at hl 0 rfl) ?_
  refine lv_bipush (v := 8) hx hb dX9_digest_61 (by decide) ?_
  refine lv_icmp_ge (tgt := 88) hx hb dX9_digest_63 (by decide) (fun c => absurd c (by decide)) (fun _ => ?_)
  refine lv_lload_n hx hb dX9_digest_66 rfl (lv_at hl 1 rfl) ?_
  refine lv_ldc2 hx hb S.2.2.2.1 (S.2.2.2.2 _ kw_9_56) dX9_digest_67 ?_
  refine xlmul (v := (-5912979013983549601)) S dX9_digest_70 (by decide) ?_
  refine lv_aload_n hx hb dX9_digest_71 rfl (lv_at hl 4 rfl) ?_
  refine lv_iload hx hb dX9_digest_72 (lv_at hl 2 rfl) ?_
  refine lv_iload hx hb dX9_digest_74 (lv_at hl 0 rfl) ?_
  refine rdV (As := [.int 0, .int 5]) (ci := 9) S (c_X9_ofProcedureNow_5 l D cI cZ cJ o q) mi_X9_ofProcedureNow kw_7_202 ⟨rfl, rfl⟩ ⟨Nat.le_of_ble_eq_true rfl, Nat.le_of_ble_eq_true rfl⟩ hP hK mW_0 rfl rfl hl.1 (Nat.le_of_ble_eq_true rfl) ⟨Nat.le_of_ble_eq_true rfl, Nat.le_of_ble_eq_true rfl⟩ dX9_digest_76 ?_
  refine lv_i2l (v := 0) hx hb dX9_digest_79 (by decide) ?_
  refine xladd (v := (-5912979013983549601)) S dX9_digest_80 (by decide) ?_
  refine lv_lstore_n (lv' := [(1, .long (-5912979013983549601)), (5, .int 5), (4, .int 0), (3, .int 1), (0, .ref o)]) hx hb dX9_digest_81 rfl hl (by decide) rfl (fun ls hl => ?_)
  refine lv_iinc (v := 6) (lv' := [(5, .int 6), (1, .long (-5912979013983549601)), (4, .int 0), (3, .int 1), (0, .ref o)]) hx hb dX9_digest_82 hl (k := 1) rfl (by decide) (by decide) rfl (fun ls hl => ?_)
  refine lv_goto (tgt := 59) hx hb dX9_digest_85 (by decide) ?_
  refine lv_iload hx hb dX9_digest_59 (lv_at hl 0 rfl) ?_
  refine lv_bipush (v := 8) hx hb dX9_digest_61 (by decide) ?_
  refine lv_icmp_ge (tgt := 88) hx hb dX9_digest_63 (by decide) (fun c => absurd c (by decide)) (fun _ => ?_)
  refine lv_lload_n hx hb dX9_digest_66 rfl (lv_at hl 1 rfl) ?_
  refine lv_ldc2 hx hb S.2.2.2.1 (S.2.2.2.2 _ kw_9_56) dX9_digest_67 ?_
  refine xlmul (v := 1165091303605478529) S dX9_digest_70 (by decide) ?_
  refine lv_aload_n hx hb dX9_digest_71 rfl (lv_at hl 4 rfl) ?_
  refine lv_iload hx hb dX9_digest_72 (lv_at hl 2 rfl) ?_
  refine lv_iload hx hb dX9_digest_74 (lv_at hl 0 rfl) ?_
  refine rdV (As := [.int 0, .int 6]) (ci := 9) S (c_X9_ofProcedureNow_6 l D cI cZ cJ o q) mi_X9_ofProcedureNow kw_7_202 ⟨rfl, rfl⟩ ⟨Nat.le_of_ble_eq_true rfl, Nat.le_of_ble_eq_true rfl⟩ hP hK mW_0 rfl rfl hl.1 (Nat.le_of_ble_eq_true rfl) ⟨Nat.le_of_ble_eq_true rfl, Nat.le_of_ble_eq_true rfl⟩ dX9_digest_76 ?_
  refine lv_i2l (v := (-1)) hx hb dX9_digest_79 (by decide) ?_
  refine xladd (v := 1165091303605478528) S dX9_digest_80 (by decide) ?_
  refine lv_lstore_n (lv' := [(1, .long 1165091303605478528), (5, .int 6), (4, .int 0), (3, .int 1), (0, .ref o)]) hx hb dX9_digest_81 rfl hl (by decide) rfl (fun ls hl => ?_)
  refine lv_iinc (v := 7) (lv' := [(5, .int 7), (1, .long 1165091303605478528), (4, .int 0), (3, .int 1), (0, .ref o)]) hx hb dX9_digest_82 hl (k := 1) rfl (by decide) (by decide) rfl (fun ls hl => ?_)
  refine lv_goto (tgt := 59) hx hb dX9_digest_85 (by decide) ?_
  refine lv_iload hx hb dX9_digest_59 (lv_at hl 0 rfl) ?_
  refine lv_bipush (v := 8) hx hb dX9_digest_61 (by decide) ?_
  refine lv_icmp_ge (tgt := 88) hx hb dX9_digest_63 (by decide) (fun c => absurd c (by decide)) (fun _ => ?_)
  refine lv_lload_n hx hb dX9_digest_66 rfl (lv_at hl 1 rfl) ?_
  refine lv_ldc2 hx hb S.2.2.2.1 (S.2.2.2.2 _ kw_9_56) dX9_digest_67 ?_
  refine xlmul (v := (-775657735649268864)) S dX9_digest_70 (by decide) ?_
  refine lv_aload_n hx hb dX9_digest_71 rfl (lv_at hl 4 rfl) ?_
  refine lv_iload hx hb dX9_digest_72 (lv_at hl 2 rfl) ?_
  refine lv_iload hx hb dX9_digest_74 (lv_at hl 0 rfl) ?_
  refine wrV (As := [.int 0, .int 7]) (ci := 9) S (c_X9_ofProcedureNow_7 l D cI cZ cJ o q H.size) mi_X9_ofProcedureNow kw_7_202 rfl rfl ⟨Nat.le_of_ble_eq_true rfl, Nat.le_of_ble_eq_true rfl⟩ hP hD hK hS hA mW_0 rfl rfl hl.1 (Nat.le_of_ble_eq_true rfl) ⟨Nat.le_of_ble_eq_true rfl, Nat.le_of_ble_eq_true rfl⟩ dX9_digest_76 (fun H locs hz hP hD hS => ?_)
  refine lv_i2l (v := 0) hx hb dX9_digest_79 (by decide) ?_
  refine xladd (v := (-775657735649268864)) S dX9_digest_80 (by decide) ?_
  refine lv_lstore_n (lv' := [(1, .long (-775657735649268864)), (5, .int 7), (4, .int 0), (3, .int 1), (0, .ref o)]) hx hb dX9_digest_81 rfl hl (by decide) rfl (fun ls hl => ?_)
  refine lv_iinc (v := 8) (lv' := [(5, .int 8), (1, .long (-775657735649268864)), (4, .int 0), (3, .int 1), (0, .ref o)]) hx hb dX9_digest_82 hl (k := 1) rfl (by decide) (by decide) rfl (fun ls hl => ?_)
  refine lv_goto (tgt := 59) hx hb dX9_digest_85 (by decide) ?_
  refine lv_iload hx hb dX9_digest_59 (lv_at hl 0 rfl) ?_
  refine lv_bipush (v := 8) hx hb dX9_digest_61 (by decide) ?_
  refine lv_icmp_ge (tgt := 88) hx hb dX9_digest_63 (by decide) (fun _ => ?_) (fun c => absurd c (by decide))
  refine lv_iconst (v := 0) hx hb dX9_digest_88 (by decide) ?_
  refine lv_istore (lv' := [(5, .int 0), (1, .long (-775657735649268864)), (4, .int 0), (3, .int 1), (0, .ref o)]) hx hb dX9_digest_89 hl (by decide) rfl (fun ls hl => ?_)
  refine lv_iload hx hb dX9_digest_91 (lv_at hl 0 rfl) ?_
  refine lv_bipush (v := 8) hx hb dX9_digest_93 (by decide) ?_
  refine lv_icmp_ge (tgt := 120) hx hb dX9_digest_95 (by decide) (fun c => absurd c (by decide)) (fun _ => ?_)
  refine lv_lload_n hx hb dX9_digest_98 rfl (lv_at hl 1 rfl) ?_
  refine lv_ldc2 hx hb S.2.2.2.1 (S.2.2.2.2 _ kw_9_56) dX9_digest_99 ?_
  refine xlmul (v := (-5598645731417783168)) S dX9_digest_102 (by decide) ?_
  refine lv_aload_n hx hb dX9_digest_103 rfl (lv_at hl 4 rfl) ?_
  refine lv_iload hx hb dX9_digest_104 (lv_at hl 2 rfl) ?_
  refine lv_iload hx hb dX9_digest_106 (lv_at hl 0 rfl) ?_
  refine rdV (As := [.int 0, .int 0]) (ci := 9) S (c_X9_hiddenNow_1 l D cI cZ cJ o q) mi_X9_hiddenNow kw_9_47 ⟨rfl, rfl⟩ ⟨Nat.le_of_ble_eq_true rfl, Nat.le_of_ble_eq_true rfl⟩ hP hK mW_0 rfl rfl hl.1 (Nat.le_of_ble_eq_true rfl) ⟨Nat.le_of_ble_eq_true rfl, Nat.le_of_ble_eq_true rfl⟩ dX9_digest_108 ?_
  refine lv_i2l (v := 0) hx hb dX9_digest_111 (by decide) ?_
  refine xladd (v := (-5598645731417783168)) S dX9_digest_112 (by decide) ?_
  refine lv_lstore_n (lv' := [(1, .long (-5598645731417783168)), (5, .int 0), (4, .int 0), (3, .int 1), (0, .ref o)]) hx hb dX9_digest_113 rfl hl (by decide) rfl (fun ls hl => ?_)
  refine lv_iinc (v := 1) (lv' := [(5, .int 1), (1, .long (-5598645731417783168)), (4, .int 0), (3, .int 1), (0, .ref o)]) hx hb dX9_digest_114 hl (k := 1) rfl (by decide) (by decide) rfl (fun ls hl => ?_)
  refine lv_goto (tgt := 91) hx hb dX9_digest_117 (by decide) ?_
  refine lv_iload hx hb dX9_digest_91 (lv_at hl 0 rfl) ?_
  refine lv_bipush (v := 8) hx hb dX9_digest_93 (by decide) ?_
  refine lv_icmp_ge (tgt := 120) hx hb dX9_digest_95 (by decide) (fun c => absurd c (by decide)) (fun _ => ?_)
  refine lv_lload_n hx hb dX9_digest_98 rfl (lv_at hl 1 rfl) ?_
  refine lv_ldc2 hx hb S.2.2.2.1 (S.2.2.2.2 _ kw_9_56) dX9_digest_99 ?_
  refine xlmul (v := (-7537321010565313664)) S dX9_digest_102 (by decide) ?_
  refine lv_aload_n hx hb dX9_digest_103 rfl (lv_at hl 4 rfl) ?_
  refine lv_iload hx hb dX9_digest_104 (lv_at hl 2 rfl) ?_
  refine lv_iload hx hb dX9_digest_106 (lv_at hl 0 rfl) ?_
  refine rdV (As := [.int 0, .int 1]) (ci := 9) S (c_X9_hiddenNow_2 l D cI cZ cJ o q) mi_X9_hiddenNow kw_9_47 ⟨rfl, rfl⟩ ⟨Nat.le_of_ble_eq_true rfl, Nat.le_of_ble_eq_true rfl⟩ hP hK mW_0 rfl rfl hl.1 (Nat.le_of_ble_eq_true rfl) ⟨Nat.le_of_ble_eq_true rfl, Nat.le_of_ble_eq_true rfl⟩ dX9_digest_108 ?_
  refine lv_i2l (v := 0) hx hb dX9_digest_111 (by decide) ?_
  refine xladd (v := (-7537321010565313664)) S dX9_digest_112 (by decide) ?_
  refine lv_lstore_n (lv' := [(1, .long (-7537321010565313664)), (5, .int 1), (4, .int 0), (3, .int 1), (0, .ref o)]) hx hb dX9_digest_113 rfl hl (by decide) rfl (fun ls hl => ?_)
  refine lv_iinc (v := 2) (lv' := [(5, .int 2), (1, .long (-7537321010565313664)), (4, .int 0), (3, .int 1), (0, .ref o)]) hx hb dX9_digest_114 hl (k := 1) rfl (by decide) (by decide) rfl (fun ls hl => ?_)
  refine lv_goto (tgt := 91) hx hb dX9_digest_117 (by decide) ?_
  refine lv_iload hx hb dX9_digest_91 (lv_at hl 0 rfl) ?_
  refine lv_bipush (v := 8) hx hb dX9_digest_93 (by decide) ?_
  refine lv_icmp_ge (tgt := 120) hx hb dX9_digest_95 (by decide) (fun c => absurd c (by decide)) (fun _ => ?_)
  refine lv_lload_n hx hb dX9_digest_98 rfl (lv_at hl 1 rfl) ?_
  refine lv_ldc2 hx hb S.2.2.2.1 (S.2.2.2.2 _ kw_9_56) dX9_digest_99 ?_
  refine xlmul (v := 6150721630699447424) S dX9_digest_102 (by decide) ?_
  refine lv_aload_n hx hb dX9_digest_103 rfl (lv_at hl 4 rfl) ?_
  refine lv_iload hx hb dX9_digest_104 (lv_at hl 2 rfl) ?_
  refine lv_iload hx hb dX9_digest_106 (lv_at hl 0 rfl) ?_
  refine rdV (As := [.int 0, .int 2]) (ci := 9) S (c_X9_hiddenNow_3 l D cI cZ cJ o q) mi_X9_hiddenNow kw_9_47 ⟨rfl, rfl⟩ ⟨Nat.le_of_ble_eq_true rfl, Nat.le_of_ble_eq_true rfl⟩ hP hK mW_0 rfl rfl hl.1 (Nat.le_of_ble_eq_true rfl) ⟨Nat.le_of_ble_eq_true rfl, Nat.le_of_ble_eq_true rfl⟩ dX9_digest_108 ?_
  refine lv_i2l (v := 0) hx hb dX9_digest_111 (by decide) ?_
  refine xladd (v := 6150721630699447424) S dX9_digest_112 (by decide) ?_
  refine lv_lstore_n (lv' := [(1, .long 6150721630699447424), (5, .int 2), (4, .int 0), (3, .int 1), (0, .ref o)]) hx hb dX9_digest_113 rfl hl (by decide) rfl (fun ls hl => ?_)
  refine lv_iinc (v := 3) (lv' := [(5, .int 3), (1, .long 6150721630699447424), (4, .int 0), (3, .int 1), (0, .ref o)]) hx hb dX9_digest_114 hl (k := 1) rfl (by decide) (by decide) rfl (fun ls hl => ?_)
  refine lv_goto (tgt := 91) hx hb dX9_digest_117 (by decide) ?_
  refine lv_iload hx hb dX9_digest_91 (lv_at hl 0 rfl) ?_
  refine lv_bipush (v := 8) hx hb dX9_digest_93 (by decide) ?_
  refine lv_icmp_ge (tgt := 120) hx hb dX9_digest_95 (by decide) (fun c => absurd c (by decide)) (fun _ => ?_)
  refine lv_lload_n hx hb dX9_digest_98 rfl (lv_at hl 1 rfl) ?_
  refine lv_ldc2 hx hb S.2.2.2.1 (S.2.2.2.2 _ kw_9_56) dX9_digest_99 ?_
  refine xlmul (v := 6204929814587353984) S dX9_digest_102 (by decide) ?_
  refine lv_aload_n hx hb dX9_digest_103 rfl (lv_at hl 4 rfl) ?_
  refine lv_iload hx hb dX9_digest_104 (lv_at hl 2 rfl) ?_
  refine lv_iload hx hb dX9_digest_106 (lv_at hl 0 rfl) ?_
  refine rdV (As := [.int 0, .int 3]) (ci := 9) S (c_X9_hiddenNow_4 l D cI cZ cJ o q) mi_X9_hiddenNow kw_9_47 ⟨rfl, rfl⟩ ⟨Nat.le_of_ble_eq_true rfl, Nat.le_of_ble_eq_true rfl⟩ hP hK mW_0 rfl rfl hl.1 (Nat.le_of_ble_eq_true rfl) ⟨Nat.le_of_ble_eq_true rfl, Nat.le_of_ble_eq_true rfl⟩ dX9_digest_108 ?_
  refine lv_i2l (v := 0) hx hb dX9_digest_111 (by decide) ?_
  refine xladd (v := 6204929814587353984) S dX9_digest_112 (by decide) ?_
  refine lv_lstore_n (lv' := [(1, .long 6204929814587353984), (5, .int 3), (4, .int 0), (3, .int 1), (0, .ref o)]) hx hb dX9_digest_113 rfl hl (by decide) rfl (fun ls hl => ?_)
  refine lv_iinc (v := 4) (lv' := [(5, .int 4), (1, .long 6204929814587353984), (4, .int 0), (3, .int 1), (0, .ref o)]) hx hb dX9_digest_114 hl (k := 1) rfl (by decide) (by decide) rfl (fun ls hl => ?_)
  refine lv_goto (tgt := 91) hx hb dX9_digest_117 (by decide) ?_
  refine lv_iload hx hb dX9_digest_91 (lv_at hl 0 rfl) ?_
  refine lv_bipush (v := 8) hx hb dX9_digest_93 (by decide) ?_
  refine lv_icmp_ge (tgt := 120) hx hb dX9_digest_95 (by decide) (fun c => absurd c (by decide)) (fun _ => ?_)
  refine lv_lload_n hx hb dX9_digest_98 rfl (lv_at hl 1 rfl) ?_
  refine lv_ldc2 hx hb S.2.2.2.1 (S.2.2.2.2 _ kw_9_56) dX9_digest_99 ?_
  refine xlmul (v := 7885383515112457344) S dX9_digest_102 (by decide) ?_
  refine lv_aload_n hx hb dX9_digest_103 rfl (lv_at hl 4 rfl) ?_
  refine lv_iload hx hb dX9_digest_104 (lv_at hl 2 rfl) ?_
  refine lv_iload hx hb dX9_digest_106 (lv_at hl 0 rfl) ?_
  refine rdV (As := [.int 0, .int 4]) (ci := 9) S (c_X9_hiddenNow_5 l D cI cZ cJ o q) mi_X9_hiddenNow kw_9_47 ⟨rfl, rfl⟩ ⟨Nat.le_of_ble_eq_true rfl, Nat.le_of_ble_eq_true rfl⟩ hP hK mW_0 rfl rfl hl.1 (Nat.le_of_ble_eq_true rfl) ⟨Nat.le_of_ble_eq_true rfl, Nat.le_of_ble_eq_true rfl⟩ dX9_digest_108 ?_
  refine lv_i2l (v := 0) hx hb dX9_digest_111 (by decide) ?_
  refine xladd (v := 7885383515112457344) S dX9_digest_112 (by decide) ?_
  refine lv_lstore_n (lv' := [(1, .long 7885383515112457344), (5, .int 4), (4, .int 0), (3, .int 1), (0, .ref o)]) hx hb dX9_digest_113 rfl hl (by decide) rfl (fun ls hl => ?_)
  refine lv_iinc (v := 5) (lv' := [(5, .int 5), (1, .long 7885383515112457344), (4, .int 0), (3, .int 1), (0, .ref o)]) hx hb dX9_digest_114 hl (k := 1) rfl (by decide) (by decide) rfl (fun ls hl => ?_)
  refine lv_goto (tgt := 91) hx hb dX9_digest_117 (by decide) ?_
  refine lv_iload hx hb dX9_digest_91 (lv_at hl 0 rfl) ?_
  refine lv_bipush (v := 8) hx hb dX9_digest_93 (by decide) ?_
  refine lv_icmp_ge (tgt := 120) hx hb dX9_digest_95 (by decide) (fun c => absurd c (by decide)) (fun _ => ?_)
  refine lv_lload_n hx hb dX9_digest_98 rfl (lv_at hl 1 rfl) ?_
  refine lv_ldc2 hx hb S.2.2.2.1 (S.2.2.2.2 _ kw_9_56) dX9_digest_99 ?_
  refine xlmul (v := 4639216010262006656) S dX9_digest_102 (by decide) ?_
  refine lv_aload_n hx hb dX9_digest_103 rfl (lv_at hl 4 rfl) ?_
  refine lv_iload hx hb dX9_digest_104 (lv_at hl 2 rfl) ?_
  refine lv_iload hx hb dX9_digest_106 (lv_at hl 0 rfl) ?_
  refine rdV (As := [.int 0, .int 5]) (ci := 9) S (c_X9_hiddenNow_6 l D cI cZ cJ o q) mi_X9_hiddenNow kw_9_47 ⟨rfl, rfl⟩ ⟨Nat.le_of_ble_eq_true rfl, Nat.le_of_ble_eq_true rfl⟩ hP hK mW_0 rfl rfl hl.1 (Nat.le_of_ble_eq_true rfl) ⟨Nat.le_of_ble_eq_true rfl, Nat.le_of_ble_eq_true rfl⟩ dX9_digest_108 ?_
  refine lv_i2l (v := 0) hx hb dX9_digest_111 (by decide) ?_
  refine xladd (v := 4639216010262006656) S dX9_digest_112 (by decide) ?_
  refine lv_lstore_n (lv' := [(1, .long 4639216010262006656), (5, .int 5), (4, .int 0), (3, .int 1), (0, .ref o)]) hx hb dX9_digest_113 rfl hl (by decide) rfl (fun ls hl => ?_)
  refine lv_iinc (v := 6) (lv' := [(5, .int 6), (1, .long 4639216010262006656), (4, .int 0), (3, .int 1), (0, .ref o)]) hx hb dX9_digest_114 hl (k := 1) rfl (by decide) (by decide) rfl (fun ls hl => ?_)
  refine lv_goto (tgt := 91) hx hb dX9_digest_117 (by decide) ?_
  refine lv_iload hx hb dX9_digest_91 (lv_at hl 0 rfl) ?_
  refine lv_bipush (v := 8) hx hb dX9_digest_93 (by decide) ?_
  refine lv_icmp_ge (tgt := 120) hx hb dX9_digest_95 (by decide) (fun c => absurd c (by decide)) (fun _ => ?_)
  refine lv_lload_n hx hb dX9_digest_98 rfl (lv_at hl 1 rfl) ?_
  refine lv_ldc2 hx hb S.2.2.2.1 (S.2.2.2.2 _ kw_9_56) dX9_digest_99 ?_
  refine xlmul (v := (-3758256271554206592)) S dX9_digest_102 (by decide) ?_
  refine lv_aload_n hx hb dX9_digest_103 rfl (lv_at hl 4 rfl) ?_
  refine lv_iload hx hb dX9_digest_104 (lv_at hl 2 rfl) ?_
  refine lv_iload hx hb dX9_digest_106 (lv_at hl 0 rfl) ?_
  refine rdV (As := [.int 0, .int 6]) (ci := 9) S (c_X9_hiddenNow_7 l D cI cZ cJ o q) mi_X9_hiddenNow kw_9_47 ⟨rfl, rfl⟩ ⟨Nat.le_of_ble_eq_true rfl, Nat.le_of_ble_eq_true rfl⟩ hP hK mW_0 rfl rfl hl.1 (Nat.le_of_ble_eq_true rfl) ⟨Nat.le_of_ble_eq_true rfl, Nat.le_of_ble_eq_true rfl⟩ dX9_digest_108 ?_
  refine lv_i2l (v := 0) hx hb dX9_digest_111 (by decide) ?_
  refine xladd (v := (-3758256271554206592)) S dX9_digest_112 (by decide) ?_
  refine lv_lstore_n (lv' := [(1, .long (-3758256271554206592)), (5, .int 6), (4, .int 0), (3, .int 1), (0, .ref o)]) hx hb dX9_digest_113 rfl hl (by decide) rfl (fun ls hl => ?_)
  refine lv_iinc (v := 7) (lv' := [(5, .int 7), (1, .long (-3758256271554206592)), (4, .int 0), (3, .int 1), (0, .ref o)]) hx hb dX9_digest_114 hl (k := 1) rfl (by decide) (by decide) rfl (fun ls hl => ?_)
  refine lv_goto (tgt := 91) hx hb dX9_digest_117 (by decide) ?_
  refine lv_iload hx hb dX9_digest_91 (lv_at hl 0 rfl) ?_
  refine lv_bipush (v := 8) hx hb dX9_digest_93 (by decide) ?_
  refine lv_icmp_ge (tgt := 120) hx hb dX9_digest_95 (by decide) (fun c => absurd c (by decide)) (fun _ => ?_)
  refine lv_lload_n hx hb dX9_digest_98 rfl (lv_at hl 1 rfl) ?_
  refine lv_ldc2 hx hb S.2.2.2.1 (S.2.2.2.2 _ kw_9_56) dX9_digest_99 ?_
  refine xlmul (v := (-5825479975923094656)) S dX9_digest_102 (by decide) ?_
  refine lv_aload_n hx hb dX9_digest_103 rfl (lv_at hl 4 rfl) ?_
  refine lv_iload hx hb dX9_digest_104 (lv_at hl 2 rfl) ?_
  refine lv_iload hx hb dX9_digest_106 (lv_at hl 0 rfl) ?_
  refine rdV (As := [.int 0, .int 7]) (ci := 9) S (c_X9_hiddenNow_8 l D cI cZ cJ o q) mi_X9_hiddenNow kw_9_47 ⟨rfl, rfl⟩ ⟨Nat.le_of_ble_eq_true rfl, Nat.le_of_ble_eq_true rfl⟩ hP hK mW_0 rfl rfl hl.1 (Nat.le_of_ble_eq_true rfl) ⟨Nat.le_of_ble_eq_true rfl, Nat.le_of_ble_eq_true rfl⟩ dX9_digest_108 ?_
  refine lv_i2l (v := 0) hx hb dX9_digest_111 (by decide) ?_
  refine xladd (v := (-5825479975923094656)) S dX9_digest_112 (by decide) ?_
  refine lv_lstore_n (lv' := [(1, .long (-5825479975923094656)), (5, .int 7), (4, .int 0), (3, .int 1), (0, .ref o)]) hx hb dX9_digest_113 rfl hl (by decide) rfl (fun ls hl => ?_)
  refine lv_iinc (v := 8) (lv' := [(5, .int 8), (1, .long (-5825479975923094656)), (4, .int 0), (3, .int 1), (0, .ref o)]) hx hb dX9_digest_114 hl (k := 1) rfl (by decide) (by decide) rfl (fun ls hl => ?_)
  refine lv_goto (tgt := 91) hx hb dX9_digest_117 (by decide) ?_
  refine lv_iload hx hb dX9_digest_91 (lv_at hl 0 rfl) ?_
  refine lv_bipush (v := 8) hx hb dX9_digest_93 (by decide) ?_
  refine lv_icmp_ge (tgt := 120) hx hb dX9_digest_95 (by decide) (fun _ => ?_) (fun c => absurd c (by decide))
  refine lv_iload_n hx hb dX9_digest_120 rfl (lv_at hl 3 rfl) ?_
  refine lv_if_le (tgt := 127) hx hb dX9_digest_121 (by decide) (fun c => absurd c (by decide)) (fun _ => ?_)
  refine lv_goto (tgt := 186) hx hb dX9_digest_124 (by decide) ?_
  refine lv_iinc (v := 1) (lv' := [(4, .int 1), (5, .int 8), (1, .long (-5825479975923094656)), (3, .int 1), (0, .ref o)]) hx hb dX9_digest_186 hl (k := 2) rfl (by decide) (by decide) rfl (fun ls hl => ?_)
  refine lv_goto (tgt := 47) hx hb dX9_digest_189 (by decide) ?_
  refine lv_iload hx hb dX9_digest_47 (lv_at hl 0 rfl) ?_
  refine lv_aload_n hx hb dX9_digest_49 rfl (lv_at hl 4 rfl) ?_
  refine xg (ci := 9) S inX9 rfl hK hP mW_0 1 (by decide) mF_1 kw_6_148 rfl dX9_digest_50 ?_
  refine lv_icmp_ge (tgt := 192) hx hb dX9_digest_53 (by decide) (fun _ => ?_) (fun c => absurd c (by decide))
  refine lv_iconst (v := 0) hx hb dX9_digest_192 (by decide) ?_
  refine lv_istore (lv' := [(4, .int 0), (5, .int 8), (1, .long (-5825479975923094656)), (3, .int 1), (0, .ref o)]) hx hb dX9_digest_193 hl (by decide) rfl (fun ls hl => ?_)
  refine lv_iload hx hb dX9_digest_195 (lv_at hl 0 rfl) ?_
  refine lv_aload_n hx hb dX9_digest_197 rfl (lv_at hl 4 rfl) ?_
  refine xg (ci := 9) S inX9 rfl hK hP mW_0 13 (by decide) mF_13 kw_6_160 rfl dX9_digest_198 ?_
  refine lv_icmp_ge (tgt := 242) hx hb dX9_digest_201 (by decide) (fun _ => ?_) (fun c => absurd c (by decide))
  refine lv_iconst (v := 0) hx hb dX9_digest_242 (by decide) ?_
  refine lv_istore (lv' := [(4, .int 0), (5, .int 8), (1, .long (-5825479975923094656)), (3, .int 1), (0, .ref o)]) hx hb dX9_digest_243 hl (by decide) rfl (fun ls hl => ?_)
  refine lv_iload hx hb dX9_digest_245 (lv_at hl 0 rfl) ?_
  refine lv_iload_n hx hb dX9_digest_247 rfl (lv_at hl 3 rfl) ?_
  refine lv_icmp_ge (tgt := 288) hx hb dX9_digest_248 (by decide) (fun c => absurd c (by decide)) (fun _ => ?_)
  refine lv_iconst (v := 0) hx hb dX9_digest_251 (by decide) ?_
  refine lv_istore (lv' := [(5, .int 0), (4, .int 0), (1, .long (-5825479975923094656)), (3, .int 1), (0, .ref o)]) hx hb dX9_digest_252 hl (by decide) rfl (fun ls hl => ?_)
  refine lv_iload hx hb dX9_digest_254 (lv_at hl 0 rfl) ?_
  refine lv_iconst (v := 3) hx hb dX9_digest_256 (by decide) ?_
  refine lv_icmp_ge (tgt := 282) hx hb dX9_digest_257 (by decide) (fun c => absurd c (by decide)) (fun _ => ?_)
  refine lv_lload_n hx hb dX9_digest_260 rfl (lv_at hl 2 rfl) ?_
  refine lv_ldc2 hx hb S.2.2.2.1 (S.2.2.2.2 _ kw_9_56) dX9_digest_261 ?_
  refine xlmul (v := 3877561483479581824) S dX9_digest_264 (by decide) ?_
  refine lv_aload_n hx hb dX9_digest_265 rfl (lv_at hl 4 rfl) ?_
  refine lv_iload hx hb dX9_digest_266 (lv_at hl 1 rfl) ?_
  refine lv_iload hx hb dX9_digest_268 (lv_at hl 0 rfl) ?_
  refine wrV (As := [.int 0, .int 0]) (ci := 9) S (c_X9_lookFor_1 l D cI cZ cJ o q H.size) mi_X9_lookFor kw_7_233 rfl rfl ⟨Nat.le_of_ble_eq_true rfl, Nat.le_of_ble_eq_true rfl⟩ hP hD hK hS hA mW_0 rfl rfl hl.1 (Nat.le_of_ble_eq_true rfl) ⟨Nat.le_of_ble_eq_true rfl, Nat.le_of_ble_eq_true rfl⟩ dX9_digest_270 (fun H locs hz hP hD hS => ?_)
  refine lv_i2l (v := 10) hx hb dX9_digest_273 (by decide) ?_
  refine xladd (v := 3877561483479581834) S dX9_digest_274 (by decide) ?_
  refine lv_lstore_n (lv' := [(1, .long 3877561483479581834), (5, .int 0), (4, .int 0), (3, .int 1), (0, .ref o)]) hx hb dX9_digest_275 rfl hl (by decide) rfl (fun ls hl => ?_)
  refine lv_iinc (v := 1) (lv' := [(5, .int 1), (1, .long 3877561483479581834), (4, .int 0), (3, .int 1), (0, .ref o)]) hx hb dX9_digest_276 hl (k := 1) rfl (by decide) (by decide) rfl (fun ls hl => ?_)
  refine lv_goto (tgt := 254) hx hb dX9_digest_279 (by decide) ?_
  refine lv_iload hx hb dX9_digest_254 (lv_at hl 0 rfl) ?_
  refine lv_iconst (v := 3) hx hb dX9_digest_256 (by decide) ?_
  refine lv_icmp_ge (tgt := 282) hx hb dX9_digest_257 (by decide) (fun c => absurd c (by decide)) (fun _ => ?_)
  refine lv_lload_n hx hb dX9_digest_260 rfl (lv_at hl 1 rfl) ?_
  refine lv_ldc2 hx hb S.2.2.2.1 (S.2.2.2.2 _ kw_9_56) dX9_digest_261 ?_
  refine xlmul (v := (-8922802528099824458)) S dX9_digest_264 (by decide) ?_
  refine lv_aload_n hx hb dX9_digest_265 rfl (lv_at hl 4 rfl) ?_
  refine lv_iload hx hb dX9_digest_266 (lv_at hl 2 rfl) ?_
  refine lv_iload hx hb dX9_digest_268 (lv_at hl 0 rfl) ?_
  refine wrV (As := [.int 0, .int 1]) (ci := 9) S (c_X9_lookFor_2 l D cI cZ cJ o q H.size) mi_X9_lookFor kw_7_233 rfl rfl ⟨Nat.le_of_ble_eq_true rfl, Nat.le_of_ble_eq_true rfl⟩ hP hD hK hS hA mW_0 rfl rfl hl.1 (Nat.le_of_ble_eq_true rfl) ⟨Nat.le_of_ble_eq_true rfl, Nat.le_of_ble_eq_true rfl⟩ dX9_digest_270 (fun H locs hz hP hD hS => ?_)
  refine lv_i2l (v := 0) hx hb dX9_digest_273 (by decide) ?_
  refine xladd (v := (-8922802528099824458)) S dX9_digest_274 (by decide) ?_
  refine lv_lstore_n (lv' := [(1, .long (-8922802528099824458)), (5, .int 1), (4, .int 0), (3, .int 1), (0, .ref o)]) hx hb dX9_digest_275 rfl hl (by decide) rfl (fun ls hl => ?_)
  refine lv_iinc (v := 2) (lv' := [(5, .int 2), (1, .long (-8922802528099824458)), (4, .int 0), (3, .int 1), (0, .ref o)]) hx hb dX9_digest_276 hl (k := 1) rfl (by decide) (by decide) rfl (fun ls hl => ?_)
  refine lv_goto (tgt := 254) hx hb dX9_digest_279 (by decide) ?_
  refine lv_iload hx hb dX9_digest_254 (lv_at hl 0 rfl) ?_
  refine lv_iconst (v := 3) hx hb dX9_digest_256 (by decide) ?_
  refine lv_icmp_ge (tgt := 282) hx hb dX9_digest_257 (by decide) (fun c => absurd c (by decide)) (fun _ => ?_)
  refine lv_lload_n hx hb dX9_digest_260 rfl (lv_at hl 1 rfl) ?_
  refine lv_ldc2 hx hb S.2.2.2.1 (S.2.2.2.2 _ kw_9_56) dX9_digest_261 ?_
  refine xlmul (v := 94282734548716042) S dX9_digest_264 (by decide) ?_
  refine lv_aload_n hx hb dX9_digest_265 rfl (lv_at hl 4 rfl) ?_
  refine lv_iload hx hb dX9_digest_266 (lv_at hl 2 rfl) ?_
  refine lv_iload hx hb dX9_digest_268 (lv_at hl 0 rfl) ?_
  refine wrV (As := [.int 0, .int 2]) (ci := 9) S (c_X9_lookFor_3 l D cI cZ cJ o q H.size) mi_X9_lookFor kw_7_233 rfl rfl ⟨Nat.le_of_ble_eq_true rfl, Nat.le_of_ble_eq_true rfl⟩ hP hD hK hS hA mW_0 rfl rfl hl.1 (Nat.le_of_ble_eq_true rfl) ⟨Nat.le_of_ble_eq_true rfl, Nat.le_of_ble_eq_true rfl⟩ dX9_digest_270 (fun H locs hz hP hD hS => ?_)
  refine lv_i2l (v := (-1)) hx hb dX9_digest_273 (by decide) ?_
  refine xladd (v := 94282734548716041) S dX9_digest_274 (by decide) ?_
  refine lv_lstore_n (lv' := [(1, .long 94282734548716041), (5, .int 2), (4, .int 0), (3, .int 1), (0, .ref o)]) hx hb dX9_digest_275 rfl hl (by decide) rfl (fun ls hl => ?_)
  refine lv_iinc (v := 3) (lv' := [(5, .int 3), (1, .long 94282734548716041), (4, .int 0), (3, .int 1), (0, .ref o)]) hx hb dX9_digest_276 hl (k := 1) rfl (by decide) (by decide) rfl (fun ls hl => ?_)
  refine lv_goto (tgt := 254) hx hb dX9_digest_279 (by decide) ?_
  refine lv_iload hx hb dX9_digest_254 (lv_at hl 0 rfl) ?_
  refine lv_iconst (v := 3) hx hb dX9_digest_256 (by decide) ?_
  refine lv_icmp_ge (tgt := 282) hx hb dX9_digest_257 (by decide) (fun _ => ?_) (fun c => absurd c (by decide))
  refine lv_iinc (v := 1) (lv' := [(4, .int 1), (5, .int 3), (1, .long 94282734548716041), (3, .int 1), (0, .ref o)]) hx hb dX9_digest_282 hl (k := 2) rfl (by decide) (by decide) rfl (fun ls hl => ?_)
  refine lv_goto (tgt := 245) hx hb dX9_digest_285 (by decide) ?_
  refine lv_iload hx hb dX9_digest_245 (lv_at hl 0 rfl) ?_
  refine lv_iload_n hx hb dX9_digest_247 rfl (lv_at hl 3 rfl) ?_
  refine lv_icmp_ge (tgt := 288) hx hb dX9_digest_248 (by decide) (fun _ => ?_) (fun c => absurd c (by decide))
  refine lv_iconst (v := 0) hx hb dX9_digest_288 (by decide) ?_
  refine lv_istore (lv' := [(4, .int 0), (5, .int 3), (1, .long 94282734548716041), (3, .int 1), (0, .ref o)]) hx hb dX9_digest_289 hl (by decide) rfl (fun ls hl => ?_)
  refine lv_iload hx hb dX9_digest_291 (lv_at hl 0 rfl) ?_
  refine lv_bipush (v := 10) hx hb dX9_digest_293 (by decide) ?_
  refine lv_icmp_ge (tgt := 319) hx hb dX9_digest_295 (by decide) (fun c => absurd c (by decide)) (fun _ => ?_)
  refine lv_lload_n hx hb dX9_digest_298 rfl (lv_at hl 2 rfl) ?_
  refine lv_ldc2 hx hb S.2.2.2.1 (S.2.2.2.2 _ kw_9_56) dX9_digest_299 ?_
  refine xlmul (v := 2922764771010197271) S dX9_digest_302 (by decide) ?_
  refine lv_aload_n hx hb dX9_digest_303 rfl (lv_at hl 4 rfl) ?_
  refine xg (ci := 9) S inX9 rfl hK hP mW_0 24 (by decide) mF_24 kw_6_171 rfl dX9_digest_304 ?_
  refine lv_iload hx hb dX9_digest_307 (lv_at hl 0 rfl) ?_
  refine xiald (t0 := 0) (v := 0) S hK hP mW_18 rfl (vin rfl) rfl dX9_digest_309 ?_
  refine lv_i2l (v := 0) hx hb dX9_digest_310 (by decide) ?_
  refine xladd (v := 2922764771010197271) S dX9_digest_311 (by decide) ?_
  refine lv_lstore_n (lv' := [(1, .long 2922764771010197271), (4, .int 0), (5, .int 3), (3, .int 1), (0, .ref o)]) hx hb dX9_digest_312 rfl hl (by decide) rfl (fun ls hl => ?_)
  refine lv_iinc (v := 1) (lv' := [(4, .int 1), (1, .long 2922764771010197271), (5, .int 3), (3, .int 1), (0, .ref o)]) hx hb dX9_digest_313 hl (k := 1) rfl (by decide) (by decide) rfl (fun ls hl => ?_)
  refine lv_goto (tgt := 291) hx hb dX9_digest_316 (by decide) ?_
  refine lv_iload hx hb dX9_digest_291 (lv_at hl 0 rfl) ?_
  refine lv_bipush (v := 10) hx hb dX9_digest_293 (by decide) ?_
  refine lv_icmp_ge (tgt := 319) hx hb dX9_digest_295 (by decide) (fun c => absurd c (by decide)) (fun _ => ?_)
  refine lv_lload_n hx hb dX9_digest_298 rfl (lv_at hl 1 rfl) ?_
  refine lv_ldc2 hx hb S.2.2.2.1 (S.2.2.2.2 _ kw_9_56) dX9_digest_299 ?_
  refine xlmul (v := (-1628012467231642679)) S dX9_digest_302 (by decide) ?_
  refine lv_aload_n hx hb dX9_digest_303 rfl (lv_at hl 4 rfl) ?_
  refine xg (ci := 9) S inX9 rfl hK hP mW_0 24 (by decide) mF_24 kw_6_171 rfl dX9_digest_304 ?_
  refine lv_iload hx hb dX9_digest_307 (lv_at hl 0 rfl) ?_
  refine xiald (t0 := 0) (v := 0) S hK hP mW_18 rfl (vin rfl) rfl dX9_digest_309 ?_
  refine lv_i2l (v := 0) hx hb dX9_digest_310 (by decide) ?_
  refine xladd (v := (-1628012467231642679)) S dX9_digest_311 (by decide) ?_
  refine lv_lstore_n (lv' := [(1, .long (-1628012467231642679)), (4, .int 1), (5, .int 3), (3, .int 1), (0, .ref o)]) hx hb dX9_digest_312 rfl hl (by decide) rfl (fun ls hl => ?_)
  refine lv_iinc (v := 2) (lv' := [(4, .int 2), (1, .long (-1628012467231642679)), (5, .int 3), (3, .int 1), (0, .ref o)]) hx hb dX9_digest_313 hl (k := 1) rfl (by decide) (by decide) rfl (fun ls hl => ?_)
  refine lv_goto (tgt := 291) hx hb dX9_digest_316 (by decide) ?_
  refine lv_iload hx hb dX9_digest_291 (lv_at hl 0 rfl) ?_
  refine lv_bipush (v := 10) hx hb dX9_digest_293 (by decide) ?_
  refine lv_icmp_ge (tgt := 319) hx hb dX9_digest_295 (by decide) (fun c => absurd c (by decide)) (fun _ => ?_)
  refine lv_lload_n hx hb dX9_digest_298 rfl (lv_at hl 1 rfl) ?_
  refine lv_ldc2 hx hb S.2.2.2.1 (S.2.2.2.2 _ kw_9_56) dX9_digest_299 ?_
  refine xlmul (v := 4871845736947731799) S dX9_digest_302 (by decide) ?_
  refine lv_aload_n hx hb dX9_digest_303 rfl (lv_at hl 4 rfl) ?_
  refine xg (ci := 9) S inX9 rfl hK hP mW_0 24 (by decide) mF_24 kw_6_171 rfl dX9_digest_304 ?_
  refine lv_iload hx hb dX9_digest_307 (lv_at hl 0 rfl) ?_
  refine xiald (t0 := 0) (v := 0) S hK hP mW_18 rfl (vin rfl) rfl dX9_digest_309 ?_
  refine lv_i2l (v := 0) hx hb dX9_digest_310 (by decide) ?_
  refine xladd (v := 4871845736947731799) S dX9_digest_311 (by decide) ?_
  refine lv_lstore_n (lv' := [(1, .long 4871845736947731799), (4, .int 2), (5, .int 3), (3, .int 1), (0, .ref o)]) hx hb dX9_digest_312 rfl hl (by decide) rfl (fun ls hl => ?_)
  refine lv_iinc (v := 3) (lv' := [(4, .int 3), (1, .long 4871845736947731799), (5, .int 3), (3, .int 1), (0, .ref o)]) hx hb dX9_digest_313 hl (k := 1) rfl (by decide) (by decide) rfl (fun ls hl => ?_)
  refine lv_goto (tgt := 291) hx hb dX9_digest_316 (by decide) ?_
  refine lv_iload hx hb dX9_digest_291 (lv_at hl 0 rfl) ?_
  refine lv_bipush (v := 10) hx hb dX9_digest_293 (by decide) ?_
  refine lv_icmp_ge (tgt := 319) hx hb dX9_digest_295 (by decide) (fun c => absurd c (by decide)) (fun _ => ?_)
  refine lv_lload_n hx hb dX9_digest_298 rfl (lv_at hl 1 rfl) ?_
  refine lv_ldc2 hx hb S.2.2.2.1 (S.2.2.2.2 _ kw_9_56) dX9_digest_299 ?_
  refine xlmul (v := 3453265255703272841) S dX9_digest_302 (by decide) ?_
  refine lv_aload_n hx hb dX9_digest_303 rfl (lv_at hl 4 rfl) ?_
  refine xg (ci := 9) S inX9 rfl hK hP mW_0 24 (by decide) mF_24 kw_6_171 rfl dX9_digest_304 ?_
  refine lv_iload hx hb dX9_digest_307 (lv_at hl 0 rfl) ?_
  refine xiald (t0 := 0) (v := 0) S hK hP mW_18 rfl (vin rfl) rfl dX9_digest_309 ?_
  refine lv_i2l (v := 0) hx hb dX9_digest_310 (by decide) ?_
  refine xladd (v := 3453265255703272841) S dX9_digest_311 (by decide) ?_
  refine lv_lstore_n (lv' := [(1, .long 3453265255703272841), (4, .int 3), (5, .int 3), (3, .int 1), (0, .ref o)]) hx hb dX9_digest_312 rfl hl (by decide) rfl (fun ls hl => ?_)
  refine lv_iinc (v := 4) (lv' := [(4, .int 4), (1, .long 3453265255703272841), (5, .int 3), (3, .int 1), (0, .ref o)]) hx hb dX9_digest_313 hl (k := 1) rfl (by decide) (by decide) rfl (fun ls hl => ?_)
  refine lv_goto (tgt := 291) hx hb dX9_digest_316 (by decide) ?_
  refine lv_iload hx hb dX9_digest_291 (lv_at hl 0 rfl) ?_
  refine lv_bipush (v := 10) hx hb dX9_digest_293 (by decide) ?_
  refine lv_icmp_ge (tgt := 319) hx hb dX9_digest_295 (by decide) (fun c => absurd c (by decide)) (fun _ => ?_)
  refine lv_lload_n hx hb dX9_digest_298 rfl (lv_at hl 1 rfl) ?_
  refine lv_ldc2 hx hb S.2.2.2.1 (S.2.2.2.2 _ kw_9_56) dX9_digest_299 ?_
  refine xlmul (v := (-3629241515455851625)) S dX9_digest_302 (by decide) ?_
  refine lv_aload_n hx hb dX9_digest_303 rfl (lv_at hl 4 rfl) ?_
  refine xg (ci := 9) S inX9 rfl hK hP mW_0 24 (by decide) mF_24 kw_6_171 rfl dX9_digest_304 ?_
  refine lv_iload hx hb dX9_digest_307 (lv_at hl 0 rfl) ?_
  refine xiald (t0 := 0) (v := 0) S hK hP mW_18 rfl (vin rfl) rfl dX9_digest_309 ?_
  refine lv_i2l (v := 0) hx hb dX9_digest_310 (by decide) ?_
  refine xladd (v := (-3629241515455851625)) S dX9_digest_311 (by decide) ?_
  refine lv_lstore_n (lv' := [(1, .long (-3629241515455851625)), (4, .int 4), (5, .int 3), (3, .int 1), (0, .ref o)]) hx hb dX9_digest_312 rfl hl (by decide) rfl (fun ls hl => ?_)
  refine lv_iinc (v := 5) (lv' := [(4, .int 5), (1, .long (-3629241515455851625)), (5, .int 3), (3, .int 1), (0, .ref o)]) hx hb dX9_digest_313 hl (k := 1) rfl (by decide) (by decide) rfl (fun ls hl => ?_)
  refine lv_goto (tgt := 291) hx hb dX9_digest_316 (by decide) ?_
  refine lv_iload hx hb dX9_digest_291 (lv_at hl 0 rfl) ?_
  refine lv_bipush (v := 10) hx hb dX9_digest_293 (by decide) ?_
  refine lv_icmp_ge (tgt := 319) hx hb dX9_digest_295 (by decide) (fun c => absurd c (by decide)) (fun _ => ?_)
  refine lv_lload_n hx hb dX9_digest_298 rfl (lv_at hl 1 rfl) ?_
  refine lv_ldc2 hx hb S.2.2.2.1 (S.2.2.2.2 _ kw_9_56) dX9_digest_299 ?_
  refine xlmul (v := (-1826022536874090679)) S dX9_digest_302 (by decide) ?_
  refine lv_aload_n hx hb dX9_digest_303 rfl (lv_at hl 4 rfl) ?_
  refine xg (ci := 9) S inX9 rfl hK hP mW_0 24 (by decide) mF_24 kw_6_171 rfl dX9_digest_304 ?_
  refine lv_iload hx hb dX9_digest_307 (lv_at hl 0 rfl) ?_
  refine xiald (t0 := 0) (v := 0) S hK hP mW_18 rfl (vin rfl) rfl dX9_digest_309 ?_
  refine lv_i2l (v := 0) hx hb dX9_digest_310 (by decide) ?_
  refine xladd (v := (-1826022536874090679)) S dX9_digest_311 (by decide) ?_
  refine lv_lstore_n (lv' := [(1, .long (-1826022536874090679)), (4, .int 5), (5, .int 3), (3, .int 1), (0, .ref o)]) hx hb dX9_digest_312 rfl hl (by decide) rfl (fun ls hl => ?_)
  refine lv_iinc (v := 6) (lv' := [(4, .int 6), (1, .long (-1826022536874090679)), (5, .int 3), (3, .int 1), (0, .ref o)]) hx hb dX9_digest_313 hl (k := 1) rfl (by decide) (by decide) rfl (fun ls hl => ?_)
  refine lv_goto (tgt := 291) hx hb dX9_digest_316 (by decide) ?_
  refine lv_iload hx hb dX9_digest_291 (lv_at hl 0 rfl) ?_
  refine lv_bipush (v := 10) hx hb dX9_digest_293 (by decide) ?_
  refine lv_icmp_ge (tgt := 319) hx hb dX9_digest_295 (by decide) (fun c => absurd c (by decide)) (fun _ => ?_)
  refine lv_lload_n hx hb dX9_digest_298 rfl (lv_at hl 1 rfl) ?_
  refine lv_ldc2 hx hb S.2.2.2.1 (S.2.2.2.2 _ kw_9_56) dX9_digest_299 ?_
  refine xlmul (v := (-1266466421968156201)) S dX9_digest_302 (by decide) ?_
  refine lv_aload_n hx hb dX9_digest_303 rfl (lv_at hl 4 rfl) ?_
  refine xg (ci := 9) S inX9 rfl hK hP mW_0 24 (by decide) mF_24 kw_6_171 rfl dX9_digest_304 ?_
  refine lv_iload hx hb dX9_digest_307 (lv_at hl 0 rfl) ?_
  refine xiald (t0 := 0) (v := 0) S hK hP mW_18 rfl (vin rfl) rfl dX9_digest_309 ?_
  refine lv_i2l (v := 0) hx hb dX9_digest_310 (by decide) ?_
  refine xladd (v := (-1266466421968156201)) S dX9_digest_311 (by decide) ?_
  refine lv_lstore_n (lv' := [(1, .long (-1266466421968156201)), (4, .int 6), (5, .int 3), (3, .int 1), (0, .ref o)]) hx hb dX9_digest_312 rfl hl (by decide) rfl (fun ls hl => ?_)
  refine lv_iinc (v := 7) (lv' := [(4, .int 7), (1, .long (-1266466421968156201)), (5, .int 3), (3, .int 1), (0, .ref o)]) hx hb dX9_digest_313 hl (k := 1) rfl (by decide) (by decide) rfl (fun ls hl => ?_)
  refine lv_goto (tgt := 291) hx hb dX9_digest_316 (by decide) ?_
  refine lv_iload hx hb dX9_digest_291 (lv_at hl 0 rfl) ?_
  refine lv_bipush (v := 10) hx hb dX9_digest_293 (by decide) ?_
  refine lv_icmp_ge (tgt := 319) hx hb dX9_digest_295 (by decide) (fun c => absurd c (by decide)) (fun _ => ?_)
  refine lv_lload_n hx hb dX9_digest_298 rfl (lv_at hl 1 rfl) ?_
  refine lv_ldc2 hx hb S.2.2.2.1 (S.2.2.2.2 _ kw_9_56) dX9_digest_299 ?_
  refine xlmul (v := (-2366970933593738999)) S dX9_digest_302 (by decide) ?_
  refine lv_aload_n hx hb dX9_digest_303 rfl (lv_at hl 4 rfl) ?_
  refine xg (ci := 9) S inX9 rfl hK hP mW_0 24 (by decide) mF_24 kw_6_171 rfl dX9_digest_304 ?_
  refine lv_iload hx hb dX9_digest_307 (lv_at hl 0 rfl) ?_
  refine xiald (t0 := 0) (v := 0) S hK hP mW_18 rfl (vin rfl) rfl dX9_digest_309 ?_
  refine lv_i2l (v := 0) hx hb dX9_digest_310 (by decide) ?_
  refine xladd (v := (-2366970933593738999)) S dX9_digest_311 (by decide) ?_
  refine lv_lstore_n (lv' := [(1, .long (-2366970933593738999)), (4, .int 7), (5, .int 3), (3, .int 1), (0, .ref o)]) hx hb dX9_digest_312 rfl hl (by decide) rfl (fun ls hl => ?_)
  refine lv_iinc (v := 8) (lv' := [(4, .int 8), (1, .long (-2366970933593738999)), (5, .int 3), (3, .int 1), (0, .ref o)]) hx hb dX9_digest_313 hl (k := 1) rfl (by decide) (by decide) rfl (fun ls hl => ?_)
  refine lv_goto (tgt := 291) hx hb dX9_digest_316 (by decide) ?_
  refine lv_iload hx hb dX9_digest_291 (lv_at hl 0 rfl) ?_
  refine lv_bipush (v := 10) hx hb dX9_digest_293 (by decide) ?_
  refine lv_icmp_ge (tgt := 319) hx hb dX9_digest_295 (by decide) (fun c => absurd c (by decide)) (fun _ => ?_)
  refine lv_lload_n hx hb dX9_digest_298 rfl (lv_at hl 1 rfl) ?_
  refine lv_ldc2 hx hb S.2.2.2.1 (S.2.2.2.2 _ kw_9_56) dX9_digest_299 ?_
  refine xlmul (v := 410877353432297495) S dX9_digest_302 (by decide) ?_
  refine lv_aload_n hx hb dX9_digest_303 rfl (lv_at hl 4 rfl) ?_
  refine xg (ci := 9) S inX9 rfl hK hP mW_0 24 (by decide) mF_24 kw_6_171 rfl dX9_digest_304 ?_
  refine lv_iload hx hb dX9_digest_307 (lv_at hl 0 rfl) ?_
  refine xiald (t0 := 0) (v := 0) S hK hP mW_18 rfl (vin rfl) rfl dX9_digest_309 ?_
  refine lv_i2l (v := 0) hx hb dX9_digest_310 (by decide) ?_
  refine xladd (v := 410877353432297495) S dX9_digest_311 (by decide) ?_
  refine lv_lstore_n (lv' := [(1, .long 410877353432297495), (4, .int 8), (5, .int 3), (3, .int 1), (0, .ref o)]) hx hb dX9_digest_312 rfl hl (by decide) rfl (fun ls hl => ?_)
  refine lv_iinc (v := 9) (lv' := [(4, .int 9), (1, .long 410877353432297495), (5, .int 3), (3, .int 1), (0, .ref o)]) hx hb dX9_digest_313 hl (k := 1) rfl (by decide) (by decide) rfl (fun ls hl => ?_)
  refine lv_goto (tgt := 291) hx hb dX9_digest_316 (by decide) ?_
  refine lv_iload hx hb dX9_digest_291 (lv_at hl 0 rfl) ?_
  refine lv_bipush (v := 10) hx hb dX9_digest_293 (by decide) ?_
  refine lv_icmp_ge (tgt := 319) hx hb dX9_digest_295 (by decide) (fun c => absurd c (by decide)) (fun _ => ?_)
  refine lv_lload_n hx hb dX9_digest_298 rfl (lv_at hl 1 rfl) ?_
  refine lv_ldc2 hx hb S.2.2.2.1 (S.2.2.2.2 _ kw_9_56) dX9_digest_299 ?_
  refine xlmul (v := (-5709546117308329271)) S dX9_digest_302 (by decide) ?_
  refine lv_aload_n hx hb dX9_digest_303 rfl (lv_at hl 4 rfl) ?_
  refine xg (ci := 9) S inX9 rfl hK hP mW_0 24 (by decide) mF_24 kw_6_171 rfl dX9_digest_304 ?_
  refine lv_iload hx hb dX9_digest_307 (lv_at hl 0 rfl) ?_
  refine xiald (t0 := 0) (v := 0) S hK hP mW_18 rfl (vin rfl) rfl dX9_digest_309 ?_
  refine lv_i2l (v := 0) hx hb dX9_digest_310 (by decide) ?_
  refine xladd (v := (-5709546117308329271)) S dX9_digest_311 (by decide) ?_
  refine lv_lstore_n (lv' := [(1, .long (-5709546117308329271)), (4, .int 9), (5, .int 3), (3, .int 1), (0, .ref o)]) hx hb dX9_digest_312 rfl hl (by decide) rfl (fun ls hl => ?_)
  refine lv_iinc (v := 10) (lv' := [(4, .int 10), (1, .long (-5709546117308329271)), (5, .int 3), (3, .int 1), (0, .ref o)]) hx hb dX9_digest_313 hl (k := 1) rfl (by decide) (by decide) rfl (fun ls hl => ?_)
  refine lv_goto (tgt := 291) hx hb dX9_digest_316 (by decide) ?_
  refine lv_iload hx hb dX9_digest_291 (lv_at hl 0 rfl) ?_
  refine lv_bipush (v := 10) hx hb dX9_digest_293 (by decide) ?_
  refine lv_icmp_ge (tgt := 319) hx hb dX9_digest_295 (by decide) (fun _ => ?_) (fun c => absurd c (by decide))
  refine lv_lload_n hx hb dX9_digest_319 rfl (lv_at hl 1 rfl) ?_
  refine lv_ldc2 hx hb S.2.2.2.1 (S.2.2.2.2 _ kw_9_56) dX9_digest_320 ?_
  refine xlmul (v := 7471511100537308759) S dX9_digest_323 (by decide) ?_
  refine lv_aload_n hx hb dX9_digest_324 rfl (lv_at hl 4 rfl) ?_
  refine xg (ci := 9) S inX9 rfl hK hP mW_0 23 (by decide) mF_23 kw_6_170 rfl dX9_digest_325 ?_
  refine lv_i2l (v := 0) hx hb dX9_digest_328 (by decide) ?_
  refine xladd (v := 7471511100537308759) S dX9_digest_329 (by decide) ?_
  refine lv_lstore_n (lv' := [(1, .long 7471511100537308759), (4, .int 10), (5, .int 3), (3, .int 1), (0, .ref o)]) hx hb dX9_digest_330 rfl hl (by decide) rfl (fun ls hl => ?_)
  refine lv_aload_n hx hb dX9_digest_331 rfl (lv_at hl 4 rfl) ?_
  refine xg (ci := 9) S inX9 rfl hK hP mW_0 25 (by decide) mF_25 kw_6_172 rfl dX9_digest_332 ?_
  refine lv_astore (lv' := [(4, .ref (q 18)), (1, .long 7471511100537308759), (5, .int 3), (3, .int 1), (0, .ref o)]) hx hb dX9_digest_335 hl (by decide) rfl (fun ls hl => ?_)
  refine lv_aload hx hb dX9_digest_337 (lv_at hl 0 rfl) ?_
  refine xalen (t0 := 0) (v := 0) S hK hP mW_19 rfl (by decide) dX9_digest_339 ?_
  refine lv_istore (lv' := [(5, .int 0), (4, .ref (q 18)), (1, .long 7471511100537308759), (3, .int 1), (0, .ref o)]) hx hb dX9_digest_340 hl (by decide) rfl (fun ls hl => ?_)
  refine lv_iconst (v := 0) hx hb dX9_digest_342 (by decide) ?_
  refine lv_istore (lv' := [(6, .int 0), (5, .int 0), (4, .ref (q 18)), (1, .long 7471511100537308759), (3, .int 1), (0, .ref o)]) hx hb dX9_digest_343 hl (by decide) rfl (fun ls hl => ?_)
  refine lv_iload hx hb dX9_digest_345 (lv_at hl 0 rfl) ?_
  refine lv_iload hx hb dX9_digest_347 (lv_at hl 1 rfl) ?_
  refine lv_icmp_ge (tgt := 375) hx hb dX9_digest_349 (by decide) (fun _ => ?_) (fun c => absurd c (by decide))
  refine lv_iload_n hx hb dX9_digest_375 rfl (lv_at hl 4 rfl) ?_
  refine lv_if_le (tgt := 381) hx hb dX9_digest_376 (by decide) (fun c => absurd c (by decide)) (fun _ => ?_)
  refine lv_lload_n hx hb dX9_digest_379 rfl (lv_at hl 3 rfl) ?_
  exact wEndl S hr hlocks hP hD hS (Nat.le_of_ble_eq_true rfl) (Nat.le_of_ble_eq_true rfl) dX9_digest_380 rfl

set_option maxHeartbeats 8000000 in
set_option maxRecDepth 100000 in
theorem m_meanPrinted_1 (l : Launch) (D : va_G) (cI cZ cJ : ClassId) (o : Nat) (q : Nat → Nat) (sz : Nat) : Met l yX9_meanPrinted (uW yX9_meanPrinted cX9_meanPrinted 1 (some .double)) ({ frames := 0, cells := 0, slots := 0, locals := 0 }) (va_Pc [.ref o] (wS D (tyL cI cZ cJ) (mW o 0 q cI cZ) sz)) (wQd (FP.dconst0) D (mW o 0 q cI cZ) (va_A (mW o 0 q cI cZ) sz)) 0 0 (va_A (mW o 0 q cI cZ) sz) := by
  refine wStart (lv := [(0, .ref o)]) (Qc := fun A => wQd (FP.dconst0) D (mW o 0 q cI cZ) A) (by decide) (Nat.le_of_ble_eq_true rfl) rfl ?_
  intro p e s m args below meth c ls A H S hr hlocks hnm hl hK hP hD hS hA
  have hx := S.1
  have hb := S.2.1
  refine lv_aload_n hx hb dX9_meanPrinted_0 rfl (lv_at hl 0 rfl) ?_
  refine lv_iconst (v := 0) hx hb dX9_meanPrinted_1 (by decide) ?_
  refine xp (ci := 9) (v := .int 0) S inX9 tyX9 tyX9_ok nmX9 rfl hK hP hD hS mW_0 0 (by decide) kw_6_147 rfl rfl rfl rfl (Nat.le_of_ble_eq_true rfl) dX9_meanPrinted_2 (fun H locs hP hD hS => ?_)
  have hP : va_P D vwCl (mW o 0 q cI cZ) H := hP
  have hD : va_D A (mW o 0 q cI cZ) := hD
  refine lv_aload_n hx hb dX9_meanPrinted_5 rfl (lv_at hl 0 rfl) ?_
  refine xg (ci := 9) S inX9 rfl hK hP mW_0 24 (by decide) mF_24 kw_6_171 rfl dX9_meanPrinted_6 ?_
  refine lv_iconst (v := 4) hx hb dX9_meanPrinted_9 (by decide) ?_
  refine xiald (t0 := 0) (v := 0) S hK hP mW_18 rfl (vin rfl) rfl dX9_meanPrinted_10 ?_
  refine lv_if_ne (tgt := 18) hx hb dX9_meanPrinted_11 (by decide) (fun c => absurd c (by decide)) (fun _ => ?_)
  refine lv_dconst0 hx hb dX9_meanPrinted_14 ?_
  refine lv_goto (tgt := 31) hx hb dX9_meanPrinted_15 (by decide) ?_
  exact wEndd S hr hlocks hP hD hS (Nat.le_of_ble_eq_true rfl) (Nat.le_of_ble_eq_true rfl) dX9_meanPrinted_31 rfl
