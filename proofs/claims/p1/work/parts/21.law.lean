section XM2
set_option maxHeartbeats 8000000 in
set_option maxRecDepth 100000 in
/-- the law, for a script of at most one call -/
theorem whole5 {p : Program} {e : Env} {s : State} {m : MethodId} {below : List Frame} {meth : Method} {c : Code} (l : Launch) (hst : l.stackTraces = false) {b L : Nat} {xs : Nat → Int32} (hL : L ≤ 5) (C0 : lw_At p s m meth c b L xs) : W p l e room_1 s m #[Value.ref b] below meth c s.heap [] 0 0 (lw_Z below #[Value.ref b] s) (entryFrame m ([Value.ref b] : List Value).toArray 9) := by
  obtain ⟨hx, hb, hr, hml, hown, hts, hX, hbl, hlocks, hgv⟩ := id C0
  obtain ⟨D, cI, cZ, cJ, hK⟩ := lawK hts
  obtain ⟨ra, ga, hB, hC⟩ := lawB hts hgv
  have S : CallFix p m c cL_law 9 s #[Value.ref b] uG RL := ⟨hx, hb, hml, hown, fun w h => hts w (uG_tbl h)⟩
  have hA : ∀ q : Nat, s.heap.size ≤ q → (fun q : Nat => s.heap.size ≤ q) q := fun _ h => h
  have hbA : ¬ (fun q : Nat => s.heap.size ≤ q) b := Nat.not_le.mpr hbl
  have hS : va_S (fun q : Nat => s.heap.size ≤ q) s.heap s.heap [] := va_S.rf
  have hP : va_P D vwCl [] s.heap := fun k q h => by simp at h
  have hD : va_D (fun q : Nat => s.heap.size ≤ q) [] := ⟨fun i j p q h => by simp at h, fun k q h => by simp at h⟩
  have hl := lv_entry ([.ref b]) (n := 9) (Nat.le_of_ble_eq_true rfl)
  rw [lg_entry_eq]
  generalize (lg_sl ([.ref b]) ++ List.replicate (9 - (lg_sl ([.ref b])).length) Slot.unset).toArray = ls at hl ⊢
  have hl : lv_has ls 9 [(0, .ref b)] := hl
  refine xnew (ci := 8) (fs := dF8) S inX8 tyX8 tyX8_ok kw_1_21 kw_1_22 kw_1_1 hK hP hD hS hA rfl dF8_ok (Nat.le_of_ble_eq_true rfl) (Nat.le_of_ble_eq_true rfl) dL_law_0 (fun o H hP hD hS => ?_)
  have hP : va_P D vwCl [(o, .inr (8, dF8))] H := hP
  have hD : va_D (fun q : Nat => s.heap.size ≤ q) [(o, .inr (8, dF8))] := hD
  refine lv_dup hx hb dL_law_3 rfl ?_
  refine aI (As := []) (k := 0) S (c_X8_init l D cI cZ cJ o ra ga H.size) mc_X8_init kw_1_23 rfl rfl ⟨Nat.le_of_ble_eq_true rfl, Nat.le_of_ble_eq_true rfl⟩ hP hD hK hS hA hB rfl hl.1 (Nat.le_of_ble_eq_true rfl) ⟨Nat.le_of_ble_eq_true rfl, Nat.le_of_ble_eq_true rfl⟩ dL_law_4 (fun u H locs hz hP hD hS => ?_)
  have hP : va_P D vwCl (xW o u cI cZ cJ) H := hP
  have hD : va_D (fun q : Nat => s.heap.size ≤ q) (xW o u cI cZ cJ) := hD
  refine lv_astore_n (lv' := [(1, .ref o), (0, .ref b)]) hx hb dL_law_7 rfl hl (by decide) rfl (fun ls hl => ?_)
  refine xnew (ci := 9) (fs := dF9) S inX9 tyX9 tyX9_ok kw_6_142 kw_6_143 kw_1_11 hK hP hD hS hA rfl dF9_ok (Nat.le_of_ble_eq_true rfl) (Nat.le_of_ble_eq_true rfl) dL_law_8 (fun om H hP hD hS => ?_)
  refine lv_dup hx hb dL_law_11 rfl ?_
  refine rI (As := []) (k := 88) S (c_X9_initw l D cI cZ cJ om H.size) mc_X9_init kw_6_144 rfl rfl ⟨Nat.le_of_ble_eq_true rfl, Nat.le_of_ble_eq_true rfl⟩ hP hD hK hS hA rfl hl.1 (Nat.le_of_ble_eq_true rfl) ⟨Nat.le_of_ble_eq_true rfl, Nat.le_of_ble_eq_true rfl⟩ dL_law_12 (fun q H locs hz hP hD hS => ?_)
  have hP : va_P D vwCl (xW o u cI cZ cJ ++ mW om 0 q cI cZ) H := hP
  have hD : va_D (fun q : Nat => s.heap.size ≤ q) (xW o u cI cZ cJ ++ mW om 0 q cI cZ) := hD
  have hP := swapP hP
  have hD := swapD hD
  refine lv_astore_n (lv' := [(2, .ref om), (1, .ref o), (0, .ref b)]) hx hb dL_law_15 rfl hl (by decide) rfl (fun ls hl => ?_)
  refine lv_iconst (v := 1) hx hb dL_law_16 (by decide) ?_
  refine xnewa (ty := .long) (t0 := 2) (N := 1) (a0 := (1, .inr (.inl (fun _ => 0)))) S kw_9_58 rfl (Or.inr (Or.inr rfl)) hK hP hD hS hA rfl (fun _ => rfl) (by decide) (by decide) (by decide) (Nat.le_of_ble_eq_true rfl) (Nat.le_of_ble_eq_true rfl) dL_law_17 (fun ao H hP hD hS => ?_)
  rw [List.append_assoc] at hP hD
  refine lv_astore_n (lv' := [(3, .ref ao), (2, .ref om), (1, .ref o), (0, .ref b)]) hx hb dL_law_19 rfl hl (by decide) rfl (fun ls hl => ?_)
  refine lv_iconst (v := 0) hx hb dL_law_20 (by decide) ?_
  refine lv_istore (lv' := [(4, .int 0), (3, .ref ao), (2, .ref om), (1, .ref o), (0, .ref b)]) hx hb dL_law_21 hl (by decide) rfl (fun ls hl => ?_)
  refine lv_iload hx hb dL_law_23 (lv_at hl 0 rfl) ?_
  refine lv_aload_n hx hb dL_law_25 rfl (lv_at hl 4 rfl) ?_
  refine va_slen hx hb hX hbl hbA hS dL_law_26 ?_
  refine lv_iconst (v := 5) hx hb dL_law_27 (by decide) ?_
  have short : ∀ v : Int32, (Int32.ofNat L - 5 = v) → v < 0 → W p l e room_1 s m #[Value.ref b] below meth c H locs 120 12958 (lw_Z below #[Value.ref b] s) (F0 m 28 ls [.int 5, .int (Int32.ofNat L), .int 0]) := by
    intro v hv hn
    refine xisub (v := v) S dL_law_28 hv ?_
    refine lv_icmp_gt (tgt := 1525) hx hb dL_law_29 (by decide) (fun _ => ?_) (fun c => absurd hn c)
    refine lv_iconst (v := 1) hx hb dL_law_1525 (by decide) ?_
    refine va_forget (fun q hq => hS.2.2 q hq) ?_
    refine W.widen (k := 600002) (n := 7302232) (Nat.le_of_ble_eq_true rfl) (Nat.le_of_ble_eq_true rfl) ?_
    exact lw_ret (Drawn.sameBut.refl s.drawn lw_cs) hx hb hr hlocks dL_law_1526
  refine W.widen (k := 120) (n := 12958) (Nat.le_of_ble_eq_true rfl) (Nat.le_of_ble_eq_true rfl) ?_
  rcases (show L = 0 ∨ L = 1 ∨ L = 2 ∨ L = 3 ∨ L = 4 ∨ L = 5 by omega) with rfl | rfl | rfl | rfl | rfl | rfl
  · exact short (-5) (by decide) (by decide)
  · exact short (-4) (by decide) (by decide)
  · exact short (-3) (by decide) (by decide)
  · exact short (-2) (by decide) (by decide)
  · exact short (-1) (by decide) (by decide)
  · clear short
    refine xisub (v := 0) S dL_law_28 (by decide) ?_
    refine lv_icmp_gt (tgt := 1525) hx hb dL_law_29 (by decide) (fun c => absurd c (by decide)) (fun _ => ?_)
    refine lv_aload_n hx hb dL_law_32 rfl (lv_at hl 4 rfl) ?_
    refine lv_iload hx hb dL_law_33 (lv_at hl 0 rfl) ?_
    refine xsld (v := xs 0) S hX hbl hbA hS (vin rfl) rfl dL_law_35 ?_
    refine lv_bipush (v := 31) hx hb dL_law_36 (by decide) ?_
    obtain ⟨j, hj, hj2⟩ := pk_andE (xs 0) (m := 31) 5 (by decide)
    refine xiand (v := nI j) S dL_law_38 hj2 ?_
    have big : ∀ v : Int32, nI j = v → (20 : Int) < v.toInt → W p l e room_1 s m #[Value.ref b] below meth c H locs 120 12958 (lw_Z below #[Value.ref b] s) (F0 m 39 ls [.int (nI j)]) := by
      intro v hv hn
      rw [hv]
      refine lv_tableOut (tgt := 1519) hx hb dL_law_39 (Or.inr hn) (by decide) ?_
      exact law_tail S hr hlocks hX hbl (lv_sub hl [0, 4] rfl) hS (Nat.le_of_ble_eq_true rfl) (Nat.le_of_ble_eq_true rfl)
    rcases (show j = 0 ∨ j = 1 ∨ j = 2 ∨ j = 3 ∨ j = 4 ∨ j = 5 ∨ j = 6 ∨ j = 7 ∨ j = 8 ∨ j = 9 ∨ j = 10 ∨ j = 11 ∨ j = 12 ∨ j = 13 ∨ j = 14 ∨ j = 15 ∨ j = 16 ∨ j = 17 ∨ j = 18 ∨ j = 19 ∨ j = 20 ∨ j = 21 ∨ j = 22 ∨ j = 23 ∨ j = 24 ∨ j = 25 ∨ j = 26 ∨ j = 27 ∨ j = 28 ∨ j = 29 ∨ j = 30 ∨ j = 31 by omega) with rfl | rfl | rfl | rfl | rfl | rfl | rfl | rfl | rfl | rfl | rfl | rfl | rfl | rfl | rfl | rfl | rfl | rfl | rfl | rfl | rfl | rfl | rfl | rfl | rfl | rfl | rfl | rfl | rfl | rfl | rfl | rfl
    · refine lv_tableIn (off := 97) (tgt := 136) hx hb dL_law_39 (by decide) (by decide) (by decide) (by decide) ?_
      exact law_0 l hst D cI cZ cJ S hr hlocks hX hbl hK ra ga hB hC _ _ _ _ rfl rfl rfl rfl o om ao u q ls H locs hl hP hD hS
    · refine lv_tableIn (off := 165) (tgt := 204) hx hb dL_law_39 (by decide) (by decide) (by decide) (by decide) ?_
      exact law_1 l hst D cI cZ cJ S hr hlocks hX hbl hK ra ga hB hC _ _ _ _ rfl rfl rfl rfl o om ao u q ls H locs hl hP hD hS
    · refine lv_tableIn (off := 245) (tgt := 284) hx hb dL_law_39 (by decide) (by decide) (by decide) (by decide) ?_
      exact law_2 l hst D cI cZ cJ S hr hlocks hX hbl hK ra ga hB hC _ _ _ _ rfl rfl rfl rfl o om ao u q ls H locs hl hP hD hS
    · refine lv_tableIn (off := 337) (tgt := 376) hx hb dL_law_39 (by decide) (by decide) (by decide) (by decide) ?_
      exact law_3 l hst D cI cZ cJ S hr hlocks hX hbl hK ra ga hB hC _ _ _ _ rfl rfl rfl rfl o om ao u q ls H locs hl hP hD hS
    · refine lv_tableIn (off := 417) (tgt := 456) hx hb dL_law_39 (by decide) (by decide) (by decide) (by decide) ?_
      exact law_4 l hst D cI cZ cJ S hr hlocks hX hbl hK ra ga hB hC _ _ _ _ rfl rfl rfl rfl o om ao u q ls H locs hl hP hD hS
    · refine lv_tableIn (off := 485) (tgt := 524) hx hb dL_law_39 (by decide) (by decide) (by decide) (by decide) ?_
      exact law_5 l hst D cI cZ cJ S hr hlocks hX hbl hK ra ga hB hC _ _ _ _ rfl rfl rfl rfl o om ao u q ls H locs hl hP hD hS
    · refine lv_tableIn (off := 577) (tgt := 616) hx hb dL_law_39 (by decide) (by decide) (by decide) (by decide) ?_
      exact law_6 l hst D cI cZ cJ S hr hlocks hX hbl hK ra ga hB hC _ _ _ _ rfl rfl rfl rfl o om ao u q ls H locs hl hP hD hS
    · refine lv_tableIn (off := 645) (tgt := 684) hx hb dL_law_39 (by decide) (by decide) (by decide) (by decide) ?_
      exact law_7 l hst D cI cZ cJ S hr hlocks hX hbl hK ra ga hB hC _ _ _ _ rfl rfl rfl rfl o om ao u q ls H locs hl hP hD hS
    · refine lv_tableIn (off := 713) (tgt := 752) hx hb dL_law_39 (by decide) (by decide) (by decide) (by decide) ?_
      exact law_8 l hst D cI cZ cJ S hr hlocks hX hbl hK ra ga hB hC _ _ _ _ rfl rfl rfl rfl o om ao u q ls H locs hl hP hD hS
    · refine lv_tableIn (off := 781) (tgt := 820) hx hb dL_law_39 (by decide) (by decide) (by decide) (by decide) ?_
      exact law_9 l hst D cI cZ cJ S hr hlocks hX hbl hK ra ga hB hC _ _ _ _ rfl rfl rfl rfl o om ao u q ls H locs hl hP hD hS
    · refine lv_tableIn (off := 837) (tgt := 876) hx hb dL_law_39 (by decide) (by decide) (by decide) (by decide) ?_
      exact law_10 l hst D cI cZ cJ S hr hlocks hX hbl hK ra ga hB hC _ _ _ _ rfl rfl rfl rfl o om ao u q ls H locs hl hP hD hS
    · refine lv_tableIn (off := 917) (tgt := 956) hx hb dL_law_39 (by decide) (by decide) (by decide) (by decide) ?_
      exact law_11 l hst D cI cZ cJ S hr hlocks hX hbl hK ra ga hB hC _ _ _ _ rfl rfl rfl rfl o om ao u q ls H locs hl hP hD hS
    · refine lv_tableIn (off := 985) (tgt := 1024) hx hb dL_law_39 (by decide) (by decide) (by decide) (by decide) ?_
      exact law_12 l hst D cI cZ cJ S hr hlocks hX hbl hK ra ga hB hC _ _ _ _ rfl rfl rfl rfl o om ao u q ls H locs hl hP hD hS
    · refine lv_tableIn (off := 1029) (tgt := 1068) hx hb dL_law_39 (by decide) (by decide) (by decide) (by decide) ?_
      exact law_13 l hst D cI cZ cJ S hr hlocks hX hbl hK ra ga hB hC _ _ _ _ rfl rfl rfl rfl o om ao u q ls H locs hl hP hD hS
    · refine lv_tableIn (off := 1085) (tgt := 1124) hx hb dL_law_39 (by decide) (by decide) (by decide) (by decide) ?_
      exact law_14 l hst D cI cZ cJ S hr hlocks hX hbl hK ra ga hB hC _ _ _ _ rfl rfl rfl rfl o om ao u q ls H locs hl hP hD hS
    · refine lv_tableIn (off := 1153) (tgt := 1192) hx hb dL_law_39 (by decide) (by decide) (by decide) (by decide) ?_
      exact law_15 l hst D cI cZ cJ S hr hlocks hX hbl hK ra ga hB hC _ _ _ _ rfl rfl rfl rfl o om ao u q ls H locs hl hP hD hS
    · refine lv_tableIn (off := 1194) (tgt := 1233) hx hb dL_law_39 (by decide) (by decide) (by decide) (by decide) ?_
      exact law_16 l hst D cI cZ cJ S hr hlocks hX hbl hK ra ga hB hC _ _ _ _ rfl rfl rfl rfl o om ao u q ls H locs hl hP hD hS
    · refine lv_tableIn (off := 1250) (tgt := 1289) hx hb dL_law_39 (by decide) (by decide) (by decide) (by decide) ?_
      exact law_17 l hst D cI cZ cJ S hr hlocks hX hbl hK ra ga hB hC _ _ _ _ rfl rfl rfl rfl o om ao u q ls H locs hl hP hD hS
    · refine lv_tableIn (off := 1330) (tgt := 1369) hx hb dL_law_39 (by decide) (by decide) (by decide) (by decide) ?_
      exact law_18 l hst D cI cZ cJ S hr hlocks hX hbl hK ra ga hB hC _ _ _ _ rfl rfl rfl rfl o om ao u q ls H locs hl hP hD hS
    · refine lv_tableIn (off := 1398) (tgt := 1437) hx hb dL_law_39 (by decide) (by decide) (by decide) (by decide) ?_
      exact law_19 l hst D cI cZ cJ S hr hlocks hX hbl hK ra ga hB hC _ _ _ _ rfl rfl rfl rfl o om ao u q ls H locs hl hP hD hS
    · refine lv_tableIn (off := 1466) (tgt := 1505) hx hb dL_law_39 (by decide) (by decide) (by decide) (by decide) ?_
      exact law_20 l hst D cI cZ cJ S hr hlocks hX hbl hK ra ga hB hC _ _ _ _ rfl rfl rfl rfl o om ao u q ls H locs hl hP hD hS
    · exact big 21 (by decide) (by decide)
    · exact big 22 (by decide) (by decide)
    · exact big 23 (by decide) (by decide)
    · exact big 24 (by decide) (by decide)
    · exact big 25 (by decide) (by decide)
    · exact big 26 (by decide) (by decide)
    · exact big 27 (by decide) (by decide)
    · exact big 28 (by decide) (by decide)
    · exact big 29 (by decide) (by decide)
    · exact big 30 (by decide) (by decide)
    · exact big 31 (by decide) (by decide)
end XM2
