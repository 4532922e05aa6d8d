section XR
abbrev lObj : MethodName := ⟨"java/lang/Object", "<init>", "()V"⟩
/-- what the tables say of a constructor -/
def mC (y : MethodName) (b : ByteArray) (n : Nat) (np : Nat) : Prop := Cond.instanceMethod y ∈ uG ∧ Cond.initialized y.cls ∈ uG ∧ Cond.code y b n none ∈ uG ∧ y.name = "<init>" ∧ y.cls ≠ "java/lang/invoke/MethodHandle" ∧ y.cls ≠ "java/lang/invoke/VarHandle" ∧ (parseMethodDescriptor y.desc).map (fun d => d.parameters.length) = some np
theorem ra_eq {U : State} {cA cB : ClassId} {ty : FieldType} (hty : ty = .int ∨ ty = .boolean ∨ ty = .long) (h1 : va_RA U cA ty) (h2 : va_RA U cB ty) : cA = cB := by
  rcases hty with rfl | rfl | rfl <;> exact Option.some.inj (h1.symm.trans h2)
theorem va_Pl {D : va_G} {cl : List vw_C} {ws x : va_W} {H : Heap} (h : va_P D cl (ws ++ x) H) : va_P D cl ws H := fun k q hk => h k q (by rw [List.getElem?_append_left (List.getElem?_eq_some_iff.mp hk).1]; exact hk)
theorem va_Dl {A : Nat → Prop} {ws x : va_W} (h : va_D A (ws ++ x)) : va_D A ws := by
  have e : ∀ (k : Nat) (q : Nat × va_E), ws[k]? = some q → (ws ++ x)[k]? = some q := fun k q hk => by rw [List.getElem?_append_left (List.getElem?_eq_some_iff.mp hk).1]; exact hk
  exact ⟨fun i j p q hp hq he => h.1 i j p q (e i p hp) (e j q hq) he, fun k q hk => h.2 k q (e k q hk)⟩
theorem joinSet {A0 : Nat → Prop} {D : va_G} {cl : List vw_C} {ws w2 : va_W} {H H1 : Heap} {q k : Nat} {e0 e1 : va_E} (hP : va_P D cl ws H) (hD : va_D A0 ws) (he : ws[k]? = some (q, e0)) (hk : ∀ a : Nat, a < H.size → ¬ va_A [(q, e0)] H.size a → H1[a]? = H[a]?) (hF : ∀ a, va_A [(q, e0)] H.size a → A0 a) (hP1 : va_P D cl ((q, e1) :: w2) H1) (hD1 : va_D (va_A [(q, e0)] H.size) ((q, e1) :: w2)) : va_P D cl (ws.set k (q, e1) ++ w2) H1 ∧ va_D A0 (ws.set k (q, e1) ++ w2) := by
  have hlen := (List.getElem?_eq_some_iff.mp he).1
  have one : ∀ (a : Nat) (e : va_E) (k' : Nat), [(q, e0)][k']? = some (a, e) → a = q := by
    intro a e k' h
    have h9 : (a, e) ∈ [(q, e0)] := List.mem_of_getElem? h
    exact (Prod.ext_iff.mp (List.mem_singleton.mp h9)).1
  have cellA : ∀ (j : Nat) (x : Nat × va_E), ws[j]? = some x → j ≠ k → H1[x.1]? = H[x.1]? := by
    intro j x hx hj
    refine hk x.1 (hP j x hx).lt (fun h => ?_)
    rcases h with ⟨k2, e, h⟩ | h
    · exact hj (hD.1 j k x (q, e0) hx he (one _ _ _ h))
    · exact absurd (hP j x hx).lt (Nat.not_lt.mpr h)
  have get : ∀ (j : Nat) (x : Nat × va_E), (ws.set k (q, e1))[j]? = some x → (j = k ∧ x = (q, e1)) ∨ (j ≠ k ∧ ws[j]? = some x) := by
    intro j x hx
    by_cases h : j = k
    · subst h
      rw [List.getElem?_set_self hlen] at hx
      exact Or.inl ⟨rfl, (Option.some.inj hx).symm⟩
    · rw [List.getElem?_set_ne (Ne.symm h)] at hx
      exact Or.inr ⟨h, hx⟩
  have tlP : va_P D cl w2 H1 := fun j x hx => hP1 (j + 1) x (by rw [List.getElem?_cons_succ]; exact hx)
  have tlD : va_D (va_A [(q, e0)] H.size) w2 := ⟨fun i j p r hp hr hpr => Nat.succ.inj (hD1.1 (i + 1) (j + 1) p r (by rw [List.getElem?_cons_succ]; exact hp) (by rw [List.getElem?_cons_succ]; exact hr) hpr), fun j x hx => hD1.2 (j + 1) x (by rw [List.getElem?_cons_succ]; exact hx)⟩
  refine ⟨va_P.app (fun j x hx => ?_) tlP, va_D.app (hD.set he) (tlD.weaken (fun _ x _ h => hF x.1 h)) (fun i j x y hx hy hxy => ?_)⟩
  · rcases get j x hx with ⟨-, rfl⟩ | ⟨hj, hx⟩
    · exact hP1 0 (q, e1) rfl
    · exact (hP j x hx).kept (cellA j x hx hj)
  · have hyA := tlD.2 j y hy
    rcases get i x hx with ⟨-, rfl⟩ | ⟨hj, hx⟩
    · have h9 : (0 : Nat) = j + 1 := hD1.1 0 (j + 1) (q, e1) y rfl (by rw [List.getElem?_cons_succ]; exact hy) hxy
      omega
    · rcases hyA with ⟨k2, e, h⟩ | h
      · exact hj (hD.1 i k x (q, e0) hx he (hxy.trans (one _ _ _ h)))
      · have h8 := (hP i x hx).lt
        omega
/-- a world comes out, with cells that are new -/
abbrev wQc (D : va_G) (ws : (Nat → Nat) → va_W) (A : Nat → Prop) : Array Value → State → Outcome → State → Prop := va_Qv (fun (_ : Nat → Nat) => True) (fun u t => va_P D vwCl (ws u) t.heap ∧ va_D A (ws u)) A
abbrev wQl (v : Int64) (D : va_G) (ws : va_W) (A : Nat → Prop) : Array Value → State → Outcome → State → Prop := va_Ql (fun r (_ : Unit) => r = v) (fun _ t => va_P D vwCl ws t.heap ∧ va_D A ws) A
variable {p : Program} {l : Launch} {e : Env} {R : Room} {s : State} {m : MethodId} {args : Array Value} {below : List Frame} {meth : Method} {c : Code} {H H0 : Heap} {locs : List Loc} {cells slots : Nat} {Q : State → Prop}
variable {cc b : ByteArray} {pc nL n idx mc ms : Nat} {ls : Array Slot} {As rest : List Value} {own : String} {y : MethodName} {r : Option FieldType} {rm : Room} {D : va_G} {tys : List (ClassId × FieldType)} {ws ws' : va_W} {A : Nat → Prop}
theorem xnewa {ty : FieldType} {atype : ArrayType} {t0 : Nat} {cA : ClassId} {n : Int32} {N : Nat} {a0 : vp_A} (S : CallFix p m c cc nL s args uG own) (harr : Cond.arrayClass ty ∈ uG) (hat : newarray.typeOf atype = ty) (hty : ty = .int ∨ ty = .boolean ∨ ty = .long) (hK : va_K D vwCl tys s) (hP : va_P D vwCl ws H) (hD : va_D A ws) (hS : va_S A H0 H locs) (hA : ∀ q, H0.size ≤ q → A q) (ht : tys[t0]? = some (cA, ty)) (ha : ∀ cA : ClassId, vp_cell cA a0 = arrV cA N (fun _ => defaultValue ty)) (hn : ¬ n < 0) (hN : n.toNatClampNeg = N) (hbytes : N * componentBytes ty ≤ 536870912) (hcells : cells + 1 ≤ R.cells) (hslots : slots + N ≤ R.slots) (hdg : decode cc pc = .ok (.newarray atype, 2))
    (kk : ∀ (q : Nat) (H1 : Heap), va_P D vwCl (ws ++ [(q, .inl (cA, a0))]) H1 → va_D A (ws ++ [(q, .inl (cA, a0))]) → va_S A H0 H1 locs → W p l e R s m args below meth c H1 locs (cells + 1) (slots + N) Q (F0 m (pc + 2) ls (.ref q :: rest))) : W p l e R s m args below meth c H locs cells slots Q (F0 m pc ls (.int n :: rest)) := by
  refine va_newa S.1 S.2.1 (atype := atype) (by rw [hat]; exact S.2.2.2.2 _ harr) hat hK hP hD hS hA ha hn hN hbytes hcells hslots hdg (fun q cB H1 hK1 hP1 hD1 hS1 => ?_)
  have e : cB = cA := ra_eq hty (hK1.2 tys.length (cB, ty) (by rw [List.getElem?_append_right (Nat.le_refl _), Nat.sub_self]; rfl)).2 (hK.2 t0 _ ht).2
  rw [e] at hP1 hD1
  exact kk q H1 hP1 hD1 hS1
theorem xnew {C : String} {T : u_T} {N ci : Nat} {fs : List Value} (S : CallFix p m c cc nL s args uG own) (hin : ∀ w ∈ u_ws C T N, w ∈ uG) (ty : Nat → FieldType) (hty : ∀ k, k < N → parseFieldDescriptor (T k).2.2.1 = some (ty k)) (hcl : Cond.classLink own idx C ∈ uG) (hinst : Cond.instantiable C N ∈ uG) (hini : Cond.initialized C ∈ uG) (hK : va_K D vwCl tys s) (hP : va_P D vwCl ws H) (hD : va_D A ws) (hS : va_S A H0 H locs) (hA : ∀ q, H0.size ≤ q → A q) (hc : vwCl[ci]? = some (C, T, N)) (hfs : ∀ j, j < N → defaultValue (ty j) = vp_V fs j) (hcells : cells + 1 ≤ R.cells) (hslots : slots + N ≤ R.slots) (hdg : decode cc pc = .ok (.new idx, 3))
    (kk : ∀ (q : Nat) (H1 : Heap), va_P D vwCl (ws ++ [(q, .inr (ci, fs))]) H1 → va_D A (ws ++ [(q, .inr (ci, fs))]) → va_S A H0 H1 locs → W p l e R s m args below meth c H1 locs (cells + 1) (slots + N) Q (F0 m (pc + 3) ls (.ref q :: rest))) : W p l e R s m args below meth c H locs cells slots Q (F0 m pc ls rest) :=
  va_new S.1 S.2.1 S.2.2.2.2 hin ty hty S.2.2.2.1 (S.2.2.2.2 _ hcl) (S.2.2.2.2 _ hinst) (S.2.2.2.2 _ hini) hK hP hD hS hA hc hfs hcells hslots hdg kk
theorem xobj {a : Nat} (S : CallFix p m c cc nL s args uG own) (hl : Cond.methodLink own idx lObj ∈ uG) (hi : Cond.instanceMethod lObj ∈ uG) (hc : Cond.code lObj object_method_1_code 1 none ∈ uG) (hls : ls.size = nL) (hdg : decode cc pc = .ok (.invokespecial idx, 3)) (hframes : 1 ≤ R.frames) (hlocals : (rest.map fun v => v.category).sum + 12 ≤ R.locals)
    (kk : W p l e R s m args below meth c H locs cells slots Q (F0 m (pc + 3) ls rest)) : W p l e R s m args below meth c H locs cells slots Q (F0 m pc ls (.ref a :: rest)) :=
  W.objInit S.1 S.2.1 S.2.2.2.1 (S.2.2.2.2 _ hl) (S.2.2.2.2 _ hi) (S.2.2.2.2 _ hc) rfl (hls.trans S.2.2.1.symm) rfl hdg hframes (by simpa [F0] using hlocals) kk
/-- a constructor: its own cell goes in; it comes back, with cells that are new -/
theorem rI {q k : Nat} {e0 : va_E} {e1 : (Nat → Nat) → va_E} {w2 : (Nat → Nat) → va_W} (S : CallFix p m c cc nL s args uG own) (hM : Met l y (uW y b n none) rm (va_Pc (.ref q :: As) (wS D tys [(q, e0)] H.size)) (wQc D (fun u => (q, e1 u) :: w2 u) (va_A [(q, e0)] H.size)) mc ms (va_A [(q, e0)] H.size)) (hI : mC y b n As.length) (hL : Cond.methodLink own idx y ∈ uG) (hz1 : rm.cells = mc) (hz2 : rm.slots = ms) (hR : rm.frames + 1 ≤ R.frames ∧ 8 + (n + 11) + rm.locals ≤ R.locals) (hP : va_P D vwCl ws H) (hD : va_D A ws) (hK : va_K D vwCl tys s) (hS : va_S A H0 H locs) (hA : ∀ q, H0.size ≤ q → A q) (he : ws[k]? = some (q, e0)) (hls : ls.size = nL) (hst : (rest.map fun v => v.category).sum ≤ 8) (hf : cells + mc ≤ R.cells ∧ slots + ms ≤ R.slots) (hdg : decode cc pc = .ok (.invokespecial idx, 3)) (kk : ∀ (u : Nat → Nat) (H1 : Heap) (locs1 : List Loc), H.size ≤ H1.size → va_P D vwCl (ws.set k (q, e1 u) ++ w2 u) H1 → va_D A (ws.set k (q, e1 u) ++ w2 u) → va_S A H0 H1 locs1 → W p l e R s m args below meth c H1 locs1 (cells + mc) (slots + ms) Q (F0 m (pc + 3) ls rest)) : W p l e R s m args below meth c H locs cells slots Q (F0 m pc ls (As.reverse ++ .ref q :: rest)) := by
  obtain ⟨i1, i3, i4, i8, i5, i6, i7⟩ := hI
  have hF : ∀ a, va_A [(q, e0)] H.size a → A a := by
    intro a h
    rcases h with ⟨k2, e, h⟩ | h
    · have h9 : (a, e) ∈ [(q, e0)] := List.mem_of_getElem? h
      have h8 : a = q := (Prod.ext_iff.mp (List.mem_singleton.mp h9)).1
      rw [h8]
      exact hD.2 k (q, e0) he
    · exact hA a (Nat.le_trans hS.1 h)
  have hP0 : va_P D vwCl [(q, e0)] H := fun j x hx => by
    have h9 := List.mem_singleton.mp (List.mem_of_getElem? hx)
    rw [h9]
    exact hP k _ he
  have hD0 : va_D (fun _ => True) [(q, e0)] := ⟨fun i j x z hx hz _ => by
    have h1 := (List.getElem?_eq_some_iff.mp hx).1
    have h2 := (List.getElem?_eq_some_iff.mp hz).1
    simp only [List.length_singleton] at h1 h2
    omega, fun _ _ _ => trivial⟩
  refine va_callv (va_runI S hM (cwI As.length S.2.2.2.2 (gd_W i4) rfl hz1 hz2 (S.2.2.2.2 _ i3) (S.2.2.2.2 _ hL) (S.2.2.2.2 _ i1) i8 ⟨i5, i6, i7⟩ hR) ⟨wS_blind, fun U hU hW => ⟨rfl, by rw [hU], by rw [hU]; exact hP0, va_K.moved hW.alike hK, hD0⟩⟩ rfl rfl hls rfl (lv_room hst) hdg hf) hS (fun q _ h => hF q h) hF (fun u t H1 locs1 ht hvm hw hB hz1 hk1 hS1 => ?_)
  rw [ht] at hB
  obtain ⟨g1, g2⟩ := joinSet hP hD he hk1 hF hB.1 hB.2
  exact kk u H1 locs1 hz1 g1 g2 hS1
/-- a static method that writes one cell alone -/
theorem rSf {q k : Nat} {e0 e1 : va_E} (S : CallFix p m c cc nL s args uG own) (hM : Met l y (uW y b n none) rm (va_Pc As (wS D tys [(q, e0)] H.size)) (wQv D [(q, e1)] (va_A [(q, e0)] H.size)) mc ms (va_A [(q, e0)] H.size)) (hI : mS y b n none As.length) (hL : Cond.methodLink own idx y ∈ uG) (hz1 : rm.cells = mc) (hz2 : rm.slots = ms) (hR : rm.frames + 1 ≤ R.frames ∧ 8 + (n + 11) + rm.locals ≤ R.locals) (hP : va_P D vwCl ws H) (hD : va_D A ws) (hK : va_K D vwCl tys s) (hS : va_S A H0 H locs) (hA : ∀ q, H0.size ≤ q → A q) (he : ws[k]? = some (q, e0)) (hls : ls.size = nL) (hst : (rest.map fun v => v.category).sum ≤ 8) (hf : cells + mc ≤ R.cells ∧ slots + ms ≤ R.slots) (hdg : decode cc pc = .ok (.invokestatic idx, 3)) (kk : ∀ (H1 : Heap) (locs1 : List Loc), H.size ≤ H1.size → va_P D vwCl (ws.set k (q, e1)) H1 → va_D A (ws.set k (q, e1)) → va_S A H0 H1 locs1 → W p l e R s m args below meth c H1 locs1 (cells + mc) (slots + ms) Q (F0 m (pc + 3) ls rest)) : W p l e R s m args below meth c H locs cells slots Q (F0 m pc ls (As.reverse ++ rest)) := by
  obtain ⟨i1, i3, i4, i5, i6, i7⟩ := hI
  have hF : ∀ a, va_A [(q, e0)] H.size a → A a := by
    intro a h
    rcases h with ⟨k2, e, h⟩ | h
    · have h9 : (a, e) ∈ [(q, e0)] := List.mem_of_getElem? h
      have h8 : a = q := (Prod.ext_iff.mp (List.mem_singleton.mp h9)).1
      rw [h8]
      exact hD.2 k (q, e0) he
    · exact hA a (Nat.le_trans hS.1 h)
  have hP0 : va_P D vwCl [(q, e0)] H := fun j x hx => by
    have h9 := List.mem_singleton.mp (List.mem_of_getElem? hx)
    rw [h9]
    exact hP k _ he
  have hD0 : va_D (fun _ => True) [(q, e0)] := ⟨fun i j x z hx hz _ => by
    have h1 := (List.getElem?_eq_some_iff.mp hx).1
    have h2 := (List.getElem?_eq_some_iff.mp hz).1
    simp only [List.length_singleton] at h1 h2
    omega, fun _ _ _ => trivial⟩
  refine va_callv (va_runS S hM (va_cwS As.length S.2.2.2.2 (gd_S hL i1 i3 i4) rfl hz1 hz2 ⟨i5, i6, i7⟩ hR) ⟨wS_blind, fun U hU hW => ⟨rfl, by rw [hU], by rw [hU]; exact hP0, va_K.moved hW.alike hK, hD0⟩⟩ rfl rfl hls rfl (lv_room hst) hdg hf) hS (fun q _ h => hF q h) hF (fun u t H1 locs1 ht hvm hw hB hz1 hk1 hS1 => ?_)
  rw [ht] at hB
  obtain ⟨g1, g2⟩ := joinSet (w2 := []) hP hD he hk1 hF hB.1 hB.2
  rw [List.append_nil] at g1 g2
  exact kk H1 locs1 hz1 g1 g2 hS1
/-- a static method, the whole world goes in -/
theorem wrSv (S : CallFix p m c cc nL s args uG own) (hM : Met l y (uW y b n r) rm (va_Pc As (wS D tys ws H.size)) (wQv D ws' (va_A ws H.size)) mc ms (va_A ws H.size)) (hI : mS y b n r As.length) (hL : Cond.methodLink own idx y ∈ uG) (hz1 : rm.cells = mc) (hz2 : rm.slots = ms) (hR : rm.frames + 1 ≤ R.frames ∧ 8 + (n + 11) + rm.locals ≤ R.locals) (hP : va_P D vwCl ws H) (hD : va_D A ws) (hK : va_K D vwCl tys s) (hS : va_S A H0 H locs) (hA : ∀ q, H0.size ≤ q → A q) (hls : ls.size = nL) (hst : (rest.map fun v => v.category).sum ≤ 8) (hf : cells + mc ≤ R.cells ∧ slots + ms ≤ R.slots) (hdg : decode cc pc = .ok (.invokestatic idx, 3)) (kk : ∀ (H1 : Heap) (locs1 : List Loc), H.size ≤ H1.size → va_P D vwCl ws' H1 → va_D A ws' → va_S A H0 H1 locs1 → W p l e R s m args below meth c H1 locs1 (cells + mc) (slots + ms) Q (F0 m (pc + 3) ls rest)) : W p l e R s m args below meth c H locs cells slots Q (F0 m pc ls (As.reverse ++ rest)) := by
  obtain ⟨i1, i3, i4, i5, i6, i7⟩ := hI
  have hF := wFree hD hS hA
  refine va_callv (va_runS S hM (va_cwS As.length S.2.2.2.2 (gd_S hL i1 i3 i4) rfl hz1 hz2 ⟨i5, i6, i7⟩ hR) ⟨wS_blind, fun U hU hW => ⟨rfl, by rw [hU], by rw [hU]; exact hP, va_K.moved hW.alike hK, hD.weaken (fun _ _ _ _ => trivial)⟩⟩ rfl rfl hls rfl (lv_room hst) hdg hf) hS (fun q _ h => hF q h) hF (fun u t H1 locs1 ht hvm hw hB hz1 hk1 hS1 => ?_)
  rw [ht] at hB
  exact kk H1 locs1 hz1 hB.1 (hB.2.weaken (fun _ q _ h => hF _ h)) hS1
theorem wEndZ {v v2 : Int32} (S : CallFix p m c cc nL s args uG own) (hr : meth.sig.returnType = some .boolean) (hlocks : meth.locks = false) (hP : va_P D vwCl ws H) (hD : va_D A ws) (hS : va_S A s.heap H locs) (h1 : cells ≤ mc) (h2 : slots ≤ ms) (hdg : decode cc pc = .ok (.ireturn, 1)) (hv : v2 = v) (hn : narrow .boolean (.int v2) = .int v2) : W p l e R s m args below meth c H locs cells slots (MQ below (wQi v D ws A) args s mc ms A) (F0 m pc ls [.int v2]) := by
  subst hv
  exact W.widen h1 h2 (W.zret S.1 S.2.1 hr hn (fun t ht hW => ⟨⟨v2, (), rfl, rfl, by rw [ht]; exact hP, hD⟩, hS.F ht⟩) hS.2.2 hdg hlocks)
theorem wEndl {v v2 : Int64} (S : CallFix p m c cc nL s args uG own) (hr : meth.sig.returnType = some .long) (hlocks : meth.locks = false) (hP : va_P D vwCl ws H) (hD : va_D A ws) (hS : va_S A s.heap H locs) (h1 : cells ≤ mc) (h2 : slots ≤ ms) (hdg : decode cc pc = .ok (.lreturn, 1)) (hv : v2 = v) : W p l e R s m args below meth c H locs cells slots (MQ below (wQl v D ws A) args s mc ms A) (F0 m pc ls [.long v2]) := by
  subst hv
  exact W.widen h1 h2 (W.lret S.1 S.2.1 hr (fun t ht hW => ⟨⟨v2, (), rfl, rfl, by rw [ht]; exact hP, hD⟩, hS.F ht⟩) hS.2.2 hdg hlocks)
theorem wEndc {w1 : (Nat → Nat) → va_W} (u : Nat → Nat) (S : CallFix p m c cc nL s args uG own) (hr : meth.sig.returnType = none) (hlocks : meth.locks = false) (hP : va_P D vwCl (w1 u) H) (hD : va_D A (w1 u)) (hS : va_S A s.heap H locs) (h1 : cells ≤ mc) (h2 : slots ≤ ms) (hdg : decode cc pc = .ok (.return_, 1)) : W p l e R s m args below meth c H locs cells slots (MQ below (wQc D w1 A) args s mc ms A) (F0 m pc ls []) :=
  W.widen h1 h2 (W.vret S.1 S.2.1 hr (fun t ht hW => ⟨⟨u, rfl, trivial, by rw [ht]; exact hP, hD⟩, hS.F ht⟩) hS.2.2 hdg hlocks)
/-- the contents of an array, told otherwise -/
theorem cellP {cA : ClassId} {k a N : Nat} {f g : Nat → Int32} (h : ∀ j, j < N → f j = g j) (hP : va_P D vwCl ws H) (he : ws[k]? = some (a, .inl (cA, N, .inl f))) : va_P D vwCl (ws.set k (a, .inl (cA, N, .inl g))) H := by
  intro j x hx
  by_cases e : j = k
  · subst e
    rw [List.getElem?_set_self (List.getElem?_eq_some_iff.mp he).1] at hx
    rw [← Option.some.inj hx]
    have h9 := hP j _ he
    show H[a]? = some (vp_cell cA (N, .inl g))
    rw [← cell_eq h]
    exact h9
  · rw [List.getElem?_set_ne (Ne.symm e)] at hx
    exact hP j x hx
-- bounds
theorem b_nlt {x L c : Int32} (h : L ≤ x) (d : c ≤ L) : ¬ x < c := Int32.not_lt.mpr (Int32.le_trans d h)
theorem b_lt {x U c : Int32} (h : x ≤ U) (d : U < c) : x < c := Int32.lt_of_le_of_lt h d
theorem b_gt {x L c : Int32} (h : L ≤ x) (d : c < L) : c < x := Int32.lt_of_lt_of_le d h
theorem b_ngt {x U c : Int32} (h : x ≤ U) (d : U ≤ c) : ¬ c < x := Int32.not_lt.mpr (Int32.le_trans h d)
theorem b_le {x U c : Int32} (h : x ≤ U) (d : U ≤ c) : x ≤ c := Int32.le_trans h d
theorem b_nle {x L c : Int32} (h : L ≤ x) (d : c < L) : ¬ x ≤ c := Int32.not_le.mpr (Int32.lt_of_lt_of_le d h)
theorem b_ge {x L c : Int32} (h : L ≤ x) (d : c ≤ L) : c ≤ x := Int32.le_trans d h
theorem b_nge {x U c : Int32} (h : x ≤ U) (d : U < c) : ¬ c ≤ x := Int32.not_le.mpr (Int32.lt_of_le_of_lt h d)
theorem b_ne1 {x L c : Int32} (h : L ≤ x) (d : c < L) : ¬ x = c := fun e => by rw [e] at h; exact absurd h (Int32.not_le.mpr d)
theorem b_ne2 {x U c : Int32} (h : x ≤ U) (d : U < c) : ¬ x = c := fun e => by rw [e] at h; exact absurd h (Int32.not_le.mpr d)
theorem b_eq {x c : Int32} (h : c ≤ x) (g : x ≤ c) : x = c := Int32.le_antisymm g h
theorem u_lt {x c U : Int32} (h : x < c) (d : c.toInt = U.toInt + 1) : x ≤ U := by rw [Int32.le_iff_toInt_le]; rw [Int32.lt_iff_toInt_lt] at h; omega
theorem l_gt {x c L : Int32} (h : c < x) (d : L.toInt = c.toInt + 1) : L ≤ x := by rw [Int32.le_iff_toInt_le]; rw [Int32.lt_iff_toInt_lt] at h; omega
theorem l_nlt {x c : Int32} (h : ¬ x < c) : c ≤ x := Int32.not_lt.mp h
theorem u_ngt {x c : Int32} (h : ¬ c < x) : x ≤ c := Int32.not_lt.mp h
theorem u_nge {x c U : Int32} (h : ¬ c ≤ x) (d : c.toInt = U.toInt + 1) : x ≤ U := u_lt (Int32.not_le.mp h) d
theorem l_nle {x c L : Int32} (h : ¬ x ≤ c) (d : L.toInt = c.toInt + 1) : L ≤ x := l_gt (Int32.not_le.mp h) d
theorem l_ne {x L L1 : Int32} (h : ¬ x = L) (g : L ≤ x) (d : L1.toInt = L.toInt + 1) : L1 ≤ x := by
  rw [Int32.le_iff_toInt_le] at *
  have h9 : x.toInt ≠ L.toInt := fun e => h (Int32.toInt_inj.mp e)
  omega
theorem u_ne {x U U1 : Int32} (h : ¬ x = U) (g : x ≤ U) (d : U.toInt = U1.toInt + 1) : x ≤ U1 := by
  rw [Int32.le_iff_toInt_le] at *
  have h9 : x.toInt ≠ U.toInt := fun e => h (Int32.toInt_inj.mp e)
  omega
theorem o_l {x lo hi L : Int32} (h : ¬ (lo ≤ x ∧ x ≤ hi)) (g : lo ≤ x) (d : L.toInt = hi.toInt + 1) : L ≤ x := l_nle (fun q => h ⟨g, q⟩) d
theorem o_u {x lo hi U : Int32} (h : ¬ (lo ≤ x ∧ x ≤ hi)) (g : x ≤ hi) (d : lo.toInt = U.toInt + 1) : x ≤ U := u_nge (fun q => h ⟨q, g⟩) d
theorem o_ne {x lo hi c : Int32} (h : ¬ (lo ≤ x ∧ x ≤ hi)) (d1 : lo ≤ c) (d2 : c ≤ hi) : ¬ x = c := fun e => h (by rw [e]; exact ⟨d1, d2⟩)
theorem b_le2 {x L c : Int32} (h : L ≤ x) (d : c ≤ L) : c ≤ x := Int32.le_trans d h
theorem b_in {x L U : Int32} {n : Nat} (h : L ≤ x) (g : x ≤ U) (d : 0 ≤ L) (d2 : U.toInt < (n : Int)) : vp_in x n := by
  intro q
  rw [Int32.le_iff_toInt_le] at *
  have z : (0 : Int32).toInt = 0 := rfl
  rcases q with q | q
  · rw [Int32.lt_iff_toInt_lt] at q
    omega
  · rw [Int32.toNatClampNeg] at q
    omega
end XR
