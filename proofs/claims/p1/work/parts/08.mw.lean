section XX
theorem vin {i : Int32} {n : Nat} (h : decide (i < 0 ∨ n ≤ i.toNatClampNeg) = false) : vp_in i n := of_decide_eq_false h
theorem bI_fit {P : Prop} [Decidable P] : fits .boolean (.int (bI P)) = true := by unfold bI; by_cases p : P <;> simp only [p, if_true, if_false] <;> rfl
theorem cell_eq {cA : ClassId} {n : Nat} {f g : Nat → Int32} (h : ∀ j, j < n → f j = g j) : vp_cell cA (n, .inl f) = vp_cell cA (n, .inl g) := by
  have e : (fun j : Fin n => Value.int (f j.val)) = (fun j : Fin n => Value.int (g j.val)) := funext fun j => by rw [h j.val j.isLt]
  show ({ cls := cA, slots := Array.ofFn (n := n) fun j => Value.int (f j.val), vm := .none } : Cell) = { cls := cA, slots := Array.ofFn (n := n) fun j => Value.int (g j.val), vm := .none }
  rw [e]
/-- a world that stands at this size of the heap, its cells apart -/
abbrev wS (D : va_G) (tys : List (ClassId × FieldType)) (ws : va_W) (sz : Nat) : State → Prop := fun U => U.heap.size = sz ∧ va_P D vwCl ws U.heap ∧ va_K D vwCl tys U ∧ va_D (fun _ => True) ws
theorem wS_blind {av : List Value} {D : va_G} {tys : List (ClassId × FieldType)} {ws : va_W} {sz : Nat} : FrameBlind (va_Pc av (wS D tys ws sz)) := fun a U g mk q => ⟨q.1, q.2.1, q.2.2.1, va_K.moved (u := U) (U := U.calling g mk a) (Vm.Alike.refl U.vm) q.2.2.2.1, q.2.2.2.2⟩
/-- a number, and the world that is left -/
abbrev wQi (v : Int32) (D : va_G) (ws : va_W) (A : Nat → Prop) : Array Value → State → Outcome → State → Prop := va_Qi (fun r (_ : Unit) => r = v) (fun _ t => va_P D vwCl ws t.heap ∧ va_D A ws) A
abbrev wQv (D : va_G) (ws : va_W) (A : Nat → Prop) : Array Value → State → Outcome → State → Prop := va_Qv (fun (_ : Unit) => True) (fun _ t => va_P D vwCl ws t.heap ∧ va_D A ws) A
variable {p : Program} {l : Launch} {e : Env} {R : Room} {s : State} {m : MethodId} {args : Array Value} {below : List Frame} {meth : Method} {c : Code} {H H0 : Heap} {locs : List Loc} {cells slots : Nat} {Q : State → Prop}
variable {cc b : ByteArray} {pc nL n idx mc ms : Nat} {ls : Array Slot} {As rest : List Value} {own : String} {y : MethodName} {r : Option FieldType} {rm : Room} {D : va_G} {tys : List (ClassId × FieldType)} {ws ws' : va_W} {A : Nat → Prop}
theorem xiadd {x y v : Int32} (S : CallFix p m c cc nL s args uG own) (hdg : decode cc pc = .ok (.iadd, 1)) (hv : x + y = v) (k : W p l e R s m args below meth c H locs cells slots Q (F0 m (pc + 1) ls (.int v :: rest))) : W p l e R s m args below meth c H locs cells slots Q (F0 m pc ls (.int y :: .int x :: rest)) := lv_iadd S.1 S.2.1 hdg (by rw [hv]; exact k)
theorem xisub {x y v : Int32} (S : CallFix p m c cc nL s args uG own) (hdg : decode cc pc = .ok (.isub, 1)) (hv : x - y = v) (k : W p l e R s m args below meth c H locs cells slots Q (F0 m (pc + 1) ls (.int v :: rest))) : W p l e R s m args below meth c H locs cells slots Q (F0 m pc ls (.int y :: .int x :: rest)) := lv_isub S.1 S.2.1 hdg (by rw [hv]; exact k)
theorem ximul {x y v : Int32} (S : CallFix p m c cc nL s args uG own) (hdg : decode cc pc = .ok (.imul, 1)) (hv : x * y = v) (k : W p l e R s m args below meth c H locs cells slots Q (F0 m (pc + 1) ls (.int v :: rest))) : W p l e R s m args below meth c H locs cells slots Q (F0 m pc ls (.int y :: .int x :: rest)) := lv_imul S.1 S.2.1 hdg (by rw [hv]; exact k)
theorem xiand {x y v : Int32} (S : CallFix p m c cc nL s args uG own) (hdg : decode cc pc = .ok (.iand, 1)) (hv : x &&& y = v) (k : W p l e R s m args below meth c H locs cells slots Q (F0 m (pc + 1) ls (.int v :: rest))) : W p l e R s m args below meth c H locs cells slots Q (F0 m pc ls (.int y :: .int x :: rest)) := lv_iand S.1 S.2.1 hdg (by rw [hv]; exact k)
theorem xishr {x y v : Int32} (S : CallFix p m c cc nL s args uG own) (hdg : decode cc pc = .ok (.ishr, 1)) (hv : x >>> (y &&& 31) = v) (k : W p l e R s m args below meth c H locs cells slots Q (F0 m (pc + 1) ls (.int v :: rest))) : W p l e R s m args below meth c H locs cells slots Q (F0 m pc ls (.int y :: .int x :: rest)) := lv_ishr S.1 S.2.1 hdg (by rw [hv]; exact k)
theorem xiald {q0 t0 a : Nat} {cA : ClassId} {k : Nat} {f : Nat → Int32} {i v : Int32} (S : CallFix p m c cc nL s args uG own) (hK : va_K D vwCl tys s) (hP : va_P D vwCl ws H) (ha : ws[q0]? = some (a, .inl (cA, k, .inl f))) (ht : tys[t0]? = some (cA, .int)) (hin : vp_in i k) (hv : f i.toNatClampNeg = v) (hdg : decode cc pc = .ok (.iaload, 1)) (kk : W p l e R s m args below meth c H locs cells slots Q (F0 m (pc + 1) ls (.int v :: rest))) : W p l e R s m args below meth c H locs cells slots Q (F0 m pc ls (.int i :: .ref a :: rest)) := va_iald S.1 S.2.1 hK hP q0 t0 ha ht hin hdg (by rw [hv]; exact kk)
theorem xzald {q0 t0 a : Nat} {cA : ClassId} {k : Nat} {f : Nat → Int32} {i v : Int32} (S : CallFix p m c cc nL s args uG own) (hK : va_K D vwCl tys s) (hP : va_P D vwCl ws H) (ha : ws[q0]? = some (a, .inl (cA, k, .inl f))) (ht : tys[t0]? = some (cA, .boolean)) (hin : vp_in i k) (hv : f i.toNatClampNeg = v) (hdg : decode cc pc = .ok (.baload, 1)) (kk : W p l e R s m args below meth c H locs cells slots Q (F0 m (pc + 1) ls (.int v :: rest))) : W p l e R s m args below meth c H locs cells slots Q (F0 m pc ls (.int i :: .ref a :: rest)) := va_zald S.1 S.2.1 hK hP q0 t0 ha ht hin hdg (by rw [hv]; exact kk)
theorem xiast {q0 t0 a : Nat} {cA : ClassId} {k : Nat} {f : Nat → Int32} {i x : Int32} (S : CallFix p m c cc nL s args uG own) (hK : va_K D vwCl tys s) (hP : va_P D vwCl ws H) (hD : va_D A ws) (hS : va_S A H0 H locs) (ha : ws[q0]? = some (a, .inl (cA, k, .inl f))) (ht : tys[t0]? = some (cA, .int)) (hin : vp_in i k) (hdg : decode cc pc = .ok (.iastore, 1)) (kk : ∀ (H1 : Heap) (locs1 : List Loc), va_P D vwCl (ws.set q0 (a, .inl (cA, k, .inl (upd f i.toNatClampNeg x)))) H1 → va_D A (ws.set q0 (a, .inl (cA, k, .inl (upd f i.toNatClampNeg x)))) → va_S A H0 H1 locs1 → W p l e R s m args below meth c H1 locs1 cells slots Q (F0 m (pc + 1) ls rest)) : W p l e R s m args below meth c H locs cells slots Q (F0 m pc ls (.int x :: .int i :: .ref a :: rest)) := va_iast S.1 S.2.1 hK hP hD hS q0 t0 ha ht hin hdg kk
theorem xzast {q0 t0 a : Nat} {cA : ClassId} {k : Nat} {f : Nat → Int32} {i x : Int32} (S : CallFix p m c cc nL s args uG own) (hK : va_K D vwCl tys s) (hP : va_P D vwCl ws H) (hD : va_D A ws) (hS : va_S A H0 H locs) (ha : ws[q0]? = some (a, .inl (cA, k, .inl f))) (ht : tys[t0]? = some (cA, .boolean)) (hin : vp_in i k) (hdg : decode cc pc = .ok (.bastore, 1)) (kk : ∀ (H1 : Heap) (locs1 : List Loc), va_P D vwCl (ws.set q0 (a, .inl (cA, k, .inl (upd f i.toNatClampNeg (vp_nar .boolean x))))) H1 → va_D A (ws.set q0 (a, .inl (cA, k, .inl (upd f i.toNatClampNeg (vp_nar .boolean x))))) → va_S A H0 H1 locs1 → W p l e R s m args below meth c H1 locs1 cells slots Q (F0 m (pc + 1) ls rest)) : W p l e R s m args below meth c H locs cells slots Q (F0 m pc ls (.int x :: .int i :: .ref a :: rest)) := va_zast S.1 S.2.1 hK hP hD hS q0 t0 ha ht hin hdg kk
theorem xalen {q0 t0 a : Nat} {cA : ClassId} {x : vp_A} {ty : FieldType} {v : Int32} (S : CallFix p m c cc nL s args uG own) (hK : va_K D vwCl tys s) (hP : va_P D vwCl ws H) (ha : ws[q0]? = some (a, .inl (cA, x))) (ht : tys[t0]? = some (cA, ty)) (hv : Int32.ofNat x.1 = v) (hdg : decode cc pc = .ok (.arraylength, 1)) (kk : W p l e R s m args below meth c H locs cells slots Q (F0 m (pc + 1) ls (.int v :: rest))) : W p l e R s m args below meth c H locs cells slots Q (F0 m pc ls (.ref a :: rest)) := va_alen S.1 S.2.1 hK hP q0 t0 ha ht hv hdg kk
theorem xp {C ref : String} {T : u_T} {N ci : Nat} {v : Value} (S : CallFix p m c cc nL s args uG own) (hin : ∀ w ∈ u_ws C T N, w ∈ uG) (ty0 : Nat → FieldType) (hty : ∀ k, k < N → parseFieldDescriptor (T k).2.2.1 = some (ty0 k)) (hnm : ∀ a, a < N → ∀ b, b < N → a ≠ b → (T a).2.1 ≠ (T b).2.1) (hc : vwCl[ci]? = some (C, T, N)) (hK : va_K D vwCl tys s) (hP : va_P D vwCl ws H) (hD : va_D A ws) (hS : va_S A H0 H locs) {q0 a : Nat} {fs : List Value} (he : ws[q0]? = some (a, .inr (ci, fs))) (k : Nat) (hk : k < N) (hlink : Cond.fieldLink own idx ref (T k).2.1 (T k).2.2.1 ∈ uG) (href : ref = (T k).1) (hfin : (T k).2.2.2 = false) (hn : narrow (ty0 k) v = v) (hfit : fits (ty0 k) v = true) (hl : k < fs.length) (hdg : decode cc pc = .ok (.putfield idx, 3)) (kk : ∀ (H1 : Heap) (locs1 : List Loc), va_P D vwCl (ws.set q0 (a, .inr (ci, fs.set k v))) H1 → va_D A (ws.set q0 (a, .inr (ci, fs.set k v))) → va_S A H0 H1 locs1 → W p l e R s m args below meth c H1 locs1 cells slots Q (F0 m (pc + 3) ls rest)) : W p l e R s m args below meth c H locs cells slots Q (F0 m pc ls (v :: .ref a :: rest)) :=
  va_put S.1 S.2.1 S.2.2.2.2 hin ty0 hty hnm S.2.2.2.1 hK hP hD hS q0 he hc k hk (S.2.2.2.2 _ hlink) (fun x h => by rw [href]; exact h) hfin (hty k hk) hn hfit hl hdg kk
theorem xpF {C ref : String} {T : u_T} {N ci : Nat} {v : Value} (S : CallFix p m c cc nL s args uG own) (hin : ∀ w ∈ u_ws C T N, w ∈ uG) (ty0 : Nat → FieldType) (hty : ∀ k, k < N → parseFieldDescriptor (T k).2.2.1 = some (ty0 k)) (hnm : ∀ a, a < N → ∀ b, b < N → a ≠ b → (T a).2.1 ≠ (T b).2.1) (hc : vwCl[ci]? = some (C, T, N)) (hK : va_K D vwCl tys s) (hP : va_P D vwCl ws H) (hD : va_D A ws) (hS : va_S A H0 H locs) {q0 a : Nat} {fs : List Value} (he : ws[q0]? = some (a, .inr (ci, fs))) (k : Nat) (hk : k < N) (hlink : Cond.fieldLink own idx ref (T k).2.1 (T k).2.2.1 ∈ uG) (href : ref = (T k).1) (hfin : (T k).2.2.2 = true) (hin2 : meth.name = "<init>") (hdecl : (T k).1 = own) (hn : narrow (ty0 k) v = v) (hfit : fits (ty0 k) v = true) (hl : k < fs.length) (hdg : decode cc pc = .ok (.putfield idx, 3)) (kk : ∀ (H1 : Heap) (locs1 : List Loc), va_P D vwCl (ws.set q0 (a, .inr (ci, fs.set k v))) H1 → va_D A (ws.set q0 (a, .inr (ci, fs.set k v))) → va_S A H0 H1 locs1 → W p l e R s m args below meth c H1 locs1 cells slots Q (F0 m (pc + 3) ls rest)) : W p l e R s m args below meth c H locs cells slots Q (F0 m pc ls (v :: .ref a :: rest)) :=
  va_putF S.1 S.2.1 S.2.2.2.2 hin ty0 hty hnm S.2.2.2.1 hK hP hD hS q0 he hc k hk (S.2.2.2.2 _ hlink) (fun x h => by rw [href]; exact h) hfin hin2 hdecl (hty k hk) hn hfit hl hdg kk
/-- the start of a method that writes -/
theorem wStart {av : List Value} {lv : List (Nat × Value)} {sz : Nat} {Qc : (Nat → Prop) → Array Value → State → Outcome → State → Prop} (hy : plainName y.cls = true) (hn : (lg_sl av).length ≤ n) (hlv : lv_args 0 av = lv)
    (body : ∀ (p : Program) (e : Env) (s : State) (m : MethodId) (args : Array Value) (below : List Frame) (meth : Method) (c : Code) (ls : Array Slot) (A : Nat → Prop) (H : Heap), CallFix p m c b n s args uG y.cls → meth.sig.returnType = r → meth.locks = false → meth.name = y.name → lv_has ls n lv → va_K D vwCl tys s → va_P D vwCl ws H → va_D A ws → va_S A s.heap H [] → (∀ q, s.heap.size ≤ q → A q) → W p l e rm s m args below meth c H [] 0 0 (MQ below (Qc A) args s mc ms A) (F0 m 0 ls [])) : Met l y (uW y b n r) rm (va_Pc av (wS D tys ws sz)) (Qc (va_A ws sz)) mc ms (va_A ws sz) := by
  refine Met.ofW (cc := b) (maxL := n) (ret := r) hy rfl ?_
  intro p e s m args below meth c s₁ B hml hv
  obtain ⟨rfl, hsz, hP, hK, hD0⟩ := hv
  have hts := atoms_spec (ws := uW y b n r) B.pre
  subst hsz
  have hl := lv_entry av (n := n) hn
  rw [lg_entry_eq]
  generalize (lg_sl av ++ List.replicate (n - (lg_sl av).length) Slot.unset).toArray = ls at hl ⊢
  rw [hlv] at hl
  exact body p e s m av.toArray below meth c ls (va_A ws s.heap.size) s.heap ⟨B.exec, B.bytes, hml, findClass_of_methodNamed B.named, fun w h => hts w (List.mem_cons_of_mem _ h)⟩ B.returns B.notSynchronized (name_of_methodNamed B.named B.method).1 hl hK hP hD0.self va_S.rf (fun q h => Or.inr h)
theorem wEnd {v v2 : Int32} (S : CallFix p m c cc nL s args uG own) (hr : meth.sig.returnType = some .int) (hlocks : meth.locks = false) (hP : va_P D vwCl ws H) (hD : va_D A ws) (hS : va_S A s.heap H locs) (h1 : cells ≤ mc) (h2 : slots ≤ ms) (hdg : decode cc pc = .ok (.ireturn, 1)) (hv : v2 = v) : W p l e R s m args below meth c H locs cells slots (MQ below (wQi v D ws A) args s mc ms A) (F0 m pc ls [.int v2]) := by
  subst hv
  exact W.widen h1 h2 (W.iret S.1 S.2.1 hr (fun t ht hW => ⟨⟨v2, (), rfl, rfl, by rw [ht]; exact hP, hD⟩, hS.F ht⟩) hS.2.2 hdg hlocks)
theorem wEndv (S : CallFix p m c cc nL s args uG own) (hr : meth.sig.returnType = none) (hlocks : meth.locks = false) (hP : va_P D vwCl ws H) (hD : va_D A ws) (hS : va_S A s.heap H locs) (h1 : cells ≤ mc) (h2 : slots ≤ ms) (hdg : decode cc pc = .ok (.return_, 1)) : W p l e R s m args below meth c H locs cells slots (MQ below (wQv D ws A) args s mc ms A) (F0 m pc ls []) :=
  W.widen h1 h2 (W.vret S.1 S.2.1 hr (fun t ht hW => ⟨⟨(), rfl, trivial, by rw [ht]; exact hP, hD⟩, hS.F ht⟩) hS.2.2 hdg hlocks)
theorem wFree (hD : va_D A ws) (hS : va_S A H0 H locs) (hA : ∀ q, H0.size ≤ q → A q) : ∀ q, va_A ws H.size q → A q := by
  intro q h
  rcases h with ⟨k, e, h⟩ | h
  · exact hD.2 k (q, e) h
  · exact hA q (Nat.le_trans hS.1 h)
/-- a call of a method that writes: the whole world goes in, and comes back -/
theorem wrV {v : Int32} {q k ci : Nat} {fs : List Value} {qc : vw_C} (S : CallFix p m c cc nL s args uG own) (hM : Met l y (uW y b n r) rm (va_Pc (.ref q :: As) (wS D tys ws H.size)) (wQi v D ws' (va_A ws H.size)) mc ms (va_A ws H.size)) (hI : mI y b n r As.length) (hL : Cond.methodLink own idx y ∈ uG) (hz1 : rm.cells = mc) (hz2 : rm.slots = ms) (hR : rm.frames + 1 ≤ R.frames ∧ 8 + (n + 11) + rm.locals ≤ R.locals) (hP : va_P D vwCl ws H) (hD : va_D A ws) (hK : va_K D vwCl tys s) (hS : va_S A H0 H locs) (hA : ∀ q, H0.size ≤ q → A q) (he : ws[k]? = some (q, .inr (ci, fs))) (hc : vwCl[ci]? = some qc) (hcl : qc.1 = y.cls) (hls : ls.size = nL) (hst : (rest.map fun v => v.category).sum ≤ 8) (hf : cells + mc ≤ R.cells ∧ slots + ms ≤ R.slots) (hdg : decode cc pc = .ok (.invokevirtual idx, 3)) (kk : ∀ (H1 : Heap) (locs1 : List Loc), H.size ≤ H1.size → va_P D vwCl ws' H1 → va_D A ws' → va_S A H0 H1 locs1 → W p l e R s m args below meth c H1 locs1 (cells + mc) (slots + ms) Q (F0 m (pc + 3) ls (.int v :: rest))) : W p l e R s m args below meth c H locs cells slots Q (F0 m pc ls (As.reverse ++ .ref q :: rest)) := by
  obtain ⟨i1, i2, i3, i4, i5, i6, i7⟩ := hI
  have hF := wFree hD hS hA
  have h9 := va_recv hK hP hc he
  rw [hcl] at h9
  refine va_calli (va_runV S hM (cwV As.length S.2.2.2.2 (gd_V hL i1 i2 i3 i4) rfl hz1 hz2 ⟨rfl, i5, i6, i7⟩ hR) ⟨wS_blind, h9, fun U hU hW => ⟨rfl, by rw [hU], by rw [hU]; exact hP, va_K.moved hW.alike hK, hD.weaken (fun _ _ _ _ => trivial)⟩⟩ rfl rfl hls rfl (lv_room hst) hdg hf) hS (fun q _ h => hF q h) hF (fun r u t H1 locs1 ht hvm hw hB hz1 hk1 hS1 => ?_)
  subst hw
  rw [ht] at hB
  exact kk H1 locs1 hz1 hB.1 (hB.2.weaken (fun _ q _ h => hF _ h)) hS1
theorem wrVv {q k ci : Nat} {fs : List Value} {qc : vw_C} (S : CallFix p m c cc nL s args uG own) (hM : Met l y (uW y b n r) rm (va_Pc (.ref q :: As) (wS D tys ws H.size)) (wQv D ws' (va_A ws H.size)) mc ms (va_A ws H.size)) (hI : mI y b n r As.length) (hL : Cond.methodLink own idx y ∈ uG) (hz1 : rm.cells = mc) (hz2 : rm.slots = ms) (hR : rm.frames + 1 ≤ R.frames ∧ 8 + (n + 11) + rm.locals ≤ R.locals) (hP : va_P D vwCl ws H) (hD : va_D A ws) (hK : va_K D vwCl tys s) (hS : va_S A H0 H locs) (hA : ∀ q, H0.size ≤ q → A q) (he : ws[k]? = some (q, .inr (ci, fs))) (hc : vwCl[ci]? = some qc) (hcl : qc.1 = y.cls) (hls : ls.size = nL) (hst : (rest.map fun v => v.category).sum ≤ 8) (hf : cells + mc ≤ R.cells ∧ slots + ms ≤ R.slots) (hdg : decode cc pc = .ok (.invokevirtual idx, 3)) (kk : ∀ (H1 : Heap) (locs1 : List Loc), H.size ≤ H1.size → va_P D vwCl ws' H1 → va_D A ws' → va_S A H0 H1 locs1 → W p l e R s m args below meth c H1 locs1 (cells + mc) (slots + ms) Q (F0 m (pc + 3) ls rest)) : W p l e R s m args below meth c H locs cells slots Q (F0 m pc ls (As.reverse ++ .ref q :: rest)) := by
  obtain ⟨i1, i2, i3, i4, i5, i6, i7⟩ := hI
  have hF := wFree hD hS hA
  have h9 := va_recv hK hP hc he
  rw [hcl] at h9
  refine va_callv (va_runV S hM (cwV As.length S.2.2.2.2 (gd_V hL i1 i2 i3 i4) rfl hz1 hz2 ⟨rfl, i5, i6, i7⟩ hR) ⟨wS_blind, h9, fun U hU hW => ⟨rfl, by rw [hU], by rw [hU]; exact hP, va_K.moved hW.alike hK, hD.weaken (fun _ _ _ _ => trivial)⟩⟩ rfl rfl hls rfl (lv_room hst) hdg hf) hS (fun q _ h => hF q h) hF (fun u t H1 locs1 ht hvm hw hB hz1 hk1 hS1 => ?_)
  rw [ht] at hB
  exact kk H1 locs1 hz1 hB.1 (hB.2.weaken (fun _ q _ h => hF _ h)) hS1
end XX

section XM
/-- the reference, fresh: its fields; t: what it says it threw -/
def mF (t : Int32) (q : Nat → Nat) : List Value := [.int t, .int 1, .ref (q 0), .ref (q 1), .ref (q 2), .ref (q 3), .ref (q 4), .ref (q 5), .ref (q 6), .ref (q 7), .ref (q 8), .ref (q 9), .ref (q 10), .int 0, .ref (q 11), .ref (q 12), .ref (q 13), .ref (q 14), .ref (q 15), .ref (q 16), .int 7, .int 1000, .int 20, .int 0, .ref (q 17), .ref (q 18), .ref (q 19), .int 0, .int 0, .ref (q 20), .ref (q 21), .ref (q 22), .ref (q 23), .ref (q 24), .ref (q 25), .int 0, .int 0, .int 0, .int 0, .int 0, .int 0, .int 0, .int 0, .int 0, .int 0, .int 0, .int 0, .int 0, .int 0, .int 0, .int 0, .int 0, .int 0, .long 0, .long 0, .int 0, .ref (q 26), .ref (q 27), .ref (q 28), .ref (q 29)]
def mW (o : Nat) (t : Int32) (q : Nat → Nat) (cI cZ : ClassId) : va_W := [(o, .inr (9, mF t q)), (q 0, .inl (cI, 10, .inl (upd (fun _ => 0) 0 (-1)))), (q 1, .inl (cI, 10, .inl (upd (fun _ => 0) 0 (-1)))), (q 2, .inl (cI, 10, .inl (fun _ => 0))), (q 3, .inl (cI, 10, .inl (fun _ => 0))), (q 4, .inl (cI, 10, .inl (fun _ => 0))), (q 5, .inl (cI, 10, .inl (fun _ => -1))), (q 6, .inl (cI, 160, .inl (fun _ => -1))), (q 7, .inl (cI, 160, .inl (fun _ => 0))), (q 8, .inl (cI, 160, .inl (fun _ => 0))), (q 9, .inl (cI, 100, .inl (fun _ => 0))), (q 10, .inl (cI, 100, .inl (fun _ => 0))), (q 11, .inl (cI, 110, .inl (fun _ => 0))), (q 12, .inl (cI, 110, .inl (fun _ => 0))), (q 13, .inl (cI, 110, .inl (fun _ => 0))), (q 14, .inl (cI, 110, .inl (fun _ => 0))), (q 15, .inl (cI, 110, .inl (fun _ => 0))), (q 16, .inl (cI, 110, .inl (fun _ => 0))), (q 17, .inl (cI, 10, .inl (fun _ => 0))), (q 18, .inl (cI, 0, .inl (fun _ => 0))), (q 19, .inl (cI, 0, .inl (fun _ => 0))), (q 20, .inl (cI, 110, .inl (fun _ => 0))), (q 21, .inl (cI, 0, .inl (fun _ => 0))), (q 22, .inl (cI, 0, .inl (fun _ => 0))), (q 23, .inl (cI, 0, .inl (fun _ => 0))), (q 24, .inl (cI, 0, .inl (fun _ => 0))), (q 25, .inl (cI, 0, .inl (fun _ => 0))), (q 26, .inl (cI, 0, .inl (fun _ => 0))), (q 27, .inl (cI, 110, .inl (fun _ => 0))), (q 28, .inl (cI, 10, .inl (fun _ => 0))), (q 29, .inl (cZ, 110, .inl (fun _ => 0)))]
variable {o : Nat} {t : Int32} {q : Nat → Nat} {cI cZ : ClassId}
theorem mF_0 : (mF t q)[0]? = some (.int t) := rfl
theorem mF_1 : (mF t q)[1]? = some (.int 1) := rfl
theorem mF_2 : (mF t q)[2]? = some (.ref (q 0)) := rfl
theorem mF_3 : (mF t q)[3]? = some (.ref (q 1)) := rfl
theorem mF_4 : (mF t q)[4]? = some (.ref (q 2)) := rfl
theorem mF_5 : (mF t q)[5]? = some (.ref (q 3)) := rfl
theorem mF_6 : (mF t q)[6]? = some (.ref (q 4)) := rfl
theorem mF_7 : (mF t q)[7]? = some (.ref (q 5)) := rfl
theorem mF_8 : (mF t q)[8]? = some (.ref (q 6)) := rfl
theorem mF_9 : (mF t q)[9]? = some (.ref (q 7)) := rfl
theorem mF_10 : (mF t q)[10]? = some (.ref (q 8)) := rfl
theorem mF_11 : (mF t q)[11]? = some (.ref (q 9)) := rfl
theorem mF_12 : (mF t q)[12]? = some (.ref (q 10)) := rfl
theorem mF_13 : (mF t q)[13]? = some (.int 0) := rfl
theorem mF_14 : (mF t q)[14]? = some (.ref (q 11)) := rfl
theorem mF_15 : (mF t q)[15]? = some (.ref (q 12)) := rfl
theorem mF_16 : (mF t q)[16]? = some (.ref (q 13)) := rfl
theorem mF_17 : (mF t q)[17]? = some (.ref (q 14)) := rfl
theorem mF_18 : (mF t q)[18]? = some (.ref (q 15)) := rfl
theorem mF_19 : (mF t q)[19]? = some (.ref (q 16)) := rfl
theorem mF_20 : (mF t q)[20]? = some (.int 7) := rfl
theorem mF_21 : (mF t q)[21]? = some (.int 1000) := rfl
theorem mF_22 : (mF t q)[22]? = some (.int 20) := rfl
theorem mF_23 : (mF t q)[23]? = some (.int 0) := rfl
theorem mF_24 : (mF t q)[24]? = some (.ref (q 17)) := rfl
theorem mF_25 : (mF t q)[25]? = some (.ref (q 18)) := rfl
theorem mF_26 : (mF t q)[26]? = some (.ref (q 19)) := rfl
theorem mF_27 : (mF t q)[27]? = some (.int 0) := rfl
theorem mF_28 : (mF t q)[28]? = some (.int 0) := rfl
theorem mF_29 : (mF t q)[29]? = some (.ref (q 20)) := rfl
theorem mF_30 : (mF t q)[30]? = some (.ref (q 21)) := rfl
theorem mF_31 : (mF t q)[31]? = some (.ref (q 22)) := rfl
theorem mF_32 : (mF t q)[32]? = some (.ref (q 23)) := rfl
theorem mF_33 : (mF t q)[33]? = some (.ref (q 24)) := rfl
theorem mF_34 : (mF t q)[34]? = some (.ref (q 25)) := rfl
theorem mF_35 : (mF t q)[35]? = some (.int 0) := rfl
theorem mF_36 : (mF t q)[36]? = some (.int 0) := rfl
theorem mF_37 : (mF t q)[37]? = some (.int 0) := rfl
theorem mF_38 : (mF t q)[38]? = some (.int 0) := rfl
theorem mF_39 : (mF t q)[39]? = some (.int 0) := rfl
theorem mF_40 : (mF t q)[40]? = some (.int 0) := rfl
theorem mF_41 : (mF t q)[41]? = some (.int 0) := rfl
theorem mF_42 : (mF t q)[42]? = some (.int 0) := rfl
theorem mF_43 : (mF t q)[43]? = some (.int 0) := rfl
theorem mF_44 : (mF t q)[44]? = some (.int 0) := rfl
theorem mF_45 : (mF t q)[45]? = some (.int 0) := rfl
theorem mF_46 : (mF t q)[46]? = some (.int 0) := rfl
theorem mF_47 : (mF t q)[47]? = some (.int 0) := rfl
theorem mF_48 : (mF t q)[48]? = some (.int 0) := rfl
theorem mF_49 : (mF t q)[49]? = some (.int 0) := rfl
theorem mF_50 : (mF t q)[50]? = some (.int 0) := rfl
theorem mF_51 : (mF t q)[51]? = some (.int 0) := rfl
theorem mF_52 : (mF t q)[52]? = some (.int 0) := rfl
theorem mF_53 : (mF t q)[53]? = some (.long 0) := rfl
theorem mF_54 : (mF t q)[54]? = some (.long 0) := rfl
theorem mF_55 : (mF t q)[55]? = some (.int 0) := rfl
theorem mF_56 : (mF t q)[56]? = some (.ref (q 26)) := rfl
theorem mF_57 : (mF t q)[57]? = some (.ref (q 27)) := rfl
theorem mF_58 : (mF t q)[58]? = some (.ref (q 28)) := rfl
theorem mF_59 : (mF t q)[59]? = some (.ref (q 29)) := rfl
theorem mW_0 : (mW o t q cI cZ)[0]? = some (o, .inr (9, mF t q)) := rfl
theorem mW_1 : (mW o t q cI cZ)[1]? = some (q 0, .inl (cI, 10, .inl (upd (fun _ => 0) 0 (-1)))) := rfl
theorem mW_2 : (mW o t q cI cZ)[2]? = some (q 1, .inl (cI, 10, .inl (upd (fun _ => 0) 0 (-1)))) := rfl
theorem mW_3 : (mW o t q cI cZ)[3]? = some (q 2, .inl (cI, 10, .inl (fun _ => 0))) := rfl
theorem mW_4 : (mW o t q cI cZ)[4]? = some (q 3, .inl (cI, 10, .inl (fun _ => 0))) := rfl
theorem mW_5 : (mW o t q cI cZ)[5]? = some (q 4, .inl (cI, 10, .inl (fun _ => 0))) := rfl
theorem mW_6 : (mW o t q cI cZ)[6]? = some (q 5, .inl (cI, 10, .inl (fun _ => -1))) := rfl
theorem mW_7 : (mW o t q cI cZ)[7]? = some (q 6, .inl (cI, 160, .inl (fun _ => -1))) := rfl
theorem mW_8 : (mW o t q cI cZ)[8]? = some (q 7, .inl (cI, 160, .inl (fun _ => 0))) := rfl
theorem mW_9 : (mW o t q cI cZ)[9]? = some (q 8, .inl (cI, 160, .inl (fun _ => 0))) := rfl
theorem mW_10 : (mW o t q cI cZ)[10]? = some (q 9, .inl (cI, 100, .inl (fun _ => 0))) := rfl
theorem mW_11 : (mW o t q cI cZ)[11]? = some (q 10, .inl (cI, 100, .inl (fun _ => 0))) := rfl
theorem mW_12 : (mW o t q cI cZ)[12]? = some (q 11, .inl (cI, 110, .inl (fun _ => 0))) := rfl
theorem mW_13 : (mW o t q cI cZ)[13]? = some (q 12, .inl (cI, 110, .inl (fun _ => 0))) := rfl
theorem mW_14 : (mW o t q cI cZ)[14]? = some (q 13, .inl (cI, 110, .inl (fun _ => 0))) := rfl
theorem mW_15 : (mW o t q cI cZ)[15]? = some (q 14, .inl (cI, 110, .inl (fun _ => 0))) := rfl
theorem mW_16 : (mW o t q cI cZ)[16]? = some (q 15, .inl (cI, 110, .inl (fun _ => 0))) := rfl
theorem mW_17 : (mW o t q cI cZ)[17]? = some (q 16, .inl (cI, 110, .inl (fun _ => 0))) := rfl
theorem mW_18 : (mW o t q cI cZ)[18]? = some (q 17, .inl (cI, 10, .inl (fun _ => 0))) := rfl
theorem mW_19 : (mW o t q cI cZ)[19]? = some (q 18, .inl (cI, 0, .inl (fun _ => 0))) := rfl
theorem mW_20 : (mW o t q cI cZ)[20]? = some (q 19, .inl (cI, 0, .inl (fun _ => 0))) := rfl
theorem mW_21 : (mW o t q cI cZ)[21]? = some (q 20, .inl (cI, 110, .inl (fun _ => 0))) := rfl
theorem mW_22 : (mW o t q cI cZ)[22]? = some (q 21, .inl (cI, 0, .inl (fun _ => 0))) := rfl
theorem mW_23 : (mW o t q cI cZ)[23]? = some (q 22, .inl (cI, 0, .inl (fun _ => 0))) := rfl
theorem mW_24 : (mW o t q cI cZ)[24]? = some (q 23, .inl (cI, 0, .inl (fun _ => 0))) := rfl
theorem mW_25 : (mW o t q cI cZ)[25]? = some (q 24, .inl (cI, 0, .inl (fun _ => 0))) := rfl
theorem mW_26 : (mW o t q cI cZ)[26]? = some (q 25, .inl (cI, 0, .inl (fun _ => 0))) := rfl
theorem mW_27 : (mW o t q cI cZ)[27]? = some (q 26, .inl (cI, 0, .inl (fun _ => 0))) := rfl
theorem mW_28 : (mW o t q cI cZ)[28]? = some (q 27, .inl (cI, 110, .inl (fun _ => 0))) := rfl
theorem mW_29 : (mW o t q cI cZ)[29]? = some (q 28, .inl (cI, 10, .inl (fun _ => 0))) := rfl
theorem mW_30 : (mW o t q cI cZ)[30]? = some (q 29, .inl (cZ, 110, .inl (fun _ => 0))) := rfl
theorem mW_t (k : Int32) : (mW o t q cI cZ).set 0 (o, .inr (9, (mF t q).set 0 (.int k))) = mW o k q cI cZ := rfl
end XM
