section XB
/-- all words of the tables that a callee may be handed -/
def uG : List Cond := lw_tbl.filter goodWord
theorem uG_mem {w : Cond} (h : w ∈ tables_1) (g : goodWord w = true) : w ∈ uG := List.mem_filter.mpr ⟨List.mem_append_right _ h, g⟩
theorem uG_tbl {w : Cond} (h : w ∈ uG) : w ∈ lw_tbl := (List.mem_filter.mp h).1
theorem uG_good {w : Cond} (h : w ∈ uG) : (w.onTables && w.keeps) = true ∨ ∃ ty, w = .arrayClass ty := good_of_word (List.mem_filter.mp h).2
theorem uG_sel {q : MethodName × Nat} (h : q ∈ lw_privs) : Cond.selects q.1.cls q.1 q.1 ∈ uG := List.mem_filter.mpr ⟨List.mem_append_left _ (List.mem_map.mpr ⟨q, h, rfl⟩), rfl⟩
abbrev uW (y : MethodName) (b : ByteArray) (n : Nat) (r : Option FieldType) : List Cond := Cond.code y b n r :: uG
theorem gd_W {y : MethodName} {b : ByteArray} {n : Nat} {r : Option FieldType} (h : Cond.code y b n r ∈ uG) : GoodIn uG (uW y b n r) := fun w hw => (List.mem_cons.mp hw).elim (fun e => by rw [e]; exact ⟨h, uG_good h⟩) (fun h => ⟨h, uG_good h⟩)
theorem gd_V {own C : String} {idx : Nat} {y : MethodName} {b : ByteArray} {n : Nat} {r : Option FieldType} (h1 : Cond.methodLink own idx y ∈ uG) (h2 : Cond.instanceMethod y ∈ uG) (h3 : Cond.selects C y y ∈ uG) (h4 : Cond.initialized C ∈ uG) (h5 : Cond.code y b n r ∈ uG) : GoodIn uG (wsV own idx C y (uW y b n r)) := by
  intro w hw
  rcases List.mem_append.mp hw with h | h
  · rcases List.mem_cons.mp h with h | h
    · rw [h]; exact ⟨h1, uG_good h1⟩
    · rcases List.mem_cons.mp h with h | h
      · rw [h]; exact ⟨h2, uG_good h2⟩
      · rcases List.mem_cons.mp h with h | h
        · rw [h]; exact ⟨h3, uG_good h3⟩
        · rcases List.mem_cons.mp h with h | h
          · rw [h]; exact ⟨h4, uG_good h4⟩
          · cases h
  · exact gd_W h5 w h
theorem gd_S {own : String} {idx : Nat} {y : MethodName} {b : ByteArray} {n : Nat} {r : Option FieldType} (h1 : Cond.methodLink own idx y ∈ uG) (h2 : Cond.static y ∈ uG) (h4 : Cond.initialized y.cls ∈ uG) (h5 : Cond.code y b n r ∈ uG) : GoodIn uG (va_wsS own idx y (uW y b n r)) := by
  intro w hw
  rcases List.mem_append.mp hw with h | h
  · rcases List.mem_cons.mp h with h | h
    · rw [h]; exact ⟨h1, uG_good h1⟩
    · rcases List.mem_cons.mp h with h | h
      · rw [h]; exact ⟨h2, uG_good h2⟩
      · rcases List.mem_cons.mp h with h | h
        · rw [h]; exact ⟨h4, uG_good h4⟩
        · cases h
  · exact gd_W h5 w h
/-- what the tables say of a method that an instance has -/
def mI (y : MethodName) (b : ByteArray) (n : Nat) (r : Option FieldType) (np : Nat) : Prop := Cond.instanceMethod y ∈ uG ∧ Cond.selects y.cls y y ∈ uG ∧ Cond.initialized y.cls ∈ uG ∧ Cond.code y b n r ∈ uG ∧ y.cls ≠ "java/lang/invoke/MethodHandle" ∧ y.cls ≠ "java/lang/invoke/VarHandle" ∧ (parseMethodDescriptor y.desc).map (fun d => d.parameters.length) = some np
/-- .. of a static one -/
def mS (y : MethodName) (b : ByteArray) (n : Nat) (r : Option FieldType) (np : Nat) : Prop := Cond.static y ∈ uG ∧ Cond.initialized y.cls ∈ uG ∧ Cond.code y b n r ∈ uG ∧ y.cls ≠ "java/lang/invoke/MethodHandle" ∧ y.cls ≠ "java/lang/invoke/VarHandle" ∧ (parseMethodDescriptor y.desc).map (fun d => d.parameters.length) = some np
abbrev tyL (cI cZ cJ : ClassId) : List (ClassId × FieldType) := [(cI, .int), (cZ, .boolean), (cJ, .array .int)]
/-- a world that stands -/
abbrev pS (D : va_G) (tys : List (ClassId × FieldType)) (ws : va_W) : State → Prop := fun U => va_P D vwCl ws U.heap ∧ va_K D vwCl tys U
theorem pS_blind {av : List Value} {D : va_G} {tys : List (ClassId × FieldType)} {ws : va_W} : FrameBlind (va_Pc av (pS D tys ws)) := fun a U g mk q => ⟨q.1, q.2.1, va_K.moved (u := U) (U := U.calling g mk a) (Vm.Alike.refl U.vm) q.2.2⟩
def bI (P : Prop) [Decidable P] : Int32 := if P then 1 else 0
theorem bI_t {P : Prop} [Decidable P] (h : P) : bI P = 1 := if_pos h
theorem bI_f {P : Prop} [Decidable P] (h : ¬ P) : bI P = 0 := if_neg h
theorem bI_1 {P : Prop} [Decidable P] (h : P) : 1 = bI P := (if_pos h).symm
theorem bI_0 {P : Prop} [Decidable P] (h : ¬ P) : 0 = bI P := (if_neg h).symm
theorem bI_c {P Q : Prop} [Decidable P] [Decidable Q] (h : P ↔ Q) : bI P = bI Q := by unfold bI; by_cases p : P <;> by_cases q : Q <;> simp_all
theorem bI_z {P : Prop} [Decidable P] : bI P = 0 ↔ ¬ P := by unfold bI; by_cases p : P <;> simp_all
theorem bI_nar {P : Prop} [Decidable P] : narrow .boolean (.int (bI P)) = .int (bI P) := by unfold bI; by_cases p : P <;> simp only [p, if_true, if_false] <;> rfl
variable {p : Program} {l : Launch} {e : Env} {R : Room} {s : State} {m : MethodId} {args : Array Value} {below : List Frame} {meth : Method} {c : Code} {H : Heap} {locs : List Loc} {cells slots : Nat} {Q : State → Prop}
variable {cc b : ByteArray} {pc nL n idx : Nat} {ls : Array Slot} {As rest : List Value} {own : String} {y : MethodName} {r : Option FieldType} {rm : Room} {D : va_G} {tys : List (ClassId × FieldType)} {ws : va_W}
theorem xg {C ref : String} {T : u_T} {N ci : Nat} (S : CallFix p m c cc nL s args uG own) (hin : ∀ w ∈ u_ws C T N, w ∈ uG) (hc : vwCl[ci]? = some (C, T, N)) (hK : va_K D vwCl tys s) (hP : va_P D vwCl ws H) {q0 a : Nat} {fs : List Value} (he : ws[q0]? = some (a, .inr (ci, fs))) (k : Nat) {v : Value} (hk : k < N) (hv : fs[k]? = some v) (hlink : Cond.fieldLink own idx ref (T k).2.1 (T k).2.2.1 ∈ uG) (href : ref = (T k).1) (hdg : decode cc pc = .ok (.getfield idx, 3)) (kk : W p l e R s m args below meth c H locs cells slots Q (F0 m (pc + 3) ls (v :: rest))) : W p l e R s m args below meth c H locs cells slots Q (F0 m pc ls (.ref a :: rest)) :=
  va_get S.1 S.2.1 S.2.2.2.2 hin S.2.2.2.1 hK hP q0 he hc k hk (S.2.2.2.2 _ hlink) (fun x h => by rw [href]; exact h) hv hdg kk
/-- a call of a method that only reads, and gives a number -/
theorem rdV {v : Int32} {q k ci : Nat} {fs : List Value} {qc : vw_C} (S : CallFix p m c cc nL s args uG own) (hM : Met l y (uW y b n r) rm (va_Pc (.ref q :: As) (pS D tys ws)) (QcRead v) 0 0 (fun _ => False)) (hI : mI y b n r As.length) (hL : Cond.methodLink own idx y ∈ uG) (hz : rm.cells = 0 ∧ rm.slots = 0) (hR : rm.frames + 1 ≤ R.frames ∧ 8 + (n + 11) + rm.locals ≤ R.locals) (hP : va_P D vwCl ws H) (hK : va_K D vwCl tys s) (he : ws[k]? = some (q, .inr (ci, fs))) (hc : vwCl[ci]? = some qc) (hcl : qc.1 = y.cls) (hls : ls.size = nL) (hst : (rest.map fun v => v.category).sum ≤ 8) (hf : cells ≤ R.cells ∧ slots ≤ R.slots) (hdg : decode cc pc = .ok (.invokevirtual idx, 3)) (kk : W p l e R s m args below meth c H locs cells slots Q (F0 m (pc + 3) ls (.int v :: rest))) : W p l e R s m args below meth c H locs cells slots Q (F0 m pc ls (As.reverse ++ .ref q :: rest)) := by
  obtain ⟨i1, i2, i3, i4, i5, i6, i7⟩ := hI
  refine W.callR (W.runV S hM (cwV As.length S.2.2.2.2 (gd_V hL i1 i2 i3 i4) rfl hz.1 hz.2 ⟨rfl, i5, i6, i7⟩ hR) ⟨pS_blind, ?_, fun U hU hW => ⟨rfl, by rw [hU]; exact hP, va_K.moved hW.alike hK⟩⟩ rfl rfl hls rfl (lv_room hst) hdg hf) kk
  have h9 := va_recv hK hP hc he
  rw [hcl] at h9
  exact h9
theorem rdS {v : Int32} (S : CallFix p m c cc nL s args uG own) (hM : Met l y (uW y b n r) rm (va_Pc As (pS D tys ws)) (QcRead v) 0 0 (fun _ => False)) (hI : mS y b n r As.length) (hL : Cond.methodLink own idx y ∈ uG) (hz : rm.cells = 0 ∧ rm.slots = 0) (hR : rm.frames + 1 ≤ R.frames ∧ 8 + (n + 11) + rm.locals ≤ R.locals) (hP : va_P D vwCl ws H) (hK : va_K D vwCl tys s) (hls : ls.size = nL) (hst : (rest.map fun v => v.category).sum ≤ 8) (hf : cells ≤ R.cells ∧ slots ≤ R.slots) (hdg : decode cc pc = .ok (.invokestatic idx, 3)) (kk : W p l e R s m args below meth c H locs cells slots Q (F0 m (pc + 3) ls (.int v :: rest))) : W p l e R s m args below meth c H locs cells slots Q (F0 m pc ls (As.reverse ++ rest)) := by
  obtain ⟨i1, i3, i4, i5, i6, i7⟩ := hI
  exact W.callR (W.runS S hM (va_cwS As.length S.2.2.2.2 (gd_S hL i1 i3 i4) rfl hz.1 hz.2 ⟨i5, i6, i7⟩ hR) ⟨pS_blind, fun U hU hW => ⟨rfl, by rw [hU]; exact hP, va_K.moved hW.alike hK⟩⟩ rfl rfl hls rfl (lv_room hst) hdg hf) kk
/-- the start of a method that only reads -/
theorem rdStart {v : Int32} {av : List Value} {lv : List (Nat × Value)} (hy : plainName y.cls = true) (hn : (lg_sl av).length ≤ n) (hlv : lv_args 0 av = lv)
    (body : ∀ (p : Program) (e : Env) (s : State) (m : MethodId) (args : Array Value) (below : List Frame) (meth : Method) (c : Code) (ls : Array Slot), CallFix p m c b n s args uG y.cls → meth.sig.returnType = r → meth.locks = false → lv_has ls n lv → va_P D vwCl ws s.heap → va_K D vwCl tys s → W p l e rm s m args below meth c s.heap [] 0 0 (MQ below (QcRead v) args s 0 0 (fun _ => False)) (F0 m 0 ls [])) : Met l y (uW y b n r) rm (va_Pc av (pS D tys ws)) (QcRead v) 0 0 (fun _ => False) := by
  refine Met.ofW (cc := b) (maxL := n) (ret := r) hy rfl ?_
  intro p e s m args below meth c s₁ B hml hv
  obtain ⟨rfl, hP, hK⟩ := hv
  have hts := atoms_spec (ws := uW y b n r) B.pre
  have hl := lv_entry av (n := n) hn
  rw [lg_entry_eq]
  generalize (lg_sl av ++ List.replicate (n - (lg_sl av).length) Slot.unset).toArray = ls at hl ⊢
  rw [hlv] at hl
  exact body p e s m av.toArray below meth c ls ⟨B.exec, B.bytes, hml, findClass_of_methodNamed B.named, fun w h => hts w (List.mem_cons_of_mem _ h)⟩ B.returns B.notSynchronized hl hP hK
theorem rdEnd {v v2 : Int32} (S : CallFix p m c cc nL s args uG own) (hr : meth.sig.returnType = some .int) (hlocks : meth.locks = false) (hdg : decode cc pc = .ok (.ireturn, 1)) (hv : v2 = v) : W p l e R s m args below meth c s.heap [] cells slots (MQ below (QcRead v) args s cells slots (fun _ => False)) (F0 m pc ls [.int v2]) := by
  subst hv
  exact W.iret S.1 S.2.1 hr (fun t ht hW => ⟨rfl, ht⟩) (fun q h => by cases h) hdg hlocks
theorem rdEndZ {v v2 : Int32} (S : CallFix p m c cc nL s args uG own) (hr : meth.sig.returnType = some .boolean) (hlocks : meth.locks = false) (hdg : decode cc pc = .ok (.ireturn, 1)) (hv : v2 = v) (hn : narrow .boolean (.int v2) = .int v2) : W p l e R s m args below meth c s.heap [] cells slots (MQ below (QcRead v) args s cells slots (fun _ => False)) (F0 m pc ls [.int v2]) := by
  subst hv
  exact W.zret S.1 S.2.1 hr hn (fun t ht hW => ⟨rfl, ht⟩) (fun q h => by cases h) hdg hlocks
theorem lb_ne {P : Prop} [Decidable P] {off : Int} {tgt : Nat} (S : CallFix p m c cc nL s args uG own) (hdg : decode cc pc = .ok (.ifCond .ne off, 3)) (ht : (pc : Int) + off = (tgt : Int)) (kt : P → W p l e R s m args below meth c H locs cells slots Q (F0 m tgt ls rest)) (kf : ¬ P → W p l e R s m args below meth c H locs cells slots Q (F0 m (pc + 3) ls rest)) : W p l e R s m args below meth c H locs cells slots Q (F0 m pc ls (.int (bI P) :: rest)) :=
  lv_if_ne S.1 S.2.1 hdg ht (fun h => kt (Decidable.byContradiction fun q => h (bI_f q))) (fun h => kf (bI_z.mp h))
theorem lb_eq {P : Prop} [Decidable P] {off : Int} {tgt : Nat} (S : CallFix p m c cc nL s args uG own) (hdg : decode cc pc = .ok (.ifCond .eq off, 3)) (ht : (pc : Int) + off = (tgt : Int)) (kt : ¬ P → W p l e R s m args below meth c H locs cells slots Q (F0 m tgt ls rest)) (kf : P → W p l e R s m args below meth c H locs cells slots Q (F0 m (pc + 3) ls rest)) : W p l e R s m args below meth c H locs cells slots Q (F0 m pc ls (.int (bI P) :: rest)) :=
  lv_if_eq S.1 S.2.1 hdg ht (fun h => kt (bI_z.mp h)) (fun h => kf (Decidable.byContradiction fun q => h (bI_f q)))
end XB
