/-! CONSTRUCTORS: what makes cells -/
/-- a constructor's contract: out of the bare object at h0 the whole world of its class -/
def yCt (y : MethodName) (cc : ByteArray) (ci : Nat) (z : List Value) (sh : List xS) (μ0 : xM) (d mc ms : Nat) : Prop := ∀ (l : Launch) (D : va_G) (cI cZ : ClassId) (h0 sz : Nat), Met l y (Cond.code y cc 1 none :: x_tbl) ({ frames := d, cells := mc, slots := ms, locals := 64 * d }) (va_Pc [.ref h0] (fun U => U.heap.size = sz ∧ va_P D vwCl [(h0, .inr (ci, z))] U.heap ∧ va_K D vwCl [(cI, .int), (cZ, .boolean)] U ∧ va_D (fun _ => True) [(h0, .inr (ci, z))])) (va_Qv (fun (ad : Nat → Nat) => ad 0 = h0) (fun ad t => va_P D vwCl (x_w cI cZ ad sh μ0) t.heap ∧ va_D (va_A [(h0, .inr (ci, z))] sz) (x_w cI cZ ad sh μ0)) (va_A [(h0, .inr (ci, z))] sz)) mc ms (va_A [(h0, .inr (ci, z))] sz)
theorem y_last {α : Type} (ws : List α) (x : α) : [ws.length].map (fun i => (ws ++ [x])[i]?) = [x].map some := by simp
theorem y_front {α : Type} (ws : List α) (x : α) : (List.range ws.length).map (fun i => (ws ++ [x])[i]?) = ws.map some := by
  apply List.ext_getElem?
  intro i
  simp only [List.getElem?_map]
  by_cases hi : i < ws.length
  · rw [List.getElem?_range hi, List.getElem?_eq_getElem hi]
    simp [List.getElem?_append_left hi, List.getElem?_eq_getElem hi]
  · rw [List.getElem?_eq_none (by simp; omega), List.getElem?_eq_none (by omega)]
    rfl
section YK
variable {p : Program} {l : Launch} {e : Env} {R : Room} {s : State} {m : MethodId} {args : Array Value} {below : List Frame} {meth : Method} {c : Code} {H : Heap} {locs : List Loc} {cells slots : Nat} {Q : State → Prop} {cc : ByteArray} {pc : Nat} {ls : Array Slot} {rest : List Value} {D : va_G} {cI cZ : ClassId} {A : Nat → Prop} {ws : va_W}
theorem y_newi (hx : p.tables.exec = Jvm.exec) (hb : c.code = cc) (hts : ∀ w ∈ x_tbl, w.before args s = true) (hK : va_K D vwCl [(cI, .int), (cZ, .boolean)] s) (hP : va_P D vwCl ws H) (hD : va_D A ws) (hS : va_S A s.heap H locs) (hA : ∀ q, s.heap.size ≤ q → A q) {n : Int32} {N' : Nat} (hn : ¬ n < 0) (hN : n.toNatClampNeg = N') (hbytes : N' * componentBytes .int ≤ 536870912) (hcells : cells + 1 ≤ R.cells) (hslots : slots + N' ≤ R.slots) (hdg : decode cc pc = .ok (.newarray .int, 2))
    (kk : ∀ (q : Nat) (H1 : Heap), va_P D vwCl (ws ++ [(q, .inl (cI, N', .inl (fun _ => x_I 0)))]) H1 → va_D A (ws ++ [(q, .inl (cI, N', .inl (fun _ => x_I 0)))]) → va_S A s.heap H1 locs → W p l e R s m args below meth c H1 locs (cells + 1) (slots + N') Q (F0 m (pc + 2) ls (.ref q :: rest))) : W p l e R s m args below meth c H locs cells slots Q (F0 m pc ls (.int n :: rest)) := by
  refine va_newa hx hb (atype := .int) (hts _ (x_mem ac_int rfl)) (ty := .int) rfl hK hP hD hS hA (a0 := (N', .inl (fun _ => x_I 0))) (fun cA => ?_) hn hN hbytes hcells hslots hdg (fun q cA H1 hK1 hP1 hD1 hS1 => ?_)
  · rw [x_zero]
    exact vp_cell_i _ _ _
  · have e : cA = cI := by
      have h1 : s.vm.findClass ("[" ++ (FieldType.int).toString) = some cA := (hK1.2 2 (cA, .int) rfl).2
      have h2 : s.vm.findClass ("[" ++ (FieldType.int).toString) = some cI := (hK.2 0 (cI, .int) rfl).2
      exact Option.some.inj (h1.symm.trans h2)
    subst e
    exact kk q H1 hP1 hD1 hS1
theorem y_newz (hx : p.tables.exec = Jvm.exec) (hb : c.code = cc) (hts : ∀ w ∈ x_tbl, w.before args s = true) (hK : va_K D vwCl [(cI, .int), (cZ, .boolean)] s) (hP : va_P D vwCl ws H) (hD : va_D A ws) (hS : va_S A s.heap H locs) (hA : ∀ q, s.heap.size ≤ q → A q) {n : Int32} {N' : Nat} (hn : ¬ n < 0) (hN : n.toNatClampNeg = N') (hbytes : N' * componentBytes .boolean ≤ 536870912) (hcells : cells + 1 ≤ R.cells) (hslots : slots + N' ≤ R.slots) (hdg : decode cc pc = .ok (.newarray .boolean, 2))
    (kk : ∀ (q : Nat) (H1 : Heap), va_P D vwCl (ws ++ [(q, .inl (cZ, N', .inl (fun _ => x_I 0)))]) H1 → va_D A (ws ++ [(q, .inl (cZ, N', .inl (fun _ => x_I 0)))]) → va_S A s.heap H1 locs → W p l e R s m args below meth c H1 locs (cells + 1) (slots + N') Q (F0 m (pc + 2) ls (.ref q :: rest))) : W p l e R s m args below meth c H locs cells slots Q (F0 m pc ls (.int n :: rest)) := by
  refine va_newa hx hb (atype := .boolean) (hts _ (x_mem ac_boolean rfl)) (ty := .boolean) rfl hK hP hD hS hA (a0 := (N', .inl (fun _ => x_I 0))) (fun cA => ?_) hn hN hbytes hcells hslots hdg (fun q cA H1 hK1 hP1 hD1 hS1 => ?_)
  · rw [x_zero]
    exact vp_cell_i _ _ _
  · have e : cA = cZ := by
      have h1 : s.vm.findClass ("[" ++ (FieldType.boolean).toString) = some cA := (hK1.2 2 (cA, .boolean) rfl).2
      have h2 : s.vm.findClass ("[" ++ (FieldType.boolean).toString) = some cZ := (hK.2 1 (cZ, .boolean) rfl).2
      exact Option.some.inj (h1.symm.trans h2)
    subst e
    exact kk q H1 hP1 hD1 hS1
/-- new, dup, the constructor's call -/
theorem y_mk {nL : Nat} {own C : String} {T : u_T} {N ci i1 i2 d mc ms : Nat} {y : MethodName} {cc' : ByteArray} {z : List Value} {sh : List xS} {μ0 : xM} {ty : Nat → FieldType} (hx : p.tables.exec = Jvm.exec) (hb : c.code = cc) (hml : c.maxLocals = nL) (hown : s.vm.findClass own = some m.cls) (hts : ∀ w ∈ x_tbl, w.before args s = true) (hK : va_K D vwCl [(cI, .int), (cZ, .boolean)] s) (hP : va_P D vwCl ws H) (hD : va_D A ws) (hS : va_S A s.heap H locs) (hA : ∀ q, s.heap.size ≤ q → A q)
    (hlay : ∀ w ∈ u_ws C T N, w ∈ lw_tbl) (hty : ∀ k, k < N → parseFieldDescriptor (T k).2.2.1 = some (ty k)) (hcl : Cond.classLink own i1 C ∈ lw_tbl) (hit : Cond.instantiable C N ∈ lw_tbl) (hini : Cond.initialized C ∈ lw_tbl) (hc : vwCl[ci]? = some (C, T, N)) (hz : ∀ j, j < N → defaultValue (ty j) = vp_V z j)
    (hct : yCt y cc' ci z sh μ0 d mc ms) (hlk : Cond.methodLink own i2 y ∈ lw_tbl) (hmi : Cond.instanceMethod y ∈ lw_tbl) (hmc : Cond.code y cc' 1 none ∈ lw_tbl) (hy1 : y.name = "<init>") (hyc : y.cls = C) (hpd : y.cls ≠ "java/lang/invoke/MethodHandle" ∧ y.cls ≠ "java/lang/invoke/VarHandle" ∧ (parseMethodDescriptor y.desc).map (fun d => d.parameters.length) = some 0)
    (hR : d + 1 ≤ R.frames ∧ 8 + (1 + 11) + 64 * d ≤ R.locals) (hcells : cells + 1 + mc ≤ R.cells) (hslots : slots + N + ms ≤ R.slots) (hls : ls.size = nL) (hcat : 2 * (F0 m (pc + 4) ls (.ref 0 :: .ref 0 :: rest)).monitorRoom + ((Value.ref 0 :: rest).map fun v => v.category).sum ≤ 8) (hw : ws.length ≤ 64)
    (d1 : decode cc pc = .ok (.new i1, 3)) (d2 : decode cc (pc + 3) = .ok (.dup, 1)) (d3 : decode cc (pc + 3 + 1) = .ok (.invokespecial i2, 3))
    (kk : ∀ (ad : Nat → Nat) (H1 : Heap) (locs1 : List Loc), va_P D vwCl (ws ++ x_w cI cZ ad sh μ0) H1 → va_D A (ws ++ x_w cI cZ ad sh μ0) → va_S A s.heap H1 locs1 → W p l e R s m args below meth c H1 locs1 (cells + 1 + mc) (slots + N + ms) Q (F0 m (pc + 3 + 1 + 3) ls (.ref (ad 0) :: rest))) : W p l e R s m args below meth c H locs cells slots Q (F0 m pc ls rest) := by
  refine va_new (ci := ci) (fs := z) (C := C) (T := T) (N := N) hx hb hts (x_lay hlay) ty hty hown (hts _ (x_mem hcl rfl)) (hts _ (x_mem hit rfl)) (hts _ (x_mem hini rfl)) hK hP hD hS hA hc hz (by omega) (by omega) d1 (fun q H1 hP1 hD1 hS1 => ?_)
  refine lv_dup hx hb d2 rfl ?_
  have hPc : va_P D vwCl [(q, .inr (ci, z))] H1 := by
    intro k x hk
    have hk0 : k = 0 := by
      have := (List.getElem?_eq_some_iff.mp hk).1
      simp at this
      exact this
    subst hk0
    exact hP1 ws.length x (by simpa using hk)
  have hDc : va_D A [(q, .inr (ci, z))] := hD1.sub [ws.length] rfl (y_last ws _)
  have hFc := va_free (wc := [(q, .inr (ci, z))]) hD1 hS1 hA [ws.length] (y_last ws _)
  refine va_callv (va_runI (As := []) (rest := .ref q :: rest) ⟨hx, hb, hml, hown, hts⟩ (hct l D cI cZ q H1.size) (cwI 0 hts (fun w hw => ?_) rfl rfl rfl (by rw [hyc]; exact hts _ (x_mem hini rfl)) (hts _ (x_mem hlk rfl)) (hts _ (x_mem hmi rfl)) hy1 hpd hR) ⟨fun a U g mk q => by obtain ⟨q0, q1, qP, qK, qD⟩ := q; exact ⟨q0, q1, qP, va_K.moved (u := U) (U := U.calling g mk a) (Vm.Alike.refl U.vm) qK, qD⟩, fun U hU hW => ⟨rfl, by rw [hU], by rw [hU]; exact hPc, va_K.moved hW.alike hK, hDc.weaken (fun _ _ _ _ => trivial)⟩⟩ rfl rfl hls rfl hcat d3 ⟨by omega, by omega⟩) hS1 (fun q _ h => hFc q h) hFc (fun ad t H2 locs2 ht hvm hw2 hB hz1 hk1 hS2 => ?_)
  · refine x_good w ?_
    rcases List.mem_cons.mp hw with rfl | hw
    · exact x_mem hmc rfl
    · exact hw
  · obtain ⟨hP2, hD2⟩ := hB
    rw [ht] at hP2
    have hj := va_join (wr := ws) (w1 := x_w cI cZ ad sh μ0) hP1 hD1 [ws.length] (List.range ws.length) (y_last ws _) (y_front ws _) (x_nd_range _ hw) (fun i hi => by simp at hi; simp; omega) hk1 hFc hP2 hD2
    rw [← hw2]
    exact kk ad H2 locs2 hj.1 hj.2 hS2
end YK
