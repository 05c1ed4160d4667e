/-! calls: a method's X gives its contract; a call over a part of the caller's cells -/
def x_ix (is : List Nat) (i : Nat) : Nat := if i < is.length then is.getD i 0 else i
def x_rs (is : List Nat) : xS → xS
  | .inl a => .inl a
  | .inr (ci, fs) => .inr (ci, fs.map (Option.map (x_ix is)))
def x_va (is : List Nat) : xA → xA
  | .inl a => .inl a
  | .inr (.inl r) => .inr (.inl (x_ix is r))
  | .inr (.inr l) => .inr (.inr l)
def x_pos : List Nat → Nat → Option Nat
  | [], _ => none
  | a :: l, k => if k = a then some 0 else (x_pos l k).map (· + 1)
def x_ct (is : List Nat) (μ : xM) : xM := fun j => μ (x_ix is j)
def x_mrg (is : List Nat) (μ μ' : xM) : xM := fun k => match x_pos is k with
  | some j => μ' j
  | none => μ k
def x_emb (sh sh' : List xS) (is : List Nat) : Prop := is.map (fun i => sh[i]?) = (sh'.map (x_rs is)).map some ∧ va_nd is = true ∧ is.length ≤ 1000
theorem x_pos_some : ∀ {is : List Nat} {k j : Nat}, x_pos is k = some j → is[j]? = some k
  | [], _, _, h => by simp [x_pos] at h
  | a :: l, k, j, h => by
    simp only [x_pos] at h
    split at h
    next e => cases h; rw [e]; rfl
    next e =>
      cases hp : x_pos l k with
      | none => rw [hp] at h; cases h
      | some i =>
        rw [hp] at h
        cases h
        show (a :: l)[i + 1]? = some k
        rw [List.getElem?_cons_succ]
        exact x_pos_some hp
theorem x_pos_none : ∀ {is : List Nat} {k j : Nat}, x_pos is k = none → is[j]? = some k → False
  | [], _, _, _, h2 => by simp at h2
  | a :: l, k, 0, h, h2 => by
    simp only [List.getElem?_cons_zero, Option.some.injEq] at h2
    simp [x_pos, h2] at h
  | a :: l, k, j + 1, h, h2 => by
    simp only [List.getElem?_cons_succ] at h2
    simp only [x_pos] at h
    split at h
    next => cases h
    next => 
      cases hp : x_pos l k with
      | none => exact x_pos_none hp h2
      | some i => rw [hp] at h; cases h
theorem x_pos_at {is : List Nat} {k j : Nat} (hn : va_nd is = true) (h : is[j]? = some k) : x_pos is k = some j := by
  cases hp : x_pos is k with
  | none => exact absurd h (fun h => x_pos_none hp h)
  | some i =>
    have h2 := x_pos_some hp
    rw [va_nd_inj is hn i j k h2 h]
theorem x_ix_at {is : List Nat} {i j : Nat} (h : is[j]? = some i) : x_ix is j = i := by
  have hl := (List.getElem?_eq_some_iff.mp h).1
  unfold x_ix
  rw [if_pos hl, List.getD_eq_getElem?_getD, h]
  rfl
theorem x_v_ren (ad : Nat → Nat) (is : List Nat) (v : xA) : x_v (fun i => ad (x_ix is i)) v = x_v ad (x_va is v) := by
  rcases v with a | r | l <;> rfl
theorem x_e_ren (cI cZ : ClassId) (ad : Nat → Nat) (is : List Nat) (m : Nat → Int) (s : xS) : x_e cI cZ (fun i => ad (x_ix is i)) m s = x_e cI cZ ad m (x_rs is s) := by
  rcases s with a | ⟨ci, fs⟩
  · rfl
  · simp only [x_e, x_rs]
    congr 2
    apply List.ext_getElem?
    intro i
    rw [List.getElem?_mapIdx, List.getElem?_mapIdx, List.getElem?_map]
    cases fs[i]? with
    | none => rfl
    | some f => cases f <;> rfl
section XCUT
variable {sh sh' : List xS} {is : List Nat} {cI cZ : ClassId} {ad : Nat → Nat} {μ : xM}
theorem x_emb_at (he : x_emb sh sh' is) {j : Nat} {s' : xS} (h : sh'[j]? = some s') : ∃ i, is[j]? = some i ∧ sh[i]? = some (x_rs is s') := by
  have h1 : (is.map (fun i => sh[i]?))[j]? = some (some (x_rs is s')) := by rw [he.1]; simp [h]
  rw [List.getElem?_map] at h1
  cases hi : is[j]? with
  | none => rw [hi] at h1; cases h1
  | some i => rw [hi] at h1; exact ⟨i, rfl, Option.some.inj h1⟩
theorem x_emb_of (he : x_emb sh sh' is) {i j : Nat} {s : xS} (hi : is[j]? = some i) (h : sh[i]? = some s) : ∃ s', sh'[j]? = some s' ∧ s = x_rs is s' := by
  have h1 : (is.map (fun i => sh[i]?))[j]? = some (some s) := by rw [List.getElem?_map, hi]; exact congrArg some h
  rw [he.1, List.getElem?_map, List.getElem?_map] at h1
  cases hj : sh'[j]? with
  | none => rw [hj] at h1; cases h1
  | some s' => rw [hj] at h1; exact ⟨s', rfl, (Option.some.inj (Option.some.inj h1)).symm⟩
theorem x_cell (he : x_emb sh sh' is) {j : Nat} {q : Nat × va_E} (m : xM) (h : (x_w cI cZ (fun i => ad (x_ix is i)) sh' m)[j]? = some q) : ∃ i s', is[j]? = some i ∧ sh'[j]? = some s' ∧ sh[i]? = some (x_rs is s') ∧ q = (ad i, x_e cI cZ ad (m j) (x_rs is s')) := by
  obtain ⟨s', h1, rfl⟩ := x_wk' h
  obtain ⟨i, h2, h3⟩ := x_emb_at he h1
  refine ⟨i, s', h2, h1, h3, ?_⟩
  rw [x_ix_at h2, x_e_ren]
theorem x_cutP {D : va_G} {H : Heap} (he : x_emb sh sh' is) (hP : va_P D vwCl (x_w cI cZ ad sh μ) H) : va_P D vwCl (x_w cI cZ (fun i => ad (x_ix is i)) sh' (x_ct is μ)) H := by
  intro j q hq
  obtain ⟨i, s', h1, h2, h3, rfl⟩ := x_cell he _ hq
  have := hP i _ (x_wk h3)
  show va_at D vwCl (ad i, x_e cI cZ ad (μ (x_ix is j)) (x_rs is s')) H
  rw [x_ix_at h1]
  exact this
theorem x_cutD {A : Nat → Prop} (he : x_emb sh sh' is) (hD : va_D A (x_w cI cZ ad sh μ)) (m : xM) : va_D A (x_w cI cZ (fun i => ad (x_ix is i)) sh' m) := by
  refine ⟨fun j1 j2 p q hp hq hpq => ?_, fun j q hq => ?_⟩
  · obtain ⟨i1, s1, h1, h2, h3, rfl⟩ := x_cell he _ hp
    obtain ⟨i2, s2, g1, g2, g3, rfl⟩ := x_cell he _ hq
    have hij := hD.1 i1 i2 _ _ (x_wk h3) (x_wk g3) hpq
    subst hij
    exact va_nd_inj is he.2.1 j1 j2 i1 h1 g1
  · obtain ⟨i1, s1, h1, h2, h3, rfl⟩ := x_cell he _ hq
    exact hD.2 i1 (ad i1, x_e cI cZ ad (μ i1) (x_rs is s1)) (x_wk h3)
theorem x_cutF {A : Nat → Prop} {H0 H : Heap} {locs : List Loc} (he : x_emb sh sh' is) (hD : va_D A (x_w cI cZ ad sh μ)) (hS : va_S A H0 H locs) (hA : ∀ q, H0.size ≤ q → A q) (m : xM) : ∀ q, va_A (x_w cI cZ (fun i => ad (x_ix is i)) sh' m) H.size q → A q := by
  intro q h
  rcases h with ⟨k, e, h⟩ | h
  · exact (x_cutD he hD m).2 k _ h
  · exact hA q (Nat.le_trans hS.1 h)
theorem x_back {D : va_G} {A : Nat → Prop} {H H1 : Heap} {m m' : xM} (he : x_emb sh sh' is) (hP : va_P D vwCl (x_w cI cZ ad sh μ) H) (hD : va_D A (x_w cI cZ ad sh μ)) (hk : ∀ q : Nat, q < H.size → ¬ va_A (x_w cI cZ (fun i => ad (x_ix is i)) sh' m) H.size q → H1[q]? = H[q]?)
    (hP1 : va_P D vwCl (x_w cI cZ (fun i => ad (x_ix is i)) sh' m') H1) : va_P D vwCl (x_w cI cZ ad sh (x_mrg is μ m')) H1 := by
  intro k q hq
  obtain ⟨s, h1, rfl⟩ := x_wk' hq
  unfold x_mrg
  split
  next j hj =>
    have h2 := x_pos_some hj
    obtain ⟨s', h3, rfl⟩ := x_emb_of he h2 h1
    have := hP1 j _ (x_wk h3)
    rw [x_ix_at h2, x_e_ren] at this
    exact this
  next hj =>
    have h2 := hP k _ (x_wk h1)
    refine h2.kept (hk _ h2.lt ?_)
    rintro (⟨j, e, h⟩ | h)
    · obtain ⟨i, s', g1, g2, g3, g4⟩ := x_cell he _ h
      have hik := hD.1 k i _ _ (x_wk h1) (x_wk g3) (show ad k = ad i from congrArg Prod.fst g4)
      subst hik
      exact x_pos_none hj g1
    · exact absurd h2.lt (Nat.not_lt.mpr h)
end XCUT
/-! contracts out of X -/
section XMET
variable {E : xE} {sh : List xS} {d : Nat} {y : MethodName} {cc : ByteArray} {nL : Nat} {ty : FieldType} {as : List xA} {lv0 : List (Option xA)} {μ : xM} {Q : Option xA → xM → Prop}
abbrev x_Pre (E : xE) (sh : List xS) (as : List xA) (μ : xM) (D : va_G) (cI cZ : ClassId) (ad : Nat → Nat) (sz : Nat) : Array Value → State → Prop := va_Pc (as.map (x_v ad)) (fun U => U.heap.size = sz ∧ va_P D vwCl (x_w cI cZ ad sh μ) U.heap ∧ va_K D vwCl [(cI, .int), (cZ, .boolean)] U ∧ va_D (fun _ => True) (x_w cI cZ ad sh μ) ∧ x_Ev E ad (va_A (x_w cI cZ ad sh μ) sz) U)
theorem x_blind {D : va_G} {cI cZ : ClassId} {ad : Nat → Nat} {sz : Nat} : FrameBlind (x_Pre E sh as μ D cI cZ ad sz) := by
  intro a U g mk q
  obtain ⟨q0, q1, q2, q3, q4, q5⟩ := q
  exact ⟨q0, q1, q2, va_K.moved (u := U) (U := U.calling g mk a) (Vm.Alike.refl U.vm) q3, q4, x_Ev_move q5 (Vm.Alike.refl U.vm) (fun _ _ => rfl) (fun _ _ _ => rfl) (fun _ _ h => h)⟩
theorem x_metI (hX : X E sh d y cc nL (some ty) 0 lv0 [] μ Q) (hen : x_en as ++ List.replicate (nL - (x_en as).length) none = lv0) (hlen : (x_en as).length ≤ nL) (hp : plainName y.cls = true) (l : Launch) (D : va_G) (cI cZ : ClassId) (ad : Nat → Nat) (sz : Nat) :
    Met l y (Cond.code y cc nL (some ty) :: x_tbl) ({ frames := d, cells := 0, slots := 0, locals := 64 * d }) (x_Pre E sh as μ D cI cZ ad sz) (va_Qi (fun (r : Int32) (u : Int × xM) => r = x_I u.1 ∧ Q (some (.inl u.1)) u.2) (fun u t => va_P D vwCl (x_w cI cZ ad sh u.2) t.heap) (va_A (x_w cI cZ ad sh μ) sz)) 0 0 (va_A (x_w cI cZ ad sh μ) sz) := by
  refine Met.ofW (cc := cc) (maxL := nL) (ret := some ty) hp rfl ?_
  intro p e s m args below meth c s₁ B hml hv
  obtain ⟨rfl, hsz, hP, hK, hD0, hE⟩ := hv
  have hr := B.returns
  have hts := atoms_spec (ws := Cond.code y cc nL (some ty) :: x_tbl) B.pre
  have hown : s.vm.findClass y.cls = some m.cls := findClass_of_methodNamed B.named
  subst hsz
  have hD := hD0.self (sz := s.heap.size)
  have hS : va_S (va_A (x_w cI cZ ad sh μ) s.heap.size) s.heap s.heap [] := va_S.rf
  rw [lg_entry_eq]
  have hl := lv_entry (as.map (x_v ad)) (n := nL) (by rw [x_en_len]; exact hlen)
  refine hX p l e _ s m _ below meth c D cI cZ ad _ s.heap [] 0 0 _ _ ⟨B.exec, B.bytes, hml, hown, fun w h => hts w (List.mem_cons_of_mem _ h), hK, ⟨Nat.le_refl _, Nat.le_refl _⟩, ⟨Nat.le_refl _, Nat.le_refl _⟩⟩ hP hD hS (fun q h => Or.inr h) hE (by rw [← hen]; exact x_Len ad as hl _) ?_
  intro v μ' H' locs' ls' pc' hq hP' hD' hS' hret
  rcases v with - | v
  · exact absurd hret.2 (by simp)
  · obtain ⟨hdg, a, ty', rfl, hty, hn⟩ := hret
    cases hty
    exact W.zret B.exec B.bytes hr hn (fun t ht hW => ⟨⟨x_I a, (a, μ'), rfl, ⟨rfl, hq⟩, by show va_P D vwCl (x_w cI cZ ad sh μ') t.heap; rw [ht]; exact hP'⟩, hS'.F ht⟩) hS'.2.2 hdg
theorem x_metV (hX : X E sh d y cc nL none 0 lv0 [] μ Q) (hen : x_en as ++ List.replicate (nL - (x_en as).length) none = lv0) (hlen : (x_en as).length ≤ nL) (hp : plainName y.cls = true) (l : Launch) (D : va_G) (cI cZ : ClassId) (ad : Nat → Nat) (sz : Nat) :
    Met l y (Cond.code y cc nL none :: x_tbl) ({ frames := d, cells := 0, slots := 0, locals := 64 * d }) (x_Pre E sh as μ D cI cZ ad sz) (va_Qv (fun (u : xM) => Q none u) (fun u t => va_P D vwCl (x_w cI cZ ad sh u) t.heap) (va_A (x_w cI cZ ad sh μ) sz)) 0 0 (va_A (x_w cI cZ ad sh μ) sz) := by
  refine Met.ofW (cc := cc) (maxL := nL) (ret := none) hp rfl ?_
  intro p e s m args below meth c s₁ B hml hv
  obtain ⟨rfl, hsz, hP, hK, hD0, hE⟩ := hv
  have hr := B.returns
  have hts := atoms_spec (ws := Cond.code y cc nL none :: x_tbl) B.pre
  have hown : s.vm.findClass y.cls = some m.cls := findClass_of_methodNamed B.named
  subst hsz
  have hD := hD0.self (sz := s.heap.size)
  have hS : va_S (va_A (x_w cI cZ ad sh μ) s.heap.size) s.heap s.heap [] := va_S.rf
  rw [lg_entry_eq]
  have hl := lv_entry (as.map (x_v ad)) (n := nL) (by rw [x_en_len]; exact hlen)
  refine hX p l e _ s m _ below meth c D cI cZ ad _ s.heap [] 0 0 _ _ ⟨B.exec, B.bytes, hml, hown, fun w h => hts w (List.mem_cons_of_mem _ h), hK, ⟨Nat.le_refl _, Nat.le_refl _⟩, ⟨Nat.le_refl _, Nat.le_refl _⟩⟩ hP hD hS (fun q h => Or.inr h) hE (by rw [← hen]; exact x_Len ad as hl _) ?_
  intro v μ' H' locs' ls' pc' hq hP' hD' hS' hret
  rcases v with - | v
  · exact W.vret B.exec B.bytes hr (fun t ht hW => ⟨⟨μ', rfl, hq, by show va_P D vwCl (x_w cI cZ ad sh μ') t.heap; rw [ht]; exact hP'⟩, hS'.F ht⟩) hS'.2.2 hret.1
  · obtain ⟨hdg, a, ty', rfl, hty, hn⟩ := hret
    cases hty
end XMET
/-- what the tables say of a method: its code, that it is an instance's, that its class's objects select it -/
def x_mv (y : MethodName) (cc : ByteArray) (nL : Nat) (ret : Option FieldType) (np : Nat) : Prop := Cond.code y cc nL ret ∈ lw_tbl ∧ Cond.instanceMethod y ∈ lw_tbl ∧ Cond.selects y.cls y y ∈ lw_tbl ∧ Cond.initialized y.cls ∈ lw_tbl ∧ (y.cls ≠ "java/lang/invoke/MethodHandle" ∧ y.cls ≠ "java/lang/invoke/VarHandle") ∧ (parseMethodDescriptor y.desc).map (fun d => d.parameters.length) = some np ∧ plainName y.cls = true ∧ nL ≤ 45
def x_ms (y : MethodName) (cc : ByteArray) (nL : Nat) (ret : Option FieldType) (np : Nat) : Prop := Cond.code y cc nL ret ∈ lw_tbl ∧ Cond.static y ∈ lw_tbl ∧ Cond.initialized y.cls ∈ lw_tbl ∧ (y.cls ≠ "java/lang/invoke/MethodHandle" ∧ y.cls ≠ "java/lang/invoke/VarHandle") ∧ (parseMethodDescriptor y.desc).map (fun d => d.parameters.length) = some np ∧ plainName y.cls = true ∧ nL ≤ 45
theorem x_goodV {own : String} {cp : Nat} {y : MethodName} {cc : ByteArray} {nL np : Nat} {ret : Option FieldType} (hl : Cond.methodLink own cp y ∈ lw_tbl) (hm : x_mv y cc nL ret np) : GoodIn x_tbl (wsV own cp y.cls y (Cond.code y cc nL ret :: x_tbl)) := by
  intro w hw
  obtain ⟨h1, h2, h3, h4, -⟩ := hm
  have key : w ∈ x_tbl := by
    unfold wsV at hw
    rcases List.mem_append.mp hw with h | h
    · simp only [List.mem_cons, List.not_mem_nil, or_false] at h
      rcases h with rfl | rfl | rfl | rfl
      · exact x_mem hl rfl
      · exact x_mem h2 rfl
      · exact x_mem h3 rfl
      · exact x_mem h4 rfl
    · rcases List.mem_cons.mp h with rfl | h
      · exact x_mem h1 rfl
      · exact h
  exact x_good w key
theorem x_goodS {own : String} {cp : Nat} {y : MethodName} {cc : ByteArray} {nL np : Nat} {ret : Option FieldType} (hl : Cond.methodLink own cp y ∈ lw_tbl) (hm : x_ms y cc nL ret np) : GoodIn x_tbl (va_wsS own cp y (Cond.code y cc nL ret :: x_tbl)) := by
  intro w hw
  obtain ⟨h1, h2, h4, -⟩ := hm
  have key : w ∈ x_tbl := by
    unfold va_wsS at hw
    rcases List.mem_append.mp hw with h | h
    · simp only [List.mem_cons, List.not_mem_nil, or_false] at h
      rcases h with rfl | rfl | rfl
      · exact x_mem hl rfl
      · exact x_mem h2 rfl
      · exact x_mem h4 rfl
    · rcases List.mem_cons.mp h with rfl | h
      · exact x_mem h1 rfl
      · exact h
  exact x_good w key
section XCALL
variable {E E' : xE} {sh sh' : List xS} {is : List Nat} {d d' : Nat} {y y' : MethodName} {cc cc' : ByteArray} {nL nL' np cp : Nat} {ty' : FieldType} {ret : Option FieldType} {pc : Nat} {lv lv0 : List (Option xA)} {st as : List xA} {μ : xM} {Q Q' : Option xA → xM → Prop}
theorem x_catE (ad : Nat → Nat) (st : List xA) : (((st.map (x_v ad)).map fun v => v.category).sum) = (((st.map (x_v (fun k => k))).map fun v => v.category).sum) := by
  simp only [List.map_map]
  congr 2
  funext v
  rcases v with a | r | l <;> rfl
theorem x_EvCall {ad : Nat → Nat} {A : Nat → Prop} {s U : State} {H : Heap} {locs : List Loc} {cI cZ : ClassId} (he : x_emb sh sh' is) (hE : x_Ev E ad A s) (hEE : E' = E ∨ E' = ([], [])) (hD : va_D A (x_w cI cZ ad sh μ)) (hS : va_S A s.heap H locs) (hU : U.heap = H) (hvm : s.vm.Alike U.vm) (m : xM) : x_Ev E' (fun i => ad (x_ix is i)) (va_A (x_w cI cZ (fun i => ad (x_ix is i)) sh' m) H.size) U := by
  rcases hEE with rfl | rfl
  · refine x_Ev_move hE hvm (fun i hi => ?_) (fun a ha hn => by rw [hU]; exact hS.2.1 a ha hn) (fun a ha hn => ?_)
    · show ad (x_ix is i) = ad i
      have := he.2.2
      unfold x_ix
      rw [if_neg (by omega)]
    · rintro (⟨k, e, h⟩ | h)
      · exact hn ((x_cutD he hD m).2 k _ h)
      · have := hS.1
        omega
  · exact x_Ev_nil
/-- a call on an object among the caller's cells; the callee knows the cells 'is' alone -/
theorem x_callI (hl : Cond.methodLink y.cls cp y' ∈ lw_tbl) (hm : x_mv y' cc' nL' (some ty') np) (hdg : decode cc pc = .ok (.invokevirtual cp, 3)) (hX : X E' sh' d' y' cc' nL' (some ty') 0 lv0 [] (x_ct is μ) Q') (he : x_emb sh sh' is) {o o' : Nat} (as' : List xA) (has : x_va is (.inr (.inl o')) = .inr (.inl o) ∧ as'.map (x_va is) = as) {ci : Nat} {fs : List (Option Nat)} {q : vw_C} (hs : sh'[o']? = some (.inr (ci, fs))) (hq : vwCl[ci]? = some q) (hqc : q.1 = y'.cls)
    (hen : x_en (.inr (.inl o') :: as') ++ List.replicate (nL' - (x_en (.inr (.inl o') :: as')).length) none = lv0) (hlen : (x_en (.inr (.inl o') :: as')).length ≤ nL') (hnp : as.length = np) (hd : d' < d) (hcat : ((st.map (x_v (fun k => k))).map fun v => v.category).sum ≤ 8) (hEE : E' = E ∨ E' = ([], []))
    {st0 : List xA} (hst : st0 = as.reverse ++ .inr (.inl o) :: st) (kk : ∀ (a : Int) (μ' : xM), Q' (some (.inl a)) μ' → X E sh d y cc nL ret (pc + 3) lv (.inl a :: st) (x_mrg is μ μ') Q) : X E sh d y cc nL ret pc lv st0 μ Q := by
  intro p l e R s m args below meth c D cI cZ ad A H locs cells slots ls Z hC hP hD hS hA hE hll hk
  subst hst
  have hPc := x_cutP he hP
  have hDc := x_cutD he hD (x_ct is μ)
  have hFc := x_cutF he hD hS hA (x_ct is μ)
  have hx7 := hC.2.2.2.2.2.2.1
  have hmv := hm
  obtain ⟨m1, m2, m3, m4, m5, m6, m7, m8⟩ := hmv
  have hargs : (x_v (fun i => ad (x_ix is i)) (.inr (.inl o')) :: as'.map (x_v (fun i => ad (x_ix is i)))) = .ref (ad o) :: as.map (x_v ad) := by
    rw [x_v_ren, has.1, ← has.2, List.map_map]
    congr 1
    apply List.map_congr_left
    intro v _
    exact x_v_ren ad is v
  have hrecv : ∃ cell : Cell, H[ad o]? = some cell ∧ cell.vm.isStatics = false ∧ s.vm.findClass y'.cls = some cell.cls := by
    have h1 := va_recv (cl := vwCl) hC.2.2.2.2.2.1 hPc hq (x_wk hs)
    rw [hqc] at h1
    have h2 : ad (x_ix is o') = ad o := by
      have h3 := has.1
      simp only [x_va, Sum.inr.injEq, Sum.inl.injEq] at h3
      rw [h3]
    rw [h2] at h1
    exact h1
  refine va_calli (va_runV (As := as.map (x_v ad)) (rest := st.map (x_v ad)) (b := ad o) ⟨hC.1, hC.2.1, hC.2.2.1, hC.2.2.2.1, hC.2.2.2.2.1⟩ (x_metI hX hen hlen m7 l D cI cZ (fun i => ad (x_ix is i)) H.size) (cwV np hC.2.2.2.2.1 (x_goodV hl hm) rfl rfl rfl ⟨rfl, m5.1, m5.2, m6⟩ ⟨by show d' + 1 ≤ R.frames; omega, by show 8 + (nL' + 11) + 64 * d' ≤ R.locals; omega⟩)
    ⟨x_blind, hrecv, fun U hU hW => ⟨by rw [← hargs]; rfl, by rw [hU], by rw [hU]; exact hPc, va_K.moved hW.alike hC.2.2.2.2.2.1, hDc.weaken (fun _ _ _ _ => trivial), x_EvCall he hE hEE hD hS hU hW.alike _⟩⟩ rfl (by simpa using hnp) hll.1.1 (by simp [x_v]) (lv_room (by rw [x_catE]; exact hcat)) hdg ⟨hC.2.2.2.2.2.2.2.1, hC.2.2.2.2.2.2.2.2⟩) hS (fun q _ h => hFc q h) hFc (fun r u t H1 locs1 ht hvm hw hB hz1 hk1 hS1 => ?_)
  obtain ⟨a, μ'⟩ := u
  obtain ⟨rfl, hQ⟩ := hw
  rw [ht] at hB
  exact kk a μ' hQ p l e R s m args below meth c D cI cZ ad A H1 locs1 cells slots ls Z hC (x_back he hP hD hk1 hB) (x_wD hD) hS1 hA hE hll hk
theorem x_callV (hl : Cond.methodLink y.cls cp y' ∈ lw_tbl) (hm : x_mv y' cc' nL' none np) (hdg : decode cc pc = .ok (.invokevirtual cp, 3)) (hX : X E' sh' d' y' cc' nL' none 0 lv0 [] (x_ct is μ) Q') (he : x_emb sh sh' is) {o o' : Nat} (as' : List xA) (has : x_va is (.inr (.inl o')) = .inr (.inl o) ∧ as'.map (x_va is) = as) {ci : Nat} {fs : List (Option Nat)} {q : vw_C} (hs : sh'[o']? = some (.inr (ci, fs))) (hq : vwCl[ci]? = some q) (hqc : q.1 = y'.cls)
    (hen : x_en (.inr (.inl o') :: as') ++ List.replicate (nL' - (x_en (.inr (.inl o') :: as')).length) none = lv0) (hlen : (x_en (.inr (.inl o') :: as')).length ≤ nL') (hnp : as.length = np) (hd : d' < d) (hcat : ((st.map (x_v (fun k => k))).map fun v => v.category).sum ≤ 8) (hEE : E' = E ∨ E' = ([], []))
    {st0 : List xA} (hst : st0 = as.reverse ++ .inr (.inl o) :: st) (kk : ∀ (μ' : xM), Q' none μ' → X E sh d y cc nL ret (pc + 3) lv st (x_mrg is μ μ') Q) : X E sh d y cc nL ret pc lv st0 μ Q := by
  intro p l e R s m args below meth c D cI cZ ad A H locs cells slots ls Z hC hP hD hS hA hE hll hk
  subst hst
  have hPc := x_cutP he hP
  have hDc := x_cutD he hD (x_ct is μ)
  have hFc := x_cutF he hD hS hA (x_ct is μ)
  have hx7 := hC.2.2.2.2.2.2.1
  have hmv := hm
  obtain ⟨m1, m2, m3, m4, m5, m6, m7, m8⟩ := hmv
  have hargs : (x_v (fun i => ad (x_ix is i)) (.inr (.inl o')) :: as'.map (x_v (fun i => ad (x_ix is i)))) = .ref (ad o) :: as.map (x_v ad) := by
    rw [x_v_ren, has.1, ← has.2, List.map_map]
    congr 1
    apply List.map_congr_left
    intro v _
    exact x_v_ren ad is v
  have hrecv : ∃ cell : Cell, H[ad o]? = some cell ∧ cell.vm.isStatics = false ∧ s.vm.findClass y'.cls = some cell.cls := by
    have h1 := va_recv (cl := vwCl) hC.2.2.2.2.2.1 hPc hq (x_wk hs)
    rw [hqc] at h1
    have h2 : ad (x_ix is o') = ad o := by
      have h3 := has.1
      simp only [x_va, Sum.inr.injEq, Sum.inl.injEq] at h3
      rw [h3]
    rw [h2] at h1
    exact h1
  refine va_callv (va_runV (As := as.map (x_v ad)) (rest := st.map (x_v ad)) (b := ad o) ⟨hC.1, hC.2.1, hC.2.2.1, hC.2.2.2.1, hC.2.2.2.2.1⟩ (x_metV hX hen hlen m7 l D cI cZ (fun i => ad (x_ix is i)) H.size) (cwV np hC.2.2.2.2.1 (x_goodV hl hm) rfl rfl rfl ⟨rfl, m5.1, m5.2, m6⟩ ⟨by show d' + 1 ≤ R.frames; omega, by show 8 + (nL' + 11) + 64 * d' ≤ R.locals; omega⟩)
    ⟨x_blind, hrecv, fun U hU hW => ⟨by rw [← hargs]; rfl, by rw [hU], by rw [hU]; exact hPc, va_K.moved hW.alike hC.2.2.2.2.2.1, hDc.weaken (fun _ _ _ _ => trivial), x_EvCall he hE hEE hD hS hU hW.alike _⟩⟩ rfl (by simpa using hnp) hll.1.1 (by simp [x_v]) (lv_room (by rw [x_catE]; exact hcat)) hdg ⟨hC.2.2.2.2.2.2.2.1, hC.2.2.2.2.2.2.2.2⟩) hS (fun q _ h => hFc q h) hFc (fun u t H1 locs1 ht hvm hw hB hz1 hk1 hS1 => ?_)
  rw [ht] at hB
  exact kk u hw p l e R s m args below meth c D cI cZ ad A H1 locs1 cells slots ls Z hC (x_back he hP hD hk1 hB) (x_wD hD) hS1 hA hE hll hk
theorem x_callS (hl : Cond.methodLink y.cls cp y' ∈ lw_tbl) (hm : x_ms y' cc' nL' (some ty') np) (hdg : decode cc pc = .ok (.invokestatic cp, 3)) (hX : X ([], []) [] d' y' cc' nL' (some ty') 0 lv0 [] μ Q') (hen : x_en as ++ List.replicate (nL' - (x_en as).length) none = lv0) (hlen : (x_en as).length ≤ nL') (hnp : as.length = np) (hd : d' < d) (hcat : ((st.map (x_v (fun k => k))).map fun v => v.category).sum ≤ 8)
    {st0 : List xA} (hst : st0 = as.reverse ++ st) (kk : ∀ (a : Int) (μ' : xM), Q' (some (.inl a)) μ' → X E sh d y cc nL ret (pc + 3) lv (.inl a :: st) μ Q) : X E sh d y cc nL ret pc lv st0 μ Q := by
  intro p l e R s m args below meth c D cI cZ ad A H locs cells slots ls Z hC hP hD hS hA hE hll hk
  subst hst
  have hx7 := hC.2.2.2.2.2.2.1
  have hmv := hm
  obtain ⟨m1, m2, m4, m5, m6, m7, m8⟩ := hmv
  have he : x_emb sh [] [] := ⟨rfl, rfl, by decide⟩
  have hPc : va_P D vwCl (x_w cI cZ ad [] μ) H := fun k q hq => by simp [x_w] at hq
  have hDc : va_D A (x_w cI cZ ad [] μ) := ⟨fun i j p q hp => by simp [x_w] at hp, fun k q hq => by simp [x_w] at hq⟩
  have hFc : ∀ q, va_A (x_w cI cZ ad [] μ) H.size q → A q := by
    rintro q (⟨k, e, h⟩ | h)
    · simp [x_w] at h
    · exact hA q (Nat.le_trans hS.1 h)
  refine va_calli (va_runS (As := as.map (x_v ad)) (rest := st.map (x_v ad)) ⟨hC.1, hC.2.1, hC.2.2.1, hC.2.2.2.1, hC.2.2.2.2.1⟩ (x_metI hX hen hlen m7 l D cI cZ ad H.size) (va_cwS np hC.2.2.2.2.1 (x_goodS hl hm) rfl rfl rfl ⟨m5.1, m5.2, m6⟩ ⟨by show d' + 1 ≤ R.frames; omega, by show 8 + (nL' + 11) + 64 * d' ≤ R.locals; omega⟩)
    ⟨x_blind, fun U hU hW => ⟨rfl, by rw [hU], by rw [hU]; exact hPc, va_K.moved hW.alike hC.2.2.2.2.2.1, hDc.weaken (fun _ _ _ _ => trivial), x_Ev_nil⟩⟩ rfl (by simpa using hnp) hll.1.1 (by simp) (lv_room (by rw [x_catE]; exact hcat)) hdg ⟨hC.2.2.2.2.2.2.2.1, hC.2.2.2.2.2.2.2.2⟩) hS (fun q _ h => hFc q h) hFc (fun r u t H1 locs1 ht hvm hw hB hz1 hk1 hS1 => ?_)
  obtain ⟨a, μ'⟩ := u
  obtain ⟨rfl, hQ⟩ := hw
  have hP1 : va_P D vwCl (x_w cI cZ ad sh μ) H1 := by
    intro k q hq
    have h2 := hP k q hq
    refine h2.kept (hk1 _ h2.lt ?_)
    rintro (⟨j, e, h⟩ | h)
    · simp [x_w] at h
    · exact absurd h2.lt (Nat.not_lt.mpr h)
  exact kk a μ' hQ p l e R s m args below meth c D cI cZ ad A H1 locs1 cells slots ls Z hC hP1 hD hS1 hA hE hll hk
end XCALL
