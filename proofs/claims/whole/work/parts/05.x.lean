/-! THE ABSTRACT JUDGEMENT X: a method's walk over a world of fixed cells (no cell is made), its numbers as whole numbers (Int).
A cell is known by its place in the list of shapes; a reference is a place; what cells hold is a function place -> index -> number. -/
abbrev xA : Type := Int ⊕ (Nat ⊕ Int64)
abbrev xM : Type := Nat → Nat → Int
abbrev xS : Type := (Nat × Bool) ⊕ (Nat × List (Option Nat))
abbrev xE : Type := List (Nat × (Nat → Int)) × List (String × String × String × Nat)
def x_I (a : Int) : Int32 := Int32.ofInt a
def x_in (a : Int) : Prop := -2147483648 ≤ a ∧ a < 2147483648
def x_v (ad : Nat → Nat) : xA → Value
  | .inl a => .int (x_I a)
  | .inr (.inl r) => .ref (ad r)
  | .inr (.inr l) => .long l
def x_f (ad : Nat → Nat) (μ : Nat → Int) (j : Nat) : Option Nat → Value
  | some r => .ref (ad r)
  | none => .int (x_I (μ j))
def x_e (cI cZ : ClassId) (ad : Nat → Nat) (μ : Nat → Int) : xS → va_E
  | .inl (n, z) => .inl ((if z = true then cZ else cI), n, .inl (fun j => x_I (μ j)))
  | .inr (ci, fs) => .inr (ci, fs.mapIdx (x_f ad μ))
def x_w (cI cZ : ClassId) (ad : Nat → Nat) (sh : List xS) (μ : xM) : va_W := sh.mapIdx (fun k s => (ad k, x_e cI cZ ad (μ k) s))
def x_st (μ : xM) (k j : Nat) (v : Int) : xM := fun a b => if a = k then (if b = j then v else μ a b) else μ a b
def x_tbl : List Cond := lw_tbl.filter goodWord
theorem x_mem {w : Cond} (h : w ∈ lw_tbl) (hg : goodWord w = true) : w ∈ x_tbl := List.mem_filter.mpr ⟨h, hg⟩
theorem x_good : GoodIn x_tbl x_tbl := fun _ h => ⟨h, good_of_word (List.mem_filter.mp h).2⟩
theorem x_lay {C : String} {T : u_T} {N : Nat} (h : ∀ w ∈ u_ws C T N, w ∈ lw_tbl) : ∀ w ∈ u_ws C T N, w ∈ x_tbl := by
  intro w hw
  refine x_mem (h w hw) ?_
  obtain ⟨k, -, rfl⟩ := List.mem_map.mp hw
  unfold u_lay
  split <;> rfl
/-! numbers -/
theorem x_bm {a : Int} (h : x_in a) : a.bmod (2 ^ 32) = a := by
  rw [Int.bmod_eq_of_le (by have := h.1; omega) (by have := h.2; omega)]
theorem x_toInt {a : Int} (h : x_in a) : (x_I a).toInt = a := by
  unfold x_I
  rw [Int32.toInt_ofInt]
  exact x_bm h
theorem x_ofInt (z : Int32) : x_I z.toInt = z := Int32.ofInt_toInt z
theorem x_inI (z : Int32) : x_in z.toInt := by
  have h1 := Int32.le_toInt z
  have h2 := Int32.toInt_lt z
  constructor <;> omega
theorem x_add (a b : Int) : x_I a + x_I b = x_I (a + b) := by
  apply Int32.toInt_inj.mp
  simp [x_I, Int32.toInt_add, Int32.toInt_ofInt]
theorem x_sub (a b : Int) : x_I a - x_I b = x_I (a - b) := by
  apply Int32.toInt_inj.mp
  simp [x_I, Int32.toInt_sub, Int32.toInt_ofInt]
theorem x_mul (a b : Int) : x_I a * x_I b = x_I (a * b) := by
  apply Int32.toInt_inj.mp
  simp [x_I, Int32.toInt_mul, Int32.toInt_ofInt]
theorem x_neg (a : Int) : -x_I a = x_I (-a) := by
  apply Int32.toInt_inj.mp
  simp [x_I, Int32.toInt_neg, Int32.toInt_ofInt]
theorem x_lt {a b : Int} (ha : x_in a) (hb : x_in b) : x_I a < x_I b ↔ a < b := by rw [Int32.lt_iff_toInt_lt, x_toInt ha, x_toInt hb]
theorem x_le {a b : Int} (ha : x_in a) (hb : x_in b) : x_I a ≤ x_I b ↔ a ≤ b := by rw [Int32.le_iff_toInt_le, x_toInt ha, x_toInt hb]
theorem x_eq {a b : Int} (ha : x_in a) (hb : x_in b) : x_I a = x_I b ↔ a = b := by
  constructor
  · intro h
    have h2 := congrArg Int32.toInt h
    rwa [x_toInt ha, x_toInt hb] at h2
  · intro h; rw [h]
theorem x_in0 : x_in 0 := ⟨by decide, by decide⟩
theorem x_zero : x_I 0 = 0 := by decide
theorem x_div {a b : Int} (ha : x_in a) (hb : x_in b) (hq : x_in (a.tdiv b)) : x_I a / x_I b = x_I (a.tdiv b) := by
  apply Int32.toInt_inj.mp
  rw [Int32.toInt_div, x_toInt ha, x_toInt hb, x_toInt hq]
  exact x_bm hq
theorem x_ne0 {b : Int} (hb : x_in b) (h : b ≠ 0) : ¬ x_I b = 0 := by
  rw [← x_zero, x_eq hb x_in0]
  exact h
theorem x_cl {a : Int} (h0 : 0 ≤ a) (h : x_in a) : (x_I a).toNatClampNeg = a.toNat := by
  have e := x_toInt h
  simp only [Int32.toNatClampNeg, e]
theorem x_vpin {a : Int} {n : Nat} (h0 : 0 ≤ a) (h1 : a < n) (hn : n < 2147483648) : vp_in (x_I a) n := by
  have hi : x_in a := ⟨by omega, by omega⟩
  rintro (h | h)
  · rw [← x_zero, x_lt hi x_in0] at h
    omega
  · rw [x_cl h0 hi] at h
    omega
/-! worlds -/
theorem x_wk {cI cZ : ClassId} {ad : Nat → Nat} {sh : List xS} {μ : xM} {k : Nat} {s : xS} (h : sh[k]? = some s) : (x_w cI cZ ad sh μ)[k]? = some (ad k, x_e cI cZ ad (μ k) s) := by
  simp [x_w, List.getElem?_mapIdx, h]
theorem x_wlen {cI cZ : ClassId} {ad : Nat → Nat} {sh : List xS} {μ : xM} : (x_w cI cZ ad sh μ).length = sh.length := by simp [x_w]
theorem x_wk' {cI cZ : ClassId} {ad : Nat → Nat} {sh : List xS} {μ : xM} {k : Nat} {q : Nat × va_E} (h : (x_w cI cZ ad sh μ)[k]? = some q) : ∃ s, sh[k]? = some s ∧ q = (ad k, x_e cI cZ ad (μ k) s) := by
  simp only [x_w, List.getElem?_mapIdx] at h
  cases hs : sh[k]? with
  | none => rw [hs] at h; cases h
  | some s => rw [hs] at h; exact ⟨s, rfl, (Option.some.inj h).symm⟩
theorem x_wset {cI cZ : ClassId} {ad : Nat → Nat} {sh : List xS} {μ μ' : xM} {k : Nat} {s : xS} {e : va_E} (h : sh[k]? = some s) (hμ : ∀ a, a ≠ k → μ' a = μ a) (he : x_e cI cZ ad (μ' k) s = e) : (x_w cI cZ ad sh μ).set k (ad k, e) = x_w cI cZ ad sh μ' := by
  have hl : k < sh.length := (List.getElem?_eq_some_iff.mp h).1
  apply List.ext_getElem?
  intro i
  rw [List.getElem?_set]
  by_cases hik : k = i
  · subst hik
    rw [if_pos rfl, x_wk h, if_pos (by rw [x_wlen]; exact hl), he]
  · rw [if_neg hik]
    simp only [x_w, List.getElem?_mapIdx]
    rw [hμ i (fun e => hik e.symm)]
theorem x_wD {A : Nat → Prop} {cI cZ : ClassId} {ad : Nat → Nat} {sh : List xS} {μ μ' : xM} (h : va_D A (x_w cI cZ ad sh μ)) : va_D A (x_w cI cZ ad sh μ') := by
  refine ⟨fun i j p q hp hq hpq => ?_, fun k q hk => ?_⟩
  · obtain ⟨s1, h1, rfl⟩ := x_wk' hp
    obtain ⟨s2, h2, rfl⟩ := x_wk' hq
    exact h.1 i j _ _ (x_wk h1) (x_wk h2) hpq
  · obtain ⟨s1, h1, rfl⟩ := x_wk' hk
    exact h.2 k (ad k, x_e cI cZ ad (μ k) s1) (x_wk h1)
/-! the locals -/
def x_L (ad : Nat → Nat) (ls : Array Slot) (nL : Nat) (lv : List (Option xA)) : Prop := lv_has ls nL [] ∧ ∀ (i : Nat) (v : xA), lv[i]? = some (some v) → ls[i]? = some (Slot.val (x_v ad v))
def x_ll (ad : Nat → Nat) (lv : List (Option xA)) : List (Nat × Value) := (List.range lv.length).filterMap (fun i => match lv[i]? with
  | some (some v) => some (i, x_v ad v)
  | _ => none)
theorem x_ll_mem {ad : Nat → Nat} {lv : List (Option xA)} {q : Nat × Value} (h : q ∈ x_ll ad lv) : ∃ v, lv[q.1]? = some (some v) ∧ q.2 = x_v ad v := by
  obtain ⟨i, -, hi⟩ := List.mem_filterMap.mp h
  split at hi
  next v hv => cases hi; exact ⟨v, hv, rfl⟩
  next => cases hi
theorem x_ll_in {ad : Nat → Nat} {lv : List (Option xA)} {i : Nat} {v : xA} (h : lv[i]? = some (some v)) : (i, x_v ad v) ∈ x_ll ad lv := by
  refine List.mem_filterMap.mpr ⟨i, List.mem_range.mpr (List.getElem?_eq_some_iff.mp h).1, ?_⟩
  rw [h]
theorem x_Lhas {ad : Nat → Nat} {ls : Array Slot} {nL : Nat} {lv : List (Option xA)} (h : x_L ad ls nL lv) : lv_has ls nL (x_ll ad lv) := by
  refine ⟨h.1.1, h.1.2.1, fun q hq => ?_⟩
  obtain ⟨v, h1, h2⟩ := x_ll_mem hq
  rw [h2]
  exact h.2 _ _ h1
def x_nl : Option xA → Bool
  | some (.inr (.inr _)) => false
  | _ => true
def x_np (lv : List (Option xA)) : Nat → Bool
  | 0 => true
  | j + 1 => match lv[j]? with
    | some o => x_nl o
    | none => true
theorem x_Lof {ad : Nat → Nat} {ls' : Array Slot} {nL i : Nat} {lv : List (Option xA)} {v : xA} (h : lv_has ls' nL ((i, x_v ad v) :: (x_ll ad lv).filter (fun q => !(q.1 == i) && !(q.1 + 1 == i && q.2.category == 2)))) (hp : x_np lv i = true) : x_L ad ls' nL (lv.set i (some v)) := by
  refine ⟨⟨h.1, h.2.1, fun q hq => by cases hq⟩, ?_⟩
  intro j w hj
  rw [List.getElem?_set] at hj
  by_cases hij : i = j
  · subst hij
    rw [if_pos rfl] at hj
    split at hj
    · cases Option.some.inj (Option.some.inj hj)
      exact h.2.2 _ List.mem_cons_self
    · cases hj
  · rw [if_neg hij] at hj
    refine h.2.2 (j, x_v ad w) (List.mem_cons_of_mem _ (List.mem_filter.mpr ⟨x_ll_in hj, ?_⟩))
    have h1 : (j == i) = false := by simpa using fun e => hij e.symm
    have h2 : (j + 1 == i && (x_v ad w).category == 2) = false := by
      by_cases hji : j + 1 = i
      · subst hji
        have h3 : ∀ l, w ≠ .inr (.inr l) := by
          intro l hw
          subst hw
          simp [x_np, x_nl, hj] at hp
        rcases w with a | r | l
        · simp [x_v, Value.category]
        · simp [x_v, Value.category]
        · exact absurd rfl (h3 l)
      · simp [hji]
    show (!(j == i) && !(j + 1 == i && (x_v ad w).category == 2)) = true
    rw [h1, h2]
    rfl
def x_en : List xA → List (Option xA)
  | [] => []
  | .inr (.inr l) :: t => some (.inr (.inr l)) :: none :: x_en t
  | .inl a :: t => some (.inl a) :: x_en t
  | .inr (.inl r) :: t => some (.inr (.inl r)) :: x_en t
theorem x_en_in (ad : Nat → Nat) : ∀ (as : List xA) (k i : Nat) (v : xA), (x_en as)[i]? = some (some v) → (k + i, x_v ad v) ∈ lv_args k (as.map (x_v ad))
  | [], _, _, _, h => by simp [x_en] at h
  | .inl a :: t, k, 0, v, h => by
    simp only [x_en, List.getElem?_cons_zero, Option.some.injEq] at h
    subst h
    exact List.mem_cons_self
  | .inl a :: t, k, i + 1, v, h => by
    simp only [x_en, List.getElem?_cons_succ] at h
    have := x_en_in ad t (k + 1) i v h
    refine List.mem_cons_of_mem _ ?_
    rw [show k + (i + 1) = k + 1 + i by omega]
    exact this
  | .inr (.inl a) :: t, k, 0, v, h => by
    simp only [x_en, List.getElem?_cons_zero, Option.some.injEq] at h
    subst h
    exact List.mem_cons_self
  | .inr (.inl a) :: t, k, i + 1, v, h => by
    simp only [x_en, List.getElem?_cons_succ] at h
    have := x_en_in ad t (k + 1) i v h
    refine List.mem_cons_of_mem _ ?_
    rw [show k + (i + 1) = k + 1 + i by omega]
    exact this
  | .inr (.inr a) :: t, k, 0, v, h => by
    simp only [x_en, List.getElem?_cons_zero, Option.some.injEq] at h
    subst h
    exact List.mem_cons_self
  | .inr (.inr a) :: t, k, 1, v, h => by
    simp [x_en] at h
  | .inr (.inr a) :: t, k, i + 2, v, h => by
    simp only [x_en, List.getElem?_cons_succ] at h
    have := x_en_in ad t (k + 2) i v h
    refine List.mem_cons_of_mem _ ?_
    rw [show k + (i + 2) = k + 2 + i by omega]
    exact this
theorem x_lgc (v : Value) (vs : List Value) : lg_sl (v :: vs) = (if v.category = 2 then [.val v, .second] else [.val v]) ++ lg_sl vs := by
  simp [lg_sl]
theorem x_en_len (ad : Nat → Nat) : ∀ (as : List xA), (lg_sl (as.map (x_v ad))).length = (x_en as).length
  | [] => rfl
  | .inl a :: t => by
    have := x_en_len ad t
    rw [List.map_cons, x_lgc, x_en, List.length_append, this]
    simp [x_v, Value.category]
    try omega
  | .inr (.inl a) :: t => by
    have := x_en_len ad t
    rw [List.map_cons, x_lgc, x_en, List.length_append, this]
    simp [x_v, Value.category]
    try omega
  | .inr (.inr a) :: t => by
    have := x_en_len ad t
    rw [List.map_cons, x_lgc, x_en, List.length_append, this]
    simp [x_v, Value.category]
    try omega
theorem x_Len (ad : Nat → Nat) (as : List xA) {n : Nat} {ls : Array Slot} (h : lv_has ls n (lv_args 0 (as.map (x_v ad)))) (k : Nat) : x_L ad ls n (x_en as ++ List.replicate k none) := by
  refine ⟨⟨h.1, h.2.1, fun q hq => by cases hq⟩, fun i v hi => ?_⟩
  by_cases hl : i < (x_en as).length
  · rw [List.getElem?_append_left hl] at hi
    have := h.2.2 _ (x_en_in ad as 0 i v hi)
    simpa using this
  · rw [List.getElem?_append_right (by omega)] at hi
    have := List.eq_of_mem_replicate (List.mem_of_getElem? hi)
    cases this
/-! what nobody writes: the script, static arrays, static fields -/
def x_ro (ad : Nat → Nat) (A : Nat → Prop) (U : State) (i n : Nat) (f : Nat → Int) : Prop := ∃ cell : Cell, U.heap[ad i]? = some cell ∧ U.isArrayOf cell .int ∧ cell.vm ≠ .unknown ∧ (n ≤ cell.slots.size ∧ cell.slots.size.toInt32 = Int32.ofNat n) ∧ (∀ j, j < n → cell.slots[j]? = some (.int (x_I (f j)))) ∧ ¬ A (ad i)
def x_Ev (E : xE) (ad : Nat → Nat) (A : Nat → Prop) (U : State) : Prop := (∀ i n f, E.1[i]? = some (n, f) → x_ro ad A U (1000 + i) n f) ∧ ∀ (i : Nat) q, E.2[i]? = some q → va_Z q.1 q.2.1 q.2.2.1 (.ref (ad q.2.2.2)) A U U.heap ∧ 1000 ≤ q.2.2.2
theorem x_Ev_move {E : xE} {ad ad' : Nat → Nat} {A A' : Nat → Prop} {s U : State} (h : x_Ev E ad A s) (hvm : s.vm.Alike U.vm) (had : ∀ i, 1000 ≤ i → ad' i = ad i) (hq : ∀ a : Nat, a < s.heap.size → ¬ A a → U.heap[a]? = s.heap[a]?) (hA : ∀ a, a < s.heap.size → ¬ A a → ¬ A' a) : x_Ev E ad' A' U := by
  refine ⟨fun i n f hi => ?_, fun i q hi => ?_⟩
  · obtain ⟨cell, h1, h2, h3, h4, h5, h6⟩ := h.1 i n f hi
    have hlt := (Array.getElem?_eq_some_iff.mp h1).1
    refine ⟨cell, ?_, State.isArrayOf_alike hvm h2, h3, h4, h5, ?_⟩
    · rw [had _ (by omega), hq _ hlt h6]; exact h1
    · rw [had _ (by omega)]; exact hA _ hlt h6
  · obtain ⟨h1, h2⟩ := h.2 i q hi
    rw [had _ h2]
    refine ⟨?_, h2⟩
    obtain ⟨cf, kf, fi, f, a, cell, g1, g2, g3, g4, g5, g6, g7, g8⟩ := va_Z.moved hvm h1
    have hlt := (Array.getElem?_eq_some_iff.mp g5).1
    exact ⟨cf, kf, fi, f, a, cell, g1, g2, g3, g4, by rw [hq a hlt g8]; exact g5, g6, g7, hA a hlt g8⟩
theorem x_Ev_nil {ad : Nat → Nat} {A : Nat → Prop} {U : State} : x_Ev ([], []) ad A U := ⟨fun i n f h => by simp at h, fun i q h => by simp at h⟩
/-! the judgement -/
def x_C (d nL : Nat) (y : MethodName) (cc : ByteArray) (p : Program) (R : Room) (s : State) (m : MethodId) (args : Array Value) (c : Code) (D : va_G) (cI cZ : ClassId) (cells slots : Nat) : Prop :=
  p.tables.exec = Jvm.exec ∧ c.code = cc ∧ c.maxLocals = nL ∧ s.vm.findClass y.cls = some m.cls ∧ (∀ w ∈ x_tbl, w.before args s = true) ∧ va_K D vwCl [(cI, .int), (cZ, .boolean)] s ∧ (d ≤ R.frames ∧ 64 * d ≤ R.locals) ∧ (cells ≤ R.cells ∧ slots ≤ R.slots)
def x_ret (cc : ByteArray) (ret : Option FieldType) (pc : Nat) : Option xA → Prop
  | none => decode cc pc = .ok (.return_, 1) ∧ ret = none
  | some v => decode cc pc = .ok (.ireturn, 1) ∧ ∃ a ty, v = .inl a ∧ ret = some ty ∧ narrow ty (.int (x_I a)) = .int (x_I a)
def X (E : xE) (sh : List xS) (d : Nat) (y : MethodName) (cc : ByteArray) (nL : Nat) (ret : Option FieldType) (pc : Nat) (lv : List (Option xA)) (st : List xA) (μ : xM) (Q : Option xA → xM → Prop) : Prop :=
  ∀ (p : Program) (l : Launch) (e : Env) (R : Room) (s : State) (m : MethodId) (args : Array Value) (below : List Frame) (meth : Method) (c : Code) (D : va_G) (cI cZ : ClassId) (ad : Nat → Nat) (A : Nat → Prop) (H : Heap) (locs : List Loc) (cells slots : Nat) (ls : Array Slot) (Z : State → Prop),
    x_C d nL y cc p R s m args c D cI cZ cells slots → va_P D vwCl (x_w cI cZ ad sh μ) H → va_D A (x_w cI cZ ad sh μ) → va_S A s.heap H locs → (∀ q, s.heap.size ≤ q → A q) → x_Ev E ad A s → x_L ad ls nL lv →
    (∀ (v : Option xA) (μ' : xM) (H' : Heap) (locs' : List Loc) (ls' : Array Slot) (pc' : Nat), Q v μ' → va_P D vwCl (x_w cI cZ ad sh μ') H' → va_D A (x_w cI cZ ad sh μ') → va_S A s.heap H' locs' → x_ret cc ret pc' v → W p l e R s m args below meth c H' locs' cells slots Z (F0 m pc' ls' (v.map (x_v ad)).toList)) →
    W p l e R s m args below meth c H locs cells slots Z (F0 m pc ls (st.map (x_v ad)))
theorem X.mono {E : xE} {sh : List xS} {d : Nat} {y : MethodName} {cc : ByteArray} {nL : Nat} {ret : Option FieldType} {pc : Nat} {lv : List (Option xA)} {st : List xA} {μ : xM} {Q Q' : Option xA → xM → Prop} (h : X E sh d y cc nL ret pc lv st μ Q) (hq : ∀ v μ', Q v μ' → Q' v μ') : X E sh d y cc nL ret pc lv st μ Q' := by
  intro p l e R s m args below meth c D cI cZ ad A H locs cells slots ls Z hC hP hD hS hA hE hl hk
  exact h p l e R s m args below meth c D cI cZ ad A H locs cells slots ls Z hC hP hD hS hA hE hl (fun v μ' H' locs' ls' pc' q => hk v μ' H' locs' ls' pc' (hq v μ' q))
theorem X.deep {E : xE} {sh : List xS} {d d' : Nat} {y : MethodName} {cc : ByteArray} {nL : Nat} {ret : Option FieldType} {pc : Nat} {lv : List (Option xA)} {st : List xA} {μ : xM} {Q : Option xA → xM → Prop} (h : X E sh d y cc nL ret pc lv st μ Q) (hd : d ≤ d') : X E sh d' y cc nL ret pc lv st μ Q := by
  intro p l e R s m args below meth c D cI cZ ad A H locs cells slots ls Z hC
  obtain ⟨h1, h2, h3, h4, h5, h6, ⟨h7, h8⟩, h9⟩ := hC
  exact h p l e R s m args below meth c D cI cZ ad A H locs cells slots ls Z ⟨h1, h2, h3, h4, h5, h6, ⟨by omega, by omega⟩, h9⟩
def x_fk (own : String) (cp ci k : Nat) : Prop := ∃ (C : String) (T : u_T) (N : Nat) (ty0 : Nat → FieldType), vwCl[ci]? = some (C, T, N) ∧ k < N ∧ Cond.fieldLink own cp C (T k).2.1 (T k).2.2.1 ∈ lw_tbl ∧ (T k).1 = C ∧ (∀ w ∈ u_ws C T N, w ∈ lw_tbl) ∧ (∀ k, k < N → parseFieldDescriptor (T k).2.2.1 = some (ty0 k)) ∧ (∀ a, a < N → ∀ b, b < N → a ≠ b → (T a).2.1 ≠ (T b).2.1)
def x_pk (own : String) (cp ci k : Nat) (ty : FieldType) : Prop := ∃ (C : String) (T : u_T) (N : Nat) (ty0 : Nat → FieldType), (vwCl[ci]? = some (C, T, N) ∧ k < N ∧ Cond.fieldLink own cp C (T k).2.1 (T k).2.2.1 ∈ lw_tbl ∧ (T k).1 = C ∧ (∀ w ∈ u_ws C T N, w ∈ lw_tbl) ∧ (∀ k, k < N → parseFieldDescriptor (T k).2.2.1 = some (ty0 k)) ∧ (∀ a, a < N → ∀ b, b < N → a ≠ b → (T a).2.1 ≠ (T b).2.1)) ∧ (T k).2.2.2 = false ∧ parseFieldDescriptor (T k).2.2.1 = some ty
section XR
variable {E : xE} {sh : List xS} {d : Nat} {y : MethodName} {cc : ByteArray} {nL : Nat} {ret : Option FieldType} {pc : Nat} {lv : List (Option xA)} {st : List xA} {μ : xM} {Q : Option xA → xM → Prop}
theorem x_iconst {n : Int} (hdg : decode cc pc = .ok (.iconst n, 1)) (kk : X E sh d y cc nL ret (pc + 1) lv (.inl n :: st) μ Q) : X E sh d y cc nL ret pc lv st μ Q := by
  intro p l e R s m args below meth c D cI cZ ad A H locs cells slots ls Z hC hP hD hS hA hE hl hk
  exact lv_iconst hC.1 hC.2.1 hdg rfl (kk p l e R s m args below meth c D cI cZ ad A H locs cells slots ls Z hC hP hD hS hA hE hl hk)
theorem x_bipush {n : Int} (hdg : decode cc pc = .ok (.bipush n, 2)) (hn : (Int8.ofInt n).toInt32 = Int32.ofInt n) (kk : X E sh d y cc nL ret (pc + 2) lv (.inl n :: st) μ Q) : X E sh d y cc nL ret pc lv st μ Q := by
  intro p l e R s m args below meth c D cI cZ ad A H locs cells slots ls Z hC hP hD hS hA hE hl hk
  exact lv_bipush hC.1 hC.2.1 hdg hn (kk p l e R s m args below meth c D cI cZ ad A H locs cells slots ls Z hC hP hD hS hA hE hl hk)
theorem x_sipush {n : Int} (hdg : decode cc pc = .ok (.sipush n, 3)) (hn : (Int16.ofInt n).toInt32 = Int32.ofInt n) (kk : X E sh d y cc nL ret (pc + 3) lv (.inl n :: st) μ Q) : X E sh d y cc nL ret pc lv st μ Q := by
  intro p l e R s m args below meth c D cI cZ ad A H locs cells slots ls Z hC hP hD hS hA hE hl hk
  exact lv_sipush hC.1 hC.2.1 hdg hn (kk p l e R s m args below meth c D cI cZ ad A H locs cells slots ls Z hC hP hD hS hA hE hl hk)
theorem x_ldc {i : Nat} {w : Int32} {n : Int} (hdg : decode cc pc = .ok (.ldc i, 2)) (hw : Cond.constant y.cls i w ∈ lw_tbl) (hn : w = Int32.ofInt n) (kk : X E sh d y cc nL ret (pc + 2) lv (.inl n :: st) μ Q) : X E sh d y cc nL ret pc lv st μ Q := by
  intro p l e R s m args below meth c D cI cZ ad A H locs cells slots ls Z hC hP hD hS hA hE hl hk
  subst hn
  exact lv_ldc hC.1 hC.2.1 hC.2.2.2.1 (hC.2.2.2.2.1 _ (x_mem hw rfl)) hdg (kk p l e R s m args below meth c D cI cZ ad A H locs cells slots ls Z hC hP hD hS hA hE hl hk)
theorem x_ldc2 {i : Nat} {w : Int64} (hdg : decode cc pc = .ok (.ldc2_w i, 3)) (hw : Cond.constantLong y.cls i w ∈ lw_tbl) (kk : X E sh d y cc nL ret (pc + 3) lv (.inr (.inr w) :: st) μ Q) : X E sh d y cc nL ret pc lv st μ Q := by
  intro p l e R s m args below meth c D cI cZ ad A H locs cells slots ls Z hC hP hD hS hA hE hl hk
  exact lv_ldc2 hC.1 hC.2.1 hC.2.2.2.1 (hC.2.2.2.2.1 _ (x_mem hw rfl)) hdg (kk p l e R s m args below meth c D cI cZ ad A H locs cells slots ls Z hC hP hD hS hA hE hl hk)
theorem x_iload_n {k : Fin 4} {i : Nat} {a : Int} (hdg : decode cc pc = .ok (.iload_n k, 1)) (hi : (k : Nat) = i) (hv : lv[i]? = some (some (.inl a))) (kk : X E sh d y cc nL ret (pc + 1) lv (.inl a :: st) μ Q) : X E sh d y cc nL ret pc lv st μ Q := by
  intro p l e R s m args below meth c D cI cZ ad A H locs cells slots ls Z hC hP hD hS hA hE hl hk
  exact lv_iload_n hC.1 hC.2.1 hdg hi (hl.2 _ _ hv) (kk p l e R s m args below meth c D cI cZ ad A H locs cells slots ls Z hC hP hD hS hA hE hl hk)
theorem x_iload {i : Nat} {a : Int} (hdg : decode cc pc = .ok (.iload i, 2)) (hv : lv[i]? = some (some (.inl a))) (kk : X E sh d y cc nL ret (pc + 2) lv (.inl a :: st) μ Q) : X E sh d y cc nL ret pc lv st μ Q := by
  intro p l e R s m args below meth c D cI cZ ad A H locs cells slots ls Z hC hP hD hS hA hE hl hk
  exact lv_iload hC.1 hC.2.1 hdg (hl.2 _ _ hv) (kk p l e R s m args below meth c D cI cZ ad A H locs cells slots ls Z hC hP hD hS hA hE hl hk)
theorem x_aload_n {k : Fin 4} {i : Nat} {a : Nat} (hdg : decode cc pc = .ok (.aload_n k, 1)) (hi : (k : Nat) = i) (hv : lv[i]? = some (some (.inr (.inl a)))) (kk : X E sh d y cc nL ret (pc + 1) lv (.inr (.inl a) :: st) μ Q) : X E sh d y cc nL ret pc lv st μ Q := by
  intro p l e R s m args below meth c D cI cZ ad A H locs cells slots ls Z hC hP hD hS hA hE hl hk
  exact lv_aload_n hC.1 hC.2.1 hdg hi (hl.2 _ _ hv) (kk p l e R s m args below meth c D cI cZ ad A H locs cells slots ls Z hC hP hD hS hA hE hl hk)
theorem x_aload {i : Nat} {a : Nat} (hdg : decode cc pc = .ok (.aload i, 2)) (hv : lv[i]? = some (some (.inr (.inl a)))) (kk : X E sh d y cc nL ret (pc + 2) lv (.inr (.inl a) :: st) μ Q) : X E sh d y cc nL ret pc lv st μ Q := by
  intro p l e R s m args below meth c D cI cZ ad A H locs cells slots ls Z hC hP hD hS hA hE hl hk
  exact lv_aload hC.1 hC.2.1 hdg (hl.2 _ _ hv) (kk p l e R s m args below meth c D cI cZ ad A H locs cells slots ls Z hC hP hD hS hA hE hl hk)
theorem x_lload_n {k : Fin 4} {i : Nat} {a : Int64} (hdg : decode cc pc = .ok (.lload_n k, 1)) (hi : (k : Nat) = i) (hv : lv[i]? = some (some (.inr (.inr a)))) (kk : X E sh d y cc nL ret (pc + 1) lv (.inr (.inr a) :: st) μ Q) : X E sh d y cc nL ret pc lv st μ Q := by
  intro p l e R s m args below meth c D cI cZ ad A H locs cells slots ls Z hC hP hD hS hA hE hl hk
  exact lv_lload_n hC.1 hC.2.1 hdg hi (hl.2 _ _ hv) (kk p l e R s m args below meth c D cI cZ ad A H locs cells slots ls Z hC hP hD hS hA hE hl hk)
theorem x_istore_n {k : Fin 4} {i : Nat} {a : Int} (hdg : decode cc pc = .ok (.istore_n k, 1)) (hi : (k : Nat) = i) (hn : i < nL) (hp : x_np lv i = true) (kk : X E sh d y cc nL ret (pc + 1) (lv.set i (some (.inl a))) st μ Q) : X E sh d y cc nL ret pc lv (.inl a :: st) μ Q := by
  intro p l e R s m args below meth c D cI cZ ad A H locs cells slots ls Z hC hP hD hS hA hE hl hk
  exact lv_istore_n hC.1 hC.2.1 hdg hi (x_Lhas hl) hn rfl (fun ls1 hl1 => kk p l e R s m args below meth c D cI cZ ad A H locs cells slots ls1 Z hC hP hD hS hA hE (x_Lof hl1 hp) hk)
theorem x_istore {i : Nat} {a : Int} (hdg : decode cc pc = .ok (.istore i, 2)) (hn : i < nL) (hp : x_np lv i = true) (kk : X E sh d y cc nL ret (pc + 2) (lv.set i (some (.inl a))) st μ Q) : X E sh d y cc nL ret pc lv (.inl a :: st) μ Q := by
  intro p l e R s m args below meth c D cI cZ ad A H locs cells slots ls Z hC hP hD hS hA hE hl hk
  exact lv_istore hC.1 hC.2.1 hdg (x_Lhas hl) hn rfl (fun ls1 hl1 => kk p l e R s m args below meth c D cI cZ ad A H locs cells slots ls1 Z hC hP hD hS hA hE (x_Lof hl1 hp) hk)
theorem x_astore_n {k : Fin 4} {i : Nat} {a : Nat} (hdg : decode cc pc = .ok (.astore_n k, 1)) (hi : (k : Nat) = i) (hn : i < nL) (hp : x_np lv i = true) (kk : X E sh d y cc nL ret (pc + 1) (lv.set i (some (.inr (.inl a)))) st μ Q) : X E sh d y cc nL ret pc lv (.inr (.inl a) :: st) μ Q := by
  intro p l e R s m args below meth c D cI cZ ad A H locs cells slots ls Z hC hP hD hS hA hE hl hk
  exact lv_astore_n hC.1 hC.2.1 hdg hi (x_Lhas hl) hn rfl (fun ls1 hl1 => kk p l e R s m args below meth c D cI cZ ad A H locs cells slots ls1 Z hC hP hD hS hA hE (x_Lof hl1 hp) hk)
theorem x_iinc {i : Nat} {n a : Int} (hdg : decode cc pc = .ok (.iinc i n, 3)) (hv : lv[i]? = some (some (.inl a))) (hn : i < nL) (hp : x_np lv i = true) (kk : X E sh d y cc nL ret (pc + 3) (lv.set i (some (.inl (a + n)))) st μ Q) : X E sh d y cc nL ret pc lv st μ Q := by
  intro p l e R s m args below meth c D cI cZ ad A H locs cells slots ls Z hC hP hD hS hA hE hl hk
  obtain ⟨k, hk1⟩ := List.getElem?_of_mem (x_ll_in (ad := ad) hv)
  exact lv_iinc (v := x_I (a + n)) hC.1 hC.2.1 hdg (x_Lhas hl) hk1 (x_add a n) hn rfl (fun ls1 hl1 => kk p l e R s m args below meth c D cI cZ ad A H locs cells slots ls1 Z hC hP hD hS hA hE (x_Lof (v := .inl (a + n)) hl1 hp) hk)
theorem x_istore_0 {a : Int} {v0 : Option xA} {r : List (Option xA)} (hdg : decode cc pc = .ok (.istore_n 0, 1)) (hn : 0 < nL) (kk : X E sh d y cc nL ret (pc + 1) (some (.inl a) :: r) st μ Q) : X E sh d y cc nL ret pc (v0 :: r) (.inl a :: st) μ Q := x_istore_n (i := 0) hdg rfl hn rfl kk
theorem x_iinc_0 {a n : Int} {r : List (Option xA)} (hdg : decode cc pc = .ok (.iinc 0 n, 3)) (hn : 0 < nL) (kk : X E sh d y cc nL ret (pc + 3) (some (.inl (a + n)) :: r) st μ Q) : X E sh d y cc nL ret pc (some (.inl a) :: r) st μ Q := x_iinc (i := 0) hdg rfl hn rfl kk
theorem x_astore_0 {a : Nat} {v0 : Option xA} {r : List (Option xA)} (hdg : decode cc pc = .ok (.astore_n 0, 1)) (hn : 0 < nL) (kk : X E sh d y cc nL ret (pc + 1) (some (.inr (.inl a)) :: r) st μ Q) : X E sh d y cc nL ret pc (v0 :: r) (.inr (.inl a) :: st) μ Q := x_astore_n (i := 0) hdg rfl hn rfl kk
theorem x_istore_1 {a : Int} {v0 v1 : Option xA} {r : List (Option xA)} (hdg : decode cc pc = .ok (.istore_n 1, 1)) (hn : 1 < nL) (hpv : x_nl v0 = true) (kk : X E sh d y cc nL ret (pc + 1) (v0 :: some (.inl a) :: r) st μ Q) : X E sh d y cc nL ret pc (v0 :: v1 :: r) (.inl a :: st) μ Q := x_istore_n (i := 1) hdg rfl hn hpv kk
theorem x_iinc_1 {a n : Int} {v0 : Option xA} {r : List (Option xA)} (hdg : decode cc pc = .ok (.iinc 1 n, 3)) (hn : 1 < nL) (hpv : x_nl v0 = true) (kk : X E sh d y cc nL ret (pc + 3) (v0 :: some (.inl (a + n)) :: r) st μ Q) : X E sh d y cc nL ret pc (v0 :: some (.inl a) :: r) st μ Q := x_iinc (i := 1) hdg rfl hn hpv kk
theorem x_astore_1 {a : Nat} {v0 v1 : Option xA} {r : List (Option xA)} (hdg : decode cc pc = .ok (.astore_n 1, 1)) (hn : 1 < nL) (hpv : x_nl v0 = true) (kk : X E sh d y cc nL ret (pc + 1) (v0 :: some (.inr (.inl a)) :: r) st μ Q) : X E sh d y cc nL ret pc (v0 :: v1 :: r) (.inr (.inl a) :: st) μ Q := x_astore_n (i := 1) hdg rfl hn hpv kk
theorem x_istore_2 {a : Int} {v0 v1 v2 : Option xA} {r : List (Option xA)} (hdg : decode cc pc = .ok (.istore_n 2, 1)) (hn : 2 < nL) (hpv : x_nl v1 = true) (kk : X E sh d y cc nL ret (pc + 1) (v0 :: v1 :: some (.inl a) :: r) st μ Q) : X E sh d y cc nL ret pc (v0 :: v1 :: v2 :: r) (.inl a :: st) μ Q := x_istore_n (i := 2) hdg rfl hn hpv kk
theorem x_iinc_2 {a n : Int} {v0 v1 : Option xA} {r : List (Option xA)} (hdg : decode cc pc = .ok (.iinc 2 n, 3)) (hn : 2 < nL) (hpv : x_nl v1 = true) (kk : X E sh d y cc nL ret (pc + 3) (v0 :: v1 :: some (.inl (a + n)) :: r) st μ Q) : X E sh d y cc nL ret pc (v0 :: v1 :: some (.inl a) :: r) st μ Q := x_iinc (i := 2) hdg rfl hn hpv kk
theorem x_astore_2 {a : Nat} {v0 v1 v2 : Option xA} {r : List (Option xA)} (hdg : decode cc pc = .ok (.astore_n 2, 1)) (hn : 2 < nL) (hpv : x_nl v1 = true) (kk : X E sh d y cc nL ret (pc + 1) (v0 :: v1 :: some (.inr (.inl a)) :: r) st μ Q) : X E sh d y cc nL ret pc (v0 :: v1 :: v2 :: r) (.inr (.inl a) :: st) μ Q := x_astore_n (i := 2) hdg rfl hn hpv kk
theorem x_istore_3 {a : Int} {v0 v1 v2 v3 : Option xA} {r : List (Option xA)} (hdg : decode cc pc = .ok (.istore_n 3, 1)) (hn : 3 < nL) (hpv : x_nl v2 = true) (kk : X E sh d y cc nL ret (pc + 1) (v0 :: v1 :: v2 :: some (.inl a) :: r) st μ Q) : X E sh d y cc nL ret pc (v0 :: v1 :: v2 :: v3 :: r) (.inl a :: st) μ Q := x_istore_n (i := 3) hdg rfl hn hpv kk
theorem x_iinc_3 {a n : Int} {v0 v1 v2 : Option xA} {r : List (Option xA)} (hdg : decode cc pc = .ok (.iinc 3 n, 3)) (hn : 3 < nL) (hpv : x_nl v2 = true) (kk : X E sh d y cc nL ret (pc + 3) (v0 :: v1 :: v2 :: some (.inl (a + n)) :: r) st μ Q) : X E sh d y cc nL ret pc (v0 :: v1 :: v2 :: some (.inl a) :: r) st μ Q := x_iinc (i := 3) hdg rfl hn hpv kk
theorem x_astore_3 {a : Nat} {v0 v1 v2 v3 : Option xA} {r : List (Option xA)} (hdg : decode cc pc = .ok (.astore_n 3, 1)) (hn : 3 < nL) (hpv : x_nl v2 = true) (kk : X E sh d y cc nL ret (pc + 1) (v0 :: v1 :: v2 :: some (.inr (.inl a)) :: r) st μ Q) : X E sh d y cc nL ret pc (v0 :: v1 :: v2 :: v3 :: r) (.inr (.inl a) :: st) μ Q := x_astore_n (i := 3) hdg rfl hn hpv kk
theorem x_istore_4 {a : Int} {v0 v1 v2 v3 v4 : Option xA} {r : List (Option xA)} (hdg : decode cc pc = .ok (.istore 4, 2)) (hn : 4 < nL) (hpv : x_nl v3 = true) (kk : X E sh d y cc nL ret (pc + 2) (v0 :: v1 :: v2 :: v3 :: some (.inl a) :: r) st μ Q) : X E sh d y cc nL ret pc (v0 :: v1 :: v2 :: v3 :: v4 :: r) (.inl a :: st) μ Q := x_istore (i := 4) hdg hn hpv kk
theorem x_iinc_4 {a n : Int} {v0 v1 v2 v3 : Option xA} {r : List (Option xA)} (hdg : decode cc pc = .ok (.iinc 4 n, 3)) (hn : 4 < nL) (hpv : x_nl v3 = true) (kk : X E sh d y cc nL ret (pc + 3) (v0 :: v1 :: v2 :: v3 :: some (.inl (a + n)) :: r) st μ Q) : X E sh d y cc nL ret pc (v0 :: v1 :: v2 :: v3 :: some (.inl a) :: r) st μ Q := x_iinc (i := 4) hdg rfl hn hpv kk
theorem x_istore_5 {a : Int} {v0 v1 v2 v3 v4 v5 : Option xA} {r : List (Option xA)} (hdg : decode cc pc = .ok (.istore 5, 2)) (hn : 5 < nL) (hpv : x_nl v4 = true) (kk : X E sh d y cc nL ret (pc + 2) (v0 :: v1 :: v2 :: v3 :: v4 :: some (.inl a) :: r) st μ Q) : X E sh d y cc nL ret pc (v0 :: v1 :: v2 :: v3 :: v4 :: v5 :: r) (.inl a :: st) μ Q := x_istore (i := 5) hdg hn hpv kk
theorem x_iinc_5 {a n : Int} {v0 v1 v2 v3 v4 : Option xA} {r : List (Option xA)} (hdg : decode cc pc = .ok (.iinc 5 n, 3)) (hn : 5 < nL) (hpv : x_nl v4 = true) (kk : X E sh d y cc nL ret (pc + 3) (v0 :: v1 :: v2 :: v3 :: v4 :: some (.inl (a + n)) :: r) st μ Q) : X E sh d y cc nL ret pc (v0 :: v1 :: v2 :: v3 :: v4 :: some (.inl a) :: r) st μ Q := x_iinc (i := 5) hdg rfl hn hpv kk
theorem x_istore_6 {a : Int} {v0 v1 v2 v3 v4 v5 v6 : Option xA} {r : List (Option xA)} (hdg : decode cc pc = .ok (.istore 6, 2)) (hn : 6 < nL) (hpv : x_nl v5 = true) (kk : X E sh d y cc nL ret (pc + 2) (v0 :: v1 :: v2 :: v3 :: v4 :: v5 :: some (.inl a) :: r) st μ Q) : X E sh d y cc nL ret pc (v0 :: v1 :: v2 :: v3 :: v4 :: v5 :: v6 :: r) (.inl a :: st) μ Q := x_istore (i := 6) hdg hn hpv kk
theorem x_iinc_6 {a n : Int} {v0 v1 v2 v3 v4 v5 : Option xA} {r : List (Option xA)} (hdg : decode cc pc = .ok (.iinc 6 n, 3)) (hn : 6 < nL) (hpv : x_nl v5 = true) (kk : X E sh d y cc nL ret (pc + 3) (v0 :: v1 :: v2 :: v3 :: v4 :: v5 :: some (.inl (a + n)) :: r) st μ Q) : X E sh d y cc nL ret pc (v0 :: v1 :: v2 :: v3 :: v4 :: v5 :: some (.inl a) :: r) st μ Q := x_iinc (i := 6) hdg rfl hn hpv kk
theorem x_istore_7 {a : Int} {v0 v1 v2 v3 v4 v5 v6 v7 : Option xA} {r : List (Option xA)} (hdg : decode cc pc = .ok (.istore 7, 2)) (hn : 7 < nL) (hpv : x_nl v6 = true) (kk : X E sh d y cc nL ret (pc + 2) (v0 :: v1 :: v2 :: v3 :: v4 :: v5 :: v6 :: some (.inl a) :: r) st μ Q) : X E sh d y cc nL ret pc (v0 :: v1 :: v2 :: v3 :: v4 :: v5 :: v6 :: v7 :: r) (.inl a :: st) μ Q := x_istore (i := 7) hdg hn hpv kk
theorem x_iinc_7 {a n : Int} {v0 v1 v2 v3 v4 v5 v6 : Option xA} {r : List (Option xA)} (hdg : decode cc pc = .ok (.iinc 7 n, 3)) (hn : 7 < nL) (hpv : x_nl v6 = true) (kk : X E sh d y cc nL ret (pc + 3) (v0 :: v1 :: v2 :: v3 :: v4 :: v5 :: v6 :: some (.inl (a + n)) :: r) st μ Q) : X E sh d y cc nL ret pc (v0 :: v1 :: v2 :: v3 :: v4 :: v5 :: v6 :: some (.inl a) :: r) st μ Q := x_iinc (i := 7) hdg rfl hn hpv kk
theorem x_istore_8 {a : Int} {v0 v1 v2 v3 v4 v5 v6 v7 v8 : Option xA} {r : List (Option xA)} (hdg : decode cc pc = .ok (.istore 8, 2)) (hn : 8 < nL) (hpv : x_nl v7 = true) (kk : X E sh d y cc nL ret (pc + 2) (v0 :: v1 :: v2 :: v3 :: v4 :: v5 :: v6 :: v7 :: some (.inl a) :: r) st μ Q) : X E sh d y cc nL ret pc (v0 :: v1 :: v2 :: v3 :: v4 :: v5 :: v6 :: v7 :: v8 :: r) (.inl a :: st) μ Q := x_istore (i := 8) hdg hn hpv kk
theorem x_iinc_8 {a n : Int} {v0 v1 v2 v3 v4 v5 v6 v7 : Option xA} {r : List (Option xA)} (hdg : decode cc pc = .ok (.iinc 8 n, 3)) (hn : 8 < nL) (hpv : x_nl v7 = true) (kk : X E sh d y cc nL ret (pc + 3) (v0 :: v1 :: v2 :: v3 :: v4 :: v5 :: v6 :: v7 :: some (.inl (a + n)) :: r) st μ Q) : X E sh d y cc nL ret pc (v0 :: v1 :: v2 :: v3 :: v4 :: v5 :: v6 :: v7 :: some (.inl a) :: r) st μ Q := x_iinc (i := 8) hdg rfl hn hpv kk
theorem x_iadd {a b : Int} (hdg : decode cc pc = .ok (.iadd, 1)) (kk : X E sh d y cc nL ret (pc + 1) lv (.inl (a + b) :: st) μ Q) : X E sh d y cc nL ret pc lv (.inl b :: .inl a :: st) μ Q := by
  intro p l e R s m args below meth c D cI cZ ad A H locs cells slots ls Z hC hP hD hS hA hE hl hk
  refine lv_iadd hC.1 hC.2.1 hdg ?_
  rw [x_add]
  exact kk p l e R s m args below meth c D cI cZ ad A H locs cells slots ls Z hC hP hD hS hA hE hl hk
theorem x_isub {a b : Int} (hdg : decode cc pc = .ok (.isub, 1)) (kk : X E sh d y cc nL ret (pc + 1) lv (.inl (a - b) :: st) μ Q) : X E sh d y cc nL ret pc lv (.inl b :: .inl a :: st) μ Q := by
  intro p l e R s m args below meth c D cI cZ ad A H locs cells slots ls Z hC hP hD hS hA hE hl hk
  refine lv_isub hC.1 hC.2.1 hdg ?_
  rw [x_sub]
  exact kk p l e R s m args below meth c D cI cZ ad A H locs cells slots ls Z hC hP hD hS hA hE hl hk
theorem x_imul {a b : Int} (hdg : decode cc pc = .ok (.imul, 1)) (kk : X E sh d y cc nL ret (pc + 1) lv (.inl (a * b) :: st) μ Q) : X E sh d y cc nL ret pc lv (.inl b :: .inl a :: st) μ Q := by
  intro p l e R s m args below meth c D cI cZ ad A H locs cells slots ls Z hC hP hD hS hA hE hl hk
  refine lv_imul hC.1 hC.2.1 hdg ?_
  rw [x_mul]
  exact kk p l e R s m args below meth c D cI cZ ad A H locs cells slots ls Z hC hP hD hS hA hE hl hk
theorem x_idiv {a b : Int} (hdg : decode cc pc = .ok (.idiv, 1)) (ha : x_in a) (hb : x_in b) (hq : x_in (a.tdiv b)) (h0 : b ≠ 0) (kk : X E sh d y cc nL ret (pc + 1) lv (.inl (a.tdiv b) :: st) μ Q) : X E sh d y cc nL ret pc lv (.inl b :: .inl a :: st) μ Q := by
  intro p l e R s m args below meth c D cI cZ ad A H locs cells slots ls Z hC hP hD hS hA hE hl hk
  refine lv_idiv hC.1 hC.2.1 hdg (x_ne0 hb h0) ?_
  rw [x_div ha hb hq]
  exact kk p l e R s m args below meth c D cI cZ ad A H locs cells slots ls Z hC hP hD hS hA hE hl hk
theorem x_irem {a b : Int} (hdg : decode cc pc = .ok (.irem, 1)) (ha : x_in a) (hb : x_in b) (hq : x_in (a.tdiv b)) (h0 : b ≠ 0) (kk : X E sh d y cc nL ret (pc + 1) lv (.inl (a - a.tdiv b * b) :: st) μ Q) : X E sh d y cc nL ret pc lv (.inl b :: .inl a :: st) μ Q := by
  intro p l e R s m args below meth c D cI cZ ad A H locs cells slots ls Z hC hP hD hS hA hE hl hk
  refine lv_irem hC.1 hC.2.1 hdg (x_ne0 hb h0) ?_
  rw [x_div ha hb hq, x_mul, x_sub]
  exact kk p l e R s m args below meth c D cI cZ ad A H locs cells slots ls Z hC hP hD hS hA hE hl hk
theorem x_iand {a b : Int} {r : Int} (hdg : decode cc pc = .ok (.iand, 1)) (hr : x_I a &&& x_I b = x_I r) (kk : X E sh d y cc nL ret (pc + 1) lv (.inl (r) :: st) μ Q) : X E sh d y cc nL ret pc lv (.inl b :: .inl a :: st) μ Q := by
  intro p l e R s m args below meth c D cI cZ ad A H locs cells slots ls Z hC hP hD hS hA hE hl hk
  refine lv_iand hC.1 hC.2.1 hdg ?_
  rw [hr]
  exact kk p l e R s m args below meth c D cI cZ ad A H locs cells slots ls Z hC hP hD hS hA hE hl hk
theorem x_ior {a b : Int} {r : Int} (hdg : decode cc pc = .ok (.ior, 1)) (hr : x_I a ||| x_I b = x_I r) (kk : X E sh d y cc nL ret (pc + 1) lv (.inl (r) :: st) μ Q) : X E sh d y cc nL ret pc lv (.inl b :: .inl a :: st) μ Q := by
  intro p l e R s m args below meth c D cI cZ ad A H locs cells slots ls Z hC hP hD hS hA hE hl hk
  refine lv_ior hC.1 hC.2.1 hdg ?_
  rw [hr]
  exact kk p l e R s m args below meth c D cI cZ ad A H locs cells slots ls Z hC hP hD hS hA hE hl hk
theorem x_ishl {a b : Int} {r : Int} (hdg : decode cc pc = .ok (.ishl, 1)) (hr : x_I a <<< (x_I b &&& 31) = x_I r) (kk : X E sh d y cc nL ret (pc + 1) lv (.inl (r) :: st) μ Q) : X E sh d y cc nL ret pc lv (.inl b :: .inl a :: st) μ Q := by
  intro p l e R s m args below meth c D cI cZ ad A H locs cells slots ls Z hC hP hD hS hA hE hl hk
  refine lv_ishl hC.1 hC.2.1 hdg ?_
  rw [hr]
  exact kk p l e R s m args below meth c D cI cZ ad A H locs cells slots ls Z hC hP hD hS hA hE hl hk
theorem x_ishr {a b : Int} {r : Int} (hdg : decode cc pc = .ok (.ishr, 1)) (hr : x_I a >>> (x_I b &&& 31) = x_I r) (kk : X E sh d y cc nL ret (pc + 1) lv (.inl (r) :: st) μ Q) : X E sh d y cc nL ret pc lv (.inl b :: .inl a :: st) μ Q := by
  intro p l e R s m args below meth c D cI cZ ad A H locs cells slots ls Z hC hP hD hS hA hE hl hk
  refine lv_ishr hC.1 hC.2.1 hdg ?_
  rw [hr]
  exact kk p l e R s m args below meth c D cI cZ ad A H locs cells slots ls Z hC hP hD hS hA hE hl hk
theorem x_ineg {a : Int} (hdg : decode cc pc = .ok (.ineg, 1)) (kk : X E sh d y cc nL ret (pc + 1) lv (.inl (-a) :: st) μ Q) : X E sh d y cc nL ret pc lv (.inl a :: st) μ Q := by
  intro p l e R s m args below meth c D cI cZ ad A H locs cells slots ls Z hC hP hD hS hA hE hl hk
  refine lv_ineg hC.1 hC.2.1 hdg ?_
  rw [x_neg]
  exact kk p l e R s m args below meth c D cI cZ ad A H locs cells slots ls Z hC hP hD hS hA hE hl hk
theorem x_i2l {a : Int} (hdg : decode cc pc = .ok (.i2l, 1)) (kk : X E sh d y cc nL ret (pc + 1) lv (.inr (.inr (x_I a).toInt64) :: st) μ Q) : X E sh d y cc nL ret pc lv (.inl a :: st) μ Q := by
  intro p l e R s m args below meth c D cI cZ ad A H locs cells slots ls Z hC hP hD hS hA hE hl hk
  exact lv_i2l hC.1 hC.2.1 hdg rfl (kk p l e R s m args below meth c D cI cZ ad A H locs cells slots ls Z hC hP hD hS hA hE hl hk)
theorem x_l2i {a : Int64} (hdg : decode cc pc = .ok (.l2i, 1)) (kk : X E sh d y cc nL ret (pc + 1) lv (.inl a.toInt32.toInt :: st) μ Q) : X E sh d y cc nL ret pc lv (.inr (.inr a) :: st) μ Q := by
  intro p l e R s m args below meth c D cI cZ ad A H locs cells slots ls Z hC hP hD hS hA hE hl hk
  exact lv_l2i hC.1 hC.2.1 hdg (x_ofInt _).symm (kk p l e R s m args below meth c D cI cZ ad A H locs cells slots ls Z hC hP hD hS hA hE hl hk)
theorem x_land {a b : Int64} (hdg : decode cc pc = .ok (.land, 1)) (kk : X E sh d y cc nL ret (pc + 1) lv (.inr (.inr (a &&& b)) :: st) μ Q) : X E sh d y cc nL ret pc lv (.inr (.inr b) :: .inr (.inr a) :: st) μ Q := by
  intro p l e R s m args below meth c D cI cZ ad A H locs cells slots ls Z hC hP hD hS hA hE hl hk
  exact lv_land hC.1 hC.2.1 hdg (kk p l e R s m args below meth c D cI cZ ad A H locs cells slots ls Z hC hP hD hS hA hE hl hk)
theorem x_lor {a b : Int64} (hdg : decode cc pc = .ok (.lor, 1)) (kk : X E sh d y cc nL ret (pc + 1) lv (.inr (.inr (a ||| b)) :: st) μ Q) : X E sh d y cc nL ret pc lv (.inr (.inr b) :: .inr (.inr a) :: st) μ Q := by
  intro p l e R s m args below meth c D cI cZ ad A H locs cells slots ls Z hC hP hD hS hA hE hl hk
  exact lv_lor hC.1 hC.2.1 hdg (kk p l e R s m args below meth c D cI cZ ad A H locs cells slots ls Z hC hP hD hS hA hE hl hk)
theorem x_lushr {a : Int64} {b : Int} (hdg : decode cc pc = .ok (.lushr, 1)) (kk : X E sh d y cc nL ret (pc + 1) lv (.inr (.inr ((a.toUInt64 >>> ((x_I b).toInt64.toUInt64 &&& Int64.toUInt64 63)).toInt64)) :: st) μ Q) : X E sh d y cc nL ret pc lv (.inl b :: .inr (.inr a) :: st) μ Q := by
  intro p l e R s m args below meth c D cI cZ ad A H locs cells slots ls Z hC hP hD hS hA hE hl hk
  exact lv_lushr hC.1 hC.2.1 hdg rfl (kk p l e R s m args below meth c D cI cZ ad A H locs cells slots ls Z hC hP hD hS hA hE hl hk)
theorem x_lshl {a : Int64} {b : Int} (hdg : decode cc pc = .ok (.lshl, 1)) (kk : X E sh d y cc nL ret (pc + 1) lv (.inr (.inr (a <<< ((x_I b).toInt64 &&& 63))) :: st) μ Q) : X E sh d y cc nL ret pc lv (.inl b :: .inr (.inr a) :: st) μ Q := by
  intro p l e R s m args below meth c D cI cZ ad A H locs cells slots ls Z hC hP hD hS hA hE hl hk
  exact lv_lshl hC.1 hC.2.1 hdg rfl (kk p l e R s m args below meth c D cI cZ ad A H locs cells slots ls Z hC hP hD hS hA hE hl hk)
theorem x_lshr {a : Int64} {b : Int} (hdg : decode cc pc = .ok (.lshr, 1)) (kk : X E sh d y cc nL ret (pc + 1) lv (.inr (.inr (a >>> ((x_I b).toInt64 &&& 63))) :: st) μ Q) : X E sh d y cc nL ret pc lv (.inl b :: .inr (.inr a) :: st) μ Q := by
  intro p l e R s m args below meth c D cI cZ ad A H locs cells slots ls Z hC hP hD hS hA hE hl hk
  exact lv_lshr hC.1 hC.2.1 hdg rfl (kk p l e R s m args below meth c D cI cZ ad A H locs cells slots ls Z hC hP hD hS hA hE hl hk)
theorem x_dupI {a : Int} (hdg : decode cc pc = .ok (.dup, 1)) (kk : X E sh d y cc nL ret (pc + 1) lv (.inl a :: .inl a :: st) μ Q) : X E sh d y cc nL ret pc lv (.inl a :: st) μ Q := by
  intro p l e R s m args below meth c D cI cZ ad A H locs cells slots ls Z hC hP hD hS hA hE hl hk
  exact lv_dup hC.1 hC.2.1 hdg rfl (kk p l e R s m args below meth c D cI cZ ad A H locs cells slots ls Z hC hP hD hS hA hE hl hk)
theorem x_dupR {a : Nat} (hdg : decode cc pc = .ok (.dup, 1)) (kk : X E sh d y cc nL ret (pc + 1) lv (.inr (.inl a) :: .inr (.inl a) :: st) μ Q) : X E sh d y cc nL ret pc lv (.inr (.inl a) :: st) μ Q := by
  intro p l e R s m args below meth c D cI cZ ad A H locs cells slots ls Z hC hP hD hS hA hE hl hk
  exact lv_dup hC.1 hC.2.1 hdg rfl (kk p l e R s m args below meth c D cI cZ ad A H locs cells slots ls Z hC hP hD hS hA hE hl hk)
theorem x_dup2 {a : Int} {b : Nat} (hdg : decode cc pc = .ok (.dup2, 1)) (kk : X E sh d y cc nL ret (pc + 1) lv (.inl a :: .inr (.inl b) :: .inl a :: .inr (.inl b) :: st) μ Q) : X E sh d y cc nL ret pc lv (.inl a :: .inr (.inl b) :: st) μ Q := by
  intro p l e R s m args below meth c D cI cZ ad A H locs cells slots ls Z hC hP hD hS hA hE hl hk
  exact lv_dup2_11 hC.1 hC.2.1 hdg rfl rfl (kk p l e R s m args below meth c D cI cZ ad A H locs cells slots ls Z hC hP hD hS hA hE hl hk)
theorem x_goto {off : Int} {tgt : Nat} (hdg : decode cc pc = .ok (.goto off, 3)) (ht : (pc : Int) + off = (tgt : Int)) (kk : X E sh d y cc nL ret tgt lv st μ Q) : X E sh d y cc nL ret pc lv st μ Q := by
  intro p l e R s m args below meth c D cI cZ ad A H locs cells slots ls Z hC hP hD hS hA hE hl hk
  exact lv_goto hC.1 hC.2.1 hdg ht (kk p l e R s m args below meth c D cI cZ ad A H locs cells slots ls Z hC hP hD hS hA hE hl hk)
theorem x_icmp_eq {a b : Int} {off : Int} {tgt : Nat} (hdg : decode cc pc = .ok (.if_icmp .eq off, 3)) (ht : (pc : Int) + off = (tgt : Int)) (ha : x_in a) (hb : x_in b) (kt : a = b → X E sh d y cc nL ret tgt lv st μ Q) (kf : a ≠ b → X E sh d y cc nL ret (pc + 3) lv st μ Q) : X E sh d y cc nL ret pc lv (.inl b :: .inl a :: st) μ Q := by
  intro p l e R s m args below meth c D cI cZ ad A H locs cells slots ls Z hC hP hD hS hA hE hl hk
  exact lv_icmp_eq hC.1 hC.2.1 hdg ht (fun h => kt ((x_eq ha hb).1 h) p l e R s m args below meth c D cI cZ ad A H locs cells slots ls Z hC hP hD hS hA hE hl hk) (fun h => kf (fun q => h ((x_eq ha hb).2 q)) p l e R s m args below meth c D cI cZ ad A H locs cells slots ls Z hC hP hD hS hA hE hl hk)
theorem x_icmp_ne {a b : Int} {off : Int} {tgt : Nat} (hdg : decode cc pc = .ok (.if_icmp .ne off, 3)) (ht : (pc : Int) + off = (tgt : Int)) (ha : x_in a) (hb : x_in b) (kt : a ≠ b → X E sh d y cc nL ret tgt lv st μ Q) (kf : a = b → X E sh d y cc nL ret (pc + 3) lv st μ Q) : X E sh d y cc nL ret pc lv (.inl b :: .inl a :: st) μ Q := by
  intro p l e R s m args below meth c D cI cZ ad A H locs cells slots ls Z hC hP hD hS hA hE hl hk
  exact lv_icmp_ne hC.1 hC.2.1 hdg ht (fun h => kt ((not_congr (x_eq ha hb)).1 h) p l e R s m args below meth c D cI cZ ad A H locs cells slots ls Z hC hP hD hS hA hE hl hk) (fun h => kf ((x_eq ha hb).1 h) p l e R s m args below meth c D cI cZ ad A H locs cells slots ls Z hC hP hD hS hA hE hl hk)
theorem x_icmp_lt {a b : Int} {off : Int} {tgt : Nat} (hdg : decode cc pc = .ok (.if_icmp .lt off, 3)) (ht : (pc : Int) + off = (tgt : Int)) (ha : x_in a) (hb : x_in b) (kt : a < b → X E sh d y cc nL ret tgt lv st μ Q) (kf : b ≤ a → X E sh d y cc nL ret (pc + 3) lv st μ Q) : X E sh d y cc nL ret pc lv (.inl b :: .inl a :: st) μ Q := by
  intro p l e R s m args below meth c D cI cZ ad A H locs cells slots ls Z hC hP hD hS hA hE hl hk
  exact lv_icmp_lt hC.1 hC.2.1 hdg ht (fun h => kt ((x_lt ha hb).1 h) p l e R s m args below meth c D cI cZ ad A H locs cells slots ls Z hC hP hD hS hA hE hl hk) (fun h => kf (Int.not_lt.mp (fun q => h ((x_lt ha hb).2 q))) p l e R s m args below meth c D cI cZ ad A H locs cells slots ls Z hC hP hD hS hA hE hl hk)
theorem x_icmp_ge {a b : Int} {off : Int} {tgt : Nat} (hdg : decode cc pc = .ok (.if_icmp .ge off, 3)) (ht : (pc : Int) + off = (tgt : Int)) (ha : x_in a) (hb : x_in b) (kt : b ≤ a → X E sh d y cc nL ret tgt lv st μ Q) (kf : a < b → X E sh d y cc nL ret (pc + 3) lv st μ Q) : X E sh d y cc nL ret pc lv (.inl b :: .inl a :: st) μ Q := by
  intro p l e R s m args below meth c D cI cZ ad A H locs cells slots ls Z hC hP hD hS hA hE hl hk
  exact lv_icmp_ge hC.1 hC.2.1 hdg ht (fun h => kt ((x_le hb ha).1 h) p l e R s m args below meth c D cI cZ ad A H locs cells slots ls Z hC hP hD hS hA hE hl hk) (fun h => kf (Int.not_le.mp (fun q => h ((x_le hb ha).2 q))) p l e R s m args below meth c D cI cZ ad A H locs cells slots ls Z hC hP hD hS hA hE hl hk)
theorem x_icmp_gt {a b : Int} {off : Int} {tgt : Nat} (hdg : decode cc pc = .ok (.if_icmp .gt off, 3)) (ht : (pc : Int) + off = (tgt : Int)) (ha : x_in a) (hb : x_in b) (kt : b < a → X E sh d y cc nL ret tgt lv st μ Q) (kf : a ≤ b → X E sh d y cc nL ret (pc + 3) lv st μ Q) : X E sh d y cc nL ret pc lv (.inl b :: .inl a :: st) μ Q := by
  intro p l e R s m args below meth c D cI cZ ad A H locs cells slots ls Z hC hP hD hS hA hE hl hk
  exact lv_icmp_gt hC.1 hC.2.1 hdg ht (fun h => kt ((x_lt hb ha).1 h) p l e R s m args below meth c D cI cZ ad A H locs cells slots ls Z hC hP hD hS hA hE hl hk) (fun h => kf (Int.not_lt.mp (fun q => h ((x_lt hb ha).2 q))) p l e R s m args below meth c D cI cZ ad A H locs cells slots ls Z hC hP hD hS hA hE hl hk)
theorem x_icmp_le {a b : Int} {off : Int} {tgt : Nat} (hdg : decode cc pc = .ok (.if_icmp .le off, 3)) (ht : (pc : Int) + off = (tgt : Int)) (ha : x_in a) (hb : x_in b) (kt : a ≤ b → X E sh d y cc nL ret tgt lv st μ Q) (kf : b < a → X E sh d y cc nL ret (pc + 3) lv st μ Q) : X E sh d y cc nL ret pc lv (.inl b :: .inl a :: st) μ Q := by
  intro p l e R s m args below meth c D cI cZ ad A H locs cells slots ls Z hC hP hD hS hA hE hl hk
  exact lv_icmp_le hC.1 hC.2.1 hdg ht (fun h => kt ((x_le ha hb).1 h) p l e R s m args below meth c D cI cZ ad A H locs cells slots ls Z hC hP hD hS hA hE hl hk) (fun h => kf (Int.not_le.mp (fun q => h ((x_le ha hb).2 q))) p l e R s m args below meth c D cI cZ ad A H locs cells slots ls Z hC hP hD hS hA hE hl hk)
theorem x_if_eq {a : Int} {off : Int} {tgt : Nat} (hdg : decode cc pc = .ok (.ifCond .eq off, 3)) (ht : (pc : Int) + off = (tgt : Int)) (ha : x_in a) (kt : a = 0 → X E sh d y cc nL ret tgt lv st μ Q) (kf : a ≠ 0 → X E sh d y cc nL ret (pc + 3) lv st μ Q) : X E sh d y cc nL ret pc lv (.inl a :: st) μ Q := by
  intro p l e R s m args below meth c D cI cZ ad A H locs cells slots ls Z hC hP hD hS hA hE hl hk
  have hz : x_I a = 0 ↔ a = 0 := by
    rw [← x_zero]
    exact x_eq ha x_in0
  exact lv_if_eq hC.1 hC.2.1 hdg ht (fun h => kt (hz.1 h) p l e R s m args below meth c D cI cZ ad A H locs cells slots ls Z hC hP hD hS hA hE hl hk) (fun h => kf (by
    have h2 : ¬ (a = 0) := fun q => h ((hz).2 q)
    omega) p l e R s m args below meth c D cI cZ ad A H locs cells slots ls Z hC hP hD hS hA hE hl hk)
theorem x_if_ne {a : Int} {off : Int} {tgt : Nat} (hdg : decode cc pc = .ok (.ifCond .ne off, 3)) (ht : (pc : Int) + off = (tgt : Int)) (ha : x_in a) (kt : a ≠ 0 → X E sh d y cc nL ret tgt lv st μ Q) (kf : a = 0 → X E sh d y cc nL ret (pc + 3) lv st μ Q) : X E sh d y cc nL ret pc lv (.inl a :: st) μ Q := by
  intro p l e R s m args below meth c D cI cZ ad A H locs cells slots ls Z hC hP hD hS hA hE hl hk
  have hz : x_I a = 0 ↔ a = 0 := by
    rw [← x_zero]
    exact x_eq ha x_in0
  exact lv_if_ne hC.1 hC.2.1 hdg ht (fun h => kt (fun q => h (hz.2 q)) p l e R s m args below meth c D cI cZ ad A H locs cells slots ls Z hC hP hD hS hA hE hl hk) (fun h => kf (hz.1 h) p l e R s m args below meth c D cI cZ ad A H locs cells slots ls Z hC hP hD hS hA hE hl hk)
theorem x_if_lt {a : Int} {off : Int} {tgt : Nat} (hdg : decode cc pc = .ok (.ifCond .lt off, 3)) (ht : (pc : Int) + off = (tgt : Int)) (ha : x_in a) (kt : a < 0 → X E sh d y cc nL ret tgt lv st μ Q) (kf : 0 ≤ a → X E sh d y cc nL ret (pc + 3) lv st μ Q) : X E sh d y cc nL ret pc lv (.inl a :: st) μ Q := by
  intro p l e R s m args below meth c D cI cZ ad A H locs cells slots ls Z hC hP hD hS hA hE hl hk
  have hz : x_I a < 0 ↔ a < 0 := by
    rw [← x_zero]
    exact x_lt ha x_in0
  exact lv_if_lt hC.1 hC.2.1 hdg ht (fun h => kt (hz.1 h) p l e R s m args below meth c D cI cZ ad A H locs cells slots ls Z hC hP hD hS hA hE hl hk) (fun h => kf (by
    have h2 : ¬ (a < 0) := fun q => h ((hz).2 q)
    omega) p l e R s m args below meth c D cI cZ ad A H locs cells slots ls Z hC hP hD hS hA hE hl hk)
theorem x_if_ge {a : Int} {off : Int} {tgt : Nat} (hdg : decode cc pc = .ok (.ifCond .ge off, 3)) (ht : (pc : Int) + off = (tgt : Int)) (ha : x_in a) (kt : 0 ≤ a → X E sh d y cc nL ret tgt lv st μ Q) (kf : a < 0 → X E sh d y cc nL ret (pc + 3) lv st μ Q) : X E sh d y cc nL ret pc lv (.inl a :: st) μ Q := by
  intro p l e R s m args below meth c D cI cZ ad A H locs cells slots ls Z hC hP hD hS hA hE hl hk
  have hz : 0 ≤ x_I a ↔ 0 ≤ a := by
    rw [← x_zero]
    exact x_le x_in0 ha
  exact lv_if_ge hC.1 hC.2.1 hdg ht (fun h => kt (hz.1 h) p l e R s m args below meth c D cI cZ ad A H locs cells slots ls Z hC hP hD hS hA hE hl hk) (fun h => kf (by
    have h2 : ¬ (0 ≤ a) := fun q => h ((hz).2 q)
    omega) p l e R s m args below meth c D cI cZ ad A H locs cells slots ls Z hC hP hD hS hA hE hl hk)
theorem x_if_gt {a : Int} {off : Int} {tgt : Nat} (hdg : decode cc pc = .ok (.ifCond .gt off, 3)) (ht : (pc : Int) + off = (tgt : Int)) (ha : x_in a) (kt : 0 < a → X E sh d y cc nL ret tgt lv st μ Q) (kf : a ≤ 0 → X E sh d y cc nL ret (pc + 3) lv st μ Q) : X E sh d y cc nL ret pc lv (.inl a :: st) μ Q := by
  intro p l e R s m args below meth c D cI cZ ad A H locs cells slots ls Z hC hP hD hS hA hE hl hk
  have hz : 0 < x_I a ↔ 0 < a := by
    rw [← x_zero]
    exact x_lt x_in0 ha
  exact lv_if_gt hC.1 hC.2.1 hdg ht (fun h => kt (hz.1 h) p l e R s m args below meth c D cI cZ ad A H locs cells slots ls Z hC hP hD hS hA hE hl hk) (fun h => kf (by
    have h2 : ¬ (0 < a) := fun q => h ((hz).2 q)
    omega) p l e R s m args below meth c D cI cZ ad A H locs cells slots ls Z hC hP hD hS hA hE hl hk)
theorem x_if_le {a : Int} {off : Int} {tgt : Nat} (hdg : decode cc pc = .ok (.ifCond .le off, 3)) (ht : (pc : Int) + off = (tgt : Int)) (ha : x_in a) (kt : a ≤ 0 → X E sh d y cc nL ret tgt lv st μ Q) (kf : 0 < a → X E sh d y cc nL ret (pc + 3) lv st μ Q) : X E sh d y cc nL ret pc lv (.inl a :: st) μ Q := by
  intro p l e R s m args below meth c D cI cZ ad A H locs cells slots ls Z hC hP hD hS hA hE hl hk
  have hz : x_I a ≤ 0 ↔ a ≤ 0 := by
    rw [← x_zero]
    exact x_le ha x_in0
  exact lv_if_le hC.1 hC.2.1 hdg ht (fun h => kt (hz.1 h) p l e R s m args below meth c D cI cZ ad A H locs cells slots ls Z hC hP hD hS hA hE hl hk) (fun h => kf (by
    have h2 : ¬ (a ≤ 0) := fun q => h ((hz).2 q)
    omega) p l e R s m args below meth c D cI cZ ad A H locs cells slots ls Z hC hP hD hS hA hE hl hk)
theorem x_tableAt {dflt lo hi : Int} {offs : Array Int} {len : Nat} {a off : Int} {tgt : Nat} (hdg : decode cc pc = .ok (.tableswitch dflt lo hi offs, len)) (ha : x_in a) (h1 : lo ≤ a) (h2 : a ≤ hi) (ho : offs[(a - lo).toNat]? = some off) (ht : (pc : Int) + off = (tgt : Int)) (kk : X E sh d y cc nL ret tgt lv st μ Q) : X E sh d y cc nL ret pc lv (.inl a :: st) μ Q := by
  intro p l e R s m args below meth c D cI cZ ad A H locs cells slots ls Z hC hP hD hS hA hE hl hk
  exact lv_tableIn hC.1 hC.2.1 hdg (by rw [x_toInt ha]; omega) (by rw [x_toInt ha]; omega) (by rw [x_toInt ha]; exact ho) ht (kk p l e R s m args below meth c D cI cZ ad A H locs cells slots ls Z hC hP hD hS hA hE hl hk)
theorem x_tableOut {dflt lo hi : Int} {offs : Array Int} {len : Nat} {a : Int} {tgt : Nat} (hdg : decode cc pc = .ok (.tableswitch dflt lo hi offs, len)) (ha : x_in a) (h1 : a < lo ∨ hi < a) (ht : (pc : Int) + dflt = (tgt : Int)) (kk : X E sh d y cc nL ret tgt lv st μ Q) : X E sh d y cc nL ret pc lv (.inl a :: st) μ Q := by
  intro p l e R s m args below meth c D cI cZ ad A H locs cells slots ls Z hC hP hD hS hA hE hl hk
  exact lv_tableOut hC.1 hC.2.1 hdg (by rw [x_toInt ha]; exact h1) ht (kk p l e R s m args below meth c D cI cZ ad A H locs cells slots ls Z hC hP hD hS hA hE hl hk)
theorem x_lookup {dflt : Int} {ps : Array (Int × Int)} {len : Nat} {a off : Int} {tgt : Nat} (hdg : decode cc pc = .ok (.lookupswitch dflt ps, len)) (hp : (ps.toList.zip (ps.toList.drop 1)).all (fun (a, next) => a.1 < next.1) = true) (ha : x_in a) (ho : Op.lookupswitch.offset ps.toList dflt a = off) (ht : (pc : Int) + off = (tgt : Int)) (kk : X E sh d y cc nL ret tgt lv st μ Q) : X E sh d y cc nL ret pc lv (.inl a :: st) μ Q := by
  intro p l e R s m args below meth c D cI cZ ad A H locs cells slots ls Z hC hP hD hS hA hE hl hk
  exact lv_lookup hC.1 hC.2.1 hdg hp (by rw [x_toInt ha]; exact ho) ht (kk p l e R s m args below meth c D cI cZ ad A H locs cells slots ls Z hC hP hD hS hA hE hl hk)
theorem x_getI {o k ci cp : Nat} {fs : List (Option Nat)} (hx : x_fk y.cls cp ci k) (hdg : decode cc pc = .ok (.getfield cp, 3)) (hs : sh[o]? = some (.inr (ci, fs))) (hf : fs[k]? = some none) (kk : X E sh d y cc nL ret (pc + 3) lv (.inl (μ o k) :: st) μ Q) : X E sh d y cc nL ret pc lv (.inr (.inl o) :: st) μ Q := by
  intro p l e R s m args below meth c D cI cZ ad A H locs cells slots ls Z hC hP hD hS hA hE hl hk
  obtain ⟨C, T, N, ty0, h1, h2, h3, h4, h5, h6, h7⟩ := hx
  exact va_get hC.1 hC.2.1 hC.2.2.2.2.1 (x_lay h5) hC.2.2.2.1 hC.2.2.2.2.2.1 hP o (x_wk hs) h1 k h2 (hC.2.2.2.2.1 _ (x_mem h3 rfl)) (fun x h => by rw [← h4]; exact h) (v := .int (x_I (μ o k))) (by rw [List.getElem?_mapIdx, hf]; rfl) hdg (kk p l e R s m args below meth c D cI cZ ad A H locs cells slots ls Z hC hP hD hS hA hE hl hk)
theorem x_getR {o k ci cp r : Nat} {fs : List (Option Nat)} (hx : x_fk y.cls cp ci k) (hdg : decode cc pc = .ok (.getfield cp, 3)) (hs : sh[o]? = some (.inr (ci, fs))) (hf : fs[k]? = some (some r)) (kk : X E sh d y cc nL ret (pc + 3) lv (.inr (.inl r) :: st) μ Q) : X E sh d y cc nL ret pc lv (.inr (.inl o) :: st) μ Q := by
  intro p l e R s m args below meth c D cI cZ ad A H locs cells slots ls Z hC hP hD hS hA hE hl hk
  obtain ⟨C, T, N, ty0, h1, h2, h3, h4, h5, h6, h7⟩ := hx
  exact va_get hC.1 hC.2.1 hC.2.2.2.2.1 (x_lay h5) hC.2.2.2.1 hC.2.2.2.2.2.1 hP o (x_wk hs) h1 k h2 (hC.2.2.2.2.1 _ (x_mem h3 rfl)) (fun x h => by rw [← h4]; exact h) (v := .ref (ad r)) (by rw [List.getElem?_mapIdx, hf]; rfl) hdg (kk p l e R s m args below meth c D cI cZ ad A H locs cells slots ls Z hC hP hD hS hA hE hl hk)
theorem x_e_put {cI cZ : ClassId} {ad : Nat → Nat} {o k ci : Nat} {fs : List (Option Nat)} {a : Int} (hf : fs[k]? = some none) : x_e cI cZ ad (x_st μ o k a o) (.inr (ci, fs)) = .inr (ci, (fs.mapIdx (x_f ad (μ o))).set k (.int (x_I a))) := by
  simp only [x_e]
  congr 2
  apply List.ext_getElem?
  intro i
  have hl : k < fs.length := (List.getElem?_eq_some_iff.mp hf).1
  rw [List.getElem?_set, List.getElem?_mapIdx, List.length_mapIdx, List.getElem?_mapIdx]
  by_cases hik : k = i
  · subst hik
    rw [if_pos rfl, if_pos hl, hf]
    simp [x_f, x_st]
  · rw [if_neg hik]
    cases hfi : fs[i]? with
    | none => rfl
    | some f =>
      cases f with
      | none => simp [x_f, x_st, show ¬ i = k from fun e => hik e.symm]
      | some r => rfl
theorem x_putI {o k ci cp : Nat} {fs : List (Option Nat)} {a : Int} (hx : x_pk y.cls cp ci k .int) (hdg : decode cc pc = .ok (.putfield cp, 3)) (hs : sh[o]? = some (.inr (ci, fs))) (hf : fs[k]? = some none) (kk : X E sh d y cc nL ret (pc + 3) lv st (x_st μ o k a) Q) : X E sh d y cc nL ret pc lv (.inl a :: .inr (.inl o) :: st) μ Q := by
  intro p l e R s m args below meth c D cI cZ ad A H locs cells slots ls Z hC hP hD hS hA hE hl hk
  obtain ⟨C, T, N, ty0, ⟨h1, h2, h3, h4, h5, h6, h7⟩, h8, h9⟩ := hx
  refine va_put hC.1 hC.2.1 hC.2.2.2.2.1 (x_lay h5) ty0 h6 h7 hC.2.2.2.1 hC.2.2.2.2.2.1 hP hD hS o (x_wk hs) h1 k h2 (hC.2.2.2.2.1 _ (x_mem h3 rfl)) (fun x h => by rw [← h4]; exact h) h8 (v := .int (x_I a)) h9 rfl rfl (by rw [List.length_mapIdx]; exact (List.getElem?_eq_some_iff.mp hf).1) hdg (fun H1 locs1 hP1 hD1 hS1 => ?_)
  have he1 : (x_w cI cZ ad sh μ).set o (ad o, .inr (ci, (fs.mapIdx (x_f ad (μ o))).set k (.int (x_I a)))) = x_w cI cZ ad sh (x_st μ o k a) := x_wset hs (fun b hb => by funext j; simp [x_st, hb]) (x_e_put hf)
  rw [he1] at hP1 hD1
  exact kk p l e R s m args below meth c D cI cZ ad A H1 locs1 cells slots ls Z hC hP1 hD1 hS1 hA hE hl hk
theorem x_putZ {o k ci cp : Nat} {fs : List (Option Nat)} {a : Int} (hx : x_pk y.cls cp ci k .boolean) (hdg : decode cc pc = .ok (.putfield cp, 3)) (hs : sh[o]? = some (.inr (ci, fs))) (hf : fs[k]? = some none) (ha : a = 0 ∨ a = 1) (kk : X E sh d y cc nL ret (pc + 3) lv st (x_st μ o k a) Q) : X E sh d y cc nL ret pc lv (.inl a :: .inr (.inl o) :: st) μ Q := by
  intro p l e R s m args below meth c D cI cZ ad A H locs cells slots ls Z hC hP hD hS hA hE hl hk
  obtain ⟨C, T, N, ty0, ⟨h1, h2, h3, h4, h5, h6, h7⟩, h8, h9⟩ := hx
  refine va_put hC.1 hC.2.1 hC.2.2.2.2.1 (x_lay h5) ty0 h6 h7 hC.2.2.2.1 hC.2.2.2.2.2.1 hP hD hS o (x_wk hs) h1 k h2 (hC.2.2.2.2.1 _ (x_mem h3 rfl)) (fun x h => by rw [← h4]; exact h) h8 (v := .int (x_I a)) h9 (by rcases ha with rfl | rfl <;> decide) (by rcases ha with rfl | rfl <;> decide) (by rw [List.length_mapIdx]; exact (List.getElem?_eq_some_iff.mp hf).1) hdg (fun H1 locs1 hP1 hD1 hS1 => ?_)
  have he1 : (x_w cI cZ ad sh μ).set o (ad o, .inr (ci, (fs.mapIdx (x_f ad (μ o))).set k (.int (x_I a)))) = x_w cI cZ ad sh (x_st μ o k a) := x_wset hs (fun b hb => by funext j; simp [x_st, hb]) (x_e_put hf)
  rw [he1] at hP1 hD1
  exact kk p l e R s m args below meth c D cI cZ ad A H1 locs1 cells slots ls Z hC hP1 hD1 hS1 hA hE hl hk
theorem x_iald {o n : Nat} {i : Int} (hdg : decode cc pc = .ok (.iaload, 1)) (hs : sh[o]? = some (.inl (n, false))) (hn : n < 2147483648) (h0 : 0 ≤ i) (h1 : i < n) (kk : X E sh d y cc nL ret (pc + 1) lv (.inl (μ o i.toNat) :: st) μ Q) : X E sh d y cc nL ret pc lv (.inl i :: .inr (.inl o) :: st) μ Q := by
  intro p l e R s m args below meth c D cI cZ ad A H locs cells slots ls Z hC hP hD hS hA hE hl hk
  refine va_iald hC.1 hC.2.1 hC.2.2.2.2.2.1 hP o 0 (x_wk hs) rfl (x_vpin h0 h1 hn) hdg ?_
  rw [x_cl h0 ⟨by omega, by omega⟩]
  exact kk p l e R s m args below meth c D cI cZ ad A H locs cells slots ls Z hC hP hD hS hA hE hl hk
theorem x_zald {o n : Nat} {i : Int} (hdg : decode cc pc = .ok (.baload, 1)) (hs : sh[o]? = some (.inl (n, true))) (hn : n < 2147483648) (h0 : 0 ≤ i) (h1 : i < n) (kk : X E sh d y cc nL ret (pc + 1) lv (.inl (μ o i.toNat) :: st) μ Q) : X E sh d y cc nL ret pc lv (.inl i :: .inr (.inl o) :: st) μ Q := by
  intro p l e R s m args below meth c D cI cZ ad A H locs cells slots ls Z hC hP hD hS hA hE hl hk
  refine va_zald hC.1 hC.2.1 hC.2.2.2.2.2.1 hP o 1 (x_wk hs) rfl (x_vpin h0 h1 hn) hdg ?_
  rw [x_cl h0 ⟨by omega, by omega⟩]
  exact kk p l e R s m args below meth c D cI cZ ad A H locs cells slots ls Z hC hP hD hS hA hE hl hk
theorem x_iast {o n : Nat} {i a : Int} (hdg : decode cc pc = .ok (.iastore, 1)) (hs : sh[o]? = some (.inl (n, false))) (hn : n < 2147483648) (h0 : 0 ≤ i) (h1 : i < n) (kk : X E sh d y cc nL ret (pc + 1) lv st (x_st μ o i.toNat a) Q) : X E sh d y cc nL ret pc lv (.inl a :: .inl i :: .inr (.inl o) :: st) μ Q := by
  intro p l e R s m args below meth c D cI cZ ad A H locs cells slots ls Z hC hP hD hS hA hE hl hk
  refine va_iast hC.1 hC.2.1 hC.2.2.2.2.2.1 hP hD hS o 0 (x_wk hs) rfl (x_vpin h0 h1 hn) hdg (fun H1 locs1 hP1 hD1 hS1 => ?_)
  rw [x_cl h0 ⟨by omega, by omega⟩] at hP1 hD1
  have he1 := x_wset (cI := cI) (cZ := cZ) (ad := ad) (μ := μ) (μ' := x_st μ o i.toNat a) hs (fun b hb => by funext j; simp [x_st, hb]) (e := .inl ((if false = true then cZ else cI), n, .inl (upd (fun j => x_I (μ o j)) i.toNat (x_I a)))) (by
    simp only [x_e]
    congr 4
    funext j
    simp only [x_st, upd, if_true]
    split <;> rfl)
  rw [he1] at hP1 hD1
  exact kk p l e R s m args below meth c D cI cZ ad A H1 locs1 cells slots ls Z hC hP1 hD1 hS1 hA hE hl hk
theorem x_zast {o n : Nat} {i a : Int} (hdg : decode cc pc = .ok (.bastore, 1)) (hs : sh[o]? = some (.inl (n, true))) (hn : n < 2147483648) (h0 : 0 ≤ i) (h1 : i < n) (ha : a = 0 ∨ a = 1) (kk : X E sh d y cc nL ret (pc + 1) lv st (x_st μ o i.toNat a) Q) : X E sh d y cc nL ret pc lv (.inl a :: .inl i :: .inr (.inl o) :: st) μ Q := by
  intro p l e R s m args below meth c D cI cZ ad A H locs cells slots ls Z hC hP hD hS hA hE hl hk
  refine va_zast hC.1 hC.2.1 hC.2.2.2.2.2.1 hP hD hS o 1 (x_wk hs) rfl (x_vpin h0 h1 hn) hdg (fun H1 locs1 hP1 hD1 hS1 => ?_)
  rw [x_cl h0 ⟨by omega, by omega⟩] at hP1 hD1
  have hnar : vp_nar .boolean (x_I a) = x_I a := by
    rcases ha with rfl | rfl <;> decide
  rw [hnar] at hP1 hD1
  have he1 := x_wset (cI := cI) (cZ := cZ) (ad := ad) (μ := μ) (μ' := x_st μ o i.toNat a) hs (fun b hb => by funext j; simp [x_st, hb]) (e := .inl ((if true = true then cZ else cI), n, .inl (upd (fun j => x_I (μ o j)) i.toNat (x_I a)))) (by
    simp only [x_e]
    congr 4
    funext j
    simp only [x_st, upd, if_true]
    split <;> rfl)
  rw [he1] at hP1 hD1
  exact kk p l e R s m args below meth c D cI cZ ad A H1 locs1 cells slots ls Z hC hP1 hD1 hS1 hA hE hl hk
theorem x_alen {o n : Nat} {z : Bool} (hdg : decode cc pc = .ok (.arraylength, 1)) (hs : sh[o]? = some (.inl (n, z))) (kk : X E sh d y cc nL ret (pc + 1) lv (.inl (n : Int) :: st) μ Q) : X E sh d y cc nL ret pc lv (.inr (.inl o) :: st) μ Q := by
  intro p l e R s m args below meth c D cI cZ ad A H locs cells slots ls Z hC hP hD hS hA hE hl hk
  refine va_alen (v := x_I (n : Int)) (t0 := if z = true then 1 else 0) hC.1 hC.2.1 hC.2.2.2.2.2.1 hP o (x_wk hs) (ty := if z = true then .boolean else .int) (by cases z <;> rfl) (by show Int32.ofNat n = Int32.ofInt (n : Int); exact (Int32.ofInt_eq_ofNat).symm) hdg (kk p l e R s m args below meth c D cI cZ ad A H locs cells slots ls Z hC hP hD hS hA hE hl hk)
theorem x_roald {o n : Nat} {f : Nat → Int} {i : Int} (hdg : decode cc pc = .ok (.iaload, 1)) (hs : E.1[o]? = some (n, f)) (hn : n < 2147483648) (h0 : 0 ≤ i) (h1 : i < n) (kk : X E sh d y cc nL ret (pc + 1) lv (.inl (f i.toNat) :: st) μ Q) : X E sh d y cc nL ret pc lv (.inl i :: .inr (.inl (1000 + o)) :: st) μ Q := by
  intro p l e R s m args below meth c D cI cZ ad A H locs cells slots ls Z hC hP hD hS hA hE hl hk
  obtain ⟨cell, g1, g2, g3, g4, g5, g6⟩ := hE.1 o n f hs
  have hlt : (x_I i).toNatClampNeg < n := by rw [x_cl h0 ⟨by omega, by omega⟩]; omega
  refine W.iald (v := .int (x_I (f i.toNat))) hC.1 hC.2.1 (by rw [hS.2.1 _ (Array.getElem?_eq_some_iff.mp g1).1 g6]; exact g1) g2 g3 (fun q => x_vpin h0 h1 hn (q.imp id (fun w => Nat.le_trans g4.1 w))) (by rw [← x_cl h0 ⟨by omega, by omega⟩]; exact g5 _ hlt) rfl rfl hdg (kk p l e R s m args below meth c D cI cZ ad A H locs cells slots ls Z hC hP hD hS hA hE hl hk)
theorem x_roalen {o n : Nat} {f : Nat → Int} (hdg : decode cc pc = .ok (.arraylength, 1)) (hs : E.1[o]? = some (n, f)) (kk : X E sh d y cc nL ret (pc + 1) lv (.inl (n : Int) :: st) μ Q) : X E sh d y cc nL ret pc lv (.inr (.inl (1000 + o)) :: st) μ Q := by
  intro p l e R s m args below meth c D cI cZ ad A H locs cells slots ls Z hC hP hD hS hA hE hl hk
  obtain ⟨cell, g1, g2, g3, g4, g5, g6⟩ := hE.1 o n f hs
  refine W.alen (n := x_I (n : Int)) hC.1 hC.2.1 (by rw [hS.2.1 _ (Array.getElem?_eq_some_iff.mp g1).1 g6]; exact g1) g2 (by rw [g4.2]; show Int32.ofNat n = Int32.ofInt (n : Int); exact (Int32.ofInt_eq_ofNat).symm) rfl rfl hdg (kk p l e R s m args below meth c D cI cZ ad A H locs cells slots ls Z hC hP hD hS hA hE hl hk)
theorem x_gets {i cp r : Nat} {C n dd : String} (hdg : decode cc pc = .ok (.getstatic cp, 3)) (hs : E.2[i]? = some (C, n, dd, r)) (hw : Cond.fieldLink y.cls cp C n dd ∈ lw_tbl) (kk : X E sh d y cc nL ret (pc + 3) lv (.inr (.inl r) :: st) μ Q) : X E sh d y cc nL ret pc lv st μ Q := by
  intro p l e R s m args below meth c D cI cZ ad A H locs cells slots ls Z hC hP hD hS hA hE hl hk
  exact va_gets (v := .ref (ad r)) hC.1 hC.2.1 (hE.2 i _ hs).1 hS hC.2.2.2.1 (hC.2.2.2.2.1 _ (x_mem hw rfl)) (fun x h => h) hdg (kk p l e R s m args below meth c D cI cZ ad A H locs cells slots ls Z hC hP hD hS hA hE hl hk)
theorem x_iret {a : Int} {ty : FieldType} (hdg : decode cc pc = .ok (.ireturn, 1)) (hr : ret = some ty) (hn : narrow ty (.int (x_I a)) = .int (x_I a)) (hq : Q (some (.inl a)) μ) : X E sh d y cc nL ret pc lv [.inl a] μ Q := by
  intro p l e R s m args below meth c D cI cZ ad A H locs cells slots ls Z hC hP hD hS hA hE hl hk
  exact hk (some (.inl a)) μ H locs ls pc hq hP hD hS ⟨hdg, a, ty, rfl, hr, hn⟩
theorem x_vret (hdg : decode cc pc = .ok (.return_, 1)) (hr : ret = none) (hq : Q none μ) : X E sh d y cc nL ret pc lv [] μ Q := by
  intro p l e R s m args below meth c D cI cZ ad A H locs cells slots ls Z hC hP hD hS hA hE hl hk
  exact hk none μ H locs ls pc hq hP hD hS ⟨hdg, hr⟩
theorem x_narZ {a : Int} (ha : a = 0 ∨ a = 1) : narrow .boolean (.int (x_I a)) = .int (x_I a) := by
  rcases ha with rfl | rfl <;> decide
theorem x_mmax {a b : Int} {cp : Nat} (hw : Cond.methodLink y.cls cp Lib.Math.max.name ∈ lw_tbl) (hdg : decode cc pc = .ok (.invokestatic cp, 3)) (hd : 1 ≤ d) (hr : ((st.map (x_v (fun k => k))).map fun v => v.category).sum ≤ 8) (ha : x_in a) (hb : x_in b) (kk : X E sh d y cc nL ret (pc + 3) lv (.inl (max a b) :: st) μ Q) : X E sh d y cc nL ret pc lv (.inl b :: .inl a :: st) μ Q := by
  intro p l e R s m args below meth c D cI cZ ad A H locs cells slots ls Z hC hP hD hS hA hE hl hk
  have hcat : (((st.map (x_v ad)).map fun v => v.category).sum) = (((st.map (x_v (fun k => k))).map fun v => v.category).sum) := by
    simp only [List.map_map]
    congr 2
    funext v
    rcases v with a | r | l <;> rfl
  have hx7 := hC.2.2.2.2.2.2.1
  refine va_mmax hC.1 hC.2.1 (by rw [hC.2.2.1]; exact hl.1.1.symm) hC.2.2.2.1 (hC.2.2.2.2.1 _ (x_mem hw rfl)) (hC.2.2.2.2.1 _ (x_mem ms_max rfl)) (hC.2.2.2.2.1 _ (x_mem in_Math rfl)) (hC.2.2.2.2.1 _ (x_mem mc_max rfl)) (by omega) (by rw [hcat]; omega) hC.2.2.2.2.2.2.2.1 hC.2.2.2.2.2.2.2.2 hdg ?_
  have he : (if x_I a < x_I b then x_I b else x_I a) = x_I (max a b) := by
    by_cases h : a < b
    · rw [if_pos ((x_lt ha hb).2 h)]
      congr 1
      omega
    · rw [if_neg (fun q => h ((x_lt ha hb).1 q))]
      congr 1
      omega
  rw [he]
  exact kk p l e R s m args below meth c D cI cZ ad A H locs cells slots ls Z hC hP hD hS hA hE hl hk
theorem x_mmin {a b : Int} {cp : Nat} (hw : Cond.methodLink y.cls cp Lib.Math.min.name ∈ lw_tbl) (hdg : decode cc pc = .ok (.invokestatic cp, 3)) (hd : 1 ≤ d) (hr : ((st.map (x_v (fun k => k))).map fun v => v.category).sum ≤ 8) (ha : x_in a) (hb : x_in b) (kk : X E sh d y cc nL ret (pc + 3) lv (.inl (min a b) :: st) μ Q) : X E sh d y cc nL ret pc lv (.inl b :: .inl a :: st) μ Q := by
  intro p l e R s m args below meth c D cI cZ ad A H locs cells slots ls Z hC hP hD hS hA hE hl hk
  have hcat : (((st.map (x_v ad)).map fun v => v.category).sum) = (((st.map (x_v (fun k => k))).map fun v => v.category).sum) := by
    simp only [List.map_map]
    congr 2
    funext v
    rcases v with a | r | l <;> rfl
  have hx7 := hC.2.2.2.2.2.2.1
  refine va_mmin hC.1 hC.2.1 (by rw [hC.2.2.1]; exact hl.1.1.symm) hC.2.2.2.1 (hC.2.2.2.2.1 _ (x_mem hw rfl)) (hC.2.2.2.2.1 _ (x_mem ms_min rfl)) (hC.2.2.2.2.1 _ (x_mem in_Math rfl)) (hC.2.2.2.2.1 _ (x_mem mc_min rfl)) (by omega) (by rw [hcat]; omega) hC.2.2.2.2.2.2.2.1 hC.2.2.2.2.2.2.2.2 hdg ?_
  have he : (if x_I b < x_I a then x_I b else x_I a) = x_I (min a b) := by
    by_cases h : b < a
    · rw [if_pos ((x_lt hb ha).2 h)]
      congr 1
      omega
    · rw [if_neg (fun q => h ((x_lt hb ha).1 q))]
      congr 1
      omega
  rw [he]
  exact kk p l e R s m args below meth c D cI cZ ad A H locs cells slots ls Z hC hP hD hS hA hE hl hk
theorem x_acopy {o1 o2 n1 n2 : Nat} {sp dp n : Int} {cp : Nat} (hw : Cond.methodLink y.cls cp arraycopyName ∈ lw_tbl) (hdg : decode cc pc = .ok (.invokestatic cp, 3)) (hd : 1 ≤ d) (hr : ((st.map (x_v (fun k => k))).map fun v => v.category).sum ≤ 8) (hs1 : sh[o1]? = some (.inl (n1, false))) (hs2 : sh[o2]? = some (.inl (n2, false))) (h1 : 0 ≤ sp) (h2 : 0 ≤ dp) (h3 : 0 ≤ n) (h4 : sp + n ≤ n1) (h5 : dp + n ≤ n2) (hn1 : n1 < 2147483648) (hn2 : n2 < 2147483648)
    (kk : X E sh d y cc nL ret (pc + 3) lv st (fun a => if a = o2 then va_cpy (μ o1) (μ o2) sp.toNat dp.toNat n.toNat else μ a) Q) : X E sh d y cc nL ret pc lv (.inl n :: .inl dp :: .inr (.inl o2) :: .inl sp :: .inr (.inl o1) :: st) μ Q := by
  intro p l e R s m args below meth c D cI cZ ad A H locs cells slots ls Z hC hP hD hS hA hE hl hk
  have hcat : (((st.map (x_v ad)).map fun v => v.category).sum) = (((st.map (x_v (fun k => k))).map fun v => v.category).sum) := by
    simp only [List.map_map]
    congr 2
    funext v
    rcases v with a | r | l <;> rfl
  have hx7 := hC.2.2.2.2.2.2.1
  have i1 : x_in sp := ⟨by omega, by omega⟩
  have i2 : x_in dp := ⟨by omega, by omega⟩
  have i3 : x_in n := ⟨by omega, by omega⟩
  have ng : ∀ z : Int, 0 ≤ z → x_in z → ¬ x_I z < 0 := by
    intro z hz hi h
    rw [← x_zero, x_lt hi x_in0] at h
    omega
  have hnat : nativeFrameWords "java/lang/System" "arraycopy" 5 = 7 := by decide +kernel
  refine va_copyi (ty := .int) (t0 := 0) (t1 := 0) hC.1 hC.2.1 (by rw [hC.2.2.1]; exact hl.1.1.symm) hC.2.2.2.1 (hC.2.2.2.2.1 _ (x_mem hw rfl)) (hC.2.2.2.2.1 _ (x_mem nat_arraycopy rfl)) (hC.2.2.2.2.1 _ (x_mem ms_arraycopy rfl)) (hC.2.2.2.2.1 _ (x_mem in_System rfl)) hC.2.2.2.2.2.1 hP hD hS o1 o2 (x_wk hs1) (x_wk hs2) rfl rfl rfl (ng _ h1 i1) (ng _ h2 i2) (ng _ h3 i3) (by rw [x_cl h1 i1, x_cl h3 i3]; omega) (by rw [x_cl h2 i2, x_cl h3 i3]; omega) (fun i _ => rfl) (by omega) (by rw [hcat, hnat]; omega) hdg (fun H1 locs1 hP1 hD1 hS1 => ?_)
  rw [x_cl h1 i1, x_cl h2 i2, x_cl h3 i3] at hP1 hD1
  have he1 := x_wset (cI := cI) (cZ := cZ) (ad := ad) (μ := μ) (μ' := fun a => if a = o2 then va_cpy (μ o1) (μ o2) sp.toNat dp.toNat n.toNat else μ a) hs2 (fun b hb => by simp [hb]) (e := .inl ((if false = true then cZ else cI), n2, .inl (va_cpy (fun j => x_I (μ o1 j)) (fun j => x_I (μ o2 j)) sp.toNat dp.toNat n.toNat))) (by
    simp only [x_e]
    congr 4
    funext j
    simp only [va_cpy, if_true]
    split <;> rfl)
  rw [he1] at hP1 hD1
  exact kk p l e R s m args below meth c D cI cZ ad A H1 locs1 cells slots ls Z hC hP1 hD1 hS1 hA hE hl hk
end XR
