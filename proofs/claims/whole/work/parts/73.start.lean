/-! THE CLAIM OUT OF ONE WALK OF THE LAW'S BODY. Your part is whole_start (and what it stands on); all else here is the same for every law, but numbers. -/
def R_law : String := "PushedUpLaw"
def lw_P (b : Addr) (xs : List Int32) (args : Array Value) (s : State) : Prop := args = #[.ref b] ∧ s.IntsAt b xs ∧ xs.length ≤ 2048 ∧ (Jvm.Cond.and given_1 narrow_1).before args s = true
def lw_Q (_ : Array Value) (s : State) (o : Outcome) (t : State) : Prop := o = .returned (some (.int 1)) ∧ Framed s o t [] 600000 7302250
def lw_Z (below : List Frame) (a : Array Value) (s : State) : State → Prop := fun t => ∃ o, t.status = .running ∧ Ended t below o ∧ lw_Q a s o t
/-- the law's own end, with 1 on the stack, nothing written that was there before, its room as the claim has it -/
theorem lw_ret {p : Program} {l : Launch} {e : Env} {s : State} {m : MethodId} {below : List Frame} {meth : Method} {c : Code} {b : Nat} (hx : p.tables.exec = Jvm.exec) (hb : c.code = code) (hr : meth.sig.returnType = ret) (hlocks : meth.locks = false) {pc : Nat} {H : Heap} {ls : Array Slot} (hdg : decode code pc = .ok (.ireturn, 1)) : W p l e room_1 s m #[Value.ref b] below meth c H [] 600000 7302250 (lw_Z below #[Value.ref b] s) (F0 m pc ls [.int 1]) := by
  intro T hT X
  obtain ⟨fs, hret, hrun, hended, hW, hframe⟩ := X.leave (v := some (.int 1)) (hlocks := hlocks) (fun h => by rw [hr] at h; cases h)
  have hmeth' : T.vm.method? m = some meth := X.method'
  refine ⟨T.setFrames fs, ?_, .returned (some (.int 1)), hrun, hended, rfl, ⟨_, rfl⟩, hW, hframe⟩
  jvm_step X.here [X.here.top, hx, hb, hdg, hmeth', hr, ret, narrow_b1]
  (try refine ⟨rfl, ?_⟩); (try refine ⟨rfl, ?_⟩)
  first | (intro acts; rw [hret _ acts rfl rfl rfl]) | rw [hret _ _ rfl rfl rfl]
  exact Steps.refl _
/-- what holds at the law's entry: the machine, the code, the tables' words (any of lw_tbl by 'hts w (by decide +kernel)'), the script of L ints xs at the cell b, what the Statement gives of the start (any of its parts by flat_of_before) -/
def lw_At (p : Program) (s : State) (m : MethodId) (meth : Method) (c : Code) (b L : Nat) (xs : Nat → Int32) : Prop :=
  p.tables.exec = Jvm.exec ∧ c.code = code ∧ meth.sig.returnType = ret ∧ c.maxLocals = 4 ∧ s.vm.findClass R_law = some m.cls ∧ (∀ w ∈ lw_tbl, w.before #[Value.ref b] s = true) ∧ va_X b L xs s s.heap ∧ b < s.heap.size ∧ meth.locks = false ∧ (Jvm.Cond.and given_1 narrow_1).before #[Value.ref b] s = true
/-! THE LAW: the start -/
def MU0 : xM := fun k => if k < 51 then mu_C k else mu_M (k - 51)
abbrev AD0 (ad1 ad2 : Nat → Nat) (tl tm b : Nat) : Nat → Nat := fun k => if k < 51 then ad1 k else if k < 64 then ad2 (k - 51) else if k = 1000 then tl else if k = 1001 then tm else b
set_option maxRecDepth 100000 in
set_option maxHeartbeats 4000000 in
theorem e_L (cI cZ : ClassId) (ad1 ad2 : Nat → Nat) (tl tm b : Nat) : x_wr cI cZ ad1 mu_C 0 shC ++ x_wr cI cZ ad2 mu_M 0 shM = x_wr cI cZ (AD0 ad1 ad2 tl tm b) MU0 0 shL := by
  rfl
theorem setM_z {j : Nat} (h : 10 ≤ j ∨ j < 4) : setM j = 0 := by
  unfold setM
  rw [if_neg (by omega), if_neg (by omega), if_neg (by omega), if_neg (by omega), if_neg (by omega), if_neg (by omega)]
theorem MU0_c {k : Nat} (hk : k < 51) (h1 : k ≠ 17) (h2 : k ≠ 33) (h3 : k ≠ 40) (j : Nat) : MU0 k j = 0 := by
  unfold MU0
  rw [if_pos hk]
  unfold mu_C
  rw [if_neg h1, if_neg h2, if_neg h3]
theorem NM0_z {k : Nat} (hk : k ≠ 2) (j : Nat) : NM MU0 k j = 0 := by
  unfold NM
  split
  · show (if 51 + k < 51 then mu_C (51 + k) else mu_M (51 + k - 51)) j = 0
    rw [if_neg (by omega), show 51 + k - 51 = k by omega]
    exact if_neg hk
  · rfl
theorem NM0_2 : NM MU0 2 = setM := rfl
theorem hOf0 : hOf MU0 12 = setM := by
  funext j
  unfold hOf
  split
  · rename_i q; rw [q]; rfl
  · split
    · rename_i q; rw [q]; rfl
    · split
      · rename_i q; rw [q]; rfl
      · split
        · rename_i q; rw [q]; rfl
        · split
          · rename_i q1 q2 q3 q4 q5
            rcases (show j = 4 ∨ j = 5 ∨ j = 6 ∨ j = 7 ∨ j = 8 ∨ j = 9 ∨ j = 10 ∨ j = 11 ∨ j = 12 by omega) with rfl | rfl | rfl | rfl | rfl | rfl | rfl | rfl | rfl <;> rfl
          · rw [setM_z (by omega)]
            split
            · split
              · exact MU0_c (by decide) (by decide) (by decide) (by decide) _
              · exact MU0_c (by decide) (by decide) (by decide) (by decide) _
            · split
              · split
                · exact MU0_c (by decide) (by decide) (by decide) (by decide) _
                · exact MU0_c (by decide) (by decide) (by decide) (by decide) _
              · split
                · exact MU0_c (by decide) (by decide) (by decide) (by decide) _
                · rfl
theorem MI0 : MI setM := by
  refine ⟨by decide, by decide, by decide, by decide, by decide, by decide, by decide, by decide, by decide, by decide, by decide, by decide, by decide, fun p p0 p5 => ?_, fun t t0 t8 => ?_, fun k k0 k8 => ?_⟩
  · rw [setM_z (by omega), setM_z (by omega)]; decide
  · rw [setM_z (by omega), setM_z (by omega)]; decide
  · rw [setM_z (by omega)]; decide
theorem LR_0 : LR MU0 := by
  refine ⟨⟨?_, fun j hj => ⟨?_, NM0_z (by decide) j, NM0_z (by decide) j, NM0_z (by decide) j⟩, ?_, fun k _ _ => ?_, ?_, fun k _ _ => ?_, Or.inl (NM0_z (by decide) 4)⟩, ?_, fun q => ?_, ?_, ?_, fun q => ?_, ?_, ?_, ?_, ?_, ?_⟩
  · rw [NM0_2]; exact MI0
  · rw [NM0_2]; exact setM_z (by omega)
  · rw [NM0_z (by decide) 7]; decide
  · rw [NM0_z (by decide) k.toNat]; decide
  · rw [NM0_z (by decide) 22]; decide
  · rw [NM0_z (by decide) k.toNat]; decide
  · rw [NM0_2]
    intro i j hij hj
    rw [setM_z (by decide)] at hj
    omega
  · rw [NM0_z (by decide) 4] at q
    exact absurd q (by decide)
  · rw [NM0_2]; exact hOf0
  · rw [NM0_z (by decide) 4]; exact MU0_c (by decide) (by decide) (by decide) (by decide) 5
  · rw [NM0_z (by decide) 4] at q
    exact absurd q (by decide)
  · rw [NM0_z (by decide) 7]; exact MU0_c (by decide) (by decide) (by decide) (by decide) 0
  · funext j; rw [NM0_z (by decide) j]; exact MU0_c (by decide) (by decide) (by decide) (by decide) j
  · rw [NM0_z (by decide) 22]; exact MU0_c (by decide) (by decide) (by decide) (by decide) 0
  · funext j; rw [NM0_z (by decide) j]; exact MU0_c (by decide) (by decide) (by decide) (by decide) j
  · funext j; rw [NM0_z (by decide) j]; exact MU0_c (by decide) (by decide) (by decide) (by decide) j
theorem ls_least : Cond.laysStatic "PushedUp" "LEAST_SETTING" "[I" ∈ lw_tbl := List.mem_of_getElem? (i := 411) (by decide +kernel)
theorem ls_most : Cond.laysStatic "PushedUp" "MOST_SETTING" "[I" ∈ lw_tbl := List.mem_of_getElem? (i := 413) (by decide +kernel)
theorem st_least {s : State} {b : Nat} (hts0 : ∀ w ∈ lw_tbl, w.before #[Value.ref b] s = true) (hgv : (Jvm.Cond.and given_1 narrow_1).before #[Value.ref b] s = true) : ∃ t : Nat, va_Z "PushedUp" "LEAST_SETTING" "[I" (.ref t) (fun q : Nat => s.heap.size ≤ q) s s.heap ∧ va_T .int t 9 (fun j => .int (x_I (mLeast (j : Int)))) (fun q : Nat => s.heap.size ≤ q) s s.heap := by
  have hflat := flat_of_before _ hgv
  have hA : ∀ a : Nat, a < s.heap.size → ¬ (fun q : Nat => s.heap.size ≤ q) a := fun a h => Nat.not_le.mpr h
  obtain ⟨t, h1, h2⟩ := va_Tof (args := #[Value.ref b]) (s := s) (tm := (Term.static "PushedUp" "LEAST_SETTING" "[I")) (ty := .int) (N := 9) (f := fun j => .int (x_I (mLeast (j : Int)))) (A := fun q : Nat => s.heap.size ≤ q) (by decide) (hflat _ (by decide +kernel)) (va_eqt (hflat (Cond.eq (Term.length (Term.static "PushedUp" "LEAST_SETTING" "[I")) (.int 9)) (by decide +kernel))) (fun j hj => by
    have h0 := va_eqt (hflat (Cond.eq (Term.elem (Term.static "PushedUp" "LEAST_SETTING" "[I") (.int 0)) (.int 1)) (by decide +kernel))
    have h1 := va_eqt (hflat (Cond.eq (Term.elem (Term.static "PushedUp" "LEAST_SETTING" "[I") (.int 1)) (.int 1)) (by decide +kernel))
    have h2 := va_eqt (hflat (Cond.eq (Term.elem (Term.static "PushedUp" "LEAST_SETTING" "[I") (.int 2)) (.int 0)) (by decide +kernel))
    have h3 := va_eqt (hflat (Cond.eq (Term.elem (Term.static "PushedUp" "LEAST_SETTING" "[I") (.int 3)) (.int 0)) (by decide +kernel))
    have h4 := va_eqt (hflat (Cond.eq (Term.elem (Term.static "PushedUp" "LEAST_SETTING" "[I") (.int 4)) (.int 0)) (by decide +kernel))
    have h5 := va_eqt (hflat (Cond.eq (Term.elem (Term.static "PushedUp" "LEAST_SETTING" "[I") (.int 5)) (.int 1)) (by decide +kernel))
    have h6 := va_eqt (hflat (Cond.eq (Term.elem (Term.static "PushedUp" "LEAST_SETTING" "[I") (.int 6)) (.int 0)) (by decide +kernel))
    have h7 := va_eqt (hflat (Cond.eq (Term.elem (Term.static "PushedUp" "LEAST_SETTING" "[I") (.int 7)) (.int 0)) (by decide +kernel))
    have h8 := va_eqt (hflat (Cond.eq (Term.elem (Term.static "PushedUp" "LEAST_SETTING" "[I") (.int 8)) (.int 0)) (by decide +kernel))
    rcases (show j = 0 ∨ j = 1 ∨ j = 2 ∨ j = 3 ∨ j = 4 ∨ j = 5 ∨ j = 6 ∨ j = 7 ∨ j = 8 by omega) with rfl | rfl | rfl | rfl | rfl | rfl | rfl | rfl | rfl
    · exact h0
    · exact h1
    · exact h2
    · exact h3
    · exact h4
    · exact h5
    · exact h6
    · exact h7
    · exact h8) hA
  exact ⟨t, va_Zref (hts0 _ ls_least) (hts0 _ in_RX5) h1 hA, h2⟩
theorem st_most {s : State} {b : Nat} (hts0 : ∀ w ∈ lw_tbl, w.before #[Value.ref b] s = true) (hgv : (Jvm.Cond.and given_1 narrow_1).before #[Value.ref b] s = true) : ∃ t : Nat, va_Z "PushedUp" "MOST_SETTING" "[I" (.ref t) (fun q : Nat => s.heap.size ≤ q) s s.heap ∧ va_T .int t 9 (fun j => .int (x_I (mMost (j : Int)))) (fun q : Nat => s.heap.size ≤ q) s s.heap := by
  have hflat := flat_of_before _ hgv
  have hA : ∀ a : Nat, a < s.heap.size → ¬ (fun q : Nat => s.heap.size ≤ q) a := fun a h => Nat.not_le.mpr h
  obtain ⟨t, h1, h2⟩ := va_Tof (args := #[Value.ref b]) (s := s) (tm := (Term.static "PushedUp" "MOST_SETTING" "[I")) (ty := .int) (N := 9) (f := fun j => .int (x_I (mMost (j : Int)))) (A := fun q : Nat => s.heap.size ≤ q) (by decide) (hflat _ (by decide +kernel)) (va_eqt (hflat (Cond.eq (Term.length (Term.static "PushedUp" "MOST_SETTING" "[I")) (.int 9)) (by decide +kernel))) (fun j hj => by
    have h0 := va_eqt (hflat (Cond.eq (Term.elem (Term.static "PushedUp" "MOST_SETTING" "[I") (.int 0)) (.int 999)) (by decide +kernel))
    have h1 := va_eqt (hflat (Cond.eq (Term.elem (Term.static "PushedUp" "MOST_SETTING" "[I") (.int 1)) (.int 999)) (by decide +kernel))
    have h2 := va_eqt (hflat (Cond.eq (Term.elem (Term.static "PushedUp" "MOST_SETTING" "[I") (.int 2)) (.int 90)) (by decide +kernel))
    have h3 := va_eqt (hflat (Cond.eq (Term.elem (Term.static "PushedUp" "MOST_SETTING" "[I") (.int 3)) (.int 20)) (by decide +kernel))
    have h4 := va_eqt (hflat (Cond.eq (Term.elem (Term.static "PushedUp" "MOST_SETTING" "[I") (.int 4)) (.int 20)) (by decide +kernel))
    have h5 := va_eqt (hflat (Cond.eq (Term.elem (Term.static "PushedUp" "MOST_SETTING" "[I") (.int 5)) (.int 60)) (by decide +kernel))
    have h6 := va_eqt (hflat (Cond.eq (Term.elem (Term.static "PushedUp" "MOST_SETTING" "[I") (.int 6)) (.int 1)) (by decide +kernel))
    have h7 := va_eqt (hflat (Cond.eq (Term.elem (Term.static "PushedUp" "MOST_SETTING" "[I") (.int 7)) (.int 3)) (by decide +kernel))
    have h8 := va_eqt (hflat (Cond.eq (Term.elem (Term.static "PushedUp" "MOST_SETTING" "[I") (.int 8)) (.int 1)) (by decide +kernel))
    rcases (show j = 0 ∨ j = 1 ∨ j = 2 ∨ j = 3 ∨ j = 4 ∨ j = 5 ∨ j = 6 ∨ j = 7 ∨ j = 8 by omega) with rfl | rfl | rfl | rfl | rfl | rfl | rfl | rfl | rfl
    · exact h0
    · exact h1
    · exact h2
    · exact h3
    · exact h4
    · exact h5
    · exact h6
    · exact h7
    · exact h8) hA
  exact ⟨t, va_Zref (hts0 _ ls_most) (hts0 _ in_RX5) h1 hA, h2⟩
theorem ro_of {ad : Nat → Nat} {A : Nat → Prop} {s : State} {t i : Nat} {f : Nat → Int} {N : Nat} (e : ad i = t) (h : va_T .int t N (fun j => .int (x_I (f j))) A s s.heap) : x_ro ad A s i N f := by
  obtain ⟨cell, h1, h2, h3, h4, h5, h6, h7⟩ := h
  exact ⟨cell, by rw [e]; exact h1, h2, h3, ⟨h4, h5⟩, h6, by rw [e]; exact h7⟩
set_option maxHeartbeats 4000000 in
set_option maxRecDepth 100000 in
/-- THE LAW, from its entry -/
theorem whole_start {p : Program} {e : Env} {s : State} {m : MethodId} {below : List Frame} {meth : Method} {c : Code} (l : Launch) (hflags : l.flags = flags0) {b L : Nat} {xs : Nat → Int32} (hL : L ≤ 2048) (C0 : lw_At p s m meth c b L xs) : W p l e room_1 s m #[Value.ref b] below meth c s.heap [] 0 0 (lw_Z below #[Value.ref b] s) (entryFrame m ([Value.ref b] : List Value).toArray 4) := by
  obtain ⟨hx, hb, hr, hml, hown, hts0, hX, hbl, hlocks, hgv⟩ := id C0
  have hown : s.vm.findClass RL = some m.cls := hown
  have hts : ∀ w ∈ x_tbl, w.before #[Value.ref b] s = true := fun w h => hts0 w (List.mem_filter.mp h).1
  have hA : ∀ q : Nat, s.heap.size ≤ q → (fun q : Nat => s.heap.size ≤ q) q := fun _ h => h
  obtain ⟨c0, iS0, hKn0⟩ := u_known (C := RX0) (T := TX0) (N := 6) (n := 6) hts0 inX0 (hts0 _ it_RX0)
  obtain ⟨c1, iS1, hKn1⟩ := u_known (C := RX1) (T := TX1) (N := 10) (n := 10) hts0 inX1 (hts0 _ it_RX1)
  obtain ⟨c2, iS2, hKn2⟩ := u_known (C := RX2) (T := TX2) (N := 6) (n := 6) hts0 inX2 (hts0 _ it_RX2)
  obtain ⟨c3, iS3, hKn3⟩ := u_known (C := RX3) (T := TX3) (N := 7) (n := 7) hts0 inX3 (hts0 _ it_RX3)
  obtain ⟨c4, iS4, hKn4⟩ := u_known (C := RX4) (T := TX4) (N := 15) (n := 15) hts0 inX4 (hts0 _ it_RX4)
  obtain ⟨c5, iS5, hKn5⟩ := u_known (C := RX5) (T := TX5) (N := 10) (n := 10) hts0 inX5 (hts0 _ it_RX5)
  obtain ⟨c6, iS6, hKn6⟩ := u_known (C := RX6) (T := TX6) (N := 23) (n := 23) hts0 inX6 (hts0 _ it_RX6)
  obtain ⟨D, hKc⟩ : ∃ D : va_G, ∀ (k : Nat) (q : vw_C), vwCl[k]? = some q → u_Kn s q.1 q.2.1 q.2.2 (D.1 k) (D.2 k) := by
    refine ⟨(fun k => match k with | 0 => c0 | 1 => c1 | 2 => c2 | 3 => c3 | 4 => c4 | 5 => c5 | _ => c6, fun k => match k with | 0 => iS0 | 1 => iS1 | 2 => iS2 | 3 => iS3 | 4 => iS4 | 5 => iS5 | _ => iS6), ?_⟩
    intro k q hq
    match k, hq with
    | 0, hq => cases hq; exact hKn0
    | 1, hq => cases hq; exact hKn1
    | 2, hq => cases hq; exact hKn2
    | 3, hq => cases hq; exact hKn3
    | 4, hq => cases hq; exact hKn4
    | 5, hq => cases hq; exact hKn5
    | 6, hq => cases hq; exact hKn6
    | k + 7, hq => simp [vwCl] at hq
  obtain ⟨cI, kI, compI, fI, gI, jI⟩ := Cond.arrayClass_spec (hts0 _ ac_int)
  obtain ⟨cZ, kZ, compZ, fZ, gZ, jZ⟩ := Cond.arrayClass_spec (hts0 _ ac_boolean)
  have hK : va_K D vwCl [(cI, .int), (cZ, .boolean)] s := by
    refine ⟨hKc, fun k q hq => ?_⟩
    match k, hq with
    | 0, hq => cases hq; exact ⟨fun n z => ⟨fun k h => (by cases h), kI, gI, compI, jI⟩, fI⟩
    | 1, hq => cases hq; exact ⟨fun n z => ⟨fun k h => (by cases h), kZ, gZ, compZ, jZ⟩, fZ⟩
    | k + 2, hq => simp at hq
  have hS : va_S (fun q : Nat => s.heap.size ≤ q) s.heap s.heap [] := va_S.rf
  have hP : va_P D vwCl [] s.heap := fun k q h => by simp at h
  have hD : va_D (fun q : Nat => s.heap.size ≤ q) [] := ⟨fun i j p q h => by simp at h, fun k q h => by simp at h⟩
  obtain ⟨tl, hZl, hTl⟩ := st_least hts0 hgv
  obtain ⟨tm, hZm, hTm⟩ := st_most hts0 hgv
  have hl := lv_entry ([.ref b]) (n := 4) (Nat.le_of_ble_eq_true rfl)
  rw [lg_entry_eq]
  generalize (lg_sl ([.ref b]) ++ List.replicate (4 - (lg_sl ([.ref b])).length) Slot.unset).toArray = ls at hl ⊢
  have hl : lv_has ls 4 [(0, .ref b)] := hl
  refine y_mk (nL := 4) hx hb hml hown hts hK hP hD hS hA inX5 tyX5_ok cl_RL_7 it_RX5 in_RX5 rfl hz_5 y_X5_init lk_RL_9 mi_X5_init mc_X5_init rfl rfl ⟨by decide, by decide, by decide +kernel⟩ ⟨(Nat.le_of_ble_eq_true rfl), (Nat.le_of_ble_eq_true rfl)⟩ (Nat.le_of_ble_eq_true rfl) (Nat.le_of_ble_eq_true rfl) hl.1 (lv_room (Nat.le_of_ble_eq_true rfl)) (Nat.le_of_ble_eq_true rfl) dL_law_0 dL_law_3 dL_law_4 (fun ad1 H locs hP hD hS => ?_)
  rw [List.nil_append] at hP hD
  refine lv_astore_n (lv' := [(1, .ref (ad1 0)), (0, .ref b)]) hx hb dL_law_7 rfl hl (by decide) rfl (fun ls hl => ?_)
  refine y_mk (nL := 4) hx hb hml hown hts hK hP hD hS hA inX6 tyX6_ok cl_RL_10 it_RX6 in_RX6 rfl hz_6 y_X6_init lk_RL_12 mi_X6_init mc_X6_init rfl rfl ⟨by decide, by decide, by decide +kernel⟩ ⟨(Nat.le_of_ble_eq_true rfl), (Nat.le_of_ble_eq_true rfl)⟩ (Nat.le_of_ble_eq_true rfl) (Nat.le_of_ble_eq_true rfl) hl.1 (lv_room (Nat.le_of_ble_eq_true rfl)) (by rw [x_wlen]; decide) dL_law_8 dL_law_11 dL_law_12 (fun ad2 H locs hP hD hS => ?_)
  refine lv_astore_n (lv' := [(2, .ref (ad2 0)), (1, .ref (ad1 0)), (0, .ref b)]) hx hb dL_law_15 rfl hl (by decide) rfl (fun ls hl => ?_)
  refine lv_iconst (v := x_I 0) hx hb dL_law_16 rfl ?_
  refine lv_istore_n (lv' := [(3, .int (x_I 0)), (2, .ref (ad2 0)), (1, .ref (ad1 0)), (0, .ref b)]) hx hb dL_law_17 rfl hl (by decide) rfl (fun ls hl => ?_)
  rw [x_w_eq, x_w_eq, e_L cI cZ ad1 ad2 tl tm b, ← x_w_eq] at hP hD
  have hloop := w_loop L (fun j => (xs j).toInt) hL (fun j => x_inI _) (L + 5) 0 MU0 (by decide) (by omega) (by omega) LR_0
  obtain ⟨scr, q1, q2, q3, q4, q5⟩ := hX
  have hE : x_Ev (EL L (fun j => (xs j).toInt)) (AD0 ad1 ad2 tl tm b) (fun q : Nat => s.heap.size ≤ q) s := by
    refine ⟨fun i n f hi => ?_, fun i q hi => ?_⟩
    · match i, hi with
      | 0, hi => cases hi; exact ro_of rfl hTl
      | 1, hi => cases hi; exact ro_of rfl hTm
      | 2, hi => cases hi; exact ⟨scr, q1, q2, q3, ⟨Nat.le_of_eq q4.symm, congrArg Nat.toInt32 q4⟩, fun j hj => by rw [q5 j hj, x_ofInt], Nat.not_le.mpr hbl⟩
      | i + 3, hi => simp [EL] at hi
    · match i, hi with
      | 0, hi => cases hi; exact ⟨hZl, by decide⟩
      | 1, hi => cases hi; exact ⟨hZm, by decide⟩
      | i + 2, hi => simp [EL] at hi
  refine hloop p l e room_1 s m #[Value.ref b] below meth c D cI cZ (AD0 ad1 ad2 tl tm b) (fun q : Nat => s.heap.size ≤ q) H locs (0 + 1 + 50 + 1 + 12) (0 + 10 + 398 + 23 + 291) ls (lw_Z below #[Value.ref b] s) ⟨hx, hb, hml, hown, hts, hK, ⟨(Nat.le_of_ble_eq_true rfl), (Nat.le_of_ble_eq_true rfl)⟩, ⟨(Nat.le_of_ble_eq_true rfl), (Nat.le_of_ble_eq_true rfl)⟩⟩ hP hD hS hA hE ?_ ?_
  · refine ⟨⟨hl.1, hl.2.1, fun q hq => by cases hq⟩, fun i v hi => ?_⟩
    match i, hi with
    | 0, hi => cases hi; exact hl.2.2 (0, .ref b) (List.mem_of_getElem? (i := 3) rfl)
    | 1, hi => cases hi; exact hl.2.2 (1, .ref (ad1 0)) (List.mem_of_getElem? (i := 2) rfl)
    | 2, hi => cases hi; exact hl.2.2 (2, .ref (ad2 0)) (List.mem_of_getElem? (i := 1) rfl)
    | 3, hi => cases hi; exact hl.2.2 (3, .int (x_I 0)) (List.mem_of_getElem? (i := 0) rfl)
    | i + 4, hi => simp at hi
  · intro v μ' H' locs' ls' pc' hq hP' hD' hS' hret
    subst hq
    obtain ⟨hdg, -⟩ := hret
    show W p l e room_1 s m #[Value.ref b] below meth c H' locs' _ _ _ (F0 m pc' ls' [.int (x_I 1)])
    rw [show x_I 1 = (1 : Int32) by decide]
    refine va_forget (fun q hq => hS'.2.2 q hq) ?_
    refine W.widen (k := 600000) (n := 7302250) (Nat.le_of_ble_eq_true rfl) (Nat.le_of_ble_eq_true rfl) ?_
    exact lw_ret hx hb hr hlocks hdg
