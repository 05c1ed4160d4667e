/-! CONSTRUCTORS: PushedUp -/
theorem va_P_mem {D : va_G} {cl : List vw_C} {ws : va_W} {H : Heap} : va_P D cl ws H ↔ ∀ q ∈ ws, va_at D cl q H := by
  constructor
  · intro h q hq
    obtain ⟨i, hi⟩ := List.getElem?_of_mem hq
    exact h i q hi
  · intro h k q hk
    exact h q (List.mem_of_getElem? hk)
theorem va_P_perm {D : va_G} {cl : List vw_C} {ws ws' : va_W} {H : Heap} (hp : ws.Perm ws') (h : va_P D cl ws H) : va_P D cl ws' H := va_P_mem.2 (fun q hq => va_P_mem.1 h q (hp.mem_iff.2 hq))
theorem va_D_nd {A : Nat → Prop} {ws : va_W} : va_D A ws ↔ (ws.map Prod.fst).Nodup ∧ ∀ q ∈ ws, A q.1 := by
  constructor
  · intro h
    refine ⟨?_, fun q hq => ?_⟩
    · rw [List.Nodup, List.pairwise_iff_getElem]
      intro i j hi hj hij e
      simp only [List.length_map] at hi hj
      simp only [List.getElem_map] at e
      have := h.1 i j ws[i] ws[j] (List.getElem?_eq_getElem hi) (List.getElem?_eq_getElem hj) e
      omega
    · obtain ⟨i, hi⟩ := List.getElem?_of_mem hq
      exact h.2 i q hi
  · intro h
    refine ⟨fun i j p q hp hq e => ?_, fun k q hk => h.2 q (List.mem_of_getElem? hk)⟩
    have hi := (List.getElem?_eq_some_iff.mp hp).1
    have hj := (List.getElem?_eq_some_iff.mp hq).1
    have ep := (List.getElem?_eq_some_iff.mp hp).2
    have eq := (List.getElem?_eq_some_iff.mp hq).2
    have hn := h.1
    rw [List.Nodup, List.pairwise_iff_getElem] at hn
    rcases Nat.lt_trichotomy i j with r | r | r
    · exact absurd (by rw [List.getElem_map, List.getElem_map, ep, eq]; exact e) (hn i j (by simpa using hi) (by simpa using hj) r)
    · exact r
    · exact absurd (by rw [List.getElem_map, List.getElem_map, ep, eq]; exact e.symm) (hn j i (by simpa using hj) (by simpa using hi) r)
theorem va_D_perm {A : Nat → Prop} {ws ws' : va_W} (hp : ws.Perm ws') (h : va_D A ws) : va_D A ws' := by
  have h2 := va_D_nd.1 h
  exact va_D_nd.2 ⟨(hp.map Prod.fst).nodup_iff.1 h2.1, fun q hq => h2.2 q (hp.mem_iff.2 hq)⟩
set_option maxRecDepth 100000 in
set_option maxHeartbeats 4000000 in
theorem e_C (cI cZ : ClassId) (h0 b r : Nat) (ad1 ad2 ad3 ad4 ad5 : Nat → Nat) : (h0, .inr (5, [.ref (ad1 0), .ref (ad1 9), .ref (ad2 0), .ref (ad2 9), .ref (ad3 0), .int 0, .ref (ad4 0), .ref (ad5 0), .ref b, .ref r])) :: ([(b, .inl (cI, 8, .inl (fun _ => x_I 0))), (r, .inl (cI, 7, .inl (fun _ => x_I 0)))] ++ (x_wr cI cZ ad1 mu_Day 0 shDay ++ (x_wr cI cZ ad2 mu_Day 0 shDay ++ (x_wr cI cZ ad3 mu_Hill 0 shHill ++ (x_wr cI cZ ad4 mu_0 0 shTape ++ x_wr cI cZ ad5 mu_0 0 shRow))))) = x_wr cI cZ (fun k => if k < 3 then (if k = 0 then h0 else if k = 1 then b else r) else if k < 19 then ad1 (k - 3) else if k < 35 then ad2 (k - 19) else if k < 42 then ad3 (k - 35) else if k < 44 then ad4 (k - 42) else ad5 (k - 44)) mu_C 0 shC := by
  rfl
set_option maxRecDepth 100000 in
set_option maxHeartbeats 4000000 in
theorem y_X5_init : yCt yX5_init cX5_init 5 [.null, .null, .null, .null, .null, .int 0, .null, .null, .null, .null] shC mu_C 3 50 398 := by
  intro l D cI cZ h0 sz
  refine Met.ofW (cc := cX5_init) (maxL := 1) (ret := none) (by decide) rfl ?_
  intro p e s m args below meth c s₁ B hml hv
  obtain ⟨rfl, hsz, hP, hK, hD0⟩ := hv
  have hx := B.exec
  have hb := B.bytes
  have hr := B.returns
  have hts0 := atoms_spec (ws := Cond.code yX5_init cX5_init 1 none :: x_tbl) B.pre
  have hts : ∀ w ∈ x_tbl, w.before _ s = true := fun w h => hts0 w (List.mem_cons_of_mem _ h)
  have hown : s.vm.findClass RX5 = some m.cls := findClass_of_methodNamed B.named
  have hin : meth.name = "<init>" := (name_of_methodNamed B.named B.method).1
  subst hsz
  have hD := hD0.self (sz := s.heap.size)
  generalize hAe : va_A [(h0, .inr (5, [.null, .null, .null, .null, .null, .int 0, .null, .null, .null, .null]))] s.heap.size = A at hD ⊢
  have hA : ∀ q : Nat, s.heap.size ≤ q → A q := fun q h => by rw [← hAe]; exact Or.inr h
  have hS : va_S A s.heap s.heap [] := va_S.rf
  have hl := lv_entry ([.ref h0]) (n := 1) (Nat.le_of_ble_eq_true rfl)
  rw [lg_entry_eq]
  generalize (lg_sl ([.ref h0]) ++ List.replicate (1 - (lg_sl ([.ref h0])).length) Slot.unset).toArray = ls at hl ⊢
  have hl : lv_has ls 1 [(0, .ref h0)] := hl
  refine lv_aload_n hx hb dX5_init_0 rfl (lv_at hl 0 rfl) ?_
  refine W.objInit hx hb hown (hts _ (x_mem lk_RX5_1 rfl)) (hts _ (x_mem mi_objectInit rfl)) (hts _ (x_mem mc_objectInit rfl)) rfl (by rw [hml]; exact hl.1) rfl dX5_init_1 (Nat.le_of_ble_eq_true rfl) (Nat.le_of_ble_eq_true rfl) ?_
  refine W.eq (g2 := F0 m 4 ls []) rfl ?_
  refine lv_aload_n hx hb dX5_init_4 rfl (lv_at hl 0 rfl) ?_
  refine y_mk hx hb hml hown hts hK hP hD hS hA inX0 tyX0_ok cl_RX5_7 it_RX0 in_RX0 rfl hz_0 y_X0_init lk_RX5_9 mi_X0_init mc_X0_init rfl rfl ⟨by decide, by decide, by decide +kernel⟩ ⟨(Nat.le_of_ble_eq_true rfl), (Nat.le_of_ble_eq_true rfl)⟩ (Nat.le_of_ble_eq_true rfl) (Nat.le_of_ble_eq_true rfl) hl.1 (lv_room (Nat.le_of_ble_eq_true rfl)) (by simp) dX5_init_5 dX5_init_8 dX5_init_9 (fun ad1 H locs hP hD hS => ?_)
  obtain ⟨t1, ht1⟩ : ∃ t : va_W, t = x_w cI cZ ad1 shDay mu_Day := ⟨_, rfl⟩
  have hP : va_P D vwCl ((h0, .inr (5, [.null, .null, .null, .null, .null, .int 0, .null, .null, .null, .null])) :: t1) H := by rw [ht1]; exact hP
  have hD : va_D A ((h0, .inr (5, [.null, .null, .null, .null, .null, .int 0, .null, .null, .null, .null])) :: t1) := by rw [ht1]; exact hD
  have ht1 : t1 = x_w cI cZ ad1 shDay mu_Day := ht1
  refine va_putF (D := D) (ci := 5) (v := .ref (ad1 0)) (ty := tyX5 0) (C := RX5) (T := TX5) (N := 10) hx hb hts (x_lay inX5) tyX5 tyX5_ok nmX5 hown hK hP hD hS 0 rfl rfl 0 (by decide) (hts _ (x_mem fk_RX5_10 rfl)) (fun _ h9 => h9) rfl hin rfl (tyX5_ok 0 (by decide)) rfl rfl (Nat.le_of_ble_eq_true rfl) dX5_init_12 (fun H locs hP hD hS => ?_)
  have hP : va_P D vwCl ((h0, .inr (5, [.ref (ad1 0), .null, .null, .null, .null, .int 0, .null, .null, .null, .null])) :: t1) H := hP
  have hD : va_D A ((h0, .inr (5, [.ref (ad1 0), .null, .null, .null, .null, .int 0, .null, .null, .null, .null])) :: t1) := hD
  refine lv_aload_n hx hb dX5_init_15 rfl (lv_at hl 0 rfl) ?_
  refine lv_aload_n hx hb dX5_init_16 rfl (lv_at hl 0 rfl) ?_
  refine va_get (D := D) (ci := 5) (v := .ref (ad1 0)) (C := RX5) (T := TX5) (N := 10) hx hb hts (x_lay inX5) hown hK hP 0 rfl rfl 0 (by decide) (hts _ (x_mem fk_RX5_10 rfl)) (fun _ h9 => h9) rfl dX5_init_17 ?_
  have hg20 : ((h0, .inr (5, [.ref (ad1 0), .null, .null, .null, .null, .int 0, .null, .null, .null, .null])) :: t1)[1]? = some (ad1 0, .inr (0, [.ref (ad1 9), .ref (ad1 1), .int (x_I 0), .ref (ad1 4), .ref (ad1 2), .ref (ad1 3)])) := by rw [ht1]; simp only [x_w_eq]; rfl
  refine va_get (D := D) (ci := 0) (v := .ref (ad1 9)) (C := RX0) (T := TX0) (N := 6) hx hb hts (x_lay inX0) hown hK hP 1 hg20 rfl 0 (by decide) (hts _ (x_mem fk_RX5_16 rfl)) (fun _ h9 => h9) rfl dX5_init_20 ?_
  refine va_putF (D := D) (ci := 5) (v := .ref (ad1 9)) (ty := tyX5 1) (C := RX5) (T := TX5) (N := 10) hx hb hts (x_lay inX5) tyX5 tyX5_ok nmX5 hown hK hP hD hS 0 rfl rfl 1 (by decide) (hts _ (x_mem fk_RX5_20 rfl)) (fun _ h9 => h9) rfl hin rfl (tyX5_ok 1 (by decide)) rfl rfl (Nat.le_of_ble_eq_true rfl) dX5_init_23 (fun H locs hP hD hS => ?_)
  have hP : va_P D vwCl ((h0, .inr (5, [.ref (ad1 0), .ref (ad1 9), .null, .null, .null, .int 0, .null, .null, .null, .null])) :: t1) H := hP
  have hD : va_D A ((h0, .inr (5, [.ref (ad1 0), .ref (ad1 9), .null, .null, .null, .int 0, .null, .null, .null, .null])) :: t1) := hD
  refine lv_aload_n hx hb dX5_init_26 rfl (lv_at hl 0 rfl) ?_
  refine y_mk hx hb hml hown hts hK hP hD hS hA inX0 tyX0_ok cl_RX5_7 it_RX0 in_RX0 rfl hz_0 y_X0_init lk_RX5_9 mi_X0_init mc_X0_init rfl rfl ⟨by decide, by decide, by decide +kernel⟩ ⟨(Nat.le_of_ble_eq_true rfl), (Nat.le_of_ble_eq_true rfl)⟩ (Nat.le_of_ble_eq_true rfl) (Nat.le_of_ble_eq_true rfl) hl.1 (lv_room (Nat.le_of_ble_eq_true rfl)) (by simp [ht1, x_wlen]) dX5_init_27 dX5_init_30 dX5_init_31 (fun ad2 H locs hP hD hS => ?_)
  obtain ⟨t2, ht2⟩ : ∃ t : va_W, t = t1 ++ x_w cI cZ ad2 shDay mu_Day := ⟨_, rfl⟩
  have hP : va_P D vwCl ((h0, .inr (5, [.ref (ad1 0), .ref (ad1 9), .null, .null, .null, .int 0, .null, .null, .null, .null])) :: t2) H := by rw [ht2]; exact hP
  have hD : va_D A ((h0, .inr (5, [.ref (ad1 0), .ref (ad1 9), .null, .null, .null, .int 0, .null, .null, .null, .null])) :: t2) := by rw [ht2]; exact hD
  rw [ht1] at ht2
  have ht2 : t2 = (x_w cI cZ ad1 shDay mu_Day) ++ x_w cI cZ ad2 shDay mu_Day := ht2
  refine va_putF (D := D) (ci := 5) (v := .ref (ad2 0)) (ty := tyX5 2) (C := RX5) (T := TX5) (N := 10) hx hb hts (x_lay inX5) tyX5 tyX5_ok nmX5 hown hK hP hD hS 0 rfl rfl 2 (by decide) (hts _ (x_mem fk_RX5_21 rfl)) (fun _ h9 => h9) rfl hin rfl (tyX5_ok 2 (by decide)) rfl rfl (Nat.le_of_ble_eq_true rfl) dX5_init_34 (fun H locs hP hD hS => ?_)
  have hP : va_P D vwCl ((h0, .inr (5, [.ref (ad1 0), .ref (ad1 9), .ref (ad2 0), .null, .null, .int 0, .null, .null, .null, .null])) :: t2) H := hP
  have hD : va_D A ((h0, .inr (5, [.ref (ad1 0), .ref (ad1 9), .ref (ad2 0), .null, .null, .int 0, .null, .null, .null, .null])) :: t2) := hD
  refine lv_aload_n hx hb dX5_init_37 rfl (lv_at hl 0 rfl) ?_
  refine lv_aload_n hx hb dX5_init_38 rfl (lv_at hl 0 rfl) ?_
  refine va_get (D := D) (ci := 5) (v := .ref (ad2 0)) (C := RX5) (T := TX5) (N := 10) hx hb hts (x_lay inX5) hown hK hP 0 rfl rfl 2 (by decide) (hts _ (x_mem fk_RX5_21 rfl)) (fun _ h9 => h9) rfl dX5_init_39 ?_
  have hg42 : ((h0, .inr (5, [.ref (ad1 0), .ref (ad1 9), .ref (ad2 0), .null, .null, .int 0, .null, .null, .null, .null])) :: t2)[17]? = some (ad2 0, .inr (0, [.ref (ad2 9), .ref (ad2 1), .int (x_I 0), .ref (ad2 4), .ref (ad2 2), .ref (ad2 3)])) := by rw [ht2]; simp only [x_w_eq]; rfl
  refine va_get (D := D) (ci := 0) (v := .ref (ad2 9)) (C := RX0) (T := TX0) (N := 6) hx hb hts (x_lay inX0) hown hK hP 17 hg42 rfl 0 (by decide) (hts _ (x_mem fk_RX5_16 rfl)) (fun _ h9 => h9) rfl dX5_init_42 ?_
  refine va_putF (D := D) (ci := 5) (v := .ref (ad2 9)) (ty := tyX5 3) (C := RX5) (T := TX5) (N := 10) hx hb hts (x_lay inX5) tyX5 tyX5_ok nmX5 hown hK hP hD hS 0 rfl rfl 3 (by decide) (hts _ (x_mem fk_RX5_24 rfl)) (fun _ h9 => h9) rfl hin rfl (tyX5_ok 3 (by decide)) rfl rfl (Nat.le_of_ble_eq_true rfl) dX5_init_45 (fun H locs hP hD hS => ?_)
  have hP : va_P D vwCl ((h0, .inr (5, [.ref (ad1 0), .ref (ad1 9), .ref (ad2 0), .ref (ad2 9), .null, .int 0, .null, .null, .null, .null])) :: t2) H := hP
  have hD : va_D A ((h0, .inr (5, [.ref (ad1 0), .ref (ad1 9), .ref (ad2 0), .ref (ad2 9), .null, .int 0, .null, .null, .null, .null])) :: t2) := hD
  refine lv_aload_n hx hb dX5_init_48 rfl (lv_at hl 0 rfl) ?_
  refine y_mk hx hb hml hown hts hK hP hD hS hA inX1 tyX1_ok cl_RX5_27 it_RX1 in_RX1 rfl hz_1 y_X1_init lk_RX5_29 mi_X1_init mc_X1_init rfl rfl ⟨by decide, by decide, by decide +kernel⟩ ⟨(Nat.le_of_ble_eq_true rfl), (Nat.le_of_ble_eq_true rfl)⟩ (Nat.le_of_ble_eq_true rfl) (Nat.le_of_ble_eq_true rfl) hl.1 (lv_room (Nat.le_of_ble_eq_true rfl)) (by simp [ht2, x_wlen]) dX5_init_49 dX5_init_52 dX5_init_53 (fun ad3 H locs hP hD hS => ?_)
  obtain ⟨t3, ht3⟩ : ∃ t : va_W, t = t2 ++ x_w cI cZ ad3 shHill mu_Hill := ⟨_, rfl⟩
  have hP : va_P D vwCl ((h0, .inr (5, [.ref (ad1 0), .ref (ad1 9), .ref (ad2 0), .ref (ad2 9), .null, .int 0, .null, .null, .null, .null])) :: t3) H := by rw [ht3]; exact hP
  have hD : va_D A ((h0, .inr (5, [.ref (ad1 0), .ref (ad1 9), .ref (ad2 0), .ref (ad2 9), .null, .int 0, .null, .null, .null, .null])) :: t3) := by rw [ht3]; exact hD
  rw [ht2] at ht3
  have ht3 : t3 = ((x_w cI cZ ad1 shDay mu_Day) ++ x_w cI cZ ad2 shDay mu_Day) ++ x_w cI cZ ad3 shHill mu_Hill := ht3
  refine va_putF (D := D) (ci := 5) (v := .ref (ad3 0)) (ty := tyX5 4) (C := RX5) (T := TX5) (N := 10) hx hb hts (x_lay inX5) tyX5 tyX5_ok nmX5 hown hK hP hD hS 0 rfl rfl 4 (by decide) (hts _ (x_mem fk_RX5_30 rfl)) (fun _ h9 => h9) rfl hin rfl (tyX5_ok 4 (by decide)) rfl rfl (Nat.le_of_ble_eq_true rfl) dX5_init_56 (fun H locs hP hD hS => ?_)
  have hP : va_P D vwCl ((h0, .inr (5, [.ref (ad1 0), .ref (ad1 9), .ref (ad2 0), .ref (ad2 9), .ref (ad3 0), .int 0, .null, .null, .null, .null])) :: t3) H := hP
  have hD : va_D A ((h0, .inr (5, [.ref (ad1 0), .ref (ad1 9), .ref (ad2 0), .ref (ad2 9), .ref (ad3 0), .int 0, .null, .null, .null, .null])) :: t3) := hD
  refine lv_aload_n hx hb dX5_init_59 rfl (lv_at hl 0 rfl) ?_
  refine y_mk hx hb hml hown hts hK hP hD hS hA inX3 tyX3_ok cl_RX5_33 it_RX3 in_RX3 rfl hz_3 y_X3_init lk_RX5_35 mi_X3_init mc_X3_init rfl rfl ⟨by decide, by decide, by decide +kernel⟩ ⟨(Nat.le_of_ble_eq_true rfl), (Nat.le_of_ble_eq_true rfl)⟩ (Nat.le_of_ble_eq_true rfl) (Nat.le_of_ble_eq_true rfl) hl.1 (lv_room (Nat.le_of_ble_eq_true rfl)) (by simp [ht3, x_wlen]) dX5_init_60 dX5_init_63 dX5_init_64 (fun ad4 H locs hP hD hS => ?_)
  obtain ⟨t4, ht4⟩ : ∃ t : va_W, t = t3 ++ x_w cI cZ ad4 shTape mu_0 := ⟨_, rfl⟩
  have hP : va_P D vwCl ((h0, .inr (5, [.ref (ad1 0), .ref (ad1 9), .ref (ad2 0), .ref (ad2 9), .ref (ad3 0), .int 0, .null, .null, .null, .null])) :: t4) H := by rw [ht4]; exact hP
  have hD : va_D A ((h0, .inr (5, [.ref (ad1 0), .ref (ad1 9), .ref (ad2 0), .ref (ad2 9), .ref (ad3 0), .int 0, .null, .null, .null, .null])) :: t4) := by rw [ht4]; exact hD
  rw [ht3] at ht4
  have ht4 : t4 = (((x_w cI cZ ad1 shDay mu_Day) ++ x_w cI cZ ad2 shDay mu_Day) ++ x_w cI cZ ad3 shHill mu_Hill) ++ x_w cI cZ ad4 shTape mu_0 := ht4
  refine va_putF (D := D) (ci := 5) (v := .ref (ad4 0)) (ty := tyX5 6) (C := RX5) (T := TX5) (N := 10) hx hb hts (x_lay inX5) tyX5 tyX5_ok nmX5 hown hK hP hD hS 0 rfl rfl 6 (by decide) (hts _ (x_mem fk_RX5_36 rfl)) (fun _ h9 => h9) rfl hin rfl (tyX5_ok 6 (by decide)) rfl rfl (Nat.le_of_ble_eq_true rfl) dX5_init_67 (fun H locs hP hD hS => ?_)
  have hP : va_P D vwCl ((h0, .inr (5, [.ref (ad1 0), .ref (ad1 9), .ref (ad2 0), .ref (ad2 9), .ref (ad3 0), .int 0, .ref (ad4 0), .null, .null, .null])) :: t4) H := hP
  have hD : va_D A ((h0, .inr (5, [.ref (ad1 0), .ref (ad1 9), .ref (ad2 0), .ref (ad2 9), .ref (ad3 0), .int 0, .ref (ad4 0), .null, .null, .null])) :: t4) := hD
  refine lv_aload_n hx hb dX5_init_70 rfl (lv_at hl 0 rfl) ?_
  refine y_mk hx hb hml hown hts hK hP hD hS hA inX2 tyX2_ok cl_RX5_40 it_RX2 in_RX2 rfl hz_2 y_X2_init lk_RX5_42 mi_X2_init mc_X2_init rfl rfl ⟨by decide, by decide, by decide +kernel⟩ ⟨(Nat.le_of_ble_eq_true rfl), (Nat.le_of_ble_eq_true rfl)⟩ (Nat.le_of_ble_eq_true rfl) (Nat.le_of_ble_eq_true rfl) hl.1 (lv_room (Nat.le_of_ble_eq_true rfl)) (by simp [ht4, x_wlen]) dX5_init_71 dX5_init_74 dX5_init_75 (fun ad5 H locs hP hD hS => ?_)
  obtain ⟨t5, ht5⟩ : ∃ t : va_W, t = t4 ++ x_w cI cZ ad5 shRow mu_0 := ⟨_, rfl⟩
  have hP : va_P D vwCl ((h0, .inr (5, [.ref (ad1 0), .ref (ad1 9), .ref (ad2 0), .ref (ad2 9), .ref (ad3 0), .int 0, .ref (ad4 0), .null, .null, .null])) :: t5) H := by rw [ht5]; exact hP
  have hD : va_D A ((h0, .inr (5, [.ref (ad1 0), .ref (ad1 9), .ref (ad2 0), .ref (ad2 9), .ref (ad3 0), .int 0, .ref (ad4 0), .null, .null, .null])) :: t5) := by rw [ht5]; exact hD
  rw [ht4] at ht5
  have ht5 : t5 = ((((x_w cI cZ ad1 shDay mu_Day) ++ x_w cI cZ ad2 shDay mu_Day) ++ x_w cI cZ ad3 shHill mu_Hill) ++ x_w cI cZ ad4 shTape mu_0) ++ x_w cI cZ ad5 shRow mu_0 := ht5
  refine va_putF (D := D) (ci := 5) (v := .ref (ad5 0)) (ty := tyX5 7) (C := RX5) (T := TX5) (N := 10) hx hb hts (x_lay inX5) tyX5 tyX5_ok nmX5 hown hK hP hD hS 0 rfl rfl 7 (by decide) (hts _ (x_mem fk_RX5_43 rfl)) (fun _ h9 => h9) rfl hin rfl (tyX5_ok 7 (by decide)) rfl rfl (Nat.le_of_ble_eq_true rfl) dX5_init_78 (fun H locs hP hD hS => ?_)
  have hP : va_P D vwCl ((h0, .inr (5, [.ref (ad1 0), .ref (ad1 9), .ref (ad2 0), .ref (ad2 9), .ref (ad3 0), .int 0, .ref (ad4 0), .ref (ad5 0), .null, .null])) :: t5) H := hP
  have hD : va_D A ((h0, .inr (5, [.ref (ad1 0), .ref (ad1 9), .ref (ad2 0), .ref (ad2 9), .ref (ad3 0), .int 0, .ref (ad4 0), .ref (ad5 0), .null, .null])) :: t5) := hD
  refine lv_aload_n hx hb dX5_init_81 rfl (lv_at hl 0 rfl) ?_
  refine lv_bipush (v := x_I 8) hx hb dX5_init_82 (by decide) ?_
  refine y_newi hx hb hts hK hP hD hS hA (n := x_I 8) (N' := 8) (by decide +kernel) (by decide +kernel) (Nat.le_of_ble_eq_true rfl) (Nat.le_of_ble_eq_true rfl) (Nat.le_of_ble_eq_true rfl) dX5_init_84 (fun q1 H hP hD hS => ?_)
  obtain ⟨t6, ht6⟩ : ∃ t : va_W, t = t5 ++ [(q1, .inl (cI, 8, .inl (fun _ => x_I 0)))] := ⟨_, rfl⟩
  have hP : va_P D vwCl ((h0, .inr (5, [.ref (ad1 0), .ref (ad1 9), .ref (ad2 0), .ref (ad2 9), .ref (ad3 0), .int 0, .ref (ad4 0), .ref (ad5 0), .null, .null])) :: t6) H := by rw [ht6]; exact hP
  have hD : va_D A ((h0, .inr (5, [.ref (ad1 0), .ref (ad1 9), .ref (ad2 0), .ref (ad2 9), .ref (ad3 0), .int 0, .ref (ad4 0), .ref (ad5 0), .null, .null])) :: t6) := by rw [ht6]; exact hD
  rw [ht5] at ht6
  have ht6 : t6 = (((((x_w cI cZ ad1 shDay mu_Day) ++ x_w cI cZ ad2 shDay mu_Day) ++ x_w cI cZ ad3 shHill mu_Hill) ++ x_w cI cZ ad4 shTape mu_0) ++ x_w cI cZ ad5 shRow mu_0) ++ [(q1, .inl (cI, 8, .inl (fun _ => x_I 0)))] := ht6
  refine va_putF (D := D) (ci := 5) (v := .ref q1) (ty := tyX5 8) (C := RX5) (T := TX5) (N := 10) hx hb hts (x_lay inX5) tyX5 tyX5_ok nmX5 hown hK hP hD hS 0 rfl rfl 8 (by decide) (hts _ (x_mem fk_RX5_47 rfl)) (fun _ h9 => h9) rfl hin rfl (tyX5_ok 8 (by decide)) rfl rfl (Nat.le_of_ble_eq_true rfl) dX5_init_86 (fun H locs hP hD hS => ?_)
  have hP : va_P D vwCl ((h0, .inr (5, [.ref (ad1 0), .ref (ad1 9), .ref (ad2 0), .ref (ad2 9), .ref (ad3 0), .int 0, .ref (ad4 0), .ref (ad5 0), .ref q1, .null])) :: t6) H := hP
  have hD : va_D A ((h0, .inr (5, [.ref (ad1 0), .ref (ad1 9), .ref (ad2 0), .ref (ad2 9), .ref (ad3 0), .int 0, .ref (ad4 0), .ref (ad5 0), .ref q1, .null])) :: t6) := hD
  refine lv_aload_n hx hb dX5_init_89 rfl (lv_at hl 0 rfl) ?_
  refine lv_bipush (v := x_I 7) hx hb dX5_init_90 (by decide) ?_
  refine y_newi hx hb hts hK hP hD hS hA (n := x_I 7) (N' := 7) (by decide +kernel) (by decide +kernel) (Nat.le_of_ble_eq_true rfl) (Nat.le_of_ble_eq_true rfl) (Nat.le_of_ble_eq_true rfl) dX5_init_92 (fun q2 H hP hD hS => ?_)
  obtain ⟨t7, ht7⟩ : ∃ t : va_W, t = t6 ++ [(q2, .inl (cI, 7, .inl (fun _ => x_I 0)))] := ⟨_, rfl⟩
  have hP : va_P D vwCl ((h0, .inr (5, [.ref (ad1 0), .ref (ad1 9), .ref (ad2 0), .ref (ad2 9), .ref (ad3 0), .int 0, .ref (ad4 0), .ref (ad5 0), .ref q1, .null])) :: t7) H := by rw [ht7]; exact hP
  have hD : va_D A ((h0, .inr (5, [.ref (ad1 0), .ref (ad1 9), .ref (ad2 0), .ref (ad2 9), .ref (ad3 0), .int 0, .ref (ad4 0), .ref (ad5 0), .ref q1, .null])) :: t7) := by rw [ht7]; exact hD
  rw [ht6] at ht7
  have ht7 : t7 = (((((x_w cI cZ ad1 shDay mu_Day) ++ x_w cI cZ ad2 shDay mu_Day) ++ x_w cI cZ ad3 shHill mu_Hill) ++ x_w cI cZ ad4 shTape mu_0) ++ x_w cI cZ ad5 shRow mu_0) ++ [(q1, .inl (cI, 8, .inl (fun _ => x_I 0))), (q2, .inl (cI, 7, .inl (fun _ => x_I 0)))] := by
    rw [ht7]
    simp only [List.append_assoc, List.cons_append, List.nil_append]
  refine va_putF (D := D) (ci := 5) (v := .ref q2) (ty := tyX5 9) (C := RX5) (T := TX5) (N := 10) hx hb hts (x_lay inX5) tyX5 tyX5_ok nmX5 hown hK hP hD hS 0 rfl rfl 9 (by decide) (hts _ (x_mem fk_RX5_51 rfl)) (fun _ h9 => h9) rfl hin rfl (tyX5_ok 9 (by decide)) rfl rfl (Nat.le_of_ble_eq_true rfl) dX5_init_94 (fun H locs hP hD hS => ?_)
  have hP : va_P D vwCl ((h0, .inr (5, [.ref (ad1 0), .ref (ad1 9), .ref (ad2 0), .ref (ad2 9), .ref (ad3 0), .int 0, .ref (ad4 0), .ref (ad5 0), .ref q1, .ref q2])) :: t7) H := hP
  have hD : va_D A ((h0, .inr (5, [.ref (ad1 0), .ref (ad1 9), .ref (ad2 0), .ref (ad2 9), .ref (ad3 0), .int 0, .ref (ad4 0), .ref (ad5 0), .ref q1, .ref q2])) :: t7) := hD
  rw [ht7] at hP hD
  refine W.widen (k := 50) (n := 398) (Nat.le_of_ble_eq_true rfl) (Nat.le_of_ble_eq_true rfl) ?_
  simp only [x_w_eq] at hP hD
  obtain ⟨AD, hAD⟩ : ∃ f : Nat → Nat, f = (fun k => ([h0, q1, q2, ad1 0, ad1 1, ad1 2, ad1 3, ad1 4, ad1 5, ad1 6, ad1 7, ad1 8, ad1 9, ad1 10, ad1 11, ad1 12, ad1 13, ad1 14, ad1 15, ad2 0, ad2 1, ad2 2, ad2 3, ad2 4, ad2 5, ad2 6, ad2 7, ad2 8, ad2 9, ad2 10, ad2 11, ad2 12, ad2 13, ad2 14, ad2 15, ad3 0, ad3 1, ad3 2, ad3 3, ad3 4, ad3 5, ad3 6, ad4 0, ad4 1, ad5 0, ad5 1, ad5 2, ad5 3, ad5 4, ad5 5, ad5 6] : List Nat).getD k 0) := ⟨_, rfl⟩
  have hP9 := hP.sub (ws' := x_wr cI cZ AD mu_C 0 shC) [0, 49, 50, 1, 2, 3, 4, 5, 6, 7, 8, 9, 10, 11, 12, 13, 14, 15, 16, 17, 18, 19, 20, 21, 22, 23, 24, 25, 26, 27, 28, 29, 30, 31, 32, 33, 34, 35, 36, 37, 38, 39, 40, 41, 42, 43, 44, 45, 46, 47, 48] (by rw [hAD]; rfl)
  have hD9 := hD.sub (ws' := x_wr cI cZ AD mu_C 0 shC) [0, 49, 50, 1, 2, 3, 4, 5, 6, 7, 8, 9, 10, 11, 12, 13, 14, 15, 16, 17, 18, 19, 20, 21, 22, 23, 24, 25, 26, 27, 28, 29, 30, 31, 32, 33, 34, 35, 36, 37, 38, 39, 40, 41, 42, 43, 44, 45, 46, 47, 48] (by decide) (by rw [hAD]; rfl)
  rw [← x_w_eq] at hP9 hD9
  have hA0 : AD 0 = h0 := by rw [hAD]; rfl
  exact W.vret hx hb hr (fun t ht hW => ⟨⟨AD, rfl, hA0, by rw [ht]; exact hP9, hD9⟩, hS.F ht⟩) hS.2.2 dX5_init_97
