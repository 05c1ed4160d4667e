/-! CONSTRUCTORS: Row, Day -/
set_option maxRecDepth 100000 in
set_option maxHeartbeats 4000000 in
theorem y_X2_init : yCt yX2_init cX2_init 2 [.int 0, .int 0, .int 0, .null, .null, .int 0] shRow mu_0 2 6 45 := by
  intro l D cI cZ h0 sz
  refine Met.ofW (cc := cX2_init) (maxL := 1) (ret := none) (by decide) rfl ?_
  intro p e s m args below meth c s₁ B hml hv
  obtain ⟨rfl, hsz, hP, hK, hD0⟩ := hv
  have hx := B.exec
  have hb := B.bytes
  have hr := B.returns
  have hts0 := atoms_spec (ws := Cond.code yX2_init cX2_init 1 none :: x_tbl) B.pre
  have hts : ∀ w ∈ x_tbl, w.before _ s = true := fun w h => hts0 w (List.mem_cons_of_mem _ h)
  have hown : s.vm.findClass RX2 = some m.cls := findClass_of_methodNamed B.named
  have hin : meth.name = "<init>" := (name_of_methodNamed B.named B.method).1
  subst hsz
  have hD := hD0.self (sz := s.heap.size)
  generalize hAe : va_A [(h0, .inr (2, [.int 0, .int 0, .int 0, .null, .null, .int 0]))] s.heap.size = A at hD ⊢
  have hA : ∀ q : Nat, s.heap.size ≤ q → A q := fun q h => by rw [← hAe]; exact Or.inr h
  have hS : va_S A s.heap s.heap [] := va_S.rf
  have hl := lv_entry ([.ref h0]) (n := 1) (Nat.le_of_ble_eq_true rfl)
  rw [lg_entry_eq]
  generalize (lg_sl ([.ref h0]) ++ List.replicate (1 - (lg_sl ([.ref h0])).length) Slot.unset).toArray = ls at hl ⊢
  have hl : lv_has ls 1 [(0, .ref h0)] := hl
  refine lv_aload_n hx hb dX2_init_0 rfl (lv_at hl 0 rfl) ?_
  refine W.objInit hx hb hown (hts _ (x_mem lk_RX2_3 rfl)) (hts _ (x_mem mi_objectInit rfl)) (hts _ (x_mem mc_objectInit rfl)) rfl (by rw [hml]; exact hl.1) rfl dX2_init_1 (Nat.le_of_ble_eq_true rfl) (Nat.le_of_ble_eq_true rfl) ?_
  refine W.eq (g2 := F0 m 4 ls []) rfl ?_
  refine lv_aload_n hx hb dX2_init_4 rfl (lv_at hl 0 rfl) ?_
  refine y_mk hx hb hml hown hts hK hP hD hS hA inX4 tyX4_ok cl_RX2_9 it_RX4 in_RX4 rfl hz_4 y_X4_init lk_RX2_11 mi_X4_init mc_X4_init rfl rfl ⟨by decide, by decide, by decide +kernel⟩ ⟨(Nat.le_of_ble_eq_true rfl), (Nat.le_of_ble_eq_true rfl)⟩ (Nat.le_of_ble_eq_true rfl) (Nat.le_of_ble_eq_true rfl) hl.1 (lv_room (Nat.le_of_ble_eq_true rfl)) (by simp) dX2_init_5 dX2_init_8 dX2_init_9 (fun ad1 H locs hP hD hS => ?_)
  obtain ⟨t1, ht1⟩ : ∃ t : va_W, t = x_w cI cZ ad1 shTr mu_0 := ⟨_, rfl⟩
  have hP : va_P D vwCl ((h0, .inr (2, [.int 0, .int 0, .int 0, .null, .null, .int 0])) :: t1) H := by rw [ht1]; exact hP
  have hD : va_D A ((h0, .inr (2, [.int 0, .int 0, .int 0, .null, .null, .int 0])) :: t1) := by rw [ht1]; exact hD
  have ht1 : t1 = x_w cI cZ ad1 shTr mu_0 := ht1
  refine va_putF (D := D) (ci := 2) (v := .ref (ad1 0)) (ty := tyX2 3) (C := RX2) (T := TX2) (N := 6) hx hb hts (x_lay inX2) tyX2 tyX2_ok nmX2 hown hK hP hD hS 0 rfl rfl 3 (by decide) (hts _ (x_mem fk_RX2_12 rfl)) (fun _ h9 => h9) rfl hin rfl (tyX2_ok 3 (by decide)) rfl rfl (Nat.le_of_ble_eq_true rfl) dX2_init_12 (fun H locs hP hD hS => ?_)
  have hP : va_P D vwCl ((h0, .inr (2, [.int 0, .int 0, .int 0, .ref (ad1 0), .null, .int 0])) :: t1) H := hP
  have hD : va_D A ((h0, .inr (2, [.int 0, .int 0, .int 0, .ref (ad1 0), .null, .int 0])) :: t1) := hD
  refine lv_aload_n hx hb dX2_init_15 rfl (lv_at hl 0 rfl) ?_
  refine lv_bipush (v := x_I 16) hx hb dX2_init_16 (by decide) ?_
  refine y_newi hx hb hts hK hP hD hS hA (n := x_I 16) (N' := 16) (by decide +kernel) (by decide +kernel) (Nat.le_of_ble_eq_true rfl) (Nat.le_of_ble_eq_true rfl) (Nat.le_of_ble_eq_true rfl) dX2_init_18 (fun q1 H hP hD hS => ?_)
  obtain ⟨t2, ht2⟩ : ∃ t : va_W, t = t1 ++ [(q1, .inl (cI, 16, .inl (fun _ => x_I 0)))] := ⟨_, rfl⟩
  have hP : va_P D vwCl ((h0, .inr (2, [.int 0, .int 0, .int 0, .ref (ad1 0), .null, .int 0])) :: t2) H := by rw [ht2]; exact hP
  have hD : va_D A ((h0, .inr (2, [.int 0, .int 0, .int 0, .ref (ad1 0), .null, .int 0])) :: t2) := by rw [ht2]; exact hD
  rw [ht1] at ht2
  have ht2 : t2 = (x_w cI cZ ad1 shTr mu_0) ++ [(q1, .inl (cI, 16, .inl (fun _ => x_I 0)))] := ht2
  refine va_putF (D := D) (ci := 2) (v := .ref q1) (ty := tyX2 4) (C := RX2) (T := TX2) (N := 6) hx hb hts (x_lay inX2) tyX2 tyX2_ok nmX2 hown hK hP hD hS 0 rfl rfl 4 (by decide) (hts _ (x_mem fk_RX2_18 rfl)) (fun _ h9 => h9) rfl hin rfl (tyX2_ok 4 (by decide)) rfl rfl (Nat.le_of_ble_eq_true rfl) dX2_init_20 (fun H locs hP hD hS => ?_)
  have hP : va_P D vwCl ((h0, .inr (2, [.int 0, .int 0, .int 0, .ref (ad1 0), .ref q1, .int 0])) :: t2) H := hP
  have hD : va_D A ((h0, .inr (2, [.int 0, .int 0, .int 0, .ref (ad1 0), .ref q1, .int 0])) :: t2) := hD
  rw [ht2] at hP hD
  refine W.widen (k := 6) (n := 45) (Nat.le_of_ble_eq_true rfl) (Nat.le_of_ble_eq_true rfl) ?_
  simp only [x_w_eq] at hP hD
  obtain ⟨AD, hAD⟩ : ∃ f : Nat → Nat, f = (fun k => ([h0, q1, ad1 0, ad1 1, ad1 2, ad1 3, ad1 4] : List Nat).getD k 0) := ⟨_, rfl⟩
  have hP9 := hP.sub (ws' := x_wr cI cZ AD mu_0 0 shRow) [0, 6, 1, 2, 3, 4, 5] (by rw [hAD]; rfl)
  have hD9 := hD.sub (ws' := x_wr cI cZ AD mu_0 0 shRow) [0, 6, 1, 2, 3, 4, 5] (by decide) (by rw [hAD]; rfl)
  rw [← x_w_eq] at hP9 hD9
  have hA0 : AD 0 = h0 := by rw [hAD]; rfl
  exact W.vret hx hb hr (fun t ht hW => ⟨⟨AD, rfl, hA0, by rw [ht]; exact hP9, hD9⟩, hS.F ht⟩) hS.2.2 dX2_init_23
set_option maxRecDepth 100000 in
set_option maxHeartbeats 4000000 in
theorem y_X0_init : yCt yX0_init cX0_init 0 [.null, .null, .int 0, .null, .null, .null] shDay mu_Day 2 15 106 := by
  intro l D cI cZ h0 sz
  refine Met.ofW (cc := cX0_init) (maxL := 1) (ret := none) (by decide) rfl ?_
  intro p e s m args below meth c s₁ B hml hv
  obtain ⟨rfl, hsz, hP, hK, hD0⟩ := hv
  have hx := B.exec
  have hb := B.bytes
  have hr := B.returns
  have hts0 := atoms_spec (ws := Cond.code yX0_init cX0_init 1 none :: x_tbl) B.pre
  have hts : ∀ w ∈ x_tbl, w.before _ s = true := fun w h => hts0 w (List.mem_cons_of_mem _ h)
  have hown : s.vm.findClass RX0 = some m.cls := findClass_of_methodNamed B.named
  have hin : meth.name = "<init>" := (name_of_methodNamed B.named B.method).1
  subst hsz
  have hD := hD0.self (sz := s.heap.size)
  generalize hAe : va_A [(h0, .inr (0, [.null, .null, .int 0, .null, .null, .null]))] s.heap.size = A at hD ⊢
  have hA : ∀ q : Nat, s.heap.size ≤ q → A q := fun q h => by rw [← hAe]; exact Or.inr h
  have hS : va_S A s.heap s.heap [] := va_S.rf
  have hl := lv_entry ([.ref h0]) (n := 1) (Nat.le_of_ble_eq_true rfl)
  rw [lg_entry_eq]
  generalize (lg_sl ([.ref h0]) ++ List.replicate (1 - (lg_sl ([.ref h0])).length) Slot.unset).toArray = ls at hl ⊢
  have hl : lv_has ls 1 [(0, .ref h0)] := hl
  refine lv_aload_n hx hb dX0_init_0 rfl (lv_at hl 0 rfl) ?_
  refine W.objInit hx hb hown (hts _ (x_mem lk_RX0_3 rfl)) (hts _ (x_mem mi_objectInit rfl)) (hts _ (x_mem mc_objectInit rfl)) rfl (by rw [hml]; exact hl.1) rfl dX0_init_1 (Nat.le_of_ble_eq_true rfl) (Nat.le_of_ble_eq_true rfl) ?_
  refine W.eq (g2 := F0 m 4 ls []) rfl ?_
  refine lv_aload_n hx hb dX0_init_4 rfl (lv_at hl 0 rfl) ?_
  refine y_mk hx hb hml hown hts hK hP hD hS hA inX1 tyX1_ok cl_RX0_9 it_RX1 in_RX1 rfl hz_1 y_X1_init lk_RX0_11 mi_X1_init mc_X1_init rfl rfl ⟨by decide, by decide, by decide +kernel⟩ ⟨(Nat.le_of_ble_eq_true rfl), (Nat.le_of_ble_eq_true rfl)⟩ (Nat.le_of_ble_eq_true rfl) (Nat.le_of_ble_eq_true rfl) hl.1 (lv_room (Nat.le_of_ble_eq_true rfl)) (by simp) dX0_init_5 dX0_init_8 dX0_init_9 (fun ad1 H locs hP hD hS => ?_)
  obtain ⟨t1, ht1⟩ : ∃ t : va_W, t = x_w cI cZ ad1 shHill mu_Hill := ⟨_, rfl⟩
  have hP : va_P D vwCl ((h0, .inr (0, [.null, .null, .int 0, .null, .null, .null])) :: t1) H := by rw [ht1]; exact hP
  have hD : va_D A ((h0, .inr (0, [.null, .null, .int 0, .null, .null, .null])) :: t1) := by rw [ht1]; exact hD
  have ht1 : t1 = x_w cI cZ ad1 shHill mu_Hill := ht1
  refine va_putF (D := D) (ci := 0) (v := .ref (ad1 0)) (ty := tyX0 0) (C := RX0) (T := TX0) (N := 6) hx hb hts (x_lay inX0) tyX0 tyX0_ok nmX0 hown hK hP hD hS 0 rfl rfl 0 (by decide) (hts _ (x_mem fk_RX0_12 rfl)) (fun _ h9 => h9) rfl hin rfl (tyX0_ok 0 (by decide)) rfl rfl (Nat.le_of_ble_eq_true rfl) dX0_init_12 (fun H locs hP hD hS => ?_)
  have hP : va_P D vwCl ((h0, .inr (0, [.ref (ad1 0), .null, .int 0, .null, .null, .null])) :: t1) H := hP
  have hD : va_D A ((h0, .inr (0, [.ref (ad1 0), .null, .int 0, .null, .null, .null])) :: t1) := hD
  refine lv_aload_n hx hb dX0_init_15 rfl (lv_at hl 0 rfl) ?_
  refine lv_bipush (v := x_I 8) hx hb dX0_init_16 (by decide) ?_
  refine y_newi hx hb hts hK hP hD hS hA (n := x_I 8) (N' := 8) (by decide +kernel) (by decide +kernel) (Nat.le_of_ble_eq_true rfl) (Nat.le_of_ble_eq_true rfl) (Nat.le_of_ble_eq_true rfl) dX0_init_18 (fun q1 H hP hD hS => ?_)
  obtain ⟨t2, ht2⟩ : ∃ t : va_W, t = t1 ++ [(q1, .inl (cI, 8, .inl (fun _ => x_I 0)))] := ⟨_, rfl⟩
  have hP : va_P D vwCl ((h0, .inr (0, [.ref (ad1 0), .null, .int 0, .null, .null, .null])) :: t2) H := by rw [ht2]; exact hP
  have hD : va_D A ((h0, .inr (0, [.ref (ad1 0), .null, .int 0, .null, .null, .null])) :: t2) := by rw [ht2]; exact hD
  rw [ht1] at ht2
  have ht2 : t2 = (x_w cI cZ ad1 shHill mu_Hill) ++ [(q1, .inl (cI, 8, .inl (fun _ => x_I 0)))] := ht2
  refine va_putF (D := D) (ci := 0) (v := .ref q1) (ty := tyX0 1) (C := RX0) (T := TX0) (N := 6) hx hb hts (x_lay inX0) tyX0 tyX0_ok nmX0 hown hK hP hD hS 0 rfl rfl 1 (by decide) (hts _ (x_mem fk_RX0_18 rfl)) (fun _ h9 => h9) rfl hin rfl (tyX0_ok 1 (by decide)) rfl rfl (Nat.le_of_ble_eq_true rfl) dX0_init_20 (fun H locs hP hD hS => ?_)
  have hP : va_P D vwCl ((h0, .inr (0, [.ref (ad1 0), .ref q1, .int 0, .null, .null, .null])) :: t2) H := hP
  have hD : va_D A ((h0, .inr (0, [.ref (ad1 0), .ref q1, .int 0, .null, .null, .null])) :: t2) := hD
  refine lv_aload_n hx hb dX0_init_23 rfl (lv_at hl 0 rfl) ?_
  refine y_mk hx hb hml hown hts hK hP hD hS hA inX4 tyX4_ok cl_RX0_22 it_RX4 in_RX4 rfl hz_4 y_X4_init lk_RX0_24 mi_X4_init mc_X4_init rfl rfl ⟨by decide, by decide, by decide +kernel⟩ ⟨(Nat.le_of_ble_eq_true rfl), (Nat.le_of_ble_eq_true rfl)⟩ (Nat.le_of_ble_eq_true rfl) (Nat.le_of_ble_eq_true rfl) hl.1 (lv_room (Nat.le_of_ble_eq_true rfl)) (by simp [ht2, x_wlen]) dX0_init_24 dX0_init_27 dX0_init_28 (fun ad2 H locs hP hD hS => ?_)
  obtain ⟨t3, ht3⟩ : ∃ t : va_W, t = t2 ++ x_w cI cZ ad2 shTr mu_0 := ⟨_, rfl⟩
  have hP : va_P D vwCl ((h0, .inr (0, [.ref (ad1 0), .ref q1, .int 0, .null, .null, .null])) :: t3) H := by rw [ht3]; exact hP
  have hD : va_D A ((h0, .inr (0, [.ref (ad1 0), .ref q1, .int 0, .null, .null, .null])) :: t3) := by rw [ht3]; exact hD
  rw [ht2] at ht3
  have ht3 : t3 = (x_w cI cZ ad1 shHill mu_Hill ++ [(q1, .inl (cI, 8, .inl (fun _ => x_I 0)))]) ++ x_w cI cZ ad2 shTr mu_0 := ht3
  refine va_putF (D := D) (ci := 0) (v := .ref (ad2 0)) (ty := tyX0 3) (C := RX0) (T := TX0) (N := 6) hx hb hts (x_lay inX0) tyX0 tyX0_ok nmX0 hown hK hP hD hS 0 rfl rfl 3 (by decide) (hts _ (x_mem fk_RX0_25 rfl)) (fun _ h9 => h9) rfl hin rfl (tyX0_ok 3 (by decide)) rfl rfl (Nat.le_of_ble_eq_true rfl) dX0_init_31 (fun H locs hP hD hS => ?_)
  have hP : va_P D vwCl ((h0, .inr (0, [.ref (ad1 0), .ref q1, .int 0, .ref (ad2 0), .null, .null])) :: t3) H := hP
  have hD : va_D A ((h0, .inr (0, [.ref (ad1 0), .ref q1, .int 0, .ref (ad2 0), .null, .null])) :: t3) := hD
  refine lv_aload_n hx hb dX0_init_34 rfl (lv_at hl 0 rfl) ?_
  refine lv_bipush (v := x_I 8) hx hb dX0_init_35 (by decide) ?_
  refine y_newi hx hb hts hK hP hD hS hA (n := x_I 8) (N' := 8) (by decide +kernel) (by decide +kernel) (Nat.le_of_ble_eq_true rfl) (Nat.le_of_ble_eq_true rfl) (Nat.le_of_ble_eq_true rfl) dX0_init_37 (fun q2 H hP hD hS => ?_)
  obtain ⟨t4, ht4⟩ : ∃ t : va_W, t = t3 ++ [(q2, .inl (cI, 8, .inl (fun _ => x_I 0)))] := ⟨_, rfl⟩
  have hP : va_P D vwCl ((h0, .inr (0, [.ref (ad1 0), .ref q1, .int 0, .ref (ad2 0), .null, .null])) :: t4) H := by rw [ht4]; exact hP
  have hD : va_D A ((h0, .inr (0, [.ref (ad1 0), .ref q1, .int 0, .ref (ad2 0), .null, .null])) :: t4) := by rw [ht4]; exact hD
  rw [ht3] at ht4
  have ht4 : t4 = ((x_w cI cZ ad1 shHill mu_Hill ++ [(q1, .inl (cI, 8, .inl (fun _ => x_I 0)))]) ++ x_w cI cZ ad2 shTr mu_0) ++ [(q2, .inl (cI, 8, .inl (fun _ => x_I 0)))] := ht4
  refine va_putF (D := D) (ci := 0) (v := .ref q2) (ty := tyX0 4) (C := RX0) (T := TX0) (N := 6) hx hb hts (x_lay inX0) tyX0 tyX0_ok nmX0 hown hK hP hD hS 0 rfl rfl 4 (by decide) (hts _ (x_mem fk_RX0_29 rfl)) (fun _ h9 => h9) rfl hin rfl (tyX0_ok 4 (by decide)) rfl rfl (Nat.le_of_ble_eq_true rfl) dX0_init_39 (fun H locs hP hD hS => ?_)
  have hP : va_P D vwCl ((h0, .inr (0, [.ref (ad1 0), .ref q1, .int 0, .ref (ad2 0), .ref q2, .null])) :: t4) H := hP
  have hD : va_D A ((h0, .inr (0, [.ref (ad1 0), .ref q1, .int 0, .ref (ad2 0), .ref q2, .null])) :: t4) := hD
  refine lv_aload_n hx hb dX0_init_42 rfl (lv_at hl 0 rfl) ?_
  refine lv_bipush (v := x_I 8) hx hb dX0_init_43 (by decide) ?_
  refine y_newi hx hb hts hK hP hD hS hA (n := x_I 8) (N' := 8) (by decide +kernel) (by decide +kernel) (Nat.le_of_ble_eq_true rfl) (Nat.le_of_ble_eq_true rfl) (Nat.le_of_ble_eq_true rfl) dX0_init_45 (fun q3 H hP hD hS => ?_)
  obtain ⟨t5, ht5⟩ : ∃ t : va_W, t = t4 ++ [(q3, .inl (cI, 8, .inl (fun _ => x_I 0)))] := ⟨_, rfl⟩
  have hP : va_P D vwCl ((h0, .inr (0, [.ref (ad1 0), .ref q1, .int 0, .ref (ad2 0), .ref q2, .null])) :: t5) H := by rw [ht5]; exact hP
  have hD : va_D A ((h0, .inr (0, [.ref (ad1 0), .ref q1, .int 0, .ref (ad2 0), .ref q2, .null])) :: t5) := by rw [ht5]; exact hD
  rw [ht4] at ht5
  have ht5 : t5 = ((x_w cI cZ ad1 shHill mu_Hill ++ [(q1, .inl (cI, 8, .inl (fun _ => x_I 0)))]) ++ x_w cI cZ ad2 shTr mu_0) ++ [(q2, .inl (cI, 8, .inl (fun _ => x_I 0))), (q3, .inl (cI, 8, .inl (fun _ => x_I 0)))] := ht5
  refine va_putF (D := D) (ci := 0) (v := .ref q3) (ty := tyX0 5) (C := RX0) (T := TX0) (N := 6) hx hb hts (x_lay inX0) tyX0 tyX0_ok nmX0 hown hK hP hD hS 0 rfl rfl 5 (by decide) (hts _ (x_mem fk_RX0_32 rfl)) (fun _ h9 => h9) rfl hin rfl (tyX0_ok 5 (by decide)) rfl rfl (Nat.le_of_ble_eq_true rfl) dX0_init_47 (fun H locs hP hD hS => ?_)
  have hP : va_P D vwCl ((h0, .inr (0, [.ref (ad1 0), .ref q1, .int 0, .ref (ad2 0), .ref q2, .ref q3])) :: t5) H := hP
  have hD : va_D A ((h0, .inr (0, [.ref (ad1 0), .ref q1, .int 0, .ref (ad2 0), .ref q2, .ref q3])) :: t5) := hD
  rw [ht5] at hP hD
  refine W.widen (k := 15) (n := 106) (Nat.le_of_ble_eq_true rfl) (Nat.le_of_ble_eq_true rfl) ?_
  simp only [x_w_eq] at hP hD
  obtain ⟨AD, hAD⟩ : ∃ f : Nat → Nat, f = (fun k => ([h0, q1, q2, q3, ad2 0, ad2 1, ad2 2, ad2 3, ad2 4, ad1 0, ad1 1, ad1 2, ad1 3, ad1 4, ad1 5, ad1 6] : List Nat).getD k 0) := ⟨_, rfl⟩
  have hP9 := hP.sub (ws' := x_wr cI cZ AD mu_Day 0 shDay) [0, 8, 14, 15, 9, 10, 11, 12, 13, 1, 2, 3, 4, 5, 6, 7] (by rw [hAD]; rfl)
  have hD9 := hD.sub (ws' := x_wr cI cZ AD mu_Day 0 shDay) [0, 8, 14, 15, 9, 10, 11, 12, 13, 1, 2, 3, 4, 5, 6, 7] (by decide) (by rw [hAD]; rfl)
  rw [← x_w_eq] at hP9 hD9
  have hA0 : AD 0 = h0 := by rw [hAD]; rfl
  exact W.vret hx hb hr (fun t ht hW => ⟨⟨AD, rfl, hA0, by rw [ht]; exact hP9, hD9⟩, hS.F ht⟩) hS.2.2 dX0_init_50
