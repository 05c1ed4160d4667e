/-! CONSTRUCTORS: the reference -/
theorem y_set_at {ws : va_W} {k a : Nat} {e' e : va_E} (h : ws[k]? = some (a, e')) : (ws.set k (a, e))[k]? = some (a, e) := by
  rw [List.getElem?_set_self (List.getElem?_eq_some_iff.mp h).1]
theorem y_set_ne {ws : va_W} {i j : Nat} {x : Nat × va_E} (h : i ≠ j) : (ws.set i x)[j]? = ws[j]? := List.getElem?_set_ne h
set_option maxRecDepth 100000 in
set_option maxHeartbeats 4000000 in
theorem y_X6_init : yCt yX6_init cX6_init 6 [.null, .null, .null, .null, .int 0, .null, .null, .int 0, .int 0, .null, .null, .null, .int 0, .int 0, .int 0, .int 0, .int 0, .int 0, .null, .null, .int 0, .null, .int 0] shM mu_M 1 12 291 := by
  intro l D cI cZ h0 sz
  refine Met.ofW (cc := cX6_init) (maxL := 1) (ret := none) (by decide) rfl ?_
  intro p e s m args below meth c s₁ B hml hv
  obtain ⟨rfl, hsz, hP, hK, hD0⟩ := hv
  have hx := B.exec
  have hb := B.bytes
  have hr := B.returns
  have hts0 := atoms_spec (ws := Cond.code yX6_init cX6_init 1 none :: x_tbl) B.pre
  have hts : ∀ w ∈ x_tbl, w.before _ s = true := fun w h => hts0 w (List.mem_cons_of_mem _ h)
  have hown : s.vm.findClass RX6 = some m.cls := findClass_of_methodNamed B.named
  have hin : meth.name = "<init>" := (name_of_methodNamed B.named B.method).1
  subst hsz
  have hD := hD0.self (sz := s.heap.size)
  generalize hAe : va_A [(h0, .inr (6, [.null, .null, .null, .null, .int 0, .null, .null, .int 0, .int 0, .null, .null, .null, .int 0, .int 0, .int 0, .int 0, .int 0, .int 0, .null, .null, .int 0, .null, .int 0]))] s.heap.size = A at hD ⊢
  have hA : ∀ q : Nat, s.heap.size ≤ q → A q := fun q h => by rw [← hAe]; exact Or.inr h
  have hS : va_S A s.heap s.heap [] := va_S.rf
  have hl := lv_entry ([.ref h0]) (n := 1) (Nat.le_of_ble_eq_true rfl)
  rw [lg_entry_eq]
  generalize (lg_sl ([.ref h0]) ++ List.replicate (1 - (lg_sl ([.ref h0])).length) Slot.unset).toArray = ls at hl ⊢
  have hl : lv_has ls 1 [(0, .ref h0)] := hl
  refine lv_aload_n hx hb dX6_init_0 rfl (lv_at hl 0 rfl) ?_
  refine W.objInit hx hb hown (hts _ (x_mem lk_RX6_1 rfl)) (hts _ (x_mem mi_objectInit rfl)) (hts _ (x_mem mc_objectInit rfl)) rfl (by rw [hml]; exact hl.1) rfl dX6_init_1 (Nat.le_of_ble_eq_true rfl) (Nat.le_of_ble_eq_true rfl) ?_
  refine W.eq (g2 := F0 m 4 ls []) rfl ?_
  refine lv_aload_n hx hb dX6_init_4 rfl (lv_at hl 0 rfl) ?_
  refine lv_bipush (v := x_I 7) hx hb dX6_init_5 (by decide) ?_
  refine y_newi hx hb hts hK hP hD hS hA (n := x_I 7) (N' := 7) (by decide +kernel) (by decide +kernel) (Nat.le_of_ble_eq_true rfl) (Nat.le_of_ble_eq_true rfl) (Nat.le_of_ble_eq_true rfl) dX6_init_7 (fun q1 H hP hD hS => ?_)
  obtain ⟨t1, ht1⟩ : ∃ t : va_W, t = [(q1, .inl (cI, 7, .inl (fun _ => x_I 0)))] := ⟨_, rfl⟩
  have hP : va_P D vwCl ((h0, .inr (6, [.null, .null, .null, .null, .int 0, .null, .null, .int 0, .int 0, .null, .null, .null, .int 0, .int 0, .int 0, .int 0, .int 0, .int 0, .null, .null, .int 0, .null, .int 0])) :: t1) H := by rw [ht1]; exact hP
  have hD : va_D A ((h0, .inr (6, [.null, .null, .null, .null, .int 0, .null, .null, .int 0, .int 0, .null, .null, .null, .int 0, .int 0, .int 0, .int 0, .int 0, .int 0, .null, .null, .int 0, .null, .int 0])) :: t1) := by rw [ht1]; exact hD
  have ht1 : t1 = [(q1, .inl (cI, 7, .inl (fun _ => x_I 0)))] := ht1
  refine va_putF (D := D) (ci := 6) (v := .ref q1) (ty := tyX6 0) (C := RX6) (T := TX6) (N := 23) hx hb hts (x_lay inX6) tyX6 tyX6_ok nmX6 hown hK hP hD hS 0 rfl rfl 0 (by decide) (hts _ (x_mem fk_RX6_7 rfl)) (fun _ h9 => h9) rfl hin rfl (tyX6_ok 0 (by decide)) rfl rfl (Nat.le_of_ble_eq_true rfl) dX6_init_9 (fun H locs hP hD hS => ?_)
  have hP : va_P D vwCl ((h0, .inr (6, [.ref q1, .null, .null, .null, .int 0, .null, .null, .int 0, .int 0, .null, .null, .null, .int 0, .int 0, .int 0, .int 0, .int 0, .int 0, .null, .null, .int 0, .null, .int 0])) :: t1) H := hP
  have hD : va_D A ((h0, .inr (6, [.ref q1, .null, .null, .null, .int 0, .null, .null, .int 0, .int 0, .null, .null, .null, .int 0, .int 0, .int 0, .int 0, .int 0, .int 0, .null, .null, .int 0, .null, .int 0])) :: t1) := hD
  refine lv_aload_n hx hb dX6_init_12 rfl (lv_at hl 0 rfl) ?_
  refine lv_bipush (v := x_I 47) hx hb dX6_init_13 (by decide) ?_
  refine y_newi hx hb hts hK hP hD hS hA (n := x_I 47) (N' := 47) (by decide +kernel) (by decide +kernel) (Nat.le_of_ble_eq_true rfl) (Nat.le_of_ble_eq_true rfl) (Nat.le_of_ble_eq_true rfl) dX6_init_15 (fun q2 H hP hD hS => ?_)
  obtain ⟨t2, ht2⟩ : ∃ t : va_W, t = t1 ++ [(q2, .inl (cI, 47, .inl (fun _ => x_I 0)))] := ⟨_, rfl⟩
  have hP : va_P D vwCl ((h0, .inr (6, [.ref q1, .null, .null, .null, .int 0, .null, .null, .int 0, .int 0, .null, .null, .null, .int 0, .int 0, .int 0, .int 0, .int 0, .int 0, .null, .null, .int 0, .null, .int 0])) :: t2) H := by rw [ht2]; exact hP
  have hD : va_D A ((h0, .inr (6, [.ref q1, .null, .null, .null, .int 0, .null, .null, .int 0, .int 0, .null, .null, .null, .int 0, .int 0, .int 0, .int 0, .int 0, .int 0, .null, .null, .int 0, .null, .int 0])) :: t2) := by rw [ht2]; exact hD
  rw [ht1] at ht2
  have ht2 : t2 = [(q1, .inl (cI, 7, .inl (fun _ => x_I 0))), (q2, .inl (cI, 47, .inl (fun _ => x_I 0)))] := ht2
  refine va_putF (D := D) (ci := 6) (v := .ref q2) (ty := tyX6 1) (C := RX6) (T := TX6) (N := 23) hx hb hts (x_lay inX6) tyX6 tyX6_ok nmX6 hown hK hP hD hS 0 rfl rfl 1 (by decide) (hts _ (x_mem fk_RX6_13 rfl)) (fun _ h9 => h9) rfl hin rfl (tyX6_ok 1 (by decide)) rfl rfl (Nat.le_of_ble_eq_true rfl) dX6_init_17 (fun H locs hP hD hS => ?_)
  have hP : va_P D vwCl ((h0, .inr (6, [.ref q1, .ref q2, .null, .null, .int 0, .null, .null, .int 0, .int 0, .null, .null, .null, .int 0, .int 0, .int 0, .int 0, .int 0, .int 0, .null, .null, .int 0, .null, .int 0])) :: t2) H := hP
  have hD : va_D A ((h0, .inr (6, [.ref q1, .ref q2, .null, .null, .int 0, .null, .null, .int 0, .int 0, .null, .null, .null, .int 0, .int 0, .int 0, .int 0, .int 0, .int 0, .null, .null, .int 0, .null, .int 0])) :: t2) := hD
  refine lv_aload_n hx hb dX6_init_20 rfl (lv_at hl 0 rfl) ?_
  refine lv_bipush (v := x_I 47) hx hb dX6_init_21 (by decide) ?_
  refine y_newi hx hb hts hK hP hD hS hA (n := x_I 47) (N' := 47) (by decide +kernel) (by decide +kernel) (Nat.le_of_ble_eq_true rfl) (Nat.le_of_ble_eq_true rfl) (Nat.le_of_ble_eq_true rfl) dX6_init_23 (fun q3 H hP hD hS => ?_)
  obtain ⟨t3, ht3⟩ : ∃ t : va_W, t = t2 ++ [(q3, .inl (cI, 47, .inl (fun _ => x_I 0)))] := ⟨_, rfl⟩
  have hP : va_P D vwCl ((h0, .inr (6, [.ref q1, .ref q2, .null, .null, .int 0, .null, .null, .int 0, .int 0, .null, .null, .null, .int 0, .int 0, .int 0, .int 0, .int 0, .int 0, .null, .null, .int 0, .null, .int 0])) :: t3) H := by rw [ht3]; exact hP
  have hD : va_D A ((h0, .inr (6, [.ref q1, .ref q2, .null, .null, .int 0, .null, .null, .int 0, .int 0, .null, .null, .null, .int 0, .int 0, .int 0, .int 0, .int 0, .int 0, .null, .null, .int 0, .null, .int 0])) :: t3) := by rw [ht3]; exact hD
  rw [ht2] at ht3
  have ht3 : t3 = [(q1, .inl (cI, 7, .inl (fun _ => x_I 0))), (q2, .inl (cI, 47, .inl (fun _ => x_I 0))), (q3, .inl (cI, 47, .inl (fun _ => x_I 0)))] := ht3
  refine va_putF (D := D) (ci := 6) (v := .ref q3) (ty := tyX6 2) (C := RX6) (T := TX6) (N := 23) hx hb hts (x_lay inX6) tyX6 tyX6_ok nmX6 hown hK hP hD hS 0 rfl rfl 2 (by decide) (hts _ (x_mem fk_RX6_16 rfl)) (fun _ h9 => h9) rfl hin rfl (tyX6_ok 2 (by decide)) rfl rfl (Nat.le_of_ble_eq_true rfl) dX6_init_25 (fun H locs hP hD hS => ?_)
  have hP : va_P D vwCl ((h0, .inr (6, [.ref q1, .ref q2, .ref q3, .null, .int 0, .null, .null, .int 0, .int 0, .null, .null, .null, .int 0, .int 0, .int 0, .int 0, .int 0, .int 0, .null, .null, .int 0, .null, .int 0])) :: t3) H := hP
  have hD : va_D A ((h0, .inr (6, [.ref q1, .ref q2, .ref q3, .null, .int 0, .null, .null, .int 0, .int 0, .null, .null, .null, .int 0, .int 0, .int 0, .int 0, .int 0, .int 0, .null, .null, .int 0, .null, .int 0])) :: t3) := hD
  refine lv_aload_n hx hb dX6_init_28 rfl (lv_at hl 0 rfl) ?_
  refine lv_bipush (v := x_I 47) hx hb dX6_init_29 (by decide) ?_
  refine y_newi hx hb hts hK hP hD hS hA (n := x_I 47) (N' := 47) (by decide +kernel) (by decide +kernel) (Nat.le_of_ble_eq_true rfl) (Nat.le_of_ble_eq_true rfl) (Nat.le_of_ble_eq_true rfl) dX6_init_31 (fun q4 H hP hD hS => ?_)
  obtain ⟨t4, ht4⟩ : ∃ t : va_W, t = t3 ++ [(q4, .inl (cI, 47, .inl (fun _ => x_I 0)))] := ⟨_, rfl⟩
  have hP : va_P D vwCl ((h0, .inr (6, [.ref q1, .ref q2, .ref q3, .null, .int 0, .null, .null, .int 0, .int 0, .null, .null, .null, .int 0, .int 0, .int 0, .int 0, .int 0, .int 0, .null, .null, .int 0, .null, .int 0])) :: t4) H := by rw [ht4]; exact hP
  have hD : va_D A ((h0, .inr (6, [.ref q1, .ref q2, .ref q3, .null, .int 0, .null, .null, .int 0, .int 0, .null, .null, .null, .int 0, .int 0, .int 0, .int 0, .int 0, .int 0, .null, .null, .int 0, .null, .int 0])) :: t4) := by rw [ht4]; exact hD
  rw [ht3] at ht4
  have ht4 : t4 = [(q1, .inl (cI, 7, .inl (fun _ => x_I 0))), (q2, .inl (cI, 47, .inl (fun _ => x_I 0))), (q3, .inl (cI, 47, .inl (fun _ => x_I 0))), (q4, .inl (cI, 47, .inl (fun _ => x_I 0)))] := ht4
  refine va_putF (D := D) (ci := 6) (v := .ref q4) (ty := tyX6 3) (C := RX6) (T := TX6) (N := 23) hx hb hts (x_lay inX6) tyX6 tyX6_ok nmX6 hown hK hP hD hS 0 rfl rfl 3 (by decide) (hts _ (x_mem fk_RX6_19 rfl)) (fun _ h9 => h9) rfl hin rfl (tyX6_ok 3 (by decide)) rfl rfl (Nat.le_of_ble_eq_true rfl) dX6_init_33 (fun H locs hP hD hS => ?_)
  have hP : va_P D vwCl ((h0, .inr (6, [.ref q1, .ref q2, .ref q3, .ref q4, .int 0, .null, .null, .int 0, .int 0, .null, .null, .null, .int 0, .int 0, .int 0, .int 0, .int 0, .int 0, .null, .null, .int 0, .null, .int 0])) :: t4) H := hP
  have hD : va_D A ((h0, .inr (6, [.ref q1, .ref q2, .ref q3, .ref q4, .int 0, .null, .null, .int 0, .int 0, .null, .null, .null, .int 0, .int 0, .int 0, .int 0, .int 0, .int 0, .null, .null, .int 0, .null, .int 0])) :: t4) := hD
  refine lv_aload_n hx hb dX6_init_36 rfl (lv_at hl 0 rfl) ?_
  refine lv_bipush (v := x_I 48) hx hb dX6_init_37 (by decide) ?_
  refine y_newi hx hb hts hK hP hD hS hA (n := x_I 48) (N' := 48) (by decide +kernel) (by decide +kernel) (Nat.le_of_ble_eq_true rfl) (Nat.le_of_ble_eq_true rfl) (Nat.le_of_ble_eq_true rfl) dX6_init_39 (fun q5 H hP hD hS => ?_)
  obtain ⟨t5, ht5⟩ : ∃ t : va_W, t = t4 ++ [(q5, .inl (cI, 48, .inl (fun _ => x_I 0)))] := ⟨_, rfl⟩
  have hP : va_P D vwCl ((h0, .inr (6, [.ref q1, .ref q2, .ref q3, .ref q4, .int 0, .null, .null, .int 0, .int 0, .null, .null, .null, .int 0, .int 0, .int 0, .int 0, .int 0, .int 0, .null, .null, .int 0, .null, .int 0])) :: t5) H := by rw [ht5]; exact hP
  have hD : va_D A ((h0, .inr (6, [.ref q1, .ref q2, .ref q3, .ref q4, .int 0, .null, .null, .int 0, .int 0, .null, .null, .null, .int 0, .int 0, .int 0, .int 0, .int 0, .int 0, .null, .null, .int 0, .null, .int 0])) :: t5) := by rw [ht5]; exact hD
  rw [ht4] at ht5
  have ht5 : t5 = [(q1, .inl (cI, 7, .inl (fun _ => x_I 0))), (q2, .inl (cI, 47, .inl (fun _ => x_I 0))), (q3, .inl (cI, 47, .inl (fun _ => x_I 0))), (q4, .inl (cI, 47, .inl (fun _ => x_I 0))), (q5, .inl (cI, 48, .inl (fun _ => x_I 0)))] := ht5
  refine va_putF (D := D) (ci := 6) (v := .ref q5) (ty := tyX6 5) (C := RX6) (T := TX6) (N := 23) hx hb hts (x_lay inX6) tyX6 tyX6_ok nmX6 hown hK hP hD hS 0 rfl rfl 5 (by decide) (hts _ (x_mem fk_RX6_22 rfl)) (fun _ h9 => h9) rfl hin rfl (tyX6_ok 5 (by decide)) rfl rfl (Nat.le_of_ble_eq_true rfl) dX6_init_41 (fun H locs hP hD hS => ?_)
  have hP : va_P D vwCl ((h0, .inr (6, [.ref q1, .ref q2, .ref q3, .ref q4, .int 0, .ref q5, .null, .int 0, .int 0, .null, .null, .null, .int 0, .int 0, .int 0, .int 0, .int 0, .int 0, .null, .null, .int 0, .null, .int 0])) :: t5) H := hP
  have hD : va_D A ((h0, .inr (6, [.ref q1, .ref q2, .ref q3, .ref q4, .int 0, .ref q5, .null, .int 0, .int 0, .null, .null, .null, .int 0, .int 0, .int 0, .int 0, .int 0, .int 0, .null, .null, .int 0, .null, .int 0])) :: t5) := hD
  refine lv_aload_n hx hb dX6_init_44 rfl (lv_at hl 0 rfl) ?_
  refine lv_iconst (v := x_I 2) hx hb dX6_init_45 rfl ?_
  refine y_newi hx hb hts hK hP hD hS hA (n := x_I 2) (N' := 2) (by decide +kernel) (by decide +kernel) (Nat.le_of_ble_eq_true rfl) (Nat.le_of_ble_eq_true rfl) (Nat.le_of_ble_eq_true rfl) dX6_init_46 (fun q6 H hP hD hS => ?_)
  obtain ⟨t6, ht6⟩ : ∃ t : va_W, t = t5 ++ [(q6, .inl (cI, 2, .inl (fun _ => x_I 0)))] := ⟨_, rfl⟩
  have hP : va_P D vwCl ((h0, .inr (6, [.ref q1, .ref q2, .ref q3, .ref q4, .int 0, .ref q5, .null, .int 0, .int 0, .null, .null, .null, .int 0, .int 0, .int 0, .int 0, .int 0, .int 0, .null, .null, .int 0, .null, .int 0])) :: t6) H := by rw [ht6]; exact hP
  have hD : va_D A ((h0, .inr (6, [.ref q1, .ref q2, .ref q3, .ref q4, .int 0, .ref q5, .null, .int 0, .int 0, .null, .null, .null, .int 0, .int 0, .int 0, .int 0, .int 0, .int 0, .null, .null, .int 0, .null, .int 0])) :: t6) := by rw [ht6]; exact hD
  rw [ht5] at ht6
  have ht6 : t6 = [(q1, .inl (cI, 7, .inl (fun _ => x_I 0))), (q2, .inl (cI, 47, .inl (fun _ => x_I 0))), (q3, .inl (cI, 47, .inl (fun _ => x_I 0))), (q4, .inl (cI, 47, .inl (fun _ => x_I 0))), (q5, .inl (cI, 48, .inl (fun _ => x_I 0))), (q6, .inl (cI, 2, .inl (fun _ => x_I 0)))] := ht6
  refine va_putF (D := D) (ci := 6) (v := .ref q6) (ty := tyX6 6) (C := RX6) (T := TX6) (N := 23) hx hb hts (x_lay inX6) tyX6 tyX6_ok nmX6 hown hK hP hD hS 0 rfl rfl 6 (by decide) (hts _ (x_mem fk_RX6_25 rfl)) (fun _ h9 => h9) rfl hin rfl (tyX6_ok 6 (by decide)) rfl rfl (Nat.le_of_ble_eq_true rfl) dX6_init_48 (fun H locs hP hD hS => ?_)
  have hP : va_P D vwCl ((h0, .inr (6, [.ref q1, .ref q2, .ref q3, .ref q4, .int 0, .ref q5, .ref q6, .int 0, .int 0, .null, .null, .null, .int 0, .int 0, .int 0, .int 0, .int 0, .int 0, .null, .null, .int 0, .null, .int 0])) :: t6) H := hP
  have hD : va_D A ((h0, .inr (6, [.ref q1, .ref q2, .ref q3, .ref q4, .int 0, .ref q5, .ref q6, .int 0, .int 0, .null, .null, .null, .int 0, .int 0, .int 0, .int 0, .int 0, .int 0, .null, .null, .int 0, .null, .int 0])) :: t6) := hD
  refine lv_aload_n hx hb dX6_init_51 rfl (lv_at hl 0 rfl) ?_
  refine lv_bipush (v := x_I 8) hx hb dX6_init_52 (by decide) ?_
  refine y_newi hx hb hts hK hP hD hS hA (n := x_I 8) (N' := 8) (by decide +kernel) (by decide +kernel) (Nat.le_of_ble_eq_true rfl) (Nat.le_of_ble_eq_true rfl) (Nat.le_of_ble_eq_true rfl) dX6_init_54 (fun q7 H hP hD hS => ?_)
  obtain ⟨t7, ht7⟩ : ∃ t : va_W, t = t6 ++ [(q7, .inl (cI, 8, .inl (fun _ => x_I 0)))] := ⟨_, rfl⟩
  have hP : va_P D vwCl ((h0, .inr (6, [.ref q1, .ref q2, .ref q3, .ref q4, .int 0, .ref q5, .ref q6, .int 0, .int 0, .null, .null, .null, .int 0, .int 0, .int 0, .int 0, .int 0, .int 0, .null, .null, .int 0, .null, .int 0])) :: t7) H := by rw [ht7]; exact hP
  have hD : va_D A ((h0, .inr (6, [.ref q1, .ref q2, .ref q3, .ref q4, .int 0, .ref q5, .ref q6, .int 0, .int 0, .null, .null, .null, .int 0, .int 0, .int 0, .int 0, .int 0, .int 0, .null, .null, .int 0, .null, .int 0])) :: t7) := by rw [ht7]; exact hD
  rw [ht6] at ht7
  have ht7 : t7 = [(q1, .inl (cI, 7, .inl (fun _ => x_I 0))), (q2, .inl (cI, 47, .inl (fun _ => x_I 0))), (q3, .inl (cI, 47, .inl (fun _ => x_I 0))), (q4, .inl (cI, 47, .inl (fun _ => x_I 0))), (q5, .inl (cI, 48, .inl (fun _ => x_I 0))), (q6, .inl (cI, 2, .inl (fun _ => x_I 0))), (q7, .inl (cI, 8, .inl (fun _ => x_I 0)))] := ht7
  refine va_putF (D := D) (ci := 6) (v := .ref q7) (ty := tyX6 9) (C := RX6) (T := TX6) (N := 23) hx hb hts (x_lay inX6) tyX6 tyX6_ok nmX6 hown hK hP hD hS 0 rfl rfl 9 (by decide) (hts _ (x_mem fk_RX6_28 rfl)) (fun _ h9 => h9) rfl hin rfl (tyX6_ok 9 (by decide)) rfl rfl (Nat.le_of_ble_eq_true rfl) dX6_init_56 (fun H locs hP hD hS => ?_)
  have hP : va_P D vwCl ((h0, .inr (6, [.ref q1, .ref q2, .ref q3, .ref q4, .int 0, .ref q5, .ref q6, .int 0, .int 0, .ref q7, .null, .null, .int 0, .int 0, .int 0, .int 0, .int 0, .int 0, .null, .null, .int 0, .null, .int 0])) :: t7) H := hP
  have hD : va_D A ((h0, .inr (6, [.ref q1, .ref q2, .ref q3, .ref q4, .int 0, .ref q5, .ref q6, .int 0, .int 0, .ref q7, .null, .null, .int 0, .int 0, .int 0, .int 0, .int 0, .int 0, .null, .null, .int 0, .null, .int 0])) :: t7) := hD
  refine lv_aload_n hx hb dX6_init_59 rfl (lv_at hl 0 rfl) ?_
  refine lv_bipush (v := x_I 6) hx hb dX6_init_60 (by decide) ?_
  refine y_newi hx hb hts hK hP hD hS hA (n := x_I 6) (N' := 6) (by decide +kernel) (by decide +kernel) (Nat.le_of_ble_eq_true rfl) (Nat.le_of_ble_eq_true rfl) (Nat.le_of_ble_eq_true rfl) dX6_init_62 (fun q8 H hP hD hS => ?_)
  obtain ⟨t8, ht8⟩ : ∃ t : va_W, t = t7 ++ [(q8, .inl (cI, 6, .inl (fun _ => x_I 0)))] := ⟨_, rfl⟩
  have hP : va_P D vwCl ((h0, .inr (6, [.ref q1, .ref q2, .ref q3, .ref q4, .int 0, .ref q5, .ref q6, .int 0, .int 0, .ref q7, .null, .null, .int 0, .int 0, .int 0, .int 0, .int 0, .int 0, .null, .null, .int 0, .null, .int 0])) :: t8) H := by rw [ht8]; exact hP
  have hD : va_D A ((h0, .inr (6, [.ref q1, .ref q2, .ref q3, .ref q4, .int 0, .ref q5, .ref q6, .int 0, .int 0, .ref q7, .null, .null, .int 0, .int 0, .int 0, .int 0, .int 0, .int 0, .null, .null, .int 0, .null, .int 0])) :: t8) := by rw [ht8]; exact hD
  rw [ht7] at ht8
  have ht8 : t8 = [(q1, .inl (cI, 7, .inl (fun _ => x_I 0))), (q2, .inl (cI, 47, .inl (fun _ => x_I 0))), (q3, .inl (cI, 47, .inl (fun _ => x_I 0))), (q4, .inl (cI, 47, .inl (fun _ => x_I 0))), (q5, .inl (cI, 48, .inl (fun _ => x_I 0))), (q6, .inl (cI, 2, .inl (fun _ => x_I 0))), (q7, .inl (cI, 8, .inl (fun _ => x_I 0))), (q8, .inl (cI, 6, .inl (fun _ => x_I 0)))] := ht8
  refine va_putF (D := D) (ci := 6) (v := .ref q8) (ty := tyX6 10) (C := RX6) (T := TX6) (N := 23) hx hb hts (x_lay inX6) tyX6 tyX6_ok nmX6 hown hK hP hD hS 0 rfl rfl 10 (by decide) (hts _ (x_mem fk_RX6_31 rfl)) (fun _ h9 => h9) rfl hin rfl (tyX6_ok 10 (by decide)) rfl rfl (Nat.le_of_ble_eq_true rfl) dX6_init_64 (fun H locs hP hD hS => ?_)
  have hP : va_P D vwCl ((h0, .inr (6, [.ref q1, .ref q2, .ref q3, .ref q4, .int 0, .ref q5, .ref q6, .int 0, .int 0, .ref q7, .ref q8, .null, .int 0, .int 0, .int 0, .int 0, .int 0, .int 0, .null, .null, .int 0, .null, .int 0])) :: t8) H := hP
  have hD : va_D A ((h0, .inr (6, [.ref q1, .ref q2, .ref q3, .ref q4, .int 0, .ref q5, .ref q6, .int 0, .int 0, .ref q7, .ref q8, .null, .int 0, .int 0, .int 0, .int 0, .int 0, .int 0, .null, .null, .int 0, .null, .int 0])) :: t8) := hD
  refine lv_aload_n hx hb dX6_init_67 rfl (lv_at hl 0 rfl) ?_
  refine lv_bipush (v := x_I 8) hx hb dX6_init_68 (by decide) ?_
  refine y_newi hx hb hts hK hP hD hS hA (n := x_I 8) (N' := 8) (by decide +kernel) (by decide +kernel) (Nat.le_of_ble_eq_true rfl) (Nat.le_of_ble_eq_true rfl) (Nat.le_of_ble_eq_true rfl) dX6_init_70 (fun q9 H hP hD hS => ?_)
  obtain ⟨t9, ht9⟩ : ∃ t : va_W, t = t8 ++ [(q9, .inl (cI, 8, .inl (fun _ => x_I 0)))] := ⟨_, rfl⟩
  have hP : va_P D vwCl ((h0, .inr (6, [.ref q1, .ref q2, .ref q3, .ref q4, .int 0, .ref q5, .ref q6, .int 0, .int 0, .ref q7, .ref q8, .null, .int 0, .int 0, .int 0, .int 0, .int 0, .int 0, .null, .null, .int 0, .null, .int 0])) :: t9) H := by rw [ht9]; exact hP
  have hD : va_D A ((h0, .inr (6, [.ref q1, .ref q2, .ref q3, .ref q4, .int 0, .ref q5, .ref q6, .int 0, .int 0, .ref q7, .ref q8, .null, .int 0, .int 0, .int 0, .int 0, .int 0, .int 0, .null, .null, .int 0, .null, .int 0])) :: t9) := by rw [ht9]; exact hD
  rw [ht8] at ht9
  have ht9 : t9 = [(q1, .inl (cI, 7, .inl (fun _ => x_I 0))), (q2, .inl (cI, 47, .inl (fun _ => x_I 0))), (q3, .inl (cI, 47, .inl (fun _ => x_I 0))), (q4, .inl (cI, 47, .inl (fun _ => x_I 0))), (q5, .inl (cI, 48, .inl (fun _ => x_I 0))), (q6, .inl (cI, 2, .inl (fun _ => x_I 0))), (q7, .inl (cI, 8, .inl (fun _ => x_I 0))), (q8, .inl (cI, 6, .inl (fun _ => x_I 0))), (q9, .inl (cI, 8, .inl (fun _ => x_I 0)))] := ht9
  refine va_putF (D := D) (ci := 6) (v := .ref q9) (ty := tyX6 11) (C := RX6) (T := TX6) (N := 23) hx hb hts (x_lay inX6) tyX6 tyX6_ok nmX6 hown hK hP hD hS 0 rfl rfl 11 (by decide) (hts _ (x_mem fk_RX6_34 rfl)) (fun _ h9 => h9) rfl hin rfl (tyX6_ok 11 (by decide)) rfl rfl (Nat.le_of_ble_eq_true rfl) dX6_init_72 (fun H locs hP hD hS => ?_)
  have hP : va_P D vwCl ((h0, .inr (6, [.ref q1, .ref q2, .ref q3, .ref q4, .int 0, .ref q5, .ref q6, .int 0, .int 0, .ref q7, .ref q8, .ref q9, .int 0, .int 0, .int 0, .int 0, .int 0, .int 0, .null, .null, .int 0, .null, .int 0])) :: t9) H := hP
  have hD : va_D A ((h0, .inr (6, [.ref q1, .ref q2, .ref q3, .ref q4, .int 0, .ref q5, .ref q6, .int 0, .int 0, .ref q7, .ref q8, .ref q9, .int 0, .int 0, .int 0, .int 0, .int 0, .int 0, .null, .null, .int 0, .null, .int 0])) :: t9) := hD
  refine lv_aload_n hx hb dX6_init_75 rfl (lv_at hl 0 rfl) ?_
  refine lv_bipush (v := x_I 47) hx hb dX6_init_76 (by decide) ?_
  refine y_newi hx hb hts hK hP hD hS hA (n := x_I 47) (N' := 47) (by decide +kernel) (by decide +kernel) (Nat.le_of_ble_eq_true rfl) (Nat.le_of_ble_eq_true rfl) (Nat.le_of_ble_eq_true rfl) dX6_init_78 (fun q10 H hP hD hS => ?_)
  obtain ⟨t10, ht10⟩ : ∃ t : va_W, t = t9 ++ [(q10, .inl (cI, 47, .inl (fun _ => x_I 0)))] := ⟨_, rfl⟩
  have hP : va_P D vwCl ((h0, .inr (6, [.ref q1, .ref q2, .ref q3, .ref q4, .int 0, .ref q5, .ref q6, .int 0, .int 0, .ref q7, .ref q8, .ref q9, .int 0, .int 0, .int 0, .int 0, .int 0, .int 0, .null, .null, .int 0, .null, .int 0])) :: t10) H := by rw [ht10]; exact hP
  have hD : va_D A ((h0, .inr (6, [.ref q1, .ref q2, .ref q3, .ref q4, .int 0, .ref q5, .ref q6, .int 0, .int 0, .ref q7, .ref q8, .ref q9, .int 0, .int 0, .int 0, .int 0, .int 0, .int 0, .null, .null, .int 0, .null, .int 0])) :: t10) := by rw [ht10]; exact hD
  rw [ht9] at ht10
  have ht10 : t10 = [(q1, .inl (cI, 7, .inl (fun _ => x_I 0))), (q2, .inl (cI, 47, .inl (fun _ => x_I 0))), (q3, .inl (cI, 47, .inl (fun _ => x_I 0))), (q4, .inl (cI, 47, .inl (fun _ => x_I 0))), (q5, .inl (cI, 48, .inl (fun _ => x_I 0))), (q6, .inl (cI, 2, .inl (fun _ => x_I 0))), (q7, .inl (cI, 8, .inl (fun _ => x_I 0))), (q8, .inl (cI, 6, .inl (fun _ => x_I 0))), (q9, .inl (cI, 8, .inl (fun _ => x_I 0))), (q10, .inl (cI, 47, .inl (fun _ => x_I 0)))] := ht10
  refine va_putF (D := D) (ci := 6) (v := .ref q10) (ty := tyX6 18) (C := RX6) (T := TX6) (N := 23) hx hb hts (x_lay inX6) tyX6 tyX6_ok nmX6 hown hK hP hD hS 0 rfl rfl 18 (by decide) (hts _ (x_mem fk_RX6_37 rfl)) (fun _ h9 => h9) rfl hin rfl (tyX6_ok 18 (by decide)) rfl rfl (Nat.le_of_ble_eq_true rfl) dX6_init_80 (fun H locs hP hD hS => ?_)
  have hP : va_P D vwCl ((h0, .inr (6, [.ref q1, .ref q2, .ref q3, .ref q4, .int 0, .ref q5, .ref q6, .int 0, .int 0, .ref q7, .ref q8, .ref q9, .int 0, .int 0, .int 0, .int 0, .int 0, .int 0, .ref q10, .null, .int 0, .null, .int 0])) :: t10) H := hP
  have hD : va_D A ((h0, .inr (6, [.ref q1, .ref q2, .ref q3, .ref q4, .int 0, .ref q5, .ref q6, .int 0, .int 0, .ref q7, .ref q8, .ref q9, .int 0, .int 0, .int 0, .int 0, .int 0, .int 0, .ref q10, .null, .int 0, .null, .int 0])) :: t10) := hD
  refine lv_aload_n hx hb dX6_init_83 rfl (lv_at hl 0 rfl) ?_
  refine lv_bipush (v := x_I 8) hx hb dX6_init_84 (by decide) ?_
  refine y_newi hx hb hts hK hP hD hS hA (n := x_I 8) (N' := 8) (by decide +kernel) (by decide +kernel) (Nat.le_of_ble_eq_true rfl) (Nat.le_of_ble_eq_true rfl) (Nat.le_of_ble_eq_true rfl) dX6_init_86 (fun q11 H hP hD hS => ?_)
  obtain ⟨t11, ht11⟩ : ∃ t : va_W, t = t10 ++ [(q11, .inl (cI, 8, .inl (fun _ => x_I 0)))] := ⟨_, rfl⟩
  have hP : va_P D vwCl ((h0, .inr (6, [.ref q1, .ref q2, .ref q3, .ref q4, .int 0, .ref q5, .ref q6, .int 0, .int 0, .ref q7, .ref q8, .ref q9, .int 0, .int 0, .int 0, .int 0, .int 0, .int 0, .ref q10, .null, .int 0, .null, .int 0])) :: t11) H := by rw [ht11]; exact hP
  have hD : va_D A ((h0, .inr (6, [.ref q1, .ref q2, .ref q3, .ref q4, .int 0, .ref q5, .ref q6, .int 0, .int 0, .ref q7, .ref q8, .ref q9, .int 0, .int 0, .int 0, .int 0, .int 0, .int 0, .ref q10, .null, .int 0, .null, .int 0])) :: t11) := by rw [ht11]; exact hD
  rw [ht10] at ht11
  have ht11 : t11 = [(q1, .inl (cI, 7, .inl (fun _ => x_I 0))), (q2, .inl (cI, 47, .inl (fun _ => x_I 0))), (q3, .inl (cI, 47, .inl (fun _ => x_I 0))), (q4, .inl (cI, 47, .inl (fun _ => x_I 0))), (q5, .inl (cI, 48, .inl (fun _ => x_I 0))), (q6, .inl (cI, 2, .inl (fun _ => x_I 0))), (q7, .inl (cI, 8, .inl (fun _ => x_I 0))), (q8, .inl (cI, 6, .inl (fun _ => x_I 0))), (q9, .inl (cI, 8, .inl (fun _ => x_I 0))), (q10, .inl (cI, 47, .inl (fun _ => x_I 0))), (q11, .inl (cI, 8, .inl (fun _ => x_I 0)))] := ht11
  refine va_putF (D := D) (ci := 6) (v := .ref q11) (ty := tyX6 19) (C := RX6) (T := TX6) (N := 23) hx hb hts (x_lay inX6) tyX6 tyX6_ok nmX6 hown hK hP hD hS 0 rfl rfl 19 (by decide) (hts _ (x_mem fk_RX6_40 rfl)) (fun _ h9 => h9) rfl hin rfl (tyX6_ok 19 (by decide)) rfl rfl (Nat.le_of_ble_eq_true rfl) dX6_init_88 (fun H locs hP hD hS => ?_)
  have hP : va_P D vwCl ((h0, .inr (6, [.ref q1, .ref q2, .ref q3, .ref q4, .int 0, .ref q5, .ref q6, .int 0, .int 0, .ref q7, .ref q8, .ref q9, .int 0, .int 0, .int 0, .int 0, .int 0, .int 0, .ref q10, .ref q11, .int 0, .null, .int 0])) :: t11) H := hP
  have hD : va_D A ((h0, .inr (6, [.ref q1, .ref q2, .ref q3, .ref q4, .int 0, .ref q5, .ref q6, .int 0, .int 0, .ref q7, .ref q8, .ref q9, .int 0, .int 0, .int 0, .int 0, .int 0, .int 0, .ref q10, .ref q11, .int 0, .null, .int 0])) :: t11) := hD
  refine lv_aload_n hx hb dX6_init_91 rfl (lv_at hl 0 rfl) ?_
  refine lv_bipush (v := x_I 16) hx hb dX6_init_92 (by decide) ?_
  refine y_newi hx hb hts hK hP hD hS hA (n := x_I 16) (N' := 16) (by decide +kernel) (by decide +kernel) (Nat.le_of_ble_eq_true rfl) (Nat.le_of_ble_eq_true rfl) (Nat.le_of_ble_eq_true rfl) dX6_init_94 (fun q12 H hP hD hS => ?_)
  obtain ⟨t12, ht12⟩ : ∃ t : va_W, t = t11 ++ [(q12, .inl (cI, 16, .inl (fun _ => x_I 0)))] := ⟨_, rfl⟩
  have hP : va_P D vwCl ((h0, .inr (6, [.ref q1, .ref q2, .ref q3, .ref q4, .int 0, .ref q5, .ref q6, .int 0, .int 0, .ref q7, .ref q8, .ref q9, .int 0, .int 0, .int 0, .int 0, .int 0, .int 0, .ref q10, .ref q11, .int 0, .null, .int 0])) :: t12) H := by rw [ht12]; exact hP
  have hD : va_D A ((h0, .inr (6, [.ref q1, .ref q2, .ref q3, .ref q4, .int 0, .ref q5, .ref q6, .int 0, .int 0, .ref q7, .ref q8, .ref q9, .int 0, .int 0, .int 0, .int 0, .int 0, .int 0, .ref q10, .ref q11, .int 0, .null, .int 0])) :: t12) := by rw [ht12]; exact hD
  rw [ht11] at ht12
  have ht12 : t12 = [(q1, .inl (cI, 7, .inl (fun _ => x_I 0))), (q2, .inl (cI, 47, .inl (fun _ => x_I 0))), (q3, .inl (cI, 47, .inl (fun _ => x_I 0))), (q4, .inl (cI, 47, .inl (fun _ => x_I 0))), (q5, .inl (cI, 48, .inl (fun _ => x_I 0))), (q6, .inl (cI, 2, .inl (fun _ => x_I 0))), (q7, .inl (cI, 8, .inl (fun _ => x_I 0))), (q8, .inl (cI, 6, .inl (fun _ => x_I 0))), (q9, .inl (cI, 8, .inl (fun _ => x_I 0))), (q10, .inl (cI, 47, .inl (fun _ => x_I 0))), (q11, .inl (cI, 8, .inl (fun _ => x_I 0))), (q12, .inl (cI, 16, .inl (fun _ => x_I 0)))] := ht12
  refine va_putF (D := D) (ci := 6) (v := .ref q12) (ty := tyX6 21) (C := RX6) (T := TX6) (N := 23) hx hb hts (x_lay inX6) tyX6 tyX6_ok nmX6 hown hK hP hD hS 0 rfl rfl 21 (by decide) (hts _ (x_mem fk_RX6_43 rfl)) (fun _ h9 => h9) rfl hin rfl (tyX6_ok 21 (by decide)) rfl rfl (Nat.le_of_ble_eq_true rfl) dX6_init_96 (fun H locs hP hD hS => ?_)
  have hP : va_P D vwCl ((h0, .inr (6, [.ref q1, .ref q2, .ref q3, .ref q4, .int 0, .ref q5, .ref q6, .int 0, .int 0, .ref q7, .ref q8, .ref q9, .int 0, .int 0, .int 0, .int 0, .int 0, .int 0, .ref q10, .ref q11, .int 0, .ref q12, .int 0])) :: t12) H := hP
  have hD : va_D A ((h0, .inr (6, [.ref q1, .ref q2, .ref q3, .ref q4, .int 0, .ref q5, .ref q6, .int 0, .int 0, .ref q7, .ref q8, .ref q9, .int 0, .int 0, .int 0, .int 0, .int 0, .int 0, .ref q10, .ref q11, .int 0, .ref q12, .int 0])) :: t12) := hD
  refine lv_aload_n hx hb dX6_init_99 rfl (lv_at hl 0 rfl) ?_
  obtain ⟨w0, hw0⟩ : ∃ w : va_W, w = (h0, .inr (6, [.ref q1, .ref q2, .ref q3, .ref q4, .int 0, .ref q5, .ref q6, .int 0, .int 0, .ref q7, .ref q8, .ref q9, .int 0, .int 0, .int 0, .int 0, .int 0, .int 0, .ref q10, .ref q11, .int 0, .ref q12, .int 0])) :: t12 := ⟨_, rfl⟩
  rw [← hw0] at hP hD
  have hz0 : w0[0]? = some ((h0, .inr (6, [.ref q1, .ref q2, .ref q3, .ref q4, .int 0, .ref q5, .ref q6, .int 0, .int 0, .ref q7, .ref q8, .ref q9, .int 0, .int 0, .int 0, .int 0, .int 0, .int 0, .ref q10, .ref q11, .int 0, .ref q12, .int 0]))) := by rw [hw0]; rfl
  have ha0 : w0[2]? = some ((q2, .inl (cI, 47, .inl (fun _ => x_I 0)))) := by rw [hw0, ht12]; rfl
  refine va_get (D := D) (ci := 6) (v := .ref q2) (C := RX6) (T := TX6) (N := 23) hx hb hts (x_lay inX6) hown hK hP 0 hz0 rfl 1 (by decide) (hts _ (x_mem fk_RX6_13 rfl)) (fun _ h9 => h9) rfl dX6_init_100 ?_
  refine lv_iconst (v := x_I 4) hx hb dX6_init_103 rfl ?_
  refine lv_sipush (v := x_I 300) hx hb dX6_init_104 (by decide) ?_
  refine va_iast hx hb hK hP hD hS 2 0 ha0 rfl (x_vpin (a := 4) (by decide) (by decide) (by decide)) dX6_init_107 (fun H locs hP hD hS => ?_)
  rw [show (x_I 4).toNatClampNeg = 4 by decide +kernel] at hP hD
  have hz1 := hz0
  have ha1 := y_set_at (e := (.inl (cI, 47, .inl (upd (fun _ => x_I 0) 4 (x_I 300))) : va_E)) ha0
  rw [← y_set_ne (i := 2) (j := 0) (x := (q2, .inl (cI, 47, .inl (upd (fun _ => x_I 0) 4 (x_I 300))))) (by decide)] at hz1
  refine lv_aload_n hx hb dX6_init_108 rfl (lv_at hl 0 rfl) ?_
  refine va_get (D := D) (ci := 6) (v := .ref q2) (C := RX6) (T := TX6) (N := 23) hx hb hts (x_lay inX6) hown hK hP 0 hz1 rfl 1 (by decide) (hts _ (x_mem fk_RX6_13 rfl)) (fun _ h9 => h9) rfl dX6_init_109 ?_
  refine lv_iconst (v := x_I 5) hx hb dX6_init_112 rfl ?_
  refine lv_sipush (v := x_I 600) hx hb dX6_init_113 (by decide) ?_
  refine va_iast hx hb hK hP hD hS 2 0 ha1 rfl (x_vpin (a := 5) (by decide) (by decide) (by decide)) dX6_init_116 (fun H locs hP hD hS => ?_)
  rw [show (x_I 5).toNatClampNeg = 5 by decide +kernel] at hP hD
  have hz2 := hz1
  have ha2 := y_set_at (e := (.inl (cI, 47, .inl (upd (upd (fun _ => x_I 0) 4 (x_I 300)) 5 (x_I 600))) : va_E)) ha1
  rw [← y_set_ne (i := 2) (j := 0) (x := (q2, .inl (cI, 47, .inl (upd (upd (fun _ => x_I 0) 4 (x_I 300)) 5 (x_I 600))))) (by decide)] at hz2
  refine lv_aload_n hx hb dX6_init_117 rfl (lv_at hl 0 rfl) ?_
  refine va_get (D := D) (ci := 6) (v := .ref q2) (C := RX6) (T := TX6) (N := 23) hx hb hts (x_lay inX6) hown hK hP 0 hz2 rfl 1 (by decide) (hts _ (x_mem fk_RX6_13 rfl)) (fun _ h9 => h9) rfl dX6_init_118 ?_
  refine lv_bipush (v := x_I 6) hx hb dX6_init_121 (by decide) ?_
  refine lv_bipush (v := x_I 20) hx hb dX6_init_123 (by decide) ?_
  refine va_iast hx hb hK hP hD hS 2 0 ha2 rfl (x_vpin (a := 6) (by decide) (by decide) (by decide)) dX6_init_125 (fun H locs hP hD hS => ?_)
  rw [show (x_I 6).toNatClampNeg = 6 by decide +kernel] at hP hD
  have hz3 := hz2
  have ha3 := y_set_at (e := (.inl (cI, 47, .inl (upd (upd (upd (fun _ => x_I 0) 4 (x_I 300)) 5 (x_I 600)) 6 (x_I 20))) : va_E)) ha2
  rw [← y_set_ne (i := 2) (j := 0) (x := (q2, .inl (cI, 47, .inl (upd (upd (upd (fun _ => x_I 0) 4 (x_I 300)) 5 (x_I 600)) 6 (x_I 20))))) (by decide)] at hz3
  refine lv_aload_n hx hb dX6_init_126 rfl (lv_at hl 0 rfl) ?_
  refine va_get (D := D) (ci := 6) (v := .ref q2) (C := RX6) (T := TX6) (N := 23) hx hb hts (x_lay inX6) hown hK hP 0 hz3 rfl 1 (by decide) (hts _ (x_mem fk_RX6_13 rfl)) (fun _ h9 => h9) rfl dX6_init_127 ?_
  refine lv_bipush (v := x_I 7) hx hb dX6_init_130 (by decide) ?_
  refine lv_iconst (v := x_I 3) hx hb dX6_init_132 rfl ?_
  refine va_iast hx hb hK hP hD hS 2 0 ha3 rfl (x_vpin (a := 7) (by decide) (by decide) (by decide)) dX6_init_133 (fun H locs hP hD hS => ?_)
  rw [show (x_I 7).toNatClampNeg = 7 by decide +kernel] at hP hD
  have hz4 := hz3
  have ha4 := y_set_at (e := (.inl (cI, 47, .inl (upd (upd (upd (upd (fun _ => x_I 0) 4 (x_I 300)) 5 (x_I 600)) 6 (x_I 20)) 7 (x_I 3))) : va_E)) ha3
  rw [← y_set_ne (i := 2) (j := 0) (x := (q2, .inl (cI, 47, .inl (upd (upd (upd (upd (fun _ => x_I 0) 4 (x_I 300)) 5 (x_I 600)) 6 (x_I 20)) 7 (x_I 3))))) (by decide)] at hz4
  refine lv_aload_n hx hb dX6_init_134 rfl (lv_at hl 0 rfl) ?_
  refine va_get (D := D) (ci := 6) (v := .ref q2) (C := RX6) (T := TX6) (N := 23) hx hb hts (x_lay inX6) hown hK hP 0 hz4 rfl 1 (by decide) (hts _ (x_mem fk_RX6_13 rfl)) (fun _ h9 => h9) rfl dX6_init_135 ?_
  refine lv_bipush (v := x_I 8) hx hb dX6_init_138 (by decide) ?_
  refine lv_iconst (v := x_I 2) hx hb dX6_init_140 rfl ?_
  refine va_iast hx hb hK hP hD hS 2 0 ha4 rfl (x_vpin (a := 8) (by decide) (by decide) (by decide)) dX6_init_141 (fun H locs hP hD hS => ?_)
  rw [show (x_I 8).toNatClampNeg = 8 by decide +kernel] at hP hD
  have hz5 := hz4
  have ha5 := y_set_at (e := (.inl (cI, 47, .inl (upd (upd (upd (upd (upd (fun _ => x_I 0) 4 (x_I 300)) 5 (x_I 600)) 6 (x_I 20)) 7 (x_I 3)) 8 (x_I 2))) : va_E)) ha4
  rw [← y_set_ne (i := 2) (j := 0) (x := (q2, .inl (cI, 47, .inl (upd (upd (upd (upd (upd (fun _ => x_I 0) 4 (x_I 300)) 5 (x_I 600)) 6 (x_I 20)) 7 (x_I 3)) 8 (x_I 2))))) (by decide)] at hz5
  refine lv_aload_n hx hb dX6_init_142 rfl (lv_at hl 0 rfl) ?_
  refine va_get (D := D) (ci := 6) (v := .ref q2) (C := RX6) (T := TX6) (N := 23) hx hb hts (x_lay inX6) hown hK hP 0 hz5 rfl 1 (by decide) (hts _ (x_mem fk_RX6_13 rfl)) (fun _ h9 => h9) rfl dX6_init_143 ?_
  refine lv_bipush (v := x_I 9) hx hb dX6_init_146 (by decide) ?_
  refine lv_iconst (v := x_I 5) hx hb dX6_init_148 rfl ?_
  refine va_iast hx hb hK hP hD hS 2 0 ha5 rfl (x_vpin (a := 9) (by decide) (by decide) (by decide)) dX6_init_149 (fun H locs hP hD hS => ?_)
  rw [show (x_I 9).toNatClampNeg = 9 by decide +kernel] at hP hD
  have hz6 := hz5
  have ha6 := y_set_at (e := (.inl (cI, 47, .inl (upd (upd (upd (upd (upd (upd (fun _ => x_I 0) 4 (x_I 300)) 5 (x_I 600)) 6 (x_I 20)) 7 (x_I 3)) 8 (x_I 2)) 9 (x_I 5))) : va_E)) ha5
  rw [← y_set_ne (i := 2) (j := 0) (x := (q2, .inl (cI, 47, .inl (upd (upd (upd (upd (upd (upd (fun _ => x_I 0) 4 (x_I 300)) 5 (x_I 600)) 6 (x_I 20)) 7 (x_I 3)) 8 (x_I 2)) 9 (x_I 5))))) (by decide)] at hz6
  have hP : va_P D vwCl (w0.set 2 ((q2, .inl (cI, 47, .inl (upd (upd (upd (upd (upd (upd (fun _ => x_I 0) 4 (x_I 300)) 5 (x_I 600)) 6 (x_I 20)) 7 (x_I 3)) 8 (x_I 2)) 9 (x_I 5)))))) H := by simpa only [List.set_set] using hP
  have hD : va_D A (w0.set 2 ((q2, .inl (cI, 47, .inl (upd (upd (upd (upd (upd (upd (fun _ => x_I 0) 4 (x_I 300)) 5 (x_I 600)) 6 (x_I 20)) 7 (x_I 3)) 8 (x_I 2)) 9 (x_I 5)))))) := by simpa only [List.set_set] using hD
  rw [hw0, ht12] at hP hD
  rw [e_set6] at hP hD
  refine W.widen (k := 12) (n := 291) (Nat.le_of_ble_eq_true rfl) (Nat.le_of_ble_eq_true rfl) ?_
  obtain ⟨AD, hAD⟩ : ∃ f : Nat → Nat, f = (fun k => ([h0, q1, q2, q3, q4, q5, q6, q7, q8, q9, q10, q11, q12] : List Nat).getD k 0) := ⟨_, rfl⟩
  have hP9 := hP.sub (ws' := x_wr cI cZ AD mu_M 0 shM) [0, 1, 2, 3, 4, 5, 6, 7, 8, 9, 10, 11, 12] (by rw [hAD]; rfl)
  have hD9 := hD.sub (ws' := x_wr cI cZ AD mu_M 0 shM) [0, 1, 2, 3, 4, 5, 6, 7, 8, 9, 10, 11, 12] (by decide) (by rw [hAD]; rfl)
  rw [← x_w_eq] at hP9 hD9
  have hA0 : AD 0 = h0 := by rw [hAD]; rfl
  exact W.vret hx hb hr (fun t ht hW => ⟨⟨AD, rfl, hA0, by rw [ht]; exact hP9, hD9⟩, hS.F ht⟩) hS.2.2 dX6_init_150
