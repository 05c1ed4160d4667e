/-! CONSTRUCTORS: the contracts -/
def setF (j : Nat) : Int := if j = 0 then 300 else if j = 1 then 600 else if j = 2 then 20 else if j = 3 then 3 else if j = 4 then 2 else if j = 5 then 5 else 0
def setM (j : Nat) : Int := if j = 4 then 300 else if j = 5 then 600 else if j = 6 then 20 else if j = 7 then 3 else if j = 8 then 2 else if j = 9 then 5 else 0
def mu_0 : xM := fun _ _ => 0
def mu_Hill : xM := fun k j => if k = 5 then setF j else 0
def mu_Day : xM := fun k j => if k = 14 then setF j else 0
def mu_C : xM := fun k j => if k = 17 then setF j else if k = 33 then setF j else if k = 40 then setF j else 0
def mu_M : xM := fun k j => if k = 2 then setM j else 0
theorem e_set1 : upd (upd (upd (upd (upd (upd (upd (upd (upd (fun _ => x_I 0) 0 (x_I 300)) 1 (x_I 600)) 2 (x_I 20)) 3 (x_I 3)) 4 (x_I 2)) 5 (x_I 5)) 6 (x_I 0)) 7 (x_I 0)) 8 (x_I 0) = fun j => x_I (setF j) := by
  funext j
  rcases Nat.lt_or_ge j 9 with h | h
  · rcases (show j = 0 ∨ j = 1 ∨ j = 2 ∨ j = 3 ∨ j = 4 ∨ j = 5 ∨ j = 6 ∨ j = 7 ∨ j = 8 by omega) with rfl | rfl | rfl | rfl | rfl | rfl | rfl | rfl | rfl <;> rfl
  · unfold upd setF
    rw [if_neg (by omega), if_neg (by omega), if_neg (by omega), if_neg (by omega), if_neg (by omega), if_neg (by omega), if_neg (by omega), if_neg (by omega), if_neg (by omega), if_neg (by omega), if_neg (by omega), if_neg (by omega), if_neg (by omega), if_neg (by omega), if_neg (by omega)]
theorem e_set6 : upd (upd (upd (upd (upd (upd (fun _ => x_I 0) 4 (x_I 300)) 5 (x_I 600)) 6 (x_I 20)) 7 (x_I 3)) 8 (x_I 2)) 9 (x_I 5) = fun j => x_I (setM j) := by
  funext j
  by_cases h : 4 ≤ j ∧ j ≤ 9
  · rcases (show j = 4 ∨ j = 5 ∨ j = 6 ∨ j = 7 ∨ j = 8 ∨ j = 9 by omega) with rfl | rfl | rfl | rfl | rfl | rfl <;> rfl
  · unfold upd setM
    rw [if_neg (by omega), if_neg (by omega), if_neg (by omega), if_neg (by omega), if_neg (by omega), if_neg (by omega), if_neg (by omega), if_neg (by omega), if_neg (by omega), if_neg (by omega), if_neg (by omega), if_neg (by omega)]
theorem hz_0 : ∀ j, j < 6 → defaultValue (tyX0 j) = vp_V [.null, .null, .int 0, .null, .null, .null] j := by
  intro j hj
  rcases (show j = 0 ∨ j = 1 ∨ j = 2 ∨ j = 3 ∨ j = 4 ∨ j = 5 by omega) with rfl | rfl | rfl | rfl | rfl | rfl <;> rfl
theorem hz_1 : ∀ j, j < 10 → defaultValue (tyX1 j) = vp_V [.int 0, .null, .null, .int 0, .null, .null, .int 0, .null, .int 0, .null] j := by
  intro j hj
  rcases (show j = 0 ∨ j = 1 ∨ j = 2 ∨ j = 3 ∨ j = 4 ∨ j = 5 ∨ j = 6 ∨ j = 7 ∨ j = 8 ∨ j = 9 by omega) with rfl | rfl | rfl | rfl | rfl | rfl | rfl | rfl | rfl | rfl <;> rfl
theorem hz_2 : ∀ j, j < 6 → defaultValue (tyX2 j) = vp_V [.int 0, .int 0, .int 0, .null, .null, .int 0] j := by
  intro j hj
  rcases (show j = 0 ∨ j = 1 ∨ j = 2 ∨ j = 3 ∨ j = 4 ∨ j = 5 by omega) with rfl | rfl | rfl | rfl | rfl | rfl <;> rfl
theorem hz_3 : ∀ j, j < 7 → defaultValue (tyX3 j) = vp_V [.int 0, .null, .int 0, .int 0, .int 0, .int 0, .int 0] j := by
  intro j hj
  rcases (show j = 0 ∨ j = 1 ∨ j = 2 ∨ j = 3 ∨ j = 4 ∨ j = 5 ∨ j = 6 by omega) with rfl | rfl | rfl | rfl | rfl | rfl | rfl <;> rfl
theorem hz_4 : ∀ j, j < 15 → defaultValue (tyX4 j) = vp_V [.null, .int 0, .int 0, .null, .int 0, .int 0, .int 0, .int 0, .null, .null, .int 0, .int 0, .int 0, .int 0, .int 0] j := by
  intro j hj
  rcases (show j = 0 ∨ j = 1 ∨ j = 2 ∨ j = 3 ∨ j = 4 ∨ j = 5 ∨ j = 6 ∨ j = 7 ∨ j = 8 ∨ j = 9 ∨ j = 10 ∨ j = 11 ∨ j = 12 ∨ j = 13 ∨ j = 14 by omega) with rfl | rfl | rfl | rfl | rfl | rfl | rfl | rfl | rfl | rfl | rfl | rfl | rfl | rfl | rfl <;> rfl
theorem hz_5 : ∀ j, j < 10 → defaultValue (tyX5 j) = vp_V [.null, .null, .null, .null, .null, .int 0, .null, .null, .null, .null] j := by
  intro j hj
  rcases (show j = 0 ∨ j = 1 ∨ j = 2 ∨ j = 3 ∨ j = 4 ∨ j = 5 ∨ j = 6 ∨ j = 7 ∨ j = 8 ∨ j = 9 by omega) with rfl | rfl | rfl | rfl | rfl | rfl | rfl | rfl | rfl | rfl <;> rfl
theorem hz_6 : ∀ j, j < 23 → defaultValue (tyX6 j) = vp_V [.null, .null, .null, .null, .int 0, .null, .null, .int 0, .int 0, .null, .null, .null, .int 0, .int 0, .int 0, .int 0, .int 0, .int 0, .null, .null, .int 0, .null, .int 0] j := by
  intro j hj
  rcases (show j = 0 ∨ j = 1 ∨ j = 2 ∨ j = 3 ∨ j = 4 ∨ j = 5 ∨ j = 6 ∨ j = 7 ∨ j = 8 ∨ j = 9 ∨ j = 10 ∨ j = 11 ∨ j = 12 ∨ j = 13 ∨ j = 14 ∨ j = 15 ∨ j = 16 ∨ j = 17 ∨ j = 18 ∨ j = 19 ∨ j = 20 ∨ j = 21 ∨ j = 22 by omega) with rfl | rfl | rfl | rfl | rfl | rfl | rfl | rfl | rfl | rfl | rfl | rfl | rfl | rfl | rfl | rfl | rfl | rfl | rfl | rfl | rfl | rfl | rfl <;> rfl
set_option maxRecDepth 100000 in
set_option maxHeartbeats 4000000 in
theorem y_X1_init : yCt yX1_init cX1_init 1 [.int 0, .null, .null, .int 0, .null, .null, .int 0, .null, .int 0, .null] shHill mu_Hill 1 6 43 := by
  intro l D cI cZ h0 sz
  refine Met.ofW (cc := cX1_init) (maxL := 1) (ret := none) (by decide) rfl ?_
  intro p e s m args below meth c s₁ B hml hv
  obtain ⟨rfl, hsz, hP, hK, hD0⟩ := hv
  have hx := B.exec
  have hb := B.bytes
  have hr := B.returns
  have hts0 := atoms_spec (ws := Cond.code yX1_init cX1_init 1 none :: x_tbl) B.pre
  have hts : ∀ w ∈ x_tbl, w.before _ s = true := fun w h => hts0 w (List.mem_cons_of_mem _ h)
  have hown : s.vm.findClass RX1 = some m.cls := findClass_of_methodNamed B.named
  have hin : meth.name = "<init>" := (name_of_methodNamed B.named B.method).1
  subst hsz
  have hD := hD0.self (sz := s.heap.size)
  generalize hAe : va_A [(h0, .inr (1, [.int 0, .null, .null, .int 0, .null, .null, .int 0, .null, .int 0, .null]))] s.heap.size = A at hD ⊢
  have hA : ∀ q : Nat, s.heap.size ≤ q → A q := fun q h => by rw [← hAe]; exact Or.inr h
  have hS : va_S A s.heap s.heap [] := va_S.rf
  have hl := lv_entry ([.ref h0]) (n := 1) (Nat.le_of_ble_eq_true rfl)
  rw [lg_entry_eq]
  generalize (lg_sl ([.ref h0]) ++ List.replicate (1 - (lg_sl ([.ref h0])).length) Slot.unset).toArray = ls at hl ⊢
  have hl : lv_has ls 1 [(0, .ref h0)] := hl
  have hP : va_P D vwCl ([(h0, .inr (1, [.int 0, .null, .null, .int 0, .null, .null, .int 0, .null, .int 0, .null]))]) s.heap := hP
  have hD : va_D A ([(h0, .inr (1, [.int 0, .null, .null, .int 0, .null, .null, .int 0, .null, .int 0, .null]))]) := hD
  refine lv_aload_n hx hb dX1_init_0 rfl (lv_at hl 0 rfl) ?_
  refine W.objInit hx hb hown (hts _ (x_mem lk_RX1_3 rfl)) (hts _ (x_mem mi_objectInit rfl)) (hts _ (x_mem mc_objectInit rfl)) rfl (by rw [hml]; exact hl.1) rfl dX1_init_1 (Nat.le_of_ble_eq_true rfl) (Nat.le_of_ble_eq_true rfl) ?_
  refine W.eq (g2 := F0 m 4 ls []) rfl ?_
  refine lv_aload_n hx hb dX1_init_4 rfl (lv_at hl 0 rfl) ?_
  refine lv_iconst (v := x_I 5) hx hb dX1_init_5 rfl ?_
  refine y_newi hx hb hts hK hP hD hS hA (n := x_I 5) (N' := 5) (by decide) (by decide) (Nat.le_of_ble_eq_true rfl) (Nat.le_of_ble_eq_true rfl) (Nat.le_of_ble_eq_true rfl) dX1_init_6 (fun q1 H hP hD hS => ?_)
  have hP : va_P D vwCl ((h0, .inr (1, [.int 0, .null, .null, .int 0, .null, .null, .int 0, .null, .int 0, .null])) :: [(q1, .inl (cI, 5, .inl (fun _ => x_I 0)))]) H := hP
  have hD : va_D A ((h0, .inr (1, [.int 0, .null, .null, .int 0, .null, .null, .int 0, .null, .int 0, .null])) :: [(q1, .inl (cI, 5, .inl (fun _ => x_I 0)))]) := hD
  refine va_putF (D := D) (ci := 1) (v := .ref q1) (ty := tyX1 1) (C := RX1) (T := TX1) (N := 10) hx hb hts (x_lay inX1) tyX1 tyX1_ok nmX1 hown hK hP hD hS 0 rfl rfl 1 (by decide) (hts _ (x_mem fk_RX1_9 rfl)) (fun _ h9 => h9) rfl hin rfl (tyX1_ok 1 (by decide)) rfl rfl (Nat.le_of_ble_eq_true rfl) dX1_init_8 (fun H locs hP hD hS => ?_)
  have hP : va_P D vwCl ((h0, .inr (1, [.int 0, .ref q1, .null, .int 0, .null, .null, .int 0, .null, .int 0, .null])) :: [(q1, .inl (cI, 5, .inl (fun _ => x_I 0)))]) H := hP
  have hD : va_D A ((h0, .inr (1, [.int 0, .ref q1, .null, .int 0, .null, .null, .int 0, .null, .int 0, .null])) :: [(q1, .inl (cI, 5, .inl (fun _ => x_I 0)))]) := hD
  refine lv_aload_n hx hb dX1_init_11 rfl (lv_at hl 0 rfl) ?_
  refine lv_iconst (v := x_I 5) hx hb dX1_init_12 rfl ?_
  refine y_newi hx hb hts hK hP hD hS hA (n := x_I 5) (N' := 5) (by decide) (by decide) (Nat.le_of_ble_eq_true rfl) (Nat.le_of_ble_eq_true rfl) (Nat.le_of_ble_eq_true rfl) dX1_init_13 (fun q2 H hP hD hS => ?_)
  have hP : va_P D vwCl ((h0, .inr (1, [.int 0, .ref q1, .null, .int 0, .null, .null, .int 0, .null, .int 0, .null])) :: ([(q1, .inl (cI, 5, .inl (fun _ => x_I 0)))] ++ [(q2, .inl (cI, 5, .inl (fun _ => x_I 0)))])) H := hP
  have hD : va_D A ((h0, .inr (1, [.int 0, .ref q1, .null, .int 0, .null, .null, .int 0, .null, .int 0, .null])) :: ([(q1, .inl (cI, 5, .inl (fun _ => x_I 0)))] ++ [(q2, .inl (cI, 5, .inl (fun _ => x_I 0)))])) := hD
  refine va_putF (D := D) (ci := 1) (v := .ref q2) (ty := tyX1 2) (C := RX1) (T := TX1) (N := 10) hx hb hts (x_lay inX1) tyX1 tyX1_ok nmX1 hown hK hP hD hS 0 rfl rfl 2 (by decide) (hts _ (x_mem fk_RX1_15 rfl)) (fun _ h9 => h9) rfl hin rfl (tyX1_ok 2 (by decide)) rfl rfl (Nat.le_of_ble_eq_true rfl) dX1_init_15 (fun H locs hP hD hS => ?_)
  have hP : va_P D vwCl ((h0, .inr (1, [.int 0, .ref q1, .ref q2, .int 0, .null, .null, .int 0, .null, .int 0, .null])) :: ([(q1, .inl (cI, 5, .inl (fun _ => x_I 0)))] ++ [(q2, .inl (cI, 5, .inl (fun _ => x_I 0)))])) H := hP
  have hD : va_D A ((h0, .inr (1, [.int 0, .ref q1, .ref q2, .int 0, .null, .null, .int 0, .null, .int 0, .null])) :: ([(q1, .inl (cI, 5, .inl (fun _ => x_I 0)))] ++ [(q2, .inl (cI, 5, .inl (fun _ => x_I 0)))])) := hD
  refine lv_aload_n hx hb dX1_init_18 rfl (lv_at hl 0 rfl) ?_
  refine lv_bipush (v := x_I 8) hx hb dX1_init_19 (by decide) ?_
  refine y_newi hx hb hts hK hP hD hS hA (n := x_I 8) (N' := 8) (by decide) (by decide) (Nat.le_of_ble_eq_true rfl) (Nat.le_of_ble_eq_true rfl) (Nat.le_of_ble_eq_true rfl) dX1_init_21 (fun q3 H hP hD hS => ?_)
  have hP : va_P D vwCl ((h0, .inr (1, [.int 0, .ref q1, .ref q2, .int 0, .null, .null, .int 0, .null, .int 0, .null])) :: (([(q1, .inl (cI, 5, .inl (fun _ => x_I 0)))] ++ [(q2, .inl (cI, 5, .inl (fun _ => x_I 0)))]) ++ [(q3, .inl (cI, 8, .inl (fun _ => x_I 0)))])) H := hP
  have hD : va_D A ((h0, .inr (1, [.int 0, .ref q1, .ref q2, .int 0, .null, .null, .int 0, .null, .int 0, .null])) :: (([(q1, .inl (cI, 5, .inl (fun _ => x_I 0)))] ++ [(q2, .inl (cI, 5, .inl (fun _ => x_I 0)))]) ++ [(q3, .inl (cI, 8, .inl (fun _ => x_I 0)))])) := hD
  refine va_putF (D := D) (ci := 1) (v := .ref q3) (ty := tyX1 4) (C := RX1) (T := TX1) (N := 10) hx hb hts (x_lay inX1) tyX1 tyX1_ok nmX1 hown hK hP hD hS 0 rfl rfl 4 (by decide) (hts _ (x_mem fk_RX1_18 rfl)) (fun _ h9 => h9) rfl hin rfl (tyX1_ok 4 (by decide)) rfl rfl (Nat.le_of_ble_eq_true rfl) dX1_init_23 (fun H locs hP hD hS => ?_)
  have hP : va_P D vwCl ((h0, .inr (1, [.int 0, .ref q1, .ref q2, .int 0, .ref q3, .null, .int 0, .null, .int 0, .null])) :: (([(q1, .inl (cI, 5, .inl (fun _ => x_I 0)))] ++ [(q2, .inl (cI, 5, .inl (fun _ => x_I 0)))]) ++ [(q3, .inl (cI, 8, .inl (fun _ => x_I 0)))])) H := hP
  have hD : va_D A ((h0, .inr (1, [.int 0, .ref q1, .ref q2, .int 0, .ref q3, .null, .int 0, .null, .int 0, .null])) :: (([(q1, .inl (cI, 5, .inl (fun _ => x_I 0)))] ++ [(q2, .inl (cI, 5, .inl (fun _ => x_I 0)))]) ++ [(q3, .inl (cI, 8, .inl (fun _ => x_I 0)))])) := hD
  refine lv_aload_n hx hb dX1_init_26 rfl (lv_at hl 0 rfl) ?_
  refine lv_bipush (v := x_I 8) hx hb dX1_init_27 (by decide) ?_
  refine y_newi hx hb hts hK hP hD hS hA (n := x_I 8) (N' := 8) (by decide) (by decide) (Nat.le_of_ble_eq_true rfl) (Nat.le_of_ble_eq_true rfl) (Nat.le_of_ble_eq_true rfl) dX1_init_29 (fun q4 H hP hD hS => ?_)
  have hP : va_P D vwCl ((h0, .inr (1, [.int 0, .ref q1, .ref q2, .int 0, .ref q3, .null, .int 0, .null, .int 0, .null])) :: ((([(q1, .inl (cI, 5, .inl (fun _ => x_I 0)))] ++ [(q2, .inl (cI, 5, .inl (fun _ => x_I 0)))]) ++ [(q3, .inl (cI, 8, .inl (fun _ => x_I 0)))]) ++ [(q4, .inl (cI, 8, .inl (fun _ => x_I 0)))])) H := hP
  have hD : va_D A ((h0, .inr (1, [.int 0, .ref q1, .ref q2, .int 0, .ref q3, .null, .int 0, .null, .int 0, .null])) :: ((([(q1, .inl (cI, 5, .inl (fun _ => x_I 0)))] ++ [(q2, .inl (cI, 5, .inl (fun _ => x_I 0)))]) ++ [(q3, .inl (cI, 8, .inl (fun _ => x_I 0)))]) ++ [(q4, .inl (cI, 8, .inl (fun _ => x_I 0)))])) := hD
  refine va_putF (D := D) (ci := 1) (v := .ref q4) (ty := tyX1 5) (C := RX1) (T := TX1) (N := 10) hx hb hts (x_lay inX1) tyX1 tyX1_ok nmX1 hown hK hP hD hS 0 rfl rfl 5 (by decide) (hts _ (x_mem fk_RX1_21 rfl)) (fun _ h9 => h9) rfl hin rfl (tyX1_ok 5 (by decide)) rfl rfl (Nat.le_of_ble_eq_true rfl) dX1_init_31 (fun H locs hP hD hS => ?_)
  have hP : va_P D vwCl ((h0, .inr (1, [.int 0, .ref q1, .ref q2, .int 0, .ref q3, .ref q4, .int 0, .null, .int 0, .null])) :: ((([(q1, .inl (cI, 5, .inl (fun _ => x_I 0)))] ++ [(q2, .inl (cI, 5, .inl (fun _ => x_I 0)))]) ++ [(q3, .inl (cI, 8, .inl (fun _ => x_I 0)))]) ++ [(q4, .inl (cI, 8, .inl (fun _ => x_I 0)))])) H := hP
  have hD : va_D A ((h0, .inr (1, [.int 0, .ref q1, .ref q2, .int 0, .ref q3, .ref q4, .int 0, .null, .int 0, .null])) :: ((([(q1, .inl (cI, 5, .inl (fun _ => x_I 0)))] ++ [(q2, .inl (cI, 5, .inl (fun _ => x_I 0)))]) ++ [(q3, .inl (cI, 8, .inl (fun _ => x_I 0)))]) ++ [(q4, .inl (cI, 8, .inl (fun _ => x_I 0)))])) := hD
  refine lv_aload_n hx hb dX1_init_34 rfl (lv_at hl 0 rfl) ?_
  refine lv_bipush (v := x_I 9) hx hb dX1_init_35 (by decide) ?_
  refine y_newi hx hb hts hK hP hD hS hA (n := x_I 9) (N' := 9) (by decide) (by decide) (Nat.le_of_ble_eq_true rfl) (Nat.le_of_ble_eq_true rfl) (Nat.le_of_ble_eq_true rfl) dX1_init_37 (fun q5 H hP hD hS => ?_)
  have hP : va_P D vwCl ((h0, .inr (1, [.int 0, .ref q1, .ref q2, .int 0, .ref q3, .ref q4, .int 0, .null, .int 0, .null])) :: (((([(q1, .inl (cI, 5, .inl (fun _ => x_I 0)))] ++ [(q2, .inl (cI, 5, .inl (fun _ => x_I 0)))]) ++ [(q3, .inl (cI, 8, .inl (fun _ => x_I 0)))]) ++ [(q4, .inl (cI, 8, .inl (fun _ => x_I 0)))]) ++ [(q5, .inl (cI, 9, .inl (fun _ => x_I 0)))])) H := hP
  have hD : va_D A ((h0, .inr (1, [.int 0, .ref q1, .ref q2, .int 0, .ref q3, .ref q4, .int 0, .null, .int 0, .null])) :: (((([(q1, .inl (cI, 5, .inl (fun _ => x_I 0)))] ++ [(q2, .inl (cI, 5, .inl (fun _ => x_I 0)))]) ++ [(q3, .inl (cI, 8, .inl (fun _ => x_I 0)))]) ++ [(q4, .inl (cI, 8, .inl (fun _ => x_I 0)))]) ++ [(q5, .inl (cI, 9, .inl (fun _ => x_I 0)))])) := hD
  refine lv_dup hx hb dX1_init_39 rfl ?_
  refine lv_iconst (v := x_I 0) hx hb dX1_init_40 rfl ?_
  refine lv_sipush (v := x_I 300) hx hb dX1_init_41 (by decide) ?_
  refine va_iast hx hb hK hP hD hS 5 0 rfl rfl (x_vpin (a := 0) (by decide) (by decide) (by decide)) dX1_init_44 (fun H locs hP hD hS => ?_)
  have hP : va_P D vwCl ((h0, .inr (1, [.int 0, .ref q1, .ref q2, .int 0, .ref q3, .ref q4, .int 0, .null, .int 0, .null])) :: (((([(q1, .inl (cI, 5, .inl (fun _ => x_I 0)))] ++ [(q2, .inl (cI, 5, .inl (fun _ => x_I 0)))]) ++ [(q3, .inl (cI, 8, .inl (fun _ => x_I 0)))]) ++ [(q4, .inl (cI, 8, .inl (fun _ => x_I 0)))]) ++ [(q5, .inl (cI, 9, .inl (upd (fun _ => x_I 0) 0 (x_I 300))))])) H := hP
  have hD : va_D A ((h0, .inr (1, [.int 0, .ref q1, .ref q2, .int 0, .ref q3, .ref q4, .int 0, .null, .int 0, .null])) :: (((([(q1, .inl (cI, 5, .inl (fun _ => x_I 0)))] ++ [(q2, .inl (cI, 5, .inl (fun _ => x_I 0)))]) ++ [(q3, .inl (cI, 8, .inl (fun _ => x_I 0)))]) ++ [(q4, .inl (cI, 8, .inl (fun _ => x_I 0)))]) ++ [(q5, .inl (cI, 9, .inl (upd (fun _ => x_I 0) 0 (x_I 300))))])) := hD
  refine lv_dup hx hb dX1_init_45 rfl ?_
  refine lv_iconst (v := x_I 1) hx hb dX1_init_46 rfl ?_
  refine lv_sipush (v := x_I 600) hx hb dX1_init_47 (by decide) ?_
  refine va_iast hx hb hK hP hD hS 5 0 rfl rfl (x_vpin (a := 1) (by decide) (by decide) (by decide)) dX1_init_50 (fun H locs hP hD hS => ?_)
  have hP : va_P D vwCl ((h0, .inr (1, [.int 0, .ref q1, .ref q2, .int 0, .ref q3, .ref q4, .int 0, .null, .int 0, .null])) :: (((([(q1, .inl (cI, 5, .inl (fun _ => x_I 0)))] ++ [(q2, .inl (cI, 5, .inl (fun _ => x_I 0)))]) ++ [(q3, .inl (cI, 8, .inl (fun _ => x_I 0)))]) ++ [(q4, .inl (cI, 8, .inl (fun _ => x_I 0)))]) ++ [(q5, .inl (cI, 9, .inl (upd (upd (fun _ => x_I 0) 0 (x_I 300)) 1 (x_I 600))))])) H := hP
  have hD : va_D A ((h0, .inr (1, [.int 0, .ref q1, .ref q2, .int 0, .ref q3, .ref q4, .int 0, .null, .int 0, .null])) :: (((([(q1, .inl (cI, 5, .inl (fun _ => x_I 0)))] ++ [(q2, .inl (cI, 5, .inl (fun _ => x_I 0)))]) ++ [(q3, .inl (cI, 8, .inl (fun _ => x_I 0)))]) ++ [(q4, .inl (cI, 8, .inl (fun _ => x_I 0)))]) ++ [(q5, .inl (cI, 9, .inl (upd (upd (fun _ => x_I 0) 0 (x_I 300)) 1 (x_I 600))))])) := hD
  refine lv_dup hx hb dX1_init_51 rfl ?_
  refine lv_iconst (v := x_I 2) hx hb dX1_init_52 rfl ?_
  refine lv_bipush (v := x_I 20) hx hb dX1_init_53 (by decide) ?_
  refine va_iast hx hb hK hP hD hS 5 0 rfl rfl (x_vpin (a := 2) (by decide) (by decide) (by decide)) dX1_init_55 (fun H locs hP hD hS => ?_)
  have hP : va_P D vwCl ((h0, .inr (1, [.int 0, .ref q1, .ref q2, .int 0, .ref q3, .ref q4, .int 0, .null, .int 0, .null])) :: (((([(q1, .inl (cI, 5, .inl (fun _ => x_I 0)))] ++ [(q2, .inl (cI, 5, .inl (fun _ => x_I 0)))]) ++ [(q3, .inl (cI, 8, .inl (fun _ => x_I 0)))]) ++ [(q4, .inl (cI, 8, .inl (fun _ => x_I 0)))]) ++ [(q5, .inl (cI, 9, .inl (upd (upd (upd (fun _ => x_I 0) 0 (x_I 300)) 1 (x_I 600)) 2 (x_I 20))))])) H := hP
  have hD : va_D A ((h0, .inr (1, [.int 0, .ref q1, .ref q2, .int 0, .ref q3, .ref q4, .int 0, .null, .int 0, .null])) :: (((([(q1, .inl (cI, 5, .inl (fun _ => x_I 0)))] ++ [(q2, .inl (cI, 5, .inl (fun _ => x_I 0)))]) ++ [(q3, .inl (cI, 8, .inl (fun _ => x_I 0)))]) ++ [(q4, .inl (cI, 8, .inl (fun _ => x_I 0)))]) ++ [(q5, .inl (cI, 9, .inl (upd (upd (upd (fun _ => x_I 0) 0 (x_I 300)) 1 (x_I 600)) 2 (x_I 20))))])) := hD
  refine lv_dup hx hb dX1_init_56 rfl ?_
  refine lv_iconst (v := x_I 3) hx hb dX1_init_57 rfl ?_
  refine lv_iconst (v := x_I 3) hx hb dX1_init_58 rfl ?_
  refine va_iast hx hb hK hP hD hS 5 0 rfl rfl (x_vpin (a := 3) (by decide) (by decide) (by decide)) dX1_init_59 (fun H locs hP hD hS => ?_)
  have hP : va_P D vwCl ((h0, .inr (1, [.int 0, .ref q1, .ref q2, .int 0, .ref q3, .ref q4, .int 0, .null, .int 0, .null])) :: (((([(q1, .inl (cI, 5, .inl (fun _ => x_I 0)))] ++ [(q2, .inl (cI, 5, .inl (fun _ => x_I 0)))]) ++ [(q3, .inl (cI, 8, .inl (fun _ => x_I 0)))]) ++ [(q4, .inl (cI, 8, .inl (fun _ => x_I 0)))]) ++ [(q5, .inl (cI, 9, .inl (upd (upd (upd (upd (fun _ => x_I 0) 0 (x_I 300)) 1 (x_I 600)) 2 (x_I 20)) 3 (x_I 3))))])) H := hP
  have hD : va_D A ((h0, .inr (1, [.int 0, .ref q1, .ref q2, .int 0, .ref q3, .ref q4, .int 0, .null, .int 0, .null])) :: (((([(q1, .inl (cI, 5, .inl (fun _ => x_I 0)))] ++ [(q2, .inl (cI, 5, .inl (fun _ => x_I 0)))]) ++ [(q3, .inl (cI, 8, .inl (fun _ => x_I 0)))]) ++ [(q4, .inl (cI, 8, .inl (fun _ => x_I 0)))]) ++ [(q5, .inl (cI, 9, .inl (upd (upd (upd (upd (fun _ => x_I 0) 0 (x_I 300)) 1 (x_I 600)) 2 (x_I 20)) 3 (x_I 3))))])) := hD
  refine lv_dup hx hb dX1_init_60 rfl ?_
  refine lv_iconst (v := x_I 4) hx hb dX1_init_61 rfl ?_
  refine lv_iconst (v := x_I 2) hx hb dX1_init_62 rfl ?_
  refine va_iast hx hb hK hP hD hS 5 0 rfl rfl (x_vpin (a := 4) (by decide) (by decide) (by decide)) dX1_init_63 (fun H locs hP hD hS => ?_)
  have hP : va_P D vwCl ((h0, .inr (1, [.int 0, .ref q1, .ref q2, .int 0, .ref q3, .ref q4, .int 0, .null, .int 0, .null])) :: (((([(q1, .inl (cI, 5, .inl (fun _ => x_I 0)))] ++ [(q2, .inl (cI, 5, .inl (fun _ => x_I 0)))]) ++ [(q3, .inl (cI, 8, .inl (fun _ => x_I 0)))]) ++ [(q4, .inl (cI, 8, .inl (fun _ => x_I 0)))]) ++ [(q5, .inl (cI, 9, .inl (upd (upd (upd (upd (upd (fun _ => x_I 0) 0 (x_I 300)) 1 (x_I 600)) 2 (x_I 20)) 3 (x_I 3)) 4 (x_I 2))))])) H := hP
  have hD : va_D A ((h0, .inr (1, [.int 0, .ref q1, .ref q2, .int 0, .ref q3, .ref q4, .int 0, .null, .int 0, .null])) :: (((([(q1, .inl (cI, 5, .inl (fun _ => x_I 0)))] ++ [(q2, .inl (cI, 5, .inl (fun _ => x_I 0)))]) ++ [(q3, .inl (cI, 8, .inl (fun _ => x_I 0)))]) ++ [(q4, .inl (cI, 8, .inl (fun _ => x_I 0)))]) ++ [(q5, .inl (cI, 9, .inl (upd (upd (upd (upd (upd (fun _ => x_I 0) 0 (x_I 300)) 1 (x_I 600)) 2 (x_I 20)) 3 (x_I 3)) 4 (x_I 2))))])) := hD
  refine lv_dup hx hb dX1_init_64 rfl ?_
  refine lv_iconst (v := x_I 5) hx hb dX1_init_65 rfl ?_
  refine lv_iconst (v := x_I 5) hx hb dX1_init_66 rfl ?_
  refine va_iast hx hb hK hP hD hS 5 0 rfl rfl (x_vpin (a := 5) (by decide) (by decide) (by decide)) dX1_init_67 (fun H locs hP hD hS => ?_)
  have hP : va_P D vwCl ((h0, .inr (1, [.int 0, .ref q1, .ref q2, .int 0, .ref q3, .ref q4, .int 0, .null, .int 0, .null])) :: (((([(q1, .inl (cI, 5, .inl (fun _ => x_I 0)))] ++ [(q2, .inl (cI, 5, .inl (fun _ => x_I 0)))]) ++ [(q3, .inl (cI, 8, .inl (fun _ => x_I 0)))]) ++ [(q4, .inl (cI, 8, .inl (fun _ => x_I 0)))]) ++ [(q5, .inl (cI, 9, .inl (upd (upd (upd (upd (upd (upd (fun _ => x_I 0) 0 (x_I 300)) 1 (x_I 600)) 2 (x_I 20)) 3 (x_I 3)) 4 (x_I 2)) 5 (x_I 5))))])) H := hP
  have hD : va_D A ((h0, .inr (1, [.int 0, .ref q1, .ref q2, .int 0, .ref q3, .ref q4, .int 0, .null, .int 0, .null])) :: (((([(q1, .inl (cI, 5, .inl (fun _ => x_I 0)))] ++ [(q2, .inl (cI, 5, .inl (fun _ => x_I 0)))]) ++ [(q3, .inl (cI, 8, .inl (fun _ => x_I 0)))]) ++ [(q4, .inl (cI, 8, .inl (fun _ => x_I 0)))]) ++ [(q5, .inl (cI, 9, .inl (upd (upd (upd (upd (upd (upd (fun _ => x_I 0) 0 (x_I 300)) 1 (x_I 600)) 2 (x_I 20)) 3 (x_I 3)) 4 (x_I 2)) 5 (x_I 5))))])) := hD
  refine lv_dup hx hb dX1_init_68 rfl ?_
  refine lv_bipush (v := x_I 6) hx hb dX1_init_69 (by decide) ?_
  refine lv_iconst (v := x_I 0) hx hb dX1_init_71 rfl ?_
  refine va_iast hx hb hK hP hD hS 5 0 rfl rfl (x_vpin (a := 6) (by decide) (by decide) (by decide)) dX1_init_72 (fun H locs hP hD hS => ?_)
  have hP : va_P D vwCl ((h0, .inr (1, [.int 0, .ref q1, .ref q2, .int 0, .ref q3, .ref q4, .int 0, .null, .int 0, .null])) :: (((([(q1, .inl (cI, 5, .inl (fun _ => x_I 0)))] ++ [(q2, .inl (cI, 5, .inl (fun _ => x_I 0)))]) ++ [(q3, .inl (cI, 8, .inl (fun _ => x_I 0)))]) ++ [(q4, .inl (cI, 8, .inl (fun _ => x_I 0)))]) ++ [(q5, .inl (cI, 9, .inl (upd (upd (upd (upd (upd (upd (upd (fun _ => x_I 0) 0 (x_I 300)) 1 (x_I 600)) 2 (x_I 20)) 3 (x_I 3)) 4 (x_I 2)) 5 (x_I 5)) 6 (x_I 0))))])) H := hP
  have hD : va_D A ((h0, .inr (1, [.int 0, .ref q1, .ref q2, .int 0, .ref q3, .ref q4, .int 0, .null, .int 0, .null])) :: (((([(q1, .inl (cI, 5, .inl (fun _ => x_I 0)))] ++ [(q2, .inl (cI, 5, .inl (fun _ => x_I 0)))]) ++ [(q3, .inl (cI, 8, .inl (fun _ => x_I 0)))]) ++ [(q4, .inl (cI, 8, .inl (fun _ => x_I 0)))]) ++ [(q5, .inl (cI, 9, .inl (upd (upd (upd (upd (upd (upd (upd (fun _ => x_I 0) 0 (x_I 300)) 1 (x_I 600)) 2 (x_I 20)) 3 (x_I 3)) 4 (x_I 2)) 5 (x_I 5)) 6 (x_I 0))))])) := hD
  refine lv_dup hx hb dX1_init_73 rfl ?_
  refine lv_bipush (v := x_I 7) hx hb dX1_init_74 (by decide) ?_
  refine lv_iconst (v := x_I 0) hx hb dX1_init_76 rfl ?_
  refine va_iast hx hb hK hP hD hS 5 0 rfl rfl (x_vpin (a := 7) (by decide) (by decide) (by decide)) dX1_init_77 (fun H locs hP hD hS => ?_)
  have hP : va_P D vwCl ((h0, .inr (1, [.int 0, .ref q1, .ref q2, .int 0, .ref q3, .ref q4, .int 0, .null, .int 0, .null])) :: (((([(q1, .inl (cI, 5, .inl (fun _ => x_I 0)))] ++ [(q2, .inl (cI, 5, .inl (fun _ => x_I 0)))]) ++ [(q3, .inl (cI, 8, .inl (fun _ => x_I 0)))]) ++ [(q4, .inl (cI, 8, .inl (fun _ => x_I 0)))]) ++ [(q5, .inl (cI, 9, .inl (upd (upd (upd (upd (upd (upd (upd (upd (fun _ => x_I 0) 0 (x_I 300)) 1 (x_I 600)) 2 (x_I 20)) 3 (x_I 3)) 4 (x_I 2)) 5 (x_I 5)) 6 (x_I 0)) 7 (x_I 0))))])) H := hP
  have hD : va_D A ((h0, .inr (1, [.int 0, .ref q1, .ref q2, .int 0, .ref q3, .ref q4, .int 0, .null, .int 0, .null])) :: (((([(q1, .inl (cI, 5, .inl (fun _ => x_I 0)))] ++ [(q2, .inl (cI, 5, .inl (fun _ => x_I 0)))]) ++ [(q3, .inl (cI, 8, .inl (fun _ => x_I 0)))]) ++ [(q4, .inl (cI, 8, .inl (fun _ => x_I 0)))]) ++ [(q5, .inl (cI, 9, .inl (upd (upd (upd (upd (upd (upd (upd (upd (fun _ => x_I 0) 0 (x_I 300)) 1 (x_I 600)) 2 (x_I 20)) 3 (x_I 3)) 4 (x_I 2)) 5 (x_I 5)) 6 (x_I 0)) 7 (x_I 0))))])) := hD
  refine lv_dup hx hb dX1_init_78 rfl ?_
  refine lv_bipush (v := x_I 8) hx hb dX1_init_79 (by decide) ?_
  refine lv_iconst (v := x_I 0) hx hb dX1_init_81 rfl ?_
  refine va_iast hx hb hK hP hD hS 5 0 rfl rfl (x_vpin (a := 8) (by decide) (by decide) (by decide)) dX1_init_82 (fun H locs hP hD hS => ?_)
  have hP : va_P D vwCl ((h0, .inr (1, [.int 0, .ref q1, .ref q2, .int 0, .ref q3, .ref q4, .int 0, .null, .int 0, .null])) :: (((([(q1, .inl (cI, 5, .inl (fun _ => x_I 0)))] ++ [(q2, .inl (cI, 5, .inl (fun _ => x_I 0)))]) ++ [(q3, .inl (cI, 8, .inl (fun _ => x_I 0)))]) ++ [(q4, .inl (cI, 8, .inl (fun _ => x_I 0)))]) ++ [(q5, .inl (cI, 9, .inl (upd (upd (upd (upd (upd (upd (upd (upd (upd (fun _ => x_I 0) 0 (x_I 300)) 1 (x_I 600)) 2 (x_I 20)) 3 (x_I 3)) 4 (x_I 2)) 5 (x_I 5)) 6 (x_I 0)) 7 (x_I 0)) 8 (x_I 0))))])) H := hP
  have hD : va_D A ((h0, .inr (1, [.int 0, .ref q1, .ref q2, .int 0, .ref q3, .ref q4, .int 0, .null, .int 0, .null])) :: (((([(q1, .inl (cI, 5, .inl (fun _ => x_I 0)))] ++ [(q2, .inl (cI, 5, .inl (fun _ => x_I 0)))]) ++ [(q3, .inl (cI, 8, .inl (fun _ => x_I 0)))]) ++ [(q4, .inl (cI, 8, .inl (fun _ => x_I 0)))]) ++ [(q5, .inl (cI, 9, .inl (upd (upd (upd (upd (upd (upd (upd (upd (upd (fun _ => x_I 0) 0 (x_I 300)) 1 (x_I 600)) 2 (x_I 20)) 3 (x_I 3)) 4 (x_I 2)) 5 (x_I 5)) 6 (x_I 0)) 7 (x_I 0)) 8 (x_I 0))))])) := hD
  refine va_putF (D := D) (ci := 1) (v := .ref q5) (ty := tyX1 7) (C := RX1) (T := TX1) (N := 10) hx hb hts (x_lay inX1) tyX1 tyX1_ok nmX1 hown hK hP hD hS 0 rfl rfl 7 (by decide) (hts _ (x_mem fk_RX1_24 rfl)) (fun _ h9 => h9) rfl hin rfl (tyX1_ok 7 (by decide)) rfl rfl (Nat.le_of_ble_eq_true rfl) dX1_init_83 (fun H locs hP hD hS => ?_)
  have hP : va_P D vwCl ((h0, .inr (1, [.int 0, .ref q1, .ref q2, .int 0, .ref q3, .ref q4, .int 0, .ref q5, .int 0, .null])) :: (((([(q1, .inl (cI, 5, .inl (fun _ => x_I 0)))] ++ [(q2, .inl (cI, 5, .inl (fun _ => x_I 0)))]) ++ [(q3, .inl (cI, 8, .inl (fun _ => x_I 0)))]) ++ [(q4, .inl (cI, 8, .inl (fun _ => x_I 0)))]) ++ [(q5, .inl (cI, 9, .inl (upd (upd (upd (upd (upd (upd (upd (upd (upd (fun _ => x_I 0) 0 (x_I 300)) 1 (x_I 600)) 2 (x_I 20)) 3 (x_I 3)) 4 (x_I 2)) 5 (x_I 5)) 6 (x_I 0)) 7 (x_I 0)) 8 (x_I 0))))])) H := hP
  have hD : va_D A ((h0, .inr (1, [.int 0, .ref q1, .ref q2, .int 0, .ref q3, .ref q4, .int 0, .ref q5, .int 0, .null])) :: (((([(q1, .inl (cI, 5, .inl (fun _ => x_I 0)))] ++ [(q2, .inl (cI, 5, .inl (fun _ => x_I 0)))]) ++ [(q3, .inl (cI, 8, .inl (fun _ => x_I 0)))]) ++ [(q4, .inl (cI, 8, .inl (fun _ => x_I 0)))]) ++ [(q5, .inl (cI, 9, .inl (upd (upd (upd (upd (upd (upd (upd (upd (upd (fun _ => x_I 0) 0 (x_I 300)) 1 (x_I 600)) 2 (x_I 20)) 3 (x_I 3)) 4 (x_I 2)) 5 (x_I 5)) 6 (x_I 0)) 7 (x_I 0)) 8 (x_I 0))))])) := hD
  refine lv_aload_n hx hb dX1_init_86 rfl (lv_at hl 0 rfl) ?_
  refine lv_bipush (v := x_I 8) hx hb dX1_init_87 (by decide) ?_
  refine y_newi hx hb hts hK hP hD hS hA (n := x_I 8) (N' := 8) (by decide) (by decide) (Nat.le_of_ble_eq_true rfl) (Nat.le_of_ble_eq_true rfl) (Nat.le_of_ble_eq_true rfl) dX1_init_89 (fun q6 H hP hD hS => ?_)
  have hP : va_P D vwCl ((h0, .inr (1, [.int 0, .ref q1, .ref q2, .int 0, .ref q3, .ref q4, .int 0, .ref q5, .int 0, .null])) :: ((((([(q1, .inl (cI, 5, .inl (fun _ => x_I 0)))] ++ [(q2, .inl (cI, 5, .inl (fun _ => x_I 0)))]) ++ [(q3, .inl (cI, 8, .inl (fun _ => x_I 0)))]) ++ [(q4, .inl (cI, 8, .inl (fun _ => x_I 0)))]) ++ [(q5, .inl (cI, 9, .inl (upd (upd (upd (upd (upd (upd (upd (upd (upd (fun _ => x_I 0) 0 (x_I 300)) 1 (x_I 600)) 2 (x_I 20)) 3 (x_I 3)) 4 (x_I 2)) 5 (x_I 5)) 6 (x_I 0)) 7 (x_I 0)) 8 (x_I 0))))]) ++ [(q6, .inl (cI, 8, .inl (fun _ => x_I 0)))])) H := hP
  have hD : va_D A ((h0, .inr (1, [.int 0, .ref q1, .ref q2, .int 0, .ref q3, .ref q4, .int 0, .ref q5, .int 0, .null])) :: ((((([(q1, .inl (cI, 5, .inl (fun _ => x_I 0)))] ++ [(q2, .inl (cI, 5, .inl (fun _ => x_I 0)))]) ++ [(q3, .inl (cI, 8, .inl (fun _ => x_I 0)))]) ++ [(q4, .inl (cI, 8, .inl (fun _ => x_I 0)))]) ++ [(q5, .inl (cI, 9, .inl (upd (upd (upd (upd (upd (upd (upd (upd (upd (fun _ => x_I 0) 0 (x_I 300)) 1 (x_I 600)) 2 (x_I 20)) 3 (x_I 3)) 4 (x_I 2)) 5 (x_I 5)) 6 (x_I 0)) 7 (x_I 0)) 8 (x_I 0))))]) ++ [(q6, .inl (cI, 8, .inl (fun _ => x_I 0)))])) := hD
  refine va_putF (D := D) (ci := 1) (v := .ref q6) (ty := tyX1 9) (C := RX1) (T := TX1) (N := 10) hx hb hts (x_lay inX1) tyX1 tyX1_ok nmX1 hown hK hP hD hS 0 rfl rfl 9 (by decide) (hts _ (x_mem fk_RX1_27 rfl)) (fun _ h9 => h9) rfl hin rfl (tyX1_ok 9 (by decide)) rfl rfl (Nat.le_of_ble_eq_true rfl) dX1_init_91 (fun H locs hP hD hS => ?_)
  have hP : va_P D vwCl ((h0, .inr (1, [.int 0, .ref q1, .ref q2, .int 0, .ref q3, .ref q4, .int 0, .ref q5, .int 0, .ref q6])) :: ((((([(q1, .inl (cI, 5, .inl (fun _ => x_I 0)))] ++ [(q2, .inl (cI, 5, .inl (fun _ => x_I 0)))]) ++ [(q3, .inl (cI, 8, .inl (fun _ => x_I 0)))]) ++ [(q4, .inl (cI, 8, .inl (fun _ => x_I 0)))]) ++ [(q5, .inl (cI, 9, .inl (upd (upd (upd (upd (upd (upd (upd (upd (upd (fun _ => x_I 0) 0 (x_I 300)) 1 (x_I 600)) 2 (x_I 20)) 3 (x_I 3)) 4 (x_I 2)) 5 (x_I 5)) 6 (x_I 0)) 7 (x_I 0)) 8 (x_I 0))))]) ++ [(q6, .inl (cI, 8, .inl (fun _ => x_I 0)))])) H := hP
  have hD : va_D A ((h0, .inr (1, [.int 0, .ref q1, .ref q2, .int 0, .ref q3, .ref q4, .int 0, .ref q5, .int 0, .ref q6])) :: ((((([(q1, .inl (cI, 5, .inl (fun _ => x_I 0)))] ++ [(q2, .inl (cI, 5, .inl (fun _ => x_I 0)))]) ++ [(q3, .inl (cI, 8, .inl (fun _ => x_I 0)))]) ++ [(q4, .inl (cI, 8, .inl (fun _ => x_I 0)))]) ++ [(q5, .inl (cI, 9, .inl (upd (upd (upd (upd (upd (upd (upd (upd (upd (fun _ => x_I 0) 0 (x_I 300)) 1 (x_I 600)) 2 (x_I 20)) 3 (x_I 3)) 4 (x_I 2)) 5 (x_I 5)) 6 (x_I 0)) 7 (x_I 0)) 8 (x_I 0))))]) ++ [(q6, .inl (cI, 8, .inl (fun _ => x_I 0)))])) := hD
  rw [e_set1] at hP hD
  refine W.widen (k := 6) (n := 43) (Nat.le_of_ble_eq_true rfl) (Nat.le_of_ble_eq_true rfl) ?_
  have hP9 := hP.sub (ws' := x_w cI cZ (fun k => ([h0, q1, q2, q3, q4, q5, q6] : List Nat).getD k 0) shHill mu_Hill) [0, 1, 2, 3, 4, 5, 6] rfl
  have hD9 := hD.sub (ws' := x_w cI cZ (fun k => ([h0, q1, q2, q3, q4, q5, q6] : List Nat).getD k 0) shHill mu_Hill) [0, 1, 2, 3, 4, 5, 6] (by decide) rfl
  exact W.vret hx hb hr (fun t ht hW => ⟨⟨_, rfl, rfl, by rw [ht]; exact hP9, hD9⟩, hS.F ht⟩) hS.2.2 dX1_init_94
set_option maxRecDepth 100000 in
set_option maxHeartbeats 4000000 in
theorem y_X4_init : yCt yX4_init cX4_init 4 [.null, .int 0, .int 0, .null, .int 0, .int 0, .int 0, .int 0, .null, .null, .int 0, .int 0, .int 0, .int 0, .int 0] shTr mu_0 1 4 14 := by
  intro l D cI cZ h0 sz
  refine Met.ofW (cc := cX4_init) (maxL := 1) (ret := none) (by decide) rfl ?_
  intro p e s m args below meth c s₁ B hml hv
  obtain ⟨rfl, hsz, hP, hK, hD0⟩ := hv
  have hx := B.exec
  have hb := B.bytes
  have hr := B.returns
  have hts0 := atoms_spec (ws := Cond.code yX4_init cX4_init 1 none :: x_tbl) B.pre
  have hts : ∀ w ∈ x_tbl, w.before _ s = true := fun w h => hts0 w (List.mem_cons_of_mem _ h)
  have hown : s.vm.findClass RX4 = some m.cls := findClass_of_methodNamed B.named
  have hin : meth.name = "<init>" := (name_of_methodNamed B.named B.method).1
  subst hsz
  have hD := hD0.self (sz := s.heap.size)
  generalize hAe : va_A [(h0, .inr (4, [.null, .int 0, .int 0, .null, .int 0, .int 0, .int 0, .int 0, .null, .null, .int 0, .int 0, .int 0, .int 0, .int 0]))] s.heap.size = A at hD ⊢
  have hA : ∀ q : Nat, s.heap.size ≤ q → A q := fun q h => by rw [← hAe]; exact Or.inr h
  have hS : va_S A s.heap s.heap [] := va_S.rf
  have hl := lv_entry ([.ref h0]) (n := 1) (Nat.le_of_ble_eq_true rfl)
  rw [lg_entry_eq]
  generalize (lg_sl ([.ref h0]) ++ List.replicate (1 - (lg_sl ([.ref h0])).length) Slot.unset).toArray = ls at hl ⊢
  have hl : lv_has ls 1 [(0, .ref h0)] := hl
  have hP : va_P D vwCl ([(h0, .inr (4, [.null, .int 0, .int 0, .null, .int 0, .int 0, .int 0, .int 0, .null, .null, .int 0, .int 0, .int 0, .int 0, .int 0]))]) s.heap := hP
  have hD : va_D A ([(h0, .inr (4, [.null, .int 0, .int 0, .null, .int 0, .int 0, .int 0, .int 0, .null, .null, .int 0, .int 0, .int 0, .int 0, .int 0]))]) := hD
  refine lv_aload_n hx hb dX4_init_0 rfl (lv_at hl 0 rfl) ?_
  refine W.objInit hx hb hown (hts _ (x_mem lk_RX4_3 rfl)) (hts _ (x_mem mi_objectInit rfl)) (hts _ (x_mem mc_objectInit rfl)) rfl (by rw [hml]; exact hl.1) rfl dX4_init_1 (Nat.le_of_ble_eq_true rfl) (Nat.le_of_ble_eq_true rfl) ?_
  refine W.eq (g2 := F0 m 4 ls []) rfl ?_
  refine lv_aload_n hx hb dX4_init_4 rfl (lv_at hl 0 rfl) ?_
  refine lv_iconst (v := x_I 3) hx hb dX4_init_5 rfl ?_
  refine y_newi hx hb hts hK hP hD hS hA (n := x_I 3) (N' := 3) (by decide) (by decide) (Nat.le_of_ble_eq_true rfl) (Nat.le_of_ble_eq_true rfl) (Nat.le_of_ble_eq_true rfl) dX4_init_6 (fun q1 H hP hD hS => ?_)
  have hP : va_P D vwCl ((h0, .inr (4, [.null, .int 0, .int 0, .null, .int 0, .int 0, .int 0, .int 0, .null, .null, .int 0, .int 0, .int 0, .int 0, .int 0])) :: [(q1, .inl (cI, 3, .inl (fun _ => x_I 0)))]) H := hP
  have hD : va_D A ((h0, .inr (4, [.null, .int 0, .int 0, .null, .int 0, .int 0, .int 0, .int 0, .null, .null, .int 0, .int 0, .int 0, .int 0, .int 0])) :: [(q1, .inl (cI, 3, .inl (fun _ => x_I 0)))]) := hD
  refine va_putF (D := D) (ci := 4) (v := .ref q1) (ty := tyX4 0) (C := RX4) (T := TX4) (N := 15) hx hb hts (x_lay inX4) tyX4 tyX4_ok nmX4 hown hK hP hD hS 0 rfl rfl 0 (by decide) (hts _ (x_mem fk_RX4_9 rfl)) (fun _ h9 => h9) rfl hin rfl (tyX4_ok 0 (by decide)) rfl rfl (Nat.le_of_ble_eq_true rfl) dX4_init_8 (fun H locs hP hD hS => ?_)
  have hP : va_P D vwCl ((h0, .inr (4, [.ref q1, .int 0, .int 0, .null, .int 0, .int 0, .int 0, .int 0, .null, .null, .int 0, .int 0, .int 0, .int 0, .int 0])) :: [(q1, .inl (cI, 3, .inl (fun _ => x_I 0)))]) H := hP
  have hD : va_D A ((h0, .inr (4, [.ref q1, .int 0, .int 0, .null, .int 0, .int 0, .int 0, .int 0, .null, .null, .int 0, .int 0, .int 0, .int 0, .int 0])) :: [(q1, .inl (cI, 3, .inl (fun _ => x_I 0)))]) := hD
  refine lv_aload_n hx hb dX4_init_11 rfl (lv_at hl 0 rfl) ?_
  refine lv_iconst (v := x_I 3) hx hb dX4_init_12 rfl ?_
  refine y_newi hx hb hts hK hP hD hS hA (n := x_I 3) (N' := 3) (by decide) (by decide) (Nat.le_of_ble_eq_true rfl) (Nat.le_of_ble_eq_true rfl) (Nat.le_of_ble_eq_true rfl) dX4_init_13 (fun q2 H hP hD hS => ?_)
  have hP : va_P D vwCl ((h0, .inr (4, [.ref q1, .int 0, .int 0, .null, .int 0, .int 0, .int 0, .int 0, .null, .null, .int 0, .int 0, .int 0, .int 0, .int 0])) :: ([(q1, .inl (cI, 3, .inl (fun _ => x_I 0)))] ++ [(q2, .inl (cI, 3, .inl (fun _ => x_I 0)))])) H := hP
  have hD : va_D A ((h0, .inr (4, [.ref q1, .int 0, .int 0, .null, .int 0, .int 0, .int 0, .int 0, .null, .null, .int 0, .int 0, .int 0, .int 0, .int 0])) :: ([(q1, .inl (cI, 3, .inl (fun _ => x_I 0)))] ++ [(q2, .inl (cI, 3, .inl (fun _ => x_I 0)))])) := hD
  refine va_putF (D := D) (ci := 4) (v := .ref q2) (ty := tyX4 3) (C := RX4) (T := TX4) (N := 15) hx hb hts (x_lay inX4) tyX4 tyX4_ok nmX4 hown hK hP hD hS 0 rfl rfl 3 (by decide) (hts _ (x_mem fk_RX4_15 rfl)) (fun _ h9 => h9) rfl hin rfl (tyX4_ok 3 (by decide)) rfl rfl (Nat.le_of_ble_eq_true rfl) dX4_init_15 (fun H locs hP hD hS => ?_)
  have hP : va_P D vwCl ((h0, .inr (4, [.ref q1, .int 0, .int 0, .ref q2, .int 0, .int 0, .int 0, .int 0, .null, .null, .int 0, .int 0, .int 0, .int 0, .int 0])) :: ([(q1, .inl (cI, 3, .inl (fun _ => x_I 0)))] ++ [(q2, .inl (cI, 3, .inl (fun _ => x_I 0)))])) H := hP
  have hD : va_D A ((h0, .inr (4, [.ref q1, .int 0, .int 0, .ref q2, .int 0, .int 0, .int 0, .int 0, .null, .null, .int 0, .int 0, .int 0, .int 0, .int 0])) :: ([(q1, .inl (cI, 3, .inl (fun _ => x_I 0)))] ++ [(q2, .inl (cI, 3, .inl (fun _ => x_I 0)))])) := hD
  refine lv_aload_n hx hb dX4_init_18 rfl (lv_at hl 0 rfl) ?_
  refine lv_iconst (v := x_I 4) hx hb dX4_init_19 rfl ?_
  refine y_newi hx hb hts hK hP hD hS hA (n := x_I 4) (N' := 4) (by decide) (by decide) (Nat.le_of_ble_eq_true rfl) (Nat.le_of_ble_eq_true rfl) (Nat.le_of_ble_eq_true rfl) dX4_init_20 (fun q3 H hP hD hS => ?_)
  have hP : va_P D vwCl ((h0, .inr (4, [.ref q1, .int 0, .int 0, .ref q2, .int 0, .int 0, .int 0, .int 0, .null, .null, .int 0, .int 0, .int 0, .int 0, .int 0])) :: (([(q1, .inl (cI, 3, .inl (fun _ => x_I 0)))] ++ [(q2, .inl (cI, 3, .inl (fun _ => x_I 0)))]) ++ [(q3, .inl (cI, 4, .inl (fun _ => x_I 0)))])) H := hP
  have hD : va_D A ((h0, .inr (4, [.ref q1, .int 0, .int 0, .ref q2, .int 0, .int 0, .int 0, .int 0, .null, .null, .int 0, .int 0, .int 0, .int 0, .int 0])) :: (([(q1, .inl (cI, 3, .inl (fun _ => x_I 0)))] ++ [(q2, .inl (cI, 3, .inl (fun _ => x_I 0)))]) ++ [(q3, .inl (cI, 4, .inl (fun _ => x_I 0)))])) := hD
  refine va_putF (D := D) (ci := 4) (v := .ref q3) (ty := tyX4 8) (C := RX4) (T := TX4) (N := 15) hx hb hts (x_lay inX4) tyX4 tyX4_ok nmX4 hown hK hP hD hS 0 rfl rfl 8 (by decide) (hts _ (x_mem fk_RX4_18 rfl)) (fun _ h9 => h9) rfl hin rfl (tyX4_ok 8 (by decide)) rfl rfl (Nat.le_of_ble_eq_true rfl) dX4_init_22 (fun H locs hP hD hS => ?_)
  have hP : va_P D vwCl ((h0, .inr (4, [.ref q1, .int 0, .int 0, .ref q2, .int 0, .int 0, .int 0, .int 0, .ref q3, .null, .int 0, .int 0, .int 0, .int 0, .int 0])) :: (([(q1, .inl (cI, 3, .inl (fun _ => x_I 0)))] ++ [(q2, .inl (cI, 3, .inl (fun _ => x_I 0)))]) ++ [(q3, .inl (cI, 4, .inl (fun _ => x_I 0)))])) H := hP
  have hD : va_D A ((h0, .inr (4, [.ref q1, .int 0, .int 0, .ref q2, .int 0, .int 0, .int 0, .int 0, .ref q3, .null, .int 0, .int 0, .int 0, .int 0, .int 0])) :: (([(q1, .inl (cI, 3, .inl (fun _ => x_I 0)))] ++ [(q2, .inl (cI, 3, .inl (fun _ => x_I 0)))]) ++ [(q3, .inl (cI, 4, .inl (fun _ => x_I 0)))])) := hD
  refine lv_aload_n hx hb dX4_init_25 rfl (lv_at hl 0 rfl) ?_
  refine lv_iconst (v := x_I 4) hx hb dX4_init_26 rfl ?_
  refine y_newz hx hb hts hK hP hD hS hA (n := x_I 4) (N' := 4) (by decide) (by decide) (Nat.le_of_ble_eq_true rfl) (Nat.le_of_ble_eq_true rfl) (Nat.le_of_ble_eq_true rfl) dX4_init_27 (fun q4 H hP hD hS => ?_)
  have hP : va_P D vwCl ((h0, .inr (4, [.ref q1, .int 0, .int 0, .ref q2, .int 0, .int 0, .int 0, .int 0, .ref q3, .null, .int 0, .int 0, .int 0, .int 0, .int 0])) :: ((([(q1, .inl (cI, 3, .inl (fun _ => x_I 0)))] ++ [(q2, .inl (cI, 3, .inl (fun _ => x_I 0)))]) ++ [(q3, .inl (cI, 4, .inl (fun _ => x_I 0)))]) ++ [(q4, .inl (cZ, 4, .inl (fun _ => x_I 0)))])) H := hP
  have hD : va_D A ((h0, .inr (4, [.ref q1, .int 0, .int 0, .ref q2, .int 0, .int 0, .int 0, .int 0, .ref q3, .null, .int 0, .int 0, .int 0, .int 0, .int 0])) :: ((([(q1, .inl (cI, 3, .inl (fun _ => x_I 0)))] ++ [(q2, .inl (cI, 3, .inl (fun _ => x_I 0)))]) ++ [(q3, .inl (cI, 4, .inl (fun _ => x_I 0)))]) ++ [(q4, .inl (cZ, 4, .inl (fun _ => x_I 0)))])) := hD
  refine va_putF (D := D) (ci := 4) (v := .ref q4) (ty := tyX4 9) (C := RX4) (T := TX4) (N := 15) hx hb hts (x_lay inX4) tyX4 tyX4_ok nmX4 hown hK hP hD hS 0 rfl rfl 9 (by decide) (hts _ (x_mem fk_RX4_21 rfl)) (fun _ h9 => h9) rfl hin rfl (tyX4_ok 9 (by decide)) rfl rfl (Nat.le_of_ble_eq_true rfl) dX4_init_29 (fun H locs hP hD hS => ?_)
  have hP : va_P D vwCl ((h0, .inr (4, [.ref q1, .int 0, .int 0, .ref q2, .int 0, .int 0, .int 0, .int 0, .ref q3, .ref q4, .int 0, .int 0, .int 0, .int 0, .int 0])) :: ((([(q1, .inl (cI, 3, .inl (fun _ => x_I 0)))] ++ [(q2, .inl (cI, 3, .inl (fun _ => x_I 0)))]) ++ [(q3, .inl (cI, 4, .inl (fun _ => x_I 0)))]) ++ [(q4, .inl (cZ, 4, .inl (fun _ => x_I 0)))])) H := hP
  have hD : va_D A ((h0, .inr (4, [.ref q1, .int 0, .int 0, .ref q2, .int 0, .int 0, .int 0, .int 0, .ref q3, .ref q4, .int 0, .int 0, .int 0, .int 0, .int 0])) :: ((([(q1, .inl (cI, 3, .inl (fun _ => x_I 0)))] ++ [(q2, .inl (cI, 3, .inl (fun _ => x_I 0)))]) ++ [(q3, .inl (cI, 4, .inl (fun _ => x_I 0)))]) ++ [(q4, .inl (cZ, 4, .inl (fun _ => x_I 0)))])) := hD
  refine W.widen (k := 4) (n := 14) (Nat.le_of_ble_eq_true rfl) (Nat.le_of_ble_eq_true rfl) ?_
  have hP9 := hP.sub (ws' := x_w cI cZ (fun k => ([h0, q1, q2, q3, q4] : List Nat).getD k 0) shTr mu_0) [0, 1, 2, 3, 4] rfl
  have hD9 := hD.sub (ws' := x_w cI cZ (fun k => ([h0, q1, q2, q3, q4] : List Nat).getD k 0) shTr mu_0) [0, 1, 2, 3, 4] (by decide) rfl
  exact W.vret hx hb hr (fun t ht hW => ⟨⟨_, rfl, rfl, by rw [ht]; exact hP9, hD9⟩, hS.F ht⟩) hS.2.2 dX4_init_32
set_option maxRecDepth 100000 in
set_option maxHeartbeats 4000000 in
theorem y_X3_init : yCt yX3_init cX3_init 3 [.int 0, .null, .int 0, .int 0, .int 0, .int 0, .int 0] shTape mu_0 1 1 48 := by
  intro l D cI cZ h0 sz
  refine Met.ofW (cc := cX3_init) (maxL := 1) (ret := none) (by decide) rfl ?_
  intro p e s m args below meth c s₁ B hml hv
  obtain ⟨rfl, hsz, hP, hK, hD0⟩ := hv
  have hx := B.exec
  have hb := B.bytes
  have hr := B.returns
  have hts0 := atoms_spec (ws := Cond.code yX3_init cX3_init 1 none :: x_tbl) B.pre
  have hts : ∀ w ∈ x_tbl, w.before _ s = true := fun w h => hts0 w (List.mem_cons_of_mem _ h)
  have hown : s.vm.findClass RX3 = some m.cls := findClass_of_methodNamed B.named
  have hin : meth.name = "<init>" := (name_of_methodNamed B.named B.method).1
  subst hsz
  have hD := hD0.self (sz := s.heap.size)
  generalize hAe : va_A [(h0, .inr (3, [.int 0, .null, .int 0, .int 0, .int 0, .int 0, .int 0]))] s.heap.size = A at hD ⊢
  have hA : ∀ q : Nat, s.heap.size ≤ q → A q := fun q h => by rw [← hAe]; exact Or.inr h
  have hS : va_S A s.heap s.heap [] := va_S.rf
  have hl := lv_entry ([.ref h0]) (n := 1) (Nat.le_of_ble_eq_true rfl)
  rw [lg_entry_eq]
  generalize (lg_sl ([.ref h0]) ++ List.replicate (1 - (lg_sl ([.ref h0])).length) Slot.unset).toArray = ls at hl ⊢
  have hl : lv_has ls 1 [(0, .ref h0)] := hl
  have hP : va_P D vwCl ([(h0, .inr (3, [.int 0, .null, .int 0, .int 0, .int 0, .int 0, .int 0]))]) s.heap := hP
  have hD : va_D A ([(h0, .inr (3, [.int 0, .null, .int 0, .int 0, .int 0, .int 0, .int 0]))]) := hD
  refine lv_aload_n hx hb dX3_init_0 rfl (lv_at hl 0 rfl) ?_
  refine W.objInit hx hb hown (hts _ (x_mem lk_RX3_3 rfl)) (hts _ (x_mem mi_objectInit rfl)) (hts _ (x_mem mc_objectInit rfl)) rfl (by rw [hml]; exact hl.1) rfl dX3_init_1 (Nat.le_of_ble_eq_true rfl) (Nat.le_of_ble_eq_true rfl) ?_
  refine W.eq (g2 := F0 m 4 ls []) rfl ?_
  refine lv_aload_n hx hb dX3_init_4 rfl (lv_at hl 0 rfl) ?_
  refine lv_bipush (v := x_I 48) hx hb dX3_init_5 (by decide) ?_
  refine y_newi hx hb hts hK hP hD hS hA (n := x_I 48) (N' := 48) (by decide) (by decide) (Nat.le_of_ble_eq_true rfl) (Nat.le_of_ble_eq_true rfl) (Nat.le_of_ble_eq_true rfl) dX3_init_7 (fun q1 H hP hD hS => ?_)
  have hP : va_P D vwCl ((h0, .inr (3, [.int 0, .null, .int 0, .int 0, .int 0, .int 0, .int 0])) :: [(q1, .inl (cI, 48, .inl (fun _ => x_I 0)))]) H := hP
  have hD : va_D A ((h0, .inr (3, [.int 0, .null, .int 0, .int 0, .int 0, .int 0, .int 0])) :: [(q1, .inl (cI, 48, .inl (fun _ => x_I 0)))]) := hD
  refine va_putF (D := D) (ci := 3) (v := .ref q1) (ty := tyX3 1) (C := RX3) (T := TX3) (N := 7) hx hb hts (x_lay inX3) tyX3 tyX3_ok nmX3 hown hK hP hD hS 0 rfl rfl 1 (by decide) (hts _ (x_mem fk_RX3_9 rfl)) (fun _ h9 => h9) rfl hin rfl (tyX3_ok 1 (by decide)) rfl rfl (Nat.le_of_ble_eq_true rfl) dX3_init_9 (fun H locs hP hD hS => ?_)
  have hP : va_P D vwCl ((h0, .inr (3, [.int 0, .ref q1, .int 0, .int 0, .int 0, .int 0, .int 0])) :: [(q1, .inl (cI, 48, .inl (fun _ => x_I 0)))]) H := hP
  have hD : va_D A ((h0, .inr (3, [.int 0, .ref q1, .int 0, .int 0, .int 0, .int 0, .int 0])) :: [(q1, .inl (cI, 48, .inl (fun _ => x_I 0)))]) := hD
  refine W.widen (k := 1) (n := 48) (Nat.le_of_ble_eq_true rfl) (Nat.le_of_ble_eq_true rfl) ?_
  have hP9 := hP.sub (ws' := x_w cI cZ (fun k => ([h0, q1] : List Nat).getD k 0) shTape mu_0) [0, 1] rfl
  have hD9 := hD.sub (ws' := x_w cI cZ (fun k => ([h0, q1] : List Nat).getD k 0) shTape mu_0) [0, 1] (by decide) rfl
  exact W.vret hx hb hr (fun t ht hW => ⟨⟨_, rfl, rfl, by rw [ht]; exact hP9, hD9⟩, hS.F ht⟩) hS.2.2 dX3_init_12
