theorem x_st_ne {μ : xM} {c j a b : Nat} {v : Int} (h : a ≠ c ∨ b ≠ j) : x_st μ c j v a b = μ a b := by
  unfold x_st
  split
  · rename_i e
    exact if_neg (fun q => h.elim (fun r => r e) (fun r => r q))
  · rfl
theorem x_st_eq {μ : xM} {c j : Nat} {v : Int} : x_st μ c j v c j = v := by
  unfold x_st
  rw [if_pos rfl, if_pos rfl]
theorem hset_ne {h : Nat → Int} {j k : Nat} {v : Int} (e : k ≠ j) : hset h j v k = h k := by
  unfold hset
  exact if_neg e
theorem hset_eq {h : Nat → Int} {j : Nat} {v : Int} : hset h j v j = v := by
  unfold hset
  exact if_pos rfl
theorem hOf_st0 (μ : xM) (o : Nat) (v : Int) : hOf (x_st μ o 0 v) o = hset (hOf μ o) 0 v := by
  funext k
  by_cases e : k = 0
  · rw [e, hset_eq]
    exact x_st_eq
  · rw [hset_ne e]
    unfold hOf
    refine ite_congr rfl (fun _ => ?_) (fun _ => ite_congr rfl (fun _ => ?_) (fun _ => ite_congr rfl (fun _ => ?_) (fun _ => ite_congr rfl (fun _ => ?_) (fun _ => ite_congr rfl (fun _ => ?_) (fun _ => ite_congr rfl (fun _ => ite_congr rfl (fun _ => ?_) (fun _ => ?_)) (fun _ => ite_congr rfl (fun _ => ite_congr rfl (fun _ => ?_) (fun _ => ?_)) (fun _ => ite_congr rfl (fun _ => ?_) (fun _ => rfl))))))))
    all_goals exact x_st_ne (by omega)
theorem hOf_st3 (μ : xM) (o : Nat) (v : Int) : hOf (x_st μ o 3 v) o = hset (hOf μ o) 1 v := by
  funext k
  by_cases e : k = 1
  · rw [e, hset_eq]
    exact x_st_eq
  · rw [hset_ne e]
    unfold hOf
    refine ite_congr rfl (fun _ => ?_) (fun _ => ite_congr rfl (fun _ => ?_) (fun _ => ite_congr rfl (fun _ => ?_) (fun _ => ite_congr rfl (fun _ => ?_) (fun _ => ite_congr rfl (fun _ => ?_) (fun _ => ite_congr rfl (fun _ => ite_congr rfl (fun _ => ?_) (fun _ => ?_)) (fun _ => ite_congr rfl (fun _ => ite_congr rfl (fun _ => ?_) (fun _ => ?_)) (fun _ => ite_congr rfl (fun _ => ?_) (fun _ => rfl))))))))
    all_goals exact x_st_ne (by omega)
theorem hOf_st6 (μ : xM) (o : Nat) (v : Int) : hOf (x_st μ o 6 v) o = hset (hOf μ o) 2 v := by
  funext k
  by_cases e : k = 2
  · rw [e, hset_eq]
    exact x_st_eq
  · rw [hset_ne e]
    unfold hOf
    refine ite_congr rfl (fun _ => ?_) (fun _ => ite_congr rfl (fun _ => ?_) (fun _ => ite_congr rfl (fun _ => ?_) (fun _ => ite_congr rfl (fun _ => ?_) (fun _ => ite_congr rfl (fun _ => ?_) (fun _ => ite_congr rfl (fun _ => ite_congr rfl (fun _ => ?_) (fun _ => ?_)) (fun _ => ite_congr rfl (fun _ => ite_congr rfl (fun _ => ?_) (fun _ => ?_)) (fun _ => ite_congr rfl (fun _ => ?_) (fun _ => rfl))))))))
    all_goals exact x_st_ne (by omega)
theorem hOf_st8 (μ : xM) (o : Nat) (v : Int) : hOf (x_st μ o 8 v) o = hset (hOf μ o) 3 v := by
  funext k
  by_cases e : k = 3
  · rw [e, hset_eq]
    exact x_st_eq
  · rw [hset_ne e]
    unfold hOf
    refine ite_congr rfl (fun _ => ?_) (fun _ => ite_congr rfl (fun _ => ?_) (fun _ => ite_congr rfl (fun _ => ?_) (fun _ => ite_congr rfl (fun _ => ?_) (fun _ => ite_congr rfl (fun _ => ?_) (fun _ => ite_congr rfl (fun _ => ite_congr rfl (fun _ => ?_) (fun _ => ?_)) (fun _ => ite_congr rfl (fun _ => ite_congr rfl (fun _ => ?_) (fun _ => ?_)) (fun _ => ite_congr rfl (fun _ => ?_) (fun _ => rfl))))))))
    all_goals exact x_st_ne (by omega)
theorem hOf_sm (μ : xM) (o : Nat) {p : Int} (h0 : 0 ≤ p) (h5 : p < 5) (v : Int) : hOf (x_st μ (o + 1) p.toNat v) o = hset (hOf μ o) (13 + 2 * p).toNat v := by
  funext k
  by_cases e : k = (13 + 2 * p).toNat
  · rw [e, hset_eq]
    rw [hOf_min _ _ h0 h5]
    exact x_st_eq
  · rw [hset_ne e]
    unfold hOf
    refine ite_congr rfl (fun _ => ?_) (fun _ => ite_congr rfl (fun _ => ?_) (fun _ => ite_congr rfl (fun _ => ?_) (fun _ => ite_congr rfl (fun _ => ?_) (fun _ => ite_congr rfl (fun _ => ?_) (fun _ => ite_congr rfl (fun _ => ite_congr rfl (fun _ => ?_) (fun _ => ?_)) (fun _ => ite_congr rfl (fun _ => ite_congr rfl (fun _ => ?_) (fun _ => ?_)) (fun _ => ite_congr rfl (fun _ => ?_) (fun _ => rfl))))))))
    all_goals exact x_st_ne (by omega)
theorem hOf_sd (μ : xM) (o : Nat) {p : Int} (h0 : 0 ≤ p) (h5 : p < 5) (v : Int) : hOf (x_st μ (o + 2) p.toNat v) o = hset (hOf μ o) (13 + 2 * p + 1).toNat v := by
  funext k
  by_cases e : k = (13 + 2 * p + 1).toNat
  · rw [e, hset_eq]
    rw [hOf_dbl _ _ h0 h5]
    exact x_st_eq
  · rw [hset_ne e]
    unfold hOf
    refine ite_congr rfl (fun _ => ?_) (fun _ => ite_congr rfl (fun _ => ?_) (fun _ => ite_congr rfl (fun _ => ?_) (fun _ => ite_congr rfl (fun _ => ?_) (fun _ => ite_congr rfl (fun _ => ?_) (fun _ => ite_congr rfl (fun _ => ite_congr rfl (fun _ => ?_) (fun _ => ?_)) (fun _ => ite_congr rfl (fun _ => ite_congr rfl (fun _ => ?_) (fun _ => ?_)) (fun _ => ite_congr rfl (fun _ => ?_) (fun _ => rfl))))))))
    all_goals exact x_st_ne (by omega)
theorem hOf_sc (μ : xM) (o : Nat) {p : Int} (h0 : 0 ≤ p) (h5 : p < 8) (v : Int) : hOf (x_st μ (o + 3) p.toNat v) o = hset (hOf μ o) (23 + 2 * p).toNat v := by
  funext k
  by_cases e : k = (23 + 2 * p).toNat
  · rw [e, hset_eq]
    rw [hOf_com _ _ h0 h5]
    exact x_st_eq
  · rw [hset_ne e]
    unfold hOf
    refine ite_congr rfl (fun _ => ?_) (fun _ => ite_congr rfl (fun _ => ?_) (fun _ => ite_congr rfl (fun _ => ?_) (fun _ => ite_congr rfl (fun _ => ?_) (fun _ => ite_congr rfl (fun _ => ?_) (fun _ => ite_congr rfl (fun _ => ite_congr rfl (fun _ => ?_) (fun _ => ?_)) (fun _ => ite_congr rfl (fun _ => ite_congr rfl (fun _ => ?_) (fun _ => ?_)) (fun _ => ite_congr rfl (fun _ => ?_) (fun _ => rfl))))))))
    all_goals exact x_st_ne (by omega)
theorem hOf_sw (μ : xM) (o : Nat) {p : Int} (h0 : 0 ≤ p) (h5 : p < 8) (v : Int) : hOf (x_st μ (o + 4) p.toNat v) o = hset (hOf μ o) (23 + 2 * p + 1).toNat v := by
  funext k
  by_cases e : k = (23 + 2 * p + 1).toNat
  · rw [e, hset_eq]
    rw [hOf_wt _ _ h0 h5]
    exact x_st_eq
  · rw [hset_ne e]
    unfold hOf
    refine ite_congr rfl (fun _ => ?_) (fun _ => ite_congr rfl (fun _ => ?_) (fun _ => ite_congr rfl (fun _ => ?_) (fun _ => ite_congr rfl (fun _ => ?_) (fun _ => ite_congr rfl (fun _ => ?_) (fun _ => ite_congr rfl (fun _ => ite_congr rfl (fun _ => ?_) (fun _ => ?_)) (fun _ => ite_congr rfl (fun _ => ite_congr rfl (fun _ => ?_) (fun _ => ?_)) (fun _ => ite_congr rfl (fun _ => ?_) (fun _ => rfl))))))))
    all_goals exact x_st_ne (by omega)
theorem hOf_ss (μ : xM) (o : Nat) {p : Int} (h0 : 0 ≤ p) (h5 : p < 9) (v : Int) : hOf (x_st μ (o + 5) p.toNat v) o = hset (hOf μ o) (4 + p).toNat v := by
  funext k
  by_cases e : k = (4 + p).toNat
  · rw [e, hset_eq]
    rw [hOf_set _ _ h0 h5]
    exact x_st_eq
  · rw [hset_ne e]
    unfold hOf
    refine ite_congr rfl (fun _ => ?_) (fun _ => ite_congr rfl (fun _ => ?_) (fun _ => ite_congr rfl (fun _ => ?_) (fun _ => ite_congr rfl (fun _ => ?_) (fun _ => ite_congr rfl (fun _ => ?_) (fun _ => ite_congr rfl (fun _ => ite_congr rfl (fun _ => ?_) (fun _ => ?_)) (fun _ => ite_congr rfl (fun _ => ite_congr rfl (fun _ => ?_) (fun _ => ?_)) (fun _ => ite_congr rfl (fun _ => ?_) (fun _ => rfl))))))))
    all_goals exact x_st_ne (by omega)
theorem hOf_so (μ : xM) (o : Nat) {p : Int} (h0 : 0 ≤ p) (h5 : p < 8) (v : Int) : hOf (x_st μ (o + 6) p.toNat v) o = hset (hOf μ o) (39 + p).toNat v := by
  funext k
  by_cases e : k = (39 + p).toNat
  · rw [e, hset_eq]
    rw [hOf_ord _ _ h0 h5]
    exact x_st_eq
  · rw [hset_ne e]
    unfold hOf
    refine ite_congr rfl (fun _ => ?_) (fun _ => ite_congr rfl (fun _ => ?_) (fun _ => ite_congr rfl (fun _ => ?_) (fun _ => ite_congr rfl (fun _ => ?_) (fun _ => ite_congr rfl (fun _ => ?_) (fun _ => ite_congr rfl (fun _ => ite_congr rfl (fun _ => ?_) (fun _ => ?_)) (fun _ => ite_congr rfl (fun _ => ite_congr rfl (fun _ => ?_) (fun _ => ?_)) (fun _ => ite_congr rfl (fun _ => ?_) (fun _ => rfl))))))))
    all_goals exact x_st_ne (by omega)
