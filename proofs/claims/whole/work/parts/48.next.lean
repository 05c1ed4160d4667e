/-! THE CLASS, Day: the next chance -/
def dNxN (μ ρ : xM) (m : Int) : Nat → Int
  | 0 => if μ 4 1 ≤ m then 1000000 else μ 4 1
  | k + 1 => min (dNxN μ ρ m k) (dCF μ ρ k)
theorem dNxN_s (μ ρ : xM) (m : Int) {p : Int} (hp : 0 ≤ p) : dNxN μ ρ m (p + 1).toNat = min (dNxN μ ρ m p.toNat) (dCF μ ρ p) := by rw [nat_succ hp, dNxN, nat_back hp]
theorem dNxN_in {μ ρ : xM} {m : Int} (hW : DW μ ρ) (h1 : 0 ≤ μ 4 1 ∧ μ 4 1 ≤ 1000000) : ∀ k : Nat, (k : Int) ≤ μ 9 3 → 0 ≤ dNxN μ ρ m k ∧ dNxN μ ρ m k ≤ 1000000
  | 0, _ => by
    rw [dNxN]
    split <;> omega
  | k + 1, hk => by
    have ih := dNxN_in (m := m) hW h1 k (by omega)
    have hc := dCF_in hW (t := (k : Int)) (by omega) (by omega)
    rw [dNxN]
    omega
theorem dNxN_lt {μ ρ : xM} {m x : Int} : ∀ k : Nat, x < dNxN μ ρ m k → (μ 4 1 ≤ m ∨ x < μ 4 1) ∧ ∀ t : Nat, t < k → x < dCF μ ρ t
  | 0, h => by
    rw [dNxN] at h
    refine ⟨?_, fun t ht => absurd ht (Nat.not_lt_zero t)⟩
    split at h
    · exact Or.inl (by assumption)
    · exact Or.inr h
  | k + 1, h => by
    rw [dNxN] at h
    have ih := dNxN_lt (μ := μ) (ρ := ρ) (m := m) (x := x) k (by omega)
    refine ⟨ih.1, fun t ht => ?_⟩
    by_cases e : t = k
    · rw [e]; omega
    · exact ih.2 t (by omega)
set_option maxRecDepth 100000 in
set_option maxHeartbeats 4000000 in
theorem l0_nextChance (μ ρ : xM) (m : Int) (hm : 0 ≤ m ∧ m ≤ 10000) (hW : DW μ ρ) (hd1 : 0 ≤ μ 4 1 ∧ μ 4 1 ≤ 1000000) : ∀ (n : Nat) (p z : Int), 0 ≤ p → p ≤ μ 9 3 → (μ 9 3 - p).toNat < n → z = dNxN μ ρ m p.toNat → X E0 shDay 2 yX0_nextChance cX0_nextChance 4 (some .int) 26 [some (.inr (.inl 0)), some (.inl m), some (.inl z), some (.inl p)] [] μ (x_Q (max (dNxN μ ρ m (μ 9 3).toNat) (m + 1)) μ) := by
  have h8 : 0 ≤ μ 9 3 ∧ μ 9 3 ≤ 8 := hW.1.2.1
  intro n
  induction n with
  | zero => intro p z _ _ h; omega
  | succ n ih =>
    intro p z hp hp2 hn hz
    have hin : 0 ≤ z ∧ z ≤ 1000000 := by
      rw [hz]
      exact dNxN_in hW hd1 p.toNat (by omega)
    have hcf : p < μ 9 3 → 0 ≤ dCF μ ρ p ∧ dCF μ ρ p ≤ 1000000 := fun q => dCF_in hW hp q
    have KK : p < μ 9 3 → X E0 shDay 2 yX0_nextChance cX0_nextChance 4 (some .int) 26 [some (.inr (.inl 0)), some (.inl m), some (.inl (min z (dCF μ ρ p))), some (.inl (p + 1))] [] μ (x_Q (max (dNxN μ ρ m (μ 9 3).toNat) (m + 1)) μ) := by
      intro hl
      exact ih (p + 1) _ (by omega) (by omega) (by omega) (by rw [hz, dNxN_s _ _ _ hp])
    have KE : p = μ 9 3 → max z (m + 1) = max (dNxN μ ρ m (μ 9 3).toNat) (m + 1) := by
      intro q
      rw [hz, q]
    clear ih hz
    refine x_iload_n (i := 3) dX0_nextChance_26 rfl rfl ?_
    refine x_aload_n (i := 0) dX0_nextChance_27 rfl rfl ?_
    refine x_getR xf_RX0_12 dX0_nextChance_28 rfl rfl ?_
    refine x_getI xf_RX0_46 dX0_nextChance_31 rfl rfl ?_
    refine x_icmp_ge (tgt := 53) dX0_nextChance_34 (by decide) (by first | (unfold x_in; omega) | (have g := hcf (by omega); unfold x_in; omega)) (by first | (unfold x_in; omega) | (have g := hcf (by omega); unfold x_in; omega)) (fun c1 => ?_) (fun c1 => ?_)
    · refine x_iload_n (i := 2) dX0_nextChance_53 rfl rfl ?_
      refine x_iload_n (i := 1) dX0_nextChance_54 rfl rfl ?_
      refine x_iconst dX0_nextChance_55 ?_
      refine x_iadd dX0_nextChance_56 ?_
      refine x_mmax lk_RX0_116 dX0_nextChance_57 (by decide) (by exact Nat.le_of_ble_eq_true rfl) (by first | (unfold x_in; omega) | (have g := hcf (by omega); unfold x_in; omega)) (by first | (unfold x_in; omega) | (have g := hcf (by omega); unfold x_in; omega)) ?_
      exact x_iret dX0_nextChance_60 rfl rfl (x_ok (by exact KE (by omega)) (by rfl))
    · refine x_iload_n (i := 2) dX0_nextChance_37 rfl rfl ?_
      refine x_aload_n (i := 0) dX0_nextChance_38 rfl rfl ?_
      refine x_iload_n (i := 3) dX0_nextChance_39 rfl rfl ?_
      refine x_cIp0_1 lk_RX0_106 xm_X0_canFrom dX0_nextChance_40 (s0_canFrom _ _ hW p ⟨hp, by omega⟩) ?_
      refine x_mmin lk_RX0_123 dX0_nextChance_43 (by decide) (by exact Nat.le_of_ble_eq_true rfl) (by first | (unfold x_in; omega) | (have g := hcf (by omega); unfold x_in; omega)) (by first | (unfold x_in; omega) | (have g := hcf (by omega); unfold x_in; omega)) ?_
      refine x_istore_2 dX0_nextChance_46 (by decide) rfl ?_
      refine x_iinc_3 dX0_nextChance_47 (by decide) rfl ?_
      refine x_goto (tgt := 26) dX0_nextChance_50 (by decide) ?_
      exact KK (by omega)
set_option maxRecDepth 100000 in
set_option maxHeartbeats 4000000 in
theorem s0_nextChance (μ ρ : xM) (m : Int) (hm : 0 ≤ m ∧ m ≤ 10000) (hW : DW μ ρ) (hd1 : 0 ≤ μ 4 1 ∧ μ 4 1 ≤ 1000000) : X E0 shDay 2 yX0_nextChance cX0_nextChance 4 (some .int) 0 [some (.inr (.inl 0)), some (.inl m), none, none] [] μ (x_Q (max (dNxN μ ρ m (μ 9 3).toNat) (m + 1)) μ) := by
  have h8 : 0 ≤ μ 9 3 ∧ μ 9 3 ≤ 8 := hW.1.2.1
  refine x_aload_n (i := 0) dX0_nextChance_0 rfl rfl ?_
  refine x_getR xf_RX0_25 dX0_nextChance_1 rfl rfl ?_
  refine x_getI xf_RX0_80 dX0_nextChance_4 rfl rfl ?_
  refine x_iload_n (i := 1) dX0_nextChance_7 rfl rfl ?_
  refine x_icmp_le (tgt := 21) dX0_nextChance_8 (by decide) (by first | (unfold x_in; omega) | (unfold x_in; decide)) (by first | (unfold x_in; omega) | (unfold x_in; decide)) (fun c1 => ?_) (fun c1 => ?_)
  · refine x_ldc (n := 1000000) dX0_nextChance_21 ck_RX0_122 rfl ?_
    refine x_istore_2 dX0_nextChance_23 (by decide) rfl ?_
    refine x_iconst dX0_nextChance_24 ?_
    refine x_istore_3 dX0_nextChance_25 (by decide) rfl ?_
    refine l0_nextChance μ ρ m hm hW hd1 _ 0 _ (by omega) (by omega) (Nat.lt_succ_self _) ?_
    first | exact (if_pos (by omega)).symm | exact (if_neg (by omega)).symm
  · refine x_aload_n (i := 0) dX0_nextChance_11 rfl rfl ?_
    refine x_getR xf_RX0_25 dX0_nextChance_12 rfl rfl ?_
    refine x_getI xf_RX0_80 dX0_nextChance_15 rfl rfl ?_
    refine x_goto (tgt := 23) dX0_nextChance_18 (by decide) ?_
    refine x_istore_2 dX0_nextChance_23 (by decide) rfl ?_
    refine x_iconst dX0_nextChance_24 ?_
    refine x_istore_3 dX0_nextChance_25 (by decide) rfl ?_
    refine l0_nextChance μ ρ m hm hW hd1 _ 0 _ (by omega) (by omega) (Nat.lt_succ_self _) ?_
    first | exact (if_pos (by omega)).symm | exact (if_neg (by omega)).symm
