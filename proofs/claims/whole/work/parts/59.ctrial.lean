/-! THE CLASS: what is tried on the trial hill -/
theorem cp_trial {μ ν : xM} (e : ∀ c, 7 ≤ c → ν c = x_ct [28, 29, 30, 31, 32, 33, 34, 12, 13, 14, 15, 16, 17, 18] μ c) : ∀ k, k < 28 ∨ 34 < k → x_mrg [28, 29, 30, 31, 32, 33, 34, 12, 13, 14, 15, 16, 17, 18] μ ν k = μ k := by
  intro k hk
  by_cases q : 12 ≤ k ∧ k ≤ 18
  · have w : k = 12 ∨ k = 13 ∨ k = 14 ∨ k = 15 ∨ k = 16 ∨ k = 17 ∨ k = 18 := by omega
    rcases w with rfl | rfl | rfl | rfl | rfl | rfl | rfl
    · exact e 7 (by decide)
    · exact e 8 (by decide)
    · exact e 9 (by decide)
    · exact e 10 (by decide)
    · exact e 11 (by decide)
    · exact e 12 (by decide)
    · exact e 13 (by decide)
  · exact x_mrg_out μ ν (fun i hi => by simp at hi; omega)
theorem DO_set {h : Nat → Int} (hO : DO h) {j : Nat} {v : Int} (hj : j < 39) (h3 : j ≠ 3) : DO (hset h j v) := by
  intro a b q1 q2
  rw [hset_ne (by omega)] at q2
  rw [hset_ne (by omega), hset_ne (by omega)]
  exact hO a b q1 q2
theorem DO_wtN {h : Nat → Int} (hO : DO h) (w : Int) : ∀ n : Nat, n ≤ 8 → DO (hWtN h w n)
  | 0, _ => hO
  | n + 1, hn => DO_set (DO_wtN hO w n (by omega)) (by omega) (by omega)
set_option maxRecDepth 100000 in
set_option maxHeartbeats 4000000 in
theorem l5_edge (kind : Int) (hkind : 0 ≤ kind ∧ kind < 3) (μ κ : xM) (h : CR μ κ) : ∀ (n : Nat), n ≤ 999 → dEdN (κ 2) kind n = dEdge (κ 2) kind → X E0 shC 9 yX5_edge cX5_edge 3 (some .int) 20 [some (.inr (.inl 0)), some (.inl kind), some (.inl ((n : Int)))] [] μ (CQ (dEdge (κ 2) kind) κ) := by
  have eH : hOf (x_ct [12, 13, 14, 15, 16, 17, 18] μ) 0 = κ 2 := h.hill
  have hI := h.mi
  have h1 : 0 ≤ κ 2 1 ∧ κ 2 1 ≤ 8 := hI.2.1
  have h0 : 0 ≤ κ 2 0 ∧ κ 2 0 ≤ 5 := hI.1
  intro n
  induction n with
  | zero =>
    intro _ he
    refine x_iload_n (i := 2) dX5_edge_20 rfl rfl ?_
    refine x_iconst dX5_edge_21 ?_
    refine x_icmp_lt (tgt := 45) dX5_edge_22 (by decide) (by first | (unfold x_in; omega) | (unfold x_in; decide)) (by first | (unfold x_in; omega) | (unfold x_in; decide)) (fun c1 => ?_) (fun c1 => ?_)
    · refine x_bipush dX5_edge_45 (by decide) ?_
      refine x_iret dX5_edge_47 rfl rfl ?_
      exact ⟨by rw [← he]; rfl, h⟩
    · exact absurd c1 (by omega)
  | succ n ih =>
    intro hn he
    have hk := mKindBy_in (κ 2) ((n + 1 : Nat) : Int)
    have KK : mKindBy (κ 2) ((n + 1 : Nat) : Int) ≠ kind → X E0 shC 9 yX5_edge cX5_edge 3 (some .int) 20 [some (.inr (.inl 0)), some (.inl kind), some (.inl (((n + 1 : Nat) : Int) + -1))] [] μ (CQ (dEdge (κ 2) kind) κ) := by
      intro q
      rw [dEdN, if_neg q] at he
      rw [show ((n + 1 : Nat) : Int) + -1 = (n : Int) by omega]
      exact ih (by omega) he
    have KR : mKindBy (κ 2) ((n + 1 : Nat) : Int) = kind → CQ (dEdge (κ 2) kind) κ (some (.inl ((n + 1 : Nat) : Int))) μ := by
      intro q
      rw [dEdN, if_pos q] at he
      exact ⟨by rw [he], h⟩
    clear he ih
    refine x_iload_n (i := 2) dX5_edge_20 rfl rfl ?_
    refine x_iconst dX5_edge_21 ?_
    refine x_icmp_lt (tgt := 45) dX5_edge_22 (by decide) (by first | (unfold x_in; omega) | (unfold x_in; decide)) (by first | (unfold x_in; omega) | (unfold x_in; decide)) (fun c1 => ?_) (fun c1 => ?_)
    · exact absurd c1 (by omega)
    · refine x_aload_n (i := 0) dX5_edge_25 rfl rfl ?_
      refine x_getR xf_RX5_20 dX5_edge_26 rfl rfl ?_
      refine x_iload_n (i := 2) dX5_edge_29 rfl rfl ?_
      refine x_cIp_1 [12, 13, 14, 15, 16, 17, 18] lk_RX5_116 xm_X1_kindOf dX5_edge_30 (s1_kindOf _ (by omega) _ h.mh) ?_
      rw [eH]
      refine x_iload_n (i := 1) dX5_edge_33 rfl rfl ?_
      refine x_icmp_ne (tgt := 39) dX5_edge_34 (by decide) (by first | (unfold x_in; omega) | (unfold x_in; decide)) (by first | (unfold x_in; omega) | (unfold x_in; decide)) (fun c2 => ?_) (fun c2 => ?_)
      · refine x_iinc_2 dX5_edge_39 (by decide) rfl ?_
        refine x_goto (tgt := 20) dX5_edge_42 (by decide) ?_
        exact KK (by omega)
      · refine x_iload_n (i := 2) dX5_edge_37 rfl rfl ?_
        refine x_iret dX5_edge_38 rfl rfl ?_
        exact KR (by omega)
set_option maxRecDepth 100000 in
set_option maxHeartbeats 4000000 in
theorem s5_edge (kind : Int) (hkind : x_in kind) (μ κ : xM) (h : CR μ κ) : X E0 shC 9 yX5_edge cX5_edge 3 (some .int) 0 [some (.inr (.inl 0)), some (.inl kind), none] [] μ (CQ (if 0 ≤ kind ∧ kind < 3 then dEdge (κ 2) kind else -2) (if 0 ≤ kind ∧ kind < 3 then κ else mRef κ (-2))) := by
  have eH : hOf (x_ct [12, 13, 14, 15, 16, 17, 18] μ) 0 = κ 2 := h.hill
  have hI := h.mi
  have h1 : 0 ≤ κ 2 1 ∧ κ 2 1 ≤ 8 := hI.2.1
  have h0 : 0 ≤ κ 2 0 ∧ κ 2 0 ≤ 5 := hI.1
  refine x_iload_n (i := 1) dX5_edge_0 rfl rfl ?_
  refine x_if_lt (tgt := 9) dX5_edge_1 (by decide) (by first | assumption | (unfold x_in; omega) | (unfold x_in; decide)) (fun c1 => ?_) (fun c1 => ?_)
  · refine x_aload_n (i := 0) dX5_edge_9 rfl rfl ?_
    refine x_bipush dX5_edge_10 (by decide) ?_
    refine x_cIf0_1 lk_RX5_54 xm_X5_refuse dX5_edge_12 (s5_refuse _ (by decide) _) ?_
    refine x_iret dX5_edge_15 rfl rfl ?_
    rw [if_neg (by omega), if_neg (by omega)]
    exact ⟨rfl, h.ref (-2)⟩
  · refine x_iload_n (i := 1) dX5_edge_4 rfl rfl ?_
    refine x_iconst dX5_edge_5 ?_
    refine x_icmp_le (tgt := 16) dX5_edge_6 (by decide) (by first | assumption | (unfold x_in; omega) | (unfold x_in; decide)) (by first | assumption | (unfold x_in; omega) | (unfold x_in; decide)) (fun c2 => ?_) (fun c2 => ?_)
    · refine x_sipush dX5_edge_16 (by decide) ?_
      refine x_istore_2 dX5_edge_19 (by decide) rfl ?_
      rw [if_pos (by omega), if_pos (by omega)]
      exact l5_edge kind (by omega) μ κ h 999 (by decide) rfl
    · refine x_aload_n (i := 0) dX5_edge_9 rfl rfl ?_
      refine x_bipush dX5_edge_10 (by decide) ?_
      refine x_cIf0_1 lk_RX5_54 xm_X5_refuse dX5_edge_12 (s5_refuse _ (by decide) _) ?_
      refine x_iret dX5_edge_15 rfl rfl ?_
      rw [if_neg (by omega), if_neg (by omega)]
      exact ⟨rfl, h.ref (-2)⟩
set_option maxRecDepth 100000 in
set_option maxHeartbeats 4000000 in
theorem l5_fewest (most : Int) (hm : 0 ≤ most ∧ most < 2147483648) (κ : xM) : ∀ (k : Nat) (n : Int) (μ : xM), 0 ≤ n → n + k = 5 → CR μ κ → (∀ z, hset (hOf μ 28) 2 z = hset (κ 2) 2 z) → X E0 shC 9 yX5_fewest cX5_fewest 3 (some .int) 24 [some (.inr (.inl 0)), some (.inl most), some (.inl n)] [] μ (CQ (dFewN (κ 2) most k n) κ) := by
  intro k
  induction k with
  | zero =>
    intro n μ hn hk h hz
    refine x_iload_n (i := 2) dX5_fewest_24 rfl rfl ?_
    refine x_iconst dX5_fewest_25 ?_
    refine x_icmp_gt (tgt := 53) dX5_fewest_26 (by decide) (by first | (unfold x_in; omega) | (unfold x_in; decide)) (by first | (unfold x_in; omega) | (unfold x_in; decide)) (fun c1 => ?_) (fun c1 => ?_)
    · refine x_bipush dX5_fewest_53 (by decide) ?_
      refine x_iret dX5_fewest_55 rfl rfl ?_
      exact ⟨rfl, h⟩
    · exact absurd c1 (by omega)
  | succ k ih =>
    intro n μ hn hk h hz
    have hI := MI_set2 h.mi (v := n) (by omega)
    have hO := DO_set h.o (j := 2) (v := n) (by decide) (by decide)
    have hg : hOf (x_st μ 28 6 n) 28 = hset (κ 2) 2 n := (hOf_st6 μ 28 n).trans (hz n)
    have hd := dAll_in hI
    have KR : ∀ μ2 : xM, (∀ k, k < 19 ∨ 34 < k → μ2 k = x_st μ 28 6 n k) → CR μ2 κ := fun μ2 e => h.same (fun k q _ => (e k q).trans (funext fun x => x_st_ne (Or.inl (by omega))))
    have KK : ∀ μ2, ¬ dAll (hset (κ 2) 2 n) ≤ most → hOf μ2 28 = hset (κ 2) 2 n → (∀ k, k < 19 ∨ 34 < k → μ2 k = x_st μ 28 6 n k) → X E0 shC 9 yX5_fewest cX5_fewest 3 (some .int) 24 [some (.inr (.inl 0)), some (.inl most), some (.inl (n + 1))] [] μ2 (CQ (dFewN (κ 2) most (k + 1) n) κ) := by
      intro μ2 q e1 e2
      rw [dFewN, if_neg q]
      exact ih (n + 1) μ2 (by omega) (by omega) (KR μ2 e2) (fun z => by rw [e1, hset_twice])
    have KE : dAll (hset (κ 2) 2 n) ≤ most → ∀ μ2 : xM, (∀ k, k < 19 ∨ 34 < k → μ2 k = x_st μ 28 6 n k) → CQ (dFewN (κ 2) most (k + 1) n) κ (some (.inl n)) μ2 := by
      intro q μ2 e
      rw [dFewN, if_pos q]
      exact ⟨rfl, KR μ2 e⟩
    clear ih
    refine x_iload_n (i := 2) dX5_fewest_24 rfl rfl ?_
    refine x_iconst dX5_fewest_25 ?_
    refine x_icmp_gt (tgt := 53) dX5_fewest_26 (by decide) (by first | (unfold x_in; omega) | (unfold x_in; decide)) (by first | (unfold x_in; omega) | (unfold x_in; decide)) (fun c1 => ?_) (fun c1 => ?_)
    · exact absurd c1 (by omega)
    · refine x_aload_n (i := 0) dX5_fewest_29 rfl rfl ?_
      refine x_getR xf_RX5_24 dX5_fewest_30 rfl rfl ?_
      refine x_iload_n (i := 2) dX5_fewest_33 rfl rfl ?_
      refine x_putI xp_RX5_144 dX5_fewest_34 rfl rfl ?_
      refine x_aload_n (i := 0) dX5_fewest_37 rfl rfl ?_
      refine x_cI0_0 lk_RX5_147 xm_X5_waitedOnTrial dX5_fewest_38 (s5_waitedOnTrial (hset (κ 2) 2 n) (hI) (hO) _ (hg)) (fun a μ2 hq2 => ?_)
      obtain ⟨ea, e28, eo⟩ := hq2
      cases ea
      refine x_iload_n (i := 1) dX5_fewest_41 rfl rfl ?_
      refine x_icmp_gt (tgt := 47) dX5_fewest_42 (by decide) (by first | (unfold x_in; omega) | (unfold x_in; decide)) (by first | (unfold x_in; omega) | (unfold x_in; decide)) (fun c2 => ?_) (fun c2 => ?_)
      · refine x_iinc_2 dX5_fewest_47 (by decide) rfl ?_
        refine x_goto (tgt := 24) dX5_fewest_50 (by decide) ?_
        exact KK μ2 (by omega) e28 eo
      · refine x_iload_n (i := 2) dX5_fewest_45 rfl rfl ?_
        refine x_iret dX5_fewest_46 rfl rfl ?_
        exact KE (by omega) μ2 eo
set_option maxRecDepth 100000 in
set_option maxHeartbeats 4000000 in
theorem s5_fewest (most : Int) (hmost : x_in most) (μ κ : xM) (h : CR μ κ) : X E0 shC 9 yX5_fewest cX5_fewest 3 (some .int) 0 [some (.inr (.inl 0)), some (.inl most), none] [] μ (CQ (if most < 0 then -4 else dFew (κ 2) most) (if most < 0 then mRef κ (-4) else κ)) := by
  have eH : hOf (x_ct [12, 13, 14, 15, 16, 17, 18] μ) 0 = κ 2 := h.hill
  have hI := h.mi
  have h1 : 0 ≤ κ 2 1 ∧ κ 2 1 ≤ 8 := hI.2.1
  have h0 : 0 ≤ κ 2 0 ∧ κ 2 0 ≤ 5 := hI.1
  have hm2 : -2147483648 ≤ most ∧ most < 2147483648 := hmost
  refine x_iload_n (i := 1) dX5_fewest_0 rfl rfl ?_
  refine x_if_ge (tgt := 11) dX5_fewest_1 (by decide) (by first | (unfold x_in; omega) | (unfold x_in; decide)) (fun c1 => ?_) (fun c1 => ?_)
  · refine x_aload_n (i := 0) dX5_fewest_11 rfl rfl ?_
    refine x_getR xf_RX5_24 dX5_fewest_12 rfl rfl ?_
    refine x_aload_n (i := 0) dX5_fewest_15 rfl rfl ?_
    refine x_getR xf_RX5_20 dX5_fewest_16 rfl rfl ?_
    refine x_cV_R [28, 29, 30, 31, 32, 33, 34, 12, 13, 14, 15, 16, 17, 18] lk_RX5_70 xm_X1_copyFrom dX5_fewest_19 (s1_copyFrom (x_ct [28, 29, 30, 31, 32, 33, 34, 12, 13, 14, 15, 16, 17, 18] μ)) (fun ν hq => ?_)
    have hx := cp_trial hq.2.2
    have hc : CR (x_mrg [28, 29, 30, 31, 32, 33, 34, 12, 13, 14, 15, 16, 17, 18] μ ν) κ := h.same (fun k hk _ => hx k (by omega))
    have h28 : hOf (x_mrg [28, 29, 30, 31, 32, 33, 34, 12, 13, 14, 15, 16, 17, 18] μ ν) 28 = κ 2 := hq.2.1.trans h.hill
    clear hx
    generalize x_mrg [28, 29, 30, 31, 32, 33, 34, 12, 13, 14, 15, 16, 17, 18] μ ν = μ1 at *
    refine x_iconst dX5_fewest_22 ?_
    refine x_istore_2 dX5_fewest_23 (by decide) rfl ?_
    rw [if_neg (by omega), if_neg (by omega)]
    exact l5_fewest most (by omega) κ 5 0 μ1 (by decide) (by decide) hc (fun z => by rw [h28])
  · refine x_aload_n (i := 0) dX5_fewest_4 rfl rfl ?_
    refine x_bipush dX5_fewest_5 (by decide) ?_
    refine x_cIf0_1 lk_RX5_54 xm_X5_refuse dX5_fewest_7 (s5_refuse _ (by decide) _) ?_
    refine x_iret dX5_fewest_10 rfl rfl ?_
    rw [if_pos (by omega), if_pos (by omega)]
    exact ⟨rfl, h.ref (-4)⟩
set_option maxRecDepth 100000 in
set_option maxHeartbeats 4000000 in
theorem s5_chance (z : Int) (hz : x_in z) (μ κ : xM) (h : CR μ κ) : X E0 shC 9 yX5_chance cX5_chance 4 (some .int) 0 [some (.inr (.inl 0)), some (.inl z), none, none] [] μ (CQ (if mWithin z 0 100 = 0 then dChance (κ 2) z else mWithin z 0 100) (if mWithin z 0 100 = 0 then κ else mRef κ (mWithin z 0 100))) := by
  have eH : hOf (x_ct [12, 13, 14, 15, 16, 17, 18] μ) 0 = κ 2 := h.hill
  have hI := h.mi
  have h1 : 0 ≤ κ 2 1 ∧ κ 2 1 ≤ 8 := hI.2.1
  have h0 : 0 ≤ κ 2 0 ∧ κ 2 0 ≤ 5 := hI.1
  have hz2 : -2147483648 ≤ z ∧ z < 2147483648 := hz
  have hI1 := MI_set10 hI (v := 1) (by decide)
  have hO1 := DO_set h.o (j := 10) (v := 1) (by decide) (by decide)
  have hI0 := MI_set10 hI (v := 0) (by decide)
  have hO0 := DO_set h.o (j := 10) (v := 0) (by decide) (by decide)
  have w4 : z < 0 → mWithin z 0 100 = -4 := fun q => if_pos q
  have w6 : ¬ z < 0 → 100 < z → mWithin z 0 100 = -6 := fun q r => (if_neg q).trans (if_pos r)
  have w0 : ¬ z < 0 → ¬ 100 < z → mWithin z 0 100 = 0 := fun q r => (if_neg q).trans (if_neg r)
  have K35 : 0 ≤ z ∧ z ≤ 100 → ∀ μ1, CR μ1 κ → hOf μ1 28 = κ 2 → X E0 shC 9 yX5_chance cX5_chance 4 (some .int) 35 [some (.inr (.inl 0)), some (.inl z), none, none] [] μ1 (CQ (dChance (κ 2) z) κ) := by
    intro hzz μ1 hc h28
    have hg1 : hOf (x_st μ1 33 6 1) 28 = hset (κ 2) 10 1 := by
      have := hOf_ss μ1 28 (p := 6) (by decide) (by decide) 1
      rw [h28] at this
      exact this
    have hg0 : ∀ μ2 : xM, hOf μ2 28 = hset (κ 2) 10 1 → hOf (x_st μ2 33 6 0) 28 = hset (κ 2) 10 0 := by
      intro μ2 e
      have := hOf_ss μ2 28 (p := 6) (by decide) (by decide) 0
      rw [e] at this
      exact this.trans (hset_twice (κ 2) 10 1 0)
    have KR : ∀ μ2 μ3 : xM, (∀ k, k < 19 ∨ 34 < k → μ2 k = x_st μ1 33 6 1 k) → (∀ k, k < 19 ∨ 34 < k → μ3 k = x_st μ2 33 6 0 k) → CR μ3 κ := by
      intro μ2 μ3 q2 q3
      refine hc.same (fun k q _ => (q3 k q).trans ?_)
      refine (funext fun x => x_st_ne (Or.inl (by omega))).trans ((q2 k q).trans ?_)
      exact funext fun x => x_st_ne (Or.inl (by omega))
    clear h eH
    refine x_aload_n (i := 0) dX5_chance_35 rfl rfl ?_
    refine x_getR xf_RX5_24 dX5_chance_36 rfl rfl ?_
    refine x_getR xf_RX5_102 dX5_chance_39 rfl rfl ?_
    refine x_bipush dX5_chance_42 (by decide) ?_
    refine x_iconst dX5_chance_44 ?_
    refine x_iastK (K := 6) dX5_chance_45 rfl rfl (by decide) (by decide) ?_
    refine x_aload_n (i := 0) dX5_chance_46 rfl rfl ?_
    refine x_cI0_0 lk_RX5_147 xm_X5_waitedOnTrial dX5_chance_47 (s5_waitedOnTrial (hset (κ 2) 10 1) hI1 hO1 _ hg1) (fun a μ2 hq2 => ?_)
    obtain ⟨ea, e28, eo⟩ := hq2
    cases ea
    refine x_istore_2 dX5_chance_50 (by decide) rfl ?_
    refine x_aload_n (i := 0) dX5_chance_51 rfl rfl ?_
    refine x_getR xf_RX5_24 dX5_chance_52 rfl rfl ?_
    refine x_getR xf_RX5_102 dX5_chance_55 rfl rfl ?_
    refine x_bipush dX5_chance_58 (by decide) ?_
    refine x_iconst dX5_chance_60 ?_
    refine x_iastK (K := 6) dX5_chance_61 rfl rfl (by decide) (by decide) ?_
    refine x_aload_n (i := 0) dX5_chance_62 rfl rfl ?_
    refine x_cI0_0 lk_RX5_147 xm_X5_waitedOnTrial dX5_chance_63 (s5_waitedOnTrial (hset (κ 2) 10 0) hI0 hO0 _ (hg0 μ2 e28)) (fun b μ3 hq3 => ?_)
    obtain ⟨eb, e29, ep⟩ := hq3
    cases eb
    refine x_istore_3 dX5_chance_66 (by decide) rfl ?_
    refine x_iload_n (i := 1) dX5_chance_67 rfl rfl ?_
    refine x_iload_n (i := 2) dX5_chance_68 rfl rfl ?_
    refine x_imul dX5_chance_69 ?_
    refine x_bipush dX5_chance_70 (by decide) ?_
    refine x_iload_n (i := 1) dX5_chance_72 rfl rfl ?_
    refine x_isub dX5_chance_73 ?_
    refine x_iload_n (i := 3) dX5_chance_74 rfl rfl ?_
    refine x_imul dX5_chance_75 ?_
    refine x_iadd dX5_chance_76 ?_
    refine x_iret dX5_chance_77 rfl rfl ?_
    exact ⟨rfl, KR μ2 μ3 eo ep⟩
  refine x_iload_n (i := 1) dX5_chance_0 rfl rfl ?_
  refine x_if_ge (tgt := 11) dX5_chance_1 (by decide) (by first | (unfold x_in; omega) | (unfold x_in; decide)) (fun c1 => ?_) (fun c1 => ?_)
  · refine x_iload_n (i := 1) dX5_chance_11 rfl rfl ?_
    refine x_bipush dX5_chance_12 (by decide) ?_
    refine x_icmp_le (tgt := 24) dX5_chance_14 (by decide) (by first | (unfold x_in; omega) | (unfold x_in; decide)) (by first | (unfold x_in; omega) | (unfold x_in; decide)) (fun c2 => ?_) (fun c2 => ?_)
    · refine x_aload_n (i := 0) dX5_chance_24 rfl rfl ?_
      refine x_getR xf_RX5_24 dX5_chance_25 rfl rfl ?_
      refine x_aload_n (i := 0) dX5_chance_28 rfl rfl ?_
      refine x_getR xf_RX5_20 dX5_chance_29 rfl rfl ?_
      refine x_cV_R [28, 29, 30, 31, 32, 33, 34, 12, 13, 14, 15, 16, 17, 18] lk_RX5_70 xm_X1_copyFrom dX5_chance_32 (s1_copyFrom (x_ct [28, 29, 30, 31, 32, 33, 34, 12, 13, 14, 15, 16, 17, 18] μ)) (fun ν hq => ?_)
      have hx := cp_trial hq.2.2
      have hc : CR (x_mrg [28, 29, 30, 31, 32, 33, 34, 12, 13, 14, 15, 16, 17, 18] μ ν) κ := h.same (fun k hk _ => hx k (by omega))
      have h28 : hOf (x_mrg [28, 29, 30, 31, 32, 33, 34, 12, 13, 14, 15, 16, 17, 18] μ ν) 28 = κ 2 := hq.2.1.trans h.hill
      clear hx
      generalize x_mrg [28, 29, 30, 31, 32, 33, 34, 12, 13, 14, 15, 16, 17, 18] μ ν = μ1 at *
      rw [w0 (by omega) (by omega), if_pos rfl, if_pos rfl]
      exact K35 (by omega) μ1 hc h28
    · refine x_aload_n (i := 0) dX5_chance_17 rfl rfl ?_
      refine x_bipush dX5_chance_18 (by decide) ?_
      refine x_cIf0_1 lk_RX5_54 xm_X5_refuse dX5_chance_20 (s5_refuse _ (by decide) _) ?_
      refine x_iret dX5_chance_23 rfl rfl ?_
      rw [w6 (by omega) (by omega), if_neg (by decide), if_neg (by decide)]
      exact ⟨rfl, h.ref (-6)⟩
  · refine x_aload_n (i := 0) dX5_chance_4 rfl rfl ?_
    refine x_bipush dX5_chance_5 (by decide) ?_
    refine x_cIf0_1 lk_RX5_54 xm_X5_refuse dX5_chance_7 (s5_refuse _ (by decide) _) ?_
    refine x_iret dX5_chance_10 rfl rfl ?_
    rw [w4 (by omega), if_neg (by decide), if_neg (by decide)]
    exact ⟨rfl, h.ref (-4)⟩
