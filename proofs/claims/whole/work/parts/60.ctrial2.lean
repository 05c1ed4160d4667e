/-! THE CLASS: which, yard -/
theorem MI_dbl {h : Nat → Int} (hI : MI h) {p : Int} (h0 : 0 ≤ p) (h5 : p < 5) : 0 ≤ h (13 + 2 * p + 1).toNat ∧ h (13 + 2 * p + 1).toNat ≤ 1 := (hI.2.2.2.2.2.2.2.2.2.2.2.2.2.1 p h0 h5).2
theorem dWhN_in {h : Nat → Int} (hI : MI h) : ∀ k : Nat, k ≤ 5 → -4800 ≤ (dWhN h k).2 ∧ (dWhN h k).2 ≤ 80000
  | 0, _ => dAll_in hI
  | k + 1, hk => by
    have ih := dWhN_in hI k (by omega)
    have hd := dAll_in (MI_setP hI (q := (k : Int)) ⟨by omega, by omega⟩ (v := 1) (by decide))
    rw [dWhN]
    split
    · exact ih
    · split
      · exact hd
      · exact ih
set_option maxRecDepth 100000 in
set_option maxHeartbeats 4000000 in
theorem l5_which (κ : xM) : ∀ (n : Nat) (p : Int) (z : Option xA) (μ : xM), 0 ≤ p → p ≤ κ 2 0 → (κ 2 0 - p).toNat < n → CR μ κ → hOf μ 28 = κ 2 → X E0 shC 9 yX5_which cX5_which 5 (some .int) 21 [some (.inr (.inl 0)), some (.inl ((dWhN (κ 2) p.toNat).2)), some (.inl ((dWhN (κ 2) p.toNat).1)), some (.inl p), z] [] μ (CQ (dWhich (κ 2)) κ) := by
  intro n
  induction n with
  | zero => intro p _ _ _ _ h; omega
  | succ n ih =>
    intro p z μ hp hp2 hn h h28
    have h0 : 0 ≤ κ 2 0 ∧ κ 2 0 ≤ 5 := h.mi.1
    have b0 : μ 12 0 = κ 2 0 := congrFun h.hill 0
    have bp : p < κ 2 0 → μ 14 p.toNat = κ 2 (13 + 2 * p + 1).toNat := fun q => by
      rw [← h.hill]
      exact (hOf_dbl μ 12 hp (by omega)).symm
    have bd : p < κ 2 0 → 0 ≤ κ 2 (13 + 2 * p + 1).toNat ∧ κ 2 (13 + 2 * p + 1).toNat ≤ 1 := fun q => MI_dbl h.mi hp (by omega)
    have hs := dWhN_s (κ 2) hp
    have hw2 : p < κ 2 0 → -4800 ≤ (dWhN (κ 2) p.toNat).2 ∧ (dWhN (κ 2) p.toNat).2 ≤ 80000 := by
      intro q
      exact dWhN_in h.mi p.toNat (by omega)
    have KK : ∀ μ2 z2 a b, CR μ2 κ → hOf μ2 28 = κ 2 → p < κ 2 0 → a = (dWhN (κ 2) (p + 1).toNat).2 → b = (dWhN (κ 2) (p + 1).toNat).1 → X E0 shC 9 yX5_which cX5_which 5 (some .int) 21 [some (.inr (.inl 0)), some (.inl a), some (.inl b), some (.inl (p + 1)), z2] [] μ2 (CQ (dWhich (κ 2)) κ) := by
      intro μ2 z2 a b c e q ea eb
      rw [ea, eb]
      exact ih (p + 1) z2 μ2 (by omega) (by omega) (by omega) c e
    have KE : p = κ 2 0 → CQ (dWhich (κ 2)) κ (some (.inl (dWhN (κ 2) p.toNat).1)) μ := by
      intro q
      rw [q]
      exact ⟨rfl, h⟩
    have K44 : p < κ 2 0 → μ 14 p.toNat = 0 → X E0 shC 9 yX5_which cX5_which 5 (some .int) 44 [some (.inr (.inl 0)), some (.inl ((dWhN (κ 2) p.toNat).2)), some (.inl ((dWhN (κ 2) p.toNat).1)), some (.inl p), z] [] μ (CQ (dWhich (κ 2)) κ) := by
      intro q e0
      rw [bp q] at e0
      have hI := MI_setP h.mi (q := p) ⟨hp, by omega⟩ (v := 1) (by decide)
      have hO := DO_set h.o (j := (13 + 2 * p + 1).toNat) (v := 1) (by omega) (by omega)
      have hg : hOf (x_st μ 30 p.toNat 1) 28 = hset (κ 2) (13 + 2 * p + 1).toNat 1 := by
        rw [← h28]
        exact hOf_sd μ 28 hp (by omega) 1
      have hd := dAll_in hI
      have hw := hw2 q
      have hb : ∀ μ2 : xM, hOf μ2 28 = hset (κ 2) (13 + 2 * p + 1).toNat 1 → hOf (x_st μ2 30 p.toNat 0) 28 = κ 2 := by
        intro μ2 e
        refine (hOf_sd μ2 28 hp (by omega) 0).trans ?_
        rw [e, hset_twice]
        exact hset_id e0
      have hc : ∀ μ2 : xM, (∀ k, k < 19 ∨ 34 < k → μ2 k = x_st μ 30 p.toNat 1 k) → CR (x_st μ2 30 p.toNat 0) κ := by
        intro μ2 e
        refine h.same (fun k q _ => ?_)
        refine (funext fun x => x_st_ne (Or.inl (by omega))).trans ((e k q).trans ?_)
        exact funext fun x => x_st_ne (Or.inl (by omega))
      rw [if_neg (show ¬ κ 2 (13 + 2 * p + 1).toNat = 1 by omega)] at hs
      have v1 : dAll (hset (κ 2) (13 + 2 * p + 1).toNat 1) < (dWhN (κ 2) p.toNat).2 → dAll (hset (κ 2) (13 + 2 * p + 1).toNat 1) = (dWhN (κ 2) (p + 1).toNat).2 ∧ p = (dWhN (κ 2) (p + 1).toNat).1 := by
        intro r
        rw [hs, if_pos r]
        exact ⟨rfl, rfl⟩
      have v2 : ¬ dAll (hset (κ 2) (13 + 2 * p + 1).toNat 1) < (dWhN (κ 2) p.toNat).2 → (dWhN (κ 2) p.toNat).2 = (dWhN (κ 2) (p + 1).toNat).2 ∧ (dWhN (κ 2) p.toNat).1 = (dWhN (κ 2) (p + 1).toNat).1 := by
        intro r
        rw [hs, if_neg r]
        exact ⟨rfl, rfl⟩
      clear ih hs
      refine x_aload_n (i := 0) dX5_which_44 rfl rfl ?_
      refine x_getR xf_RX5_24 dX5_which_45 rfl rfl ?_
      refine x_getR xf_RX5_84 dX5_which_48 rfl rfl ?_
      refine x_iload_n (i := 3) dX5_which_51 rfl rfl ?_
      refine x_iconst dX5_which_52 ?_
      refine x_iast dX5_which_53 rfl (by decide) (by first | omega | decide) (by first | omega | decide) ?_
      refine x_aload_n (i := 0) dX5_which_54 rfl rfl ?_
      refine x_cI0_0 lk_RX5_147 xm_X5_waitedOnTrial dX5_which_55 (s5_waitedOnTrial (hset (κ 2) (13 + 2 * p + 1).toNat 1) hI hO _ hg) (fun a μ2 hq2 => ?_)
      obtain ⟨ea, e28, eo⟩ := hq2
      cases ea
      refine x_istore_4 dX5_which_58 (by decide) rfl ?_
      refine x_aload_n (i := 0) dX5_which_60 rfl rfl ?_
      refine x_getR xf_RX5_24 dX5_which_61 rfl rfl ?_
      refine x_getR xf_RX5_84 dX5_which_64 rfl rfl ?_
      refine x_iload_n (i := 3) dX5_which_67 rfl rfl ?_
      refine x_iconst dX5_which_68 ?_
      refine x_iast dX5_which_69 rfl (by decide) (by first | omega | decide) (by first | omega | decide) ?_
      refine x_iload dX5_which_70 rfl ?_
      refine x_iload_n (i := 1) dX5_which_72 rfl rfl ?_
      refine x_icmp_ge (tgt := 81) dX5_which_73 (by decide) (by first | (unfold x_in; omega) | (unfold x_in; decide)) (by first | (unfold x_in; omega) | (unfold x_in; decide)) (fun c1 => ?_) (fun c1 => ?_)
      · refine x_iinc_3 dX5_which_81 (by decide) rfl ?_
        refine x_goto (tgt := 21) dX5_which_84 (by decide) ?_
        first | (have r : dAll (hset (κ 2) (13 + 2 * p + 1).toNat 1) < (dWhN (κ 2) p.toNat).2 := (by omega); exact KK _ _ _ _ (hc μ2 eo) (hb μ2 e28) q (v1 r).1 (v1 r).2) | exact KK _ _ _ _ (hc μ2 eo) (hb μ2 e28) q (v2 (by omega)).1 (v2 (by omega)).2
      · refine x_iload dX5_which_76 rfl ?_
        refine x_istore_1 dX5_which_78 (by decide) rfl ?_
        refine x_iload_n (i := 3) dX5_which_79 rfl rfl ?_
        refine x_istore_2 dX5_which_80 (by decide) rfl ?_
        refine x_iinc_3 dX5_which_81 (by decide) rfl ?_
        refine x_goto (tgt := 21) dX5_which_84 (by decide) ?_
        first | (have r : dAll (hset (κ 2) (13 + 2 * p + 1).toNat 1) < (dWhN (κ 2) p.toNat).2 := (by omega); exact KK _ _ _ _ (hc μ2 eo) (hb μ2 e28) q (v1 r).1 (v1 r).2) | exact KK _ _ _ _ (hc μ2 eo) (hb μ2 e28) q (v2 (by omega)).1 (v2 (by omega)).2
    have KN : p < κ 2 0 → ¬ μ 14 p.toNat = 0 → (dWhN (κ 2) p.toNat).2 = (dWhN (κ 2) (p + 1).toNat).2 ∧ (dWhN (κ 2) p.toNat).1 = (dWhN (κ 2) (p + 1).toNat).1 := by
      intro q r
      rw [bp q] at r
      rw [hs, if_pos (by have := bd q; omega)]
      exact ⟨rfl, rfl⟩
    clear ih hs
    refine x_iload_n (i := 3) dX5_which_21 rfl rfl ?_
    refine x_aload_n (i := 0) dX5_which_22 rfl rfl ?_
    refine x_getR xf_RX5_20 dX5_which_23 rfl rfl ?_
    refine x_getI xf_RX5_150 dX5_which_26 rfl rfl ?_
    refine x_icmp_ge (tgt := 87) dX5_which_29 (by decide) (by first | (unfold x_in; omega) | (unfold x_in; decide) | (have g := bd (by omega); have g2 := bp (by omega); unfold x_in; omega)) (by first | (unfold x_in; omega) | (unfold x_in; decide) | (have g := bd (by omega); have g2 := bp (by omega); unfold x_in; omega)) (fun c1 => ?_) (fun c1 => ?_)
    · refine x_iload_n (i := 2) dX5_which_87 rfl rfl ?_
      refine x_iret dX5_which_88 rfl rfl ?_
      exact KE (by omega)
    · refine x_aload_n (i := 0) dX5_which_32 rfl rfl ?_
      refine x_getR xf_RX5_20 dX5_which_33 rfl rfl ?_
      refine x_getR xf_RX5_84 dX5_which_36 rfl rfl ?_
      refine x_iload_n (i := 3) dX5_which_39 rfl rfl ?_
      refine x_iald dX5_which_40 rfl (by decide) (by first | omega | decide) (by first | omega | decide) ?_
      refine x_if_ne (tgt := 81) dX5_which_41 (by decide) (by first | (unfold x_in; omega) | (unfold x_in; decide) | (have g := bd (by omega); have g2 := bp (by omega); unfold x_in; omega)) (fun c2 => ?_) (fun c2 => ?_)
      · refine x_iinc_3 dX5_which_81 (by decide) rfl ?_
        refine x_goto (tgt := 21) dX5_which_84 (by decide) ?_
        exact KK μ z _ _ h h28 (by omega) (KN (by omega) (by omega)).1 (KN (by omega) (by omega)).2
      · exact K44 (by omega) (by omega)
set_option maxRecDepth 100000 in
set_option maxHeartbeats 4000000 in
theorem s5_which (μ κ : xM) (h : CR μ κ) : X E0 shC 9 yX5_which cX5_which 5 (some .int) 0 [some (.inr (.inl 0)), none, none, none, none] [] μ (CQ (dWhich (κ 2)) (κ)) := by
  have eH : hOf (x_ct [12, 13, 14, 15, 16, 17, 18] μ) 0 = κ 2 := h.hill
  have hI := h.mi
  have h1 : 0 ≤ κ 2 1 ∧ κ 2 1 ≤ 8 := hI.2.1
  have h0 : 0 ≤ κ 2 0 ∧ κ 2 0 ≤ 5 := hI.1
  have K11 : ∀ μ1, CR μ1 κ → hOf μ1 28 = κ 2 → X E0 shC 9 yX5_which cX5_which 5 (some .int) 11 [some (.inr (.inl 0)), none, none, none, none] [] μ1 (CQ (dWhich (κ 2)) κ) := by
    intro μ1 hc h28
    have KL : ∀ μ2, CR μ2 κ → hOf μ2 28 = κ 2 → X E0 shC 9 yX5_which cX5_which 5 (some .int) 21 [some (.inr (.inl 0)), some (.inl (dAll (κ 2))), some (.inl (-9)), some (.inl 0), none] [] μ2 (CQ (dWhich (κ 2)) κ) := fun μ2 c e => l5_which κ _ 0 none μ2 (by decide) (by omega) (Nat.lt_succ_self _) c e
    have hc2 : ∀ μ2 : xM, (∀ k, k < 19 ∨ 34 < k → μ2 k = μ1 k) → CR μ2 κ := fun μ2 e => hc.same (fun k q _ => e k q)
    refine x_aload_n (i := 0) dX5_which_11 rfl rfl ?_
    refine x_cI0_0 lk_RX5_147 xm_X5_waitedOnTrial dX5_which_12 (s5_waitedOnTrial (κ 2) hI h.o _ h28) (fun a μ2 hq2 => ?_)
    obtain ⟨ea, e28, eo⟩ := hq2
    cases ea
    refine x_istore_1 dX5_which_15 (by decide) rfl ?_
    refine x_bipush dX5_which_16 (by decide) ?_
    refine x_istore_2 dX5_which_18 (by decide) rfl ?_
    refine x_iconst dX5_which_19 ?_
    refine x_istore_3 dX5_which_20 (by decide) rfl ?_
    exact KL μ2 (hc2 μ2 eo) e28
  refine x_aload_n (i := 0) dX5_which_0 rfl rfl ?_
  refine x_getR xf_RX5_24 dX5_which_1 rfl rfl ?_
  refine x_aload_n (i := 0) dX5_which_4 rfl rfl ?_
  refine x_getR xf_RX5_20 dX5_which_5 rfl rfl ?_
  refine x_cV_R [28, 29, 30, 31, 32, 33, 34, 12, 13, 14, 15, 16, 17, 18] lk_RX5_70 xm_X1_copyFrom dX5_which_8 (s1_copyFrom (x_ct [28, 29, 30, 31, 32, 33, 34, 12, 13, 14, 15, 16, 17, 18] μ)) (fun ν hq => ?_)
  have hx := cp_trial hq.2.2
  have hc : CR (x_mrg [28, 29, 30, 31, 32, 33, 34, 12, 13, 14, 15, 16, 17, 18] μ ν) κ := h.same (fun k hk _ => hx k (by omega))
  have h28 : hOf (x_mrg [28, 29, 30, 31, 32, 33, 34, 12, 13, 14, 15, 16, 17, 18] μ ν) 28 = κ 2 := hq.2.1.trans h.hill
  clear hx
  generalize x_mrg [28, 29, 30, 31, 32, 33, 34, 12, 13, 14, 15, 16, 17, 18] μ ν = μ1 at *
  exact K11 μ1 hc h28
def yG (a : Int × Int) : Int := if 0 ≤ a.1 then a.2 else -1
theorem dYdN_in2 {h : Nat → Int} (hI : MI h) : ∀ k : Nat, k ≤ 19 → (-9 ≤ (dYdN h k).1 ∧ (dYdN h k).1 ≤ 950) ∧ (0 ≤ (dYdN h k).2 ∧ (dYdN h k).2 ≤ 8000)
  | 0, _ => (show ((-9 : Int) ≤ -9 ∧ (-9 : Int) ≤ 950) ∧ ((0 : Int) ≤ 0 ∧ (0 : Int) ≤ 8000) by decide)
  | k + 1, hk => by
    have ih := dYdN_in2 hI k (by omega)
    have h1 : 0 ≤ h 1 ∧ h 1 ≤ 8 := hI.2.1
    rw [dYdN]
    split
    · exact ih
    · have := dWts_in (MI_wtN hI (w := 50 + 50 * (k : Int)) (by omega) (h 1).toNat (by omega))
      exact ⟨by omega, this⟩
set_option maxRecDepth 100000 in
set_option maxHeartbeats 4000000 in
theorem l5_yard (κ : xM) : ∀ (k n : Nat) (z : Option xA) (μ : xM), k + n = 19 → CR μ κ → (∀ w, hWtN (hOf μ 28) w (κ 2 1).toNat = hWtN (κ 2) w (κ 2 1).toNat) → hOf μ 28 1 = κ 2 1 → MI (hOf μ 28) → X E0 shC 9 yX5_yard cX5_yard 5 (some .int) 32 [some (.inr (.inl 0)), some (.inl (yG (dYdN (κ 2) k))), some (.inl ((dYdN (κ 2) k).1)), some (.inl (50 + 50 * (k : Int))), z] [] μ (CQ (dYard (κ 2)) κ) := by
  intro k n
  induction n generalizing k with
  | zero =>
    intro z μ hk h hw h81 hM
    have KE : CQ (dYard (κ 2)) κ (some (.inl (dYdN (κ 2) k).1)) μ := by
      rw [show k = 19 by omega]
      exact ⟨rfl, h⟩
    refine x_iload_n (i := 3) dX5_yard_32 rfl rfl ?_
    refine x_sipush dX5_yard_33 (by decide) ?_
    refine x_icmp_gt (tgt := 80) dX5_yard_36 (by decide) (by first | (unfold x_in; omega) | (unfold x_in; decide)) (by first | (unfold x_in; omega) | (unfold x_in; decide)) (fun c1 => ?_) (fun c1 => ?_)
    · refine x_iload_n (i := 2) dX5_yard_80 rfl rfl ?_
      refine x_iret dX5_yard_81 rfl rfl ?_
      exact KE
    · exact absurd c1 (by omega)
  | succ n ih =>
    intro z μ hk h hw h81 hM
    have h1 : 0 ≤ κ 2 1 ∧ κ 2 1 ≤ 8 := h.mi.2.1
    have hI := MI_wtN h.mi (w := 50 + 50 * (k : Int)) (by omega) (κ 2 1).toNat (by omega)
    have hO := DO_wtN h.o (50 + 50 * (k : Int)) (κ 2 1).toNat (by omega)
    have hyi := dYdN_in2 h.mi k (by omega)
    have hd := dWts_in hI
    have e28 : hOf (x_ct [28, 29, 30, 31, 32, 33, 34] μ) 0 = hOf μ 28 := rfl
    have KA : ∀ ν : xM, hOf ν 0 = hWtN (hOf (x_ct [28, 29, 30, 31, 32, 33, 34] μ) 0) (50 + 50 * (k : Int)) (hOf (x_ct [28, 29, 30, 31, 32, 33, 34] μ) 0 1).toNat → hOf (x_mrg [28, 29, 30, 31, 32, 33, 34] μ ν) 28 = hWtN (κ 2) (50 + 50 * (k : Int)) (κ 2 1).toNat ∧ ∀ k, k < 19 ∨ 34 < k → x_mrg [28, 29, 30, 31, 32, 33, 34] μ ν k = μ k := by
      intro ν e
      rw [e28, h81, hw] at e
      exact ⟨e, fun k hk => x_mrg_out μ ν (fun i hi => by simp at hi; omega)⟩
    have hyg : -1 ≤ yG (dYdN (κ 2) k) ∧ yG (dYdN (κ 2) k) ≤ 8000 := by
      unfold yG
      split <;> omega
    have hstep : dYdN (κ 2) (k + 1) = if 0 ≤ (dYdN (κ 2) k).1 ∧ dWts (hWtN (κ 2) (50 + 50 * (k : Int)) (κ 2 1).toNat) ≤ (dYdN (κ 2) k).2 then dYdN (κ 2) k else (50 + 50 * (k : Int), dWts (hWtN (κ 2) (50 + 50 * (k : Int)) (κ 2 1).toNat)) := rfl
    have v1 : dWts (hWtN (κ 2) (50 + 50 * (k : Int)) (κ 2 1).toNat) ≤ yG (dYdN (κ 2) k) → dYdN (κ 2) (k + 1) = dYdN (κ 2) k := by
      intro q
      unfold yG at q
      rw [hstep]
      by_cases r : 0 ≤ (dYdN (κ 2) k).1
      · rw [if_pos r] at q
        rw [if_pos ⟨r, q⟩]
      · rw [if_neg r] at q
        omega
    have v2 : ¬ dWts (hWtN (κ 2) (50 + 50 * (k : Int)) (κ 2 1).toNat) ≤ yG (dYdN (κ 2) k) → dYdN (κ 2) (k + 1) = (50 + 50 * (k : Int), dWts (hWtN (κ 2) (50 + 50 * (k : Int)) (κ 2 1).toNat)) := by
      intro q
      unfold yG at q
      rw [hstep]
      refine if_neg (fun r => q ?_)
      rw [if_pos r.1]
      exact r.2
    have KK : ∀ μ2 z2 a b, CR μ2 κ → hOf μ2 28 = hWtN (κ 2) (50 + 50 * (k : Int)) (κ 2 1).toNat → a = yG (dYdN (κ 2) (k + 1)) → b = (dYdN (κ 2) (k + 1)).1 → X E0 shC 9 yX5_yard cX5_yard 5 (some .int) 32 [some (.inr (.inl 0)), some (.inl a), some (.inl b), some (.inl (50 + 50 * (k : Int) + 50)), z2] [] μ2 (CQ (dYard (κ 2)) κ) := by
      intro μ2 z2 a b c e ea eb
      rw [ea, eb, show 50 + 50 * (k : Int) + 50 = 50 + 50 * ((k + 1 : Nat) : Int) by omega]
      refine ih (k + 1) z2 μ2 (by omega) c (fun w => by rw [e, hWtN_twice]) (by rw [e]; exact hWtN_low _ _ _ _ (by decide)) (by rw [e]; exact hI)
    have K1 : dWts (hWtN (κ 2) (50 + 50 * (k : Int)) (κ 2 1).toNat) ≤ yG (dYdN (κ 2) k) → ∀ μ2 z2, CR μ2 κ → hOf μ2 28 = hWtN (κ 2) (50 + 50 * (k : Int)) (κ 2 1).toNat → X E0 shC 9 yX5_yard cX5_yard 5 (some .int) 32 [some (.inr (.inl 0)), some (.inl (yG (dYdN (κ 2) k))), some (.inl ((dYdN (κ 2) k).1)), some (.inl (50 + 50 * (k : Int) + 50)), z2] [] μ2 (CQ (dYard (κ 2)) κ) := by
      intro q μ2 z2 c e
      exact KK μ2 z2 _ _ c e (by rw [v1 q]) (by rw [v1 q])
    have K2 : ¬ dWts (hWtN (κ 2) (50 + 50 * (k : Int)) (κ 2 1).toNat) ≤ yG (dYdN (κ 2) k) → ∀ μ2 z2, CR μ2 κ → hOf μ2 28 = hWtN (κ 2) (50 + 50 * (k : Int)) (κ 2 1).toNat → X E0 shC 9 yX5_yard cX5_yard 5 (some .int) 32 [some (.inr (.inl 0)), some (.inl (dWts (hWtN (κ 2) (50 + 50 * (k : Int)) (κ 2 1).toNat))), some (.inl (50 + 50 * (k : Int))), some (.inl (50 + 50 * (k : Int) + 50)), z2] [] μ2 (CQ (dYard (κ 2)) κ) := by
      intro q μ2 z2 c e
      refine KK μ2 z2 _ _ c e ?_ (by rw [v2 q])
      rw [v2 q]
      exact (if_pos (show 0 ≤ 50 + 50 * (k : Int) by omega)).symm
    have KC : ∀ μ2 ν : xM, (∀ k, k < 19 ∨ 34 < k → μ2 k = μ k) → CR (x_mrg [19, 20, 21, 22, 23, 24, 25, 26, 27, 28, 29, 30, 31, 32, 33, 34] μ2 ν) κ := by
      intro μ2 ν e
      refine h.same (fun k q _ => (x_mrg_out μ2 ν (fun i hi => by simp at hi; omega)).trans (e k q))
    clear ih hstep v1 v2 KK
    generalize hWtN (κ 2) (50 + 50 * (k : Int)) (κ 2 1).toNat = g at *
    refine x_iload_n (i := 3) dX5_yard_32 rfl rfl ?_
    refine x_sipush dX5_yard_33 (by decide) ?_
    refine x_icmp_gt (tgt := 80) dX5_yard_36 (by decide) (by first | (unfold x_in; omega) | (unfold x_in; decide)) (by first | (unfold x_in; omega) | (unfold x_in; decide)) (fun c1 => ?_) (fun c1 => ?_)
    · exact absurd c1 (by omega)
    · refine x_aload_n (i := 0) dX5_yard_39 rfl rfl ?_
      refine x_getR xf_RX5_24 dX5_yard_40 rfl rfl ?_
      refine x_iload_n (i := 3) dX5_yard_43 rfl rfl ?_
      refine x_cV_1 [28, 29, 30, 31, 32, 33, 34] lk_RX5_156 xm_X1_makeAllWeigh dX5_yard_44 (s1_makeAllWeigh _ (x_ct [28, 29, 30, 31, 32, 33, 34] μ) hM) (fun ν hq => ?_)
      obtain ⟨g1, g2⟩ := KA ν hq.2
      generalize x_mrg [28, 29, 30, 31, 32, 33, 34] μ ν = μ2 at *
      refine x_aload_n (i := 0) dX5_yard_47 rfl rfl ?_
      refine x_getR xf_RX5_21 dX5_yard_48 rfl rfl ?_
      refine x_cV_0 [19, 20, 21, 22, 23, 24, 25, 26, 27, 28, 29, 30, 31, 32, 33, 34] lk_RX5_126 xm_X0_run dX5_yard_51 (s0_run (x_ct [19, 20, 21, 22, 23, 24, 25, 26, 27, 28, 29, 30, 31, 32, 33, 34] μ2) g g1 hI hO) (fun ν2 hq2 => ?_)
      refine x_aload_n (i := 0) dX5_yard_54 rfl rfl ?_
      refine x_getR xf_RX5_21 dX5_yard_55 rfl rfl ?_
      refine x_cIp_0 [19, 20, 21, 22, 23, 24, 25, 26, 27, 28, 29, 30, 31, 32, 33, 34] lk_RX5_153 xm_X0_weightBegun dX5_yard_58 (s0_weightBegun _ g (DE_ctT hq2.2) hI) ?_
      refine x_istore_4 dX5_yard_61 (by decide) rfl ?_
      refine x_iload dX5_yard_63 rfl ?_
      refine x_iload_n (i := 1) dX5_yard_65 rfl rfl ?_
      refine x_icmp_le (tgt := 74) dX5_yard_66 (by decide) (by first | (unfold x_in; omega) | (unfold x_in; decide)) (by first | (unfold x_in; omega) | (unfold x_in; decide)) (fun c2 => ?_) (fun c2 => ?_)
      · refine x_iinc_3 dX5_yard_74 (by decide) rfl ?_
        refine x_goto (tgt := 32) dX5_yard_77 (by decide) ?_
        first | exact K1 (by omega) _ _ (KC μ2 ν2 g2) hq2.2.1 | exact K2 (by omega) _ _ (KC μ2 ν2 g2) hq2.2.1
      · refine x_iload dX5_yard_69 rfl ?_
        refine x_istore_1 dX5_yard_71 (by decide) rfl ?_
        refine x_iload_n (i := 3) dX5_yard_72 rfl rfl ?_
        refine x_istore_2 dX5_yard_73 (by decide) rfl ?_
        refine x_iinc_3 dX5_yard_74 (by decide) rfl ?_
        refine x_goto (tgt := 32) dX5_yard_77 (by decide) ?_
        first | exact K1 (by omega) _ _ (KC μ2 ν2 g2) hq2.2.1 | exact K2 (by omega) _ _ (KC μ2 ν2 g2) hq2.2.1
set_option maxRecDepth 100000 in
set_option maxHeartbeats 4000000 in
theorem s5_yard (μ κ : xM) (h : CR μ κ) : X E0 shC 9 yX5_yard cX5_yard 5 (some .int) 0 [some (.inr (.inl 0)), none, none, none, none] [] μ (CQ (if κ 2 1 = 0 then -9 else dYard (κ 2)) (κ)) := by
  have eH : hOf (x_ct [12, 13, 14, 15, 16, 17, 18] μ) 0 = κ 2 := h.hill
  have hI := h.mi
  have h1 : 0 ≤ κ 2 1 ∧ κ 2 1 ≤ 8 := hI.2.1
  have h0 : 0 ≤ κ 2 0 ∧ κ 2 0 ≤ 5 := hI.1
  have b1 : μ 12 3 = κ 2 1 := congrFun h.hill 1
  have KL : ∀ μ2, CR μ2 κ → hOf μ2 28 = κ 2 → X E0 shC 9 yX5_yard cX5_yard 5 (some .int) 32 [some (.inr (.inl 0)), some (.inl (-1)), some (.inl (-9)), some (.inl 50), none] [] μ2 (CQ (dYard (κ 2)) κ) := fun μ2 c e => l5_yard κ 0 19 none μ2 (by decide) c (fun w => by rw [e]) (by rw [e]) (by rw [e]; exact hI)
  refine x_aload_n (i := 0) dX5_yard_0 rfl rfl ?_
  refine x_getR xf_RX5_20 dX5_yard_1 rfl rfl ?_
  refine x_getI xf_RX5_138 dX5_yard_4 rfl rfl ?_
  refine x_if_ne (tgt := 13) dX5_yard_7 (by decide) (by first | (unfold x_in; omega) | (unfold x_in; decide)) (fun c1 => ?_) (fun c1 => ?_)
  · refine x_aload_n (i := 0) dX5_yard_13 rfl rfl ?_
    refine x_getR xf_RX5_24 dX5_yard_14 rfl rfl ?_
    refine x_aload_n (i := 0) dX5_yard_17 rfl rfl ?_
    refine x_getR xf_RX5_20 dX5_yard_18 rfl rfl ?_
    refine x_cV_R [28, 29, 30, 31, 32, 33, 34, 12, 13, 14, 15, 16, 17, 18] lk_RX5_70 xm_X1_copyFrom dX5_yard_21 (s1_copyFrom (x_ct [28, 29, 30, 31, 32, 33, 34, 12, 13, 14, 15, 16, 17, 18] μ)) (fun ν hq => ?_)
    have hx := cp_trial hq.2.2
    have hc : CR (x_mrg [28, 29, 30, 31, 32, 33, 34, 12, 13, 14, 15, 16, 17, 18] μ ν) κ := h.same (fun k hk _ => hx k (by omega))
    have h28 : hOf (x_mrg [28, 29, 30, 31, 32, 33, 34, 12, 13, 14, 15, 16, 17, 18] μ ν) 28 = κ 2 := hq.2.1.trans h.hill
    clear hx
    generalize x_mrg [28, 29, 30, 31, 32, 33, 34, 12, 13, 14, 15, 16, 17, 18] μ ν = μ1 at *
    refine x_iconst dX5_yard_24 ?_
    refine x_istore_1 dX5_yard_25 (by decide) rfl ?_
    refine x_bipush dX5_yard_26 (by decide) ?_
    refine x_istore_2 dX5_yard_28 (by decide) rfl ?_
    refine x_bipush dX5_yard_29 (by decide) ?_
    refine x_istore_3 dX5_yard_31 (by decide) rfl ?_
    rw [if_neg (by omega)]
    exact KL μ1 hc h28
  · refine x_bipush dX5_yard_10 (by decide) ?_
    refine x_iret dX5_yard_12 rfl rfl ?_
    rw [if_pos (by omega)]
    exact ⟨rfl, h⟩
