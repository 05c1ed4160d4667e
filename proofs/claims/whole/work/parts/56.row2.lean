/-! THE CLASS, Row: lookAt, add -/
def stR (μ : xM) : xM := x_mrg [2, 3, 4, 5, 6, 7, 8, 9, 10, 11, 12, 13] μ (x_mrg [0, 1, 2, 3, 4] (stT (x_ct [2, 3, 4, 5, 6, 7, 8, 9, 10, 11, 12, 13] μ) (hOf μ 7)) (lkA (stT (x_ct [2, 3, 4, 5, 6, 7, 8, 9, 10, 11, 12, 13] μ) (hOf μ 7))))
theorem stR_hill (μ : xM) : hOf (stR μ) 7 = hOf μ 7 := hOf_congr (fun k h1 h2 => by
  have e : k = 7 ∨ k = 8 ∨ k = 9 ∨ k = 10 ∨ k = 11 ∨ k = 12 ∨ k = 13 := by omega
  rcases e with rfl | rfl | rfl | rfl | rfl | rfl | rfl
  · exact stT_hi (k := 5) (x_ct [2, 3, 4, 5, 6, 7, 8, 9, 10, 11, 12, 13] μ) (hOf μ 7) (by decide)
  · exact stT_hi (k := 6) (x_ct [2, 3, 4, 5, 6, 7, 8, 9, 10, 11, 12, 13] μ) (hOf μ 7) (by decide)
  · exact stT_hi (k := 7) (x_ct [2, 3, 4, 5, 6, 7, 8, 9, 10, 11, 12, 13] μ) (hOf μ 7) (by decide)
  · exact stT_hi (k := 8) (x_ct [2, 3, 4, 5, 6, 7, 8, 9, 10, 11, 12, 13] μ) (hOf μ 7) (by decide)
  · exact stT_hi (k := 9) (x_ct [2, 3, 4, 5, 6, 7, 8, 9, 10, 11, 12, 13] μ) (hOf μ 7) (by decide)
  · exact stT_hi (k := 10) (x_ct [2, 3, 4, 5, 6, 7, 8, 9, 10, 11, 12, 13] μ) (hOf μ 7) (by decide)
  · exact stT_hi (k := 11) (x_ct [2, 3, 4, 5, 6, 7, 8, 9, 10, 11, 12, 13] μ) (hOf μ 7) (by decide))
theorem RR_start {μ : xM} (hI : MI (hOf μ 7)) (h0 : μ 0 5 = 0) : RR (stR μ) (mOpens (canon (hOf μ 7))) 0 := by
  have o := op_0 (canon (hOf μ 7))
  have hT := TR_lkA (TR_start (x_ct [2, 3, 4, 5, 6, 7, 8, 9, 10, 11, 12, 13] μ) (canon (hOf μ 7)) hI rfl)
  have hL := LA_lkA (stT (x_ct [2, 3, 4, 5, 6, 7, 8, 9, 10, 11, 12, 13] μ) (hOf μ 7))
  generalize hσ : lkA (stT (x_ct [2, 3, 4, 5, 6, 7, 8, 9, 10, 11, 12, 13] μ) (hOf μ 7)) = σ at *
  have d0 : rT (stR μ) 0 = σ 0 := by rw [← hσ]; rfl
  have d1 : rT (stR μ) 1 = σ 1 := by rw [← hσ]; rfl
  have d2 : rT (stR μ) 2 = σ 2 := by rw [← hσ]; rfl
  have d3 : rT (stR μ) 3 = σ 3 := by rw [← hσ]; rfl
  have d4 : rT (stR μ) 4 = σ 4 := by rw [← hσ]; rfl
  refine ⟨by rw [stR_hill]; exact hI, by rw [stR_hill]; exact o.2.2.2.2.2.2, TR_congr d0 d2 d3 d4 hT, LA_congr d0 d1 d3 d4 hL, DI_opens hI, 0, h0, by decide, fun t ht => ?_⟩
  rw [(op_7 _ ht).2, Nat.zero_testBit]
  exact ⟨fun q => absurd q (by decide), fun q => absurd q (by decide)⟩
set_option maxRecDepth 100000 in
set_option maxHeartbeats 4000000 in
theorem le_lookAt (rw_ h : Nat → Int) (n : Int) (hn : 0 ≤ n ∧ n ≤ 16) (J : Int × Int) (i m : Int) (hi : 0 ≤ i ∧ i ≤ n) (ν : xM) (h0 : ν 0 0 = n) (hJ : -9 ≤ J.1 ∧ J.1 ≤ 16) (hj : i = n ∨ J.1 ≠ -9) (h1 : ν 0 1 = J.1) (h2 : ν 0 2 = J.2) (hb : ν 1 = rw_) (hh : hOf ν 7 = h) : X E0 shRowH 4 yX2_lookAt cX2_lookAt 4 none 29 [some (.inr (.inl 0)), some (.inr (.inl 7)), some (.inl m), some (.inl i)] [] ν (fun r μ' => r = none ∧ μ' 0 0 = 0 ∧ μ' 0 1 = J.1 ∧ μ' 0 2 = J.2 ∧ μ' 1 = rw_ ∧ hOf μ' 7 = h) := by
  refine x_iload_n (i := 3) dX2_lookAt_29 rfl rfl ?_
  refine x_aload_n (i := 0) dX2_lookAt_30 rfl rfl ?_
  skip
  refine x_getI xf_RX2_22 dX2_lookAt_31 rfl rfl ?_
  refine x_icmp_ge (tgt := 109) dX2_lookAt_34 (by decide) (by first | (unfold x_in; omega) | (unfold x_in; decide)) (by first | (unfold x_in; omega) | (unfold x_in; decide)) (fun c1 => ?_) (fun c1 => ?_)
  · refine x_aload_n (i := 0) dX2_lookAt_109 rfl rfl ?_
    refine x_iconst dX2_lookAt_110 ?_
    refine x_putI xp_RX2_22 dX2_lookAt_111 rfl rfl ?_
    refine x_vret dX2_lookAt_114 rfl ?_
    exact ⟨rfl, rfl, h1, h2, hb, hh⟩
  · refine x_iload_n (i := 3) dX2_lookAt_37 rfl rfl ?_
    refine x_bipush dX2_lookAt_38 (by decide) ?_
    skip
    refine x_icmp_ge (tgt := 109) dX2_lookAt_40 (by decide) (by first | (unfold x_in; omega) | (unfold x_in; decide)) (by first | (unfold x_in; omega) | (unfold x_in; decide)) (fun c2 => ?_) (fun c2 => ?_)
    · refine x_aload_n (i := 0) dX2_lookAt_109 rfl rfl ?_
      refine x_iconst dX2_lookAt_110 ?_
      refine x_putI xp_RX2_22 dX2_lookAt_111 rfl rfl ?_
      refine x_vret dX2_lookAt_114 rfl ?_
      exact ⟨rfl, rfl, h1, h2, hb, hh⟩
    · refine x_aload_n (i := 0) dX2_lookAt_43 rfl rfl ?_
      refine x_getI xf_RX2_26 dX2_lookAt_44 rfl rfl ?_
      refine x_bipush dX2_lookAt_47 (by decide) ?_
      skip
      refine x_icmp_ne (tgt := 109) dX2_lookAt_49 (by decide) (by first | (unfold x_in; omega) | (unfold x_in; decide)) (by first | (unfold x_in; omega) | (unfold x_in; decide)) (fun c3 => ?_) (fun c3 => ?_)
      · refine x_aload_n (i := 0) dX2_lookAt_109 rfl rfl ?_
        refine x_iconst dX2_lookAt_110 ?_
        refine x_putI xp_RX2_22 dX2_lookAt_111 rfl rfl ?_
        refine x_vret dX2_lookAt_114 rfl ?_
        exact ⟨rfl, rfl, h1, h2, hb, hh⟩
      · exact absurd c3 (by omega)
set_option maxRecDepth 100000 in
set_option maxHeartbeats 4000000 in
theorem ll_lookAt (rw_ h : Nat → Int) (n : Int) (hn : 0 ≤ n ∧ n ≤ 16) (hr : ∀ k : Int, 0 ≤ k → k < 16 → 0 ≤ rw_ k.toNat ∧ rw_ k.toNat ≤ 9) : ∀ (k : Nat) (i last m : Int) (ν ρ : xM), 0 ≤ i → i + k = n → ν 0 0 = n → ν 0 1 = -9 → ν 0 2 = last → -9 ≤ last ∧ last ≤ 9999 → m = (if last < 0 then 0 else last + 1) → ν 1 = rw_ → hOf ν 7 = h → RR ν ρ m → X E0 shRowH 4 yX2_lookAt cX2_lookAt 4 none 29 [some (.inr (.inl 0)), some (.inr (.inl 7)), some (.inl m), some (.inl i)] [] ν (fun r μ' => r = none ∧ μ' 0 0 = 0 ∧ μ' 0 1 = (jJ rw_ k i last ρ).1 ∧ μ' 0 2 = (jJ rw_ k i last ρ).2 ∧ μ' 1 = rw_ ∧ hOf μ' 7 = h) := by
  intro k
  induction k with
  | zero =>
    intro i last m ν ρ hi hk h0 h1 h2 hl hm hb hh hR
    exact le_lookAt rw_ h n hn (-9, last) i m (by omega) ν h0 (show (-9 : Int) ≤ -9 ∧ (-9 : Int) ≤ 16 by decide) (Or.inl (by omega)) h1 h2 hb hh
  | succ k ih =>
    intro i last m ν ρ hi hk h0 h1 h2 hl hm hb hh hR
    have hv := hr i hi (by omega)
    have hvi : ν 1 i.toNat = rw_ i.toNat := by rw [hb]
    have hm2 : 0 ≤ m ∧ m ≤ 10000 := by
      rw [hm]
      split <;> omega
    have hJ := jC_rc (v := rw_ i.toNat) hR hm2
    have hC := s2_canFrom ν ρ m hR (rw_ i.toNat) hv
    have hci := rC_in hR hv.1
    have hjJ : jJ rw_ (k + 1) i last ρ = if (jCanF ρ m (rw_ i.toNat)).1 < 0 then (i, last) else jJ rw_ k (i + 1) (jCanF ρ m (rw_ i.toNat)).1 (jGo rw_ i (jCanF ρ m (rw_ i.toNat))) := by
      rw [jJ, ← hm]
    have KX : 9999 < max m (rC ν ρ (rw_ i.toNat)) → X E0 shRowH 4 yX2_lookAt cX2_lookAt 4 none 29 [some (.inr (.inl 0)), some (.inr (.inl 7)), some (.inl (max m (rC ν ρ (rw_ i.toNat)))), some (.inl (i + 1))] [] (x_st ν 0 1 i) (fun r μ' => r = none ∧ μ' 0 0 = 0 ∧ μ' 0 1 = (jJ rw_ (k + 1) i last ρ).1 ∧ μ' 0 2 = (jJ rw_ (k + 1) i last ρ).2 ∧ μ' 1 = rw_ ∧ hOf μ' 7 = h) := by
      intro q
      have hneg : (jCanF ρ m (rw_ i.toNat)).1 < 0 := by
        rcases hJ with r | r
        · exact r.2
        · exact absurd r.1 (Int.not_le.mpr q)
      rw [hjJ, if_pos hneg]
      exact le_lookAt rw_ h n hn (i, last) (i + 1) _ (by omega) (x_st ν 0 1 i) ((x_st_ne (Or.inr (by decide))).trans h0) (show -9 ≤ i ∧ i ≤ 16 by omega) (Or.inr (show i ≠ -9 by omega)) x_st_eq ((x_st_ne (Or.inr (by decide))).trans h2) hb hh
    have KG : ¬ 9999 < max m (rC ν ρ (rw_ i.toNat)) → (jCanF ρ m (rw_ i.toNat)).1 = max m (rC ν ρ (rw_ i.toNat)) ∧ RR ν (jCanF ρ m (rw_ i.toNat)).2 (max m (rC ν ρ (rw_ i.toNat))) ∧ rC ν (jCanF ρ m (rw_ i.toNat)).2 (rw_ i.toNat) = rC ν ρ (rw_ i.toNat) ∧ ¬ jBad (jCanF ρ m (rw_ i.toNat)).2 (rw_ i.toNat) := by
      intro q
      rcases hJ with r | r
      · exact absurd r.1 q
      · exact r.2
    have hDG : ¬ 9999 < max m (rC ν ρ (rw_ i.toNat)) → DI (jGo rw_ i (jCanF ρ m (rw_ i.toNat))) := by
      intro q
      refine DI_jGo hR.2.2.2.2.1 hm2 ?_
      rw [(KG q).1]
      omega
    generalize rC ν ρ (rw_ i.toNat) = c at *
    have KY : ¬ 9999 < max m c → ∀ ν2 : xM, hOf ν2 7 = hOf ν 7 → ν2 1 = ν 1 → (∀ j, j < 5 → ν2 0 j = ν 0 j) → RR ν2 (jGo rw_ i (jCanF ρ m (rw_ i.toNat))) (max m c + 1) → X E0 shRowH 4 yX2_lookAt cX2_lookAt 4 none 29 [some (.inr (.inl 0)), some (.inr (.inl 7)), some (.inl (max m c + 1)), some (.inl (i + 1))] [] (x_st ν2 0 2 (max m c)) (fun r μ' => r = none ∧ μ' 0 0 = 0 ∧ μ' 0 1 = (jJ rw_ (k + 1) i last ρ).1 ∧ μ' 0 2 = (jJ rw_ (k + 1) i last ρ).2 ∧ μ' 1 = rw_ ∧ hOf μ' 7 = h) := by
      intro q ν2 e7 e1 e0 hR2
      have g := (KG q).1
      rw [hjJ, if_neg (by rw [g]; omega), g]
      refine ih (i + 1) (max m c) (max m c + 1) (x_st ν2 0 2 (max m c)) _ (by omega) (by omega) ((x_st_ne (Or.inr (by decide))).trans ((e0 0 (by decide)).trans h0)) ((x_st_ne (Or.inr (by decide))).trans ((e0 1 (by decide)).trans h1)) x_st_eq (by omega) (by rw [if_neg (by omega)]) (e1.trans hb) (e7.trans hh) ?_
      obtain ⟨a, b, c', d, e, Z, f, g⟩ := hR2
      exact ⟨a, b, c', d, e, Z, f, g⟩
    have K83 : ¬ 9999 < max m c → X E0 shRowH 4 yX2_lookAt cX2_lookAt 4 none 83 [some (.inr (.inl 0)), some (.inr (.inl 7)), some (.inl (max m c)), some (.inl i)] [] ν (fun r μ' => r = none ∧ μ' 0 0 = 0 ∧ μ' 0 1 = (jJ rw_ (k + 1) i last ρ).1 ∧ μ' 0 2 = (jJ rw_ (k + 1) i last ρ).2 ∧ μ' 1 = rw_ ∧ hOf μ' 7 = h) := by
      intro q
      have g := KG q
      have hbg := s2_begin ν (jCanF ρ m (rw_ i.toNat)).2 (max m c) g.2.1 (rw_ i.toNat) hv (by omega) g.2.2.2 (by rw [g.2.2.1]; omega) (by
        have w := hDG q
        unfold jGo at w
        rw [g.1] at w
        exact w)
      have KZ : ∀ ν2 : xM, (hOf ν2 7 = hOf ν 7 ∧ ν2 1 = ν 1 ∧ (∀ j, j < 5 → ν2 0 j = ν 0 j) ∧ RR ν2 (if rw_ i.toNat = 9 then mGD (jCanF ρ m (rw_ i.toNat)).2 (mFree (jCanF ρ m (rw_ i.toNat)).2) (max m c) else mGU (jCanF ρ m (rw_ i.toNat)).2 (max m c) (rw_ i.toNat)) (max m c + 1)) → X E0 shRowH 4 yX2_lookAt cX2_lookAt 4 none 29 [some (.inr (.inl 0)), some (.inr (.inl 7)), some (.inl (max m c + 1)), some (.inl (i + 1))] [] (x_st ν2 0 2 (max m c)) (fun r μ' => r = none ∧ μ' 0 0 = 0 ∧ μ' 0 1 = (jJ rw_ (k + 1) i last ρ).1 ∧ μ' 0 2 = (jJ rw_ (k + 1) i last ρ).2 ∧ μ' 1 = rw_ ∧ hOf μ' 7 = h) := by
        intro ν2 ⟨a, b, c', d⟩
        refine KY q ν2 a b c' ?_
        unfold jGo
        rw [g.1]
        exact d
      clear ih hJ hjJ KX KG hDG KY hR hC g
      refine x_aload_n (i := 0) dX2_lookAt_83 rfl rfl ?_
      refine x_aload_n (i := 1) dX2_lookAt_84 rfl rfl ?_
      refine x_aload_n (i := 0) dX2_lookAt_85 rfl rfl ?_
      refine x_getR xf_RX2_18 dX2_lookAt_86 rfl rfl ?_
      refine x_iload_n (i := 3) dX2_lookAt_89 rfl rfl ?_
      refine x_iald dX2_lookAt_90 rfl (by decide) (by first | omega | decide) (by first | omega | decide) ?_
      skip
      refine x_iload_n (i := 2) dX2_lookAt_91 rfl rfl ?_
      refine x_cV0_RII lk_RX2_49 xm_X2_begin dX2_lookAt_92 ((by rw [hvi]; exact hbg)) (fun ν2 hq => ?_)
      refine x_aload_n (i := 0) dX2_lookAt_95 rfl rfl ?_
      refine x_iload_n (i := 2) dX2_lookAt_96 rfl rfl ?_
      refine x_putI xp_RX2_29 dX2_lookAt_97 rfl rfl ?_
      refine x_iinc_2 dX2_lookAt_100 (by decide) rfl ?_
      refine x_iinc_3 dX2_lookAt_103 (by decide) rfl ?_
      refine x_goto (tgt := 29) dX2_lookAt_106 (by decide) ?_
      exact KZ ν2 hq.2
    clear ih hJ hjJ KG hDG KY hR hm hh
    refine x_iload_n (i := 3) dX2_lookAt_29 rfl rfl ?_
    refine x_aload_n (i := 0) dX2_lookAt_30 rfl rfl ?_
    refine x_getI xf_RX2_22 dX2_lookAt_31 rfl rfl ?_
    refine x_icmp_ge (tgt := 109) dX2_lookAt_34 (by decide) (by first | (unfold x_in; omega) | (unfold x_in; decide)) (by first | (unfold x_in; omega) | (unfold x_in; decide)) (fun c1 => ?_) (fun c1 => ?_)
    · exact absurd c1 (by omega)
    · refine x_iload_n (i := 3) dX2_lookAt_37 rfl rfl ?_
      refine x_bipush dX2_lookAt_38 (by decide) ?_
      refine x_icmp_ge (tgt := 109) dX2_lookAt_40 (by decide) (by first | (unfold x_in; omega) | (unfold x_in; decide)) (by first | (unfold x_in; omega) | (unfold x_in; decide)) (fun c2 => ?_) (fun c2 => ?_)
      · exact absurd c2 (by omega)
      · refine x_aload_n (i := 0) dX2_lookAt_43 rfl rfl ?_
        refine x_getI xf_RX2_26 dX2_lookAt_44 rfl rfl ?_
        refine x_bipush dX2_lookAt_47 (by decide) ?_
        refine x_icmp_ne (tgt := 109) dX2_lookAt_49 (by decide) (by first | (unfold x_in; omega) | (unfold x_in; decide)) (by first | (unfold x_in; omega) | (unfold x_in; decide)) (fun c3 => ?_) (fun c3 => ?_)
        · exact absurd c3 (by omega)
        · refine x_iload_n (i := 2) dX2_lookAt_52 rfl rfl ?_
          refine x_aload_n (i := 0) dX2_lookAt_53 rfl rfl ?_
          refine x_aload_n (i := 1) dX2_lookAt_54 rfl rfl ?_
          refine x_aload_n (i := 0) dX2_lookAt_55 rfl rfl ?_
          refine x_getR xf_RX2_18 dX2_lookAt_56 rfl rfl ?_
          refine x_iload_n (i := 3) dX2_lookAt_59 rfl rfl ?_
          refine x_iald dX2_lookAt_60 rfl (by decide) (by first | omega | decide) (by first | omega | decide) ?_
          rw [hvi]
          refine x_cIp0_RI lk_RX2_39 xm_X2_canFrom dX2_lookAt_61 (hC) ?_
          refine x_mmax lk_RX2_43 dX2_lookAt_64 (by decide) (by exact Nat.le_of_ble_eq_true rfl) (by first | (unfold x_in; omega) | (unfold x_in; decide)) (by first | (unfold x_in; omega) | (unfold x_in; decide)) ?_
          refine x_istore_2 dX2_lookAt_67 (by decide) rfl ?_
          refine x_iload_n (i := 2) dX2_lookAt_68 rfl rfl ?_
          refine x_sipush dX2_lookAt_69 (by decide) ?_
          refine x_icmp_le (tgt := 83) dX2_lookAt_72 (by decide) (by first | (unfold x_in; omega) | (unfold x_in; decide)) (by first | (unfold x_in; omega) | (unfold x_in; decide)) (fun c4 => ?_) (fun c4 => ?_)
          · exact K83 (by omega)
          · refine x_aload_n (i := 0) dX2_lookAt_75 rfl rfl ?_
            refine x_iload_n (i := 3) dX2_lookAt_76 rfl rfl ?_
            refine x_putI xp_RX2_26 dX2_lookAt_77 rfl rfl ?_
            refine x_goto (tgt := 103) dX2_lookAt_80 (by decide) ?_
            refine x_iinc_3 dX2_lookAt_103 (by decide) rfl ?_
            refine x_goto (tgt := 29) dX2_lookAt_106 (by decide) ?_
            exact KX (by omega)
set_option maxRecDepth 100000 in
set_option maxHeartbeats 4000000 in
theorem s2_lookAt (μ : xM) (hI : MI (hOf μ 7)) (hn : 0 ≤ μ 0 0 ∧ μ 0 0 ≤ 16) (hr : ∀ k : Int, 0 ≤ k → k < 16 → 0 ≤ μ 1 k.toNat ∧ μ 1 k.toNat ≤ 9) : X E0 shRowH 4 yX2_lookAt cX2_lookAt 4 none 0 [some (.inr (.inl 0)), some (.inr (.inl 7)), none, none] [] μ (fun r μ' => r = none ∧ μ' 0 0 = 0 ∧ μ' 0 1 = (dJudge (hOf μ 7) (μ 1) (μ 0 0)).1 ∧ μ' 0 2 = (dJudge (hOf μ 7) (μ 1) (μ 0 0)).2 ∧ μ' 1 = μ 1 ∧ hOf μ' 7 = hOf μ 7) := by
  have eH : hOf (x_st (x_st (x_st μ 0 1 (-9)) 0 2 (-9)) 0 5 0) 7 = hOf μ 7 := rfl
  have hS := s4_start (x_ct [2, 3, 4, 5, 6, 7, 8, 9, 10, 11, 12, 13] (x_st (x_st (x_st μ 0 1 (-9)) 0 2 (-9)) 0 5 0)) hI
  have hL := ll_lookAt (μ 1) (hOf μ 7) (μ 0 0) hn hr (μ 0 0).toNat 0 (-9) 0 (stR (x_st (x_st (x_st μ 0 1 (-9)) 0 2 (-9)) 0 5 0)) (mOpens (canon (hOf μ 7))) (by decide) (by omega) rfl rfl rfl (by decide) rfl rfl (stR_hill (x_st (x_st (x_st μ 0 1 (-9)) 0 2 (-9)) 0 5 0)) (RR_start (μ := (x_st (x_st (x_st μ 0 1 (-9)) 0 2 (-9)) 0 5 0)) hI rfl)
  refine x_aload_n (i := 0) dX2_lookAt_0 rfl rfl ?_
  refine x_bipush dX2_lookAt_1 (by decide) ?_
  refine x_putI xp_RX2_26 dX2_lookAt_3 rfl rfl ?_
  refine x_aload_n (i := 0) dX2_lookAt_6 rfl rfl ?_
  refine x_bipush dX2_lookAt_7 (by decide) ?_
  refine x_putI xp_RX2_29 dX2_lookAt_9 rfl rfl ?_
  refine x_aload_n (i := 0) dX2_lookAt_12 rfl rfl ?_
  refine x_iconst dX2_lookAt_13 ?_
  refine x_putI xp_RX2_32 dX2_lookAt_14 rfl rfl ?_
  refine x_aload_n (i := 0) dX2_lookAt_17 rfl rfl ?_
  refine x_getR xf_RX2_12 dX2_lookAt_18 rfl rfl ?_
  refine x_aload_n (i := 1) dX2_lookAt_21 rfl rfl ?_
  refine x_cVf_R [2, 3, 4, 5, 6, 7, 8, 9, 10, 11, 12, 13] lk_RX2_35 xm_X4_start dX2_lookAt_22 (hS) ?_
  refine x_iconst dX2_lookAt_25 ?_
  refine x_istore_2 dX2_lookAt_26 (by decide) rfl ?_
  refine x_iconst dX2_lookAt_27 ?_
  refine x_istore_3 dX2_lookAt_28 (by decide) rfl ?_
  exact hL
set_option maxRecDepth 100000 in
set_option maxHeartbeats 4000000 in
theorem s2_add (w : Int) (μ : xM) (hn : 0 ≤ μ 0 0 ∧ μ 0 0 < 16) : X E0 shRow 0 yX2_add cX2_add 2 none 0 [some (.inr (.inl 0)), some (.inl w)] [] μ (x_Qn (x_st (x_st μ 1 (μ 0 0).toNat w) 0 0 (μ 0 0 + 1))) := by
  refine x_aload_n (i := 0) dX2_add_0 rfl rfl ?_
  refine x_getI xf_RX2_22 dX2_add_1 rfl rfl ?_
  refine x_bipush dX2_add_4 (by decide) ?_
  refine x_icmp_ge (tgt := 29) dX2_add_6 (by decide) (by first | (unfold x_in; omega) | (unfold x_in; decide)) (by first | (unfold x_in; omega) | (unfold x_in; decide)) (fun c1 => ?_) (fun c1 => ?_)
  · exact absurd c1 (by omega)
  · refine x_aload_n (i := 0) dX2_add_9 rfl rfl ?_
    refine x_getR xf_RX2_18 dX2_add_10 rfl rfl ?_
    refine x_aload_n (i := 0) dX2_add_13 rfl rfl ?_
    refine x_getI xf_RX2_22 dX2_add_14 rfl rfl ?_
    refine x_iload_n (i := 1) dX2_add_17 rfl rfl ?_
    refine x_iast dX2_add_18 rfl (by decide) (by first | omega | decide) (by first | omega | decide) ?_
    refine x_aload_n (i := 0) dX2_add_19 rfl rfl ?_
    first | refine x_dupR dX2_add_20 ?_ | refine x_dupI dX2_add_20 ?_
    refine x_getI xf_RX2_22 dX2_add_21 rfl rfl ?_
    try simp (decide := true) only [x_st_at, ↓reduceIte, if_true, if_false]
    refine x_iconst dX2_add_24 ?_
    refine x_iadd dX2_add_25 ?_
    refine x_putI xp_RX2_22 dX2_add_26 rfl rfl ?_
    exact x_vret dX2_add_29 rfl ⟨rfl, by rfl⟩
