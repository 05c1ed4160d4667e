set_option maxRecDepth 100000 in
set_option maxHeartbeats 4000000 in
theorem l3_bring (tp : Nat → Int) (n : Int) (hn : n ≤ 48) (hn0 : 0 ≤ n) (ht : TB tp) (hF0 : 0 ≤ PF2 tp n) : ∀ (k q : Nat) (a c i : Int) (h : Nat → Int) (ν : xM) (z4 : Option xA), 0 ≤ a ∧ a ≤ n → 0 ≤ i → i ≤ a → 0 ≤ c → PT ν tp n a 0 → hOf ν 2 = h → MI h → PF2 tp n = (if a < n then pFm tp n q a c else c) → n - a < q → n - a < k → X E0 shTapeH 3 yX3_bring cX3_bring 5 (some .int) 9 [some (.inr (.inl 0)), some (.inr (.inl 2)), some (.inl c), some (.inl i), z4] [] ν (fun r μ' => r = some (.inl (if (pBr tp n k a h).1 < 0 then (pBr tp n k a h).1 else PF2 tp n)) ∧ (0 ≤ (pBr tp n k a h).1 → hOf μ' 2 = (pBr tp n k a h).2) ∧ μ' 1 = tp ∧ μ' 0 0 = n) := by
  intro k
  induction k with
  | zero => intro q a c i h ν z4 ha hi hia hc hP hH hI hF hq hk; omega
  | succ k ih =>
    intro q a c i h ν z4 ha hi hia hc hP hH hI hF hq hk
    have e0 := hP.2.1
    have e1 := hP.1
    have e2 := hP.2.2.1
    by_cases hlt : a < n
    · cases q with
      | zero => omega
      | succ q =>
      rw [if_pos hlt, pFm] at hF
      have hok : (pSt tp n a).1 = true := by
        by_cases hok : (pSt tp n a).1 = true
        · exact hok
        · rw [if_neg hok] at hF
          have := pSt_at ht hn ha.1 ha.2
          omega
      rw [if_pos hok] at hF
      have hs := pSt_ok ht hn ha.1 ha.2 hok
      have KC : ∀ μ2, PT μ2 tp n (pSt tp n a).2.1 (if (pSt tp n a).1 = true then 0 else 1) → μ2 0 4 = pSg tp n a → ((pSt tp n a).1 = true → μ2 0 5 = (pSt tp n a).2.2.1 ∧ (pSg tp n a = 112 → (if μ2 0 6 = 100 then (1 : Int) else 0) = (pSt tp n a).2.2.2 ∧ x_in (μ2 0 6)) ∧ (pSg tp n a = 116 → μ2 0 6 = (pSt tp n a).2.2.2)) → X E0 shTapeH 1 yX3_bringStatement cX3_bringStatement 2 (some .boolean) 0 [some (.inr (.inl 0)), some (.inr (.inl 2))] [] (x_mrg [0, 1] ν μ2) (fun r μ' => r = some (.inl (bI (pCm h (pSg tp n a) (pSt tp n a).2.2.1 (pSt tp n a).2.2.2).1)) ∧ ((pCm h (pSg tp n a) (pSt tp n a).2.2.1 (pSt tp n a).2.2.2).1 = true → hOf μ' 2 = (pCm h (pSg tp n a) (pSt tp n a).2.2.1 (pSt tp n a).2.2.2).2) ∧ PT μ' tp n (pSt tp n a).2.1 0) := by
        intro μ2 p2 w4 wv
        obtain ⟨v5, v6, v7⟩ := wv hok
        rw [if_pos hok] at p2
        have hH2 : hOf (x_mrg [0, 1] ν μ2) 2 = h := hH
        have := s3_bringStatement (pSg tp n a) (pSt tp n a).2.2.1 (pSt tp n a).2.2.2 hs.2.2.1 hs.2.2.2.1 hs.2.2.2.2 (x_mrg [0, 1] ν μ2) (by rw [hH2]; exact hI) w4 v5 (fun g => (v6 g).1) v7 (fun g => (v6 g).2)
        rw [hH2] at this
        exact this.mono (fun r m z => ⟨z.1, z.2.1, by unfold PT; rw [z.2.2.1, z.2.2.2]; exact p2⟩)
      have KT : (pCm h (pSg tp n a) (pSt tp n a).2.2.1 (pSt tp n a).2.2.2).1 = true → ∀ μ5 c' i' z, c' = c + 1 → i' = i + 1 → hOf μ5 2 = (pCm h (pSg tp n a) (pSt tp n a).2.2.1 (pSt tp n a).2.2.2).2 → PT μ5 tp n (pSt tp n a).2.1 0 → X E0 shTapeH 3 yX3_bring cX3_bring 5 (some .int) 9 [some (.inr (.inl 0)), some (.inr (.inl 2)), some (.inl c'), some (.inl i'), z] [] μ5 (fun r μ' => r = some (.inl (if (pBr tp n (k + 1) a h).1 < 0 then (pBr tp n (k + 1) a h).1 else PF2 tp n)) ∧ (0 ≤ (pBr tp n (k + 1) a h).1 → hOf μ' 2 = (pBr tp n (k + 1) a h).2) ∧ μ' 1 = tp ∧ μ' 0 0 = n) := by
        intro hcm μ5 c' i' z hc' hi' h5 p5
        rw [pBr, if_pos hlt, if_pos hcm]
        exact ih q _ c' i' _ μ5 z (by omega) (by omega) (by omega) (by omega) p5 h5 (MI_pCm hI hs.2.2.1 hs.2.2.2.1 hs.2.2.2.2 hcm) (by rw [hc']; exact hF) (by omega) (by omega)
      have KF : (pCm h (pSg tp n a) (pSt tp n a).2.2.1 (pSt tp n a).2.2.2).1 = false → ∀ μ5 : xM, PT μ5 tp n (pSt tp n a).2.1 0 → ((some (.inl (-2000 - a)) : Option xA) = some (.inl (if (pBr tp n (k + 1) a h).1 < 0 then (pBr tp n (k + 1) a h).1 else PF2 tp n)) ∧ (0 ≤ (pBr tp n (k + 1) a h).1 → hOf μ5 2 = (pBr tp n (k + 1) a h).2) ∧ μ5 1 = tp ∧ μ5 0 0 = n) := by
        intro hcm μ5 p5
        have hp : pBr tp n (k + 1) a h = (-2000 - a, h) := by
          rw [pBr, if_pos hlt]
          exact if_neg (by rw [hcm]; exact Bool.false_ne_true)
        rw [hp, if_pos (by show -2000 - a < 0; omega)]
        exact ⟨rfl, fun q => absurd q (by show ¬ 0 ≤ -2000 - a; omega), p5.1, p5.2.1⟩
      refine x_iload_n (i := 3) dX3_bring_9 rfl rfl ?_
      refine x_bipush dX3_bring_10 (by decide) ?_
      refine x_icmp_ge (tgt := 60) dX3_bring_12 (by decide) (by first | exact bIx _ | (unfold x_in; omega) | (unfold x_in; decide)) (by first | exact bIx _ | (unfold x_in; omega) | (unfold x_in; decide)) (fun c1 => ?_) (fun c1 => ?_)
      · exact absurd c1 (by omega)
      · refine x_aload_n (i := 0) dX3_bring_15 rfl rfl ?_
        refine x_getI xf_RX3_27 dX3_bring_16 rfl rfl ?_
        refine x_aload_n (i := 0) dX3_bring_19 rfl rfl ?_
        refine x_getI xf_RX3_15 dX3_bring_20 rfl rfl ?_
        rw [e0, e2]
        refine x_icmp_ge (tgt := 60) dX3_bring_23 (by decide) (by first | exact bIx _ | (unfold x_in; omega) | (unfold x_in; decide)) (by first | exact bIx _ | (unfold x_in; omega) | (unfold x_in; decide)) (fun c2 => ?_) (fun c2 => ?_)
        · exact absurd c2 (by omega)
        · refine x_aload_n (i := 0) dX3_bring_26 rfl rfl ?_
          refine x_getI xf_RX3_27 dX3_bring_27 rfl rfl ?_
          rw [e2]
          refine x_istore_4 dX3_bring_30 (by decide) rfl ?_
          refine x_aload_n (i := 0) dX3_bring_32 rfl rfl ?_
          refine x_cV_0 [0, 1] lk_RX3_34 xm_X3_readStatement dX3_bring_33 (s3_readStatement tp n a hn hn0 ha.1 ht _ hP (by omega)) (fun μ2 hq => ?_)
          obtain ⟨-, w1, w4, -, w5⟩ := hq
          refine x_aload_n (i := 0) dX3_bring_36 rfl rfl ?_
          refine x_aload_n (i := 1) dX3_bring_37 rfl rfl ?_
          refine x_cI0_R lk_RX3_37 xm_X3_bringStatement dX3_bring_38 (KC μ2 w1 w4 w5) (fun a5 μ5 hq5 => ?_)
          obtain ⟨g1, g2, g3⟩ := hq5
          cases g1
          refine x_if_ne (tgt := 51) dX3_bring_41 (by decide) (by first | exact bIx _ | (unfold x_in; omega) | (unfold x_in; decide)) (fun c3 => ?_) (fun c3 => ?_)
          · refine x_iinc_2 dX3_bring_51 (by decide) rfl ?_
            refine x_iinc_3 dX3_bring_54 (by decide) rfl ?_
            refine x_goto (tgt := 9) dX3_bring_57 (by decide) ?_
            exact KT (bI_t c3) μ5 _ _ _ rfl rfl (g2 (bI_t c3)) g3
          · refine x_sipush dX3_bring_44 (by decide) ?_
            refine x_iload dX3_bring_47 rfl ?_
            refine x_isub dX3_bring_49 ?_
            refine x_iret dX3_bring_50 rfl rfl ?_
            exact KF (bI_f c3) μ5 g3
    · rw [if_neg hlt] at hF
      have hp : pBr tp n (k + 1) a h = (0, h) := by
        rw [pBr, if_neg hlt]
      rw [hp, if_neg (by show ¬ (0 : Int) < 0; decide)]
      refine x_iload_n (i := 3) dX3_bring_9 rfl rfl ?_
      refine x_bipush dX3_bring_10 (by decide) ?_
      refine x_icmp_ge (tgt := 60) dX3_bring_12 (by decide) (by first | (unfold x_in; omega) | (unfold x_in; decide)) (by first | (unfold x_in; omega) | (unfold x_in; decide)) (fun c1 => ?_) (fun c1 => ?_)
      · refine x_iload_n (i := 2) dX3_bring_60 rfl rfl ?_
        refine x_iret dX3_bring_61 rfl rfl ?_
        exact ⟨by rw [hF], fun _ => hH, e1, e0⟩
      · refine x_aload_n (i := 0) dX3_bring_15 rfl rfl ?_
        refine x_getI xf_RX3_27 dX3_bring_16 rfl rfl ?_
        refine x_aload_n (i := 0) dX3_bring_19 rfl rfl ?_
        refine x_getI xf_RX3_15 dX3_bring_20 rfl rfl ?_
        rw [e0, e2]
        refine x_icmp_ge (tgt := 60) dX3_bring_23 (by decide) (by first | (unfold x_in; omega) | (unfold x_in; decide)) (by first | (unfold x_in; omega) | (unfold x_in; decide)) (fun c2 => ?_) (fun c2 => ?_)
        · refine x_iload_n (i := 2) dX3_bring_60 rfl rfl ?_
          refine x_iret dX3_bring_61 rfl rfl ?_
          exact ⟨by rw [hF], fun _ => hH, e1, e0⟩
        · exact absurd c2 (by omega)
set_option maxRecDepth 100000 in
set_option maxHeartbeats 4000000 in
theorem s3_bring (tp : Nat → Int) (n : Int) (hn : n ≤ 48) (hn0 : 0 ≤ n) (ht : TB tp) (hF0 : 0 ≤ PF2 tp n) (h : Nat → Int) (hI : MI h) (μ : xM) (a0 : Int) (hP : PT μ tp n a0 0) (hH : hOf μ 2 = h) : X E0 shTapeH 3 yX3_bring cX3_bring 5 (some .int) 0 [some (.inr (.inl 0)), some (.inr (.inl 2)), none, none, none] [] μ (fun r μ' => r = some (.inl (if (pBr tp n 50 0 h).1 < 0 then (pBr tp n 50 0 h).1 else PF2 tp n)) ∧ (0 ≤ (pBr tp n 50 0 h).1 → hOf μ' 2 = (pBr tp n 50 0 h).2) ∧ μ' 1 = tp ∧ μ' 0 0 = n) := by
  have hF1 : PF2 tp n = (if 0 < n then pFm tp n 50 0 0 else 0) := by
    by_cases h0 : 0 < n
    · rw [if_pos h0]; rfl
    · exfalso
      have h00 : n = 0 := by omega
      subst h00
      have hx : (pSt tp 0 0) = (false, 0, 0, 0) := by
        have hg : pSg tp 0 0 = -1 := if_pos (by omega)
        unfold pSt
        rw [hg]
        rfl
      have : PF2 tp 0 = -1000 - 0 := by
        unfold PF2
        rw [pFm, hx]
        rfl
      omega
  refine x_aload_n (i := 0) dX3_bring_0 rfl rfl ?_
  refine x_iconst dX3_bring_1 ?_
  refine x_putI xp_RX3_27 dX3_bring_2 rfl rfl ?_
  refine x_iconst dX3_bring_5 ?_
  refine x_istore_2 dX3_bring_6 (by decide) rfl ?_
  refine x_iconst dX3_bring_7 ?_
  refine x_istore_3 dX3_bring_8 (by decide) rfl ?_
  exact l3_bring tp n hn hn0 ht hF0 50 50 0 0 0 h _ none (by omega) (by omega) (by omega) (by omega) (hP.st2 0) hH hI hF1 (by omega) (by omega)
set_option maxRecDepth 100000 in
set_option maxHeartbeats 4000000 in
theorem s3_readInto (tp : Nat → Int) (n : Int) (hn : n ≤ 48) (hn0 : 0 ≤ n) (ht : TB tp) (μ : xM) (hI : MI (hOf μ 2)) (h1 : μ 1 = tp) (h0 : μ 0 0 = n) : X E0 shTapeH 4 yX3_readInto cX3_readInto 3 (some .int) 0 [some (.inr (.inl 0)), some (.inr (.inl 2)), none] [] μ (fun r μ' => r = some (.inl (dLine tp n (hOf μ 2)).1) ∧ (0 ≤ (dLine tp n (hOf μ 2)).1 → hOf μ' 2 = (dLine tp n (hOf μ 2)).2) ∧ μ' 1 = tp ∧ μ' 0 0 = 0) := by
  have hd : dLine tp n (hOf μ 2) = if PF2 tp n < 0 then (PF2 tp n, hOf μ 2) else if (pBr tp n 50 0 (hOf μ 2)).1 < 0 then ((pBr tp n 50 0 (hOf μ 2)).1, hOf μ 2) else (PF2 tp n, (pBr tp n 50 0 (hOf μ 2)).2) := rfl
  have hF : -2000 ≤ PF2 tp n ∧ PF2 tp n ≤ 100 := by
    have K : ∀ (k : Nat) (a c : Int), 0 ≤ a ∧ a ≤ n → 0 ≤ c → c + k ≤ 100 → -2000 ≤ pFm tp n k a c ∧ pFm tp n k a c ≤ 100 := by
      intro k
      induction k with
      | zero => intro a c ha hc hk; rw [pFm]; omega
      | succ k ih =>
        intro a c ha hc hk
        have hat := pSt_at ht hn ha.1 ha.2
        rw [pFm]
        by_cases hok : (pSt tp n a).1 = true
        · rw [if_pos hok]
          have hs := pSt_ok ht hn ha.1 ha.2 hok
          split
          · exact ih _ _ (by omega) (by omega) (by omega)
          · omega
        · rw [if_neg hok]
          omega
    exact K 50 0 0 (by omega) (by omega) (by omega)
  by_cases hF0 : PF2 tp n < 0
  · rw [if_pos hF0] at hd
    rw [hd]
    refine x_aload_n (i := 0) dX3_readInto_0 rfl rfl ?_
    refine x_cI_0 [0, 1] lk_RX3_19 xm_X3_formFault dX3_readInto_1 (s3_formFault tp n hn hn0 ht (x_ct [0, 1] μ) h1 h0) (fun a μ2 hq => ?_)
    obtain ⟨g1, g2, g3⟩ := hq
    cases g1
    rw [if_pos hF0]
    refine x_istore_2 dX3_readInto_4 (by decide) rfl ?_
    refine x_iload_n (i := 2) dX3_readInto_5 rfl rfl ?_
    refine x_if_lt (tgt := 15) dX3_readInto_6 (by decide) (by first | (unfold x_in; omega) | (unfold x_in; decide)) (fun c1 => ?_) (fun c1 => ?_)
    · refine x_aload_n (i := 0) dX3_readInto_15 rfl rfl ?_
      refine x_iconst dX3_readInto_16 ?_
      refine x_putI xp_RX3_15 dX3_readInto_17 rfl rfl ?_
      refine x_iload_n (i := 2) dX3_readInto_20 rfl rfl ?_
      refine x_iret dX3_readInto_21 rfl rfl ?_
      obtain ⟨a2, p2⟩ := g2
      exact ⟨rfl, fun q => absurd q (by show ¬ 0 ≤ PF2 tp n; omega), p2.1, rfl⟩
    · exact absurd c1 (by omega)
  · rw [if_neg hF0] at hd
    rw [hd]
    have hb := s3_bring tp n hn hn0 ht (by omega) (hOf μ 2) hI
    skip
    refine x_aload_n (i := 0) dX3_readInto_0 rfl rfl ?_
    refine x_cI_0 [0, 1] lk_RX3_19 xm_X3_formFault dX3_readInto_1 (s3_formFault tp n hn hn0 ht (x_ct [0, 1] μ) h1 h0) (fun a μ2 hq => ?_)
    obtain ⟨g1, g2, g3⟩ := hq
    cases g1
    rw [if_neg hF0]
    rw [if_neg hF0] at g2
    obtain ⟨a2, p2⟩ := g2
    refine x_istore_2 dX3_readInto_4 (by decide) rfl ?_
    refine x_iload_n (i := 2) dX3_readInto_5 rfl rfl ?_
    refine x_if_lt (tgt := 15) dX3_readInto_6 (by decide) (by first | (unfold x_in; omega) | (unfold x_in; decide)) (fun c1 => ?_) (fun c1 => ?_)
    · exact absurd c1 (by omega)
    · refine x_aload_n (i := 0) dX3_readInto_9 rfl rfl ?_
      refine x_aload_n (i := 1) dX3_readInto_10 rfl rfl ?_
      refine x_cI0_R lk_RX3_23 xm_X3_bring dX3_readInto_11 (hb (x_mrg [0, 1] μ μ2) a2 p2 rfl) (fun a3 μ3 hq3 => ?_)
      obtain ⟨k1, k2, k3, k4⟩ := hq3
      cases k1
      refine x_istore_2 dX3_readInto_14 (by decide) rfl ?_
      refine x_aload_n (i := 0) dX3_readInto_15 rfl rfl ?_
      refine x_iconst dX3_readInto_16 ?_
      refine x_putI xp_RX3_15 dX3_readInto_17 rfl rfl ?_
      refine x_iload_n (i := 2) dX3_readInto_20 rfl rfl ?_
      refine x_iret dX3_readInto_21 rfl rfl ?_
      by_cases hb0 : (pBr tp n 50 0 (hOf μ 2)).1 < 0
      · rw [if_pos hb0, if_pos hb0]
        exact ⟨rfl, fun q => absurd q (by show ¬ 0 ≤ (pBr tp n 50 0 (hOf μ 2)).1; omega), k3, rfl⟩
      · rw [if_neg hb0, if_neg hb0]
        exact ⟨rfl, fun _ => k2 (by omega), k3, rfl⟩
