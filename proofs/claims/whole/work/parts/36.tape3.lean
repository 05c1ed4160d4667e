/-! THE CLASS, Tape: the line -/
def PF2 (tp : Nat → Int) (n : Int) : Int := pFm tp n 50 0 0
theorem pBr_neg {tp : Nat → Int} {n : Int} : ∀ (k : Nat) (a : Int) (h : Nat → Int), 0 ≤ a → (∀ b, 0 ≤ b → 0 ≤ (pSt tp n b).2.1) → (pBr tp n k a h).1 ≤ 0
  | 0, _, _, _, _ => Int.le_refl _
  | k + 1, a, h, ha, hb => by
    rw [pBr]
    split
    · split
      · exact pBr_neg k _ _ (hb _ ha) hb
      · show -2000 - a ≤ 0
        omega
    · exact Int.le_refl _
set_option maxRecDepth 100000 in
set_option maxHeartbeats 4000000 in
theorem b3_formFault (tp : Nat → Int) (n : Int) (hn : n ≤ 48) (hn0 : 0 ≤ n) (ht : TB tp) (μ ν : xM) (hf : ∀ k, k ≠ 0 → ν k = μ k) (a i : Int) (ha : 0 ≤ a ∧ a ≤ 49) (hP : PT ν tp n a 1) (hF : PF2 tp n = -1000 - a) (hi : 0 ≤ i ∧ i ≤ 48) : X E0 shTape 3 yX3_formFault cX3_formFault 2 (some .int) 16 [some (.inr (.inl 0)), some (.inl i)] [] ν (fun r μ' => r = some (.inl (if PF2 tp n < 0 then PF2 tp n else 0)) ∧ (∃ a, PT μ' tp n a (if PF2 tp n < 0 then 1 else 0)) ∧ ∀ k, k ≠ 0 → μ' k = μ k) := by
  have e2 := hP.2.2.1
  have e3 := hP.2.2.2
  refine x_iload_n (i := 1) dX3_formFault_16 rfl rfl ?_
  refine x_bipush dX3_formFault_17 (by decide) ?_
  refine x_icmp_ge (tgt := 50) dX3_formFault_19 (by decide) (by first | (unfold x_in; omega) | (unfold x_in; decide)) (by first | (unfold x_in; omega) | (unfold x_in; decide)) (fun c1 => ?_) (fun c1 => ?_)
  · refine x_aload_n (i := 0) dX3_formFault_50 rfl rfl ?_
    refine x_getI xf_RX3_30 dX3_formFault_51 rfl rfl ?_
    refine x_if_eq (tgt := 68) dX3_formFault_54 (by decide) (by first | (unfold x_in; omega) | (unfold x_in; decide)) (fun c2 => ?_) (fun c2 => ?_)
    · exact absurd c2 (by omega)
    · refine x_sipush dX3_formFault_57 (by decide) ?_
      refine x_aload_n (i := 0) dX3_formFault_60 rfl rfl ?_
      refine x_getI xf_RX3_27 dX3_formFault_61 rfl rfl ?_
      refine x_isub dX3_formFault_64 ?_
      refine x_goto (tgt := 69) dX3_formFault_65 (by decide) ?_
      refine x_iret dX3_formFault_69 rfl rfl ?_
      rw [if_pos (by omega), if_pos (by omega)]
      exact ⟨by rw [e2, hF], ⟨a, hP⟩, hf⟩
  · refine x_aload_n (i := 0) dX3_formFault_22 rfl rfl ?_
    refine x_getI xf_RX3_30 dX3_formFault_23 rfl rfl ?_
    refine x_if_ne (tgt := 50) dX3_formFault_26 (by decide) (by first | (unfold x_in; omega) | (unfold x_in; decide)) (fun c2 => ?_) (fun c2 => ?_)
    · refine x_aload_n (i := 0) dX3_formFault_50 rfl rfl ?_
      refine x_getI xf_RX3_30 dX3_formFault_51 rfl rfl ?_
      refine x_if_eq (tgt := 68) dX3_formFault_54 (by decide) (by first | (unfold x_in; omega) | (unfold x_in; decide)) (fun c3 => ?_) (fun c3 => ?_)
      · exact absurd c3 (by omega)
      · refine x_sipush dX3_formFault_57 (by decide) ?_
        refine x_aload_n (i := 0) dX3_formFault_60 rfl rfl ?_
        refine x_getI xf_RX3_27 dX3_formFault_61 rfl rfl ?_
        refine x_isub dX3_formFault_64 ?_
        refine x_goto (tgt := 69) dX3_formFault_65 (by decide) ?_
        refine x_iret dX3_formFault_69 rfl rfl ?_
        rw [if_pos (by omega), if_pos (by omega)]
        exact ⟨by rw [e2, hF], ⟨a, hP⟩, hf⟩
    · exact absurd c2 (by omega)
set_option maxRecDepth 100000 in
set_option maxHeartbeats 4000000 in
theorem l3_formFault (tp : Nat → Int) (n : Int) (hn : n ≤ 48) (hn0 : 0 ≤ n) (ht : TB tp) (μ : xM) : ∀ (q : Nat) (a c i : Int) (ν : xM), (∀ k, k ≠ 0 → ν k = μ k) → 0 ≤ a ∧ a ≤ n → 1 ≤ i → i ≤ a → 0 ≤ c → PT ν tp n a 0 → PF2 tp n = (if a < n then pFm tp n q a c else c) → n - a < q → X E0 shTape 3 yX3_formFault cX3_formFault 2 (some .int) 16 [some (.inr (.inl 0)), some (.inl i)] [] ν (fun r μ' => r = some (.inl (if PF2 tp n < 0 then PF2 tp n else 0)) ∧ (∃ a, PT μ' tp n a (if PF2 tp n < 0 then 1 else 0)) ∧ ∀ k, k ≠ 0 → μ' k = μ k) := by
  intro q
  induction q with
  | zero => intro a c i ν hf ha hi hia hc hP hF hq; omega
  | succ q ih =>
    intro a c i ν hf ha hi hia hc hP hF hq
    have e0 := hP.2.1
    have e2 := hP.2.2.1
    have e3 := hP.2.2.2
    have hat := pSt_at ht hn ha.1 ha.2
    have K0 : ¬ a < n → ((some (.inl 0) : Option xA) = some (.inl (if PF2 tp n < 0 then PF2 tp n else 0)) ∧ (∃ a, PT ν tp n a (if PF2 tp n < 0 then 1 else 0)) ∧ ∀ k, k ≠ 0 → ν k = μ k) := by
      intro hl
      rw [if_neg hl] at hF
      rw [if_neg (by omega), if_neg (by omega)]
      exact ⟨rfl, ⟨a, hP⟩, hf⟩
    have K1 : a < n → ∀ μ2 j, j = i + 1 → PT μ2 tp n (pSt tp n a).2.1 (if (pSt tp n a).1 = true then 0 else 1) → (∀ k, k ≠ 0 → μ2 k = ν k) → X E0 shTape 3 yX3_formFault cX3_formFault 2 (some .int) 16 [some (.inr (.inl 0)), some (.inl j)] [] μ2 (fun r μ' => r = some (.inl (if PF2 tp n < 0 then PF2 tp n else 0)) ∧ (∃ a, PT μ' tp n a (if PF2 tp n < 0 then 1 else 0)) ∧ ∀ k, k ≠ 0 → μ' k = μ k) := by
      intro hl μ2 j hj p2 f2
      have f3 : ∀ k, k ≠ 0 → μ2 k = μ k := fun k hk => (f2 k hk).trans (hf k hk)
      rw [if_pos hl, pFm] at hF
      by_cases hok : (pSt tp n a).1 = true
      · rw [if_pos hok] at hF p2
        have hs := pSt_ok ht hn ha.1 ha.2 hok
        exact ih _ (c + 1) j μ2 f3 (by omega) (by omega) (by omega) (by omega) p2 hF (by omega)
      · rw [if_neg hok] at hF p2
        exact b3_formFault tp n hn hn0 ht μ μ2 f3 _ j hat p2 hF (by omega)
    refine x_iload_n (i := 1) dX3_formFault_16 rfl rfl ?_
    refine x_bipush dX3_formFault_17 (by decide) ?_
    refine x_icmp_ge (tgt := 50) dX3_formFault_19 (by decide) (by first | (unfold x_in; omega) | (unfold x_in; decide)) (by first | (unfold x_in; omega) | (unfold x_in; decide)) (fun c1 => ?_) (fun c1 => ?_)
    · refine x_aload_n (i := 0) dX3_formFault_50 rfl rfl ?_
      refine x_getI xf_RX3_30 dX3_formFault_51 rfl rfl ?_
      refine x_if_eq (tgt := 68) dX3_formFault_54 (by decide) (by first | (unfold x_in; omega) | (unfold x_in; decide)) (fun c2 => ?_) (fun c2 => ?_)
      · refine x_iconst dX3_formFault_68 ?_
        refine x_iret dX3_formFault_69 rfl rfl ?_
        exact K0 (by omega)
      · exact absurd c2 (by omega)
    · refine x_aload_n (i := 0) dX3_formFault_22 rfl rfl ?_
      refine x_getI xf_RX3_30 dX3_formFault_23 rfl rfl ?_
      refine x_if_ne (tgt := 50) dX3_formFault_26 (by decide) (by first | (unfold x_in; omega) | (unfold x_in; decide)) (fun c2 => ?_) (fun c2 => ?_)
      · exact absurd c2 (by omega)
      · refine x_aload_n (i := 0) dX3_formFault_29 rfl rfl ?_
        refine x_getI xf_RX3_27 dX3_formFault_30 rfl rfl ?_
        refine x_aload_n (i := 0) dX3_formFault_33 rfl rfl ?_
        refine x_getI xf_RX3_15 dX3_formFault_34 rfl rfl ?_
        rw [e0, e2]
        refine x_icmp_ge (tgt := 50) dX3_formFault_37 (by decide) (by first | (unfold x_in; omega) | (unfold x_in; decide)) (by first | (unfold x_in; omega) | (unfold x_in; decide)) (fun c3 => ?_) (fun c3 => ?_)
        · refine x_aload_n (i := 0) dX3_formFault_50 rfl rfl ?_
          refine x_getI xf_RX3_30 dX3_formFault_51 rfl rfl ?_
          refine x_if_eq (tgt := 68) dX3_formFault_54 (by decide) (by first | (unfold x_in; omega) | (unfold x_in; decide)) (fun c4 => ?_) (fun c4 => ?_)
          · refine x_iconst dX3_formFault_68 ?_
            refine x_iret dX3_formFault_69 rfl rfl ?_
            exact K0 (by omega)
          · exact absurd c4 (by omega)
        · refine x_aload_n (i := 0) dX3_formFault_40 rfl rfl ?_
          refine x_cV0_0 lk_RX3_34 xm_X3_readStatement dX3_formFault_41 (s3_readStatement tp n a hn hn0 ha.1 ht _ hP (by omega)) (fun μ2 hq => ?_)
          obtain ⟨-, w1, -, w2, -⟩ := hq
          refine x_iinc_1 dX3_formFault_44 (by decide) rfl ?_
          refine x_goto (tgt := 16) dX3_formFault_47 (by decide) ?_
          exact K1 (by omega) μ2 _ rfl w1 w2
set_option maxRecDepth 100000 in
set_option maxHeartbeats 4000000 in
theorem s3_formFault (tp : Nat → Int) (n : Int) (hn : n ≤ 48) (hn0 : 0 ≤ n) (ht : TB tp) (μ : xM) (h1 : μ 1 = tp) (h0 : μ 0 0 = n) : X E0 shTape 3 yX3_formFault cX3_formFault 2 (some .int) 0 [some (.inr (.inl 0)), none] [] μ (fun r μ' => r = some (.inl (if PF2 tp n < 0 then PF2 tp n else 0)) ∧ (∃ a, PT μ' tp n a (if PF2 tp n < 0 then 1 else 0)) ∧ ∀ k, k ≠ 0 → μ' k = μ k) := by
  have hP : PT (x_st (x_st μ 0 2 0) 0 3 0) tp n 0 0 := ⟨h1, h0, rfl, rfl⟩
  have hat := pSt_at ht hn (show (0 : Int) ≤ 0 by omega) hn0
  have K1 : ∀ μ2, PT μ2 tp n (pSt tp n 0).2.1 (if (pSt tp n 0).1 = true then 0 else 1) → (∀ k, k ≠ 0 → μ2 k = (x_st (x_st μ 0 2 0) 0 3 0) k) → X E0 shTape 3 yX3_formFault cX3_formFault 2 (some .int) 16 [some (.inr (.inl 0)), some (.inl 1)] [] μ2 (fun r μ' => r = some (.inl (if PF2 tp n < 0 then PF2 tp n else 0)) ∧ (∃ a, PT μ' tp n a (if PF2 tp n < 0 then 1 else 0)) ∧ ∀ k, k ≠ 0 → μ' k = μ k) := by
    intro μ2 p2 f2
    have f3 : ∀ k, k ≠ 0 → μ2 k = μ k := fun k hk => (f2 k hk).trans (funext fun x => (x_st_ne (Or.inl hk)).trans (x_st_ne (Or.inl hk)))
    have hF : PF2 tp n = (if (pSt tp n 0).1 = true then (if (pSt tp n 0).2.1 < n then pFm tp n 49 (pSt tp n 0).2.1 (0 + 1) else 0 + 1) else -1000 - (pSt tp n 0).2.1) := rfl
    by_cases hok : (pSt tp n 0).1 = true
    · rw [if_pos hok] at hF p2
      have hs := pSt_ok ht hn (Int.le_refl 0) hn0 hok
      exact l3_formFault tp n hn hn0 ht μ 49 _ (0 + 1) 1 μ2 f3 (by omega) (by omega) (by omega) (by omega) p2 hF (by omega)
    · rw [if_neg hok] at hF p2
      exact b3_formFault tp n hn hn0 ht μ μ2 f3 _ 1 hat p2 hF (by omega)
  refine x_aload_n (i := 0) dX3_formFault_0 rfl rfl ?_
  refine x_iconst dX3_formFault_1 ?_
  refine x_putI xp_RX3_27 dX3_formFault_2 rfl rfl ?_
  refine x_aload_n (i := 0) dX3_formFault_5 rfl rfl ?_
  refine x_iconst dX3_formFault_6 ?_
  refine x_putZ xp_RX3_30 dX3_formFault_7 rfl rfl (by first | exact Or.inl rfl | exact Or.inr rfl | omega) ?_
  refine x_aload_n (i := 0) dX3_formFault_10 rfl rfl ?_
  refine x_cV0_0 lk_RX3_34 xm_X3_readStatement dX3_formFault_11 (s3_readStatement tp n 0 hn hn0 (by omega) ht _ hP (by omega)) (fun μ2 hq => ?_)
  obtain ⟨-, w1, -, w2, -⟩ := hq
  refine x_iconst dX3_formFault_14 ?_
  refine x_istore_1 dX3_formFault_15 (by decide) rfl ?_
  exact K1 μ2 w1 w2
set_option maxRecDepth 100000 in
set_option maxHeartbeats 4000000 in
theorem s3_bringStatement (c v0 v1 : Int) (h0 : 0 ≤ v0 ∧ v0 ≤ 999) (h1 : 0 ≤ v1 ∧ v1 ≤ 999) (hc : c = 112 ∧ v0 ≤ 9 ∧ v1 ≤ 1 ∨ c = 101 ∧ v0 ≤ 9 ∨ c = 116) (μ : xM) (hI : MI (hOf μ 2)) (e4 : μ 0 4 = c) (e5 : μ 0 5 = v0) (e6 : c = 112 → (if μ 0 6 = 100 then (1 : Int) else 0) = v1) (e7 : c = 116 → μ 0 6 = v1) (hb6 : c = 112 → x_in (μ 0 6)) : X E0 shTapeH 1 yX3_bringStatement cX3_bringStatement 2 (some .boolean) 0 [some (.inr (.inl 0)), some (.inr (.inl 2))] [] μ (fun r μ' => r = some (.inl (bI (pCm (hOf μ 2) c v0 v1).1)) ∧ ((pCm (hOf μ 2) c v0 v1).1 = true → hOf μ' 2 = (pCm (hOf μ 2) c v0 v1).2) ∧ μ' 0 = μ 0 ∧ μ' 1 = μ 1) := by
  have KP : ∀ d : Int, c = 112 → d = v1 → ∀ a μ', (a = bI (pCm (hOf μ 2) 112 (μ 0 5) d).1 ∧ hOf μ' 0 = (pCm (hOf μ 2) 112 (μ 0 5) d).2) → ((some (.inl a) : Option xA) = some (.inl (bI (pCm (hOf μ 2) c v0 v1).1)) ∧ ((pCm (hOf μ 2) c v0 v1).1 = true → hOf μ' 0 = (pCm (hOf μ 2) c v0 v1).2)) := by
    intro d h1 h2 a μ' h
    rw [h2, e5] at h
    rw [h1]
    exact ⟨by rw [h.1], fun _ => h.2⟩
  refine x_aload_n (i := 0) dX3_bringStatement_0 rfl rfl ?_
  refine x_getI xf_RX3_41 dX3_bringStatement_1 rfl rfl ?_
  refine x_lk2 (td := 68) (t0 := 32) (t1 := 55) dX3_bringStatement_4 (by decide) (by first | exact hb6 (by omega) | (unfold x_in; omega) | (unfold x_in; decide)) (by decide) (by decide) (by decide) (fun c1 => ?_) (fun c1 => ?_) (fun c1 => ?_)
  · refine x_aload_n (i := 1) dX3_bringStatement_32 rfl rfl ?_
    refine x_aload_n (i := 0) dX3_bringStatement_33 rfl rfl ?_
    refine x_getI xf_RX3_44 dX3_bringStatement_34 rfl rfl ?_
    refine x_aload_n (i := 0) dX3_bringStatement_37 rfl rfl ?_
    refine x_getI xf_RX3_47 dX3_bringStatement_38 rfl rfl ?_
    refine x_bipush dX3_bringStatement_41 (by decide) ?_
    refine x_icmp_ne (tgt := 50) dX3_bringStatement_43 (by decide) (by first | exact hb6 (by omega) | (unfold x_in; omega) | (unfold x_in; decide)) (by first | exact hb6 (by omega) | (unfold x_in; omega) | (unfold x_in; decide)) (fun c2 => ?_) (fun c2 => ?_)
    · refine x_iconst dX3_bringStatement_50 ?_
      refine x_cI_2 [2, 3, 4, 5, 6, 7, 8] lk_RX3_50 xm_X1_addPiece dX3_bringStatement_51 (s1_addPiece _ _ (by rw [e5]; omega) (by first | exact Or.inl rfl | exact Or.inr rfl) _ hI) (fun a μ' hq => ?_)
      obtain ⟨g1, g2⟩ := hq
      cases g1
      refine x_iret dX3_bringStatement_54 rfl (x_narZ (by exact bI_01 _)) ?_
      first | (have k := KP _ (by omega) (by rw [← e6 (by omega)]; first | exact (if_pos (by omega)).symm | exact (if_neg (by omega)).symm) _ μ' ⟨rfl, g2⟩; exact ⟨k.1, k.2, rfl, rfl⟩) | (have ec : c = 116 := (by omega); subst ec; rw [e5, e7 rfl] at g2 ⊢; exact ⟨rfl, fun _ => g2, rfl, rfl⟩) | (have ec : c = 101 := (by omega); subst ec; rw [e5] at g2 ⊢; exact ⟨rfl, g2, rfl, rfl⟩)
    · refine x_iconst dX3_bringStatement_46 ?_
      refine x_goto (tgt := 51) dX3_bringStatement_47 (by decide) ?_
      refine x_cI_2 [2, 3, 4, 5, 6, 7, 8] lk_RX3_50 xm_X1_addPiece dX3_bringStatement_51 (s1_addPiece _ _ (by rw [e5]; omega) (by first | exact Or.inl rfl | exact Or.inr rfl) _ hI) (fun a μ' hq => ?_)
      obtain ⟨g1, g2⟩ := hq
      cases g1
      refine x_iret dX3_bringStatement_54 rfl (x_narZ (by exact bI_01 _)) ?_
      first | (have k := KP _ (by omega) (by rw [← e6 (by omega)]; first | exact (if_pos (by omega)).symm | exact (if_neg (by omega)).symm) _ μ' ⟨rfl, g2⟩; exact ⟨k.1, k.2, rfl, rfl⟩) | (have ec : c = 116 := (by omega); subst ec; rw [e5, e7 rfl] at g2 ⊢; exact ⟨rfl, fun _ => g2, rfl, rfl⟩) | (have ec : c = 101 := (by omega); subst ec; rw [e5] at g2 ⊢; exact ⟨rfl, g2, rfl, rfl⟩)
  · refine x_aload_n (i := 1) dX3_bringStatement_55 rfl rfl ?_
    refine x_aload_n (i := 0) dX3_bringStatement_56 rfl rfl ?_
    refine x_getI xf_RX3_44 dX3_bringStatement_57 rfl rfl ?_
    refine x_aload_n (i := 0) dX3_bringStatement_60 rfl rfl ?_
    refine x_getI xf_RX3_47 dX3_bringStatement_61 rfl rfl ?_
    refine x_cI_2 [2, 3, 4, 5, 6, 7, 8] lk_RX3_56 xm_X1_addTrain dX3_bringStatement_64 (s1_addTrain _ _ (by rw [e5]; omega) (by rw [e7 (by omega)]; omega) _ hI) (fun a μ' hq => ?_)
    obtain ⟨g1, g2⟩ := hq
    cases g1
    refine x_iret dX3_bringStatement_67 rfl (x_narZ (by exact bI_01 _)) ?_
    first | (have k := KP _ (by omega) (by rw [← e6 (by omega)]; first | exact (if_pos (by omega)).symm | exact (if_neg (by omega)).symm) _ μ' ⟨rfl, g2⟩; exact ⟨k.1, k.2, rfl, rfl⟩) | (have ec : c = 116 := (by omega); subst ec; rw [e5, e7 rfl] at g2 ⊢; exact ⟨rfl, fun _ => g2, rfl, rfl⟩) | (have ec : c = 101 := (by omega); subst ec; rw [e5] at g2 ⊢; exact ⟨rfl, g2, rfl, rfl⟩)
  · refine x_aload_n (i := 1) dX3_bringStatement_68 rfl rfl ?_
    refine x_aload_n (i := 0) dX3_bringStatement_69 rfl rfl ?_
    refine x_getI xf_RX3_44 dX3_bringStatement_70 rfl rfl ?_
    refine x_cI_1 [2, 3, 4, 5, 6, 7, 8] lk_RX3_59 xm_X1_putEngines dX3_bringStatement_73 (s1_putEngines _ (by rw [e5]; omega) _ hI) (fun a μ' hq => ?_)
    obtain ⟨g1, g2⟩ := hq
    cases g1
    refine x_iret dX3_bringStatement_76 rfl (x_narZ (by exact bI_01 _)) ?_
    first | (have k := KP _ (by omega) (by rw [← e6 (by omega)]; first | exact (if_pos (by omega)).symm | exact (if_neg (by omega)).symm) _ μ' ⟨rfl, g2⟩; exact ⟨k.1, k.2, rfl, rfl⟩) | (have ec : c = 116 := (by omega); subst ec; rw [e5, e7 rfl] at g2 ⊢; exact ⟨rfl, fun _ => g2, rfl, rfl⟩) | (have ec : c = 101 := (by omega); subst ec; rw [e5] at g2 ⊢; exact ⟨rfl, g2, rfl, rfl⟩)
