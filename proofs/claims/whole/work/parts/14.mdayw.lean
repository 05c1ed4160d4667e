/-! THE REFERENCE, the day: the walks -/
set_option maxRecDepth 100000 in
set_option maxHeartbeats 4000000 in
theorem l6_ends2 (m : Int) (hm : 0 ≤ m ∧ m ≤ 10000) (μ : xM) (h : DI μ) : ∀ (n : Nat) (p : Int), 0 ≤ p → p ≤ 6 → (6 - p).toNat < n → X E0 shM 3 yX6_ends cX6_ends 3 none 72 [some (.inr (.inl 0)), some (.inl m), some (.inl p)] [] (mEndD m μ p.toNat) (x_Qn (mEndD m μ 6)) := by
  intro n
  induction n with
  | zero => intro p _ _ h; omega
  | succ n ih =>
    intro p hp hp2 hn
    have hD := DI_endD h m p.toNat (by omega)
    generalize hν : mEndD m μ p.toNat = ν at hD ⊢
    have hB := DB_of hD
    obtain ⟨b12, b13, b15, b16, b17, b7, b8⟩ := hB
    have K : X E0 shM 3 yX6_ends cX6_ends 3 none 72 [some (.inr (.inl 0)), some (.inl m), some (.inl (p + 1))] [] (mEndD1 m p ν) (x_Qn (mEndD m μ 6)) ∨ ¬ p < 6 := by
      by_cases q : p < 6
      · have h := ih (p + 1) (by omega) (by omega) (by omega)
        rw [mEndD_s _ _ hp, hν] at h
        exact Or.inl h
      · exact Or.inr q
    refine x_iload_n (i := 2) dX6_ends_72 rfl rfl ?_
    refine x_bipush dX6_ends_73 (by decide) ?_
    refine x_icmp_ge (tgt := 124) dX6_ends_75 (by decide) (by first | (unfold x_in; omega) | (unfold x_in; decide)) (by first | (unfold x_in; omega) | (unfold x_in; decide)) (fun c1 => ?_) (fun c1 => ?_)
    · exact x_vret dX6_ends_124 rfl ⟨rfl, by rw [← hν, show p = 6 by omega]; rfl⟩
    · refine x_aload_n (i := 0) dX6_ends_78 rfl rfl ?_
      refine x_getR xf_RX6_31 dX6_ends_79 rfl rfl ?_
      refine x_iload_n (i := 2) dX6_ends_82 rfl rfl ?_
      refine x_iald dX6_ends_83 rfl (by decide) (by first | omega | decide) (by first | omega | decide) ?_
      have hy := b8 p hp (by omega)
      have K2 := K.resolve_right (by omega)
      unfold mEndD1 at K2
      refine x_if_lt (tgt := 118) dX6_ends_84 (by decide) (by first | (unfold x_in; omega) | (unfold x_in; decide)) (fun c2 => ?_) (fun c2 => ?_)
      · refine x_iinc_2 dX6_ends_118 (by decide) rfl ?_
        refine x_goto (tgt := 72) dX6_ends_121 (by decide) ?_
        first | (rw [if_pos (by omega)] at K2; exact K2) | (rw [if_neg (by omega)] at K2; exact K2)
      · refine x_aload_n (i := 0) dX6_ends_87 rfl rfl ?_
        refine x_getR xf_RX6_31 dX6_ends_88 rfl rfl ?_
        refine x_iload_n (i := 2) dX6_ends_91 rfl rfl ?_
        refine x_iald dX6_ends_92 rfl (by decide) (by first | omega | decide) (by first | omega | decide) ?_
        refine x_iload_n (i := 1) dX6_ends_93 rfl rfl ?_
        refine x_icmp_le (tgt := 100) dX6_ends_94 (by decide) (by first | (unfold x_in; omega) | (unfold x_in; decide)) (by first | (unfold x_in; omega) | (unfold x_in; decide)) (fun c3 => ?_) (fun c3 => ?_)
        · refine x_aload_n (i := 0) dX6_ends_100 rfl rfl ?_
          refine x_getR xf_RX6_31 dX6_ends_101 rfl rfl ?_
          refine x_iload_n (i := 2) dX6_ends_104 rfl rfl ?_
          refine x_bipush dX6_ends_105 (by decide) ?_
          refine x_iast dX6_ends_107 rfl (by decide) (by first | omega | decide) (by first | omega | decide) ?_
          refine x_aload_n (i := 0) dX6_ends_108 rfl rfl ?_
          first | refine x_dupR dX6_ends_109 ?_ | refine x_dupI dX6_ends_109 ?_
          refine x_getI xf_RX6_121 dX6_ends_110 rfl rfl ?_
          try simp (decide := true) only [x_st_at, ↓reduceIte, if_true, if_false]
          refine x_iconst dX6_ends_113 ?_
          refine x_iadd dX6_ends_114 ?_
          refine x_putI xp_RX6_121 dX6_ends_115 rfl rfl ?_
          refine x_iinc_2 dX6_ends_118 (by decide) rfl ?_
          refine x_goto (tgt := 72) dX6_ends_121 (by decide) ?_
          first | (rw [if_pos (by omega)] at K2; exact K2) | (rw [if_neg (by omega)] at K2; exact K2)
        · refine x_goto (tgt := 118) dX6_ends_97 (by decide) ?_
          refine x_iinc_2 dX6_ends_118 (by decide) rfl ?_
          refine x_goto (tgt := 72) dX6_ends_121 (by decide) ?_
          first | (rw [if_pos (by omega)] at K2; exact K2) | (rw [if_neg (by omega)] at K2; exact K2)
set_option maxRecDepth 100000 in
set_option maxHeartbeats 4000000 in
theorem l6_ends1 (m : Int) (hm : 0 ≤ m ∧ m ≤ 10000) (μ : xM) (h : DI μ) : ∀ (n : Nat) (p : Int), 0 ≤ p → p ≤ μ 2 1 → (μ 2 1 - p).toNat < n → X E0 shM 3 yX6_ends cX6_ends 3 none 2 [some (.inr (.inl 0)), some (.inl m), some (.inl p)] [] (mEndU m μ p.toNat) (x_Qn (mEnds m μ)) := by
  have h10 := h.1.2.1
  intro n
  induction n with
  | zero => intro p _ _ h; omega
  | succ n ih =>
    intro p hp hp2 hn
    have hD := DI_endU h m p.toNat (by omega)
    have hν2 := mEndU_2 m μ p.toNat
    generalize hν : mEndU m μ p.toNat = ν at hD hν2 ⊢
    have hB := DB_of hD
    have hI := hD.1
    obtain ⟨b12, b13, b15, b16, b17, b7, b8⟩ := hB
    have hk := mKind_in (ν 2) p
    have hs1 : ν 2 1 = μ 2 1 := by rw [hν2]
    have K : X E0 shM 3 yX6_ends cX6_ends 3 none 2 [some (.inr (.inl 0)), some (.inl m), some (.inl (p + 1))] [] (mEndU1 m p ν) (x_Qn (mEnds m μ)) ∨ ¬ p < μ 2 1 := by
      by_cases q : p < μ 2 1
      · have h := ih (p + 1) (by omega) (by omega) (by omega)
        rw [mEndU_s _ _ hp, hν] at h
        exact Or.inl h
      · exact Or.inr q
    refine x_iload_n (i := 2) dX6_ends_2 rfl rfl ?_
    refine x_aload_n (i := 0) dX6_ends_3 rfl rfl ?_
    refine x_getR xf_RX6_13 dX6_ends_4 rfl rfl ?_
    refine x_iconst dX6_ends_7 ?_
    refine x_ialdK (K := 1) dX6_ends_8 rfl rfl (by decide) (by decide) ?_
    refine x_icmp_ge (tgt := 70) dX6_ends_9 (by decide) (by first | (unfold x_in; omega) | (unfold x_in; decide)) (by first | (unfold x_in; omega) | (unfold x_in; decide)) (fun c1 => ?_) (fun c1 => ?_)
    · refine x_iconst dX6_ends_70 ?_
      refine x_istore_2 dX6_ends_71 (by decide) rfl ?_
      have e : p = μ 2 1 := by omega
      have h2 := l6_ends2 m hm ν hD 7 0 (by omega) (by omega) (by omega)
      have e2 : mEndD m ν 6 = mEnds m μ := by rw [← hν, e]; rfl
      rw [e2] at h2
      exact h2
    · refine x_aload_n (i := 0) dX6_ends_12 rfl rfl ?_
      refine x_getR xf_RX6_28 dX6_ends_13 rfl rfl ?_
      refine x_iload_n (i := 2) dX6_ends_16 rfl rfl ?_
      refine x_iald dX6_ends_17 rfl (by decide) (by first | omega | decide) (by first | omega | decide) ?_
      have hy := (b7 p hp (by omega)).1
      have K2 := K.resolve_right (by omega)
      unfold mEndU1 at K2
      refine x_if_lt (tgt := 64) dX6_ends_18 (by decide) (by first | (unfold x_in; omega) | (unfold x_in; decide)) (fun c2 => ?_) (fun c2 => ?_)
      · refine x_iinc_2 dX6_ends_64 (by decide) rfl ?_
        refine x_goto (tgt := 2) dX6_ends_67 (by decide) ?_
        first | (rw [if_pos (by omega)] at K2; rw [if_pos (by exact c4)] at K2; exact K2) | (rw [if_pos (by omega)] at K2; rw [if_neg (by exact Int.not_lt.mpr c4)] at K2; exact K2) | (rw [if_neg (by omega)] at K2; exact K2)
      · refine x_aload_n (i := 0) dX6_ends_21 rfl rfl ?_
        refine x_getR xf_RX6_28 dX6_ends_22 rfl rfl ?_
        refine x_iload_n (i := 2) dX6_ends_25 rfl rfl ?_
        refine x_iald dX6_ends_26 rfl (by decide) (by first | omega | decide) (by first | omega | decide) ?_
        refine x_iload_n (i := 1) dX6_ends_27 rfl rfl ?_
        refine x_icmp_le (tgt := 34) dX6_ends_28 (by decide) (by first | (unfold x_in; omega) | (unfold x_in; decide)) (by first | (unfold x_in; omega) | (unfold x_in; decide)) (fun c3 => ?_) (fun c3 => ?_)
        · refine x_aload_n (i := 0) dX6_ends_34 rfl rfl ?_
          refine x_getR xf_RX6_28 dX6_ends_35 rfl rfl ?_
          refine x_iload_n (i := 2) dX6_ends_38 rfl rfl ?_
          refine x_bipush dX6_ends_39 (by decide) ?_
          refine x_iast dX6_ends_41 rfl (by decide) (by first | omega | decide) (by first | omega | decide) ?_
          refine x_aload_n (i := 0) dX6_ends_42 rfl rfl ?_
          first | refine x_dupR dX6_ends_43 ?_ | refine x_dupI dX6_ends_43 ?_
          refine x_getI xf_RX6_124 dX6_ends_44 rfl rfl ?_
          try simp (decide := true) only [x_st_at, ↓reduceIte, if_true, if_false]
          refine x_aload_n (i := 0) dX6_ends_47 rfl rfl ?_
          refine x_iload_n (i := 2) dX6_ends_48 rfl rfl ?_
          refine x_cIp0_1 lk_RX6_112 xm_X6_kindOf dX6_ends_49 (s6_kindOf _ (by omega) _ (by exact hI)) ?_
          refine x_if_le (tgt := 59) dX6_ends_52 (by decide) (by unfold x_in; show _ ≤ mKind (ν 2) p ∧ mKind (ν 2) p < _; omega) (fun c4 => ?_) (fun c4 => ?_)
          · refine x_iconst dX6_ends_59 ?_
            skip
            refine x_iadd dX6_ends_60 ?_
            refine x_putI xp_RX6_124 dX6_ends_61 rfl rfl ?_
            refine x_iinc_2 dX6_ends_64 (by decide) rfl ?_
            refine x_goto (tgt := 2) dX6_ends_67 (by decide) ?_
            first | (rw [if_pos (by omega)] at K2; rw [if_pos (by exact c4)] at K2; exact K2) | (rw [if_pos (by omega)] at K2; rw [if_neg (by exact Int.not_lt.mpr c4)] at K2; exact K2) | (rw [if_neg (by omega)] at K2; exact K2)
          · refine x_iconst dX6_ends_55 ?_
            refine x_goto (tgt := 60) dX6_ends_56 (by decide) ?_
            skip
            refine x_iadd dX6_ends_60 ?_
            refine x_putI xp_RX6_124 dX6_ends_61 rfl rfl ?_
            refine x_iinc_2 dX6_ends_64 (by decide) rfl ?_
            refine x_goto (tgt := 2) dX6_ends_67 (by decide) ?_
            first | (rw [if_pos (by omega)] at K2; rw [if_pos (by exact c4)] at K2; exact K2) | (rw [if_pos (by omega)] at K2; rw [if_neg (by exact Int.not_lt.mpr c4)] at K2; exact K2) | (rw [if_neg (by omega)] at K2; exact K2)
        · refine x_goto (tgt := 64) dX6_ends_31 (by decide) ?_
          refine x_iinc_2 dX6_ends_64 (by decide) rfl ?_
          refine x_goto (tgt := 2) dX6_ends_67 (by decide) ?_
          first | (rw [if_pos (by omega)] at K2; rw [if_pos (by exact c4)] at K2; exact K2) | (rw [if_pos (by omega)] at K2; rw [if_neg (by exact Int.not_lt.mpr c4)] at K2; exact K2) | (rw [if_neg (by omega)] at K2; exact K2)
set_option maxRecDepth 100000 in
set_option maxHeartbeats 4000000 in
theorem s6_ends (m : Int) (hm : 0 ≤ m ∧ m ≤ 10000) (μ : xM) (h : DI μ) : X E0 shM 3 yX6_ends cX6_ends 3 none 0 [some (.inr (.inl 0)), some (.inl m), none] [] μ (x_Qn (mEnds m μ)) := by
  have h10 := h.1.2.1
  refine x_iconst dX6_ends_0 ?_
  refine x_istore_2 dX6_ends_1 (by decide) rfl ?_
  exact l6_ends1 m hm μ h _ 0 (by omega) (by omega) (Nat.lt_succ_self _)
set_option maxRecDepth 100000 in
set_option maxHeartbeats 4000000 in
theorem l6_goesDown (m : Int) (hm : 0 ≤ m ∧ m ≤ 10000) (μ : xM) (h : DI μ) : ∀ (n : Nat) (k : Int), 0 ≤ k → k.toNat + n = 6 → (∃ j, k.toNat ≤ j ∧ j < 6 ∧ μ 8 j < 0) → X E0 shM 1 yX6_goesDown cX6_goesDown 3 none 2 [some (.inr (.inl 0)), some (.inl m), some (.inl k)] [] μ (x_Qn (mGD μ (mFrN μ n k.toNat) m)) := by
  have hI := h.1
  have hB := DB_of h
  obtain ⟨b12, b13, b15, b16, b17, b7, b8⟩ := hB
  intro n
  induction n with
  | zero => intro k hk hn hx; obtain ⟨j, h1, h2, h3⟩ := hx; omega
  | succ n ih =>
    intro k hk hn hx
    have hy := b8 k hk (by omega)
    refine x_aload_n (i := 0) dX6_goesDown_2 rfl rfl ?_
    refine x_getR xf_RX6_31 dX6_goesDown_3 rfl rfl ?_
    refine x_iload_n (i := 2) dX6_goesDown_6 rfl rfl ?_
    refine x_iald dX6_goesDown_7 rfl (by decide) (by first | omega | decide) (by first | omega | decide) ?_
    refine x_if_lt (tgt := 17) dX6_goesDown_8 (by decide) (by first | (unfold x_in; omega) | (unfold x_in; decide)) (fun c1 => ?_) (fun c1 => ?_)
    · refine x_aload_n (i := 0) dX6_goesDown_17 rfl rfl ?_
      first | refine x_dupR dX6_goesDown_18 ?_ | refine x_dupI dX6_goesDown_18 ?_
      refine x_getI xf_RX6_124 dX6_goesDown_19 rfl rfl ?_
      refine x_iconst dX6_goesDown_22 ?_
      refine x_isub dX6_goesDown_23 ?_
      refine x_putI xp_RX6_124 dX6_goesDown_24 rfl rfl ?_
      refine x_aload_n (i := 0) dX6_goesDown_27 rfl rfl ?_
      refine x_getR xf_RX6_31 dX6_goesDown_28 rfl rfl ?_
      refine x_iload_n (i := 2) dX6_goesDown_31 rfl rfl ?_
      refine x_iload_n (i := 1) dX6_goesDown_32 rfl rfl ?_
      refine x_aload_n (i := 0) dX6_goesDown_33 rfl rfl ?_
      refine x_cIp0_0 lk_RX6_115 xm_X6_baseOf dX6_goesDown_34 (s6_baseOf _ (by exact hI)) ?_
      refine x_iadd dX6_goesDown_37 ?_
      refine x_iast dX6_goesDown_38 rfl (by decide) (by first | omega | decide) (by first | omega | decide) ?_
      refine x_aload_n (i := 0) dX6_goesDown_39 rfl rfl ?_
      refine x_iload_n (i := 1) dX6_goesDown_40 rfl rfl ?_
      refine x_putI xp_RX6_133 dX6_goesDown_41 rfl rfl ?_
      refine x_aload_n (i := 0) dX6_goesDown_44 rfl rfl ?_
      first | refine x_dupR dX6_goesDown_45 ?_ | refine x_dupI dX6_goesDown_45 ?_
      refine x_getI xf_RX6_127 dX6_goesDown_46 rfl rfl ?_
      try simp (decide := true) only [x_st_at, ↓reduceIte, if_true, if_false]
      refine x_iconst dX6_goesDown_49 ?_
      refine x_iadd dX6_goesDown_50 ?_
      refine x_putI xp_RX6_127 dX6_goesDown_51 rfl rfl ?_
      exact x_vret dX6_goesDown_54 rfl ⟨rfl, by rw [mFrN, if_pos (by omega)]; rfl⟩
    · refine x_iinc_2 dX6_goesDown_11 (by decide) rfl ?_
      refine x_goto (tgt := 2) dX6_goesDown_14 (by decide) ?_
      have hx2 : ∃ j, (k + 1).toNat ≤ j ∧ j < 6 ∧ μ 8 j < 0 := by
        obtain ⟨j, h1, h2, h3⟩ := hx
        refine ⟨j, ?_, h2, h3⟩
        have : j ≠ k.toNat := by
          rintro rfl
          omega
        omega
      have h := ih (k + 1) (by omega) (by omega) hx2
      rw [mFrN, if_neg (by omega)]
      rw [nat_succ hk] at h
      exact h
set_option maxRecDepth 100000 in
set_option maxHeartbeats 4000000 in
theorem s6_goesDown (m : Int) (hm : 0 ≤ m ∧ m ≤ 10000) (μ : xM) (h : DI μ) : X E0 shM 1 yX6_goesDown cX6_goesDown 3 none 0 [some (.inr (.inl 0)), some (.inl m), none] [] μ (x_Qn (mGD μ (mFree μ) m)) := by
  refine x_iconst dX6_goesDown_0 ?_
  refine x_istore_2 dX6_goesDown_1 (by decide) rfl ?_
  exact l6_goesDown m hm μ h 6 0 (by omega) (by decide) (mFree_ex h)
set_option maxRecDepth 100000 in
set_option maxHeartbeats 4000000 in
theorem s6_goesUp (m t : Int) (hm : 0 ≤ m ∧ m ≤ 10000) (μ : xM) (ht : 0 ≤ t ∧ t < μ 2 1) (h : DI μ) : X E0 shM 4 yX6_goesUp cX6_goesUp 3 none 0 [some (.inr (.inl 0)), some (.inl m), some (.inl t)] [] μ (x_Qn (mGU μ m t)) := by
  have hI := h.1
  have h10 := hI.2.1
  have hB := DB_of h
  obtain ⟨b12, b13, b15, b16, b17, b7, b8⟩ := hB
  have hk := mKind_in (μ 2) t
  have ht8 : 0 ≤ t ∧ t < 8 := by omega
  refine x_aload_n (i := 0) dX6_goesUp_0 rfl rfl ?_
  first | refine x_dupR dX6_goesUp_1 ?_ | refine x_dupI dX6_goesUp_1 ?_
  refine x_getI xf_RX6_121 dX6_goesUp_2 rfl rfl ?_
  refine x_aload_n (i := 0) dX6_goesUp_5 rfl rfl ?_
  refine x_iload_n (i := 2) dX6_goesUp_6 rfl rfl ?_
  refine x_cIp0_1 lk_RX6_112 xm_X6_kindOf dX6_goesUp_7 (s6_kindOf _ ht8 _ (by exact hI)) ?_
  refine x_if_le (tgt := 17) dX6_goesUp_10 (by decide) (by first | (unfold x_in; omega) | (unfold x_in; decide)) (fun c1 => ?_) (fun c1 => ?_)
  · refine x_iconst dX6_goesUp_17 ?_
    refine x_isub dX6_goesUp_18 ?_
    refine x_putI xp_RX6_121 dX6_goesUp_19 rfl rfl ?_
    refine x_aload_n (i := 0) dX6_goesUp_22 rfl rfl ?_
    refine x_getR xf_RX6_28 dX6_goesUp_23 rfl rfl ?_
    refine x_iload_n (i := 2) dX6_goesUp_26 rfl rfl ?_
    refine x_iload_n (i := 1) dX6_goesUp_27 rfl rfl ?_
    refine x_aload_n (i := 0) dX6_goesUp_28 rfl rfl ?_
    refine x_iload_n (i := 2) dX6_goesUp_29 rfl rfl ?_
    refine x_cIp0_1 lk_RX6_118 xm_X6_takesOf dX6_goesUp_30 (s6_takesOf _ ht8 _ (by exact hI)) ?_
    refine x_iadd dX6_goesUp_33 ?_
    refine x_iast dX6_goesUp_34 rfl (by decide) (by first | omega | decide) (by first | omega | decide) ?_
    refine x_aload_n (i := 0) dX6_goesUp_35 rfl rfl ?_
    refine x_aload_n (i := 0) dX6_goesUp_36 rfl rfl ?_
    refine x_iload_n (i := 2) dX6_goesUp_37 rfl rfl ?_
    refine x_cIp0_1 lk_RX6_112 xm_X6_kindOf dX6_goesUp_38 (s6_kindOf _ ht8 _ (by exact hI)) ?_
    refine x_iconst dX6_goesUp_41 ?_
    refine x_icmp_ne (tgt := 54) dX6_goesUp_42 (by decide) (by first | (unfold x_in; decide) | (unfold x_in; show _ ≤ mKind (μ 2) t ∧ mKind (μ 2) t < _; omega)) (by first | (unfold x_in; decide) | (unfold x_in; show _ ≤ mKind (μ 2) t ∧ mKind (μ 2) t < _; omega)) (fun c2 => ?_) (fun c2 => ?_)
    · refine x_aload_n (i := 0) dX6_goesUp_54 rfl rfl ?_
      refine x_getI xf_RX6_136 dX6_goesUp_55 rfl rfl ?_
      try simp (decide := true) only [x_st_at, ↓reduceIte, if_true, if_false]
      refine x_putI xp_RX6_136 dX6_goesUp_58 rfl rfl ?_
      refine x_aload_n (i := 0) dX6_goesUp_61 rfl rfl ?_
      refine x_getR xf_RX6_34 dX6_goesUp_62 rfl rfl ?_
      refine x_iload_n (i := 2) dX6_goesUp_65 rfl rfl ?_
      refine x_iload_n (i := 1) dX6_goesUp_66 rfl rfl ?_
      refine x_iast dX6_goesUp_67 rfl (by decide) (by first | omega | decide) (by first | omega | decide) ?_
      refine x_aload_n (i := 0) dX6_goesUp_68 rfl rfl ?_
      refine x_iload_n (i := 1) dX6_goesUp_69 rfl rfl ?_
      refine x_putI xp_RX6_130 dX6_goesUp_70 rfl rfl ?_
      exact x_vret dX6_goesUp_73 rfl ⟨rfl, by unfold mGU; first | (rw [if_pos (show 0 < mKind (μ 2) t from c1), if_pos (show mKind (μ 2) t = 2 from c2)]; rfl) | (rw [if_pos (show 0 < mKind (μ 2) t from c1), if_neg (show ¬ mKind (μ 2) t = 2 from c2)]; rfl) | (rw [if_neg (show ¬ 0 < mKind (μ 2) t from Int.not_lt.mpr c1), if_pos (show mKind (μ 2) t = 2 from c2)]; rfl) | (rw [if_neg (show ¬ 0 < mKind (μ 2) t from Int.not_lt.mpr c1), if_neg (show ¬ mKind (μ 2) t = 2 from c2)]; rfl)⟩
    · refine x_aload_n (i := 0) dX6_goesUp_45 rfl rfl ?_
      refine x_getR xf_RX6_28 dX6_goesUp_46 rfl rfl ?_
      refine x_iload_n (i := 2) dX6_goesUp_49 rfl rfl ?_
      refine x_iald dX6_goesUp_50 rfl (by decide) (by first | omega | decide) (by first | omega | decide) ?_
      try simp (decide := true) only [x_st_at, ↓reduceIte, if_true, if_false]
      refine x_goto (tgt := 58) dX6_goesUp_51 (by decide) ?_
      refine x_putI xp_RX6_136 dX6_goesUp_58 rfl rfl ?_
      refine x_aload_n (i := 0) dX6_goesUp_61 rfl rfl ?_
      refine x_getR xf_RX6_34 dX6_goesUp_62 rfl rfl ?_
      refine x_iload_n (i := 2) dX6_goesUp_65 rfl rfl ?_
      refine x_iload_n (i := 1) dX6_goesUp_66 rfl rfl ?_
      refine x_iast dX6_goesUp_67 rfl (by decide) (by first | omega | decide) (by first | omega | decide) ?_
      refine x_aload_n (i := 0) dX6_goesUp_68 rfl rfl ?_
      refine x_iload_n (i := 1) dX6_goesUp_69 rfl rfl ?_
      refine x_putI xp_RX6_130 dX6_goesUp_70 rfl rfl ?_
      exact x_vret dX6_goesUp_73 rfl ⟨rfl, by unfold mGU; first | (rw [if_pos (show 0 < mKind (μ 2) t from c1), if_pos (show mKind (μ 2) t = 2 from c2)]; rfl) | (rw [if_pos (show 0 < mKind (μ 2) t from c1), if_neg (show ¬ mKind (μ 2) t = 2 from c2)]; rfl) | (rw [if_neg (show ¬ 0 < mKind (μ 2) t from Int.not_lt.mpr c1), if_pos (show mKind (μ 2) t = 2 from c2)]; rfl) | (rw [if_neg (show ¬ 0 < mKind (μ 2) t from Int.not_lt.mpr c1), if_neg (show ¬ mKind (μ 2) t = 2 from c2)]; rfl)⟩
  · refine x_iconst dX6_goesUp_13 ?_
    refine x_goto (tgt := 18) dX6_goesUp_14 (by decide) ?_
    refine x_isub dX6_goesUp_18 ?_
    refine x_putI xp_RX6_121 dX6_goesUp_19 rfl rfl ?_
    refine x_aload_n (i := 0) dX6_goesUp_22 rfl rfl ?_
    refine x_getR xf_RX6_28 dX6_goesUp_23 rfl rfl ?_
    refine x_iload_n (i := 2) dX6_goesUp_26 rfl rfl ?_
    refine x_iload_n (i := 1) dX6_goesUp_27 rfl rfl ?_
    refine x_aload_n (i := 0) dX6_goesUp_28 rfl rfl ?_
    refine x_iload_n (i := 2) dX6_goesUp_29 rfl rfl ?_
    refine x_cIp0_1 lk_RX6_118 xm_X6_takesOf dX6_goesUp_30 (s6_takesOf _ ht8 _ (by exact hI)) ?_
    refine x_iadd dX6_goesUp_33 ?_
    refine x_iast dX6_goesUp_34 rfl (by decide) (by first | omega | decide) (by first | omega | decide) ?_
    refine x_aload_n (i := 0) dX6_goesUp_35 rfl rfl ?_
    refine x_aload_n (i := 0) dX6_goesUp_36 rfl rfl ?_
    refine x_iload_n (i := 2) dX6_goesUp_37 rfl rfl ?_
    refine x_cIp0_1 lk_RX6_112 xm_X6_kindOf dX6_goesUp_38 (s6_kindOf _ ht8 _ (by exact hI)) ?_
    refine x_iconst dX6_goesUp_41 ?_
    refine x_icmp_ne (tgt := 54) dX6_goesUp_42 (by decide) (by first | (unfold x_in; decide) | (unfold x_in; show _ ≤ mKind (μ 2) t ∧ mKind (μ 2) t < _; omega)) (by first | (unfold x_in; decide) | (unfold x_in; show _ ≤ mKind (μ 2) t ∧ mKind (μ 2) t < _; omega)) (fun c2 => ?_) (fun c2 => ?_)
    · refine x_aload_n (i := 0) dX6_goesUp_54 rfl rfl ?_
      refine x_getI xf_RX6_136 dX6_goesUp_55 rfl rfl ?_
      try simp (decide := true) only [x_st_at, ↓reduceIte, if_true, if_false]
      refine x_putI xp_RX6_136 dX6_goesUp_58 rfl rfl ?_
      refine x_aload_n (i := 0) dX6_goesUp_61 rfl rfl ?_
      refine x_getR xf_RX6_34 dX6_goesUp_62 rfl rfl ?_
      refine x_iload_n (i := 2) dX6_goesUp_65 rfl rfl ?_
      refine x_iload_n (i := 1) dX6_goesUp_66 rfl rfl ?_
      refine x_iast dX6_goesUp_67 rfl (by decide) (by first | omega | decide) (by first | omega | decide) ?_
      refine x_aload_n (i := 0) dX6_goesUp_68 rfl rfl ?_
      refine x_iload_n (i := 1) dX6_goesUp_69 rfl rfl ?_
      refine x_putI xp_RX6_130 dX6_goesUp_70 rfl rfl ?_
      exact x_vret dX6_goesUp_73 rfl ⟨rfl, by unfold mGU; first | (rw [if_pos (show 0 < mKind (μ 2) t from c1), if_pos (show mKind (μ 2) t = 2 from c2)]; rfl) | (rw [if_pos (show 0 < mKind (μ 2) t from c1), if_neg (show ¬ mKind (μ 2) t = 2 from c2)]; rfl) | (rw [if_neg (show ¬ 0 < mKind (μ 2) t from Int.not_lt.mpr c1), if_pos (show mKind (μ 2) t = 2 from c2)]; rfl) | (rw [if_neg (show ¬ 0 < mKind (μ 2) t from Int.not_lt.mpr c1), if_neg (show ¬ mKind (μ 2) t = 2 from c2)]; rfl)⟩
    · refine x_aload_n (i := 0) dX6_goesUp_45 rfl rfl ?_
      refine x_getR xf_RX6_28 dX6_goesUp_46 rfl rfl ?_
      refine x_iload_n (i := 2) dX6_goesUp_49 rfl rfl ?_
      refine x_iald dX6_goesUp_50 rfl (by decide) (by first | omega | decide) (by first | omega | decide) ?_
      try simp (decide := true) only [x_st_at, ↓reduceIte, if_true, if_false]
      refine x_goto (tgt := 58) dX6_goesUp_51 (by decide) ?_
      refine x_putI xp_RX6_136 dX6_goesUp_58 rfl rfl ?_
      refine x_aload_n (i := 0) dX6_goesUp_61 rfl rfl ?_
      refine x_getR xf_RX6_34 dX6_goesUp_62 rfl rfl ?_
      refine x_iload_n (i := 2) dX6_goesUp_65 rfl rfl ?_
      refine x_iload_n (i := 1) dX6_goesUp_66 rfl rfl ?_
      refine x_iast dX6_goesUp_67 rfl (by decide) (by first | omega | decide) (by first | omega | decide) ?_
      refine x_aload_n (i := 0) dX6_goesUp_68 rfl rfl ?_
      refine x_iload_n (i := 1) dX6_goesUp_69 rfl rfl ?_
      refine x_putI xp_RX6_130 dX6_goesUp_70 rfl rfl ?_
      exact x_vret dX6_goesUp_73 rfl ⟨rfl, by unfold mGU; first | (rw [if_pos (show 0 < mKind (μ 2) t from c1), if_pos (show mKind (μ 2) t = 2 from c2)]; rfl) | (rw [if_pos (show 0 < mKind (μ 2) t from c1), if_neg (show ¬ mKind (μ 2) t = 2 from c2)]; rfl) | (rw [if_neg (show ¬ 0 < mKind (μ 2) t from Int.not_lt.mpr c1), if_pos (show mKind (μ 2) t = 2 from c2)]; rfl) | (rw [if_neg (show ¬ 0 < mKind (μ 2) t from Int.not_lt.mpr c1), if_neg (show ¬ mKind (μ 2) t = 2 from c2)]; rfl)⟩
