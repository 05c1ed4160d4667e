/-! THE REFERENCE: a minute, a day, what is asked of a day -/
theorem bIx (b : Bool) : x_in (bI b) := by unfold x_in; cases b <;> decide
set_option maxRecDepth 100000 in
set_option maxHeartbeats 4000000 in
theorem l6_minute3 (m : Int) (hm : 0 ≤ m ∧ m ≤ 10000) (μ : xM) (h : DI μ) (w : Int) : ∀ (n : Nat) (p : Int), 0 ≤ p → p ≤ μ 2 1 → (μ 2 1 - p).toNat < n → X E0 shM 5 yX6_minute cX6_minute 5 none 92 [some (.inr (.inl 0)), some (.inl m), some (.inl w), some (.inl (mBsN μ m p.toNat)), some (.inl p)] [] μ (x_Qn (if 0 ≤ mBest μ m then mGU μ m (mBest μ m) else μ)) := by
  have hI := h.1
  have hB := DB_of h
  have h10 := hI.2.1
  intro n
  induction n with
  | zero => intro p _ _ h; omega
  | succ n ih =>
    intro p hp hp2 hn
    have hbs := mBsN_in μ m p.toNat
    have hbs2 : -9 ≤ mBsN μ m p.toNat ∧ mBsN μ m p.toNat < 8 := by omega
    have K : p < μ 2 1 → ∀ z, z = (if mCan μ m p ∧ (mBsN μ m p.toNat < 0 ∨ mAh (μ 2) p (mBsN μ m p.toNat)) then p else mBsN μ m p.toNat) → X E0 shM 5 yX6_minute cX6_minute 5 none 92 [some (.inr (.inl 0)), some (.inl m), some (.inl w), some (.inl z), some (.inl (p + 1))] [] μ (x_Qn (if 0 ≤ mBest μ m then mGU μ m (mBest μ m) else μ)) := by
      intro hlt z hz
      have h := ih (p + 1) (by omega) (by omega) (by omega)
      rw [mBsN_s _ _ hp] at h
      rw [hz]
      exact h
    refine x_iload dX6_minute_92 rfl ?_
    refine x_aload_n (i := 0) dX6_minute_94 rfl rfl ?_
    refine x_getR xf_RX6_13 dX6_minute_95 rfl rfl ?_
    refine x_iconst dX6_minute_98 ?_
    refine x_ialdK (K := 1) dX6_minute_99 rfl rfl (by decide) (by decide) ?_
    refine x_icmp_ge (tgt := 162) dX6_minute_100 (by decide) (by first | exact bIx _ | (unfold x_in; omega) | (unfold x_in; decide)) (by first | exact bIx _ | (unfold x_in; omega) | (unfold x_in; decide)) (fun c1 => ?_) (fun c1 => ?_)
    · refine x_iload_n (i := 3) dX6_minute_162 rfl rfl ?_
      refine x_if_lt (tgt := 172) dX6_minute_163 (by decide) (by first | exact bIx _ | (unfold x_in; omega) | (unfold x_in; decide)) (fun c2 => ?_) (fun c2 => ?_)
      · exact x_vret dX6_minute_172 rfl ⟨rfl, by rw [show mBest μ m = mBsN μ m p.toNat from (by rw [show p = μ 2 1 by omega]; rfl)]; first | rw [if_pos c2] | rw [if_neg (by omega)]⟩
      · refine x_aload_n (i := 0) dX6_minute_166 rfl rfl ?_
        refine x_iload_n (i := 1) dX6_minute_167 rfl rfl ?_
        refine x_iload_n (i := 3) dX6_minute_168 rfl rfl ?_
        refine x_cVf0_2 lk_RX6_176 xm_X6_goesUp dX6_minute_169 (s6_goesUp _ _ hm _ (by rw [show p = μ 2 1 by omega] at hbs c2 ⊢; omega) h) ?_
        exact x_vret dX6_minute_172 rfl ⟨rfl, by rw [show mBest μ m = mBsN μ m p.toNat from (by rw [show p = μ 2 1 by omega]; rfl)]; first | rw [if_pos c2] | rw [if_neg (by omega)]⟩
    · refine x_aload_n (i := 0) dX6_minute_103 rfl rfl ?_
      refine x_iload_n (i := 1) dX6_minute_104 rfl rfl ?_
      refine x_iload dX6_minute_105 rfl ?_
      refine x_cIp0_2 lk_RX6_158 xm_X6_waits dX6_minute_107 (s6_waits _ _ hm (by omega) _ hI hB) ?_
      refine x_if_eq (tgt := 156) dX6_minute_110 (by decide) (by first | exact bIx _ | (unfold x_in; omega) | (unfold x_in; decide)) (fun c2 => ?_) (fun c2 => ?_)
      · refine x_iinc_4 dX6_minute_156 (by decide) rfl ?_
        refine x_goto (tgt := 92) dX6_minute_159 (by decide) ?_
        refine K c1 _ ?_
        first | exact (if_pos ⟨⟨bd_of_t c2, bd_of_t c3, bd_of_t c4⟩, Or.inl c5⟩).symm | exact (if_pos ⟨⟨bd_of_t c2, bd_of_t c3, bd_of_t c4⟩, Or.inr (bd_of_t c6)⟩).symm | exact (if_neg (fun q => bd_of_f c2 q.1.1)).symm | exact (if_neg (fun q => bd_of_f c3 q.1.2.1)).symm | exact (if_neg (fun q => bd_of_f c4 q.1.2.2)).symm | exact (if_neg (fun q => q.2.elim (fun r => by omega) (bd_of_f c6))).symm
      · refine x_aload_n (i := 0) dX6_minute_113 rfl rfl ?_
        refine x_iload dX6_minute_114 rfl ?_
        refine x_cIp0_1 lk_RX6_167 xm_X6_hasEngine dX6_minute_116 (s6_hasEngine _ (by omega) _ hI hB) ?_
        refine x_if_eq (tgt := 156) dX6_minute_119 (by decide) (by first | exact bIx _ | (unfold x_in; omega) | (unfold x_in; decide)) (fun c3 => ?_) (fun c3 => ?_)
        · refine x_iinc_4 dX6_minute_156 (by decide) rfl ?_
          refine x_goto (tgt := 92) dX6_minute_159 (by decide) ?_
          refine K c1 _ ?_
          first | exact (if_pos ⟨⟨bd_of_t c2, bd_of_t c3, bd_of_t c4⟩, Or.inl c5⟩).symm | exact (if_pos ⟨⟨bd_of_t c2, bd_of_t c3, bd_of_t c4⟩, Or.inr (bd_of_t c6)⟩).symm | exact (if_neg (fun q => bd_of_f c2 q.1.1)).symm | exact (if_neg (fun q => bd_of_f c3 q.1.2.1)).symm | exact (if_neg (fun q => bd_of_f c4 q.1.2.2)).symm | exact (if_neg (fun q => q.2.elim (fun r => by omega) (bd_of_f c6))).symm
        · refine x_aload_n (i := 0) dX6_minute_122 rfl rfl ?_
          refine x_iload_n (i := 1) dX6_minute_123 rfl rfl ?_
          refine x_iload dX6_minute_124 rfl ?_
          refine x_cIp0_2 lk_RX6_170 xm_X6_letsUp dX6_minute_126 (s6_letsUp _ _ hm (by omega) _ hI hB) ?_
          refine x_if_ne (tgt := 135) dX6_minute_129 (by decide) (by first | exact bIx _ | (unfold x_in; omega) | (unfold x_in; decide)) (fun c4 => ?_) (fun c4 => ?_)
          · refine x_iload_n (i := 3) dX6_minute_135 rfl rfl ?_
            refine x_if_lt (tgt := 149) dX6_minute_136 (by decide) (by first | exact bIx _ | (unfold x_in; omega) | (unfold x_in; decide)) (fun c5 => ?_) (fun c5 => ?_)
            · refine x_iload dX6_minute_149 rfl ?_
              refine x_goto (tgt := 155) dX6_minute_151 (by decide) ?_
              refine x_istore_3 dX6_minute_155 (by decide) rfl ?_
              refine x_iinc_4 dX6_minute_156 (by decide) rfl ?_
              refine x_goto (tgt := 92) dX6_minute_159 (by decide) ?_
              refine K c1 _ ?_
              first | exact (if_pos ⟨⟨bd_of_t c2, bd_of_t c3, bd_of_t c4⟩, Or.inl c5⟩).symm | exact (if_pos ⟨⟨bd_of_t c2, bd_of_t c3, bd_of_t c4⟩, Or.inr (bd_of_t c6)⟩).symm | exact (if_neg (fun q => bd_of_f c2 q.1.1)).symm | exact (if_neg (fun q => bd_of_f c3 q.1.2.1)).symm | exact (if_neg (fun q => bd_of_f c4 q.1.2.2)).symm | exact (if_neg (fun q => q.2.elim (fun r => by omega) (bd_of_f c6))).symm
            · refine x_aload_n (i := 0) dX6_minute_139 rfl rfl ?_
              refine x_iload dX6_minute_140 rfl ?_
              refine x_iload_n (i := 3) dX6_minute_142 rfl rfl ?_
              refine x_cIp0_2 lk_RX6_173 xm_X6_isAhead dX6_minute_143 (s6_isAhead _ _ (by omega) (by omega) _ hI) ?_
              refine x_if_eq (tgt := 154) dX6_minute_146 (by decide) (by first | exact bIx _ | (unfold x_in; omega) | (unfold x_in; decide)) (fun c6 => ?_) (fun c6 => ?_)
              · refine x_iload_n (i := 3) dX6_minute_154 rfl rfl ?_
                refine x_istore_3 dX6_minute_155 (by decide) rfl ?_
                refine x_iinc_4 dX6_minute_156 (by decide) rfl ?_
                refine x_goto (tgt := 92) dX6_minute_159 (by decide) ?_
                refine K c1 _ ?_
                first | exact (if_pos ⟨⟨bd_of_t c2, bd_of_t c3, bd_of_t c4⟩, Or.inl c5⟩).symm | exact (if_pos ⟨⟨bd_of_t c2, bd_of_t c3, bd_of_t c4⟩, Or.inr (bd_of_t c6)⟩).symm | exact (if_neg (fun q => bd_of_f c2 q.1.1)).symm | exact (if_neg (fun q => bd_of_f c3 q.1.2.1)).symm | exact (if_neg (fun q => bd_of_f c4 q.1.2.2)).symm | exact (if_neg (fun q => q.2.elim (fun r => by omega) (bd_of_f c6))).symm
              · have g6 := bd_of_t c6
                refine x_iload dX6_minute_149 rfl ?_
                refine x_goto (tgt := 155) dX6_minute_151 (by decide) ?_
                refine x_istore_3 dX6_minute_155 (by decide) rfl ?_
                refine x_iinc_4 dX6_minute_156 (by decide) rfl ?_
                refine x_goto (tgt := 92) dX6_minute_159 (by decide) ?_
                refine K c1 _ ?_
                rw [if_pos]
                exact ⟨⟨bd_of_t c2, bd_of_t c3, bd_of_t c4⟩, Or.inr g6⟩
          · refine x_goto (tgt := 156) dX6_minute_132 (by decide) ?_
            refine x_iinc_4 dX6_minute_156 (by decide) rfl ?_
            refine x_goto (tgt := 92) dX6_minute_159 (by decide) ?_
            refine K c1 _ ?_
            first | exact (if_pos ⟨⟨bd_of_t c2, bd_of_t c3, bd_of_t c4⟩, Or.inl c5⟩).symm | exact (if_pos ⟨⟨bd_of_t c2, bd_of_t c3, bd_of_t c4⟩, Or.inr (bd_of_t c6)⟩).symm | exact (if_neg (fun q => bd_of_f c2 q.1.1)).symm | exact (if_neg (fun q => bd_of_f c3 q.1.2.1)).symm | exact (if_neg (fun q => bd_of_f c4 q.1.2.2)).symm | exact (if_neg (fun q => q.2.elim (fun r => by omega) (bd_of_f c6))).symm
set_option maxRecDepth 100000 in
set_option maxHeartbeats 4000000 in
theorem l6_minute2 (m : Int) (hm : 0 ≤ m ∧ m ≤ 10000) (μ : xM) (h : DI μ) (z : Int) : X E0 shM 5 yX6_minute cX6_minute 5 none 44 [some (.inr (.inl 0)), some (.inl m), some (.inl (bI (mWaiting μ m))), some (.inl z), none] [] μ (x_Qn (mMin1 m μ)) := by
  have hI := h.1
  have hB := DB_of h
  have hB2 := hB
  have h10 := hI.2.1
  have hh := hI
  obtain ⟨-, -, -, -, -, -, -, -, -, h9, h10', h11, h12, -⟩ := hh
  obtain ⟨b12, b13, b15, b16, b17, b7, b8⟩ := hB2
  have hw := bI_in (mWaiting μ m)
  have K : ¬ mDownNow μ m → X E0 shM 5 yX6_minute cX6_minute 5 none 92 [some (.inr (.inl 0)), some (.inl m), some (.inl (bI (mWaiting μ m))), some (.inl (-9)), some (.inl 0)] [] μ (x_Qn (mMin1 m μ)) := by
    intro hn
    have h3 := l6_minute3 m hm μ h (bI (mWaiting μ m)) _ 0 (by omega) (by omega) (Nat.lt_succ_self _)
    rw [show mMin1 m μ = (if 0 ≤ mBest μ m then mGU μ m (mBest μ m) else μ) by rw [mMin1, if_neg hn]]
    exact h3
  refine x_aload_n (i := 0) dX6_minute_44 rfl rfl ?_
  refine x_getI xf_RX6_124 dX6_minute_45 rfl rfl ?_
  refine x_if_le (tgt := 86) dX6_minute_48 (by decide) (by first | exact bIx _ | (unfold x_in; omega) | (unfold x_in; decide)) (fun c1 => ?_) (fun c1 => ?_)
  · refine x_bipush dX6_minute_86 (by decide) ?_
    refine x_istore_3 dX6_minute_88 (by decide) rfl ?_
    refine x_iconst dX6_minute_89 ?_
    refine x_istore_4 dX6_minute_90 (by decide) rfl ?_
    refine K ?_
    rintro ⟨q1, q2, q3⟩
    first | omega | exact bd_of_f c2 q2
  · refine x_aload_n (i := 0) dX6_minute_51 rfl rfl ?_
    refine x_iload_n (i := 1) dX6_minute_52 rfl rfl ?_
    refine x_cIp0_1 lk_RX6_161 xm_X6_letsDown dX6_minute_53 (s6_letsDown _ hm _ hI hB) ?_
    refine x_if_eq (tgt := 86) dX6_minute_56 (by decide) (by first | exact bIx _ | (unfold x_in; omega) | (unfold x_in; decide)) (fun c2 => ?_) (fun c2 => ?_)
    · refine x_bipush dX6_minute_86 (by decide) ?_
      refine x_istore_3 dX6_minute_88 (by decide) rfl ?_
      refine x_iconst dX6_minute_89 ?_
      refine x_istore_4 dX6_minute_90 (by decide) rfl ?_
      refine K ?_
      rintro ⟨q1, q2, q3⟩
      first | omega | exact bd_of_f c2 q2
    · refine x_aload_n (i := 0) dX6_minute_59 rfl rfl ?_
      refine x_getR xf_RX6_13 dX6_minute_60 rfl rfl ?_
      refine x_bipush dX6_minute_63 (by decide) ?_
      refine x_ialdK (K := 12) dX6_minute_65 rfl rfl (by decide) (by decide) ?_
      refine x_if_eq (tgt := 80) dX6_minute_66 (by decide) (by first | exact bIx _ | (unfold x_in; omega) | (unfold x_in; decide)) (fun c3 => ?_) (fun c3 => ?_)
      · refine x_aload_n (i := 0) dX6_minute_80 rfl rfl ?_
        refine x_iload_n (i := 1) dX6_minute_81 rfl rfl ?_
        refine x_cVf0_1 lk_RX6_164 xm_X6_goesDown dX6_minute_82 (s6_goesDown _ hm _ h) ?_
        exact x_vret dX6_minute_85 rfl ⟨rfl, by rw [mMin1, if_pos ⟨c1, bd_of_t c2, by omega⟩]⟩
      · refine x_aload_n (i := 0) dX6_minute_69 rfl rfl ?_
        refine x_getI xf_RX6_121 dX6_minute_70 rfl rfl ?_
        refine x_if_eq (tgt := 80) dX6_minute_73 (by decide) (by first | exact bIx _ | (unfold x_in; omega) | (unfold x_in; decide)) (fun c4 => ?_) (fun c4 => ?_)
        · refine x_aload_n (i := 0) dX6_minute_80 rfl rfl ?_
          refine x_iload_n (i := 1) dX6_minute_81 rfl rfl ?_
          refine x_cVf0_1 lk_RX6_164 xm_X6_goesDown dX6_minute_82 (s6_goesDown _ hm _ h) ?_
          exact x_vret dX6_minute_85 rfl ⟨rfl, by rw [mMin1, if_pos ⟨c1, bd_of_t c2, by omega⟩]⟩
        · refine x_iload_n (i := 2) dX6_minute_76 rfl rfl ?_
          refine x_if_ne (tgt := 86) dX6_minute_77 (by decide) (by first | exact bIx _ | (unfold x_in; omega) | (unfold x_in; decide)) (fun c5 => ?_) (fun c5 => ?_)
          · refine x_bipush dX6_minute_86 (by decide) ?_
            refine x_istore_3 dX6_minute_88 (by decide) rfl ?_
            refine x_iconst dX6_minute_89 ?_
            refine x_istore_4 dX6_minute_90 (by decide) rfl ?_
            refine K ?_
            rintro ⟨q1, q2, q3⟩
            first | omega | exact bd_of_f c2 q2
          · refine x_aload_n (i := 0) dX6_minute_80 rfl rfl ?_
            refine x_iload_n (i := 1) dX6_minute_81 rfl rfl ?_
            refine x_cVf0_1 lk_RX6_164 xm_X6_goesDown dX6_minute_82 (s6_goesDown _ hm _ h) ?_
            exact x_vret dX6_minute_85 rfl ⟨rfl, by rw [mMin1, if_pos ⟨c1, bd_of_t c2, by omega⟩]⟩
set_option maxRecDepth 100000 in
set_option maxHeartbeats 4000000 in
theorem l6_minute1 (m : Int) (hm : 0 ≤ m ∧ m ≤ 10000) (μ : xM) (h : DI μ) : ∀ (n : Nat) (p : Int), 0 ≤ p → p ≤ μ 2 1 → (μ 2 1 - p).toNat < n → X E0 shM 5 yX6_minute cX6_minute 5 none 9 [some (.inr (.inl 0)), some (.inl m), some (.inl (bI (mWtN μ m p.toNat))), some (.inl p), none] [] μ (x_Qn (mMin1 m μ)) := by
  have hI := h.1
  have hB := DB_of h
  have h10 := hI.2.1
  intro n
  induction n with
  | zero => intro p _ _ h; omega
  | succ n ih =>
    intro p hp hp2 hn
    refine x_iload_n (i := 3) dX6_minute_9 rfl rfl ?_
    refine x_aload_n (i := 0) dX6_minute_10 rfl rfl ?_
    refine x_getR xf_RX6_13 dX6_minute_11 rfl rfl ?_
    refine x_iconst dX6_minute_14 ?_
    refine x_ialdK (K := 1) dX6_minute_15 rfl rfl (by decide) (by decide) ?_
    refine x_icmp_ge (tgt := 44) dX6_minute_16 (by decide) (by first | exact bIx _ | (unfold x_in; omega) | (unfold x_in; decide)) (by first | exact bIx _ | (unfold x_in; omega) | (unfold x_in; decide)) (fun c1 => ?_) (fun c1 => ?_)
    · rw [show mWtN μ m p.toNat = mWaiting μ m by rw [show p = μ 2 1 by omega]; rfl]
      exact l6_minute2 m hm μ h _
    · refine x_iload_n (i := 2) dX6_minute_19 rfl rfl ?_
      refine x_if_ne (tgt := 32) dX6_minute_20 (by decide) (by first | exact bIx _ | (unfold x_in; omega) | (unfold x_in; decide)) (fun c2 => ?_) (fun c2 => ?_)
      · refine x_iconst dX6_minute_32 ?_
        refine x_goto (tgt := 37) dX6_minute_33 (by decide) ?_
        refine x_istore_2 dX6_minute_37 (by decide) rfl ?_
        refine x_iinc_3 dX6_minute_38 (by decide) rfl ?_
        refine x_goto (tgt := 9) dX6_minute_41 (by decide) ?_
        have h := ih (p + 1) (by omega) (by omega) (by omega)
        rw [mWtN_s _ _ hp] at h
        first | (rw [bI_t c2] at h; exact h) | (rw [bI_f c2, Bool.false_or, decide_eq_true (bd_of_t c3)] at h; exact h) | (rw [bI_f c2, Bool.false_or, decide_eq_false (bd_of_f c3)] at h; exact h)
      · refine x_aload_n (i := 0) dX6_minute_23 rfl rfl ?_
        refine x_iload_n (i := 1) dX6_minute_24 rfl rfl ?_
        refine x_iload_n (i := 3) dX6_minute_25 rfl rfl ?_
        refine x_cIp0_2 lk_RX6_158 xm_X6_waits dX6_minute_26 (s6_waits _ _ hm (by omega) _ hI hB) ?_
        refine x_if_eq (tgt := 36) dX6_minute_29 (by decide) (by first | exact bIx _ | (unfold x_in; omega) | (unfold x_in; decide)) (fun c3 => ?_) (fun c3 => ?_)
        · refine x_iconst dX6_minute_36 ?_
          refine x_istore_2 dX6_minute_37 (by decide) rfl ?_
          refine x_iinc_3 dX6_minute_38 (by decide) rfl ?_
          refine x_goto (tgt := 9) dX6_minute_41 (by decide) ?_
          have h := ih (p + 1) (by omega) (by omega) (by omega)
          rw [mWtN_s _ _ hp] at h
          first | (rw [bI_t c2] at h; exact h) | (rw [bI_f c2, Bool.false_or, decide_eq_true (bd_of_t c3)] at h; exact h) | (rw [bI_f c2, Bool.false_or, decide_eq_false (bd_of_f c3)] at h; exact h)
        · refine x_iconst dX6_minute_32 ?_
          refine x_goto (tgt := 37) dX6_minute_33 (by decide) ?_
          refine x_istore_2 dX6_minute_37 (by decide) rfl ?_
          refine x_iinc_3 dX6_minute_38 (by decide) rfl ?_
          refine x_goto (tgt := 9) dX6_minute_41 (by decide) ?_
          have h := ih (p + 1) (by omega) (by omega) (by omega)
          rw [mWtN_s _ _ hp] at h
          first | (rw [bI_t c2] at h; exact h) | (rw [bI_f c2, Bool.false_or, decide_eq_true (bd_of_t c3)] at h; exact h) | (rw [bI_f c2, Bool.false_or, decide_eq_false (bd_of_f c3)] at h; exact h)
set_option maxRecDepth 100000 in
set_option maxHeartbeats 4000000 in
theorem s6_minute (m : Int) (hm : 0 ≤ m ∧ m ≤ 10000) (μ : xM) (h : DI μ) : X E0 shM 5 yX6_minute cX6_minute 5 none 0 [some (.inr (.inl 0)), some (.inl m), none, none, none] [] μ (x_Qn (mMin m μ)) := by
  have hD := DI_ends h m
  have h10 := hD.1.2.1
  refine x_aload_n (i := 0) dX6_minute_0 rfl rfl ?_
  refine x_iload_n (i := 1) dX6_minute_1 rfl rfl ?_
  refine x_cVf0_1 lk_RX6_154 xm_X6_ends dX6_minute_2 (s6_ends _ hm _ h) ?_
  refine x_iconst dX6_minute_5 ?_
  refine x_istore_2 dX6_minute_6 (by decide) rfl ?_
  refine x_iconst dX6_minute_7 ?_
  refine x_istore_3 dX6_minute_8 (by decide) rfl ?_
  exact l6_minute1 m hm (mEnds m μ) hD _ 0 (by omega) (by omega) (Nat.lt_succ_self _)
set_option maxRecDepth 100000 in
set_option maxHeartbeats 4000000 in
theorem l6_day (μ : xM) (h : DI μ) : ∀ (n : Nat) (p : Int), 0 ≤ p → p ≤ 1441 → (1441 - p).toNat < n → X E0 shM 6 yX6_day cX6_day 2 none 6 [some (.inr (.inl 0)), some (.inl p)] [] (mRun μ p.toNat) (x_Qn (mRun μ 1441)) := by
  intro n
  induction n with
  | zero => intro p _ _ h; omega
  | succ n ih =>
    intro p hp hp2 hn
    have hD := DI_Run h p.toNat (by omega)
    refine x_iload_n (i := 1) dX6_day_6 rfl rfl ?_
    refine x_sipush dX6_day_7 (by decide) ?_
    refine x_icmp_gt (tgt := 24) dX6_day_10 (by decide) (by first | (unfold x_in; omega) | (unfold x_in; decide)) (by first | (unfold x_in; omega) | (unfold x_in; decide)) (fun c1 => ?_) (fun c1 => ?_)
    · exact x_vret dX6_day_24 rfl ⟨rfl, by rw [show p = 1441 by omega]; rfl⟩
    · refine x_aload_n (i := 0) dX6_day_13 rfl rfl ?_
      refine x_iload_n (i := 1) dX6_day_14 rfl rfl ?_
      refine x_cVf0_1 lk_RX6_183 xm_X6_minute dX6_day_15 (s6_minute _ (by omega) _ hD) ?_
      refine x_iinc_1 dX6_day_18 (by decide) rfl ?_
      refine x_goto (tgt := 6) dX6_day_21 (by decide) ?_
      have h := ih (p + 1) (by omega) (by omega) (by omega)
      rw [mRun_s _ hp] at h
      exact h
set_option maxRecDepth 100000 in
set_option maxHeartbeats 4000000 in
theorem s6_day (μ : xM) (hI : MI (μ 2)) : X E0 shM 6 yX6_day cX6_day 2 none 0 [some (.inr (.inl 0)), none] [] μ (x_Qn (mDay μ)) := by
  have hD := DI_opens hI
  refine x_aload_n (i := 0) dX6_day_0 rfl rfl ?_
  refine x_cVf0_0 lk_RX6_180 xm_X6_opens dX6_day_1 (s6_opens _) ?_
  refine x_iconst dX6_day_4 ?_
  refine x_istore_1 dX6_day_5 (by decide) rfl ?_
  exact l6_day (mOpens μ) hD _ 0 (by omega) (by omega) (Nat.lt_succ_self _)
theorem mGD_2 (μ : xM) (k : Nat) (m : Int) : mGD μ k m 2 = μ 2 := rfl
theorem mGU_2 (μ : xM) (m t : Int) : mGU μ m t 2 = μ 2 := rfl
theorem mMin_2 (m : Int) (μ : xM) : mMin m μ 2 = μ 2 := by
  unfold mMin mMin1
  split
  · rw [mGD_2, mEnds_2]
  · split
    · rw [mGU_2, mEnds_2]
    · rw [mEnds_2]
theorem mRun_2 (μ : xM) : ∀ k, mRun μ k 2 = μ 2
  | 0 => rfl
  | k + 1 => by rw [mRun, mMin_2, mRun_2 μ k]
theorem mDay_2 (μ : xM) : mDay μ 2 = μ 2 := by rw [mDay, mRun_2, (mOpens_c μ).1]
theorem DI_day {μ : xM} (hI : MI (μ 2)) : DI (mDay μ) := DI_Run (DI_opens hI) 1441 (by decide)
/-- what a day changes: cells 0 (12 .. 17), 7, 8, 9 alone -/
def Same (μ ν : xM) : Prop := (∀ j, j < 12 ∨ 17 < j → ν 0 j = μ 0 j) ∧ ∀ k, k ≠ 0 → k ≠ 7 → k ≠ 8 → k ≠ 9 → ν k = μ k
theorem Same.rfl' (μ : xM) : Same μ μ := ⟨fun _ _ => rfl, fun _ _ _ _ _ => rfl⟩
theorem Same.trans {a b c : xM} (h : Same a b) (g : Same b c) : Same a c := ⟨fun j hj => (g.1 j hj).trans (h.1 j hj), fun k a b c d => (g.2 k a b c d).trans (h.2 k a b c d)⟩
theorem Same.st {μ ν : xM} (h : Same μ ν) {k j : Nat} (hk : (k = 0 ∧ 12 ≤ j ∧ j ≤ 17) ∨ k = 7 ∨ k = 8 ∨ k = 9) (v : Int) : Same μ (x_st ν k j v) := by
  refine ⟨fun i hi => ?_, fun a a0 a7 a8 a9 => ?_⟩
  · rw [← h.1 i hi]
    simp only [x_st]
    split
    · split
      · omega
      · rename_i e _; rw [e]
    · rfl
  · rw [← h.2 a a0 a7 a8 a9]
    funext b
    simp only [x_st]
    split
    · omega
    · rfl
theorem mEndU1_S (m t : Int) (μ : xM) : Same μ (mEndU1 m t μ) := by
  unfold mEndU1
  split
  · exact ((Same.rfl' μ).st (by omega) _).st (by omega) _
  · exact Same.rfl' μ
theorem mEndD1_S (m t : Int) (μ : xM) : Same μ (mEndD1 m t μ) := by
  unfold mEndD1
  split
  · exact ((Same.rfl' μ).st (by omega) _).st (by omega) _
  · exact Same.rfl' μ
theorem mEndU_S (m : Int) (μ : xM) : ∀ k, Same μ (mEndU m μ k)
  | 0 => Same.rfl' μ
  | k + 1 => (mEndU_S m μ k).trans (mEndU1_S m k _)
theorem mEndD_S (m : Int) (μ : xM) : ∀ k, Same μ (mEndD m μ k)
  | 0 => Same.rfl' μ
  | k + 1 => (mEndD_S m μ k).trans (mEndD1_S m k _)
theorem mEnds_S (m : Int) (μ : xM) : Same μ (mEnds m μ) := (mEndU_S m μ _).trans (mEndD_S m _ 6)
theorem mGD_S (μ : xM) (k : Nat) (m : Int) : Same μ (mGD μ k m) := ((((Same.rfl' μ).st (by omega) _).st (by omega) _).st (by omega) _).st (by omega) _
theorem mGU_S (μ : xM) (m t : Int) : Same μ (mGU μ m t) := (((((Same.rfl' μ).st (by omega) _).st (by omega) _).st (by omega) _).st (by omega) _).st (by omega) _
theorem mMin_S (m : Int) (μ : xM) : Same μ (mMin m μ) := by
  unfold mMin mMin1
  split
  · exact (mEnds_S m μ).trans (mGD_S _ _ _)
  · split
    · exact (mEnds_S m μ).trans (mGU_S _ _ _)
    · exact mEnds_S m μ
theorem mRun_S (μ : xM) : ∀ k, Same μ (mRun μ k)
  | 0 => Same.rfl' μ
  | k + 1 => (mRun_S μ k).trans (mMin_S k _)
theorem mOpens_S (μ : xM) : Same μ (mOpens μ) := ⟨(mOpens_c μ).2.2.2.2.1, (mOpens_c μ).2.2.2.2.2⟩
theorem mDay_S (μ : xM) : Same μ (mDay μ) := (mOpens_S μ).trans (mRun_S _ _)
