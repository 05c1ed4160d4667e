/-! THE REFERENCE: line -/
theorem x_st_self (μ : xM) (k j : Nat) (v : Int) : x_st μ k j v k = hset (μ k) j v := by
  funext i
  simp [x_st, hset]
def pCm (h : Nat → Int) (c v0 v1 : Int) : Bool × (Nat → Int) :=
  if c = 101 then (decide (v0 ≤ 4), hset h 2 v0)
  else if c = 112 then (if 0 < v0 ∧ h 0 < 5 then (true, hset (hset (hset h (13 + 2 * h 0).toNat v0) (13 + 2 * h 0 + 1).toNat v1) 0 (h 0 + 1)) else (false, h))
  else if v0 ≤ 600 ∧ 0 < v1 ∧ h 1 < 8 then (true, hset (hset (hset h (23 + 2 * h 1).toNat v0) (23 + 2 * h 1 + 1).toNat v1) 1 (h 1 + 1)) else (false, h)
theorem pSt_ok {tp : Nat → Int} (ht : TB tp) {n a : Int} (hn : n ≤ 48) (ha : 0 ≤ a) (han : a ≤ n) (h : (pSt tp n a).1 = true) : a < (pSt tp n a).2.1 ∧ (pSt tp n a).2.1 ≤ n ∧ (0 ≤ (pSt tp n a).2.2.1 ∧ (pSt tp n a).2.2.1 ≤ 999) ∧ (0 ≤ (pSt tp n a).2.2.2 ∧ (pSt tp n a).2.2.2 ≤ 999) ∧ (pSg tp n a = 112 ∧ (pSt tp n a).2.2.1 ≤ 9 ∧ (pSt tp n a).2.2.2 ≤ 1 ∨ pSg tp n a = 101 ∧ (pSt tp n a).2.2.1 ≤ 9 ∨ pSg tp n a = 116) := by
  have Z : ∀ b v0 v1, 0 ≤ b → (pStZ tp n b v0 v1).1 = true → b < n ∧ pStZ tp n b v0 v1 = (true, b + 1, v0, v1) := by
    intro b v0 v1 hb hz
    unfold pStZ at hz ⊢
    split at hz
    next q =>
      have := pSg_lt (tp := tp) (n := n) (a := b) (by omega)
      rw [if_pos q]
      exact ⟨this, rfl⟩
    next q => cases hz
  unfold pSt at h ⊢
  split at h
  next k1 =>
    have hl := pSg_lt (tp := tp) (n := n) (a := a) (by omega)
    rw [if_pos k1]
    unfold pStP at h ⊢
    split at h
    next k2 =>
      have hm := pNm_in ht hn 1 (a + 1) 0 (by omega) (by omega) (by omega)
      rw [if_pos k2]
      split at h
      next k3 =>
        rw [if_pos k3]
        obtain ⟨z1, z2⟩ := Z _ _ _ (by omega) h
        rw [z2]
        refine ⟨by show a < _ + 1 + 1; omega, by show _ + 1 + 1 ≤ n; omega, ⟨hm.2.1, by show (pNm tp n 1 (a + 1) 0).2 ≤ 999; omega⟩, ?_, Or.inl ⟨k1, by show (pNm tp n 1 (a + 1) 0).2 ≤ 9; omega, ?_⟩⟩
        · show 0 ≤ (if pSg tp n (pNm tp n 1 (a + 1) 0).1 = 100 then (1 : Int) else 0) ∧ (if pSg tp n (pNm tp n 1 (a + 1) 0).1 = 100 then (1 : Int) else 0) ≤ 999
          split <;> omega
        · show (if pSg tp n (pNm tp n 1 (a + 1) 0).1 = 100 then (1 : Int) else 0) ≤ 1
          split <;> omega
      next => cases h
    next => cases h
  next k1 =>
    rw [if_neg k1]
    split at h
    next k2 =>
      have hl := pSg_lt (tp := tp) (n := n) (a := a) (by omega)
      rw [if_pos k2]
      unfold pStT at h ⊢
      split at h
      next k3 =>
        have hm := pNm_in ht hn 3 (a + 1) 0 (by omega) (by omega) (by omega)
        rw [if_pos k3]
        split at h
        next k4 =>
          have hl2 := pSg_lt (tp := tp) (n := n) (a := (pNm tp n 3 (a + 1) 0).1) (by omega)
          rw [if_pos k4]
          split at h
          next k5 =>
            have hm2 := pNm_in ht hn 3 ((pNm tp n 3 (a + 1) 0).1 + 1) 0 (by omega) (by omega) (by omega)
            rw [if_pos k5]
            obtain ⟨z1, z2⟩ := Z _ _ _ (by omega) h
            rw [z2]
            exact ⟨by show a < _ + 1; omega, by show _ + 1 ≤ n; omega, ⟨hm.2.1, by show (pNm tp n 3 (a + 1) 0).2 ≤ 999; omega⟩, ⟨hm2.2.1, by show (pNm tp n 3 ((pNm tp n 3 (a + 1) 0).1 + 1) 0).2 ≤ 999; omega⟩, Or.inr (Or.inr k2)⟩
          next => cases h
        next => cases h
      next => cases h
    next k2 =>
      rw [if_neg k2]
      split at h
      next k3 =>
        have hl := pSg_lt (tp := tp) (n := n) (a := a) (by omega)
        rw [if_pos k3]
        unfold pStE at h ⊢
        split at h
        next k4 =>
          have hm := pNm_in ht hn 1 (a + 1) 0 (by omega) (by omega) (by omega)
          rw [if_pos k4]
          obtain ⟨z1, z2⟩ := Z _ _ _ (by omega) h
          rw [z2]
          exact ⟨by show a < _ + 1; omega, by show _ + 1 ≤ n; omega, ⟨hm.2.1, by show (pNm tp n 1 (a + 1) 0).2 ≤ 999; omega⟩, ⟨by show (0 : Int) ≤ 0; omega, by show (0 : Int) ≤ 999; omega⟩, Or.inr (Or.inl ⟨k3, by show (pNm tp n 1 (a + 1) 0).2 ≤ 9; omega⟩)⟩
        next => cases h
      next => cases h
theorem MI_pCm {h : Nat → Int} (hI : MI h) {c v0 v1 : Int} (h0 : 0 ≤ v0 ∧ v0 ≤ 999) (h1 : 0 ≤ v1 ∧ v1 ≤ 999) (hc : c = 112 ∧ v0 ≤ 9 ∧ v1 ≤ 1 ∨ c = 101 ∧ v0 ≤ 9 ∨ c = 116) (hk : (pCm h c v0 v1).1 = true) : MI (pCm h c v0 v1).2 := by
  unfold pCm at hk ⊢
  rcases hc with ⟨rfl, hc1, hc2⟩ | ⟨rfl, hc1⟩ | rfl
  · rw [if_neg (by decide), if_pos rfl] at hk ⊢
    split at hk
    next q =>
      rw [if_pos q]
      show MI (hset (hset (hset h (13 + 2 * h 0).toNat v0) (13 + 2 * h 0 + 1).toNat v1) 0 (h 0 + 1))
      obtain ⟨a0, a1, a2, a3, a4, a5, a6, a7, a8, a9, a10, a11, a12, ap, at_, ao⟩ := hI
      have e : ∀ k : Nat, k < 13 → k ≠ 0 → hset (hset (hset h (13 + 2 * h 0).toNat v0) (13 + 2 * h 0 + 1).toNat v1) 0 (h 0 + 1) k = h k := by
        intro k hk k0
        unfold hset
        rw [if_neg k0, if_neg (by omega), if_neg (by omega)]
      refine ⟨?_, ?_, ?_, ?_, ?_, ?_, ?_, ?_, ?_, ?_, ?_, ?_, ?_, fun p p0 p5 => ?_, fun t t0 t8 => ?_, fun k k0 k8 => ?_⟩
      · show 0 ≤ h 0 + 1 ∧ h 0 + 1 ≤ 5
        omega
      all_goals first | (rw [e _ (by decide) (by decide)]; assumption) | skip
      · have := ap p p0 p5
        unfold hset
        refine ⟨?_, ?_⟩ <;> (repeat' split) <;> omega
      · have := at_ t t0 t8
        unfold hset
        rw [if_neg (by omega), if_neg (by omega), if_neg (by omega), if_neg (by omega), if_neg (by omega), if_neg (by omega)]
        exact this
      · unfold hset
        rw [if_neg (by omega), if_neg (by omega), if_neg (by omega)]
        exact ao k k0 k8
    next => cases hk
  · rw [if_pos rfl] at hk ⊢
    exact MI_set2 hI ⟨h0.1, of_decide_eq_true hk⟩
  · rw [if_neg (by decide), if_neg (by decide)] at hk ⊢
    split at hk
    next q =>
      rw [if_pos q]
      show MI (hset (hset (hset h (23 + 2 * h 1).toNat v0) (23 + 2 * h 1 + 1).toNat v1) 1 (h 1 + 1))
      obtain ⟨a0, a1, a2, a3, a4, a5, a6, a7, a8, a9, a10, a11, a12, ap, at_, ao⟩ := hI
      have e : ∀ k : Nat, k < 13 → k ≠ 1 → hset (hset (hset h (23 + 2 * h 1).toNat v0) (23 + 2 * h 1 + 1).toNat v1) 1 (h 1 + 1) k = h k := by
        intro k hk k0
        unfold hset
        rw [if_neg k0, if_neg (by omega), if_neg (by omega)]
      refine ⟨?_, ?_, ?_, ?_, ?_, ?_, ?_, ?_, ?_, ?_, ?_, ?_, ?_, fun p p0 p5 => ?_, fun t t0 t8 => ?_, fun k k0 k8 => ?_⟩
      all_goals first | (rw [e _ (by decide) (by decide)]; assumption) | skip
      · show 0 ≤ h 1 + 1 ∧ h 1 + 1 ≤ 8
        omega
      · have := ap p p0 p5
        unfold hset
        rw [if_neg (by omega), if_neg (by omega), if_neg (by omega), if_neg (by omega), if_neg (by omega), if_neg (by omega)]
        exact this
      · have := at_ t t0 t8
        unfold hset
        refine ⟨?_, ?_⟩ <;> (repeat' split) <;> omega
      · unfold hset
        rw [if_neg (by omega), if_neg (by omega), if_neg (by omega)]
        exact ao k k0 k8
    next => cases hk
set_option maxRecDepth 100000 in
set_option maxHeartbeats 4000000 in
theorem p6_comes (v0 v1 : Int) (h0 : 0 ≤ v0 ∧ v0 ≤ 999) (h1 : 0 ≤ v1 ∧ v1 ≤ 999) (μ : xM) (hI : MI (μ 4)) (e0 : μ 6 0 = v0) (e1 : 112 ≠ (101 : Int) → μ 6 1 = v1) : X E0 shM 0 yX6_comes cX6_comes 5 (some .boolean) 0 [some (.inr (.inl 0)), some (.inl 112), none, none, none] [] μ (fun r μ' => r = some (.inl (bI (pCm (μ 4) 112 v0 v1).1)) ∧ (∀ k, k ≠ 4 → μ' k = μ k) ∧ μ' 4 = (pCm (μ 4) 112 v0 v1).2) := by
  have hb0 := hI.1
  have hb1 := hI.2.1
  have E : ∀ i v, (∀ k, k ≠ 4 → x_st μ 4 i v k = μ k) := fun i v k hk => by funext j; simp [x_st, hk]
  have e1 := e1 (by decide)
  have x1 : ∀ i j a b, (x_st (x_st μ 4 i a) 4 j b) 6 = μ 6 := fun _ _ _ _ => rfl
  have hz : (x_st (x_st μ 4 (13 + 2 * μ 4 0).toNat v0) 4 (13 + 2 * μ 4 0 + 1).toNat v1) 4 (Int.toNat 0) = μ 4 0 := by
    rw [show Int.toNat 0 = 0 from rfl, x_st_self, x_st_self]
    unfold hset
    rw [if_neg (by omega), if_neg (by omega)]
  refine x_iload_n (i := 1) dX6_comes_0 rfl rfl ?_
  refine x_bipush dX6_comes_1 (by decide) ?_
  refine x_icmp_ne (tgt := 34) dX6_comes_3 (by decide) (by first | (unfold x_in; omega) | (unfold x_in; decide)) (by first | (unfold x_in; omega) | (unfold x_in; decide)) (fun c1 => ?_) (fun c1 => ?_)
  · refine x_iload_n (i := 1) dX6_comes_34 rfl rfl ?_
    refine x_bipush dX6_comes_35 (by decide) ?_
    refine x_icmp_ne (tgt := 44) dX6_comes_37 (by decide) (by first | (unfold x_in; omega) | (unfold x_in; decide)) (by first | (unfold x_in; omega) | (unfold x_in; decide)) (fun c2 => ?_) (fun c2 => ?_)
    · exact absurd c2 (by omega)
    · refine x_iconst dX6_comes_40 ?_
      refine x_goto (tgt := 45) dX6_comes_41 (by decide) ?_
      refine x_istore_2 dX6_comes_45 (by decide) rfl ?_
      refine x_iload_n (i := 1) dX6_comes_46 rfl rfl ?_
      refine x_bipush dX6_comes_47 (by decide) ?_
      refine x_icmp_ne (tgt := 57) dX6_comes_49 (by decide) (by first | (unfold x_in; omega) | (unfold x_in; decide)) (by first | (unfold x_in; omega) | (unfold x_in; decide)) (fun c3 => ?_) (fun c3 => ?_)
      · exact absurd c3 (by omega)
      · refine x_bipush dX6_comes_52 (by decide) ?_
        refine x_goto (tgt := 59) dX6_comes_54 (by decide) ?_
        refine x_iconst dX6_comes_59 ?_
        refine x_aload_n (i := 0) dX6_comes_60 rfl rfl ?_
        refine x_getR xf_RX6_19 dX6_comes_61 rfl rfl ?_
        refine x_iload_n (i := 2) dX6_comes_64 rfl rfl ?_
        refine x_iald dX6_comes_65 rfl (by decide) (by first | omega | decide) (by first | omega | decide) ?_
        rw [show μ 4 (Int.toNat 0) = μ 4 0 from rfl]
        refine x_imul dX6_comes_66 ?_
        refine x_iadd dX6_comes_67 ?_
        refine x_istore_3 dX6_comes_68 (by decide) rfl ?_
        refine x_iload_n (i := 1) dX6_comes_69 rfl rfl ?_
        refine x_bipush dX6_comes_70 (by decide) ?_
        refine x_icmp_ne (tgt := 102) dX6_comes_72 (by decide) (by first | (unfold x_in; omega) | (unfold x_in; decide)) (by first | (unfold x_in; omega) | (unfold x_in; decide)) (fun c4 => ?_) (fun c4 => ?_)
        · exact absurd c4 (by omega)
        · refine x_aload_n (i := 0) dX6_comes_75 rfl rfl ?_
          refine x_getR xf_RX6_25 dX6_comes_76 rfl rfl ?_
          refine x_iconst dX6_comes_79 ?_
          refine x_ialdK (K := 0) dX6_comes_80 rfl rfl (by decide) (by decide) ?_
          rw [e0]
          refine x_if_le (tgt := 98) dX6_comes_81 (by decide) (by first | (unfold x_in; omega) | (unfold x_in; decide)) (fun c5 => ?_) (fun c5 => ?_)
          · refine x_iconst dX6_comes_98 ?_
            refine x_goto (tgt := 139) dX6_comes_99 (by decide) ?_
            refine x_istore_4 dX6_comes_139 (by decide) rfl ?_
            refine x_iload dX6_comes_141 rfl ?_
            refine x_if_ne (tgt := 148) dX6_comes_143 (by decide) (by first | (unfold x_in; omega) | (unfold x_in; decide)) (fun c6 => ?_) (fun c6 => ?_)
            · refine x_aload_n (i := 0) dX6_comes_148 rfl rfl ?_
              refine x_getR xf_RX6_19 dX6_comes_149 rfl rfl ?_
              refine x_iload_n (i := 3) dX6_comes_152 rfl rfl ?_
              refine x_aload_n (i := 0) dX6_comes_153 rfl rfl ?_
              refine x_getR xf_RX6_25 dX6_comes_154 rfl rfl ?_
              refine x_iconst dX6_comes_157 ?_
              refine x_ialdK (K := 0) dX6_comes_158 rfl rfl (by decide) (by decide) ?_
              rw [e0]
              refine x_iast dX6_comes_159 rfl (by decide) (by first | omega | decide) (by first | omega | decide) ?_
              refine x_aload_n (i := 0) dX6_comes_160 rfl rfl ?_
              refine x_getR xf_RX6_19 dX6_comes_161 rfl rfl ?_
              refine x_iload_n (i := 3) dX6_comes_164 rfl rfl ?_
              refine x_iconst dX6_comes_165 ?_
              refine x_iadd dX6_comes_166 ?_
              refine x_aload_n (i := 0) dX6_comes_167 rfl rfl ?_
              refine x_getR xf_RX6_25 dX6_comes_168 rfl rfl ?_
              refine x_iconst dX6_comes_171 ?_
              refine x_ialdK (K := 1) dX6_comes_172 rfl rfl (by decide) (by decide) ?_
              skip
              rw [show (x_st μ 4 (13 + 2 * μ 4 0).toNat v0) 6 1 = v1 from e1]
              refine x_iast dX6_comes_173 rfl (by decide) (by first | omega | decide) (by first | omega | decide) ?_
              refine x_aload_n (i := 0) dX6_comes_174 rfl rfl ?_
              refine x_getR xf_RX6_19 dX6_comes_175 rfl rfl ?_
              refine x_iload_n (i := 2) dX6_comes_178 rfl rfl ?_
              refine x_dup2 dX6_comes_179 ?_
              refine x_iald dX6_comes_180 rfl (by decide) (by first | omega | decide) (by first | omega | decide) ?_
              skip
              rw [hz]
              refine x_iconst dX6_comes_181 ?_
              refine x_iadd dX6_comes_182 ?_
              refine x_iast dX6_comes_183 rfl (by decide) (by first | omega | decide) (by first | omega | decide) ?_
              refine x_iconst dX6_comes_184 ?_
              refine x_iret dX6_comes_185 rfl (x_narZ (by first | exact Or.inl rfl | exact Or.inr rfl | omega)) ?_
              first | (rw [show pCm (μ 4) 112 v0 v1 = (true, hset (hset (hset (μ 4) (13 + 2 * μ 4 0).toNat v0) (13 + 2 * μ 4 0 + 1).toNat v1) 0 (μ 4 0 + 1)) from (by unfold pCm; rw [if_neg (by decide), if_pos rfl, if_pos (by omega)])]; exact ⟨rfl, fun k hk => by funext j; simp [x_st, hk], by rw [x_st_self, x_st_self, x_st_self]; rfl⟩) | (rw [show pCm (μ 4) 112 v0 v1 = (false, μ 4) from (by unfold pCm; rw [if_neg (by decide), if_pos rfl, if_neg (by omega)])]; exact ⟨rfl, fun _ _ => rfl, rfl⟩)
            · refine x_iconst dX6_comes_146 ?_
              refine x_iret dX6_comes_147 rfl (x_narZ (by first | exact Or.inl rfl | exact Or.inr rfl | omega)) ?_
              first | (rw [show pCm (μ 4) 112 v0 v1 = (true, hset (hset (hset (μ 4) (13 + 2 * μ 4 0).toNat v0) (13 + 2 * μ 4 0 + 1).toNat v1) 0 (μ 4 0 + 1)) from (by unfold pCm; rw [if_neg (by decide), if_pos rfl, if_pos (by omega)])]; exact ⟨rfl, fun k hk => by funext j; simp [x_st, hk], by rw [x_st_self, x_st_self, x_st_self]; rfl⟩) | (rw [show pCm (μ 4) 112 v0 v1 = (false, μ 4) from (by unfold pCm; rw [if_neg (by decide), if_pos rfl, if_neg (by omega)])]; exact ⟨rfl, fun _ _ => rfl, rfl⟩)
          · refine x_aload_n (i := 0) dX6_comes_84 rfl rfl ?_
            refine x_getR xf_RX6_19 dX6_comes_85 rfl rfl ?_
            refine x_iconst dX6_comes_88 ?_
            refine x_ialdK (K := 0) dX6_comes_89 rfl rfl (by decide) (by decide) ?_
            refine x_iconst dX6_comes_90 ?_
            refine x_icmp_ge (tgt := 98) dX6_comes_91 (by decide) (by first | (unfold x_in; omega) | (unfold x_in; decide)) (by first | (unfold x_in; omega) | (unfold x_in; decide)) (fun c6 => ?_) (fun c6 => ?_)
            · refine x_iconst dX6_comes_98 ?_
              refine x_goto (tgt := 139) dX6_comes_99 (by decide) ?_
              refine x_istore_4 dX6_comes_139 (by decide) rfl ?_
              refine x_iload dX6_comes_141 rfl ?_
              refine x_if_ne (tgt := 148) dX6_comes_143 (by decide) (by first | (unfold x_in; omega) | (unfold x_in; decide)) (fun c7 => ?_) (fun c7 => ?_)
              · refine x_aload_n (i := 0) dX6_comes_148 rfl rfl ?_
                refine x_getR xf_RX6_19 dX6_comes_149 rfl rfl ?_
                refine x_iload_n (i := 3) dX6_comes_152 rfl rfl ?_
                refine x_aload_n (i := 0) dX6_comes_153 rfl rfl ?_
                refine x_getR xf_RX6_25 dX6_comes_154 rfl rfl ?_
                refine x_iconst dX6_comes_157 ?_
                refine x_ialdK (K := 0) dX6_comes_158 rfl rfl (by decide) (by decide) ?_
                rw [e0]
                refine x_iast dX6_comes_159 rfl (by decide) (by first | omega | decide) (by first | omega | decide) ?_
                refine x_aload_n (i := 0) dX6_comes_160 rfl rfl ?_
                refine x_getR xf_RX6_19 dX6_comes_161 rfl rfl ?_
                refine x_iload_n (i := 3) dX6_comes_164 rfl rfl ?_
                refine x_iconst dX6_comes_165 ?_
                refine x_iadd dX6_comes_166 ?_
                refine x_aload_n (i := 0) dX6_comes_167 rfl rfl ?_
                refine x_getR xf_RX6_25 dX6_comes_168 rfl rfl ?_
                refine x_iconst dX6_comes_171 ?_
                refine x_ialdK (K := 1) dX6_comes_172 rfl rfl (by decide) (by decide) ?_
                skip
                rw [show (x_st μ 4 (13 + 2 * μ 4 0).toNat v0) 6 1 = v1 from e1]
                refine x_iast dX6_comes_173 rfl (by decide) (by first | omega | decide) (by first | omega | decide) ?_
                refine x_aload_n (i := 0) dX6_comes_174 rfl rfl ?_
                refine x_getR xf_RX6_19 dX6_comes_175 rfl rfl ?_
                refine x_iload_n (i := 2) dX6_comes_178 rfl rfl ?_
                refine x_dup2 dX6_comes_179 ?_
                refine x_iald dX6_comes_180 rfl (by decide) (by first | omega | decide) (by first | omega | decide) ?_
                skip
                rw [hz]
                refine x_iconst dX6_comes_181 ?_
                refine x_iadd dX6_comes_182 ?_
                refine x_iast dX6_comes_183 rfl (by decide) (by first | omega | decide) (by first | omega | decide) ?_
                refine x_iconst dX6_comes_184 ?_
                refine x_iret dX6_comes_185 rfl (x_narZ (by first | exact Or.inl rfl | exact Or.inr rfl | omega)) ?_
                first | (rw [show pCm (μ 4) 112 v0 v1 = (true, hset (hset (hset (μ 4) (13 + 2 * μ 4 0).toNat v0) (13 + 2 * μ 4 0 + 1).toNat v1) 0 (μ 4 0 + 1)) from (by unfold pCm; rw [if_neg (by decide), if_pos rfl, if_pos (by omega)])]; exact ⟨rfl, fun k hk => by funext j; simp [x_st, hk], by rw [x_st_self, x_st_self, x_st_self]; rfl⟩) | (rw [show pCm (μ 4) 112 v0 v1 = (false, μ 4) from (by unfold pCm; rw [if_neg (by decide), if_pos rfl, if_neg (by omega)])]; exact ⟨rfl, fun _ _ => rfl, rfl⟩)
              · refine x_iconst dX6_comes_146 ?_
                refine x_iret dX6_comes_147 rfl (x_narZ (by first | exact Or.inl rfl | exact Or.inr rfl | omega)) ?_
                first | (rw [show pCm (μ 4) 112 v0 v1 = (true, hset (hset (hset (μ 4) (13 + 2 * μ 4 0).toNat v0) (13 + 2 * μ 4 0 + 1).toNat v1) 0 (μ 4 0 + 1)) from (by unfold pCm; rw [if_neg (by decide), if_pos rfl, if_pos (by omega)])]; exact ⟨rfl, fun k hk => by funext j; simp [x_st, hk], by rw [x_st_self, x_st_self, x_st_self]; rfl⟩) | (rw [show pCm (μ 4) 112 v0 v1 = (false, μ 4) from (by unfold pCm; rw [if_neg (by decide), if_pos rfl, if_neg (by omega)])]; exact ⟨rfl, fun _ _ => rfl, rfl⟩)
            · refine x_iconst dX6_comes_94 ?_
              refine x_goto (tgt := 139) dX6_comes_95 (by decide) ?_
              refine x_istore_4 dX6_comes_139 (by decide) rfl ?_
              refine x_iload dX6_comes_141 rfl ?_
              refine x_if_ne (tgt := 148) dX6_comes_143 (by decide) (by first | (unfold x_in; omega) | (unfold x_in; decide)) (fun c7 => ?_) (fun c7 => ?_)
              · refine x_aload_n (i := 0) dX6_comes_148 rfl rfl ?_
                refine x_getR xf_RX6_19 dX6_comes_149 rfl rfl ?_
                refine x_iload_n (i := 3) dX6_comes_152 rfl rfl ?_
                refine x_aload_n (i := 0) dX6_comes_153 rfl rfl ?_
                refine x_getR xf_RX6_25 dX6_comes_154 rfl rfl ?_
                refine x_iconst dX6_comes_157 ?_
                refine x_ialdK (K := 0) dX6_comes_158 rfl rfl (by decide) (by decide) ?_
                rw [e0]
                refine x_iast dX6_comes_159 rfl (by decide) (by first | omega | decide) (by first | omega | decide) ?_
                refine x_aload_n (i := 0) dX6_comes_160 rfl rfl ?_
                refine x_getR xf_RX6_19 dX6_comes_161 rfl rfl ?_
                refine x_iload_n (i := 3) dX6_comes_164 rfl rfl ?_
                refine x_iconst dX6_comes_165 ?_
                refine x_iadd dX6_comes_166 ?_
                refine x_aload_n (i := 0) dX6_comes_167 rfl rfl ?_
                refine x_getR xf_RX6_25 dX6_comes_168 rfl rfl ?_
                refine x_iconst dX6_comes_171 ?_
                refine x_ialdK (K := 1) dX6_comes_172 rfl rfl (by decide) (by decide) ?_
                skip
                rw [show (x_st μ 4 (13 + 2 * μ 4 0).toNat v0) 6 1 = v1 from e1]
                refine x_iast dX6_comes_173 rfl (by decide) (by first | omega | decide) (by first | omega | decide) ?_
                refine x_aload_n (i := 0) dX6_comes_174 rfl rfl ?_
                refine x_getR xf_RX6_19 dX6_comes_175 rfl rfl ?_
                refine x_iload_n (i := 2) dX6_comes_178 rfl rfl ?_
                refine x_dup2 dX6_comes_179 ?_
                refine x_iald dX6_comes_180 rfl (by decide) (by first | omega | decide) (by first | omega | decide) ?_
                skip
                rw [hz]
                refine x_iconst dX6_comes_181 ?_
                refine x_iadd dX6_comes_182 ?_
                refine x_iast dX6_comes_183 rfl (by decide) (by first | omega | decide) (by first | omega | decide) ?_
                refine x_iconst dX6_comes_184 ?_
                refine x_iret dX6_comes_185 rfl (x_narZ (by first | exact Or.inl rfl | exact Or.inr rfl | omega)) ?_
                first | (rw [show pCm (μ 4) 112 v0 v1 = (true, hset (hset (hset (μ 4) (13 + 2 * μ 4 0).toNat v0) (13 + 2 * μ 4 0 + 1).toNat v1) 0 (μ 4 0 + 1)) from (by unfold pCm; rw [if_neg (by decide), if_pos rfl, if_pos (by omega)])]; exact ⟨rfl, fun k hk => by funext j; simp [x_st, hk], by rw [x_st_self, x_st_self, x_st_self]; rfl⟩) | (rw [show pCm (μ 4) 112 v0 v1 = (false, μ 4) from (by unfold pCm; rw [if_neg (by decide), if_pos rfl, if_neg (by omega)])]; exact ⟨rfl, fun _ _ => rfl, rfl⟩)
              · refine x_iconst dX6_comes_146 ?_
                refine x_iret dX6_comes_147 rfl (x_narZ (by first | exact Or.inl rfl | exact Or.inr rfl | omega)) ?_
                first | (rw [show pCm (μ 4) 112 v0 v1 = (true, hset (hset (hset (μ 4) (13 + 2 * μ 4 0).toNat v0) (13 + 2 * μ 4 0 + 1).toNat v1) 0 (μ 4 0 + 1)) from (by unfold pCm; rw [if_neg (by decide), if_pos rfl, if_pos (by omega)])]; exact ⟨rfl, fun k hk => by funext j; simp [x_st, hk], by rw [x_st_self, x_st_self, x_st_self]; rfl⟩) | (rw [show pCm (μ 4) 112 v0 v1 = (false, μ 4) from (by unfold pCm; rw [if_neg (by decide), if_pos rfl, if_neg (by omega)])]; exact ⟨rfl, fun _ _ => rfl, rfl⟩)
  · exact absurd c1 (by omega)
set_option maxRecDepth 100000 in
set_option maxHeartbeats 4000000 in
theorem t6_comes (v0 v1 : Int) (h0 : 0 ≤ v0 ∧ v0 ≤ 999) (h1 : 0 ≤ v1 ∧ v1 ≤ 999) (μ : xM) (hI : MI (μ 4)) (e0 : μ 6 0 = v0) (e1 : 116 ≠ (101 : Int) → μ 6 1 = v1) : X E0 shM 0 yX6_comes cX6_comes 5 (some .boolean) 0 [some (.inr (.inl 0)), some (.inl 116), none, none, none] [] μ (fun r μ' => r = some (.inl (bI (pCm (μ 4) 116 v0 v1).1)) ∧ (∀ k, k ≠ 4 → μ' k = μ k) ∧ μ' 4 = (pCm (μ 4) 116 v0 v1).2) := by
  have hb0 := hI.1
  have hb1 := hI.2.1
  have E : ∀ i v, (∀ k, k ≠ 4 → x_st μ 4 i v k = μ k) := fun i v k hk => by funext j; simp [x_st, hk]
  have e1 := e1 (by decide)
  have hz : (x_st (x_st μ 4 (23 + 2 * μ 4 1).toNat v0) 4 (23 + 2 * μ 4 1 + 1).toNat v1) 4 (Int.toNat 1) = μ 4 1 := by
    rw [show Int.toNat 1 = 1 from rfl, x_st_self, x_st_self]
    unfold hset
    rw [if_neg (by omega), if_neg (by omega)]
  refine x_iload_n (i := 1) dX6_comes_0 rfl rfl ?_
  refine x_bipush dX6_comes_1 (by decide) ?_
  refine x_icmp_ne (tgt := 34) dX6_comes_3 (by decide) (by first | (unfold x_in; omega) | (unfold x_in; decide)) (by first | (unfold x_in; omega) | (unfold x_in; decide)) (fun c1 => ?_) (fun c1 => ?_)
  · refine x_iload_n (i := 1) dX6_comes_34 rfl rfl ?_
    refine x_bipush dX6_comes_35 (by decide) ?_
    refine x_icmp_ne (tgt := 44) dX6_comes_37 (by decide) (by first | (unfold x_in; omega) | (unfold x_in; decide)) (by first | (unfold x_in; omega) | (unfold x_in; decide)) (fun c2 => ?_) (fun c2 => ?_)
    · refine x_iconst dX6_comes_44 ?_
      refine x_istore_2 dX6_comes_45 (by decide) rfl ?_
      refine x_iload_n (i := 1) dX6_comes_46 rfl rfl ?_
      refine x_bipush dX6_comes_47 (by decide) ?_
      refine x_icmp_ne (tgt := 57) dX6_comes_49 (by decide) (by first | (unfold x_in; omega) | (unfold x_in; decide)) (by first | (unfold x_in; omega) | (unfold x_in; decide)) (fun c3 => ?_) (fun c3 => ?_)
      · refine x_bipush dX6_comes_57 (by decide) ?_
        refine x_iconst dX6_comes_59 ?_
        refine x_aload_n (i := 0) dX6_comes_60 rfl rfl ?_
        refine x_getR xf_RX6_19 dX6_comes_61 rfl rfl ?_
        refine x_iload_n (i := 2) dX6_comes_64 rfl rfl ?_
        refine x_iald dX6_comes_65 rfl (by decide) (by first | omega | decide) (by first | omega | decide) ?_
        rw [show μ 4 (Int.toNat 1) = μ 4 1 from rfl]
        refine x_imul dX6_comes_66 ?_
        refine x_iadd dX6_comes_67 ?_
        refine x_istore_3 dX6_comes_68 (by decide) rfl ?_
        refine x_iload_n (i := 1) dX6_comes_69 rfl rfl ?_
        refine x_bipush dX6_comes_70 (by decide) ?_
        refine x_icmp_ne (tgt := 102) dX6_comes_72 (by decide) (by first | (unfold x_in; omega) | (unfold x_in; decide)) (by first | (unfold x_in; omega) | (unfold x_in; decide)) (fun c4 => ?_) (fun c4 => ?_)
        · refine x_aload_n (i := 0) dX6_comes_102 rfl rfl ?_
          refine x_getR xf_RX6_25 dX6_comes_103 rfl rfl ?_
          refine x_iconst dX6_comes_106 ?_
          refine x_ialdK (K := 0) dX6_comes_107 rfl rfl (by decide) (by decide) ?_
          rw [e0]
          refine x_sipush dX6_comes_108 (by decide) ?_
          refine x_icmp_gt (tgt := 138) dX6_comes_111 (by decide) (by first | (unfold x_in; omega) | (unfold x_in; decide)) (by first | (unfold x_in; omega) | (unfold x_in; decide)) (fun c5 => ?_) (fun c5 => ?_)
          · refine x_iconst dX6_comes_138 ?_
            refine x_istore_4 dX6_comes_139 (by decide) rfl ?_
            refine x_iload dX6_comes_141 rfl ?_
            refine x_if_ne (tgt := 148) dX6_comes_143 (by decide) (by first | (unfold x_in; omega) | (unfold x_in; decide)) (fun c6 => ?_) (fun c6 => ?_)
            · refine x_aload_n (i := 0) dX6_comes_148 rfl rfl ?_
              refine x_getR xf_RX6_19 dX6_comes_149 rfl rfl ?_
              refine x_iload_n (i := 3) dX6_comes_152 rfl rfl ?_
              refine x_aload_n (i := 0) dX6_comes_153 rfl rfl ?_
              refine x_getR xf_RX6_25 dX6_comes_154 rfl rfl ?_
              refine x_iconst dX6_comes_157 ?_
              refine x_ialdK (K := 0) dX6_comes_158 rfl rfl (by decide) (by decide) ?_
              rw [e0]
              refine x_iast dX6_comes_159 rfl (by decide) (by first | omega | decide) (by first | omega | decide) ?_
              refine x_aload_n (i := 0) dX6_comes_160 rfl rfl ?_
              refine x_getR xf_RX6_19 dX6_comes_161 rfl rfl ?_
              refine x_iload_n (i := 3) dX6_comes_164 rfl rfl ?_
              refine x_iconst dX6_comes_165 ?_
              refine x_iadd dX6_comes_166 ?_
              refine x_aload_n (i := 0) dX6_comes_167 rfl rfl ?_
              refine x_getR xf_RX6_25 dX6_comes_168 rfl rfl ?_
              refine x_iconst dX6_comes_171 ?_
              refine x_ialdK (K := 1) dX6_comes_172 rfl rfl (by decide) (by decide) ?_
              skip
              rw [show (x_st μ 4 (23 + 2 * μ 4 1).toNat v0) 6 1 = v1 from e1]
              refine x_iast dX6_comes_173 rfl (by decide) (by first | omega | decide) (by first | omega | decide) ?_
              refine x_aload_n (i := 0) dX6_comes_174 rfl rfl ?_
              refine x_getR xf_RX6_19 dX6_comes_175 rfl rfl ?_
              refine x_iload_n (i := 2) dX6_comes_178 rfl rfl ?_
              refine x_dup2 dX6_comes_179 ?_
              refine x_iald dX6_comes_180 rfl (by decide) (by first | omega | decide) (by first | omega | decide) ?_
              skip
              rw [hz]
              refine x_iconst dX6_comes_181 ?_
              refine x_iadd dX6_comes_182 ?_
              refine x_iast dX6_comes_183 rfl (by decide) (by first | omega | decide) (by first | omega | decide) ?_
              refine x_iconst dX6_comes_184 ?_
              refine x_iret dX6_comes_185 rfl (x_narZ (by first | exact Or.inl rfl | exact Or.inr rfl | omega)) ?_
              first | (rw [show pCm (μ 4) 116 v0 v1 = (true, hset (hset (hset (μ 4) (23 + 2 * μ 4 1).toNat v0) (23 + 2 * μ 4 1 + 1).toNat v1) 1 (μ 4 1 + 1)) from (by unfold pCm; rw [if_neg (by decide), if_neg (by decide), if_pos (by omega)])]; exact ⟨rfl, fun k hk => by funext j; simp [x_st, hk], by rw [x_st_self, x_st_self, x_st_self]; rfl⟩) | (rw [show pCm (μ 4) 116 v0 v1 = (false, μ 4) from (by unfold pCm; rw [if_neg (by decide), if_neg (by decide), if_neg (by omega)])]; exact ⟨rfl, fun _ _ => rfl, rfl⟩)
            · refine x_iconst dX6_comes_146 ?_
              refine x_iret dX6_comes_147 rfl (x_narZ (by first | exact Or.inl rfl | exact Or.inr rfl | omega)) ?_
              first | (rw [show pCm (μ 4) 116 v0 v1 = (true, hset (hset (hset (μ 4) (23 + 2 * μ 4 1).toNat v0) (23 + 2 * μ 4 1 + 1).toNat v1) 1 (μ 4 1 + 1)) from (by unfold pCm; rw [if_neg (by decide), if_neg (by decide), if_pos (by omega)])]; exact ⟨rfl, fun k hk => by funext j; simp [x_st, hk], by rw [x_st_self, x_st_self, x_st_self]; rfl⟩) | (rw [show pCm (μ 4) 116 v0 v1 = (false, μ 4) from (by unfold pCm; rw [if_neg (by decide), if_neg (by decide), if_neg (by omega)])]; exact ⟨rfl, fun _ _ => rfl, rfl⟩)
          · refine x_aload_n (i := 0) dX6_comes_114 rfl rfl ?_
            refine x_getR xf_RX6_25 dX6_comes_115 rfl rfl ?_
            refine x_iconst dX6_comes_118 ?_
            refine x_ialdK (K := 1) dX6_comes_119 rfl rfl (by decide) (by decide) ?_
            rw [e1]
            refine x_if_le (tgt := 138) dX6_comes_120 (by decide) (by first | (unfold x_in; omega) | (unfold x_in; decide)) (fun c6 => ?_) (fun c6 => ?_)
            · refine x_iconst dX6_comes_138 ?_
              refine x_istore_4 dX6_comes_139 (by decide) rfl ?_
              refine x_iload dX6_comes_141 rfl ?_
              refine x_if_ne (tgt := 148) dX6_comes_143 (by decide) (by first | (unfold x_in; omega) | (unfold x_in; decide)) (fun c7 => ?_) (fun c7 => ?_)
              · refine x_aload_n (i := 0) dX6_comes_148 rfl rfl ?_
                refine x_getR xf_RX6_19 dX6_comes_149 rfl rfl ?_
                refine x_iload_n (i := 3) dX6_comes_152 rfl rfl ?_
                refine x_aload_n (i := 0) dX6_comes_153 rfl rfl ?_
                refine x_getR xf_RX6_25 dX6_comes_154 rfl rfl ?_
                refine x_iconst dX6_comes_157 ?_
                refine x_ialdK (K := 0) dX6_comes_158 rfl rfl (by decide) (by decide) ?_
                rw [e0]
                refine x_iast dX6_comes_159 rfl (by decide) (by first | omega | decide) (by first | omega | decide) ?_
                refine x_aload_n (i := 0) dX6_comes_160 rfl rfl ?_
                refine x_getR xf_RX6_19 dX6_comes_161 rfl rfl ?_
                refine x_iload_n (i := 3) dX6_comes_164 rfl rfl ?_
                refine x_iconst dX6_comes_165 ?_
                refine x_iadd dX6_comes_166 ?_
                refine x_aload_n (i := 0) dX6_comes_167 rfl rfl ?_
                refine x_getR xf_RX6_25 dX6_comes_168 rfl rfl ?_
                refine x_iconst dX6_comes_171 ?_
                refine x_ialdK (K := 1) dX6_comes_172 rfl rfl (by decide) (by decide) ?_
                skip
                rw [show (x_st μ 4 (23 + 2 * μ 4 1).toNat v0) 6 1 = v1 from e1]
                refine x_iast dX6_comes_173 rfl (by decide) (by first | omega | decide) (by first | omega | decide) ?_
                refine x_aload_n (i := 0) dX6_comes_174 rfl rfl ?_
                refine x_getR xf_RX6_19 dX6_comes_175 rfl rfl ?_
                refine x_iload_n (i := 2) dX6_comes_178 rfl rfl ?_
                refine x_dup2 dX6_comes_179 ?_
                refine x_iald dX6_comes_180 rfl (by decide) (by first | omega | decide) (by first | omega | decide) ?_
                skip
                rw [hz]
                refine x_iconst dX6_comes_181 ?_
                refine x_iadd dX6_comes_182 ?_
                refine x_iast dX6_comes_183 rfl (by decide) (by first | omega | decide) (by first | omega | decide) ?_
                refine x_iconst dX6_comes_184 ?_
                refine x_iret dX6_comes_185 rfl (x_narZ (by first | exact Or.inl rfl | exact Or.inr rfl | omega)) ?_
                first | (rw [show pCm (μ 4) 116 v0 v1 = (true, hset (hset (hset (μ 4) (23 + 2 * μ 4 1).toNat v0) (23 + 2 * μ 4 1 + 1).toNat v1) 1 (μ 4 1 + 1)) from (by unfold pCm; rw [if_neg (by decide), if_neg (by decide), if_pos (by omega)])]; exact ⟨rfl, fun k hk => by funext j; simp [x_st, hk], by rw [x_st_self, x_st_self, x_st_self]; rfl⟩) | (rw [show pCm (μ 4) 116 v0 v1 = (false, μ 4) from (by unfold pCm; rw [if_neg (by decide), if_neg (by decide), if_neg (by omega)])]; exact ⟨rfl, fun _ _ => rfl, rfl⟩)
              · refine x_iconst dX6_comes_146 ?_
                refine x_iret dX6_comes_147 rfl (x_narZ (by first | exact Or.inl rfl | exact Or.inr rfl | omega)) ?_
                first | (rw [show pCm (μ 4) 116 v0 v1 = (true, hset (hset (hset (μ 4) (23 + 2 * μ 4 1).toNat v0) (23 + 2 * μ 4 1 + 1).toNat v1) 1 (μ 4 1 + 1)) from (by unfold pCm; rw [if_neg (by decide), if_neg (by decide), if_pos (by omega)])]; exact ⟨rfl, fun k hk => by funext j; simp [x_st, hk], by rw [x_st_self, x_st_self, x_st_self]; rfl⟩) | (rw [show pCm (μ 4) 116 v0 v1 = (false, μ 4) from (by unfold pCm; rw [if_neg (by decide), if_neg (by decide), if_neg (by omega)])]; exact ⟨rfl, fun _ _ => rfl, rfl⟩)
            · refine x_aload_n (i := 0) dX6_comes_123 rfl rfl ?_
              refine x_getR xf_RX6_19 dX6_comes_124 rfl rfl ?_
              refine x_iconst dX6_comes_127 ?_
              refine x_ialdK (K := 1) dX6_comes_128 rfl rfl (by decide) (by decide) ?_
              refine x_bipush dX6_comes_129 (by decide) ?_
              refine x_icmp_ge (tgt := 138) dX6_comes_131 (by decide) (by first | (unfold x_in; omega) | (unfold x_in; decide)) (by first | (unfold x_in; omega) | (unfold x_in; decide)) (fun c7 => ?_) (fun c7 => ?_)
              · refine x_iconst dX6_comes_138 ?_
                refine x_istore_4 dX6_comes_139 (by decide) rfl ?_
                refine x_iload dX6_comes_141 rfl ?_
                refine x_if_ne (tgt := 148) dX6_comes_143 (by decide) (by first | (unfold x_in; omega) | (unfold x_in; decide)) (fun c8 => ?_) (fun c8 => ?_)
                · refine x_aload_n (i := 0) dX6_comes_148 rfl rfl ?_
                  refine x_getR xf_RX6_19 dX6_comes_149 rfl rfl ?_
                  refine x_iload_n (i := 3) dX6_comes_152 rfl rfl ?_
                  refine x_aload_n (i := 0) dX6_comes_153 rfl rfl ?_
                  refine x_getR xf_RX6_25 dX6_comes_154 rfl rfl ?_
                  refine x_iconst dX6_comes_157 ?_
                  refine x_ialdK (K := 0) dX6_comes_158 rfl rfl (by decide) (by decide) ?_
                  rw [e0]
                  refine x_iast dX6_comes_159 rfl (by decide) (by first | omega | decide) (by first | omega | decide) ?_
                  refine x_aload_n (i := 0) dX6_comes_160 rfl rfl ?_
                  refine x_getR xf_RX6_19 dX6_comes_161 rfl rfl ?_
                  refine x_iload_n (i := 3) dX6_comes_164 rfl rfl ?_
                  refine x_iconst dX6_comes_165 ?_
                  refine x_iadd dX6_comes_166 ?_
                  refine x_aload_n (i := 0) dX6_comes_167 rfl rfl ?_
                  refine x_getR xf_RX6_25 dX6_comes_168 rfl rfl ?_
                  refine x_iconst dX6_comes_171 ?_
                  refine x_ialdK (K := 1) dX6_comes_172 rfl rfl (by decide) (by decide) ?_
                  skip
                  rw [show (x_st μ 4 (23 + 2 * μ 4 1).toNat v0) 6 1 = v1 from e1]
                  refine x_iast dX6_comes_173 rfl (by decide) (by first | omega | decide) (by first | omega | decide) ?_
                  refine x_aload_n (i := 0) dX6_comes_174 rfl rfl ?_
                  refine x_getR xf_RX6_19 dX6_comes_175 rfl rfl ?_
                  refine x_iload_n (i := 2) dX6_comes_178 rfl rfl ?_
                  refine x_dup2 dX6_comes_179 ?_
                  refine x_iald dX6_comes_180 rfl (by decide) (by first | omega | decide) (by first | omega | decide) ?_
                  skip
                  rw [hz]
                  refine x_iconst dX6_comes_181 ?_
                  refine x_iadd dX6_comes_182 ?_
                  refine x_iast dX6_comes_183 rfl (by decide) (by first | omega | decide) (by first | omega | decide) ?_
                  refine x_iconst dX6_comes_184 ?_
                  refine x_iret dX6_comes_185 rfl (x_narZ (by first | exact Or.inl rfl | exact Or.inr rfl | omega)) ?_
                  first | (rw [show pCm (μ 4) 116 v0 v1 = (true, hset (hset (hset (μ 4) (23 + 2 * μ 4 1).toNat v0) (23 + 2 * μ 4 1 + 1).toNat v1) 1 (μ 4 1 + 1)) from (by unfold pCm; rw [if_neg (by decide), if_neg (by decide), if_pos (by omega)])]; exact ⟨rfl, fun k hk => by funext j; simp [x_st, hk], by rw [x_st_self, x_st_self, x_st_self]; rfl⟩) | (rw [show pCm (μ 4) 116 v0 v1 = (false, μ 4) from (by unfold pCm; rw [if_neg (by decide), if_neg (by decide), if_neg (by omega)])]; exact ⟨rfl, fun _ _ => rfl, rfl⟩)
                · refine x_iconst dX6_comes_146 ?_
                  refine x_iret dX6_comes_147 rfl (x_narZ (by first | exact Or.inl rfl | exact Or.inr rfl | omega)) ?_
                  first | (rw [show pCm (μ 4) 116 v0 v1 = (true, hset (hset (hset (μ 4) (23 + 2 * μ 4 1).toNat v0) (23 + 2 * μ 4 1 + 1).toNat v1) 1 (μ 4 1 + 1)) from (by unfold pCm; rw [if_neg (by decide), if_neg (by decide), if_pos (by omega)])]; exact ⟨rfl, fun k hk => by funext j; simp [x_st, hk], by rw [x_st_self, x_st_self, x_st_self]; rfl⟩) | (rw [show pCm (μ 4) 116 v0 v1 = (false, μ 4) from (by unfold pCm; rw [if_neg (by decide), if_neg (by decide), if_neg (by omega)])]; exact ⟨rfl, fun _ _ => rfl, rfl⟩)
              · refine x_iconst dX6_comes_134 ?_
                refine x_goto (tgt := 139) dX6_comes_135 (by decide) ?_
                refine x_istore_4 dX6_comes_139 (by decide) rfl ?_
                refine x_iload dX6_comes_141 rfl ?_
                refine x_if_ne (tgt := 148) dX6_comes_143 (by decide) (by first | (unfold x_in; omega) | (unfold x_in; decide)) (fun c8 => ?_) (fun c8 => ?_)
                · refine x_aload_n (i := 0) dX6_comes_148 rfl rfl ?_
                  refine x_getR xf_RX6_19 dX6_comes_149 rfl rfl ?_
                  refine x_iload_n (i := 3) dX6_comes_152 rfl rfl ?_
                  refine x_aload_n (i := 0) dX6_comes_153 rfl rfl ?_
                  refine x_getR xf_RX6_25 dX6_comes_154 rfl rfl ?_
                  refine x_iconst dX6_comes_157 ?_
                  refine x_ialdK (K := 0) dX6_comes_158 rfl rfl (by decide) (by decide) ?_
                  rw [e0]
                  refine x_iast dX6_comes_159 rfl (by decide) (by first | omega | decide) (by first | omega | decide) ?_
                  refine x_aload_n (i := 0) dX6_comes_160 rfl rfl ?_
                  refine x_getR xf_RX6_19 dX6_comes_161 rfl rfl ?_
                  refine x_iload_n (i := 3) dX6_comes_164 rfl rfl ?_
                  refine x_iconst dX6_comes_165 ?_
                  refine x_iadd dX6_comes_166 ?_
                  refine x_aload_n (i := 0) dX6_comes_167 rfl rfl ?_
                  refine x_getR xf_RX6_25 dX6_comes_168 rfl rfl ?_
                  refine x_iconst dX6_comes_171 ?_
                  refine x_ialdK (K := 1) dX6_comes_172 rfl rfl (by decide) (by decide) ?_
                  skip
                  rw [show (x_st μ 4 (23 + 2 * μ 4 1).toNat v0) 6 1 = v1 from e1]
                  refine x_iast dX6_comes_173 rfl (by decide) (by first | omega | decide) (by first | omega | decide) ?_
                  refine x_aload_n (i := 0) dX6_comes_174 rfl rfl ?_
                  refine x_getR xf_RX6_19 dX6_comes_175 rfl rfl ?_
                  refine x_iload_n (i := 2) dX6_comes_178 rfl rfl ?_
                  refine x_dup2 dX6_comes_179 ?_
                  refine x_iald dX6_comes_180 rfl (by decide) (by first | omega | decide) (by first | omega | decide) ?_
                  skip
                  rw [hz]
                  refine x_iconst dX6_comes_181 ?_
                  refine x_iadd dX6_comes_182 ?_
                  refine x_iast dX6_comes_183 rfl (by decide) (by first | omega | decide) (by first | omega | decide) ?_
                  refine x_iconst dX6_comes_184 ?_
                  refine x_iret dX6_comes_185 rfl (x_narZ (by first | exact Or.inl rfl | exact Or.inr rfl | omega)) ?_
                  first | (rw [show pCm (μ 4) 116 v0 v1 = (true, hset (hset (hset (μ 4) (23 + 2 * μ 4 1).toNat v0) (23 + 2 * μ 4 1 + 1).toNat v1) 1 (μ 4 1 + 1)) from (by unfold pCm; rw [if_neg (by decide), if_neg (by decide), if_pos (by omega)])]; exact ⟨rfl, fun k hk => by funext j; simp [x_st, hk], by rw [x_st_self, x_st_self, x_st_self]; rfl⟩) | (rw [show pCm (μ 4) 116 v0 v1 = (false, μ 4) from (by unfold pCm; rw [if_neg (by decide), if_neg (by decide), if_neg (by omega)])]; exact ⟨rfl, fun _ _ => rfl, rfl⟩)
                · refine x_iconst dX6_comes_146 ?_
                  refine x_iret dX6_comes_147 rfl (x_narZ (by first | exact Or.inl rfl | exact Or.inr rfl | omega)) ?_
                  first | (rw [show pCm (μ 4) 116 v0 v1 = (true, hset (hset (hset (μ 4) (23 + 2 * μ 4 1).toNat v0) (23 + 2 * μ 4 1 + 1).toNat v1) 1 (μ 4 1 + 1)) from (by unfold pCm; rw [if_neg (by decide), if_neg (by decide), if_pos (by omega)])]; exact ⟨rfl, fun k hk => by funext j; simp [x_st, hk], by rw [x_st_self, x_st_self, x_st_self]; rfl⟩) | (rw [show pCm (μ 4) 116 v0 v1 = (false, μ 4) from (by unfold pCm; rw [if_neg (by decide), if_neg (by decide), if_neg (by omega)])]; exact ⟨rfl, fun _ _ => rfl, rfl⟩)
        · exact absurd c4 (by omega)
      · exact absurd c3 (by omega)
    · exact absurd c2 (by omega)
  · exact absurd c1 (by omega)
set_option maxRecDepth 100000 in
set_option maxHeartbeats 4000000 in
theorem e6_comes (v0 v1 : Int) (h0 : 0 ≤ v0 ∧ v0 ≤ 999) (h1 : 0 ≤ v1 ∧ v1 ≤ 999) (μ : xM) (hI : MI (μ 4)) (e0 : μ 6 0 = v0) (e1 : 101 ≠ (101 : Int) → μ 6 1 = v1) : X E0 shM 0 yX6_comes cX6_comes 5 (some .boolean) 0 [some (.inr (.inl 0)), some (.inl 101), none, none, none] [] μ (fun r μ' => r = some (.inl (bI (pCm (μ 4) 101 v0 v1).1)) ∧ (∀ k, k ≠ 4 → μ' k = μ k) ∧ μ' 4 = (pCm (μ 4) 101 v0 v1).2) := by
  have hb0 := hI.1
  have hb1 := hI.2.1
  have E : ∀ i v, (∀ k, k ≠ 4 → x_st μ 4 i v k = μ k) := fun i v k hk => by funext j; simp [x_st, hk]
  skip
  refine x_iload_n (i := 1) dX6_comes_0 rfl rfl ?_
  refine x_bipush dX6_comes_1 (by decide) ?_
  refine x_icmp_ne (tgt := 34) dX6_comes_3 (by decide) (by first | (unfold x_in; omega) | (unfold x_in; decide)) (by first | (unfold x_in; omega) | (unfold x_in; decide)) (fun c1 => ?_) (fun c1 => ?_)
  · exact absurd c1 (by omega)
  · refine x_aload_n (i := 0) dX6_comes_6 rfl rfl ?_
    refine x_getR xf_RX6_19 dX6_comes_7 rfl rfl ?_
    refine x_iconst dX6_comes_10 ?_
    refine x_aload_n (i := 0) dX6_comes_11 rfl rfl ?_
    refine x_getR xf_RX6_25 dX6_comes_12 rfl rfl ?_
    refine x_iconst dX6_comes_15 ?_
    refine x_ialdK (K := 0) dX6_comes_16 rfl rfl (by decide) (by decide) ?_
    rw [e0]
    refine x_iastK (K := 2) dX6_comes_17 rfl rfl (by decide) (by decide) ?_
    refine x_aload_n (i := 0) dX6_comes_18 rfl rfl ?_
    refine x_getR xf_RX6_25 dX6_comes_19 rfl rfl ?_
    refine x_iconst dX6_comes_22 ?_
    refine x_ialdK (K := 0) dX6_comes_23 rfl rfl (by decide) (by decide) ?_
    skip
    rw [show (x_st μ 4 2 v0) 6 0 = v0 from e0]
    refine x_iconst dX6_comes_24 ?_
    refine x_icmp_gt (tgt := 32) dX6_comes_25 (by decide) (by first | (unfold x_in; omega) | (unfold x_in; decide)) (by first | (unfold x_in; omega) | (unfold x_in; decide)) (fun c2 => ?_) (fun c2 => ?_)
    · refine x_iconst dX6_comes_32 ?_
      refine x_iret dX6_comes_33 rfl (x_narZ (by first | exact Or.inl rfl | exact Or.inr rfl | omega)) ?_
      have hp : pCm (μ 4) 101 v0 v1 = (decide (v0 ≤ 4), hset (μ 4) 2 v0) := by unfold pCm; rw [if_pos rfl]
      rw [hp]
      exact ⟨by first | rw [decide_eq_true (by omega)]; rfl | rw [decide_eq_false (by omega)]; rfl, E _ _, x_st_self _ _ _ _⟩
    · refine x_iconst dX6_comes_28 ?_
      refine x_goto (tgt := 33) dX6_comes_29 (by decide) ?_
      refine x_iret dX6_comes_33 rfl (x_narZ (by first | exact Or.inl rfl | exact Or.inr rfl | omega)) ?_
      have hp : pCm (μ 4) 101 v0 v1 = (decide (v0 ≤ 4), hset (μ 4) 2 v0) := by unfold pCm; rw [if_pos rfl]
      rw [hp]
      exact ⟨by first | rw [decide_eq_true (by omega)]; rfl | rw [decide_eq_false (by omega)]; rfl, E _ _, x_st_self _ _ _ _⟩
