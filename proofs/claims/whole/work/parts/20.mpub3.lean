/-! THE REFERENCE: copies, yard, image, on, row, count -/
def mCp (μ : xM) (d s : Nat) : Nat → xM
  | 0 => μ
  | k + 1 => x_st (mCp μ d s k) d k (μ s k)
theorem mCp_s (μ : xM) (d s : Nat) {p : Int} (hp : 0 ≤ p) : mCp μ d s (p + 1).toNat = x_st (mCp μ d s p.toNat) d p.toNat (μ s p.toNat) := by rw [nat_succ hp, mCp]
theorem mCp_ne (μ : xM) (d s : Nat) {j : Nat} (hj : j ≠ d) : ∀ k, mCp μ d s k j = μ j
  | 0 => rfl
  | k + 1 => by
    rw [mCp, ← mCp_ne μ d s hj k]
    funext x
    simp [x_st, hj]
theorem mCp_at (μ : xM) (d s : Nat) : ∀ k j, mCp μ d s k d j = if j < k then μ s j else μ d j
  | 0, j => by simp [mCp]
  | k + 1, j => by
    rw [mCp]
    simp only [x_st, if_true]
    rw [mCp_at μ d s k j]
    by_cases h : j = k
    · subst h; simp
    · rw [if_neg h]
      by_cases h2 : j < k
      · rw [if_pos h2, if_pos (by omega)]
      · rw [if_neg h2, if_neg (by omega)]
theorem mCp_all {μ : xM} {d s : Nat} (h : ∀ j, 47 ≤ j → μ s j = 0 ∧ μ d j = 0) : mCp μ d s 47 d = μ s := by
  funext j
  rw [mCp_at]
  split
  · rfl
  · have := h j (by omega)
    rw [this.1, this.2]
def hWtN (h : Nat → Int) (w : Int) : Nat → (Nat → Int)
  | 0 => h
  | k + 1 => hset (hWtN h w k) (23 + 2 * (k : Int) + 1).toNat w
theorem hWtN_at (h : Nat → Int) (w : Int) (j : Nat) : ∀ k, (∀ t : Nat, t < k → j ≠ 24 + 2 * t) → hWtN h w k j = h j
  | 0, _ => rfl
  | k + 1, hk => by
    have := hk k (by omega)
    rw [hWtN]
    unfold hset
    rw [if_neg (by omega)]
    exact hWtN_at h w j k (fun t ht => hk t (by omega))
theorem hWtN_in (h : Nat → Int) (w : Int) (t : Nat) : ∀ k, t < k → hWtN h w k (24 + 2 * t) = w
  | 0, hk => by omega
  | k + 1, hk => by
    rw [hWtN]
    unfold hset
    split
    · rfl
    · exact hWtN_in h w t k (by omega)
theorem hWtN_twice (h : Nat → Int) (a b : Int) (n : Nat) : hWtN (hWtN h a n) b n = hWtN h b n := by
  funext j
  by_cases hx : ∃ t, t < n ∧ j = 24 + 2 * t
  · obtain ⟨t, h1, rfl⟩ := hx
    rw [hWtN_in _ _ _ _ h1, hWtN_in _ _ _ _ h1]
  · have hy : ∀ t : Nat, t < n → j ≠ 24 + 2 * t := fun t h1 h2 => hx ⟨t, h1, h2⟩
    rw [hWtN_at _ _ _ _ hy, hWtN_at _ _ _ _ hy, hWtN_at _ _ _ _ hy]
theorem hWtN_low (h : Nat → Int) (w : Int) (n j : Nat) (hj : j < 24) : hWtN h w n j = h j := hWtN_at h w j n (fun t ht => by omega)
theorem MI_wtN {h : Nat → Int} (hI : MI h) {w : Int} (hw : 0 ≤ w ∧ w ≤ 999) : ∀ n : Nat, n ≤ 8 → MI (hWtN h w n)
  | 0, _ => hI
  | n + 1, hn => MI_setW (MI_wtN hI hw n (by omega)) (by omega) hw
def dYdN (h : Nat → Int) : Nat → Int × Int
  | 0 => (-9, 0)
  | k + 1 => if 0 ≤ (dYdN h k).1 ∧ dWts (hWtN h (50 + 50 * (k : Int)) (h 1).toNat) ≤ (dYdN h k).2 then dYdN h k else (50 + 50 * (k : Int), dWts (hWtN h (50 + 50 * (k : Int)) (h 1).toNat))
def dYard (h : Nat → Int) : Int := (dYdN h 19).1
def mW (ν : xM) (w : Int) : Nat → xM
  | 0 => ν
  | k + 1 => x_st (mW ν w k) 2 (23 + 2 * (k : Int) + 1).toNat w
theorem mW_s (ν : xM) (w : Int) {p : Int} (hp : 0 ≤ p) : mW ν w (p + 1).toNat = x_st (mW ν w p.toNat) 2 (23 + 2 * p + 1).toNat w := by rw [nat_succ hp, mW, nat_back hp]
theorem mW_2 (ν : xM) (w : Int) : ∀ k, mW ν w k 2 = hWtN (ν 2) w k
  | 0 => rfl
  | k + 1 => by rw [mW, x_st_2, mW_2 ν w k, hWtN]
theorem mW_R (ν : xM) (w : Int) : ∀ k, Rest ν (mW ν w k)
  | 0 => Rest.rfl' ν
  | k + 1 => (mW_R ν w k).st _ _
theorem Rest.trans {a b c : xM} (h : Rest a b) (g : Rest b c) : Rest a c := ⟨fun j hj => (g.1 j hj).trans (h.1 j hj), fun k a b c d e => (g.2 k a b c d e).trans (h.2 k a b c d e)⟩
set_option maxRecDepth 100000 in
set_option maxHeartbeats 4000000 in
theorem l6_keeps (μ : xM) : ∀ (n : Nat) (p : Int), 0 ≤ p → p ≤ 47 → (47 - p).toNat < n → X E0 shM 0 yX6_keeps cX6_keeps 2 none 2 [some (.inr (.inl 0)), some (.inl p)] [] (mCp μ 10 2 p.toNat) (x_Qn (mCp μ 10 2 47)) := by
  intro n
  induction n with
  | zero => intro p _ _ h; omega
  | succ n ih =>
    intro p hp hp2 hn
    have e := mCp_ne μ 10 2 (j := 2) (by decide) p.toNat
    refine x_iload_n (i := 1) dX6_keeps_2 rfl rfl ?_
    refine x_bipush dX6_keeps_3 (by decide) ?_
    refine x_icmp_ge (tgt := 26) dX6_keeps_5 (by decide) (by first | (unfold x_in; omega) | (unfold x_in; decide)) (by first | (unfold x_in; omega) | (unfold x_in; decide)) (fun c1 => ?_) (fun c1 => ?_)
    · exact x_vret dX6_keeps_26 rfl ⟨rfl, by rw [show p = 47 by omega]; rfl⟩
    · refine x_aload_n (i := 0) dX6_keeps_8 rfl rfl ?_
      refine x_getR xf_RX6_37 dX6_keeps_9 rfl rfl ?_
      refine x_iload_n (i := 1) dX6_keeps_12 rfl rfl ?_
      refine x_aload_n (i := 0) dX6_keeps_13 rfl rfl ?_
      refine x_getR xf_RX6_13 dX6_keeps_14 rfl rfl ?_
      refine x_iload_n (i := 1) dX6_keeps_17 rfl rfl ?_
      refine x_iald dX6_keeps_18 rfl (by decide) (by first | omega | decide) (by first | omega | decide) ?_
      refine x_iast dX6_keeps_19 rfl (by decide) (by first | omega | decide) (by first | omega | decide) ?_
      refine x_iinc_1 dX6_keeps_20 (by decide) rfl ?_
      refine x_goto (tgt := 2) dX6_keeps_23 (by decide) ?_
      have h := ih (p + 1) (by omega) (by omega) (by omega)
      rw [mCp_s _ _ _ hp] at h
      rw [e]
      exact h
set_option maxRecDepth 100000 in
set_option maxHeartbeats 4000000 in
theorem s6_keeps (μ : xM) : X E0 shM 0 yX6_keeps cX6_keeps 2 none 0 [some (.inr (.inl 0)), none] [] μ (x_Qn (mCp μ 10 2 47)) := by
  refine x_iconst dX6_keeps_0 ?_
  refine x_istore_1 dX6_keeps_1 (by decide) rfl ?_
  exact l6_keeps μ 48 0 (by omega) (by omega) (by omega)
set_option maxRecDepth 100000 in
set_option maxHeartbeats 4000000 in
theorem l6_putsBack (μ : xM) : ∀ (n : Nat) (p : Int), 0 ≤ p → p ≤ 47 → (47 - p).toNat < n → X E0 shM 0 yX6_putsBack cX6_putsBack 2 none 2 [some (.inr (.inl 0)), some (.inl p)] [] (mCp μ 2 10 p.toNat) (x_Qn (mCp μ 2 10 47)) := by
  intro n
  induction n with
  | zero => intro p _ _ h; omega
  | succ n ih =>
    intro p hp hp2 hn
    have e := mCp_ne μ 2 10 (j := 10) (by decide) p.toNat
    refine x_iload_n (i := 1) dX6_putsBack_2 rfl rfl ?_
    refine x_bipush dX6_putsBack_3 (by decide) ?_
    refine x_icmp_ge (tgt := 26) dX6_putsBack_5 (by decide) (by first | (unfold x_in; omega) | (unfold x_in; decide)) (by first | (unfold x_in; omega) | (unfold x_in; decide)) (fun c1 => ?_) (fun c1 => ?_)
    · exact x_vret dX6_putsBack_26 rfl ⟨rfl, by rw [show p = 47 by omega]; rfl⟩
    · refine x_aload_n (i := 0) dX6_putsBack_8 rfl rfl ?_
      refine x_getR xf_RX6_13 dX6_putsBack_9 rfl rfl ?_
      refine x_iload_n (i := 1) dX6_putsBack_12 rfl rfl ?_
      refine x_aload_n (i := 0) dX6_putsBack_13 rfl rfl ?_
      refine x_getR xf_RX6_37 dX6_putsBack_14 rfl rfl ?_
      refine x_iload_n (i := 1) dX6_putsBack_17 rfl rfl ?_
      refine x_iald dX6_putsBack_18 rfl (by decide) (by first | omega | decide) (by first | omega | decide) ?_
      refine x_iast dX6_putsBack_19 rfl (by decide) (by first | omega | decide) (by first | omega | decide) ?_
      refine x_iinc_1 dX6_putsBack_20 (by decide) rfl ?_
      refine x_goto (tgt := 2) dX6_putsBack_23 (by decide) ?_
      have h := ih (p + 1) (by omega) (by omega) (by omega)
      rw [mCp_s _ _ _ hp] at h
      rw [e]
      exact h
set_option maxRecDepth 100000 in
set_option maxHeartbeats 4000000 in
theorem s6_putsBack (μ : xM) : X E0 shM 0 yX6_putsBack cX6_putsBack 2 none 0 [some (.inr (.inl 0)), none] [] μ (x_Qn (mCp μ 2 10 47)) := by
  refine x_iconst dX6_putsBack_0 ?_
  refine x_istore_1 dX6_putsBack_1 (by decide) rfl ?_
  exact l6_putsBack μ 48 0 (by omega) (by omega) (by omega)
set_option maxRecDepth 100000 in
set_option maxHeartbeats 4000000 in
theorem l6_image (μ : xM) (hG : GI μ) : ∀ (n : Nat) (p : Int), 0 ≤ p → p ≤ 47 → (47 - p).toNat < n → X E0 shM 0 yX6_image cX6_image 2 (some .int) 2 [some (.inr (.inl 0)), some (.inl p)] [] (mCp μ 3 2 p.toNat) (PQ (μ 2 1) (x_st (fun k => if k = 3 then μ 2 else μ k) 0 4 1)) := by
  intro n
  induction n with
  | zero => intro p _ _ h; omega
  | succ n ih =>
    intro p hp hp2 hn
    have e := mCp_ne μ 3 2 (j := 2) (by decide) p.toNat
    refine x_iload_n (i := 1) dX6_image_2 rfl rfl ?_
    refine x_bipush dX6_image_3 (by decide) ?_
    refine x_icmp_ge (tgt := 26) dX6_image_5 (by decide) (by first | (unfold x_in; omega) | (unfold x_in; decide)) (by first | (unfold x_in; omega) | (unfold x_in; decide)) (fun c1 => ?_) (fun c1 => ?_)
    · refine x_aload_n (i := 0) dX6_image_26 rfl rfl ?_
      refine x_iconst dX6_image_27 ?_
      refine x_putZ xp_RX6_214 dX6_image_28 rfl rfl (by first | exact Or.inl rfl | exact Or.inr rfl | omega) ?_
      refine x_aload_n (i := 0) dX6_image_31 rfl rfl ?_
      refine x_getR xf_RX6_13 dX6_image_32 rfl rfl ?_
      refine x_iconst dX6_image_35 ?_
      refine x_ialdK (K := 1) dX6_image_36 rfl rfl (by decide) (by decide) ?_
      try simp (decide := true) only [x_st_at, ↓reduceIte, if_true, if_false]
      refine x_iret dX6_image_37 rfl rfl ?_
      have ep : p = 47 := by omega
      subst ep
      have e3 : mCp μ 3 2 47 3 = μ 2 := mCp_all (fun j hj => ⟨(hG.2.1 j hj).1, (hG.2.1 j hj).2.1⟩)
      have en : ∀ j, j ≠ 3 → mCp μ 3 2 47 j = μ j := fun j hj => mCp_ne μ 3 2 hj 47
      have e0 := en 0 (by decide)
      refine ⟨by rw [show (47 : Int).toNat = 47 from rfl, en 2 (by decide)], en 1 (by decide), en 2 (by decide), e3, en 5 (by decide), en 12 (by decide), rfl, ?_, ?_, fun j hj => ?_⟩
      · show mCp μ 3 2 47 0 7 = μ 0 7
        rw [e0]
      · show mCp μ 3 2 47 0 22 = μ 0 22
        rw [e0]
      · show mCp μ 3 2 47 4 j = 0 ∧ mCp μ 3 2 47 10 j = 0
        rw [en 4 (by decide), en 10 (by decide)]
        exact (hG.2.1 j hj).2.2
    · refine x_aload_n (i := 0) dX6_image_8 rfl rfl ?_
      refine x_getR xf_RX6_16 dX6_image_9 rfl rfl ?_
      refine x_iload_n (i := 1) dX6_image_12 rfl rfl ?_
      refine x_aload_n (i := 0) dX6_image_13 rfl rfl ?_
      refine x_getR xf_RX6_13 dX6_image_14 rfl rfl ?_
      refine x_iload_n (i := 1) dX6_image_17 rfl rfl ?_
      refine x_iald dX6_image_18 rfl (by decide) (by first | omega | decide) (by first | omega | decide) ?_
      refine x_iast dX6_image_19 rfl (by decide) (by first | omega | decide) (by first | omega | decide) ?_
      refine x_iinc_1 dX6_image_20 (by decide) rfl ?_
      refine x_goto (tgt := 2) dX6_image_23 (by decide) ?_
      have h := ih (p + 1) (by omega) (by omega) (by omega)
      rw [mCp_s _ _ _ hp] at h
      rw [e]
      exact h
set_option maxRecDepth 100000 in
set_option maxHeartbeats 4000000 in
theorem s6_image (μ : xM) (hG : GI μ) : X E0 shM 0 yX6_image cX6_image 2 (some .int) 0 [some (.inr (.inl 0)), none] [] μ (PQ (μ 2 1) (x_st (fun k => if k = 3 then μ 2 else μ k) 0 4 1)) := by
  refine x_iconst dX6_image_0 ?_
  refine x_istore_1 dX6_image_1 (by decide) rfl ?_
  exact l6_image μ hG 48 0 (by omega) (by omega) (by omega)
set_option maxRecDepth 100000 in
set_option maxHeartbeats 4000000 in
theorem l6_on (μ : xM) (hG : GI μ) : ∀ (n : Nat) (p : Int), 0 ≤ p → p ≤ 47 → (47 - p).toNat < n → X E0 shM 2 yX6_on cX6_on 2 (some .int) 16 [some (.inr (.inl 0)), some (.inl p)] [] (mCp μ 2 3 p.toNat) (PQ (μ 3 1) (fun k => if k = 2 then μ 3 else μ k)) := by
  intro n
  induction n with
  | zero => intro p _ _ h; omega
  | succ n ih =>
    intro p hp hp2 hn
    have e := mCp_ne μ 2 3 (j := 3) (by decide) p.toNat
    refine x_iload_n (i := 1) dX6_on_16 rfl rfl ?_
    refine x_bipush dX6_on_17 (by decide) ?_
    refine x_icmp_ge (tgt := 40) dX6_on_19 (by decide) (by first | (unfold x_in; omega) | (unfold x_in; decide)) (by first | (unfold x_in; omega) | (unfold x_in; decide)) (fun c1 => ?_) (fun c1 => ?_)
    · refine x_aload_n (i := 0) dX6_on_40 rfl rfl ?_
      refine x_getR xf_RX6_13 dX6_on_41 rfl rfl ?_
      refine x_iconst dX6_on_44 ?_
      refine x_ialdK (K := 1) dX6_on_45 rfl rfl (by decide) (by decide) ?_
      refine x_iret dX6_on_46 rfl rfl ?_
      have ep : p = 47 := by omega
      subst ep
      have e3 : mCp μ 2 3 47 2 = μ 3 := mCp_all (fun j hj => ⟨(hG.2.1 j hj).2.1, (hG.2.1 j hj).1⟩)
      have en : ∀ j, j ≠ 2 → mCp μ 2 3 47 j = μ j := fun j hj => mCp_ne μ 2 3 hj 47
      have e0 := en 0 (by decide)
      refine ⟨by rw [show (47 : Int).toNat = 47 from rfl, e3], en 1 (by decide), e3, en 3 (by decide), en 5 (by decide), en 12 (by decide), ?_, ?_, ?_, fun j hj => ?_⟩
      · show mCp μ 2 3 47 0 4 = μ 0 4
        rw [e0]
      · show mCp μ 2 3 47 0 7 = μ 0 7
        rw [e0]
      · show mCp μ 2 3 47 0 22 = μ 0 22
        rw [e0]
      · show mCp μ 2 3 47 4 j = 0 ∧ mCp μ 2 3 47 10 j = 0
        rw [en 4 (by decide), en 10 (by decide)]
        exact (hG.2.1 j hj).2.2
    · refine x_aload_n (i := 0) dX6_on_22 rfl rfl ?_
      refine x_getR xf_RX6_13 dX6_on_23 rfl rfl ?_
      refine x_iload_n (i := 1) dX6_on_26 rfl rfl ?_
      refine x_aload_n (i := 0) dX6_on_27 rfl rfl ?_
      refine x_getR xf_RX6_16 dX6_on_28 rfl rfl ?_
      refine x_iload_n (i := 1) dX6_on_31 rfl rfl ?_
      refine x_iald dX6_on_32 rfl (by decide) (by first | omega | decide) (by first | omega | decide) ?_
      refine x_iast dX6_on_33 rfl (by decide) (by first | omega | decide) (by first | omega | decide) ?_
      refine x_iinc_1 dX6_on_34 (by decide) rfl ?_
      refine x_goto (tgt := 16) dX6_on_37 (by decide) ?_
      have h := ih (p + 1) (by omega) (by omega) (by omega)
      rw [mCp_s _ _ _ hp] at h
      rw [e]
      exact h
set_option maxRecDepth 100000 in
set_option maxHeartbeats 4000000 in
theorem s6_on (μ : xM) (hG : GI μ) : X E0 shM 2 yX6_on cX6_on 2 (some .int) 0 [some (.inr (.inl 0)), none] [] μ (PQ (if μ 0 4 = 0 then -3 else μ 3 1) (if μ 0 4 = 0 then mRef μ (-3) else (fun k => if k = 2 then μ 3 else μ k))) := by
  have h4 : μ 0 4 = 0 ∨ μ 0 4 = 1 := hG.2.2.2.2.2.2.imp_right And.left
  refine x_aload_n (i := 0) dX6_on_0 rfl rfl ?_
  refine x_getI xf_RX6_214 dX6_on_1 rfl rfl ?_
  refine x_if_ne (tgt := 14) dX6_on_4 (by decide) (by first | (unfold x_in; omega) | (unfold x_in; decide)) (fun c1 => ?_) (fun c1 => ?_)
  · refine x_iconst dX6_on_14 ?_
    refine x_istore_1 dX6_on_15 (by decide) rfl ?_
    rw [if_neg c1, if_neg c1]
    exact l6_on μ hG 48 0 (by omega) (by omega) (by omega)
  · refine x_aload_n (i := 0) dX6_on_7 rfl rfl ?_
    refine x_bipush dX6_on_8 (by decide) ?_
    refine x_cIf0_1 lk_RX6_50 xm_X6_refuse dX6_on_10 (s6_refuse _ (by decide) _) ?_
    refine x_iret dX6_on_13 rfl rfl ?_
    exact ⟨by rw [if_pos c1], by rw [if_pos c1]; exact Abs.ref hG _⟩
set_option maxRecDepth 100000 in
set_option maxHeartbeats 4000000 in
theorem s6_row (w : Int) (hw : x_in w) (μ : xM) (hG : GI μ) : X E0 shM 2 yX6_row cX6_row 3 (some .int) 0 [some (.inr (.inl 0)), some (.inl w), none] [] μ (PQ (if mWithin w 0 9 = 0 then (if μ 0 22 = 16 then -6 else μ 0 22 + 1) else mWithin w 0 9) (if mWithin w 0 9 = 0 then (if μ 0 22 = 16 then mRef μ (-6) else x_st (x_st μ 12 (μ 0 22).toNat w) 0 22 (μ 0 22 + 1)) else mRef μ (mWithin w 0 9))) := by
  have hww := mWithin_in w 0 9
  have h22 := hG.2.2.2.2.1
  refine x_iload_n (i := 1) dX6_row_0 rfl rfl ?_
  refine x_iconst dX6_row_1 ?_
  refine x_bipush dX6_row_2 (by decide) ?_
  refine x_cS_3 lk_RX6_99 xm_X6_within dX6_row_4 (s6_within _ _ _ hw (by unfold x_in; decide) (by unfold x_in; decide) _) ?_
  refine x_istore_2 dX6_row_7 (by decide) rfl ?_
  refine x_iload_n (i := 2) dX6_row_8 rfl rfl ?_
  refine x_if_ne (tgt := 24) dX6_row_9 (by decide) (by first | (unfold x_in; omega) | (unfold x_in; decide)) (fun c1 => ?_) (fun c1 => ?_)
  · refine x_iload_n (i := 2) dX6_row_24 rfl rfl ?_
    refine x_if_eq (tgt := 34) dX6_row_25 (by decide) (by first | (unfold x_in; omega) | (unfold x_in; decide)) (fun c2 => ?_) (fun c2 => ?_)
    · refine x_aload_n (i := 0) dX6_row_34 rfl rfl ?_
      refine x_getR xf_RX6_43 dX6_row_35 rfl rfl ?_
      refine x_aload_n (i := 0) dX6_row_38 rfl rfl ?_
      refine x_getI xf_RX6_207 dX6_row_39 rfl rfl ?_
      refine x_iload_n (i := 1) dX6_row_42 rfl rfl ?_
      refine x_iast dX6_row_43 rfl (by decide) (by first | omega | decide) (by first | omega | decide) ?_
      refine x_aload_n (i := 0) dX6_row_44 rfl rfl ?_
      first | refine x_dupR dX6_row_45 ?_ | refine x_dupI dX6_row_45 ?_
      refine x_getI xf_RX6_207 dX6_row_46 rfl rfl ?_
      try simp (decide := true) only [x_st_at, ↓reduceIte, if_true, if_false]
      refine x_iconst dX6_row_49 ?_
      refine x_iadd dX6_row_50 ?_
      refine x_putI xp_RX6_207 dX6_row_51 rfl rfl ?_
      refine x_aload_n (i := 0) dX6_row_54 rfl rfl ?_
      refine x_getI xf_RX6_207 dX6_row_55 rfl rfl ?_
      try simp (decide := true) only [x_st_at, ↓reduceIte, if_true, if_false]
      refine x_iret dX6_row_58 rfl rfl ?_
      first | (exfalso; omega) | (exact ⟨by rw [if_neg c1], by rw [if_neg c1]; exact Abs.ref hG _⟩) | (exact ⟨by rw [if_pos c1, if_pos c2], by rw [if_pos c1, if_pos c2]; exact Abs.ref hG _⟩) | (exact ⟨by rw [if_pos c1, if_neg c2], by rw [if_pos c1, if_neg c2]; exact ⟨rfl, rfl, rfl, rfl, rfl, rfl, rfl, rfl, fun j hj => (hG.2.1 j hj).2.2⟩⟩)
    · refine x_aload_n (i := 0) dX6_row_28 rfl rfl ?_
      refine x_iload_n (i := 2) dX6_row_29 rfl rfl ?_
      refine x_cIf0_1 lk_RX6_50 xm_X6_refuse dX6_row_30 (s6_refuse _ (by omega) _) ?_
      refine x_iret dX6_row_33 rfl rfl ?_
      first | (exfalso; omega) | (exact ⟨by rw [if_neg c1], by rw [if_neg c1]; exact Abs.ref hG _⟩) | (exact ⟨by rw [if_pos c1, if_pos c2], by rw [if_pos c1, if_pos c2]; exact Abs.ref hG _⟩) | (exact ⟨by rw [if_pos c1, if_neg c2], by rw [if_pos c1, if_neg c2]; exact ⟨rfl, rfl, rfl, rfl, rfl, rfl, rfl, rfl, fun j hj => (hG.2.1 j hj).2.2⟩⟩)
  · refine x_aload_n (i := 0) dX6_row_12 rfl rfl ?_
    refine x_getI xf_RX6_207 dX6_row_13 rfl rfl ?_
    refine x_bipush dX6_row_16 (by decide) ?_
    refine x_icmp_ne (tgt := 24) dX6_row_18 (by decide) (by first | (unfold x_in; omega) | (unfold x_in; decide)) (by first | (unfold x_in; omega) | (unfold x_in; decide)) (fun c2 => ?_) (fun c2 => ?_)
    · refine x_iload_n (i := 2) dX6_row_24 rfl rfl ?_
      refine x_if_eq (tgt := 34) dX6_row_25 (by decide) (by first | (unfold x_in; omega) | (unfold x_in; decide)) (fun c3 => ?_) (fun c3 => ?_)
      · refine x_aload_n (i := 0) dX6_row_34 rfl rfl ?_
        refine x_getR xf_RX6_43 dX6_row_35 rfl rfl ?_
        refine x_aload_n (i := 0) dX6_row_38 rfl rfl ?_
        refine x_getI xf_RX6_207 dX6_row_39 rfl rfl ?_
        refine x_iload_n (i := 1) dX6_row_42 rfl rfl ?_
        refine x_iast dX6_row_43 rfl (by decide) (by first | omega | decide) (by first | omega | decide) ?_
        refine x_aload_n (i := 0) dX6_row_44 rfl rfl ?_
        first | refine x_dupR dX6_row_45 ?_ | refine x_dupI dX6_row_45 ?_
        refine x_getI xf_RX6_207 dX6_row_46 rfl rfl ?_
        try simp (decide := true) only [x_st_at, ↓reduceIte, if_true, if_false]
        refine x_iconst dX6_row_49 ?_
        refine x_iadd dX6_row_50 ?_
        refine x_putI xp_RX6_207 dX6_row_51 rfl rfl ?_
        refine x_aload_n (i := 0) dX6_row_54 rfl rfl ?_
        refine x_getI xf_RX6_207 dX6_row_55 rfl rfl ?_
        try simp (decide := true) only [x_st_at, ↓reduceIte, if_true, if_false]
        refine x_iret dX6_row_58 rfl rfl ?_
        first | (exfalso; omega) | (exact ⟨by rw [if_neg c1], by rw [if_neg c1]; exact Abs.ref hG _⟩) | (exact ⟨by rw [if_pos c1, if_pos c2], by rw [if_pos c1, if_pos c2]; exact Abs.ref hG _⟩) | (exact ⟨by rw [if_pos c1, if_neg c2], by rw [if_pos c1, if_neg c2]; exact ⟨rfl, rfl, rfl, rfl, rfl, rfl, rfl, rfl, fun j hj => (hG.2.1 j hj).2.2⟩⟩)
      · refine x_aload_n (i := 0) dX6_row_28 rfl rfl ?_
        refine x_iload_n (i := 2) dX6_row_29 rfl rfl ?_
        refine x_cIf0_1 lk_RX6_50 xm_X6_refuse dX6_row_30 (s6_refuse _ (by omega) _) ?_
        refine x_iret dX6_row_33 rfl rfl ?_
        first | (exfalso; omega) | (exact ⟨by rw [if_neg c1], by rw [if_neg c1]; exact Abs.ref hG _⟩) | (exact ⟨by rw [if_pos c1, if_pos c2], by rw [if_pos c1, if_pos c2]; exact Abs.ref hG _⟩) | (exact ⟨by rw [if_pos c1, if_neg c2], by rw [if_pos c1, if_neg c2]; exact ⟨rfl, rfl, rfl, rfl, rfl, rfl, rfl, rfl, fun j hj => (hG.2.1 j hj).2.2⟩⟩)
    · refine x_bipush dX6_row_21 (by decide) ?_
      refine x_istore_2 dX6_row_23 (by decide) rfl ?_
      refine x_iload_n (i := 2) dX6_row_24 rfl rfl ?_
      refine x_if_eq (tgt := 34) dX6_row_25 (by decide) (by first | (unfold x_in; omega) | (unfold x_in; decide)) (fun c3 => ?_) (fun c3 => ?_)
      · refine x_aload_n (i := 0) dX6_row_34 rfl rfl ?_
        refine x_getR xf_RX6_43 dX6_row_35 rfl rfl ?_
        refine x_aload_n (i := 0) dX6_row_38 rfl rfl ?_
        refine x_getI xf_RX6_207 dX6_row_39 rfl rfl ?_
        refine x_iload_n (i := 1) dX6_row_42 rfl rfl ?_
        refine x_iast dX6_row_43 rfl (by decide) (by first | omega | decide) (by first | omega | decide) ?_
        refine x_aload_n (i := 0) dX6_row_44 rfl rfl ?_
        first | refine x_dupR dX6_row_45 ?_ | refine x_dupI dX6_row_45 ?_
        refine x_getI xf_RX6_207 dX6_row_46 rfl rfl ?_
        try simp (decide := true) only [x_st_at, ↓reduceIte, if_true, if_false]
        refine x_iconst dX6_row_49 ?_
        refine x_iadd dX6_row_50 ?_
        refine x_putI xp_RX6_207 dX6_row_51 rfl rfl ?_
        refine x_aload_n (i := 0) dX6_row_54 rfl rfl ?_
        refine x_getI xf_RX6_207 dX6_row_55 rfl rfl ?_
        try simp (decide := true) only [x_st_at, ↓reduceIte, if_true, if_false]
        refine x_iret dX6_row_58 rfl rfl ?_
        first | (exfalso; omega) | (exact ⟨by rw [if_neg c1], by rw [if_neg c1]; exact Abs.ref hG _⟩) | (exact ⟨by rw [if_pos c1, if_pos c2], by rw [if_pos c1, if_pos c2]; exact Abs.ref hG _⟩) | (exact ⟨by rw [if_pos c1, if_neg c2], by rw [if_pos c1, if_neg c2]; exact ⟨rfl, rfl, rfl, rfl, rfl, rfl, rfl, rfl, fun j hj => (hG.2.1 j hj).2.2⟩⟩)
      · refine x_aload_n (i := 0) dX6_row_28 rfl rfl ?_
        refine x_iload_n (i := 2) dX6_row_29 rfl rfl ?_
        refine x_cIf0_1 lk_RX6_50 xm_X6_refuse dX6_row_30 (s6_refuse _ (by omega) _) ?_
        refine x_iret dX6_row_33 rfl rfl ?_
        first | (exfalso; omega) | (exact ⟨by rw [if_neg c1], by rw [if_neg c1]; exact Abs.ref hG _⟩) | (exact ⟨by rw [if_pos c1, if_pos c2], by rw [if_pos c1, if_pos c2]; exact Abs.ref hG _⟩) | (exact ⟨by rw [if_pos c1, if_neg c2], by rw [if_pos c1, if_neg c2]; exact ⟨rfl, rfl, rfl, rfl, rfl, rfl, rfl, rfl, fun j hj => (hG.2.1 j hj).2.2⟩⟩)
set_option maxRecDepth 100000 in
set_option maxHeartbeats 4000000 in
theorem l6_count (ν μ : xM) (w : Int) (hI : MI (μ 2)) (hS : Same μ ν) (hb : ∀ t : Int, 0 ≤ t → t < 8 → ν 9 t.toNat = dBeg (μ 2) t) : ∀ (n : Nat) (p : Int), 0 ≤ p → p ≤ ν 2 1 → (ν 2 1 - p).toNat < n → X E0 shM 7 yX6_count cX6_count 4 (some .int) 90 [some (.inr (.inl 0)), some (.inl w), some (.inl (dCntN (μ 2) p.toNat)), some (.inl p)] [] ν (fun r μ' => r = some (.inl (dCnt (μ 2))) ∧ Same μ μ') := by
  have h10 := hI.2.1
  have e2 := hS.two
  have e21 : ν 2 1 = μ 2 1 := by rw [e2]
  intro n
  induction n with
  | zero => intro p _ _ h; omega
  | succ n ih =>
    intro p hp hp2 hn
    refine x_iload_n (i := 3) dX6_count_90 rfl rfl ?_
    refine x_aload_n (i := 0) dX6_count_91 rfl rfl ?_
    refine x_getR xf_RX6_13 dX6_count_92 rfl rfl ?_
    refine x_iconst dX6_count_95 ?_
    refine x_ialdK (K := 1) dX6_count_96 rfl rfl (by decide) (by decide) ?_
    refine x_icmp_ge (tgt := 123) dX6_count_97 (by decide) (by first | (unfold x_in; omega) | (unfold x_in; decide)) (by first | (unfold x_in; omega) | (unfold x_in; decide)) (fun c1 => ?_) (fun c1 => ?_)
    · refine x_iload_n (i := 2) dX6_count_123 rfl rfl ?_
      refine x_iret dX6_count_124 rfl rfl ?_
      exact ⟨by rw [show p = μ 2 1 by omega]; rfl, hS⟩
    · refine x_iload_n (i := 2) dX6_count_100 rfl rfl ?_
      refine x_aload_n (i := 0) dX6_count_101 rfl rfl ?_
      refine x_getR xf_RX6_34 dX6_count_102 rfl rfl ?_
      refine x_iload_n (i := 3) dX6_count_105 rfl rfl ?_
      refine x_iald dX6_count_106 rfl (by decide) (by first | omega | decide) (by first | omega | decide) ?_
      have hy := hb p hp (by omega)
      have hz := dBeg_in hI hp (t := p) (by omega)
      rw [hy]
      refine x_if_lt (tgt := 114) dX6_count_107 (by decide) (by first | (unfold x_in; omega) | (unfold x_in; decide)) (fun c2 => ?_) (fun c2 => ?_)
      · refine x_iconst dX6_count_114 ?_
        refine x_iadd dX6_count_115 ?_
        refine x_istore_2 dX6_count_116 (by decide) rfl ?_
        refine x_iinc_3 dX6_count_117 (by decide) rfl ?_
        refine x_goto (tgt := 90) dX6_count_120 (by decide) ?_
        have h := ih (p + 1) (by omega) (by omega) (by omega)
        rw [dCnt_s _ hp] at h
        first | (rw [if_pos c2] at h; exact h) | (rw [if_neg (by omega)] at h; exact h)
      · refine x_iconst dX6_count_110 ?_
        refine x_goto (tgt := 115) dX6_count_111 (by decide) ?_
        refine x_iadd dX6_count_115 ?_
        refine x_istore_2 dX6_count_116 (by decide) rfl ?_
        refine x_iinc_3 dX6_count_117 (by decide) rfl ?_
        refine x_goto (tgt := 90) dX6_count_120 (by decide) ?_
        have h := ih (p + 1) (by omega) (by omega) (by omega)
        rw [dCnt_s _ hp] at h
        first | (rw [if_pos c2] at h; exact h) | (rw [if_neg (by omega)] at h; exact h)
def dCount (μ : xM) (w : Int) : Int := if 10 < w ∧ w < 17 then μ 1 (w - 10).toNat else if w = 0 ∨ w = 1 ∨ w = 2 then μ 2 w.toNat else if w = 3 then mSing (μ 2) else if w = 4 then dCnt (μ 2) else if w = 5 then μ 2 3 else if w = 6 then μ 0 22 else if w = 7 then μ 0 7 else -9
set_option maxRecDepth 100000 in
set_option maxHeartbeats 4000000 in
theorem s6_count (w : Int) (hw : x_in w) (μ : xM) (hG : GI μ) : X E0 shM 7 yX6_count cX6_count 4 (some .int) 0 [some (.inr (.inl 0)), some (.inl w), none, none] [] μ (PQ (dCount μ w) μ) := by
  have hI := hG.1
  have h10 := hI.2.1
  have hS := mDay_S μ
  have h2 := mDay_2 μ
  have hw2 := hw
  unfold x_in at hw2
  refine x_iload_n (i := 1) dX6_count_0 rfl rfl ?_
  refine x_bipush dX6_count_1 (by decide) ?_
  refine x_icmp_le (tgt := 22) dX6_count_3 (by decide) (by first | (unfold x_in; omega) | (unfold x_in; decide)) (by first | (unfold x_in; omega) | (unfold x_in; decide)) (fun c1 => ?_) (fun c1 => ?_)
  · refine x_iconst dX6_count_22 ?_
    refine x_istore_2 dX6_count_23 (by decide) rfl ?_
    refine x_iload_n (i := 1) dX6_count_24 rfl rfl ?_
    refine x_tab8 (td := 142) (t0 := 72) (t1 := 72) (t2 := 72) (t3 := 79) (t4 := 84) (t5 := 125) (t6 := 132) (t7 := 137) dX6_count_25 (by first | (unfold x_in; omega) | (unfold x_in; decide)) (by decide) (by decide) (by decide) (by decide) (by decide) (by decide) (by decide) (by decide) (by decide) (by decide) (fun c2 => ?_) (fun c2 => ?_) (fun c2 => ?_) (fun c2 => ?_) (fun c2 => ?_) (fun c2 => ?_) (fun c2 => ?_) (fun c2 => ?_) (fun c2 => ?_)
    · refine x_aload_n (i := 0) dX6_count_72 rfl rfl ?_
      refine x_getR xf_RX6_13 dX6_count_73 rfl rfl ?_
      refine x_iload_n (i := 1) dX6_count_76 rfl rfl ?_
      refine x_iald dX6_count_77 rfl (by decide) (by first | omega | decide) (by first | omega | decide) ?_
      refine x_iret dX6_count_78 rfl rfl ?_
      refine ⟨?_, Abs.rfl' hG⟩
      unfold dCount
      first | (exfalso; omega) | rw [if_pos (by omega)] | (rw [if_neg (by omega), if_pos (by omega)]) | (rw [if_neg (by omega), if_neg (by omega), if_pos (by omega)]) | (rw [if_neg (by omega), if_neg (by omega), if_neg (by omega), if_neg (by omega), if_pos (by omega)]) | (rw [if_neg (by omega), if_neg (by omega), if_neg (by omega), if_neg (by omega), if_neg (by omega), if_pos (by omega)]) | (rw [if_neg (by omega), if_neg (by omega), if_neg (by omega), if_neg (by omega), if_neg (by omega), if_neg (by omega), if_pos (by omega)]) | (rw [if_neg (by omega), if_neg (by omega), if_neg (by omega), if_neg (by omega), if_neg (by omega), if_neg (by omega), if_neg (by omega)])
    · refine x_aload_n (i := 0) dX6_count_72 rfl rfl ?_
      refine x_getR xf_RX6_13 dX6_count_73 rfl rfl ?_
      refine x_iload_n (i := 1) dX6_count_76 rfl rfl ?_
      refine x_iald dX6_count_77 rfl (by decide) (by first | omega | decide) (by first | omega | decide) ?_
      refine x_iret dX6_count_78 rfl rfl ?_
      refine ⟨?_, Abs.rfl' hG⟩
      unfold dCount
      first | (exfalso; omega) | rw [if_pos (by omega)] | (rw [if_neg (by omega), if_pos (by omega)]) | (rw [if_neg (by omega), if_neg (by omega), if_pos (by omega)]) | (rw [if_neg (by omega), if_neg (by omega), if_neg (by omega), if_neg (by omega), if_pos (by omega)]) | (rw [if_neg (by omega), if_neg (by omega), if_neg (by omega), if_neg (by omega), if_neg (by omega), if_pos (by omega)]) | (rw [if_neg (by omega), if_neg (by omega), if_neg (by omega), if_neg (by omega), if_neg (by omega), if_neg (by omega), if_pos (by omega)]) | (rw [if_neg (by omega), if_neg (by omega), if_neg (by omega), if_neg (by omega), if_neg (by omega), if_neg (by omega), if_neg (by omega)])
    · refine x_aload_n (i := 0) dX6_count_72 rfl rfl ?_
      refine x_getR xf_RX6_13 dX6_count_73 rfl rfl ?_
      refine x_iload_n (i := 1) dX6_count_76 rfl rfl ?_
      refine x_iald dX6_count_77 rfl (by decide) (by first | omega | decide) (by first | omega | decide) ?_
      refine x_iret dX6_count_78 rfl rfl ?_
      refine ⟨?_, Abs.rfl' hG⟩
      unfold dCount
      first | (exfalso; omega) | rw [if_pos (by omega)] | (rw [if_neg (by omega), if_pos (by omega)]) | (rw [if_neg (by omega), if_neg (by omega), if_pos (by omega)]) | (rw [if_neg (by omega), if_neg (by omega), if_neg (by omega), if_neg (by omega), if_pos (by omega)]) | (rw [if_neg (by omega), if_neg (by omega), if_neg (by omega), if_neg (by omega), if_neg (by omega), if_pos (by omega)]) | (rw [if_neg (by omega), if_neg (by omega), if_neg (by omega), if_neg (by omega), if_neg (by omega), if_neg (by omega), if_pos (by omega)]) | (rw [if_neg (by omega), if_neg (by omega), if_neg (by omega), if_neg (by omega), if_neg (by omega), if_neg (by omega), if_neg (by omega)])
    · refine x_aload_n (i := 0) dX6_count_79 rfl rfl ?_
      refine x_cIp0_0 lk_RX6_139 xm_X6_singles dX6_count_80 (s6_singles _ hI) ?_
      refine x_iret dX6_count_83 rfl rfl ?_
      refine ⟨?_, Abs.rfl' hG⟩
      unfold dCount
      first | (exfalso; omega) | rw [if_pos (by omega)] | (rw [if_neg (by omega), if_pos (by omega)]) | (rw [if_neg (by omega), if_neg (by omega), if_pos (by omega)]) | (rw [if_neg (by omega), if_neg (by omega), if_neg (by omega), if_neg (by omega), if_pos (by omega)]) | (rw [if_neg (by omega), if_neg (by omega), if_neg (by omega), if_neg (by omega), if_neg (by omega), if_pos (by omega)]) | (rw [if_neg (by omega), if_neg (by omega), if_neg (by omega), if_neg (by omega), if_neg (by omega), if_neg (by omega), if_pos (by omega)]) | (rw [if_neg (by omega), if_neg (by omega), if_neg (by omega), if_neg (by omega), if_neg (by omega), if_neg (by omega), if_neg (by omega)])
    · refine x_aload_n (i := 0) dX6_count_84 rfl rfl ?_
      refine x_cVf0_0 lk_RX6_186 xm_X6_day dX6_count_85 (s6_day _ hI) ?_
      refine x_iconst dX6_count_88 ?_
      refine x_istore_3 dX6_count_89 (by decide) rfl ?_
      refine (l6_count (mDay μ) μ w hI hS (fun t t0 t8 => mDay_beg hI t0 t8) _ 0 (by omega) (by rw [h2]; omega) (Nat.lt_succ_self _)).mono (fun r m q => ⟨?_, q.2.abs hG⟩)
      rw [q.1]
      have hw4 : w = 4 := by omega
      subst hw4
      rfl
    · refine x_aload_n (i := 0) dX6_count_125 rfl rfl ?_
      refine x_getR xf_RX6_13 dX6_count_126 rfl rfl ?_
      refine x_iconst dX6_count_129 ?_
      refine x_ialdK (K := 3) dX6_count_130 rfl rfl (by decide) (by decide) ?_
      refine x_iret dX6_count_131 rfl rfl ?_
      refine ⟨?_, Abs.rfl' hG⟩
      unfold dCount
      first | (exfalso; omega) | rw [if_pos (by omega)] | (rw [if_neg (by omega), if_pos (by omega)]) | (rw [if_neg (by omega), if_neg (by omega), if_pos (by omega)]) | (rw [if_neg (by omega), if_neg (by omega), if_neg (by omega), if_neg (by omega), if_pos (by omega)]) | (rw [if_neg (by omega), if_neg (by omega), if_neg (by omega), if_neg (by omega), if_neg (by omega), if_pos (by omega)]) | (rw [if_neg (by omega), if_neg (by omega), if_neg (by omega), if_neg (by omega), if_neg (by omega), if_neg (by omega), if_pos (by omega)]) | (rw [if_neg (by omega), if_neg (by omega), if_neg (by omega), if_neg (by omega), if_neg (by omega), if_neg (by omega), if_neg (by omega)])
    · refine x_aload_n (i := 0) dX6_count_132 rfl rfl ?_
      refine x_getI xf_RX6_207 dX6_count_133 rfl rfl ?_
      refine x_iret dX6_count_136 rfl rfl ?_
      refine ⟨?_, Abs.rfl' hG⟩
      unfold dCount
      first | (exfalso; omega) | rw [if_pos (by omega)] | (rw [if_neg (by omega), if_pos (by omega)]) | (rw [if_neg (by omega), if_neg (by omega), if_pos (by omega)]) | (rw [if_neg (by omega), if_neg (by omega), if_neg (by omega), if_neg (by omega), if_pos (by omega)]) | (rw [if_neg (by omega), if_neg (by omega), if_neg (by omega), if_neg (by omega), if_neg (by omega), if_pos (by omega)]) | (rw [if_neg (by omega), if_neg (by omega), if_neg (by omega), if_neg (by omega), if_neg (by omega), if_neg (by omega), if_pos (by omega)]) | (rw [if_neg (by omega), if_neg (by omega), if_neg (by omega), if_neg (by omega), if_neg (by omega), if_neg (by omega), if_neg (by omega)])
    · refine x_aload_n (i := 0) dX6_count_137 rfl rfl ?_
      refine x_getI xf_RX6_54 dX6_count_138 rfl rfl ?_
      refine x_iret dX6_count_141 rfl rfl ?_
      refine ⟨?_, Abs.rfl' hG⟩
      unfold dCount
      first | (exfalso; omega) | rw [if_pos (by omega)] | (rw [if_neg (by omega), if_pos (by omega)]) | (rw [if_neg (by omega), if_neg (by omega), if_pos (by omega)]) | (rw [if_neg (by omega), if_neg (by omega), if_neg (by omega), if_neg (by omega), if_pos (by omega)]) | (rw [if_neg (by omega), if_neg (by omega), if_neg (by omega), if_neg (by omega), if_neg (by omega), if_pos (by omega)]) | (rw [if_neg (by omega), if_neg (by omega), if_neg (by omega), if_neg (by omega), if_neg (by omega), if_neg (by omega), if_pos (by omega)]) | (rw [if_neg (by omega), if_neg (by omega), if_neg (by omega), if_neg (by omega), if_neg (by omega), if_neg (by omega), if_neg (by omega)])
    · refine x_bipush dX6_count_142 (by decide) ?_
      refine x_iret dX6_count_144 rfl rfl ?_
      refine ⟨?_, Abs.rfl' hG⟩
      unfold dCount
      first | (exfalso; omega) | rw [if_pos (by omega)] | (rw [if_neg (by omega), if_pos (by omega)]) | (rw [if_neg (by omega), if_neg (by omega), if_pos (by omega)]) | (rw [if_neg (by omega), if_neg (by omega), if_neg (by omega), if_neg (by omega), if_pos (by omega)]) | (rw [if_neg (by omega), if_neg (by omega), if_neg (by omega), if_neg (by omega), if_neg (by omega), if_pos (by omega)]) | (rw [if_neg (by omega), if_neg (by omega), if_neg (by omega), if_neg (by omega), if_neg (by omega), if_neg (by omega), if_pos (by omega)]) | (rw [if_neg (by omega), if_neg (by omega), if_neg (by omega), if_neg (by omega), if_neg (by omega), if_neg (by omega), if_neg (by omega)])
  · refine x_iload_n (i := 1) dX6_count_6 rfl rfl ?_
    refine x_bipush dX6_count_7 (by decide) ?_
    refine x_icmp_ge (tgt := 22) dX6_count_9 (by decide) (by first | (unfold x_in; omega) | (unfold x_in; decide)) (by first | (unfold x_in; omega) | (unfold x_in; decide)) (fun c2 => ?_) (fun c2 => ?_)
    · refine x_iconst dX6_count_22 ?_
      refine x_istore_2 dX6_count_23 (by decide) rfl ?_
      refine x_iload_n (i := 1) dX6_count_24 rfl rfl ?_
      refine x_tab8 (td := 142) (t0 := 72) (t1 := 72) (t2 := 72) (t3 := 79) (t4 := 84) (t5 := 125) (t6 := 132) (t7 := 137) dX6_count_25 (by first | (unfold x_in; omega) | (unfold x_in; decide)) (by decide) (by decide) (by decide) (by decide) (by decide) (by decide) (by decide) (by decide) (by decide) (by decide) (fun c3 => ?_) (fun c3 => ?_) (fun c3 => ?_) (fun c3 => ?_) (fun c3 => ?_) (fun c3 => ?_) (fun c3 => ?_) (fun c3 => ?_) (fun c3 => ?_)
      · refine x_aload_n (i := 0) dX6_count_72 rfl rfl ?_
        refine x_getR xf_RX6_13 dX6_count_73 rfl rfl ?_
        refine x_iload_n (i := 1) dX6_count_76 rfl rfl ?_
        refine x_iald dX6_count_77 rfl (by decide) (by first | omega | decide) (by first | omega | decide) ?_
        refine x_iret dX6_count_78 rfl rfl ?_
        refine ⟨?_, Abs.rfl' hG⟩
        unfold dCount
        first | (exfalso; omega) | rw [if_pos (by omega)] | (rw [if_neg (by omega), if_pos (by omega)]) | (rw [if_neg (by omega), if_neg (by omega), if_pos (by omega)]) | (rw [if_neg (by omega), if_neg (by omega), if_neg (by omega), if_neg (by omega), if_pos (by omega)]) | (rw [if_neg (by omega), if_neg (by omega), if_neg (by omega), if_neg (by omega), if_neg (by omega), if_pos (by omega)]) | (rw [if_neg (by omega), if_neg (by omega), if_neg (by omega), if_neg (by omega), if_neg (by omega), if_neg (by omega), if_pos (by omega)]) | (rw [if_neg (by omega), if_neg (by omega), if_neg (by omega), if_neg (by omega), if_neg (by omega), if_neg (by omega), if_neg (by omega)])
      · refine x_aload_n (i := 0) dX6_count_72 rfl rfl ?_
        refine x_getR xf_RX6_13 dX6_count_73 rfl rfl ?_
        refine x_iload_n (i := 1) dX6_count_76 rfl rfl ?_
        refine x_iald dX6_count_77 rfl (by decide) (by first | omega | decide) (by first | omega | decide) ?_
        refine x_iret dX6_count_78 rfl rfl ?_
        refine ⟨?_, Abs.rfl' hG⟩
        unfold dCount
        first | (exfalso; omega) | rw [if_pos (by omega)] | (rw [if_neg (by omega), if_pos (by omega)]) | (rw [if_neg (by omega), if_neg (by omega), if_pos (by omega)]) | (rw [if_neg (by omega), if_neg (by omega), if_neg (by omega), if_neg (by omega), if_pos (by omega)]) | (rw [if_neg (by omega), if_neg (by omega), if_neg (by omega), if_neg (by omega), if_neg (by omega), if_pos (by omega)]) | (rw [if_neg (by omega), if_neg (by omega), if_neg (by omega), if_neg (by omega), if_neg (by omega), if_neg (by omega), if_pos (by omega)]) | (rw [if_neg (by omega), if_neg (by omega), if_neg (by omega), if_neg (by omega), if_neg (by omega), if_neg (by omega), if_neg (by omega)])
      · refine x_aload_n (i := 0) dX6_count_72 rfl rfl ?_
        refine x_getR xf_RX6_13 dX6_count_73 rfl rfl ?_
        refine x_iload_n (i := 1) dX6_count_76 rfl rfl ?_
        refine x_iald dX6_count_77 rfl (by decide) (by first | omega | decide) (by first | omega | decide) ?_
        refine x_iret dX6_count_78 rfl rfl ?_
        refine ⟨?_, Abs.rfl' hG⟩
        unfold dCount
        first | (exfalso; omega) | rw [if_pos (by omega)] | (rw [if_neg (by omega), if_pos (by omega)]) | (rw [if_neg (by omega), if_neg (by omega), if_pos (by omega)]) | (rw [if_neg (by omega), if_neg (by omega), if_neg (by omega), if_neg (by omega), if_pos (by omega)]) | (rw [if_neg (by omega), if_neg (by omega), if_neg (by omega), if_neg (by omega), if_neg (by omega), if_pos (by omega)]) | (rw [if_neg (by omega), if_neg (by omega), if_neg (by omega), if_neg (by omega), if_neg (by omega), if_neg (by omega), if_pos (by omega)]) | (rw [if_neg (by omega), if_neg (by omega), if_neg (by omega), if_neg (by omega), if_neg (by omega), if_neg (by omega), if_neg (by omega)])
      · refine x_aload_n (i := 0) dX6_count_79 rfl rfl ?_
        refine x_cIp0_0 lk_RX6_139 xm_X6_singles dX6_count_80 (s6_singles _ hI) ?_
        refine x_iret dX6_count_83 rfl rfl ?_
        refine ⟨?_, Abs.rfl' hG⟩
        unfold dCount
        first | (exfalso; omega) | rw [if_pos (by omega)] | (rw [if_neg (by omega), if_pos (by omega)]) | (rw [if_neg (by omega), if_neg (by omega), if_pos (by omega)]) | (rw [if_neg (by omega), if_neg (by omega), if_neg (by omega), if_neg (by omega), if_pos (by omega)]) | (rw [if_neg (by omega), if_neg (by omega), if_neg (by omega), if_neg (by omega), if_neg (by omega), if_pos (by omega)]) | (rw [if_neg (by omega), if_neg (by omega), if_neg (by omega), if_neg (by omega), if_neg (by omega), if_neg (by omega), if_pos (by omega)]) | (rw [if_neg (by omega), if_neg (by omega), if_neg (by omega), if_neg (by omega), if_neg (by omega), if_neg (by omega), if_neg (by omega)])
      · refine x_aload_n (i := 0) dX6_count_84 rfl rfl ?_
        refine x_cVf0_0 lk_RX6_186 xm_X6_day dX6_count_85 (s6_day _ hI) ?_
        refine x_iconst dX6_count_88 ?_
        refine x_istore_3 dX6_count_89 (by decide) rfl ?_
        refine (l6_count (mDay μ) μ w hI hS (fun t t0 t8 => mDay_beg hI t0 t8) _ 0 (by omega) (by rw [h2]; omega) (Nat.lt_succ_self _)).mono (fun r m q => ⟨?_, q.2.abs hG⟩)
        rw [q.1]
        have hw4 : w = 4 := by omega
        subst hw4
        rfl
      · refine x_aload_n (i := 0) dX6_count_125 rfl rfl ?_
        refine x_getR xf_RX6_13 dX6_count_126 rfl rfl ?_
        refine x_iconst dX6_count_129 ?_
        refine x_ialdK (K := 3) dX6_count_130 rfl rfl (by decide) (by decide) ?_
        refine x_iret dX6_count_131 rfl rfl ?_
        refine ⟨?_, Abs.rfl' hG⟩
        unfold dCount
        first | (exfalso; omega) | rw [if_pos (by omega)] | (rw [if_neg (by omega), if_pos (by omega)]) | (rw [if_neg (by omega), if_neg (by omega), if_pos (by omega)]) | (rw [if_neg (by omega), if_neg (by omega), if_neg (by omega), if_neg (by omega), if_pos (by omega)]) | (rw [if_neg (by omega), if_neg (by omega), if_neg (by omega), if_neg (by omega), if_neg (by omega), if_pos (by omega)]) | (rw [if_neg (by omega), if_neg (by omega), if_neg (by omega), if_neg (by omega), if_neg (by omega), if_neg (by omega), if_pos (by omega)]) | (rw [if_neg (by omega), if_neg (by omega), if_neg (by omega), if_neg (by omega), if_neg (by omega), if_neg (by omega), if_neg (by omega)])
      · refine x_aload_n (i := 0) dX6_count_132 rfl rfl ?_
        refine x_getI xf_RX6_207 dX6_count_133 rfl rfl ?_
        refine x_iret dX6_count_136 rfl rfl ?_
        refine ⟨?_, Abs.rfl' hG⟩
        unfold dCount
        first | (exfalso; omega) | rw [if_pos (by omega)] | (rw [if_neg (by omega), if_pos (by omega)]) | (rw [if_neg (by omega), if_neg (by omega), if_pos (by omega)]) | (rw [if_neg (by omega), if_neg (by omega), if_neg (by omega), if_neg (by omega), if_pos (by omega)]) | (rw [if_neg (by omega), if_neg (by omega), if_neg (by omega), if_neg (by omega), if_neg (by omega), if_pos (by omega)]) | (rw [if_neg (by omega), if_neg (by omega), if_neg (by omega), if_neg (by omega), if_neg (by omega), if_neg (by omega), if_pos (by omega)]) | (rw [if_neg (by omega), if_neg (by omega), if_neg (by omega), if_neg (by omega), if_neg (by omega), if_neg (by omega), if_neg (by omega)])
      · refine x_aload_n (i := 0) dX6_count_137 rfl rfl ?_
        refine x_getI xf_RX6_54 dX6_count_138 rfl rfl ?_
        refine x_iret dX6_count_141 rfl rfl ?_
        refine ⟨?_, Abs.rfl' hG⟩
        unfold dCount
        first | (exfalso; omega) | rw [if_pos (by omega)] | (rw [if_neg (by omega), if_pos (by omega)]) | (rw [if_neg (by omega), if_neg (by omega), if_pos (by omega)]) | (rw [if_neg (by omega), if_neg (by omega), if_neg (by omega), if_neg (by omega), if_pos (by omega)]) | (rw [if_neg (by omega), if_neg (by omega), if_neg (by omega), if_neg (by omega), if_neg (by omega), if_pos (by omega)]) | (rw [if_neg (by omega), if_neg (by omega), if_neg (by omega), if_neg (by omega), if_neg (by omega), if_neg (by omega), if_pos (by omega)]) | (rw [if_neg (by omega), if_neg (by omega), if_neg (by omega), if_neg (by omega), if_neg (by omega), if_neg (by omega), if_neg (by omega)])
      · refine x_bipush dX6_count_142 (by decide) ?_
        refine x_iret dX6_count_144 rfl rfl ?_
        refine ⟨?_, Abs.rfl' hG⟩
        unfold dCount
        first | (exfalso; omega) | rw [if_pos (by omega)] | (rw [if_neg (by omega), if_pos (by omega)]) | (rw [if_neg (by omega), if_neg (by omega), if_pos (by omega)]) | (rw [if_neg (by omega), if_neg (by omega), if_neg (by omega), if_neg (by omega), if_pos (by omega)]) | (rw [if_neg (by omega), if_neg (by omega), if_neg (by omega), if_neg (by omega), if_neg (by omega), if_pos (by omega)]) | (rw [if_neg (by omega), if_neg (by omega), if_neg (by omega), if_neg (by omega), if_neg (by omega), if_neg (by omega), if_pos (by omega)]) | (rw [if_neg (by omega), if_neg (by omega), if_neg (by omega), if_neg (by omega), if_neg (by omega), if_neg (by omega), if_neg (by omega)])
    · refine x_aload_n (i := 0) dX6_count_12 rfl rfl ?_
      refine x_getR xf_RX6_7 dX6_count_13 rfl rfl ?_
      refine x_iload_n (i := 1) dX6_count_16 rfl rfl ?_
      refine x_bipush dX6_count_17 (by decide) ?_
      refine x_isub dX6_count_19 ?_
      refine x_iald dX6_count_20 rfl (by decide) (by first | omega | decide) (by first | omega | decide) ?_
      refine x_iret dX6_count_21 rfl rfl ?_
      refine ⟨?_, Abs.rfl' hG⟩
      unfold dCount
      first | (exfalso; omega) | rw [if_pos (by omega)] | (rw [if_neg (by omega), if_pos (by omega)]) | (rw [if_neg (by omega), if_neg (by omega), if_pos (by omega)]) | (rw [if_neg (by omega), if_neg (by omega), if_neg (by omega), if_neg (by omega), if_pos (by omega)]) | (rw [if_neg (by omega), if_neg (by omega), if_neg (by omega), if_neg (by omega), if_neg (by omega), if_pos (by omega)]) | (rw [if_neg (by omega), if_neg (by omega), if_neg (by omega), if_neg (by omega), if_neg (by omega), if_neg (by omega), if_pos (by omega)]) | (rw [if_neg (by omega), if_neg (by omega), if_neg (by omega), if_neg (by omega), if_neg (by omega), if_neg (by omega), if_neg (by omega)])
