/-! THE REFERENCE: fewest, which, chance, yard, image, on, row, count -/
theorem MI_set2 {h : Nat → Int} (hI : MI h) {v : Int} (hv : 0 ≤ v ∧ v ≤ 4) : MI (hset h 2 v) := by
  obtain ⟨a0, a1, a2, a3, a4, a5, a6, a7, a8, a9, a10, a11, a12, ap, at_, ao⟩ := hI
  refine ⟨a0, a1, hv, a3, a4, a5, a6, a7, a8, a9, a10, a11, a12, fun p p0 p5 => ?_, fun t t0 t8 => ?_, fun k k0 k8 => ?_⟩
  · unfold hset
    rw [if_neg (by omega), if_neg (by omega)]
    exact ap p p0 p5
  · unfold hset
    rw [if_neg (by omega), if_neg (by omega)]
    exact at_ t t0 t8
  · unfold hset
    rw [if_neg (by omega)]
    exact ao k k0 k8
theorem MI_set10 {h : Nat → Int} (hI : MI h) {v : Int} (hv : 0 ≤ v ∧ v ≤ 1) : MI (hset h 10 v) := by
  obtain ⟨a0, a1, a2, a3, a4, a5, a6, a7, a8, a9, a10, a11, a12, ap, at_, ao⟩ := hI
  refine ⟨a0, a1, a2, a3, a4, a5, a6, a7, a8, a9, hv, a11, a12, fun p p0 p5 => ?_, fun t t0 t8 => ?_, fun k k0 k8 => ?_⟩
  · unfold hset
    rw [if_neg (by omega), if_neg (by omega)]
    exact ap p p0 p5
  · unfold hset
    rw [if_neg (by omega), if_neg (by omega)]
    exact at_ t t0 t8
  · unfold hset
    rw [if_neg (by omega)]
    exact ao k k0 k8
theorem MI_setP {h : Nat → Int} (hI : MI h) {q : Int} (hq : 0 ≤ q ∧ q < 5) {v : Int} (hv : 0 ≤ v ∧ v ≤ 1) : MI (hset h (13 + 2 * q + 1).toNat v) := by
  obtain ⟨a0, a1, a2, a3, a4, a5, a6, a7, a8, a9, a10, a11, a12, ap, at_, ao⟩ := hI
  have e : ∀ k : Nat, k < 13 → hset h (13 + 2 * q + 1).toNat v k = h k := by
    intro k hk
    unfold hset
    rw [if_neg (by omega)]
  refine ⟨?_, ?_, ?_, ?_, ?_, ?_, ?_, ?_, ?_, ?_, ?_, ?_, ?_, fun p p0 p5 => ?_, fun t t0 t8 => ?_, fun k k0 k8 => ?_⟩
  all_goals first | (rw [e _ (by decide)]; assumption) | skip
  · have := ap p p0 p5
    unfold hset
    rw [if_neg (by omega)]
    split <;> omega
  · unfold hset
    rw [if_neg (by omega), if_neg (by omega)]
    exact at_ t t0 t8
  · unfold hset
    rw [if_neg (by omega)]
    exact ao k k0 k8
theorem MI_setW {h : Nat → Int} (hI : MI h) {q : Int} (hq : 0 ≤ q ∧ q < 8) {v : Int} (hv : 0 ≤ v ∧ v ≤ 999) : MI (hset h (23 + 2 * q + 1).toNat v) := by
  obtain ⟨a0, a1, a2, a3, a4, a5, a6, a7, a8, a9, a10, a11, a12, ap, at_, ao⟩ := hI
  have e : ∀ k : Nat, k < 13 → hset h (23 + 2 * q + 1).toNat v k = h k := by
    intro k hk
    unfold hset
    rw [if_neg (by omega)]
  refine ⟨?_, ?_, ?_, ?_, ?_, ?_, ?_, ?_, ?_, ?_, ?_, ?_, ?_, fun p p0 p5 => ?_, fun t t0 t8 => ?_, fun k k0 k8 => ?_⟩
  all_goals first | (rw [e _ (by decide)]; assumption) | skip
  · unfold hset
    rw [if_neg (by omega), if_neg (by omega)]
    exact ap p p0 p5
  · have := at_ t t0 t8
    unfold hset
    rw [if_neg (by omega)]
    split <;> omega
  · unfold hset
    rw [if_neg (by omega)]
    exact ao k k0 k8
theorem hset_twice (h : Nat → Int) (k : Nat) (a b : Int) : hset (hset h k a) k b = hset h k b := by
  funext j
  unfold hset
  split <;> rfl
theorem hset_id {h : Nat → Int} {k : Nat} {a : Int} (e : h k = a) : hset h k a = h := by
  funext j
  unfold hset
  split
  next q => rw [q, e]
  next => rfl
/-- cells other than the hill's row and the day's are as they were -/
def Rest (μ ν : xM) : Prop := (∀ j, j < 12 ∨ 17 < j → ν 0 j = μ 0 j) ∧ ∀ k, k ≠ 0 → k ≠ 2 → k ≠ 7 → k ≠ 8 → k ≠ 9 → ν k = μ k
theorem Rest.rfl' (μ : xM) : Rest μ μ := ⟨fun _ _ => rfl, fun _ _ _ _ _ _ => rfl⟩
theorem Rest.same {a b c : xM} (h : Rest a b) (g : Same b c) : Rest a c := ⟨fun j hj => (g.1 j hj).trans (h.1 j hj), fun k a b c d e => (g.2 k a c d e).trans (h.2 k a b c d e)⟩
theorem Rest.st {a b : xM} (h : Rest a b) (k : Nat) (v : Int) : Rest a (x_st b 2 k v) := ⟨h.1, fun j a b c d e => by rw [← h.2 j a b c d e]; funext x; simp [x_st, b]⟩
theorem Rest.abs {μ ν : xM} (h : Rest μ ν) (e : ν 2 = μ 2) (g : GI μ) : Abs μ ν := by
  have k := fun a b c d e f => h.2 a b c d e f
  exact ⟨k 1 (by decide) (by decide) (by decide) (by decide) (by decide), e, k 3 (by decide) (by decide) (by decide) (by decide) (by decide), k 5 (by decide) (by decide) (by decide) (by decide) (by decide), k 12 (by decide) (by decide) (by decide) (by decide) (by decide), h.1 4 (by decide), h.1 7 (by decide), h.1 22 (by decide), fun j hj => by rw [k 4 (by decide) (by decide) (by decide) (by decide) (by decide), k 10 (by decide) (by decide) (by decide) (by decide) (by decide)]; exact (g.2.1 j hj).2.2⟩
def dFewN (h : Nat → Int) (most : Int) : Nat → Int → Int
  | 0, _ => -9
  | k + 1, n => if dAll (hset h 2 n) ≤ most then n else dFewN h most k (n + 1)
def dFew (h : Nat → Int) (most : Int) : Int := dFewN h most 5 0
def dWhN (h : Nat → Int) : Nat → Int × Int
  | 0 => (-9, dAll h)
  | k + 1 => if h (13 + 2 * (k : Int) + 1).toNat = 1 then dWhN h k else if dAll (hset h (13 + 2 * (k : Int) + 1).toNat 1) < (dWhN h k).2 then ((k : Int), dAll (hset h (13 + 2 * (k : Int) + 1).toNat 1)) else dWhN h k
def dWhich (h : Nat → Int) : Int := (dWhN h (h 0).toNat).1
theorem dWhN_s (h : Nat → Int) {p : Int} (hp : 0 ≤ p) : dWhN h (p + 1).toNat = if h (13 + 2 * p + 1).toNat = 1 then dWhN h p.toNat else if dAll (hset h (13 + 2 * p + 1).toNat 1) < (dWhN h p.toNat).2 then (p, dAll (hset h (13 + 2 * p + 1).toNat 1)) else dWhN h p.toNat := by rw [nat_succ hp, dWhN, nat_back hp]
def dChance (h : Nat → Int) (z : Int) : Int := z * dAll (hset h 10 1) + (100 - z) * dAll (hset h 10 0)
set_option maxRecDepth 100000 in
set_option maxHeartbeats 4000000 in
theorem e6_fewest (most was : Int) (hm : x_in most) (μ : xM) (hw : was = μ 2 2) (f k : Int) (ν : xM) (hR : Rest μ ν) (hz : ∃ z, ν 2 = hset (μ 2) 2 z) : X E0 shM 8 yX6_fewest cX6_fewest 5 (some .int) 64 [some (.inr (.inl 0)), some (.inl most), some (.inl was), some (.inl f), some (.inl k)] [] ν (fun r μ' => r = some (.inl f) ∧ Rest μ μ' ∧ μ' 2 = μ 2) := by
  obtain ⟨z, hz⟩ := hz
  refine x_aload_n (i := 0) dX6_fewest_64 rfl rfl ?_
  refine x_getR xf_RX6_13 dX6_fewest_65 rfl rfl ?_
  refine x_iconst dX6_fewest_68 ?_
  refine x_iload_n (i := 2) dX6_fewest_69 rfl rfl ?_
  refine x_iastK (K := 2) dX6_fewest_70 rfl rfl (by decide) (by decide) ?_
  refine x_iload_n (i := 3) dX6_fewest_71 rfl rfl ?_
  refine x_iret dX6_fewest_72 rfl rfl ?_
  exact ⟨rfl, hR.st _ _, by rw [x_st_2, hz, hset_twice, hw, hset_id rfl]⟩
set_option maxRecDepth 100000 in
set_option maxHeartbeats 4000000 in
theorem h6_fewest (most was : Int) (hm : x_in most) (μ : xM) (hw : was = μ 2 2) (f k : Int) (hf : 0 ≤ f ∧ f ≤ 4) (hk : 0 ≤ k ∧ k ≤ 5) (ν : xM) (hR : Rest μ ν) (hz : ∃ z, ν 2 = hset (μ 2) 2 z) : X E0 shM 8 yX6_fewest cX6_fewest 5 (some .int) 24 [some (.inr (.inl 0)), some (.inl most), some (.inl was), some (.inl f), some (.inl k)] [] ν (fun r μ' => r = some (.inl f) ∧ Rest μ μ' ∧ μ' 2 = μ 2) := by
  refine x_iload dX6_fewest_24 rfl ?_
  refine x_iconst dX6_fewest_26 ?_
  refine x_icmp_ge (tgt := 64) dX6_fewest_27 (by decide) (by first | (unfold x_in; omega) | (unfold x_in; decide)) (by first | (unfold x_in; omega) | (unfold x_in; decide)) (fun c1 => ?_) (fun c1 => ?_)
  · exact e6_fewest most was hm μ hw f k ν hR hz
  · refine x_iload_n (i := 3) dX6_fewest_30 rfl rfl ?_
    refine x_if_ge (tgt := 64) dX6_fewest_31 (by decide) (by first | (unfold x_in; omega) | (unfold x_in; decide)) (fun c2 => ?_) (fun c2 => ?_)
    · exact e6_fewest most was hm μ hw f k ν hR hz
    · exact absurd c2 (by omega)
set_option maxRecDepth 100000 in
set_option maxHeartbeats 4000000 in
theorem l6_fewest (most was : Int) (hm : x_in most) (μ : xM) (hw : was = μ 2 2) (hI : MI (μ 2)) : ∀ (n : Nat) (k : Int) (ν : xM), 0 ≤ k → k + n = 5 → Rest μ ν → (∃ z, ν 2 = hset (μ 2) 2 z) → X E0 shM 8 yX6_fewest cX6_fewest 5 (some .int) 24 [some (.inr (.inl 0)), some (.inl most), some (.inl was), some (.inl (-9)), some (.inl k)] [] ν (fun r μ' => r = some (.inl (dFewN (μ 2) most n k)) ∧ Rest μ μ' ∧ μ' 2 = μ 2) := by
  have hm2 := hm
  unfold x_in at hm2
  intro n
  induction n with
  | zero =>
    intro k ν hk hn hR hz
    refine x_iload dX6_fewest_24 rfl ?_
    refine x_iconst dX6_fewest_26 ?_
    refine x_icmp_ge (tgt := 64) dX6_fewest_27 (by decide) (by first | (unfold x_in; omega) | (unfold x_in; decide)) (by first | (unfold x_in; omega) | (unfold x_in; decide)) (fun c1 => ?_) (fun c1 => ?_)
    · exact e6_fewest most was hm μ hw (-9) k ν hR hz
    · exact absurd c1 (by omega)
  | succ n ih =>
    intro k ν hk hn hR hz
    have e2 : x_st ν 2 2 k 2 = hset (μ 2) 2 k := by
      obtain ⟨z, hz⟩ := hz
      rw [x_st_2, hz, hset_twice]
    have hI2 : MI (hset (μ 2) 2 k) := MI_set2 hI (by omega)
    have hd := dAll_in hI2
    refine x_iload dX6_fewest_24 rfl ?_
    refine x_iconst dX6_fewest_26 ?_
    refine x_icmp_ge (tgt := 64) dX6_fewest_27 (by decide) (by first | (unfold x_in; omega) | (unfold x_in; decide)) (by first | (unfold x_in; omega) | (unfold x_in; decide)) (fun c1 => ?_) (fun c1 => ?_)
    · exact absurd c1 (by omega)
    · refine x_iload_n (i := 3) dX6_fewest_30 rfl rfl ?_
      refine x_if_ge (tgt := 64) dX6_fewest_31 (by decide) (by first | (unfold x_in; omega) | (unfold x_in; decide)) (fun c2 => ?_) (fun c2 => ?_)
      · exact absurd c2 (by omega)
      · refine x_aload_n (i := 0) dX6_fewest_34 rfl rfl ?_
        refine x_getR xf_RX6_13 dX6_fewest_35 rfl rfl ?_
        refine x_iconst dX6_fewest_38 ?_
        refine x_iload dX6_fewest_39 rfl ?_
        refine x_iastK (K := 2) dX6_fewest_41 rfl rfl (by decide) (by decide) ?_
        refine x_aload_n (i := 0) dX6_fewest_42 rfl rfl ?_
        refine x_cI0_0 lk_RX6_189 xm_X6_allOf dX6_fewest_43 (s6_allOf _ (by rw [e2]; exact hI2)) (fun a μ' hq => ?_)
        obtain ⟨e1, hS⟩ := hq
        rw [e2] at e1
        cases e1
        refine x_iload_n (i := 1) dX6_fewest_46 rfl rfl ?_
        refine x_icmp_gt (tgt := 55) dX6_fewest_47 (by decide) (by first | (unfold x_in; omega) | (unfold x_in; decide)) (by first | (unfold x_in; omega) | (unfold x_in; decide)) (fun c3 => ?_) (fun c3 => ?_)
        · refine x_bipush dX6_fewest_55 (by decide) ?_
          refine x_istore_3 dX6_fewest_57 (by decide) rfl ?_
          refine x_iinc_4 dX6_fewest_58 (by decide) rfl ?_
          refine x_goto (tgt := 24) dX6_fewest_61 (by decide) ?_
          have hz2 : μ' 2 = hset (μ 2) 2 k := by rw [hS.two, e2]
          rw [dFewN]
          first | (rw [if_neg (by omega)]; exact ih (k + 1) _ (by omega) (by omega) ((hR.st _ _).same hS) ⟨k, hz2⟩) | (rw [if_pos (by omega)]; exact h6_fewest most was hm μ hw k (k + 1) (by omega) (by omega) _ ((hR.st _ _).same hS) ⟨k, hz2⟩)
        · refine x_iload dX6_fewest_50 rfl ?_
          refine x_goto (tgt := 57) dX6_fewest_52 (by decide) ?_
          refine x_istore_3 dX6_fewest_57 (by decide) rfl ?_
          refine x_iinc_4 dX6_fewest_58 (by decide) rfl ?_
          refine x_goto (tgt := 24) dX6_fewest_61 (by decide) ?_
          have hz2 : μ' 2 = hset (μ 2) 2 k := by rw [hS.two, e2]
          rw [dFewN]
          first | (rw [if_neg (by omega)]; exact ih (k + 1) _ (by omega) (by omega) ((hR.st _ _).same hS) ⟨k, hz2⟩) | (rw [if_pos (by omega)]; exact h6_fewest most was hm μ hw k (k + 1) (by omega) (by omega) _ ((hR.st _ _).same hS) ⟨k, hz2⟩)
set_option maxRecDepth 100000 in
set_option maxHeartbeats 4000000 in
theorem s6_fewest (most : Int) (hm : x_in most) (μ : xM) (hG : GI μ) : X E0 shM 9 yX6_fewest cX6_fewest 5 (some .int) 0 [some (.inr (.inl 0)), some (.inl most), none, none, none] [] μ (PQ (if most < 0 then -4 else dFew (μ 2) most) (if most < 0 then mRef μ (-4) else μ)) := by
  have hI := hG.1
  have hm2 := hm
  unfold x_in at hm2
  refine x_iload_n (i := 1) dX6_fewest_0 rfl rfl ?_
  refine x_if_ge (tgt := 11) dX6_fewest_1 (by decide) (by first | (unfold x_in; omega) | (unfold x_in; decide)) (fun c1 => ?_) (fun c1 => ?_)
  · refine x_aload_n (i := 0) dX6_fewest_11 rfl rfl ?_
    refine x_getR xf_RX6_13 dX6_fewest_12 rfl rfl ?_
    refine x_iconst dX6_fewest_15 ?_
    refine x_ialdK (K := 2) dX6_fewest_16 rfl rfl (by decide) (by decide) ?_
    refine x_istore_2 dX6_fewest_17 (by decide) rfl ?_
    refine x_bipush dX6_fewest_18 (by decide) ?_
    refine x_istore_3 dX6_fewest_20 (by decide) rfl ?_
    refine x_iconst dX6_fewest_21 ?_
    refine x_istore_4 dX6_fewest_22 (by decide) rfl ?_
    rw [if_neg (by omega), if_neg (by omega)]
    exact ((l6_fewest most _ hm μ rfl hI 5 0 μ (by omega) (by omega) (Rest.rfl' μ) ⟨μ 2 2, (hset_id rfl).symm⟩).deep (by decide)).mono (fun r m q => ⟨q.1, q.2.1.abs q.2.2 hG⟩)
  · refine x_aload_n (i := 0) dX6_fewest_4 rfl rfl ?_
    refine x_bipush dX6_fewest_5 (by decide) ?_
    refine x_cIf0_1 lk_RX6_50 xm_X6_refuse dX6_fewest_7 (s6_refuse _ (by decide) _) ?_
    refine x_iret dX6_fewest_10 rfl rfl ?_
    exact ⟨by rw [if_pos c1], by rw [if_pos c1]; exact Abs.ref hG _⟩
set_option maxRecDepth 100000 in
set_option maxHeartbeats 4000000 in
theorem l6_which (μ : xM) (hI : MI (μ 2)) : ∀ (n : Nat) (p : Int) (ν : xM), 0 ≤ p → p ≤ μ 2 0 → (μ 2 0 - p).toNat < n → ∀ z4 z5 : Option xA, x_nl z4 = true → Rest μ ν → ν 2 = μ 2 → X E0 shM 8 yX6_which cX6_which 6 (some .int) 10 [some (.inr (.inl 0)), some (.inl ((dWhN (μ 2) p.toNat).1)), some (.inl ((dWhN (μ 2) p.toNat).2)), some (.inl p), z4, z5] [] ν (fun r μ' => r = some (.inl (dWhich (μ 2))) ∧ Rest μ μ' ∧ μ' 2 = μ 2) := by
  have h00 := hI.1
  have hL : ∀ k : Nat, k ≤ 5 → -4800 ≤ (dWhN (μ 2) k).2 ∧ (dWhN (μ 2) k).2 ≤ 80000 := by
    intro k
    induction k with
    | zero => intro _; exact dAll_in hI
    | succ k ih =>
      intro hk
      rw [dWhN]
      split
      · exact ih (by omega)
      · split
        · exact dAll_in (MI_setP hI (by omega) (by omega))
        · exact ih (by omega)
  intro n
  induction n with
  | zero => intro p ν _ _ h; omega
  | succ n ih =>
    intro p ν hp hp2 hn z4 z5 hz4 hR e2
    have hl := hL p.toNat (by omega)
    have hh := hI
    obtain ⟨-, -, -, -, -, -, -, -, -, -, -, -, -, hq, -⟩ := hh
    have K : p < μ 2 0 → ∀ a b ν2 w4 w5, x_nl w4 = true → (a, b) = (if μ 2 (13 + 2 * p + 1).toNat = 1 then dWhN (μ 2) p.toNat else if dAll (hset (μ 2) (13 + 2 * p + 1).toNat 1) < (dWhN (μ 2) p.toNat).2 then (p, dAll (hset (μ 2) (13 + 2 * p + 1).toNat 1)) else dWhN (μ 2) p.toNat) → Rest μ ν2 → ν2 2 = μ 2 → X E0 shM 8 yX6_which cX6_which 6 (some .int) 10 [some (.inr (.inl 0)), some (.inl a), some (.inl b), some (.inl (p + 1)), w4, w5] [] ν2 (fun r μ' => r = some (.inl (dWhich (μ 2))) ∧ Rest μ μ' ∧ μ' 2 = μ 2) := by
      intro hlt a b ν2 w4 w5 hw4 hab hR2 e3
      have h := ih (p + 1) ν2 (by omega) (by omega) (by omega) w4 w5 hw4 hR2 e3
      rw [dWhN_s _ hp, ← hab] at h
      exact h
    have hI2 : p < μ 2 0 → MI (hset (μ 2) (13 + 2 * p + 1).toNat 1) := fun hlt => MI_setP hI (by omega) (by omega)
    have es : x_st ν 2 (13 + 2 * p + 1).toNat 1 2 = hset (μ 2) (13 + 2 * p + 1).toNat 1 := by rw [x_st_2, e2]
    refine x_iload_n (i := 3) dX6_which_10 rfl rfl ?_
    refine x_aload_n (i := 0) dX6_which_11 rfl rfl ?_
    refine x_getR xf_RX6_13 dX6_which_12 rfl rfl ?_
    refine x_iconst dX6_which_15 ?_
    refine x_ialdK (K := 0) dX6_which_16 rfl rfl (by decide) (by decide) ?_
    rw [e2]
    refine x_icmp_ge (tgt := 86) dX6_which_17 (by decide) (by first | (unfold x_in; omega) | (unfold x_in; decide)) (by first | (unfold x_in; omega) | (unfold x_in; decide)) (fun c1 => ?_) (fun c1 => ?_)
    · refine x_iload_n (i := 1) dX6_which_86 rfl rfl ?_
      refine x_iret dX6_which_87 rfl rfl ?_
      exact ⟨by rw [show p = μ 2 0 by omega]; rfl, hR, e2⟩
    · have hx := (hq p hp (by omega)).2
      have hd := dAll_in (hI2 c1)
      refine x_bipush dX6_which_20 (by decide) ?_
      refine x_iconst dX6_which_22 ?_
      refine x_iload_n (i := 3) dX6_which_23 rfl rfl ?_
      refine x_imul dX6_which_24 ?_
      refine x_iadd dX6_which_25 ?_
      refine x_iconst dX6_which_26 ?_
      refine x_iadd dX6_which_27 ?_
      refine x_istore_4 dX6_which_28 (by decide) rfl ?_
      refine x_aload_n (i := 0) dX6_which_30 rfl rfl ?_
      refine x_getR xf_RX6_13 dX6_which_31 rfl rfl ?_
      refine x_iload dX6_which_34 rfl ?_
      refine x_iald dX6_which_36 rfl (by decide) (by first | omega | decide) (by first | omega | decide) ?_
      refine x_iconst dX6_which_37 ?_
      rw [e2]
      refine x_icmp_ne (tgt := 44) dX6_which_38 (by decide) (by first | (unfold x_in; omega) | (unfold x_in; decide)) (by first | (unfold x_in; omega) | (unfold x_in; decide)) (fun c2 => ?_) (fun c2 => ?_)
      · refine x_aload_n (i := 0) dX6_which_44 rfl rfl ?_
        refine x_getR xf_RX6_13 dX6_which_45 rfl rfl ?_
        refine x_iload dX6_which_48 rfl ?_
        refine x_iconst dX6_which_50 ?_
        refine x_iast dX6_which_51 rfl (by decide) (by first | omega | decide) (by first | omega | decide) ?_
        refine x_aload_n (i := 0) dX6_which_52 rfl rfl ?_
        refine x_cI0_0 lk_RX6_189 xm_X6_allOf dX6_which_53 (s6_allOf _ (by rw [es]; exact hI2 c1)) (fun a μ' hq2 => ?_)
        obtain ⟨e1, hS⟩ := hq2
        rw [es] at e1
        cases e1
        have hs2 := hS.two
        rw [es] at hs2
        refine x_istore_5 dX6_which_56 (by decide) rfl ?_
        refine x_aload_n (i := 0) dX6_which_58 rfl rfl ?_
        refine x_getR xf_RX6_13 dX6_which_59 rfl rfl ?_
        refine x_iload dX6_which_62 rfl ?_
        refine x_iconst dX6_which_64 ?_
        refine x_iast dX6_which_65 rfl (by decide) (by first | omega | decide) (by first | omega | decide) ?_
        refine x_iload dX6_which_66 rfl ?_
        refine x_iload_n (i := 2) dX6_which_68 rfl rfl ?_
        refine x_icmp_lt (tgt := 75) dX6_which_69 (by decide) (by first | (unfold x_in; omega) | (unfold x_in; decide)) (by first | (unfold x_in; omega) | (unfold x_in; decide)) (fun c3 => ?_) (fun c3 => ?_)
        · refine x_iload_n (i := 3) dX6_which_75 rfl rfl ?_
          refine x_istore_1 dX6_which_76 (by decide) rfl ?_
          refine x_iload dX6_which_77 rfl ?_
          refine x_istore_2 dX6_which_79 (by decide) rfl ?_
          refine x_iinc_3 dX6_which_80 (by decide) rfl ?_
          refine x_goto (tgt := 10) dX6_which_83 (by decide) ?_
          refine K c1 _ _ _ _ _ rfl ?_ ?_ ?_
          · first | exact (if_pos c2).symm | exact ((if_neg c2).trans (if_pos (by omega))).symm | exact ((if_neg c2).trans (if_neg (by omega))).symm
          · first | exact hR | exact ((hR.st _ _).same hS).st _ _
          · first | exact e2 | (rw [x_st_2, hs2, hset_twice, hset_id (by omega)])
        · refine x_goto (tgt := 80) dX6_which_72 (by decide) ?_
          refine x_iinc_3 dX6_which_80 (by decide) rfl ?_
          refine x_goto (tgt := 10) dX6_which_83 (by decide) ?_
          refine K c1 _ _ _ _ _ rfl ?_ ?_ ?_
          · first | exact (if_pos c2).symm | exact ((if_neg c2).trans (if_pos (by omega))).symm | exact ((if_neg c2).trans (if_neg (by omega))).symm
          · first | exact hR | exact ((hR.st _ _).same hS).st _ _
          · first | exact e2 | (rw [x_st_2, hs2, hset_twice, hset_id (by omega)])
      · refine x_goto (tgt := 80) dX6_which_41 (by decide) ?_
        refine x_iinc_3 dX6_which_80 (by decide) rfl ?_
        refine x_goto (tgt := 10) dX6_which_83 (by decide) ?_
        refine K c1 _ _ _ _ _ rfl ?_ ?_ ?_
        · first | exact (if_pos c2).symm | exact ((if_neg c2).trans (if_pos (by omega))).symm | exact ((if_neg c2).trans (if_neg (by omega))).symm
        · first | exact hR | exact ((hR.st _ _).same hS).st _ _
        · first | exact e2 | (rw [x_st_2, hs2, hset_twice, hset_id (by omega)])
set_option maxRecDepth 100000 in
set_option maxHeartbeats 4000000 in
theorem s6_which (μ : xM) (hG : GI μ) : X E0 shM 8 yX6_which cX6_which 6 (some .int) 0 [some (.inr (.inl 0)), none, none, none, none, none] [] μ (PQ (dWhich (μ 2)) μ) := by
  have hI := hG.1
  have h00 := hI.1
  refine x_bipush dX6_which_0 (by decide) ?_
  refine x_istore_1 dX6_which_2 (by decide) rfl ?_
  refine x_aload_n (i := 0) dX6_which_3 rfl rfl ?_
  refine x_cI0_0 lk_RX6_189 xm_X6_allOf dX6_which_4 (s6_allOf _ hI) (fun a μ' hq => ?_)
  obtain ⟨e1, hS⟩ := hq
  cases e1
  refine x_istore_2 dX6_which_7 (by decide) rfl ?_
  refine x_iconst dX6_which_8 ?_
  refine x_istore_3 dX6_which_9 (by decide) rfl ?_
  exact (l6_which μ hI _ 0 μ' (by omega) (by omega) (Nat.lt_succ_self _) none none rfl ((Rest.rfl' μ).same hS) hS.two).mono (fun r m q => ⟨q.1, q.2.1.abs q.2.2 hG⟩)
set_option maxRecDepth 100000 in
set_option maxHeartbeats 4000000 in
theorem s6_chance (z : Int) (hz : x_in z) (μ : xM) (hG : GI μ) : X E0 shM 8 yX6_chance cX6_chance 6 (some .int) 0 [some (.inr (.inl 0)), some (.inl z), none, none, none, none] [] μ (PQ (if mWithin z 0 100 = 0 then dChance (μ 2) z else mWithin z 0 100) (if mWithin z 0 100 = 0 then μ else mRef μ (mWithin z 0 100))) := by
  have hI := hG.1
  have hww := mWithin_in z 0 100
  have e1 : x_st μ 2 10 1 2 = hset (μ 2) 10 1 := x_st_2 _ _ _
  have I1 : MI (hset (μ 2) 10 1) := MI_set10 hI (by omega)
  have I0 : MI (hset (μ 2) 10 0) := MI_set10 hI (by omega)
  refine x_iload_n (i := 1) dX6_chance_0 rfl rfl ?_
  refine x_iconst dX6_chance_1 ?_
  refine x_bipush dX6_chance_2 (by decide) ?_
  refine x_cS_3 lk_RX6_99 xm_X6_within dX6_chance_4 (s6_within _ _ _ hz (by unfold x_in; decide) (by unfold x_in; decide) _) ?_
  refine x_istore_2 dX6_chance_7 (by decide) rfl ?_
  refine x_iload_n (i := 2) dX6_chance_8 rfl rfl ?_
  refine x_if_eq (tgt := 18) dX6_chance_9 (by decide) (by first | (unfold x_in; omega) | (unfold x_in; decide)) (fun c1 => ?_) (fun c1 => ?_)
  · refine x_aload_n (i := 0) dX6_chance_18 rfl rfl ?_
    refine x_getR xf_RX6_13 dX6_chance_19 rfl rfl ?_
    refine x_bipush dX6_chance_22 (by decide) ?_
    refine x_ialdK (K := 10) dX6_chance_24 rfl rfl (by decide) (by decide) ?_
    refine x_istore_3 dX6_chance_25 (by decide) rfl ?_
    refine x_aload_n (i := 0) dX6_chance_26 rfl rfl ?_
    refine x_getR xf_RX6_13 dX6_chance_27 rfl rfl ?_
    refine x_bipush dX6_chance_30 (by decide) ?_
    refine x_iconst dX6_chance_32 ?_
    refine x_iastK (K := 10) dX6_chance_33 rfl rfl (by decide) (by decide) ?_
    refine x_aload_n (i := 0) dX6_chance_34 rfl rfl ?_
    refine x_cI0_0 lk_RX6_189 xm_X6_allOf dX6_chance_35 (s6_allOf _ (by rw [e1]; exact I1)) (fun a μ' hq1 => ?_)
    obtain ⟨q1, hS1⟩ := hq1
    rw [e1] at q1
    cases q1
    have e2 : x_st μ' 2 10 0 2 = hset (μ 2) 10 0 := by rw [x_st_2, hS1.two, e1, hset_twice]
    refine x_istore_4 dX6_chance_38 (by decide) rfl ?_
    refine x_aload_n (i := 0) dX6_chance_40 rfl rfl ?_
    refine x_getR xf_RX6_13 dX6_chance_41 rfl rfl ?_
    refine x_bipush dX6_chance_44 (by decide) ?_
    refine x_iconst dX6_chance_46 ?_
    refine x_iastK (K := 10) dX6_chance_47 rfl rfl (by decide) (by decide) ?_
    refine x_aload_n (i := 0) dX6_chance_48 rfl rfl ?_
    refine x_cI0_0 lk_RX6_189 xm_X6_allOf dX6_chance_49 (s6_allOf _ (by rw [e2]; exact I0)) (fun a μ2 hq2 => ?_)
    obtain ⟨q2, hS2⟩ := hq2
    rw [e2] at q2
    cases q2
    refine x_istore_5 dX6_chance_52 (by decide) rfl ?_
    refine x_aload_n (i := 0) dX6_chance_54 rfl rfl ?_
    refine x_getR xf_RX6_13 dX6_chance_55 rfl rfl ?_
    refine x_bipush dX6_chance_58 (by decide) ?_
    refine x_iload_n (i := 3) dX6_chance_60 rfl rfl ?_
    refine x_iastK (K := 10) dX6_chance_61 rfl rfl (by decide) (by decide) ?_
    refine x_iload_n (i := 1) dX6_chance_62 rfl rfl ?_
    refine x_iload dX6_chance_63 rfl ?_
    refine x_imul dX6_chance_65 ?_
    refine x_bipush dX6_chance_66 (by decide) ?_
    refine x_iload_n (i := 1) dX6_chance_68 rfl rfl ?_
    refine x_isub dX6_chance_69 ?_
    refine x_iload dX6_chance_70 rfl ?_
    refine x_imul dX6_chance_72 ?_
    refine x_iadd dX6_chance_73 ?_
    refine x_iret dX6_chance_74 rfl rfl ?_
    rw [if_pos c1, if_pos c1]
    refine ⟨rfl, ?_⟩
    have hR := ((((Rest.rfl' μ).st 10 1).same hS1).st 10 0).same hS2
    exact (hR.st 10 (μ 2 10)).abs (by rw [x_st_2, hS2.two, e2, hset_twice, hset_id rfl]) hG
  · refine x_aload_n (i := 0) dX6_chance_12 rfl rfl ?_
    refine x_iload_n (i := 2) dX6_chance_13 rfl rfl ?_
    refine x_cIf0_1 lk_RX6_50 xm_X6_refuse dX6_chance_14 (s6_refuse _ (by omega) _) ?_
    refine x_iret dX6_chance_17 rfl rfl ?_
    exact ⟨by rw [if_neg c1], by rw [if_neg c1]; exact Abs.ref hG _⟩
