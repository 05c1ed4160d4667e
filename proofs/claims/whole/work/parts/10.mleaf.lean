/-! THE REFERENCE, leaves: what its small methods answer. Its rows s (cell 2): 0 pieces, 1 trains, 2 engines, 3 ordered, 4 .. 12 settings, 13 .. pieces, 23 .. trains, 39 .. order -/
def MI (h : Nat → Int) : Prop := (0 ≤ h 0 ∧ h 0 ≤ 5) ∧ (0 ≤ h 1 ∧ h 1 ≤ 8) ∧ (0 ≤ h 2 ∧ h 2 ≤ 4) ∧ (0 ≤ h 3 ∧ h 3 ≤ 8) ∧ (1 ≤ h 4 ∧ h 4 ≤ 999) ∧ (1 ≤ h 5 ∧ h 5 ≤ 999) ∧ (0 ≤ h 6 ∧ h 6 ≤ 90) ∧ (0 ≤ h 7 ∧ h 7 ≤ 20) ∧ (0 ≤ h 8 ∧ h 8 ≤ 20) ∧ (1 ≤ h 9 ∧ h 9 ≤ 60) ∧ (0 ≤ h 10 ∧ h 10 ≤ 1) ∧ (0 ≤ h 11 ∧ h 11 ≤ 3) ∧ (0 ≤ h 12 ∧ h 12 ≤ 1)
  ∧ (∀ p : Int, 0 ≤ p → p < 5 → (0 ≤ h (13 + 2 * p).toNat ∧ h (13 + 2 * p).toNat ≤ 9) ∧ (0 ≤ h (13 + 2 * p + 1).toNat ∧ h (13 + 2 * p + 1).toNat ≤ 1))
  ∧ (∀ t : Int, 0 ≤ t → t < 8 → (0 ≤ h (23 + 2 * t).toNat ∧ h (23 + 2 * t).toNat ≤ 600) ∧ (0 ≤ h (23 + 2 * t + 1).toNat ∧ h (23 + 2 * t + 1).toNat ≤ 999))
  ∧ (∀ k : Int, 0 ≤ k → k < 8 → 0 ≤ h (39 + k).toNat ∧ h (39 + k).toNat ≤ 9)
def mIn (v n : Int) : Int := if 0 ≤ v ∧ v < n then 1 else 0
def mWithin (v l m : Int) : Int := if v < l then -4 else if m < v then -6 else 0
def mLeast (w : Int) : Int := if w < 2 ∨ w = 5 then 1 else 0
def mMost (w : Int) : Int := if w = 0 ∨ w = 1 then 999 else if w = 2 then 90 else if w = 3 ∨ w = 4 then 20 else if w = 5 then 60 else if w = 7 then 3 else 1
def mRef (μ : xM) (code : Int) : xM := x_st μ 1 (-code).toNat (μ 1 (-code).toNat + 1)
def mEdge (h : Nat → Int) (w : Int) : Int := h (4 + w).toNat - (if h 10 = 1 then (h (4 + w).toNat * h 6).tdiv 100 else 0)
def mKindBy (h : Nat → Int) (w : Int) : Int := if w ≤ mEdge h 0 then 0 else if w ≤ mEdge h 1 then 1 else if (w + 1).tdiv 2 ≤ mEdge h 1 then 2 else 3
def mWt (h : Nat → Int) (t : Int) : Int := h (23 + 2 * t + 1).toNat
def mCm (h : Nat → Int) (t : Int) : Int := h (23 + 2 * t).toNat
def mKind (h : Nat → Int) (t : Int) : Int := mKindBy h (mWt h t)
def mBaseN (h : Nat → Int) : Nat → Int
  | 0 => 0
  | k + 1 => mBaseN h k + h (13 + 2 * (k : Int)).toNat
def mBase (h : Nat → Int) : Int := mBaseN h (h 0).toNat
def mSingN (h : Nat → Int) : Nat → Int
  | 0 => 0
  | k + 1 => mSingN h k + (1 - h (13 + 2 * (k : Int) + 1).toNat)
def mSing (h : Nat → Int) : Int := mSingN h (h 0).toNat
def mTakes (h : Nat → Int) (t : Int) : Int := if mKind h t = 0 then mBase h else if mKind h t = 1 then h 7 + mBase h + h 8 else if mKind h t = 2 then 2 * (h 7 + mBase h + h 8) + mBase h else -9
theorem nat_succ {p : Int} (hp : 0 ≤ p) : (p + 1).toNat = p.toNat + 1 := by omega
theorem nat_back {p : Int} (hp : 0 ≤ p) : ((p.toNat : Nat) : Int) = p := Int.toNat_of_nonneg hp
theorem mBase_s (h : Nat → Int) {p : Int} (hp : 0 ≤ p) : mBaseN h (p + 1).toNat = mBaseN h p.toNat + h (13 + 2 * p).toNat := by
  rw [nat_succ hp, mBaseN, nat_back hp]
theorem mSing_s (h : Nat → Int) {p : Int} (hp : 0 ≤ p) : mSingN h (p + 1).toNat = mSingN h p.toNat + (1 - h (13 + 2 * p + 1).toNat) := by
  rw [nat_succ hp, mSingN, nat_back hp]
theorem mEdge_in {h : Nat → Int} (hI : MI h) {w : Int} (hw : w = 0 ∨ w = 1) : 0 ≤ mEdge h w ∧ mEdge h w ≤ 999 := by
  obtain ⟨-, -, -, -, h4, h5, h6, -⟩ := hI
  have key : ∀ x l : Int, 1 ≤ x → x ≤ 999 → 0 ≤ l → l ≤ 90 → 0 ≤ x - (x * l).tdiv 100 ∧ x - (x * l).tdiv 100 ≤ 999 := by
    intro x l a b c d
    have e1 : x * l ≤ x * 90 := Int.mul_le_mul_of_nonneg_left d (by omega)
    have e2 : 0 ≤ x * l := Int.mul_nonneg (by omega) c
    rw [Int.tdiv_eq_ediv_of_nonneg e2]
    omega
  rcases hw with rfl | rfl
  · show 0 ≤ h 4 - (if h 10 = 1 then (h 4 * h 6).tdiv 100 else 0) ∧ h 4 - (if h 10 = 1 then (h 4 * h 6).tdiv 100 else 0) ≤ 999
    split
    · exact key _ _ h4.1 h4.2 h6.1 h6.2
    · omega
  · show 0 ≤ h 5 - (if h 10 = 1 then (h 5 * h 6).tdiv 100 else 0) ∧ h 5 - (if h 10 = 1 then (h 5 * h 6).tdiv 100 else 0) ≤ 999
    split
    · exact key _ _ h5.1 h5.2 h6.1 h6.2
    · omega
theorem mKindBy_in (h : Nat → Int) (w : Int) : 0 ≤ mKindBy h w ∧ mKindBy h w ≤ 3 := by
  unfold mKindBy
  split
  · omega
  · split
    · omega
    · split <;> omega
theorem mKind_in (h : Nat → Int) (t : Int) : 0 ≤ mKind h t ∧ mKind h t ≤ 3 := mKindBy_in h _
theorem mBaseN_in {h : Nat → Int} (hI : MI h) : ∀ k : Nat, k ≤ 5 → 0 ≤ mBaseN h k ∧ mBaseN h k ≤ 9 * (k : Int)
  | 0, _ => by simp [mBaseN]
  | k + 1, hk => by
    have h1 := mBaseN_in hI k (by omega)
    obtain ⟨-, -, -, -, -, -, -, -, -, -, -, -, -, hp, -⟩ := hI
    have h2 := (hp (k : Int) (by omega) (by omega)).1
    rw [mBaseN]
    omega
theorem mBase_in {h : Nat → Int} (hI : MI h) : 0 ≤ mBase h ∧ mBase h ≤ 45 := by
  have h0 := hI.1
  have h1 := mBaseN_in hI (h 0).toNat (by omega)
  unfold mBase
  omega
theorem mSingN_in {h : Nat → Int} (hI : MI h) : ∀ k : Nat, k ≤ 5 → 0 ≤ mSingN h k ∧ mSingN h k ≤ (k : Int)
  | 0, _ => by simp [mSingN]
  | k + 1, hk => by
    have h1 := mSingN_in hI k (by omega)
    obtain ⟨-, -, -, -, -, -, -, -, -, -, -, -, -, hp, -⟩ := hI
    have h2 := (hp (k : Int) (by omega) (by omega)).2
    rw [mSingN]
    omega
theorem mSing_in {h : Nat → Int} (hI : MI h) : 0 ≤ mSing h ∧ mSing h ≤ 5 := by
  have h0 := hI.1
  have h1 := mSingN_in hI (h 0).toNat (by omega)
  unfold mSing
  omega
set_option maxRecDepth 100000 in
set_option maxHeartbeats 4000000 in
theorem s6_isIn (v n : Int) (hv : x_in v) (hn : x_in n) (μ : xM) : X E0 [] 0 yX6_isIn cX6_isIn 2 (some .boolean) 0 [some (.inl v), some (.inl n)] [] μ (x_Q (mIn v n) μ) := by
  unfold x_in at hv hn
  refine x_iload_n (i := 0) dX6_isIn_0 rfl rfl ?_
  refine x_if_lt (tgt := 13) dX6_isIn_1 (by decide) (by first | (unfold x_in; omega) | (unfold x_in; decide)) (fun c1 => ?_) (fun c1 => ?_)
  · refine x_iconst dX6_isIn_13 ?_
    exact x_iret dX6_isIn_14 rfl (x_narZ (by first | exact Or.inl rfl | exact Or.inr rfl | omega)) (x_ok (by unfold mIn; first | (rw [if_pos (by omega)]; done) | (rw [if_neg (by omega)]; done)) (by rfl))
  · refine x_iload_n (i := 0) dX6_isIn_4 rfl rfl ?_
    refine x_iload_n (i := 1) dX6_isIn_5 rfl rfl ?_
    refine x_icmp_ge (tgt := 13) dX6_isIn_6 (by decide) (by first | (unfold x_in; omega) | (unfold x_in; decide)) (by first | (unfold x_in; omega) | (unfold x_in; decide)) (fun c2 => ?_) (fun c2 => ?_)
    · refine x_iconst dX6_isIn_13 ?_
      exact x_iret dX6_isIn_14 rfl (x_narZ (by first | exact Or.inl rfl | exact Or.inr rfl | omega)) (x_ok (by unfold mIn; first | (rw [if_pos (by omega)]; done) | (rw [if_neg (by omega)]; done)) (by rfl))
    · refine x_iconst dX6_isIn_9 ?_
      refine x_goto (tgt := 14) dX6_isIn_10 (by decide) ?_
      exact x_iret dX6_isIn_14 rfl (x_narZ (by first | exact Or.inl rfl | exact Or.inr rfl | omega)) (x_ok (by unfold mIn; first | (rw [if_pos (by omega)]; done) | (rw [if_neg (by omega)]; done)) (by rfl))
set_option maxRecDepth 100000 in
set_option maxHeartbeats 4000000 in
theorem s6_within (v a b : Int) (hv : x_in v) (ha : x_in a) (hb : x_in b) (μ : xM) : X E0 [] 0 yX6_within cX6_within 3 (some .int) 0 [some (.inl v), some (.inl a), some (.inl b)] [] μ (x_Q (mWithin v a b) μ) := by
  unfold x_in at hv ha hb
  refine x_iload_n (i := 0) dX6_within_0 rfl rfl ?_
  refine x_iload_n (i := 1) dX6_within_1 rfl rfl ?_
  refine x_icmp_ge (tgt := 10) dX6_within_2 (by decide) (by first | (unfold x_in; omega) | (unfold x_in; decide)) (by first | (unfold x_in; omega) | (unfold x_in; decide)) (fun c1 => ?_) (fun c1 => ?_)
  · refine x_iload_n (i := 0) dX6_within_10 rfl rfl ?_
    refine x_iload_n (i := 2) dX6_within_11 rfl rfl ?_
    refine x_icmp_le (tgt := 20) dX6_within_12 (by decide) (by first | (unfold x_in; omega) | (unfold x_in; decide)) (by first | (unfold x_in; omega) | (unfold x_in; decide)) (fun c2 => ?_) (fun c2 => ?_)
    · refine x_iconst dX6_within_20 ?_
      exact x_iret dX6_within_21 rfl rfl (x_ok (by unfold mWithin; first | (rw [if_pos (by omega)]; done) | (rw [if_neg (by omega), if_pos (by omega)]; done) | (rw [if_neg (by omega), if_neg (by omega)]; done)) (by rfl))
    · refine x_bipush dX6_within_15 (by decide) ?_
      refine x_goto (tgt := 21) dX6_within_17 (by decide) ?_
      exact x_iret dX6_within_21 rfl rfl (x_ok (by unfold mWithin; first | (rw [if_pos (by omega)]; done) | (rw [if_neg (by omega), if_pos (by omega)]; done) | (rw [if_neg (by omega), if_neg (by omega)]; done)) (by rfl))
  · refine x_bipush dX6_within_5 (by decide) ?_
    refine x_goto (tgt := 21) dX6_within_7 (by decide) ?_
    exact x_iret dX6_within_21 rfl rfl (x_ok (by unfold mWithin; first | (rw [if_pos (by omega)]; done) | (rw [if_neg (by omega), if_pos (by omega)]; done) | (rw [if_neg (by omega), if_neg (by omega)]; done)) (by rfl))
set_option maxRecDepth 100000 in
set_option maxHeartbeats 4000000 in
theorem s6_least (w : Int) (hw : x_in w) (μ : xM) : X E0 [] 0 yX6_least cX6_least 1 (some .int) 0 [some (.inl w)] [] μ (x_Q (mLeast w) μ) := by
  unfold x_in at hw
  refine x_iload_n (i := 0) dX6_least_0 rfl rfl ?_
  refine x_iconst dX6_least_1 ?_
  refine x_icmp_lt (tgt := 10) dX6_least_2 (by decide) (by first | (unfold x_in; omega) | (unfold x_in; decide)) (by first | (unfold x_in; omega) | (unfold x_in; decide)) (fun c1 => ?_) (fun c1 => ?_)
  · refine x_iconst dX6_least_10 ?_
    refine x_goto (tgt := 15) dX6_least_11 (by decide) ?_
    exact x_iret dX6_least_15 rfl rfl (x_ok (by unfold mLeast; first | (rw [if_pos (by omega)]; done) | (rw [if_neg (by omega)]; done)) (by rfl))
  · refine x_iload_n (i := 0) dX6_least_5 rfl rfl ?_
    refine x_iconst dX6_least_6 ?_
    refine x_icmp_ne (tgt := 14) dX6_least_7 (by decide) (by first | (unfold x_in; omega) | (unfold x_in; decide)) (by first | (unfold x_in; omega) | (unfold x_in; decide)) (fun c2 => ?_) (fun c2 => ?_)
    · refine x_iconst dX6_least_14 ?_
      exact x_iret dX6_least_15 rfl rfl (x_ok (by unfold mLeast; first | (rw [if_pos (by omega)]; done) | (rw [if_neg (by omega)]; done)) (by rfl))
    · refine x_iconst dX6_least_10 ?_
      refine x_goto (tgt := 15) dX6_least_11 (by decide) ?_
      exact x_iret dX6_least_15 rfl rfl (x_ok (by unfold mLeast; first | (rw [if_pos (by omega)]; done) | (rw [if_neg (by omega)]; done)) (by rfl))
set_option maxRecDepth 100000 in
set_option maxHeartbeats 4000000 in
theorem s6_most (w : Int) (hw : x_in w) (μ : xM) : X E0 [] 0 yX6_most cX6_most 1 (some .int) 0 [some (.inl w)] [] μ (x_Q (mMost w) μ) := by
  unfold x_in at hw
  refine x_iload_n (i := 0) dX6_most_0 rfl rfl ?_
  refine x_tab8 (td := 63) (t0 := 48) (t1 := 48) (t2 := 52) (t3 := 55) (t4 := 55) (t5 := 58) (t6 := 63) (t7 := 61) dX6_most_1 (by first | (unfold x_in; omega) | (unfold x_in; decide)) (by decide) (by decide) (by decide) (by decide) (by decide) (by decide) (by decide) (by decide) (by decide) (by decide) (fun c1 => ?_) (fun c1 => ?_) (fun c1 => ?_) (fun c1 => ?_) (fun c1 => ?_) (fun c1 => ?_) (fun c1 => ?_) (fun c1 => ?_) (fun c1 => ?_)
  · refine x_sipush dX6_most_48 (by decide) ?_
    exact x_iret dX6_most_51 rfl rfl (x_ok (by unfold mMost; first | (subst c1; rfl) | (repeat rw [if_neg (by omega)])) (by rfl))
  · refine x_sipush dX6_most_48 (by decide) ?_
    exact x_iret dX6_most_51 rfl rfl (x_ok (by unfold mMost; first | (subst c1; rfl) | (repeat rw [if_neg (by omega)])) (by rfl))
  · refine x_bipush dX6_most_52 (by decide) ?_
    exact x_iret dX6_most_54 rfl rfl (x_ok (by unfold mMost; first | (subst c1; rfl) | (repeat rw [if_neg (by omega)])) (by rfl))
  · refine x_bipush dX6_most_55 (by decide) ?_
    exact x_iret dX6_most_57 rfl rfl (x_ok (by unfold mMost; first | (subst c1; rfl) | (repeat rw [if_neg (by omega)])) (by rfl))
  · refine x_bipush dX6_most_55 (by decide) ?_
    exact x_iret dX6_most_57 rfl rfl (x_ok (by unfold mMost; first | (subst c1; rfl) | (repeat rw [if_neg (by omega)])) (by rfl))
  · refine x_bipush dX6_most_58 (by decide) ?_
    exact x_iret dX6_most_60 rfl rfl (x_ok (by unfold mMost; first | (subst c1; rfl) | (repeat rw [if_neg (by omega)])) (by rfl))
  · refine x_iconst dX6_most_63 ?_
    exact x_iret dX6_most_64 rfl rfl (x_ok (by unfold mMost; first | (subst c1; rfl) | (repeat rw [if_neg (by omega)])) (by rfl))
  · refine x_iconst dX6_most_61 ?_
    exact x_iret dX6_most_62 rfl rfl (x_ok (by unfold mMost; first | (subst c1; rfl) | (repeat rw [if_neg (by omega)])) (by rfl))
  · refine x_iconst dX6_most_63 ?_
    exact x_iret dX6_most_64 rfl rfl (x_ok (by unfold mMost; first | (subst c1; rfl) | (repeat rw [if_neg (by omega)])) (by rfl))
set_option maxRecDepth 100000 in
set_option maxHeartbeats 4000000 in
theorem s6_refuse (code : Int) (hc : -6 ≤ code ∧ code ≤ -1) (μ : xM) : X E0 shM 1 yX6_refuse cX6_refuse 2 (some .int) 0 [some (.inr (.inl 0)), some (.inl code)] [] μ (x_Q code (mRef μ code)) := by
  refine x_aload_n (i := 0) dX6_refuse_0 rfl rfl ?_
  refine x_getR xf_RX6_7 dX6_refuse_1 rfl rfl ?_
  refine x_iload_n (i := 1) dX6_refuse_4 rfl rfl ?_
  refine x_ineg dX6_refuse_5 ?_
  refine x_dup2 dX6_refuse_6 ?_
  refine x_iald dX6_refuse_7 rfl (by decide) (by first | omega | decide) (by first | omega | decide) ?_
  refine x_iconst dX6_refuse_8 ?_
  refine x_iadd dX6_refuse_9 ?_
  refine x_iast dX6_refuse_10 rfl (by decide) (by first | omega | decide) (by first | omega | decide) ?_
  refine x_iload_n (i := 1) dX6_refuse_11 rfl rfl ?_
  exact x_iret dX6_refuse_12 rfl rfl (x_ok (by first | rfl | omega | (simp [*]; done)) (by rfl))
set_option maxRecDepth 100000 in
set_option maxHeartbeats 4000000 in
theorem s6_isPiece (p : Int) (hp : x_in p) (μ : xM) (hI : MI (μ 2)) : X E0 shM 1 yX6_isPiece cX6_isPiece 2 (some .boolean) 0 [some (.inr (.inl 0)), some (.inl p)] [] μ (x_Q (mIn p (μ 2 0)) μ) := by
  have h0 := hI.1
  refine x_iload_n (i := 1) dX6_isPiece_0 rfl rfl ?_
  refine x_aload_n (i := 0) dX6_isPiece_1 rfl rfl ?_
  refine x_getR xf_RX6_13 dX6_isPiece_2 rfl rfl ?_
  refine x_iconst dX6_isPiece_5 ?_
  refine x_ialdK (K := 0) dX6_isPiece_6 rfl rfl (by decide) (by decide) ?_
  refine x_cS_2 lk_RX6_46 xm_X6_isIn dX6_isPiece_7 (s6_isIn _ _ hp (by unfold x_in; omega) _) ?_
  exact x_iret dX6_isPiece_10 rfl (x_narZ (by unfold mIn; split <;> simp)) (x_ok (by first | rfl | omega | (simp [*]; done)) (by rfl))
set_option maxRecDepth 100000 in
set_option maxHeartbeats 4000000 in
theorem s6_isTrain (p : Int) (hp : x_in p) (μ : xM) (hI : MI (μ 2)) : X E0 shM 1 yX6_isTrain cX6_isTrain 2 (some .boolean) 0 [some (.inr (.inl 0)), some (.inl p)] [] μ (x_Q (mIn p (μ 2 1)) μ) := by
  have h0 := hI.2.1
  refine x_iload_n (i := 1) dX6_isTrain_0 rfl rfl ?_
  refine x_aload_n (i := 0) dX6_isTrain_1 rfl rfl ?_
  refine x_getR xf_RX6_13 dX6_isTrain_2 rfl rfl ?_
  refine x_iconst dX6_isTrain_5 ?_
  refine x_ialdK (K := 1) dX6_isTrain_6 rfl rfl (by decide) (by decide) ?_
  refine x_cS_2 lk_RX6_46 xm_X6_isIn dX6_isTrain_7 (s6_isIn _ _ hp (by unfold x_in; omega) _) ?_
  exact x_iret dX6_isTrain_10 rfl (x_narZ (by unfold mIn; split <;> simp)) (x_ok (by first | rfl | omega | (simp [*]; done)) (by rfl))
set_option maxRecDepth 100000 in
set_option maxHeartbeats 4000000 in
theorem s6_edgeBy (w : Int) (hw : w = 0 ∨ w = 1) (μ : xM) (hI : MI (μ 2)) : X E0 shM 0 yX6_edgeBy cX6_edgeBy 2 (some .int) 0 [some (.inr (.inl 0)), some (.inl w)] [] μ (x_Q (mEdge (μ 2) w) μ) := by
  have hh := hI
  obtain ⟨-, -, -, -, h4, h5, h6, h7, h8, h9, h10, -⟩ := hh
  have hv : 1 ≤ μ 2 (4 + w).toNat ∧ μ 2 (4 + w).toNat ≤ 999 := by
    rcases hw with rfl | rfl
    · exact h4
    · exact h5
  have hm : 0 ≤ μ 2 (4 + w).toNat * μ 2 6 ∧ μ 2 (4 + w).toNat * μ 2 6 ≤ 999 * 90 := ⟨Int.mul_nonneg (by omega) (by omega), Int.mul_le_mul hv.2 h6.2 (by omega) (by omega)⟩
  refine x_aload_n (i := 0) dX6_edgeBy_0 rfl rfl ?_
  refine x_getR xf_RX6_13 dX6_edgeBy_1 rfl rfl ?_
  refine x_iconst dX6_edgeBy_4 ?_
  refine x_iload_n (i := 1) dX6_edgeBy_5 rfl rfl ?_
  refine x_iadd dX6_edgeBy_6 ?_
  refine x_iald dX6_edgeBy_7 rfl (by decide) (by first | omega | decide) (by first | omega | decide) ?_
  refine x_aload_n (i := 0) dX6_edgeBy_8 rfl rfl ?_
  refine x_getR xf_RX6_13 dX6_edgeBy_9 rfl rfl ?_
  refine x_bipush dX6_edgeBy_12 (by decide) ?_
  refine x_ialdK (K := 10) dX6_edgeBy_14 rfl rfl (by decide) (by decide) ?_
  refine x_iconst dX6_edgeBy_15 ?_
  refine x_icmp_ne (tgt := 41) dX6_edgeBy_16 (by decide) (by first | (unfold x_in; omega) | (unfold x_in; decide)) (by first | (unfold x_in; omega) | (unfold x_in; decide)) (fun c1 => ?_) (fun c1 => ?_)
  · refine x_iconst dX6_edgeBy_41 ?_
    refine x_isub dX6_edgeBy_42 ?_
    exact x_iret dX6_edgeBy_43 rfl rfl (x_ok (by unfold mEdge; first | (rw [if_pos (by omega)]; done) | (rw [if_neg (by omega)]; done)) (by rfl))
  · refine x_aload_n (i := 0) dX6_edgeBy_19 rfl rfl ?_
    refine x_getR xf_RX6_13 dX6_edgeBy_20 rfl rfl ?_
    refine x_iconst dX6_edgeBy_23 ?_
    refine x_iload_n (i := 1) dX6_edgeBy_24 rfl rfl ?_
    refine x_iadd dX6_edgeBy_25 ?_
    refine x_iald dX6_edgeBy_26 rfl (by decide) (by first | omega | decide) (by first | omega | decide) ?_
    refine x_aload_n (i := 0) dX6_edgeBy_27 rfl rfl ?_
    refine x_getR xf_RX6_13 dX6_edgeBy_28 rfl rfl ?_
    refine x_bipush dX6_edgeBy_31 (by decide) ?_
    refine x_ialdK (K := 6) dX6_edgeBy_33 rfl rfl (by decide) (by decide) ?_
    refine x_imul dX6_edgeBy_34 ?_
    refine x_bipush dX6_edgeBy_35 (by decide) ?_
    refine x_idiv dX6_edgeBy_37 (by first | (unfold x_in; omega) | (unfold x_in; decide)) (by first | (unfold x_in; omega) | (unfold x_in; decide)) (by unfold x_in; rw [Int.tdiv_eq_ediv_of_nonneg hm.1]; omega) (by decide) ?_
    refine x_goto (tgt := 42) dX6_edgeBy_38 (by decide) ?_
    refine x_isub dX6_edgeBy_42 ?_
    exact x_iret dX6_edgeBy_43 rfl rfl (x_ok (by unfold mEdge; first | (rw [if_pos (by omega)]; done) | (rw [if_neg (by omega)]; done)) (by rfl))
set_option maxRecDepth 100000 in
set_option maxHeartbeats 4000000 in
theorem s6_kindBy (w : Int) (hw : 0 ≤ w ∧ w ≤ 1000) (μ : xM) (hI : MI (μ 2)) : X E0 shM 1 yX6_kindBy cX6_kindBy 2 (some .int) 0 [some (.inr (.inl 0)), some (.inl w)] [] μ (x_Q (mKindBy (μ 2) w) μ) := by
  have e0 := mEdge_in hI (Or.inl rfl)
  have e1 := mEdge_in hI (Or.inr rfl)
  refine x_iload_n (i := 1) dX6_kindBy_0 rfl rfl ?_
  refine x_aload_n (i := 0) dX6_kindBy_1 rfl rfl ?_
  refine x_iconst dX6_kindBy_2 ?_
  refine x_cIp0_1 lk_RX6_103 xm_X6_edgeBy dX6_kindBy_3 (s6_edgeBy _ (Or.inl rfl) _ hI) ?_
  refine x_icmp_gt (tgt := 11) dX6_kindBy_6 (by decide) (by first | (unfold x_in; omega) | (unfold x_in; decide) | (unfold x_in; rw [Int.tdiv_eq_ediv_of_nonneg (by omega)]; omega)) (by first | (unfold x_in; omega) | (unfold x_in; decide) | (unfold x_in; rw [Int.tdiv_eq_ediv_of_nonneg (by omega)]; omega)) (fun c1 => ?_) (fun c1 => ?_)
  · refine x_iload_n (i := 1) dX6_kindBy_11 rfl rfl ?_
    refine x_aload_n (i := 0) dX6_kindBy_12 rfl rfl ?_
    refine x_iconst dX6_kindBy_13 ?_
    refine x_cIp0_1 lk_RX6_103 xm_X6_edgeBy dX6_kindBy_14 (s6_edgeBy _ (Or.inr rfl) _ hI) ?_
    refine x_icmp_gt (tgt := 22) dX6_kindBy_17 (by decide) (by first | (unfold x_in; omega) | (unfold x_in; decide) | (unfold x_in; rw [Int.tdiv_eq_ediv_of_nonneg (by omega)]; omega)) (by first | (unfold x_in; omega) | (unfold x_in; decide) | (unfold x_in; rw [Int.tdiv_eq_ediv_of_nonneg (by omega)]; omega)) (fun c2 => ?_) (fun c2 => ?_)
    · refine x_iload_n (i := 1) dX6_kindBy_22 rfl rfl ?_
      refine x_iconst dX6_kindBy_23 ?_
      refine x_iadd dX6_kindBy_24 ?_
      refine x_iconst dX6_kindBy_25 ?_
      refine x_idiv dX6_kindBy_26 (by first | (unfold x_in; omega) | (unfold x_in; decide) | (unfold x_in; rw [Int.tdiv_eq_ediv_of_nonneg (by omega)]; omega)) (by first | (unfold x_in; omega) | (unfold x_in; decide) | (unfold x_in; rw [Int.tdiv_eq_ediv_of_nonneg (by omega)]; omega)) (by unfold x_in; rw [Int.tdiv_eq_ediv_of_nonneg (by omega)]; omega) (by decide) ?_
      refine x_aload_n (i := 0) dX6_kindBy_27 rfl rfl ?_
      refine x_iconst dX6_kindBy_28 ?_
      refine x_cIp0_1 lk_RX6_103 xm_X6_edgeBy dX6_kindBy_29 (s6_edgeBy _ (Or.inr rfl) _ hI) ?_
      refine x_icmp_gt (tgt := 39) dX6_kindBy_32 (by decide) (by first | (unfold x_in; omega) | (unfold x_in; decide) | (unfold x_in; rw [Int.tdiv_eq_ediv_of_nonneg (by omega)]; omega)) (by first | (unfold x_in; omega) | (unfold x_in; decide) | (unfold x_in; rw [Int.tdiv_eq_ediv_of_nonneg (by omega)]; omega)) (fun c3 => ?_) (fun c3 => ?_)
      · refine x_iconst dX6_kindBy_39 ?_
        exact x_iret dX6_kindBy_40 rfl rfl (x_ok (by unfold mKindBy; first | (rw [if_pos (by omega)]; done) | (rw [if_neg (by omega), if_pos (by omega)]; done) | (rw [if_neg (by omega), if_neg (by omega), if_pos (by omega)]; done) | (rw [if_neg (by omega), if_neg (by omega), if_neg (by omega)]; done)) (by rfl))
      · refine x_iconst dX6_kindBy_35 ?_
        refine x_goto (tgt := 40) dX6_kindBy_36 (by decide) ?_
        exact x_iret dX6_kindBy_40 rfl rfl (x_ok (by unfold mKindBy; first | (rw [if_pos (by omega)]; done) | (rw [if_neg (by omega), if_pos (by omega)]; done) | (rw [if_neg (by omega), if_neg (by omega), if_pos (by omega)]; done) | (rw [if_neg (by omega), if_neg (by omega), if_neg (by omega)]; done)) (by rfl))
    · refine x_iconst dX6_kindBy_20 ?_
      exact x_iret dX6_kindBy_21 rfl rfl (x_ok (by unfold mKindBy; first | (rw [if_pos (by omega)]; done) | (rw [if_neg (by omega), if_pos (by omega)]; done) | (rw [if_neg (by omega), if_neg (by omega), if_pos (by omega)]; done) | (rw [if_neg (by omega), if_neg (by omega), if_neg (by omega)]; done)) (by rfl))
  · refine x_iconst dX6_kindBy_9 ?_
    exact x_iret dX6_kindBy_10 rfl rfl (x_ok (by unfold mKindBy; first | (rw [if_pos (by omega)]; done) | (rw [if_neg (by omega), if_pos (by omega)]; done) | (rw [if_neg (by omega), if_neg (by omega), if_pos (by omega)]; done) | (rw [if_neg (by omega), if_neg (by omega), if_neg (by omega)]; done)) (by rfl))
