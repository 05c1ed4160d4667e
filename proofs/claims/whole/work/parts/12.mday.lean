/-! THE REFERENCE, a day's steps -/
abbrev mLD (μ : xM) (m : Int) : Prop := μ 0 17 ≤ m ∧ μ 2 9 ≤ m - μ 0 16 ∧ (mSing (μ 2) = 0 ∨ bI (mUp μ) = 0)
abbrev mLU (μ : xM) (m t : Int) : Prop := μ 0 17 ≤ m ∧ μ 2 9 ≤ m - μ 0 15 ∧ (mSing (μ 2) ≤ 0 ∨ bI (mDn μ) = 0) ∧ (mKind (μ 2) t ≠ 2 ∨ (bI (mUp μ) = 0 ∧ bI (mDn μ) = 0))
abbrev mHE (μ : xM) (t : Int) : Prop := mKind (μ 2) t = 0 ∨ 0 < μ 0 12
abbrev mWA (μ : xM) (m t : Int) : Prop := μ 9 t.toNat < 0 ∧ mCm (μ 2) t ≤ m ∧ mKind (μ 2) t ≠ 3
theorem bd_t {P : Prop} [Decidable P] (h : P) : (1 : Int) = bI (decide P) := by rw [decide_eq_true h]; rfl
theorem bd_f {P : Prop} [Decidable P] (h : ¬ P) : (0 : Int) = bI (decide P) := by rw [decide_eq_false h]; rfl
theorem bd_of_t {P : Prop} [Decidable P] (h : bI (decide P) ≠ 0) : P := of_decide_eq_true (bI_t h)
theorem bd_of_f {P : Prop} [Decidable P] (h : bI (decide P) = 0) : ¬ P := of_decide_eq_false (bI_f h)
/-- the place of a train in the order told, 8 behind it -/
def mPlN (h : Nat → Int) (t : Int) : Nat → Int → Int
  | 0, _ => 8
  | n + 1, k => if h (39 + k).toNat = t then k else mPlN h t n (k + 1)
def mPl (h : Nat → Int) (t : Int) : Int := mPlN h t (h 3).toNat 0
def mKey (h : Nat → Int) (t : Int) : Int := if h 11 = 1 then -mWt h t else if h 11 = 2 then mWt h t else if h 11 = 3 then mPl h t else 0
abbrev mAh (h : Nat → Int) (a b : Int) : Prop := mKey h a < mKey h b ∨ (mKey h a = mKey h b ∧ (mCm h a < mCm h b ∨ (mCm h a = mCm h b ∧ a < b)))
theorem mPlN_in (h : Nat → Int) (t : Int) : ∀ (n : Nat) (k : Int), 0 ≤ k → k + n ≤ 8 → 0 ≤ mPlN h t n k ∧ mPlN h t n k ≤ 8
  | 0, k, _, _ => by simp [mPlN]
  | n + 1, k, h0, h8 => by
    rw [mPlN]
    split
    · omega
    · exact mPlN_in h t n (k + 1) (by omega) (by omega)
theorem mPl_in {h : Nat → Int} (hI : MI h) (t : Int) : 0 ≤ mPl h t ∧ mPl h t ≤ 8 := by
  obtain ⟨-, -, -, h3, -⟩ := hI
  exact mPlN_in h t _ 0 (by omega) (by omega)
theorem mKey_in {h : Nat → Int} (hI : MI h) {t : Int} (h0 : 0 ≤ t) (h8 : t < 8) : -999 ≤ mKey h t ∧ mKey h t ≤ 999 := by
  have h1 := mWt_in hI h0 h8
  have h2 := mPl_in hI t
  unfold mKey
  split
  · omega
  · split
    · omega
    · split <;> omega
def mOp1 (μ : xM) : Nat → xM
  | 0 => μ
  | k + 1 => x_st (x_st (mOp1 μ k) 7 k (-9)) 9 k (-9)
def mOp2 (μ : xM) : xM := x_st (x_st (x_st (x_st (x_st (x_st μ 0 12 (μ 2 2)) 0 13 0) 0 14 0) 0 15 (-9999)) 0 16 (-9999)) 0 17 0
def mOp3 (μ : xM) : Nat → xM
  | 0 => μ
  | k + 1 => x_st (mOp3 μ k) 8 k (-9)
def mOpens (μ : xM) : xM := mOp3 (mOp2 (mOp1 μ 8)) 6
theorem mOp1_s (μ : xM) {p : Int} (hp : 0 ≤ p) : mOp1 μ (p + 1).toNat = x_st (x_st (mOp1 μ p.toNat) 7 p.toNat (-9)) 9 p.toNat (-9) := by rw [nat_succ hp, mOp1]
theorem mOp3_s (μ : xM) {p : Int} (hp : 0 ≤ p) : mOp3 μ (p + 1).toNat = x_st (mOp3 μ p.toNat) 8 p.toNat (-9) := by rw [nat_succ hp, mOp3]
theorem mOp1_2 (μ : xM) : ∀ k, mOp1 μ k 2 = μ 2
  | 0 => rfl
  | k + 1 => mOp1_2 μ k
/-- what is done at a minute is done -/
def mEndU1 (m t : Int) (μ : xM) : xM := if 0 ≤ μ 7 t.toNat ∧ μ 7 t.toNat ≤ m then x_st (x_st μ 7 t.toNat (-9)) 0 13 (μ 0 13 + (if 0 < mKind (μ 2) t then 1 else 0)) else μ
def mEndU (m : Int) (μ : xM) : Nat → xM
  | 0 => μ
  | k + 1 => mEndU1 m k (mEndU m μ k)
def mEndD1 (m k : Int) (μ : xM) : xM := if 0 ≤ μ 8 k.toNat ∧ μ 8 k.toNat ≤ m then x_st (x_st μ 8 k.toNat (-9)) 0 12 (μ 0 12 + 1) else μ
def mEndD (m : Int) (μ : xM) : Nat → xM
  | 0 => μ
  | k + 1 => mEndD1 m k (mEndD m μ k)
def mEnds (m : Int) (μ : xM) : xM := mEndD m (mEndU m μ (μ 2 1).toNat) 6
theorem mEndU_s (m : Int) (μ : xM) {p : Int} (hp : 0 ≤ p) : mEndU m μ (p + 1).toNat = mEndU1 m p (mEndU m μ p.toNat) := by rw [nat_succ hp, mEndU, nat_back hp]
theorem mEndD_s (m : Int) (μ : xM) {p : Int} (hp : 0 ≤ p) : mEndD m μ (p + 1).toNat = mEndD1 m p (mEndD m μ p.toNat) := by rw [nat_succ hp, mEndD, nat_back hp]
def mGD (μ : xM) (k : Nat) (m : Int) : xM := x_st (x_st (x_st (x_st μ 0 13 (μ 0 13 - 1)) 8 k (m + mBase (μ 2))) 0 16 m) 0 14 (μ 0 14 + 1)
def mGU (μ : xM) (m t : Int) : xM := x_st (x_st (x_st (x_st (x_st μ 0 12 (μ 0 12 - (if 0 < mKind (μ 2) t then 1 else 0))) 7 t.toNat (m + mTakes (μ 2) t)) 0 17 (if mKind (μ 2) t = 2 then m + mTakes (μ 2) t else μ 0 17)) 9 t.toNat m) 0 15 m
set_option maxRecDepth 100000 in
set_option maxHeartbeats 4000000 in
theorem s6_letsDown (m : Int) (hm : 0 ≤ m ∧ m ≤ 10000) (μ : xM) (hI : MI (μ 2)) (hB : DB μ) : X E0 shM 1 yX6_letsDown cX6_letsDown 2 (some .boolean) 0 [some (.inr (.inl 0)), some (.inl m)] [] μ (x_Q (bI (decide (mLD μ m))) μ) := by
  have hB2 := hB
  obtain ⟨b12, b13, b15, b16, b17, b7, b8⟩ := hB2
  have h0 := hI.2.1
  have hsg := mSing_in hI
  have hu := bI_in (mUp μ)
  have hd := bI_in (mDn μ)
  have hh := hI
  obtain ⟨-, -, -, -, -, -, -, -, -, h9, h10, h11, h12, -⟩ := hh
  refine x_iload_n (i := 1) dX6_letsDown_0 rfl rfl ?_
  refine x_aload_n (i := 0) dX6_letsDown_1 rfl rfl ?_
  refine x_getI xf_RX6_136 dX6_letsDown_2 rfl rfl ?_
  refine x_icmp_lt (tgt := 42) dX6_letsDown_5 (by decide) (by first | (unfold x_in; omega) | (unfold x_in; decide)) (by first | (unfold x_in; omega) | (unfold x_in; decide)) (fun c1 => ?_) (fun c1 => ?_)
  · refine x_iconst dX6_letsDown_42 ?_
    exact x_iret dX6_letsDown_43 rfl (x_narZ (by first | exact Or.inl rfl | exact Or.inr rfl | omega)) (x_ok (by first | exact bd_t (by unfold mLD; omega) | exact bd_f (by unfold mLD; omega)) (by rfl))
  · refine x_iload_n (i := 1) dX6_letsDown_8 rfl rfl ?_
    refine x_aload_n (i := 0) dX6_letsDown_9 rfl rfl ?_
    refine x_getI xf_RX6_133 dX6_letsDown_10 rfl rfl ?_
    refine x_isub dX6_letsDown_13 ?_
    refine x_aload_n (i := 0) dX6_letsDown_14 rfl rfl ?_
    refine x_getR xf_RX6_13 dX6_letsDown_15 rfl rfl ?_
    refine x_bipush dX6_letsDown_18 (by decide) ?_
    refine x_ialdK (K := 9) dX6_letsDown_20 rfl rfl (by decide) (by decide) ?_
    refine x_icmp_lt (tgt := 42) dX6_letsDown_21 (by decide) (by first | (unfold x_in; omega) | (unfold x_in; decide)) (by first | (unfold x_in; omega) | (unfold x_in; decide)) (fun c2 => ?_) (fun c2 => ?_)
    · refine x_iconst dX6_letsDown_42 ?_
      exact x_iret dX6_letsDown_43 rfl (x_narZ (by first | exact Or.inl rfl | exact Or.inr rfl | omega)) (x_ok (by first | exact bd_t (by unfold mLD; omega) | exact bd_f (by unfold mLD; omega)) (by rfl))
    · refine x_aload_n (i := 0) dX6_letsDown_24 rfl rfl ?_
      refine x_cIp0_0 lk_RX6_139 xm_X6_singles dX6_letsDown_25 (s6_singles _ hI) ?_
      refine x_if_eq (tgt := 38) dX6_letsDown_28 (by decide) (by first | (unfold x_in; omega) | (unfold x_in; decide)) (fun c3 => ?_) (fun c3 => ?_)
      · refine x_iconst dX6_letsDown_38 ?_
        refine x_goto (tgt := 43) dX6_letsDown_39 (by decide) ?_
        exact x_iret dX6_letsDown_43 rfl (x_narZ (by first | exact Or.inl rfl | exact Or.inr rfl | omega)) (x_ok (by first | exact bd_t (by unfold mLD; omega) | exact bd_f (by unfold mLD; omega)) (by rfl))
      · refine x_aload_n (i := 0) dX6_letsDown_31 rfl rfl ?_
        refine x_cIp0_0 lk_RX6_142 xm_X6_isUp dX6_letsDown_32 (s6_isUp _ hI hB) ?_
        refine x_if_ne (tgt := 42) dX6_letsDown_35 (by decide) (by first | (unfold x_in; omega) | (unfold x_in; decide)) (fun c4 => ?_) (fun c4 => ?_)
        · refine x_iconst dX6_letsDown_42 ?_
          exact x_iret dX6_letsDown_43 rfl (x_narZ (by first | exact Or.inl rfl | exact Or.inr rfl | omega)) (x_ok (by first | exact bd_t (by unfold mLD; omega) | exact bd_f (by unfold mLD; omega)) (by rfl))
        · refine x_iconst dX6_letsDown_38 ?_
          refine x_goto (tgt := 43) dX6_letsDown_39 (by decide) ?_
          exact x_iret dX6_letsDown_43 rfl (x_narZ (by first | exact Or.inl rfl | exact Or.inr rfl | omega)) (x_ok (by first | exact bd_t (by unfold mLD; omega) | exact bd_f (by unfold mLD; omega)) (by rfl))
set_option maxRecDepth 100000 in
set_option maxHeartbeats 4000000 in
theorem s6_letsUp (m t : Int) (hm : 0 ≤ m ∧ m ≤ 10000) (ht : 0 ≤ t ∧ t < 8) (μ : xM) (hI : MI (μ 2)) (hB : DB μ) : X E0 shM 3 yX6_letsUp cX6_letsUp 3 (some .boolean) 0 [some (.inr (.inl 0)), some (.inl m), some (.inl t)] [] μ (x_Q (bI (decide (mLU μ m t))) μ) := by
  have hB2 := hB
  obtain ⟨b12, b13, b15, b16, b17, b7, b8⟩ := hB2
  have h0 := hI.2.1
  have hsg := mSing_in hI
  have hu := bI_in (mUp μ)
  have hd := bI_in (mDn μ)
  have hh := hI
  obtain ⟨-, -, -, -, -, -, -, -, -, h9, h10, h11, h12, -⟩ := hh
  have hk := mKind_in (μ 2) t
  refine x_iload_n (i := 1) dX6_letsUp_0 rfl rfl ?_
  refine x_aload_n (i := 0) dX6_letsUp_1 rfl rfl ?_
  refine x_getI xf_RX6_136 dX6_letsUp_2 rfl rfl ?_
  refine x_icmp_lt (tgt := 38) dX6_letsUp_5 (by decide) (by first | (unfold x_in; omega) | (unfold x_in; decide)) (by first | (unfold x_in; omega) | (unfold x_in; decide)) (fun c1 => ?_) (fun c1 => ?_)
  · refine x_iconst dX6_letsUp_38 ?_
    exact x_iret dX6_letsUp_39 rfl (x_narZ (by first | exact Or.inl rfl | exact Or.inr rfl | omega)) (x_ok (by first | exact bd_t (by unfold mLU; omega) | exact bd_f (by unfold mLU; omega)) (by rfl))
  · refine x_iload_n (i := 1) dX6_letsUp_8 rfl rfl ?_
    refine x_aload_n (i := 0) dX6_letsUp_9 rfl rfl ?_
    refine x_getI xf_RX6_130 dX6_letsUp_10 rfl rfl ?_
    refine x_isub dX6_letsUp_13 ?_
    refine x_aload_n (i := 0) dX6_letsUp_14 rfl rfl ?_
    refine x_getR xf_RX6_13 dX6_letsUp_15 rfl rfl ?_
    refine x_bipush dX6_letsUp_18 (by decide) ?_
    refine x_ialdK (K := 9) dX6_letsUp_20 rfl rfl (by decide) (by decide) ?_
    refine x_icmp_lt (tgt := 38) dX6_letsUp_21 (by decide) (by first | (unfold x_in; omega) | (unfold x_in; decide)) (by first | (unfold x_in; omega) | (unfold x_in; decide)) (fun c2 => ?_) (fun c2 => ?_)
    · refine x_iconst dX6_letsUp_38 ?_
      exact x_iret dX6_letsUp_39 rfl (x_narZ (by first | exact Or.inl rfl | exact Or.inr rfl | omega)) (x_ok (by first | exact bd_t (by unfold mLU; omega) | exact bd_f (by unfold mLU; omega)) (by rfl))
    · refine x_aload_n (i := 0) dX6_letsUp_24 rfl rfl ?_
      refine x_cIp0_0 lk_RX6_139 xm_X6_singles dX6_letsUp_25 (s6_singles _ hI) ?_
      refine x_if_le (tgt := 40) dX6_letsUp_28 (by decide) (by first | (unfold x_in; omega) | (unfold x_in; decide)) (fun c3 => ?_) (fun c3 => ?_)
      · refine x_aload_n (i := 0) dX6_letsUp_40 rfl rfl ?_
        refine x_iload_n (i := 2) dX6_letsUp_41 rfl rfl ?_
        refine x_cIp0_1 lk_RX6_112 xm_X6_kindOf dX6_letsUp_42 (s6_kindOf _ ht _ hI) ?_
        refine x_iconst dX6_letsUp_45 ?_
        refine x_icmp_ne (tgt := 63) dX6_letsUp_46 (by decide) (by first | (unfold x_in; omega) | (unfold x_in; decide)) (by first | (unfold x_in; omega) | (unfold x_in; decide)) (fun c4 => ?_) (fun c4 => ?_)
        · refine x_iconst dX6_letsUp_63 ?_
          refine x_goto (tgt := 68) dX6_letsUp_64 (by decide) ?_
          exact x_iret dX6_letsUp_68 rfl (x_narZ (by first | exact Or.inl rfl | exact Or.inr rfl | omega)) (x_ok (by first | exact bd_t (by unfold mLU; omega) | exact bd_f (by unfold mLU; omega)) (by rfl))
        · refine x_aload_n (i := 0) dX6_letsUp_49 rfl rfl ?_
          refine x_cIp0_0 lk_RX6_142 xm_X6_isUp dX6_letsUp_50 (s6_isUp _ hI hB) ?_
          refine x_if_ne (tgt := 67) dX6_letsUp_53 (by decide) (by first | (unfold x_in; omega) | (unfold x_in; decide)) (fun c5 => ?_) (fun c5 => ?_)
          · refine x_iconst dX6_letsUp_67 ?_
            exact x_iret dX6_letsUp_68 rfl (x_narZ (by first | exact Or.inl rfl | exact Or.inr rfl | omega)) (x_ok (by first | exact bd_t (by unfold mLU; omega) | exact bd_f (by unfold mLU; omega)) (by rfl))
          · refine x_aload_n (i := 0) dX6_letsUp_56 rfl rfl ?_
            refine x_cIp0_0 lk_RX6_145 xm_X6_isDown dX6_letsUp_57 (s6_isDown _ hI hB) ?_
            refine x_if_ne (tgt := 67) dX6_letsUp_60 (by decide) (by first | (unfold x_in; omega) | (unfold x_in; decide)) (fun c6 => ?_) (fun c6 => ?_)
            · refine x_iconst dX6_letsUp_67 ?_
              exact x_iret dX6_letsUp_68 rfl (x_narZ (by first | exact Or.inl rfl | exact Or.inr rfl | omega)) (x_ok (by first | exact bd_t (by unfold mLU; omega) | exact bd_f (by unfold mLU; omega)) (by rfl))
            · refine x_iconst dX6_letsUp_63 ?_
              refine x_goto (tgt := 68) dX6_letsUp_64 (by decide) ?_
              exact x_iret dX6_letsUp_68 rfl (x_narZ (by first | exact Or.inl rfl | exact Or.inr rfl | omega)) (x_ok (by first | exact bd_t (by unfold mLU; omega) | exact bd_f (by unfold mLU; omega)) (by rfl))
      · refine x_aload_n (i := 0) dX6_letsUp_31 rfl rfl ?_
        refine x_cIp0_0 lk_RX6_145 xm_X6_isDown dX6_letsUp_32 (s6_isDown _ hI hB) ?_
        refine x_if_eq (tgt := 40) dX6_letsUp_35 (by decide) (by first | (unfold x_in; omega) | (unfold x_in; decide)) (fun c4 => ?_) (fun c4 => ?_)
        · refine x_aload_n (i := 0) dX6_letsUp_40 rfl rfl ?_
          refine x_iload_n (i := 2) dX6_letsUp_41 rfl rfl ?_
          refine x_cIp0_1 lk_RX6_112 xm_X6_kindOf dX6_letsUp_42 (s6_kindOf _ ht _ hI) ?_
          refine x_iconst dX6_letsUp_45 ?_
          refine x_icmp_ne (tgt := 63) dX6_letsUp_46 (by decide) (by first | (unfold x_in; omega) | (unfold x_in; decide)) (by first | (unfold x_in; omega) | (unfold x_in; decide)) (fun c5 => ?_) (fun c5 => ?_)
          · refine x_iconst dX6_letsUp_63 ?_
            refine x_goto (tgt := 68) dX6_letsUp_64 (by decide) ?_
            exact x_iret dX6_letsUp_68 rfl (x_narZ (by first | exact Or.inl rfl | exact Or.inr rfl | omega)) (x_ok (by first | exact bd_t (by unfold mLU; omega) | exact bd_f (by unfold mLU; omega)) (by rfl))
          · refine x_aload_n (i := 0) dX6_letsUp_49 rfl rfl ?_
            refine x_cIp0_0 lk_RX6_142 xm_X6_isUp dX6_letsUp_50 (s6_isUp _ hI hB) ?_
            refine x_if_ne (tgt := 67) dX6_letsUp_53 (by decide) (by first | (unfold x_in; omega) | (unfold x_in; decide)) (fun c6 => ?_) (fun c6 => ?_)
            · refine x_iconst dX6_letsUp_67 ?_
              exact x_iret dX6_letsUp_68 rfl (x_narZ (by first | exact Or.inl rfl | exact Or.inr rfl | omega)) (x_ok (by first | exact bd_t (by unfold mLU; omega) | exact bd_f (by unfold mLU; omega)) (by rfl))
            · refine x_aload_n (i := 0) dX6_letsUp_56 rfl rfl ?_
              refine x_cIp0_0 lk_RX6_145 xm_X6_isDown dX6_letsUp_57 (s6_isDown _ hI hB) ?_
              refine x_if_ne (tgt := 67) dX6_letsUp_60 (by decide) (by first | (unfold x_in; omega) | (unfold x_in; decide)) (fun c7 => ?_) (fun c7 => ?_)
              · refine x_iconst dX6_letsUp_67 ?_
                exact x_iret dX6_letsUp_68 rfl (x_narZ (by first | exact Or.inl rfl | exact Or.inr rfl | omega)) (x_ok (by first | exact bd_t (by unfold mLU; omega) | exact bd_f (by unfold mLU; omega)) (by rfl))
              · refine x_iconst dX6_letsUp_63 ?_
                refine x_goto (tgt := 68) dX6_letsUp_64 (by decide) ?_
                exact x_iret dX6_letsUp_68 rfl (x_narZ (by first | exact Or.inl rfl | exact Or.inr rfl | omega)) (x_ok (by first | exact bd_t (by unfold mLU; omega) | exact bd_f (by unfold mLU; omega)) (by rfl))
        · refine x_iconst dX6_letsUp_38 ?_
          exact x_iret dX6_letsUp_39 rfl (x_narZ (by first | exact Or.inl rfl | exact Or.inr rfl | omega)) (x_ok (by first | exact bd_t (by unfold mLU; omega) | exact bd_f (by unfold mLU; omega)) (by rfl))
set_option maxRecDepth 100000 in
set_option maxHeartbeats 4000000 in
theorem s6_hasEngine (t : Int) (ht : 0 ≤ t ∧ t < 8) (μ : xM) (hI : MI (μ 2)) (hB : DB μ) : X E0 shM 3 yX6_hasEngine cX6_hasEngine 2 (some .boolean) 0 [some (.inr (.inl 0)), some (.inl t)] [] μ (x_Q (bI (decide (mHE μ t))) μ) := by
  have hB2 := hB
  obtain ⟨b12, b13, b15, b16, b17, b7, b8⟩ := hB2
  have h0 := hI.2.1
  have hsg := mSing_in hI
  have hu := bI_in (mUp μ)
  have hd := bI_in (mDn μ)
  have hh := hI
  obtain ⟨-, -, -, -, -, -, -, -, -, h9, h10, h11, h12, -⟩ := hh
  have hk := mKind_in (μ 2) t
  refine x_aload_n (i := 0) dX6_hasEngine_0 rfl rfl ?_
  refine x_iload_n (i := 1) dX6_hasEngine_1 rfl rfl ?_
  refine x_cIp0_1 lk_RX6_112 xm_X6_kindOf dX6_hasEngine_2 (s6_kindOf _ ht _ hI) ?_
  refine x_if_eq (tgt := 15) dX6_hasEngine_5 (by decide) (by first | (unfold x_in; omega) | (unfold x_in; decide)) (fun c1 => ?_) (fun c1 => ?_)
  · refine x_iconst dX6_hasEngine_15 ?_
    refine x_goto (tgt := 20) dX6_hasEngine_16 (by decide) ?_
    exact x_iret dX6_hasEngine_20 rfl (x_narZ (by first | exact Or.inl rfl | exact Or.inr rfl | omega)) (x_ok (by first | exact bd_t (by unfold mHE; omega) | exact bd_f (by unfold mHE; omega)) (by rfl))
  · refine x_aload_n (i := 0) dX6_hasEngine_8 rfl rfl ?_
    refine x_getI xf_RX6_121 dX6_hasEngine_9 rfl rfl ?_
    refine x_if_le (tgt := 19) dX6_hasEngine_12 (by decide) (by first | (unfold x_in; omega) | (unfold x_in; decide)) (fun c2 => ?_) (fun c2 => ?_)
    · refine x_iconst dX6_hasEngine_19 ?_
      exact x_iret dX6_hasEngine_20 rfl (x_narZ (by first | exact Or.inl rfl | exact Or.inr rfl | omega)) (x_ok (by first | exact bd_t (by unfold mHE; omega) | exact bd_f (by unfold mHE; omega)) (by rfl))
    · refine x_iconst dX6_hasEngine_15 ?_
      refine x_goto (tgt := 20) dX6_hasEngine_16 (by decide) ?_
      exact x_iret dX6_hasEngine_20 rfl (x_narZ (by first | exact Or.inl rfl | exact Or.inr rfl | omega)) (x_ok (by first | exact bd_t (by unfold mHE; omega) | exact bd_f (by unfold mHE; omega)) (by rfl))
set_option maxRecDepth 100000 in
set_option maxHeartbeats 4000000 in
theorem s6_waits (m t : Int) (hm : 0 ≤ m ∧ m ≤ 10000) (ht : 0 ≤ t ∧ t < 8) (μ : xM) (hI : MI (μ 2)) (hB : DB μ) : X E0 shM 3 yX6_waits cX6_waits 3 (some .boolean) 0 [some (.inr (.inl 0)), some (.inl m), some (.inl t)] [] μ (x_Q (bI (decide (mWA μ m t))) μ) := by
  have hB2 := hB
  obtain ⟨b12, b13, b15, b16, b17, b7, b8⟩ := hB2
  have h0 := hI.2.1
  have hsg := mSing_in hI
  have hu := bI_in (mUp μ)
  have hd := bI_in (mDn μ)
  have hh := hI
  obtain ⟨-, -, -, -, -, -, -, -, -, h9, h10, h11, h12, -⟩ := hh
  have hk := mKind_in (μ 2) t
  have hc := mCm_in hI ht.1 ht.2
  have hb9 := (b7 t ht.1 ht.2).2
  refine x_aload_n (i := 0) dX6_waits_0 rfl rfl ?_
  refine x_getR xf_RX6_34 dX6_waits_1 rfl rfl ?_
  refine x_iload_n (i := 2) dX6_waits_4 rfl rfl ?_
  refine x_iald dX6_waits_5 rfl (by decide) (by first | omega | decide) (by first | omega | decide) ?_
  refine x_if_ge (tgt := 31) dX6_waits_6 (by decide) (by first | (unfold x_in; omega) | (unfold x_in; decide)) (fun c1 => ?_) (fun c1 => ?_)
  · refine x_iconst dX6_waits_31 ?_
    exact x_iret dX6_waits_32 rfl (x_narZ (by first | exact Or.inl rfl | exact Or.inr rfl | omega)) (x_ok (by first | exact bd_t (by unfold mWA; omega) | exact bd_f (by unfold mWA; omega)) (by rfl))
  · refine x_aload_n (i := 0) dX6_waits_9 rfl rfl ?_
    refine x_iload_n (i := 2) dX6_waits_10 rfl rfl ?_
    refine x_cIp0_1 lk_RX6_148 xm_X6_comesAt dX6_waits_11 (s6_comesAt _ ht _) ?_
    refine x_iload_n (i := 1) dX6_waits_14 rfl rfl ?_
    refine x_icmp_gt (tgt := 31) dX6_waits_15 (by decide) (by first | (unfold x_in; omega) | (unfold x_in; decide)) (by first | (unfold x_in; omega) | (unfold x_in; decide)) (fun c2 => ?_) (fun c2 => ?_)
    · refine x_iconst dX6_waits_31 ?_
      exact x_iret dX6_waits_32 rfl (x_narZ (by first | exact Or.inl rfl | exact Or.inr rfl | omega)) (x_ok (by first | exact bd_t (by unfold mWA; omega) | exact bd_f (by unfold mWA; omega)) (by rfl))
    · refine x_aload_n (i := 0) dX6_waits_18 rfl rfl ?_
      refine x_iload_n (i := 2) dX6_waits_19 rfl rfl ?_
      refine x_cIp0_1 lk_RX6_112 xm_X6_kindOf dX6_waits_20 (s6_kindOf _ ht _ hI) ?_
      refine x_iconst dX6_waits_23 ?_
      refine x_icmp_eq (tgt := 31) dX6_waits_24 (by decide) (by first | (unfold x_in; omega) | (unfold x_in; decide)) (by first | (unfold x_in; omega) | (unfold x_in; decide)) (fun c3 => ?_) (fun c3 => ?_)
      · refine x_iconst dX6_waits_31 ?_
        exact x_iret dX6_waits_32 rfl (x_narZ (by first | exact Or.inl rfl | exact Or.inr rfl | omega)) (x_ok (by first | exact bd_t (by unfold mWA; omega) | exact bd_f (by unfold mWA; omega)) (by rfl))
      · refine x_iconst dX6_waits_27 ?_
        refine x_goto (tgt := 32) dX6_waits_28 (by decide) ?_
        exact x_iret dX6_waits_32 rfl (x_narZ (by first | exact Or.inl rfl | exact Or.inr rfl | omega)) (x_ok (by first | exact bd_t (by unfold mWA; omega) | exact bd_f (by unfold mWA; omega)) (by rfl))
set_option maxRecDepth 100000 in
set_option maxHeartbeats 4000000 in
theorem l6_placeIn (t : Int) (ht : 0 ≤ t ∧ t < 8) (μ : xM) (hI : MI (μ 2)) : ∀ (n : Nat) (k : Int), 0 ≤ k → k + n = μ 2 3 → X E0 shM 0 yX6_placeIn cX6_placeIn 3 (some .int) 2 [some (.inr (.inl 0)), some (.inl t), some (.inl k)] [] μ (x_Q (mPlN (μ 2) t n k) μ) := by
  have h3 := hI.2.2.2.1
  have hh := hI
  obtain ⟨-, -, -, -, -, -, -, -, -, -, -, -, -, -, -, ho⟩ := hh
  intro n
  induction n with
  | zero =>
    intro k hk hn
    refine x_iload_n (i := 2) dX6_placeIn_2 rfl rfl ?_
    refine x_aload_n (i := 0) dX6_placeIn_3 rfl rfl ?_
    refine x_getR xf_RX6_13 dX6_placeIn_4 rfl rfl ?_
    refine x_iconst dX6_placeIn_7 ?_
    refine x_ialdK (K := 3) dX6_placeIn_8 rfl rfl (by decide) (by decide) ?_
    refine x_icmp_ge (tgt := 33) dX6_placeIn_9 (by decide) (by first | (unfold x_in; omega) | (unfold x_in; decide)) (by first | (unfold x_in; omega) | (unfold x_in; decide)) (fun c1 => ?_) (fun c1 => ?_)
    · refine x_bipush dX6_placeIn_33 (by decide) ?_
      exact x_iret dX6_placeIn_35 rfl rfl (x_ok (by rfl) (by rfl))
    · exact absurd c1 (by omega)
  | succ n ih =>
    intro k hk hn
    have hy := ho k hk (by omega)
    refine x_iload_n (i := 2) dX6_placeIn_2 rfl rfl ?_
    refine x_aload_n (i := 0) dX6_placeIn_3 rfl rfl ?_
    refine x_getR xf_RX6_13 dX6_placeIn_4 rfl rfl ?_
    refine x_iconst dX6_placeIn_7 ?_
    refine x_ialdK (K := 3) dX6_placeIn_8 rfl rfl (by decide) (by decide) ?_
    refine x_icmp_ge (tgt := 33) dX6_placeIn_9 (by decide) (by first | (unfold x_in; omega) | (unfold x_in; decide)) (by first | (unfold x_in; omega) | (unfold x_in; decide)) (fun c1 => ?_) (fun c1 => ?_)
    · exact absurd c1 (by omega)
    · refine x_aload_n (i := 0) dX6_placeIn_12 rfl rfl ?_
      refine x_getR xf_RX6_13 dX6_placeIn_13 rfl rfl ?_
      refine x_bipush dX6_placeIn_16 (by decide) ?_
      refine x_iload_n (i := 2) dX6_placeIn_18 rfl rfl ?_
      refine x_iadd dX6_placeIn_19 ?_
      refine x_iald dX6_placeIn_20 rfl (by decide) (by first | omega | decide) (by first | omega | decide) ?_
      refine x_iload_n (i := 1) dX6_placeIn_21 rfl rfl ?_
      refine x_icmp_ne (tgt := 27) dX6_placeIn_22 (by decide) (by first | (unfold x_in; omega) | (unfold x_in; decide)) (by first | (unfold x_in; omega) | (unfold x_in; decide)) (fun c2 => ?_) (fun c2 => ?_)
      · refine x_iinc_2 dX6_placeIn_27 (by decide) rfl ?_
        refine x_goto (tgt := 2) dX6_placeIn_30 (by decide) ?_
        have h := ih (k + 1) (by omega) (by omega)
        rw [mPlN, if_neg (by omega)]
        exact h
      · refine x_iload_n (i := 2) dX6_placeIn_25 rfl rfl ?_
        exact x_iret dX6_placeIn_26 rfl rfl (x_ok (by rw [mPlN, if_pos (by omega)]) (by rfl))
set_option maxRecDepth 100000 in
set_option maxHeartbeats 4000000 in
theorem s6_placeIn (t : Int) (ht : 0 ≤ t ∧ t < 8) (μ : xM) (hI : MI (μ 2)) : X E0 shM 0 yX6_placeIn cX6_placeIn 3 (some .int) 0 [some (.inr (.inl 0)), some (.inl t), none] [] μ (x_Q (mPl (μ 2) t) μ) := by
  have h3 := hI.2.2.2.1
  refine x_iconst dX6_placeIn_0 ?_
  refine x_istore_2 dX6_placeIn_1 (by decide) rfl ?_
  exact l6_placeIn t ht μ hI _ 0 (by omega) (by omega)
set_option maxRecDepth 100000 in
set_option maxHeartbeats 4000000 in
theorem s6_isAhead (a b : Int) (ha : 0 ≤ a ∧ a < 8) (hb : 0 ≤ b ∧ b < 8) (μ : xM) (hI : MI (μ 2)) : X E0 shM 1 yX6_isAhead cX6_isAhead 5 (some .boolean) 0 [some (.inr (.inl 0)), some (.inl a), some (.inl b), none, none] [] μ (x_Q (bI (decide (mAh (μ 2) a b))) μ) := by
  have ka := mKey_in hI ha.1 ha.2
  have kb := mKey_in hI hb.1 hb.2
  have wa := mWt_in hI ha.1 ha.2
  have wb := mWt_in hI hb.1 hb.2
  have ca := mCm_in hI ha.1 ha.2
  have cb := mCm_in hI hb.1 hb.2
  have hh := hI
  obtain ⟨-, -, -, -, -, -, -, -, -, h9, h10, h11, h12, -⟩ := hh
  have J2 : ∀ z1 z2, X E0 shM 1 yX6_isAhead cX6_isAhead 5 (some .boolean) 121 [some (.inr (.inl 0)), some (.inl a), some (.inl b), some (.inl z1), some (.inl z2)] [] μ (x_Q (bI (decide (mAh (μ 2) a b))) μ) ∨ ¬ (z1 = mKey (μ 2) a ∧ z2 = mKey (μ 2) b) := by
    intro z1 z2
    by_cases hz : z1 = mKey (μ 2) a ∧ z2 = mKey (μ 2) b
    · refine Or.inl ?_
      obtain ⟨rfl, rfl⟩ := hz
      refine x_iload_n (i := 3) dX6_isAhead_121 rfl rfl ?_
      refine x_iload dX6_isAhead_122 rfl ?_
      refine x_icmp_eq (tgt := 139) dX6_isAhead_124 (by decide) (by first | (unfold x_in; omega) | (unfold x_in; decide)) (by first | (unfold x_in; omega) | (unfold x_in; decide)) (fun c1 => ?_) (fun c1 => ?_)
      · refine x_aload_n (i := 0) dX6_isAhead_139 rfl rfl ?_
        refine x_iload_n (i := 1) dX6_isAhead_140 rfl rfl ?_
        refine x_cIp0_1 lk_RX6_148 xm_X6_comesAt dX6_isAhead_141 (s6_comesAt _ ha _) ?_
        refine x_aload_n (i := 0) dX6_isAhead_144 rfl rfl ?_
        refine x_iload_n (i := 2) dX6_isAhead_145 rfl rfl ?_
        refine x_cIp0_1 lk_RX6_148 xm_X6_comesAt dX6_isAhead_146 (s6_comesAt _ hb _) ?_
        refine x_icmp_eq (tgt := 173) dX6_isAhead_149 (by decide) (by first | (unfold x_in; omega) | (unfold x_in; decide)) (by first | (unfold x_in; omega) | (unfold x_in; decide)) (fun c2 => ?_) (fun c2 => ?_)
        · refine x_iload_n (i := 1) dX6_isAhead_173 rfl rfl ?_
          refine x_iload_n (i := 2) dX6_isAhead_174 rfl rfl ?_
          refine x_icmp_ge (tgt := 182) dX6_isAhead_175 (by decide) (by first | (unfold x_in; omega) | (unfold x_in; decide)) (by first | (unfold x_in; omega) | (unfold x_in; decide)) (fun c3 => ?_) (fun c3 => ?_)
          · refine x_iconst dX6_isAhead_182 ?_
            exact x_iret dX6_isAhead_183 rfl (x_narZ (by first | exact Or.inl rfl | exact Or.inr rfl | omega)) (x_ok (by first | exact bd_t (by unfold mAh; omega) | exact bd_f (by unfold mAh; omega)) (by rfl))
          · refine x_iconst dX6_isAhead_178 ?_
            refine x_goto (tgt := 183) dX6_isAhead_179 (by decide) ?_
            exact x_iret dX6_isAhead_183 rfl (x_narZ (by first | exact Or.inl rfl | exact Or.inr rfl | omega)) (x_ok (by first | exact bd_t (by unfold mAh; omega) | exact bd_f (by unfold mAh; omega)) (by rfl))
        · refine x_aload_n (i := 0) dX6_isAhead_152 rfl rfl ?_
          refine x_iload_n (i := 1) dX6_isAhead_153 rfl rfl ?_
          refine x_cIp0_1 lk_RX6_148 xm_X6_comesAt dX6_isAhead_154 (s6_comesAt _ ha _) ?_
          refine x_aload_n (i := 0) dX6_isAhead_157 rfl rfl ?_
          refine x_iload_n (i := 2) dX6_isAhead_158 rfl rfl ?_
          refine x_cIp0_1 lk_RX6_148 xm_X6_comesAt dX6_isAhead_159 (s6_comesAt _ hb _) ?_
          refine x_icmp_ge (tgt := 169) dX6_isAhead_162 (by decide) (by first | (unfold x_in; omega) | (unfold x_in; decide)) (by first | (unfold x_in; omega) | (unfold x_in; decide)) (fun c3 => ?_) (fun c3 => ?_)
          · refine x_iconst dX6_isAhead_169 ?_
            refine x_goto (tgt := 183) dX6_isAhead_170 (by decide) ?_
            exact x_iret dX6_isAhead_183 rfl (x_narZ (by first | exact Or.inl rfl | exact Or.inr rfl | omega)) (x_ok (by first | exact bd_t (by unfold mAh; omega) | exact bd_f (by unfold mAh; omega)) (by rfl))
          · refine x_iconst dX6_isAhead_165 ?_
            refine x_goto (tgt := 183) dX6_isAhead_166 (by decide) ?_
            exact x_iret dX6_isAhead_183 rfl (x_narZ (by first | exact Or.inl rfl | exact Or.inr rfl | omega)) (x_ok (by first | exact bd_t (by unfold mAh; omega) | exact bd_f (by unfold mAh; omega)) (by rfl))
      · refine x_iload_n (i := 3) dX6_isAhead_127 rfl rfl ?_
        refine x_iload dX6_isAhead_128 rfl ?_
        refine x_icmp_ge (tgt := 137) dX6_isAhead_130 (by decide) (by first | (unfold x_in; omega) | (unfold x_in; decide)) (by first | (unfold x_in; omega) | (unfold x_in; decide)) (fun c2 => ?_) (fun c2 => ?_)
        · refine x_iconst dX6_isAhead_137 ?_
          exact x_iret dX6_isAhead_138 rfl (x_narZ (by first | exact Or.inl rfl | exact Or.inr rfl | omega)) (x_ok (by first | exact bd_t (by unfold mAh; omega) | exact bd_f (by unfold mAh; omega)) (by rfl))
        · refine x_iconst dX6_isAhead_133 ?_
          refine x_goto (tgt := 138) dX6_isAhead_134 (by decide) ?_
          exact x_iret dX6_isAhead_138 rfl (x_narZ (by first | exact Or.inl rfl | exact Or.inr rfl | omega)) (x_ok (by first | exact bd_t (by unfold mAh; omega) | exact bd_f (by unfold mAh; omega)) (by rfl))
    · exact Or.inr hz
  have J1 : ∀ z1, z1 = mKey (μ 2) a → X E0 shM 1 yX6_isAhead cX6_isAhead 5 (some .boolean) 60 [some (.inr (.inl 0)), some (.inl a), some (.inl b), some (.inl z1), none] [] μ (x_Q (bI (decide (mAh (μ 2) a b))) μ) := by
    intro z1 hz1
    refine x_aload_n (i := 0) dX6_isAhead_60 rfl rfl ?_
    refine x_getR xf_RX6_13 dX6_isAhead_61 rfl rfl ?_
    refine x_bipush dX6_isAhead_64 (by decide) ?_
    refine x_ialdK (K := 11) dX6_isAhead_66 rfl rfl (by decide) (by decide) ?_
    refine x_iconst dX6_isAhead_67 ?_
    refine x_icmp_ne (tgt := 80) dX6_isAhead_68 (by decide) (by first | (unfold x_in; omega) | (unfold x_in; decide)) (by first | (unfold x_in; omega) | (unfold x_in; decide)) (fun c1 => ?_) (fun c1 => ?_)
    · refine x_aload_n (i := 0) dX6_isAhead_80 rfl rfl ?_
      refine x_getR xf_RX6_13 dX6_isAhead_81 rfl rfl ?_
      refine x_bipush dX6_isAhead_84 (by decide) ?_
      refine x_ialdK (K := 11) dX6_isAhead_86 rfl rfl (by decide) (by decide) ?_
      refine x_iconst dX6_isAhead_87 ?_
      refine x_icmp_ne (tgt := 99) dX6_isAhead_88 (by decide) (by first | (unfold x_in; omega) | (unfold x_in; decide)) (by first | (unfold x_in; omega) | (unfold x_in; decide)) (fun c2 => ?_) (fun c2 => ?_)
      · refine x_aload_n (i := 0) dX6_isAhead_99 rfl rfl ?_
        refine x_getR xf_RX6_13 dX6_isAhead_100 rfl rfl ?_
        refine x_bipush dX6_isAhead_103 (by decide) ?_
        refine x_ialdK (K := 11) dX6_isAhead_105 rfl rfl (by decide) (by decide) ?_
        refine x_iconst dX6_isAhead_106 ?_
        refine x_icmp_ne (tgt := 118) dX6_isAhead_107 (by decide) (by first | (unfold x_in; omega) | (unfold x_in; decide)) (by first | (unfold x_in; omega) | (unfold x_in; decide)) (fun c3 => ?_) (fun c3 => ?_)
        · refine x_iconst dX6_isAhead_118 ?_
          refine x_istore_4 dX6_isAhead_119 (by decide) rfl ?_
          refine (J2 _ _).resolve_right (not_not_intro ⟨hz1, ?_⟩)
          unfold mKey
          first | (rw [if_pos (by omega)]; done) | (rw [if_neg (by omega), if_pos (by omega)]; done) | (rw [if_neg (by omega), if_neg (by omega), if_pos (by omega)]; done) | (rw [if_neg (by omega), if_neg (by omega), if_neg (by omega)]; done)
        · refine x_aload_n (i := 0) dX6_isAhead_110 rfl rfl ?_
          refine x_iload_n (i := 2) dX6_isAhead_111 rfl rfl ?_
          refine x_cIp0_1 lk_RX6_151 xm_X6_placeIn dX6_isAhead_112 (s6_placeIn _ hb _ hI) ?_
          refine x_goto (tgt := 119) dX6_isAhead_115 (by decide) ?_
          refine x_istore_4 dX6_isAhead_119 (by decide) rfl ?_
          refine (J2 _ _).resolve_right (not_not_intro ⟨hz1, ?_⟩)
          unfold mKey
          first | (rw [if_pos (by omega)]; done) | (rw [if_neg (by omega), if_pos (by omega)]; done) | (rw [if_neg (by omega), if_neg (by omega), if_pos (by omega)]; done) | (rw [if_neg (by omega), if_neg (by omega), if_neg (by omega)]; done)
      · refine x_aload_n (i := 0) dX6_isAhead_91 rfl rfl ?_
        refine x_iload_n (i := 2) dX6_isAhead_92 rfl rfl ?_
        refine x_cIp0_1 lk_RX6_106 xm_X6_weight dX6_isAhead_93 (s6_weight _ hb _) ?_
        refine x_goto (tgt := 119) dX6_isAhead_96 (by decide) ?_
        refine x_istore_4 dX6_isAhead_119 (by decide) rfl ?_
        refine (J2 _ _).resolve_right (not_not_intro ⟨hz1, ?_⟩)
        unfold mKey
        first | (rw [if_pos (by omega)]; done) | (rw [if_neg (by omega), if_pos (by omega)]; done) | (rw [if_neg (by omega), if_neg (by omega), if_pos (by omega)]; done) | (rw [if_neg (by omega), if_neg (by omega), if_neg (by omega)]; done)
    · refine x_aload_n (i := 0) dX6_isAhead_71 rfl rfl ?_
      refine x_iload_n (i := 2) dX6_isAhead_72 rfl rfl ?_
      refine x_cIp0_1 lk_RX6_106 xm_X6_weight dX6_isAhead_73 (s6_weight _ hb _) ?_
      refine x_ineg dX6_isAhead_76 ?_
      refine x_goto (tgt := 119) dX6_isAhead_77 (by decide) ?_
      refine x_istore_4 dX6_isAhead_119 (by decide) rfl ?_
      refine (J2 _ _).resolve_right (not_not_intro ⟨hz1, ?_⟩)
      unfold mKey
      first | (rw [if_pos (by omega)]; done) | (rw [if_neg (by omega), if_pos (by omega)]; done) | (rw [if_neg (by omega), if_neg (by omega), if_pos (by omega)]; done) | (rw [if_neg (by omega), if_neg (by omega), if_neg (by omega)]; done)
  refine x_aload_n (i := 0) dX6_isAhead_0 rfl rfl ?_
  refine x_getR xf_RX6_13 dX6_isAhead_1 rfl rfl ?_
  refine x_bipush dX6_isAhead_4 (by decide) ?_
  refine x_ialdK (K := 11) dX6_isAhead_6 rfl rfl (by decide) (by decide) ?_
  refine x_iconst dX6_isAhead_7 ?_
  refine x_icmp_ne (tgt := 20) dX6_isAhead_8 (by decide) (by first | (unfold x_in; omega) | (unfold x_in; decide)) (by first | (unfold x_in; omega) | (unfold x_in; decide)) (fun c1 => ?_) (fun c1 => ?_)
  · refine x_aload_n (i := 0) dX6_isAhead_20 rfl rfl ?_
    refine x_getR xf_RX6_13 dX6_isAhead_21 rfl rfl ?_
    refine x_bipush dX6_isAhead_24 (by decide) ?_
    refine x_ialdK (K := 11) dX6_isAhead_26 rfl rfl (by decide) (by decide) ?_
    refine x_iconst dX6_isAhead_27 ?_
    refine x_icmp_ne (tgt := 39) dX6_isAhead_28 (by decide) (by first | (unfold x_in; omega) | (unfold x_in; decide)) (by first | (unfold x_in; omega) | (unfold x_in; decide)) (fun c2 => ?_) (fun c2 => ?_)
    · refine x_aload_n (i := 0) dX6_isAhead_39 rfl rfl ?_
      refine x_getR xf_RX6_13 dX6_isAhead_40 rfl rfl ?_
      refine x_bipush dX6_isAhead_43 (by decide) ?_
      refine x_ialdK (K := 11) dX6_isAhead_45 rfl rfl (by decide) (by decide) ?_
      refine x_iconst dX6_isAhead_46 ?_
      refine x_icmp_ne (tgt := 58) dX6_isAhead_47 (by decide) (by first | (unfold x_in; omega) | (unfold x_in; decide)) (by first | (unfold x_in; omega) | (unfold x_in; decide)) (fun c3 => ?_) (fun c3 => ?_)
      · refine x_iconst dX6_isAhead_58 ?_
        refine x_istore_3 dX6_isAhead_59 (by decide) rfl ?_
        refine J1 _ ?_
        unfold mKey
        first | (rw [if_pos (by omega)]; done) | (rw [if_neg (by omega), if_pos (by omega)]; done) | (rw [if_neg (by omega), if_neg (by omega), if_pos (by omega)]; done) | (rw [if_neg (by omega), if_neg (by omega), if_neg (by omega)]; done)
      · refine x_aload_n (i := 0) dX6_isAhead_50 rfl rfl ?_
        refine x_iload_n (i := 1) dX6_isAhead_51 rfl rfl ?_
        refine x_cIp0_1 lk_RX6_151 xm_X6_placeIn dX6_isAhead_52 (s6_placeIn _ ha _ hI) ?_
        refine x_goto (tgt := 59) dX6_isAhead_55 (by decide) ?_
        refine x_istore_3 dX6_isAhead_59 (by decide) rfl ?_
        refine J1 _ ?_
        unfold mKey
        first | (rw [if_pos (by omega)]; done) | (rw [if_neg (by omega), if_pos (by omega)]; done) | (rw [if_neg (by omega), if_neg (by omega), if_pos (by omega)]; done) | (rw [if_neg (by omega), if_neg (by omega), if_neg (by omega)]; done)
    · refine x_aload_n (i := 0) dX6_isAhead_31 rfl rfl ?_
      refine x_iload_n (i := 1) dX6_isAhead_32 rfl rfl ?_
      refine x_cIp0_1 lk_RX6_106 xm_X6_weight dX6_isAhead_33 (s6_weight _ ha _) ?_
      refine x_goto (tgt := 59) dX6_isAhead_36 (by decide) ?_
      refine x_istore_3 dX6_isAhead_59 (by decide) rfl ?_
      refine J1 _ ?_
      unfold mKey
      first | (rw [if_pos (by omega)]; done) | (rw [if_neg (by omega), if_pos (by omega)]; done) | (rw [if_neg (by omega), if_neg (by omega), if_pos (by omega)]; done) | (rw [if_neg (by omega), if_neg (by omega), if_neg (by omega)]; done)
  · refine x_aload_n (i := 0) dX6_isAhead_11 rfl rfl ?_
    refine x_iload_n (i := 1) dX6_isAhead_12 rfl rfl ?_
    refine x_cIp0_1 lk_RX6_106 xm_X6_weight dX6_isAhead_13 (s6_weight _ ha _) ?_
    refine x_ineg dX6_isAhead_16 ?_
    refine x_goto (tgt := 59) dX6_isAhead_17 (by decide) ?_
    refine x_istore_3 dX6_isAhead_59 (by decide) rfl ?_
    refine J1 _ ?_
    unfold mKey
    first | (rw [if_pos (by omega)]; done) | (rw [if_neg (by omega), if_pos (by omega)]; done) | (rw [if_neg (by omega), if_neg (by omega), if_pos (by omega)]; done) | (rw [if_neg (by omega), if_neg (by omega), if_neg (by omega)]; done)
