/-! THE REFERENCE: what a day shows is a function of the hill's row alone -/
def Eqd (μ ν : xM) : Prop := μ 2 = ν 2 ∧ (∀ j, 12 ≤ j → j ≤ 17 → μ 0 j = ν 0 j) ∧ (∀ t, t < 8 → μ 7 t = ν 7 t ∧ μ 9 t = ν 9 t) ∧ ∀ k, k < 6 → μ 8 k = ν 8 k
theorem Eqd.st0 {μ ν : xM} (h : Eqd μ ν) (j : Nat) {v w : Int} (e : v = w) : Eqd (x_st μ 0 j v) (x_st ν 0 j w) := by
  subst e
  refine ⟨h.1, fun i h1 h2 => ?_, h.2.2.1, h.2.2.2⟩
  show (if i = j then v else μ 0 i) = (if i = j then v else ν 0 i)
  rw [h.2.1 i h1 h2]
theorem Eqd.st7 {μ ν : xM} (h : Eqd μ ν) (j : Nat) {v w : Int} (e : v = w) : Eqd (x_st μ 7 j v) (x_st ν 7 j w) := by
  subst e
  refine ⟨h.1, h.2.1, fun i h1 => ⟨?_, (h.2.2.1 i h1).2⟩, h.2.2.2⟩
  show (if i = j then v else μ 7 i) = (if i = j then v else ν 7 i)
  rw [(h.2.2.1 i h1).1]
theorem Eqd.st9 {μ ν : xM} (h : Eqd μ ν) (j : Nat) {v w : Int} (e : v = w) : Eqd (x_st μ 9 j v) (x_st ν 9 j w) := by
  subst e
  refine ⟨h.1, h.2.1, fun i h1 => ⟨(h.2.2.1 i h1).1, ?_⟩, h.2.2.2⟩
  show (if i = j then v else μ 9 i) = (if i = j then v else ν 9 i)
  rw [(h.2.2.1 i h1).2]
theorem Eqd.st8 {μ ν : xM} (h : Eqd μ ν) (j : Nat) {v w : Int} (e : v = w) : Eqd (x_st μ 8 j v) (x_st ν 8 j w) := by
  subst e
  refine ⟨h.1, h.2.1, h.2.2.1, fun i h1 => ?_⟩
  show (if i = j then v else μ 8 i) = (if i = j then v else ν 8 i)
  rw [h.2.2.2 i h1]
theorem Eqd.endU1 {μ ν : xM} (h : Eqd μ ν) (m : Int) {t : Nat} (ht : t < 8) : Eqd (mEndU1 m t μ) (mEndU1 m t ν) := by
  unfold mEndU1
  rw [Int.toNat_natCast, (h.2.2.1 t ht).1, h.1, h.2.1 13 (by decide) (by decide)]
  split
  · exact (h.st7 t rfl).st0 13 rfl
  · exact h
theorem Eqd.endD1 {μ ν : xM} (h : Eqd μ ν) (m : Int) {k : Nat} (hk : k < 6) : Eqd (mEndD1 m k μ) (mEndD1 m k ν) := by
  unfold mEndD1
  rw [Int.toNat_natCast, h.2.2.2 k hk, h.2.1 12 (by decide) (by decide)]
  split
  · exact (h.st8 k rfl).st0 12 rfl
  · exact h
theorem Eqd.endU {μ ν : xM} (h : Eqd μ ν) (m : Int) : ∀ k : Nat, k ≤ 8 → Eqd (mEndU m μ k) (mEndU m ν k)
  | 0, _ => h
  | k + 1, hk => (Eqd.endU h m k (by omega)).endU1 m (by omega)
theorem Eqd.endD {μ ν : xM} (h : Eqd μ ν) (m : Int) : ∀ k : Nat, k ≤ 6 → Eqd (mEndD m μ k) (mEndD m ν k)
  | 0, _ => h
  | k + 1, hk => (Eqd.endD h m k (by omega)).endD1 m (by omega)
theorem Eqd.ends {μ ν : xM} (h : Eqd μ ν) (hI : MI (μ 2)) (m : Int) : Eqd (mEnds m μ) (mEnds m ν) := by
  have h1 := hI.2.1
  unfold mEnds
  rw [← h.1]
  exact (h.endU m _ (by omega)).endD m 6 (Nat.le_refl _)
theorem Eqd.upN {μ ν : xM} (h : Eqd μ ν) : ∀ k : Nat, k ≤ 8 → mUpN μ k = mUpN ν k
  | 0, _ => rfl
  | k + 1, hk => by rw [mUpN, mUpN, Eqd.upN h k (by omega), (h.2.2.1 k (by omega)).1]
theorem Eqd.dnN {μ ν : xM} (h : Eqd μ ν) : ∀ k : Nat, k ≤ 6 → mDnN μ k = mDnN ν k
  | 0, _ => rfl
  | k + 1, hk => by rw [mDnN, mDnN, Eqd.dnN h k (by omega), h.2.2.2 k (by omega)]
theorem Eqd.up {μ ν : xM} (h : Eqd μ ν) (hI : MI (μ 2)) : mUp μ = mUp ν := by
  have h1 := hI.2.1
  unfold mUp
  rw [h.upN _ (by omega), h.1]
theorem Eqd.dn {μ ν : xM} (h : Eqd μ ν) : mDn μ = mDn ν := h.dnN 6 (Nat.le_refl _)
theorem Eqd.wa {μ ν : xM} (h : Eqd μ ν) (m : Int) {t : Nat} (ht : t < 8) : mWA μ m t ↔ mWA ν m t := by
  unfold mWA
  rw [Int.toNat_natCast, (h.2.2.1 t ht).2, h.1]
theorem Eqd.can {μ ν : xM} (h : Eqd μ ν) (hI : MI (μ 2)) (m : Int) {t : Nat} (ht : t < 8) : mCan μ m t ↔ mCan ν m t := by
  unfold mCan mHE mLU
  rw [h.up hI, h.dn, h.2.1 12 (by decide) (by decide), h.2.1 15 (by decide) (by decide), h.2.1 17 (by decide) (by decide), h.wa m ht, h.1]
theorem Eqd.wtN {μ ν : xM} (h : Eqd μ ν) (m : Int) : ∀ k : Nat, k ≤ 8 → mWtN μ m k = mWtN ν m k
  | 0, _ => rfl
  | k + 1, hk => by
    rw [mWtN, mWtN, Eqd.wtN h m k (by omega), decide_eq_decide.mpr (h.wa m (by omega))]
theorem Eqd.bsN {μ ν : xM} (h : Eqd μ ν) (hI : MI (μ 2)) (m : Int) : ∀ k : Nat, k ≤ 8 → mBsN μ m k = mBsN ν m k
  | 0, _ => rfl
  | k + 1, hk => by
    have e := h.can hI m (t := k) (by omega)
    have e4 : mAh (μ 2) k (mBsN ν m k) ↔ mAh (ν 2) k (mBsN ν m k) := by rw [h.1]
    rw [mBsN, mBsN, Eqd.bsN h hI m k (by omega)]
    by_cases c : mCan ν m k ∧ (mBsN ν m k < 0 ∨ mAh (ν 2) k (mBsN ν m k))
    · rw [if_pos c, if_pos ⟨e.2 c.1, c.2.imp_right e4.2⟩]
    · rw [if_neg c, if_neg (fun q => c ⟨e.1 q.1, q.2.imp_right e4.1⟩)]
theorem Eqd.frN {μ ν : xM} (h : Eqd μ ν) : ∀ (n k : Nat), k + n = 6 → mFrN μ n k = mFrN ν n k
  | 0, _, _ => rfl
  | n + 1, k, hk => by rw [mFrN, mFrN, Eqd.frN h n (k + 1) (by omega), h.2.2.2 k (by omega)]
theorem Eqd.min1 {μ ν : xM} (h : Eqd μ ν) (hI : MI (μ 2)) (m : Int) : Eqd (mMin1 m μ) (mMin1 m ν) := by
  have h1 := hI.2.1
  have e1 : mDownNow μ m ↔ mDownNow ν m := by
    unfold mDownNow mLD mWaiting
    rw [h.up hI, h.2.1 12 (by decide) (by decide), h.2.1 13 (by decide) (by decide), h.2.1 16 (by decide) (by decide), h.2.1 17 (by decide) (by decide), h.wtN m _ (by omega), h.1]
  have e2 : mBest μ m = mBest ν m := by
    unfold mBest
    rw [h.bsN hI m _ (by omega), h.1]
  have e3 : mFree μ = mFree ν := h.frN 6 0 rfl
  unfold mMin1
  by_cases c : mDownNow ν m
  · rw [if_pos c, if_pos (e1.2 c), e3]
    unfold mGD
    rw [h.1]
    exact (((h.st0 13 (by rw [h.2.1 13 (by decide) (by decide)])).st8 _ rfl).st0 16 rfl).st0 14 (by rw [h.2.1 14 (by decide) (by decide)])
  · rw [if_neg c, if_neg (fun q => c (e1.1 q)), e2]
    split
    · unfold mGU
      rw [h.1]
      exact ((((h.st0 12 (by rw [h.2.1 12 (by decide) (by decide)])).st7 _ rfl).st0 17 (by rw [h.2.1 17 (by decide) (by decide)])).st9 _ rfl).st0 15 rfl
    · exact h
theorem Eqd.min {μ ν : xM} (h : Eqd μ ν) (hI : MI (μ 2)) (m : Int) : Eqd (mMin m μ) (mMin m ν) := (h.ends hI m).min1 (by rw [mEnds_2]; exact hI) m
theorem Eqd.run {μ ν : xM} (h : Eqd μ ν) (hI : MI (μ 2)) : ∀ k, Eqd (mRun μ k) (mRun ν k)
  | 0 => h
  | k + 1 => (Eqd.run h hI k).min (by rw [mRun_2]; exact hI) k
theorem Eqd.opens {μ ν : xM} (h : μ 2 = ν 2) : Eqd (mOpens μ) (mOpens ν) := by
  obtain ⟨a, b, c, d, -⟩ := mOpens_c μ
  obtain ⟨a', b', c', d', -⟩ := mOpens_c ν
  refine ⟨by rw [a, a', h], fun j h1 h2 => ?_, fun t ht => ⟨by rw [(c t ht).1, (c' t ht).1], by rw [(c t ht).2, (c' t ht).2]⟩, fun k hk => by rw [d k hk, d' k hk]⟩
  have : j = 12 ∨ j = 13 ∨ j = 14 ∨ j = 15 ∨ j = 16 ∨ j = 17 := by omega
  rcases this with rfl | rfl | rfl | rfl | rfl | rfl
  · rw [b.1, b'.1, h]
  · rw [b.2.1, b'.2.1]
  · rw [b.2.2.1, b'.2.2.1]
  · rw [b.2.2.2.1, b'.2.2.2.1]
  · rw [b.2.2.2.2.1, b'.2.2.2.2.1]
  · rw [b.2.2.2.2.2, b'.2.2.2.2.2]
theorem Eqd.day {μ ν : xM} (h : μ 2 = ν 2) (hI : MI (μ 2)) : Eqd (mDay μ) (mDay ν) := (Eqd.opens h).run (by rw [(mOpens_c μ).1]; exact hI) 1441
def canon (h : Nat → Int) : xM := fun k => if k = 2 then h else fun _ => 0
/-- what a day of a hill shows: when a train begins, how many engines come down, the sums -/
def dBeg (h : Nat → Int) (t : Int) : Int := mDay (canon h) 9 t.toNat
def dDowns (h : Nat → Int) : Int := mDay (canon h) 0 14
def dAllN (h : Nat → Int) : Nat → Int
  | 0 => 0
  | k + 1 => dAllN h k + (if 0 ≤ dBeg h k then dBeg h k - mCm h k else if mKind h k = 3 then 0 else 1440 - mCm h k)
def dAll (h : Nat → Int) : Int := dAllN h (h 1).toNat
def dWtsN (h : Nat → Int) : Nat → Int
  | 0 => 0
  | k + 1 => dWtsN h k + (if 0 ≤ dBeg h k then mWt h k else 0)
def dWts (h : Nat → Int) : Int := dWtsN h (h 1).toNat
def dCntN (h : Nat → Int) : Nat → Int
  | 0 => 0
  | k + 1 => dCntN h k + (if 0 ≤ dBeg h k then 1 else 0)
def dCnt (h : Nat → Int) : Int := dCntN h (h 1).toNat
theorem dAll_s (h : Nat → Int) {p : Int} (hp : 0 ≤ p) : dAllN h (p + 1).toNat = dAllN h p.toNat + (if 0 ≤ dBeg h p then dBeg h p - mCm h p else if mKind h p = 3 then 0 else 1440 - mCm h p) := by rw [nat_succ hp, dAllN, nat_back hp]
theorem dWts_s (h : Nat → Int) {p : Int} (hp : 0 ≤ p) : dWtsN h (p + 1).toNat = dWtsN h p.toNat + (if 0 ≤ dBeg h p then mWt h p else 0) := by rw [nat_succ hp, dWtsN, nat_back hp]
theorem dCnt_s (h : Nat → Int) {p : Int} (hp : 0 ≤ p) : dCntN h (p + 1).toNat = dCntN h p.toNat + (if 0 ≤ dBeg h p then 1 else 0) := by rw [nat_succ hp, dCntN, nat_back hp]
theorem canon_2 (h : Nat → Int) : canon h 2 = h := rfl
theorem mDay_beg {μ : xM} (hI : MI (μ 2)) {t : Int} (h0 : 0 ≤ t) (h8 : t < 8) : mDay μ 9 t.toNat = dBeg (μ 2) t := by
  have e := Eqd.day (ν := canon (μ 2)) (canon_2 _).symm hI
  unfold dBeg
  rw [(e.2.2.1 t.toNat (by omega)).2]
theorem mDay_downs {μ : xM} (hI : MI (μ 2)) : mDay μ 0 14 = dDowns (μ 2) := by
  have e := Eqd.day (ν := canon (μ 2)) (canon_2 _).symm hI
  unfold dDowns
  rw [e.2.1 14 (by decide) (by decide)]
theorem dBeg_in {h : Nat → Int} (hI : MI h) {t : Int} (h0 : 0 ≤ t) (h8 : t < 8) : -9 ≤ dBeg h t ∧ dBeg h t ≤ 10000 := by
  have e := DI_day (μ := canon h) hI
  unfold dBeg
  exact (e.2.2.2.2.2.1 t.toNat (by omega)).2.1
