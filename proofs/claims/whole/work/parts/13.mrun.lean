/-! THE REFERENCE, the day: what holds of its state at every minute; opens, ends, goesDown, goesUp, minute, day -/
def cN (p : Nat → Bool) : Nat → Int
  | 0 => 0
  | k + 1 => cN p k + bI (p k)
theorem cN_in (p : Nat → Bool) : ∀ n : Nat, 0 ≤ cN p n ∧ cN p n ≤ n
  | 0 => by simp [cN]
  | n + 1 => by
    have h1 := cN_in p n
    have h2 := bI_in (p n)
    rw [cN]
    omega
theorem cN_cong {p q : Nat → Bool} : ∀ {n : Nat}, (∀ k, k < n → p k = q k) → cN p n = cN q n
  | 0, _ => rfl
  | n + 1, h => by rw [cN, cN, cN_cong (fun k hk => h k (by omega)), h n (by omega)]
theorem cN_upd {p q : Nat → Bool} {i : Nat} : ∀ {n : Nat}, i < n → (∀ k, k ≠ i → q k = p k) → cN q n = cN p n - bI (p i) + bI (q i)
  | 0, h, _ => by omega
  | n + 1, h, hq => by
    rw [cN, cN]
    by_cases hi : i = n
    · subst hi
      rw [cN_cong (q := p) (fun k hk => hq k (by omega))]
      omega
    · rw [cN_upd (by omega) hq, hq n (fun e => hi e.symm)]
      omega
theorem cN_all {p : Nat → Bool} : ∀ {n : Nat}, (∀ k, k < n → p k = true) → cN p n = n
  | 0, _ => rfl
  | n + 1, h => by
    rw [cN, cN_all (fun k hk => h k (by omega)), h n (by omega)]
    rw [show bI true = 1 from rfl]
    omega
abbrev pU (μ : xM) (t : Nat) : Bool := decide (0 ≤ μ 7 t ∧ 0 < mKind (μ 2) t)
abbrev pD (μ : xM) (k : Nat) : Bool := decide (0 ≤ μ 8 k)
/-- what holds of a day's state -/
def DI (μ : xM) : Prop := MI (μ 2) ∧ (0 ≤ μ 0 12 ∧ 0 ≤ μ 0 13 ∧ μ 0 12 + μ 0 13 + cN (pU μ) (μ 2 1).toNat + cN (pD μ) 6 = μ 2 2) ∧ (-9999 ≤ μ 0 15 ∧ μ 0 15 ≤ 10000) ∧ (-9999 ≤ μ 0 16 ∧ μ 0 16 ≤ 10000) ∧ (0 ≤ μ 0 17 ∧ μ 0 17 ≤ 20000) ∧ (∀ t : Nat, t < 8 → (-9 ≤ μ 7 t ∧ μ 7 t ≤ 20000) ∧ (-9 ≤ μ 9 t ∧ μ 9 t ≤ 10000) ∧ (0 ≤ μ 7 t → 0 ≤ μ 9 t)) ∧ (∀ k : Nat, k < 6 → -9 ≤ μ 8 k ∧ μ 8 k ≤ 20000)
theorem DB_of {μ : xM} (h : DI μ) : DB μ := by
  obtain ⟨hI, ⟨h1, h2, h3⟩, h4, h5, h6, h7, h8⟩ := h
  have e1 := cN_in (pU μ) (μ 2 1).toNat
  have e2 := cN_in (pD μ) 6
  have e3 := hI.2.2.1
  refine ⟨by omega, by omega, h4, h5, h6, fun t t0 t8 => ?_, fun k k0 k6 => h8 k.toNat (by omega)⟩
  have := h7 t.toNat (by omega)
  exact ⟨this.1, this.2.1⟩
theorem mEndU1_2 (m t : Int) (μ : xM) : mEndU1 m t μ 2 = μ 2 := by unfold mEndU1; split <;> rfl
theorem mEndD1_2 (m t : Int) (μ : xM) : mEndD1 m t μ 2 = μ 2 := by unfold mEndD1; split <;> rfl
theorem mEndU_2 (m : Int) (μ : xM) : ∀ k, mEndU m μ k 2 = μ 2
  | 0 => rfl
  | k + 1 => by rw [mEndU, mEndU1_2, mEndU_2 m μ k]
theorem mEndD_2 (m : Int) (μ : xM) : ∀ k, mEndD m μ k 2 = μ 2
  | 0 => rfl
  | k + 1 => by rw [mEndD, mEndD1_2, mEndD_2 m μ k]
theorem mEnds_2 (m : Int) (μ : xM) : mEnds m μ 2 = μ 2 := by rw [mEnds, mEndD_2, mEndU_2]
theorem DI_endU1 {μ : xM} (h : DI μ) (m : Int) {t : Nat} (ht : (t : Int) < μ 2 1) : DI (mEndU1 m t μ) := by
  obtain ⟨hI, ⟨h1, h2, h3⟩, h4, h5, h6, h7, h8⟩ := h
  have h10 := hI.2.1
  unfold mEndU1
  split
  next hc =>
    rw [Int.toNat_natCast] at hc ⊢
    have hx : (x_st (x_st μ 7 t (-9)) 0 13 (μ 0 13 + (if 0 < mKind (μ 2) t then 1 else 0))) 2 = μ 2 := rfl
    have e1 := cN_upd (p := pU μ) (q := pU (x_st (x_st μ 7 t (-9)) 0 13 (μ 0 13 + (if 0 < mKind (μ 2) t then 1 else 0)))) (i := t) (n := (μ 2 1).toNat) (by omega) (fun k hk => by
      unfold pU
      rw [hx]
      simp [x_st, hk])
    have e2 : pU (x_st (x_st μ 7 t (-9)) 0 13 (μ 0 13 + (if 0 < mKind (μ 2) t then 1 else 0))) t = false := by
      unfold pU
      simp [x_st]
    have e3 : bI (pU μ t) = (if 0 < mKind (μ 2) t then 1 else 0) := by
      unfold pU
      by_cases hk : 0 < mKind (μ 2) t
      · rw [if_pos hk, decide_eq_true ⟨hc.1, hk⟩]; rfl
      · rw [if_neg hk, decide_eq_false (fun q => hk q.2)]; rfl
    rw [e2, e3, show bI false = 0 from rfl] at e1
    refine ⟨hI, ⟨h1, ?_, ?_⟩, h4, h5, h6, fun s hs => ?_, h8⟩
    · show 0 ≤ μ 0 13 + (if 0 < mKind (μ 2) t then 1 else 0)
      split <;> omega
    · show μ 0 12 + (μ 0 13 + (if 0 < mKind (μ 2) t then 1 else 0)) + cN (pU (x_st (x_st μ 7 t (-9)) 0 13 (μ 0 13 + (if 0 < mKind (μ 2) t then 1 else 0)))) (μ 2 1).toNat + cN (pD μ) 6 = μ 2 2
      rw [e1]
      omega
    · have := h7 s hs
      show (-9 ≤ (if s = t then -9 else μ 7 s) ∧ (if s = t then -9 else μ 7 s) ≤ 20000) ∧ _ ∧ (0 ≤ (if s = t then -9 else μ 7 s) → _)
      split
      · exact ⟨by omega, this.2.1, fun q => by omega⟩
      · exact this
  next => exact ⟨hI, ⟨h1, h2, h3⟩, h4, h5, h6, h7, h8⟩
theorem DI_endD1 {μ : xM} (h : DI μ) (m : Int) {k : Nat} (hk6 : k < 6) : DI (mEndD1 m k μ) := by
  obtain ⟨hI, ⟨h1, h2, h3⟩, h4, h5, h6, h7, h8⟩ := h
  unfold mEndD1
  split
  next hc =>
    rw [Int.toNat_natCast] at hc ⊢
    have e1 := cN_upd (p := pD μ) (q := pD (x_st (x_st μ 8 k (-9)) 0 12 (μ 0 12 + 1))) (i := k) (n := 6) hk6 (fun j hj => by
      unfold pD
      simp [x_st, hj])
    have e2 : pD (x_st (x_st μ 8 k (-9)) 0 12 (μ 0 12 + 1)) k = false := by
      unfold pD
      simp [x_st]
    have e3 : pD μ k = true := by unfold pD; exact decide_eq_true hc.1
    rw [e2, e3, show bI false = 0 from rfl, show bI true = 1 from rfl] at e1
    refine ⟨hI, ⟨?_, h2, ?_⟩, h4, h5, h6, h7, fun j hj => ?_⟩
    · show 0 ≤ μ 0 12 + 1
      omega
    · show (μ 0 12 + 1) + μ 0 13 + cN (pU μ) (μ 2 1).toNat + cN (pD (x_st (x_st μ 8 k (-9)) 0 12 (μ 0 12 + 1))) 6 = μ 2 2
      rw [e1]
      omega
    · have := h8 j hj
      show -9 ≤ (if j = k then -9 else μ 8 j) ∧ (if j = k then -9 else μ 8 j) ≤ 20000
      split <;> omega
  next => exact ⟨hI, ⟨h1, h2, h3⟩, h4, h5, h6, h7, h8⟩
theorem DI_endU {μ : xM} (h : DI μ) (m : Int) : ∀ k : Nat, (k : Int) ≤ μ 2 1 → DI (mEndU m μ k)
  | 0, _ => h
  | k + 1, hk => by
    rw [mEndU]
    exact DI_endU1 (DI_endU h m k (by omega)) m (by rw [mEndU_2]; omega)
theorem DI_endD {μ : xM} (h : DI μ) (m : Int) : ∀ k : Nat, k ≤ 6 → DI (mEndD m μ k)
  | 0, _ => h
  | k + 1, hk => by
    rw [mEndD]
    exact DI_endD1 (DI_endD h m k (by omega)) m (by omega)
theorem DI_ends {μ : xM} (h : DI μ) (m : Int) : DI (mEnds m μ) := by
  have h1 := h.1.2.1
  exact DI_endD (DI_endU h m _ (by omega)) m 6 (Nat.le_refl _)
theorem DI_GD {μ : xM} (h : DI μ) {m : Int} (hm : 0 ≤ m ∧ m ≤ 10000) {k : Nat} (hk : k < 6) (hf : μ 8 k < 0) (ht : 0 < μ 0 13) : DI (mGD μ k m) := by
  obtain ⟨hI, ⟨h1, h2, h3⟩, h4, h5, h6, h7, h8⟩ := h
  have hb := mBase_in hI
  have e1 := cN_upd (p := pD μ) (q := pD (mGD μ k m)) (i := k) (n := 6) hk (fun j hj => by
    unfold pD mGD
    simp [x_st, hj])
  have e2 : pD (mGD μ k m) k = true := by
    unfold pD mGD
    simp [x_st]
    omega
  have e3 : pD μ k = false := by unfold pD; exact decide_eq_false (by omega)
  rw [e2, e3, show bI false = 0 from rfl, show bI true = 1 from rfl] at e1
  refine ⟨hI, ⟨h1, ?_, ?_⟩, h4, ?_, h6, h7, fun j hj => ?_⟩
  · show 0 ≤ μ 0 13 - 1
    omega
  · show μ 0 12 + (μ 0 13 - 1) + cN (pU μ) (μ 2 1).toNat + cN (pD (mGD μ k m)) 6 = μ 2 2
    rw [e1]
    omega
  · show -9999 ≤ m ∧ m ≤ 10000
    omega
  · have := h8 j hj
    show -9 ≤ (if j = k then m + mBase (μ 2) else μ 8 j) ∧ (if j = k then m + mBase (μ 2) else μ 8 j) ≤ 20000
    split <;> omega
theorem DI_GU {μ : xM} (h : DI μ) {m t : Int} (hm : 0 ≤ m ∧ m ≤ 10000) (ht : 0 ≤ t ∧ t < μ 2 1) (hw : μ 9 t.toNat < 0 ∧ mKind (μ 2) t ≠ 3) (he : mHE μ t) : DI (mGU μ m t) := by
  obtain ⟨hI, ⟨h1, h2, h3⟩, h4, h5, h6, h7, h8⟩ := h
  have h10 := hI.2.1
  have hk := mKind_in (μ 2) t
  have hp := mTakes_pos hI hw.2
  have hq := mTakes_in hI t
  have hup : μ 7 t.toNat < 0 := by
    have := (h7 t.toNat (by omega)).2.2
    omega
  have e1 := cN_upd (p := pU μ) (q := pU (mGU μ m t)) (i := t.toNat) (n := (μ 2 1).toNat) (by omega) (fun j hj => by
    unfold pU
    rw [show mGU μ m t 2 = μ 2 from rfl, show mGU μ m t 7 j = μ 7 j by simp [mGU, x_st, hj]])
  have e2 : bI (pU (mGU μ m t) t.toNat) = (if 0 < mKind (μ 2) t then 1 else 0) := by
    have : pU (mGU μ m t) t.toNat = decide (0 ≤ m + mTakes (μ 2) t ∧ 0 < mKind (μ 2) t) := by
      unfold pU
      rw [show (mGU μ m t) 7 t.toNat = m + mTakes (μ 2) t by simp [mGU, x_st], show (mGU μ m t) 2 = μ 2 from rfl, nat_back ht.1]
    rw [this]
    by_cases hk : 0 < mKind (μ 2) t
    · rw [if_pos hk, decide_eq_true ⟨by omega, hk⟩]; rfl
    · rw [if_neg hk, decide_eq_false (fun q => hk q.2)]; rfl
  have e3 : pU μ t.toNat = false := by unfold pU; exact decide_eq_false (fun q => by omega)
  rw [e2, e3, show bI false = 0 from rfl] at e1
  refine ⟨hI, ⟨?_, h2, ?_⟩, ?_, h5, ?_, fun s hs => ?_, h8⟩
  · show 0 ≤ μ 0 12 - (if 0 < mKind (μ 2) t then 1 else 0)
    unfold mHE at he
    split <;> omega
  · show (μ 0 12 - (if 0 < mKind (μ 2) t then 1 else 0)) + μ 0 13 + cN (pU (mGU μ m t)) (μ 2 1).toNat + cN (pD μ) 6 = μ 2 2
    rw [e1]
    omega
  · show -9999 ≤ m ∧ m ≤ 10000
    omega
  · show 0 ≤ (if mKind (μ 2) t = 2 then m + mTakes (μ 2) t else μ 0 17) ∧ (if mKind (μ 2) t = 2 then m + mTakes (μ 2) t else μ 0 17) ≤ 20000
    split <;> omega
  · have := h7 s hs
    show (-9 ≤ (if s = t.toNat then m + mTakes (μ 2) t else μ 7 s) ∧ (if s = t.toNat then m + mTakes (μ 2) t else μ 7 s) ≤ 20000) ∧ (-9 ≤ (if s = t.toNat then m else μ 9 s) ∧ (if s = t.toNat then m else μ 9 s) ≤ 10000) ∧ (0 ≤ (if s = t.toNat then m + mTakes (μ 2) t else μ 7 s) → 0 ≤ (if s = t.toNat then m else μ 9 s))
    split
    · omega
    · exact this
/-- a free span for an engine on its way down -/
def mFrN (μ : xM) : Nat → Nat → Nat
  | 0, k => k
  | n + 1, k => if μ 8 k < 0 then k else mFrN μ n (k + 1)
def mFree (μ : xM) : Nat := mFrN μ 6 0
theorem mFrN_ok {μ : xM} : ∀ (n k : Nat), k + n = 6 → (∃ j, k ≤ j ∧ j < 6 ∧ μ 8 j < 0) → mFrN μ n k < 6 ∧ μ 8 (mFrN μ n k) < 0
  | 0, k, hk, ⟨j, h1, h2, h3⟩ => by omega
  | n + 1, k, hk, ⟨j, h1, h2, h3⟩ => by
    rw [mFrN]
    split
    · exact ⟨by omega, by assumption⟩
    · refine mFrN_ok n (k + 1) (by omega) ⟨j, ?_, h2, h3⟩
      rcases Nat.lt_or_ge k j with q | q
      · omega
      · have : j = k := by omega
        subst this
        contradiction
theorem mFree_ex {μ : xM} (h : DI μ) : ∃ j, 0 ≤ j ∧ j < 6 ∧ μ 8 j < 0 := by
  obtain ⟨hI, ⟨h1, h2, h3⟩, -⟩ := h
  have e1 := cN_in (pU μ) (μ 2 1).toNat
  have e3 := hI.2.2.1
  by_cases hx : ∃ j, 0 ≤ j ∧ j < 6 ∧ μ 8 j < 0
  · exact hx
  · have e2 : cN (pD μ) 6 = (6 : Nat) := cN_all (fun k hk => by
      unfold pD
      refine decide_eq_true ?_
      rcases Int.lt_or_le (μ 8 k) 0 with q | q
      · exact absurd ⟨k, Nat.zero_le _, hk, q⟩ hx
      · exact q)
    omega
def mWtN (μ : xM) (m : Int) : Nat → Bool
  | 0 => false
  | k + 1 => mWtN μ m k || decide (mWA μ m k)
def mWaiting (μ : xM) (m : Int) : Bool := mWtN μ m (μ 2 1).toNat
theorem mWtN_s (μ : xM) (m : Int) {p : Int} (hp : 0 ≤ p) : mWtN μ m (p + 1).toNat = (mWtN μ m p.toNat || decide (mWA μ m p)) := by rw [nat_succ hp, mWtN, nat_back hp]
abbrev mCan (μ : xM) (m t : Int) : Prop := mWA μ m t ∧ mHE μ t ∧ mLU μ m t
def mBsN (μ : xM) (m : Int) : Nat → Int
  | 0 => -9
  | k + 1 => if mCan μ m k ∧ (mBsN μ m k < 0 ∨ mAh (μ 2) k (mBsN μ m k)) then k else mBsN μ m k
def mBest (μ : xM) (m : Int) : Int := mBsN μ m (μ 2 1).toNat
theorem mBsN_s (μ : xM) (m : Int) {p : Int} (hp : 0 ≤ p) : mBsN μ m (p + 1).toNat = if mCan μ m p ∧ (mBsN μ m p.toNat < 0 ∨ mAh (μ 2) p (mBsN μ m p.toNat)) then p else mBsN μ m p.toNat := by rw [nat_succ hp, mBsN, nat_back hp]
theorem mBsN_in (μ : xM) (m : Int) : ∀ k : Nat, mBsN μ m k = -9 ∨ (0 ≤ mBsN μ m k ∧ mBsN μ m k < k ∧ mCan μ m (mBsN μ m k))
  | 0 => Or.inl rfl
  | k + 1 => by
    rw [mBsN]
    split
    next h => exact Or.inr ⟨by omega, by omega, h.1⟩
    next h =>
      rcases mBsN_in μ m k with q | q
      · exact Or.inl q
      · exact Or.inr ⟨q.1, by omega, q.2.2⟩
abbrev mDownNow (μ : xM) (m : Int) : Prop := 0 < μ 0 13 ∧ mLD μ m ∧ (μ 2 12 = 0 ∨ μ 0 12 = 0 ∨ bI (mWaiting μ m) = 0)
def mMin1 (m : Int) (ν : xM) : xM := if mDownNow ν m then mGD ν (mFree ν) m else if 0 ≤ mBest ν m then mGU ν m (mBest ν m) else ν
def mMin (m : Int) (μ : xM) : xM := mMin1 m (mEnds m μ)
theorem DI_Min1 {μ : xM} (h : DI μ) {m : Int} (hm : 0 ≤ m ∧ m ≤ 10000) : DI (mMin1 m μ) := by
  unfold mMin1
  split
  next hd =>
    have := mFrN_ok 6 0 rfl (mFree_ex h)
    exact DI_GD h hm this.1 this.2 hd.1
  next =>
    split
    next hb =>
      rcases mBsN_in μ m (μ 2 1).toNat with q | q
      · have : mBest μ m = -9 := q
        omega
      · have h10 := h.1.2.1
        have q2 : mCan μ m (mBest μ m) := q.2.2
        have q3 : mBest μ m < ((μ 2 1).toNat : Int) := q.2.1
        exact DI_GU h hm ⟨hb, by omega⟩ ⟨q2.1.1, q2.1.2.2⟩ q2.2.1
    next => exact h
theorem DI_Min {μ : xM} (h : DI μ) {m : Int} (hm : 0 ≤ m ∧ m ≤ 10000) : DI (mMin m μ) := DI_Min1 (DI_ends h m) hm
def mRun (μ : xM) : Nat → xM
  | 0 => μ
  | k + 1 => mMin k (mRun μ k)
def mDay (μ : xM) : xM := mRun (mOpens μ) 1441
theorem mRun_s (μ : xM) {p : Int} (hp : 0 ≤ p) : mRun μ (p + 1).toNat = mMin p (mRun μ p.toNat) := by rw [nat_succ hp, mRun, nat_back hp]
theorem DI_Run {μ : xM} (h : DI μ) : ∀ k : Nat, k ≤ 10000 → DI (mRun μ k)
  | 0, _ => h
  | k + 1, hk => by
    rw [mRun]
    exact DI_Min (DI_Run h k (by omega)) (by omega)
set_option maxRecDepth 100000 in
set_option maxHeartbeats 4000000 in
theorem mOpens_c (μ : xM) : (mOpens μ 2 = μ 2) ∧ (mOpens μ 0 12 = μ 2 2 ∧ mOpens μ 0 13 = 0 ∧ mOpens μ 0 14 = 0 ∧ mOpens μ 0 15 = -9999 ∧ mOpens μ 0 16 = -9999 ∧ mOpens μ 0 17 = 0) ∧ (∀ t, t < 8 → mOpens μ 7 t = -9 ∧ mOpens μ 9 t = -9) ∧ (∀ k, k < 6 → mOpens μ 8 k = -9) ∧ (∀ j, j < 12 ∨ 17 < j → mOpens μ 0 j = μ 0 j) ∧ (∀ k, k ≠ 0 → k ≠ 7 → k ≠ 8 → k ≠ 9 → mOpens μ k = μ k) := by
  have h1 : ∀ k, mOp1 μ k 2 = μ 2 ∧ mOp1 μ k 0 = μ 0 ∧ (∀ t, t < k → mOp1 μ k 7 t = -9 ∧ mOp1 μ k 9 t = -9) ∧ (∀ j, j ≠ 7 → j ≠ 9 → mOp1 μ k j = μ j) := by
    intro k
    induction k with
    | zero => exact ⟨rfl, rfl, fun t ht => by omega, fun _ _ _ => rfl⟩
    | succ k ih =>
      obtain ⟨a, b, c, d⟩ := ih
      refine ⟨a, b, fun t ht => ?_, fun j j7 j9 => ?_⟩
      · show (if t = k then (-9 : Int) else mOp1 μ k 7 t) = -9 ∧ (if t = k then (-9 : Int) else mOp1 μ k 9 t) = -9
        split
        · exact ⟨rfl, rfl⟩
        · exact c t (by omega)
      · funext x
        show (x_st (x_st (mOp1 μ k) 7 k (-9)) 9 k (-9)) j x = μ j x
        simp only [x_st, if_neg j7, if_neg j9]
        rw [d j j7 j9]
  have h3 : ∀ (ν : xM) k, (∀ t, t < k → mOp3 ν k 8 t = -9) ∧ (∀ j, j ≠ 8 → mOp3 ν k j = ν j) := by
    intro ν k
    induction k with
    | zero => exact ⟨fun t ht => by omega, fun _ _ => rfl⟩
    | succ k ih =>
      obtain ⟨c, d⟩ := ih
      refine ⟨fun t ht => ?_, fun j j8 => ?_⟩
      · show (if t = k then (-9 : Int) else mOp3 ν k 8 t) = -9
        split
        · rfl
        · exact c t (by omega)
      · funext x
        show (x_st (mOp3 ν k) 8 k (-9)) j x = ν j x
        simp only [x_st, if_neg j8]
        rw [d j j8]
  obtain ⟨a, b, c, d⟩ := h1 8
  obtain ⟨e, f⟩ := h3 (mOp2 (mOp1 μ 8)) 6
  refine ⟨?_, ?_, ?_, e, ?_, ?_⟩
  · show mOp3 (mOp2 (mOp1 μ 8)) 6 2 = μ 2
    rw [f 2 (by decide)]
    exact a
  · show mOp3 (mOp2 (mOp1 μ 8)) 6 0 12 = μ 2 2 ∧ mOp3 (mOp2 (mOp1 μ 8)) 6 0 13 = 0 ∧ mOp3 (mOp2 (mOp1 μ 8)) 6 0 14 = 0 ∧ mOp3 (mOp2 (mOp1 μ 8)) 6 0 15 = -9999 ∧ mOp3 (mOp2 (mOp1 μ 8)) 6 0 16 = -9999 ∧ mOp3 (mOp2 (mOp1 μ 8)) 6 0 17 = 0
    rw [f 0 (by decide)]
    refine ⟨?_, rfl, rfl, rfl, rfl, rfl⟩
    show mOp1 μ 8 2 2 = μ 2 2
    rw [a]
  · intro t ht
    show mOp3 (mOp2 (mOp1 μ 8)) 6 7 t = -9 ∧ mOp3 (mOp2 (mOp1 μ 8)) 6 9 t = -9
    rw [f 7 (by decide), f 9 (by decide)]
    exact c t ht
  · intro j hj
    show mOp3 (mOp2 (mOp1 μ 8)) 6 0 j = μ 0 j
    rw [f 0 (by decide), ← b]
    have : j ≠ 12 ∧ j ≠ 13 ∧ j ≠ 14 ∧ j ≠ 15 ∧ j ≠ 16 ∧ j ≠ 17 := by omega
    simp [mOp2, x_st, this]
  · intro k k0 k7 k8 k9
    show mOp3 (mOp2 (mOp1 μ 8)) 6 k = μ k
    rw [f k k8, ← d k k7 k9]
    funext x
    simp [mOp2, x_st, k0]
set_option maxRecDepth 100000 in
set_option maxHeartbeats 4000000 in
theorem DI_opens {μ : xM} (hI : MI (μ 2)) : DI (mOpens μ) := by
  obtain ⟨a, ⟨b1, b2, b3, b4, b5, b6⟩, c, d, -⟩ := mOpens_c μ
  have e1 : cN (pU (mOpens μ)) (mOpens μ 2 1).toNat = 0 := by
    have h10 := hI.2.1
    have : ∀ n : Nat, n ≤ 8 → cN (pU (mOpens μ)) n = 0 := by
      intro n
      induction n with
      | zero => intro _; rfl
      | succ n ih =>
        intro hn
        rw [cN, ih (by omega)]
        have : pU (mOpens μ) n = false := by
          unfold pU
          refine decide_eq_false ?_
          rw [(c n (by omega)).1]
          omega
        rw [this]
        rfl
    exact this _ (by rw [a]; omega)
  have e2 : cN (pD (mOpens μ)) 6 = 0 := by
    have : ∀ n : Nat, n ≤ 6 → cN (pD (mOpens μ)) n = 0 := by
      intro n
      induction n with
      | zero => intro _; rfl
      | succ n ih =>
        intro hn
        rw [cN, ih (by omega)]
        have : pD (mOpens μ) n = false := by
          unfold pD
          refine decide_eq_false ?_
          rw [d n (by omega)]
          omega
        rw [this]
        rfl
    exact this 6 (Nat.le_refl _)
  have h2 := hI.2.2.1
  refine ⟨by rw [a]; exact hI, ⟨?_, ?_, ?_⟩, ?_, ?_, ?_, fun t ht => ?_, fun k hk => ?_⟩
  · rw [b1]; omega
  · rw [b2]; omega
  · rw [e1, e2, b1, b2, a]; omega
  · rw [b4]; omega
  · rw [b5]; omega
  · rw [b6]; omega
  · rw [(c t ht).1, (c t ht).2]; omega
  · rw [d k hk]; omega
set_option maxRecDepth 100000 in
set_option maxHeartbeats 4000000 in
theorem l6_opens2 (μ : xM) : ∀ (n : Nat) (p : Int), 0 ≤ p → p ≤ 6 → (6 - p).toNat < n → X E0 shM 0 yX6_opens cX6_opens 2 none 71 [some (.inr (.inl 0)), some (.inl p)] [] (mOp3 μ p.toNat) (x_Qn (mOp3 μ 6)) := by
  intro n
  induction n with
  | zero => intro p _ _ h; omega
  | succ n ih =>
    intro p hp hp2 hn
    refine x_iload_n (i := 1) dX6_opens_71 rfl rfl ?_
    refine x_bipush dX6_opens_72 (by decide) ?_
    refine x_icmp_ge (tgt := 91) dX6_opens_74 (by decide) (by first | (unfold x_in; omega) | (unfold x_in; decide)) (by first | (unfold x_in; omega) | (unfold x_in; decide)) (fun c1 => ?_) (fun c1 => ?_)
    · exact x_vret dX6_opens_91 rfl ⟨rfl, by rw [show p = 6 by omega]; rfl⟩
    · refine x_aload_n (i := 0) dX6_opens_77 rfl rfl ?_
      refine x_getR xf_RX6_31 dX6_opens_78 rfl rfl ?_
      refine x_iload_n (i := 1) dX6_opens_81 rfl rfl ?_
      refine x_bipush dX6_opens_82 (by decide) ?_
      refine x_iast dX6_opens_84 rfl (by decide) (by first | omega | decide) (by first | omega | decide) ?_
      refine x_iinc_1 dX6_opens_85 (by decide) rfl ?_
      refine x_goto (tgt := 71) dX6_opens_88 (by decide) ?_
      have h := ih (p + 1) (by omega) (by omega) (by omega)
      rw [mOp3_s _ hp] at h
      exact h
set_option maxRecDepth 100000 in
set_option maxHeartbeats 4000000 in
theorem l6_opens1 (μ : xM) : ∀ (n : Nat) (p : Int), 0 ≤ p → p ≤ 8 → (8 - p).toNat < n → X E0 shM 0 yX6_opens cX6_opens 2 none 2 [some (.inr (.inl 0)), some (.inl p)] [] (mOp1 μ p.toNat) (x_Qn (mOpens μ)) := by
  intro n
  induction n with
  | zero => intro p _ _ h; omega
  | succ n ih =>
    intro p hp hp2 hn
    refine x_iload_n (i := 1) dX6_opens_2 rfl rfl ?_
    refine x_bipush dX6_opens_3 (by decide) ?_
    refine x_icmp_ge (tgt := 30) dX6_opens_5 (by decide) (by first | (unfold x_in; omega) | (unfold x_in; decide)) (by first | (unfold x_in; omega) | (unfold x_in; decide)) (fun c1 => ?_) (fun c1 => ?_)
    · refine x_aload_n (i := 0) dX6_opens_30 rfl rfl ?_
      refine x_aload_n (i := 0) dX6_opens_31 rfl rfl ?_
      refine x_getR xf_RX6_13 dX6_opens_32 rfl rfl ?_
      refine x_iconst dX6_opens_35 ?_
      refine x_ialdK (K := 2) dX6_opens_36 rfl rfl (by decide) (by decide) ?_
      refine x_putI xp_RX6_121 dX6_opens_37 rfl rfl ?_
      refine x_aload_n (i := 0) dX6_opens_40 rfl rfl ?_
      refine x_iconst dX6_opens_41 ?_
      refine x_putI xp_RX6_124 dX6_opens_42 rfl rfl ?_
      refine x_aload_n (i := 0) dX6_opens_45 rfl rfl ?_
      refine x_iconst dX6_opens_46 ?_
      refine x_putI xp_RX6_127 dX6_opens_47 rfl rfl ?_
      refine x_aload_n (i := 0) dX6_opens_50 rfl rfl ?_
      refine x_sipush dX6_opens_51 (by decide) ?_
      refine x_putI xp_RX6_130 dX6_opens_54 rfl rfl ?_
      refine x_aload_n (i := 0) dX6_opens_57 rfl rfl ?_
      refine x_sipush dX6_opens_58 (by decide) ?_
      refine x_putI xp_RX6_133 dX6_opens_61 rfl rfl ?_
      refine x_aload_n (i := 0) dX6_opens_64 rfl rfl ?_
      refine x_iconst dX6_opens_65 ?_
      refine x_putI xp_RX6_136 dX6_opens_66 rfl rfl ?_
      refine x_iconst dX6_opens_69 ?_
      refine x_istore_1 dX6_opens_70 (by decide) rfl ?_
      have e : p = 8 := by omega
      subst e
      exact l6_opens2 (mOp2 (mOp1 μ 8)) 7 0 (by omega) (by omega) (by omega)
    · refine x_aload_n (i := 0) dX6_opens_8 rfl rfl ?_
      refine x_getR xf_RX6_28 dX6_opens_9 rfl rfl ?_
      refine x_iload_n (i := 1) dX6_opens_12 rfl rfl ?_
      refine x_bipush dX6_opens_13 (by decide) ?_
      refine x_iast dX6_opens_15 rfl (by decide) (by first | omega | decide) (by first | omega | decide) ?_
      refine x_aload_n (i := 0) dX6_opens_16 rfl rfl ?_
      refine x_getR xf_RX6_34 dX6_opens_17 rfl rfl ?_
      refine x_iload_n (i := 1) dX6_opens_20 rfl rfl ?_
      refine x_bipush dX6_opens_21 (by decide) ?_
      refine x_iast dX6_opens_23 rfl (by decide) (by first | omega | decide) (by first | omega | decide) ?_
      refine x_iinc_1 dX6_opens_24 (by decide) rfl ?_
      refine x_goto (tgt := 2) dX6_opens_27 (by decide) ?_
      have h := ih (p + 1) (by omega) (by omega) (by omega)
      rw [mOp1_s _ hp] at h
      exact h
set_option maxRecDepth 100000 in
set_option maxHeartbeats 4000000 in
theorem s6_opens (μ : xM) : X E0 shM 0 yX6_opens cX6_opens 2 none 0 [some (.inr (.inl 0)), none] [] μ (x_Qn (mOpens μ)) := by
  refine x_iconst dX6_opens_0 ?_
  refine x_istore_1 dX6_opens_1 (by decide) rfl ?_
  exact l6_opens1 μ 9 0 (by omega) (by omega) (by omega)
