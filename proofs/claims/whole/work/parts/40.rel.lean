/-! THE DAY: the class's traffic beside the reference's -/
def fo (ρ : xM) (x : Int) : Int := ρ 0 12 + cN (fun k => decide (0 ≤ ρ 8 k ∧ ρ 8 k ≤ x)) 6
def to_ (ρ : xM) (x : Int) : Int := ρ 0 13 + cN (fun t => decide (0 ≤ ρ 7 t ∧ ρ 7 t ≤ x ∧ 0 < mKind (ρ 2) t)) (ρ 2 1).toNat
def upF (ρ : xM) (x : Int) : Prop := ∃ t : Nat, t < (ρ 2 1).toNat ∧ 0 ≤ ρ 7 t ∧ x < ρ 7 t
def dnF (ρ : xM) (x : Int) : Prop := ∃ k : Nat, k < 6 ∧ 0 ≤ ρ 8 k ∧ x < ρ 8 k
theorem cN_pos {p : Nat → Bool} : ∀ {n : Nat}, (0 < cN p n ↔ ∃ i, i < n ∧ p i = true)
  | 0 => ⟨fun h => absurd h (Int.lt_irrefl 0), fun ⟨i, h, _⟩ => absurd h (Nat.not_lt_zero i)⟩
  | n + 1 => by
    have ih := @cN_pos p n
    have hn := cN_in p n
    rw [cN]
    constructor
    · intro h
      cases hp : p n with
      | true => exact ⟨n, Nat.lt_succ_self n, hp⟩
      | false =>
        rw [hp] at h
        obtain ⟨i, h1, h2⟩ := ih.1 (by rw [show bI false = 0 from rfl] at h; omega)
        exact ⟨i, by omega, h2⟩
    · rintro ⟨i, h1, h2⟩
      have hb := bI_in (p n)
      by_cases e : i = n
      · subst e
        rw [h2, show bI true = 1 from rfl]
        omega
      · have := ih.2 ⟨i, by omega, h2⟩
        omega
theorem endU_7 (m : Int) (μ : xM) (t : Nat) : ∀ n : Nat, mEndU m μ n 7 t = if t < n ∧ 0 ≤ μ 7 t ∧ μ 7 t ≤ m then -9 else μ 7 t
  | 0 => by rw [if_neg (by omega)]; rfl
  | n + 1 => by
    have ih := endU_7 m μ t n
    rw [mEndU]
    unfold mEndU1
    split
    next h =>
      have e : x_st (x_st (mEndU m μ n) 7 (n : Int).toNat (-9)) 0 13 (mEndU m μ n 0 13 + (if 0 < mKind (mEndU m μ n 2) n then 1 else 0)) 7 t = if t = (n : Int).toNat then -9 else mEndU m μ n 7 t := rfl
      rw [e]
      by_cases q : t = n
      · rw [if_pos (by omega)]
        rw [show (n : Int).toNat = t by omega, ih, if_neg (by omega)] at h
        rw [if_pos ⟨by omega, h⟩]
      · rw [if_neg (by omega), ih]
        by_cases r : t < n ∧ 0 ≤ μ 7 t ∧ μ 7 t ≤ m
        · rw [if_pos r, if_pos (by omega)]
        · rw [if_neg r, if_neg (by omega)]
    next h =>
      rw [ih]
      by_cases q : t = n
      · rw [show (n : Int).toNat = t by omega, ih, if_neg (by omega)] at h
        rw [if_neg (by omega), if_neg (by omega)]
      · by_cases r : t < n ∧ 0 ≤ μ 7 t ∧ μ 7 t ≤ m
        · rw [if_pos r, if_pos (by omega)]
        · rw [if_neg r, if_neg (by omega)]
theorem endD_8 (m : Int) (μ : xM) (t : Nat) : ∀ n : Nat, mEndD m μ n 8 t = if t < n ∧ 0 ≤ μ 8 t ∧ μ 8 t ≤ m then -9 else μ 8 t
  | 0 => by rw [if_neg (by omega)]; rfl
  | n + 1 => by
    have ih := endD_8 m μ t n
    rw [mEndD]
    unfold mEndD1
    split
    next h =>
      have e : x_st (x_st (mEndD m μ n) 8 (n : Int).toNat (-9)) 0 12 (mEndD m μ n 0 12 + 1) 8 t = if t = (n : Int).toNat then -9 else mEndD m μ n 8 t := rfl
      rw [e]
      by_cases q : t = n
      · rw [if_pos (by omega)]
        rw [show (n : Int).toNat = t by omega, ih, if_neg (by omega)] at h
        rw [if_pos ⟨by omega, h⟩]
      · rw [if_neg (by omega), ih]
        by_cases r : t < n ∧ 0 ≤ μ 8 t ∧ μ 8 t ≤ m
        · rw [if_pos r, if_pos (by omega)]
        · rw [if_neg r, if_neg (by omega)]
    next h =>
      rw [ih]
      by_cases q : t = n
      · rw [show (n : Int).toNat = t by omega, ih, if_neg (by omega)] at h
        rw [if_neg (by omega), if_neg (by omega)]
      · by_cases r : t < n ∧ 0 ≤ μ 8 t ∧ μ 8 t ≤ m
        · rw [if_pos r, if_pos (by omega)]
        · rw [if_neg r, if_neg (by omega)]
theorem endU1_c (m t : Int) (μ : xM) : (∀ j, j ≠ 13 → mEndU1 m t μ 0 j = μ 0 j) ∧ mEndU1 m t μ 8 = μ 8 := by
  unfold mEndU1
  split
  · exact ⟨fun j hj => (x_st_ne (Or.inr hj)).trans (x_st_ne (Or.inl (by decide))), rfl⟩
  · exact ⟨fun _ _ => rfl, rfl⟩
theorem endD1_c (m t : Int) (μ : xM) : (∀ j, j ≠ 12 → mEndD1 m t μ 0 j = μ 0 j) ∧ mEndD1 m t μ 7 = μ 7 := by
  unfold mEndD1
  split
  · exact ⟨fun j hj => (x_st_ne (Or.inr hj)).trans (x_st_ne (Or.inl (by decide))), rfl⟩
  · exact ⟨fun _ _ => rfl, rfl⟩
theorem endU_c (m : Int) (μ : xM) : ∀ n, (∀ j, j ≠ 13 → mEndU m μ n 0 j = μ 0 j) ∧ mEndU m μ n 8 = μ 8
  | 0 => ⟨fun _ _ => rfl, rfl⟩
  | n + 1 => by
    have ih := endU_c m μ n
    have h := endU1_c m n (mEndU m μ n)
    rw [mEndU]
    exact ⟨fun j hj => (h.1 j hj).trans (ih.1 j hj), h.2.trans ih.2⟩
theorem endD_c (m : Int) (μ : xM) : ∀ n, (∀ j, j ≠ 12 → mEndD m μ n 0 j = μ 0 j) ∧ mEndD m μ n 7 = μ 7
  | 0 => ⟨fun _ _ => rfl, rfl⟩
  | n + 1 => by
    have ih := endD_c m μ n
    have h := endD1_c m n (mEndD m μ n)
    rw [mEndD]
    exact ⟨fun j hj => (h.1 j hj).trans (ih.1 j hj), h.2.trans ih.2⟩
theorem ends_7 (m : Int) (μ : xM) {t : Nat} (ht : t < (μ 2 1).toNat) : mEnds m μ 7 t = if 0 ≤ μ 7 t ∧ μ 7 t ≤ m then -9 else μ 7 t := by
  unfold mEnds
  rw [(endD_c m _ 6).2, endU_7]
  by_cases h : 0 ≤ μ 7 t ∧ μ 7 t ≤ m
  · rw [if_pos ⟨ht, h⟩, if_pos h]
  · rw [if_neg (fun q => h q.2), if_neg h]
theorem ends_8 (m : Int) (μ : xM) {t : Nat} (ht : t < 6) : mEnds m μ 8 t = if 0 ≤ μ 8 t ∧ μ 8 t ≤ m then -9 else μ 8 t := by
  unfold mEnds
  rw [endD_8, (endU_c m μ _).2]
  by_cases h : 0 ≤ μ 8 t ∧ μ 8 t ≤ m
  · rw [if_pos ⟨ht, h⟩, if_pos h]
  · rw [if_neg (fun q => h q.2), if_neg h]
theorem ends_0 (m : Int) (μ : xM) {j : Nat} (h12 : j ≠ 12) (h13 : j ≠ 13) : mEnds m μ 0 j = μ 0 j := by
  unfold mEnds
  rw [(endD_c m _ 6).1 j h12, (endU_c m μ _).1 j h13]
theorem fo_D1 {m x : Int} (hx : m ≤ x) (μ : xM) {k : Nat} (hk : k < 6) : fo (mEndD1 m k μ) x = fo μ x := by
  unfold mEndD1
  split
  next h =>
    unfold fo
    have e := cN_upd (p := fun k => decide (0 ≤ μ 8 k ∧ μ 8 k ≤ x)) (q := fun j => decide (0 ≤ x_st (x_st μ 8 (k : Int).toNat (-9)) 0 12 (μ 0 12 + 1) 8 j ∧ x_st (x_st μ 8 (k : Int).toNat (-9)) 0 12 (μ 0 12 + 1) 8 j ≤ x)) (i := k) hk (fun j hj => by
      have : x_st (x_st μ 8 (k : Int).toNat (-9)) 0 12 (μ 0 12 + 1) 8 j = μ 8 j := (x_st_ne (Or.inl (by decide))).trans (x_st_ne (Or.inr (by omega)))
      simp only [this])
    rw [e]
    have e1 : decide (0 ≤ μ 8 k ∧ μ 8 k ≤ x) = true := decide_eq_true (by rw [show (k : Int).toNat = k by omega] at h; omega)
    have e2 : x_st (x_st μ 8 (k : Int).toNat (-9)) 0 12 (μ 0 12 + 1) 8 k = -9 := by
      rw [show (k : Int).toNat = k by omega]
      exact (x_st_ne (Or.inl (by decide))).trans x_st_eq
    simp only [e1, e2]
    show μ 0 12 + 1 + (cN _ 6 - 1 + 0) = _
    omega
  next => rfl
theorem to_U1 {m x : Int} (hx : m ≤ x) (μ : xM) {t : Nat} (ht : t < (μ 2 1).toNat) : to_ (mEndU1 m t μ) x = to_ μ x := by
  unfold mEndU1
  split
  next h =>
    rw [show (t : Int).toNat = t by omega] at h ⊢
    unfold to_
    have e2 : x_st (x_st μ 7 t (-9)) 0 13 (μ 0 13 + (if 0 < mKind (μ 2) t then 1 else 0)) 7 t = -9 := (x_st_ne (Or.inl (by decide))).trans x_st_eq
    have e := cN_upd (n := (μ 2 1).toNat) (p := fun k => decide (0 ≤ μ 7 k ∧ μ 7 k ≤ x ∧ 0 < mKind (μ 2) k)) (q := fun j => decide (0 ≤ x_st (x_st μ 7 t (-9)) 0 13 (μ 0 13 + (if 0 < mKind (μ 2) t then 1 else 0)) 7 j ∧ x_st (x_st μ 7 t (-9)) 0 13 (μ 0 13 + (if 0 < mKind (μ 2) t then 1 else 0)) 7 j ≤ x ∧ 0 < mKind (μ 2) j)) (i := t) ht (fun j hj => by
      have : x_st (x_st μ 7 t (-9)) 0 13 (μ 0 13 + (if 0 < mKind (μ 2) t then 1 else 0)) 7 j = μ 7 j := (x_st_ne (Or.inl (by decide))).trans (x_st_ne (Or.inr (by omega)))
      simp only [this])
    show μ 0 13 + (if 0 < mKind (μ 2) t then 1 else 0) + cN _ (μ 2 1).toNat = _
    rw [show (fun t_1 : Nat => decide (0 ≤ x_st (x_st μ 7 t (-9)) 0 13 (μ 0 13 + (if 0 < mKind (μ 2) t then 1 else 0)) 7 t_1 ∧ x_st (x_st μ 7 t (-9)) 0 13 (μ 0 13 + (if 0 < mKind (μ 2) t then 1 else 0)) 7 t_1 ≤ x ∧ 0 < mKind (x_st (x_st μ 7 t (-9)) 0 13 (μ 0 13 + (if 0 < mKind (μ 2) t then 1 else 0)) 2) t_1)) = (fun j : Nat => decide (0 ≤ x_st (x_st μ 7 t (-9)) 0 13 (μ 0 13 + (if 0 < mKind (μ 2) t then 1 else 0)) 7 j ∧ x_st (x_st μ 7 t (-9)) 0 13 (μ 0 13 + (if 0 < mKind (μ 2) t then 1 else 0)) 7 j ≤ x ∧ 0 < mKind (μ 2) j)) from rfl, e]
    simp only [e2]
    by_cases hk : 0 < mKind (μ 2) t
    · rw [if_pos hk, decide_eq_true (show 0 ≤ μ 7 t ∧ μ 7 t ≤ x ∧ 0 < mKind (μ 2) t from ⟨h.1, by omega, hk⟩)]
      show μ 0 13 + 1 + (cN _ _ - 1 + 0) = _
      omega
    · rw [if_neg hk, decide_eq_false (fun q => hk q.2.2)]
      show μ 0 13 + 0 + (cN _ _ - 0 + 0) = _
      omega
  next => rfl
theorem fo_c {μ ν : xM} (h12 : ν 0 12 = μ 0 12) (h8 : ν 8 = μ 8) (x : Int) : fo ν x = fo μ x := by
  unfold fo
  rw [h12, h8]
theorem to_c {μ ν : xM} (h13 : ν 0 13 = μ 0 13) (h7 : ν 7 = μ 7) (h2 : ν 2 = μ 2) (x : Int) : to_ ν x = to_ μ x := by
  unfold to_
  rw [h13, h7, h2]
theorem ends_fo {m x : Int} (hx : m ≤ x) (μ : xM) : fo (mEnds m μ) x = fo μ x := by
  have K : ∀ n ≤ 6, ∀ ν, fo (mEndD m ν n) x = fo ν x := by
    intro n
    induction n with
    | zero => intro _ ν; rfl
    | succ n ih => intro hn ν; rw [mEndD, fo_D1 hx _ (by omega), ih (by omega)]
  unfold mEnds
  rw [K 6 (Nat.le_refl _)]
  have h := endU_c m μ (μ 2 1).toNat
  exact fo_c (h.1 12 (by decide)) h.2 x
theorem ends_to {m x : Int} (hx : m ≤ x) (μ : xM) : to_ (mEnds m μ) x = to_ μ x := by
  have K : ∀ n ≤ (μ 2 1).toNat, to_ (mEndU m μ n) x = to_ μ x := by
    intro n
    induction n with
    | zero => intro _; rfl
    | succ n ih => intro hn; rw [mEndU, to_U1 hx _ (by rw [mEndU_2]; omega), ih (by omega)]
  unfold mEnds
  have h := endD_c m (mEndU m μ (μ 2 1).toNat) 6
  rw [to_c (h.1 13 (by decide)) h.2 (mEndD_2 _ _ _)]
  exact K _ (Nat.le_refl _)
theorem ends_up {m x : Int} (hx : m ≤ x) (μ : xM) : upF (mEnds m μ) x ↔ upF μ x := by
  unfold upF
  rw [mEnds_2]
  constructor
  · rintro ⟨t, h1, h2, h3⟩
    rw [ends_7 m μ h1] at h2 h3
    split at h2
    · omega
    next q => rw [if_neg q] at h3; exact ⟨t, h1, h2, h3⟩
  · rintro ⟨t, h1, h2, h3⟩
    refine ⟨t, h1, ?_⟩
    rw [ends_7 m μ h1, if_neg (by omega)]
    exact ⟨h2, h3⟩
theorem ends_dn {m x : Int} (hx : m ≤ x) (μ : xM) : dnF (mEnds m μ) x ↔ dnF μ x := by
  unfold dnF
  constructor
  · rintro ⟨t, h1, h2, h3⟩
    rw [ends_8 m μ h1] at h2 h3
    split at h2
    · omega
    next q => rw [if_neg q] at h3; exact ⟨t, h1, h2, h3⟩
  · rintro ⟨t, h1, h2, h3⟩
    refine ⟨t, h1, ?_⟩
    rw [ends_8 m μ h1, if_neg (by omega)]
    exact ⟨h2, h3⟩
theorem ends_foot (m : Int) (μ : xM) : mEnds m μ 0 12 = fo μ m := by
  rw [← ends_fo (Int.le_refl m) μ]
  have h : cN (fun k => decide (0 ≤ mEnds m μ 8 k ∧ mEnds m μ 8 k ≤ m)) 6 = 0 := by
    rcases Int.lt_or_le 0 (cN (fun k => decide (0 ≤ mEnds m μ 8 k ∧ mEnds m μ 8 k ≤ m)) 6) with q | q
    · obtain ⟨i, h1, h2⟩ := cN_pos.1 q
      have h3 := of_decide_eq_true h2
      rw [ends_8 m μ h1] at h3
      split at h3 <;> omega
    · have := cN_in (fun k => decide (0 ≤ mEnds m μ 8 k ∧ mEnds m μ 8 k ≤ m)) 6
      omega
  unfold fo
  rw [h]
  omega
theorem ends_top (m : Int) (μ : xM) : mEnds m μ 0 13 = to_ μ m := by
  rw [← ends_to (Int.le_refl m) μ]
  have h : cN (fun t => decide (0 ≤ mEnds m μ 7 t ∧ mEnds m μ 7 t ≤ m ∧ 0 < mKind (mEnds m μ 2) t)) (mEnds m μ 2 1).toNat = 0 := by
    rcases Int.lt_or_le 0 (cN (fun t => decide (0 ≤ mEnds m μ 7 t ∧ mEnds m μ 7 t ≤ m ∧ 0 < mKind (mEnds m μ 2) t)) (mEnds m μ 2 1).toNat) with q | q
    · obtain ⟨i, h1, h2⟩ := cN_pos.1 q
      have h3 := of_decide_eq_true h2
      rw [mEnds_2] at h1
      rw [ends_7 m μ h1] at h3
      split at h3 <;> omega
    · have := cN_in (fun t => decide (0 ≤ mEnds m μ 7 t ∧ mEnds m μ 7 t ≤ m ∧ 0 < mKind (mEnds m μ 2) t)) (mEnds m μ 2 1).toNat
      omega
  unfold to_
  rw [h]
  omega
theorem mUpN_ex (μ : xM) : ∀ n, (mUpN μ n = true ↔ ∃ t : Nat, t < n ∧ 0 ≤ μ 7 t)
  | 0 => ⟨fun h => absurd h (by simp [mUpN]), fun ⟨t, h, _⟩ => absurd h (Nat.not_lt_zero t)⟩
  | n + 1 => by
    have ih := mUpN_ex μ n
    rw [mUpN, Bool.or_eq_true, ih, decide_eq_true_eq]
    constructor
    · rintro (⟨t, h1, h2⟩ | h)
      · exact ⟨t, by omega, h2⟩
      · exact ⟨n, by omega, h⟩
    · rintro ⟨t, h1, h2⟩
      by_cases e : t = n
      · subst e; exact Or.inr h2
      · exact Or.inl ⟨t, by omega, h2⟩
theorem mDnN_ex (μ : xM) : ∀ n, (mDnN μ n = true ↔ ∃ t : Nat, t < n ∧ 0 ≤ μ 8 t)
  | 0 => ⟨fun h => absurd h (by simp [mDnN]), fun ⟨t, h, _⟩ => absurd h (Nat.not_lt_zero t)⟩
  | n + 1 => by
    have ih := mDnN_ex μ n
    rw [mDnN, Bool.or_eq_true, ih, decide_eq_true_eq]
    constructor
    · rintro (⟨t, h1, h2⟩ | h)
      · exact ⟨t, by omega, h2⟩
      · exact ⟨n, by omega, h⟩
    · rintro ⟨t, h1, h2⟩
      by_cases e : t = n
      · subst e; exact Or.inr h2
      · exact Or.inl ⟨t, by omega, h2⟩
theorem ends_mUp (m : Int) (μ : xM) : bI (mUp (mEnds m μ)) = 0 ↔ ¬ upF μ m := by
  have h : mUp (mEnds m μ) = true ↔ upF μ m := by
    unfold mUp upF
    rw [mUpN_ex, mEnds_2]
    constructor
    · rintro ⟨t, h1, h2⟩
      rw [ends_7 m μ h1] at h2
      split at h2
      · omega
      · exact ⟨t, h1, h2, by omega⟩
    · rintro ⟨t, h1, h2, h3⟩
      exact ⟨t, h1, by rw [ends_7 m μ h1, if_neg (by omega)]; exact h2⟩
  rw [← h]
  cases mUp (mEnds m μ) <;> simp [bI]
theorem ends_mDn (m : Int) (μ : xM) : bI (mDn (mEnds m μ)) = 0 ↔ ¬ dnF μ m := by
  have h : mDn (mEnds m μ) = true ↔ dnF μ m := by
    unfold mDn dnF
    rw [mDnN_ex]
    constructor
    · rintro ⟨t, h1, h2⟩
      rw [ends_8 m μ h1] at h2
      split at h2
      · omega
      · exact ⟨t, h1, h2, by omega⟩
    · rintro ⟨t, h1, h2, h3⟩
      exact ⟨t, h1, by rw [ends_8 m μ h1, if_neg (by omega)]; exact h2⟩
  rw [← h]
  cases mDn (mEnds m μ) <;> simp [bI]
