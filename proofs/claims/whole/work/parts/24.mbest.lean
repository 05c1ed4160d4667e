/-! THE REFERENCE: best -/
def soN (N : Nat) (h : Nat → Int) (p : List Nat) : Nat → Int := fun j => if 39 ≤ j ∧ j < 39 + N then ((p.getD (j - 39) 0 : Nat) : Int) else h j
def dF (N : Nat) (h : Nat → Int) (p : List Nat) : Int := dAll (soN N h p)
def lfB (F : List Nat → Int) (B : Int × List Nat) (p : List Nat) : Int × List Nat := if 0 ≤ B.1 ∧ B.1 ≤ F p then B else (F p, p)
def pGen (N : Nat) : Nat → List Nat → Nat → List (List Nat)
  | 0, pre, _ => [pre]
  | j + 1, pre, S => (List.range N).flatMap (fun t => if S.testBit t = true then [] else pGen N j (pre ++ [t]) (S ||| 2 ^ t))
def pCs (N j : Nat) (pre : List Nat) (S p : Nat) : List (List Nat) := (List.range p).flatMap (fun t => if S.testBit t = true then [] else pGen N j (pre ++ [t]) (S ||| 2 ^ t))
theorem pCs_s (N j : Nat) (pre : List Nat) (S p : Nat) : pCs N j pre S (p + 1) = pCs N j pre S p ++ (if S.testBit p = true then [] else pGen N j (pre ++ [p]) (S ||| 2 ^ p)) := by
  simp [pCs, List.range_succ]
def BR (κ : xM) (N : Nat) (h : Nat → Int) (ν : xM) (pre : List Nat) (B : Int × List Nat) : Prop :=
  (∀ k, k < pre.length → ν 2 (39 + k) = ((pre.getD k 0 : Nat) : Int)) ∧ (∀ j, (j < 39 ∨ 39 + N ≤ j) → ν 2 j = h j) ∧ ν 0 20 = B.1 ∧ (0 ≤ B.1 → ∀ k, k < N → ν 11 k = ((B.2.getD k 0 : Nat) : Int)) ∧ (∀ j, (j < 12 ∨ 17 < j) → j ≠ 20 → ν 0 j = κ 0 j) ∧ (∀ k, k ≠ 0 → k ≠ 2 → k ≠ 7 → k ≠ 8 → k ≠ 9 → k ≠ 11 → ν k = κ k) ∧ (∀ k : Int, 0 ≤ k → k < 8 → 0 ≤ ν 2 (39 + k).toNat ∧ ν 2 (39 + k).toNat ≤ 9) ∧ (-4800 ≤ B.1 ∧ B.1 ≤ 80000)
theorem MI_ord {h g : Nat → Int} (hI : MI h) (e : ∀ j, j < 39 → g j = h j) (ho : ∀ k : Int, 0 ≤ k → k < 8 → 0 ≤ g (39 + k).toNat ∧ g (39 + k).toNat ≤ 9) : MI g := by
  obtain ⟨a0, a1, a2, a3, a4, a5, a6, a7, a8, a9, a10, a11, a12, ap, at_, ao⟩ := hI
  refine ⟨?_, ?_, ?_, ?_, ?_, ?_, ?_, ?_, ?_, ?_, ?_, ?_, ?_, fun p p0 p5 => ?_, fun t t0 t8 => ?_, ho⟩
  all_goals first | (rw [e _ (by decide)]; assumption) | skip
  · rw [e _ (by omega), e _ (by omega)]
    exact ap p p0 p5
  · rw [e _ (by omega), e _ (by omega)]
    exact at_ t t0 t8
theorem BR.mi {κ : xM} {N : Nat} {h : Nat → Int} {ν : xM} {pre : List Nat} {B : Int × List Nat} (b : BR κ N h ν pre B) (hI : MI h) : MI (ν 2) := MI_ord hI (fun j hj => b.2.1 j (Or.inl hj)) b.2.2.2.2.2.2.1
theorem BR.so {κ : xM} {N : Nat} {h : Nat → Int} {ν : xM} {pre : List Nat} {B : Int × List Nat} (b : BR κ N h ν pre B) (hp : pre.length = N) : ν 2 = soN N h pre := by
  funext j
  unfold soN
  split
  next q =>
    have := b.1 (j - 39) (by omega)
    rw [show 39 + (j - 39) = j by omega] at this
    exact this
  next q => exact b.2.1 j (by omega)
theorem BR.same {κ : xM} {N : Nat} {h : Nat → Int} {ν ν2 : xM} {pre : List Nat} {B : Int × List Nat} (b : BR κ N h ν pre B) (s : Same ν ν2) : BR κ N h ν2 pre B := by
  obtain ⟨b1, b2, b3, b4, b5, b6, b7, b8⟩ := b
  have e2 : ν2 2 = ν 2 := s.2 2 (by decide) (by decide) (by decide) (by decide)
  have e11 : ν2 11 = ν 11 := s.2 11 (by decide) (by decide) (by decide) (by decide)
  refine ⟨by rw [e2]; exact b1, by rw [e2]; exact b2, by rw [s.1 20 (by decide)]; exact b3, by rw [e11]; exact b4, fun j hj h20 => by rw [s.1 j hj]; exact b5 j hj h20, fun k k0 k2 k7 k8 k9 k11 => by rw [s.2 k k0 k7 k8 k9]; exact b6 k k0 k2 k7 k8 k9 k11, by rw [e2]; exact b7, b8⟩
theorem BR.push {κ : xM} {N : Nat} {h : Nat → Int} {ν : xM} {pre : List Nat} {B : Int × List Nat} (b : BR κ N h ν pre B) {t : Nat} (ht : t < 8) (hp : pre.length < N) (hN : N ≤ 5) : BR κ N h (x_st ν 2 (39 + pre.length) (t : Int)) (pre ++ [t]) B := by
  obtain ⟨b1, b2, b3, b4, b5, b6, b7, b8⟩ := b
  refine ⟨fun k hk => ?_, fun j hj => ?_, b3, b4, b5, fun k k0 k2 k7 k8 k9 k11 => ?_, fun k k0 k8 => ?_, b8⟩
  · rw [x_st_2]
    unfold hset
    rw [List.length_append, List.length_singleton] at hk
    rw [List.getD_eq_getElem?_getD]
    by_cases hkl : k = pre.length
    · subst hkl
      simp
    · rw [if_neg (by omega), List.getElem?_append_left (by omega), ← List.getD_eq_getElem?_getD]
      exact b1 k (by omega)
  · rw [x_st_2]
    unfold hset
    rw [if_neg (by omega)]
    exact b2 j hj
  · rw [← b6 k k0 k2 k7 k8 k9 k11]
    funext x
    simp [x_st, k2]
  · rw [x_st_2]
    unfold hset
    split
    · omega
    · exact b7 k k0 k8
theorem BR.pop {κ : xM} {N : Nat} {h : Nat → Int} {ν : xM} {pre : List Nat} {t : Nat} {B : Int × List Nat} (b : BR κ N h ν (pre ++ [t]) B) : BR κ N h ν pre B := by
  refine ⟨fun k hk => ?_, b.2⟩
  have := b.1 k (by rw [List.length_append]; omega)
  rw [List.getD_eq_getElem?_getD, List.getElem?_append_left hk, ← List.getD_eq_getElem?_getD] at this
  exact this
def bCp (ν : xM) : Nat → xM
  | 0 => ν
  | k + 1 => x_st (bCp ν k) 11 k (ν 2 (39 + (k : Int)).toNat)
theorem bCp_s (ν : xM) {p : Int} (hp : 0 ≤ p) : bCp ν (p + 1).toNat = x_st (bCp ν p.toNat) 11 p.toNat (ν 2 (39 + p).toNat) := by rw [nat_succ hp, bCp, nat_back hp]
theorem bCp_ne (ν : xM) {j : Nat} (hj : j ≠ 11) : ∀ k, bCp ν k j = ν j
  | 0 => rfl
  | k + 1 => by
    rw [bCp, ← bCp_ne ν hj k]
    funext x
    simp [x_st, hj]
theorem bCp_at (ν : xM) : ∀ k i, i < k → bCp ν k 11 i = ν 2 (39 + (i : Int)).toNat
  | 0, i, h => by omega
  | k + 1, i, h => by
    rw [bCp]
    simp only [x_st, if_true]
    split
    next e => rw [e]
    next e => exact bCp_at ν k i (by omega)
theorem BR.leaf {κ : xM} {N : Nat} {h : Nat → Int} {ν : xM} {pre : List Nat} {B : Int × List Nat} (b : BR κ N h ν pre B) (hp : pre.length = N) {v : Int} (hv : -4800 ≤ v ∧ v ≤ 80000) : BR κ N h (bCp (x_st ν 0 20 v) N) pre (v, pre) := by
  obtain ⟨b1, b2, b3, b4, b5, b6, b7, b8⟩ := b
  have e2 : bCp (x_st ν 0 20 v) N 2 = ν 2 := bCp_ne _ (by decide) _
  have e0 : bCp (x_st ν 0 20 v) N 0 = (x_st ν 0 20 v) 0 := bCp_ne _ (by decide) _
  refine ⟨by rw [e2]; exact b1, by rw [e2]; exact b2, by rw [e0]; rfl, fun _ k hk => ?_, fun j hj h20 => ?_, fun k k0 k2 k7 k8 k9 k11 => ?_, by rw [e2]; exact b7, hv⟩
  · rw [bCp_at _ _ _ hk]
    have := b1 k (by omega)
    show ν 2 (39 + (k : Int)).toNat = _
    rw [show (39 + (k : Int)).toNat = 39 + k by omega]
    exact this
  · rw [e0]
    show (if j = 20 then v else ν 0 j) = κ 0 j
    rw [if_neg h20]
    exact b5 j hj h20
  · rw [bCp_ne _ k11, ← b6 k k0 k2 k7 k8 k9 k11]
    funext x
    simp [x_st, k0]
set_option maxRecDepth 100000 in
set_option maxHeartbeats 4000000 in
theorem e6_goesOn (N : Nat) (ν : xM) (S v : Int) (hN : N ≤ 5) : ∀ (k : Nat) (p : Int), 0 ≤ p → p ≤ N → ((N : Int) - p).toNat < k → X E0 shM 8 yX6_goesOn cX6_goesOn 5 none 39 [some (.inr (.inl 0)), some (.inl (N : Int)), some (.inl S), some (.inl v), some (.inl p)] [] (bCp ν p.toNat) (x_Qn (bCp ν N)) := by
  intro k
  induction k with
  | zero => intro p _ _ h; omega
  | succ k ih =>
    intro p hp hp2 hk
    have e2 : bCp ν p.toNat 2 = ν 2 := bCp_ne ν (by decide) _
    refine x_iload dX6_goesOn_39 rfl ?_
    refine x_iload_n (i := 1) dX6_goesOn_41 rfl rfl ?_
    refine x_icmp_ge (tgt := 68) dX6_goesOn_42 (by decide) (by first | (unfold x_in; omega) | (unfold x_in; decide)) (by first | (unfold x_in; omega) | (unfold x_in; decide)) (fun c1 => ?_) (fun c1 => ?_)
    · exact x_vret dX6_goesOn_68 rfl ⟨rfl, by rw [show p = (N : Int) by omega]; rfl⟩
    · refine x_aload_n (i := 0) dX6_goesOn_45 rfl rfl ?_
      refine x_getR xf_RX6_40 dX6_goesOn_46 rfl rfl ?_
      refine x_iload dX6_goesOn_49 rfl ?_
      refine x_aload_n (i := 0) dX6_goesOn_51 rfl rfl ?_
      refine x_getR xf_RX6_13 dX6_goesOn_52 rfl rfl ?_
      refine x_bipush dX6_goesOn_55 (by decide) ?_
      refine x_iload dX6_goesOn_57 rfl ?_
      refine x_iadd dX6_goesOn_59 ?_
      refine x_iald dX6_goesOn_60 rfl (by decide) (by first | omega | decide) (by first | omega | decide) ?_
      rw [e2]
      refine x_iast dX6_goesOn_61 rfl (by decide) (by first | omega | decide) (by first | omega | decide) ?_
      refine x_iinc_4 dX6_goesOn_62 (by decide) rfl ?_
      refine x_goto (tgt := 39) dX6_goesOn_65 (by decide) ?_
      have h := ih (p + 1) (by omega) (by omega) (by omega)
      rw [bCp_s _ hp] at h
      exact h
set_option maxRecDepth 100000 in
set_option maxHeartbeats 4000000 in
theorem s6_goesOn (κ : xM) (N : Nat) (hN : N ≤ 5) (h : Nat → Int) (hI : MI h) (h1 : h 1 = N) : ∀ (j : Nat) (pre : List Nat) (S : Nat) (ν : xM) (B : Int × List Nat) (n : Int), n = (pre.length : Int) → pre.length + j = N → S < 256 → BR κ N h ν pre B → X E0 shM (8 + j) yX6_goesOn cX6_goesOn 5 none 0 [some (.inr (.inl 0)), some (.inl n), some (.inl ((S : Int))), none, none] [] ν (fun r μ' => r = none ∧ BR κ N h μ' pre ((pGen N j pre S).foldl (lfB (dF N h)) B)) := by
  intro j
  induction j with
  | zero =>
    intro pre S ν B n hn hj hS hB
    have hI2 := hB.mi hI
    have e1 : ν 2 1 = N := by rw [hB.2.1 1 (by omega), h1]
    have eN : n = (N : Int) := by omega
    subst eN
    have hso := hB.so (by omega)
    have hd := dAll_in hI2
    have hBB := hB.2.2.2.2.2.2.2
    refine x_iload_n (i := 1) dX6_goesOn_0 rfl rfl ?_
    refine x_aload_n (i := 0) dX6_goesOn_1 rfl rfl ?_
    refine x_getR xf_RX6_13 dX6_goesOn_2 rfl rfl ?_
    refine x_iconst dX6_goesOn_5 ?_
    refine x_ialdK (K := 1) dX6_goesOn_6 rfl rfl (by decide) (by decide) ?_
    rw [e1]
    refine x_icmp_ne (tgt := 69) dX6_goesOn_7 (by decide) (by first | (unfold x_in; omega) | (unfold x_in; decide)) (by first | (unfold x_in; omega) | (unfold x_in; decide)) (fun c1 => ?_) (fun c1 => ?_)
    · exact absurd c1 (by omega)
    · refine x_aload_n (i := 0) dX6_goesOn_10 rfl rfl ?_
      refine x_cI0_0 lk_RX6_189 xm_X6_allOf dX6_goesOn_11 (s6_allOf _ hI2) (fun a μ' hq => ?_) (hd := by omega)
      obtain ⟨q1, hS1⟩ := hq
      cases q1
      have hB1 := hB.same hS1
      have e20 : μ' 0 20 = B.1 := hB1.2.2.1
      refine x_istore_3 dX6_goesOn_14 (by decide) rfl ?_
      refine x_aload_n (i := 0) dX6_goesOn_15 rfl rfl ?_
      refine x_getI xf_RX6_192 dX6_goesOn_16 rfl rfl ?_
      try simp (decide := true) only [x_st_at, ↓reduceIte, if_true, if_false]
      rw [e20]
      refine x_if_lt (tgt := 31) dX6_goesOn_19 (by decide) (by first | (unfold x_in; omega) | (unfold x_in; decide)) (fun c2 => ?_) (fun c2 => ?_)
      · refine x_aload_n (i := 0) dX6_goesOn_31 rfl rfl ?_
        refine x_iload_n (i := 3) dX6_goesOn_32 rfl rfl ?_
        refine x_putI xp_RX6_192 dX6_goesOn_33 rfl rfl ?_
        refine x_iconst dX6_goesOn_36 ?_
        refine x_istore_4 dX6_goesOn_37 (by decide) rfl ?_
        refine ((e6_goesOn N (x_st μ' 0 20 (dAll (ν 2))) S _ hN _ 0 (by omega) (by omega) (Nat.lt_succ_self _)).deep (by omega)).mono (fun r m q => ⟨q.1, ?_⟩)
        rw [q.2]
        have hl := hB1.leaf (by omega) hd
        show BR κ N h _ pre (lfB (dF N h) B pre)
        unfold lfB dF
        rw [← hso, if_neg (by omega)]
        exact hl
      · refine x_iload_n (i := 3) dX6_goesOn_22 rfl rfl ?_
        refine x_aload_n (i := 0) dX6_goesOn_23 rfl rfl ?_
        refine x_getI xf_RX6_192 dX6_goesOn_24 rfl rfl ?_
        try simp (decide := true) only [x_st_at, ↓reduceIte, if_true, if_false]
        rw [e20]
        refine x_icmp_lt (tgt := 31) dX6_goesOn_27 (by decide) (by first | (unfold x_in; omega) | (unfold x_in; decide)) (by first | (unfold x_in; omega) | (unfold x_in; decide)) (fun c3 => ?_) (fun c3 => ?_)
        · refine x_aload_n (i := 0) dX6_goesOn_31 rfl rfl ?_
          refine x_iload_n (i := 3) dX6_goesOn_32 rfl rfl ?_
          refine x_putI xp_RX6_192 dX6_goesOn_33 rfl rfl ?_
          refine x_iconst dX6_goesOn_36 ?_
          refine x_istore_4 dX6_goesOn_37 (by decide) rfl ?_
          refine ((e6_goesOn N (x_st μ' 0 20 (dAll (ν 2))) S _ hN _ 0 (by omega) (by omega) (Nat.lt_succ_self _)).deep (by omega)).mono (fun r m q => ⟨q.1, ?_⟩)
          rw [q.2]
          have hl := hB1.leaf (by omega) hd
          show BR κ N h _ pre (lfB (dF N h) B pre)
          unfold lfB dF
          rw [← hso, if_neg (by omega)]
          exact hl
        · refine x_vret dX6_goesOn_30 rfl ?_
          refine ⟨rfl, ?_⟩
          show BR κ N h μ' pre (lfB (dF N h) B pre)
          unfold lfB dF
          rw [← hso, if_pos (by omega)]
          exact hB1
  | succ j ih =>
    intro pre S ν B n hn hj hS hB
    have e1 : ν 2 1 = N := by rw [hB.2.1 1 (by omega), h1]
    have L : ∀ (k p : Nat) (ν2 : xM), p + k = N → BR κ N h ν2 pre ((pCs N j pre S p).foldl (lfB (dF N h)) B) → X E0 shM (8 + (j + 1)) yX6_goesOn cX6_goesOn 5 none 71 [some (.inr (.inl 0)), some (.inl n), some (.inl (S : Int)), some (.inl (p : Int)), none] [] ν2 (fun r μ' => r = none ∧ BR κ N h μ' pre ((pGen N (j + 1) pre S).foldl (lfB (dF N h)) B)) := by
      intro k
      induction k with
      | zero =>
        intro p ν2 hp hB2
        have e2 : ν2 2 1 = N := by rw [hB2.2.1 1 (by omega), h1]
        refine x_iload_n (i := 3) dX6_goesOn_71 rfl rfl ?_
        refine x_aload_n (i := 0) dX6_goesOn_72 rfl rfl ?_
        refine x_getR xf_RX6_13 dX6_goesOn_73 rfl rfl ?_
        refine x_iconst dX6_goesOn_76 ?_
        refine x_ialdK (K := 1) dX6_goesOn_77 rfl rfl (by decide) (by decide) ?_
        rw [e2]
        refine x_icmp_ge (tgt := 121) dX6_goesOn_78 (by decide) (by first | (unfold x_in; omega) | (unfold x_in; decide)) (by first | (unfold x_in; omega) | (unfold x_in; decide)) (fun c1 => ?_) (fun c1 => ?_)
        · refine x_vret dX6_goesOn_121 rfl ?_
          refine ⟨rfl, ?_⟩
          rw [show p = N by omega] at hB2
          exact hB2
        · exact absurd c1 (by omega)
      | succ k ih2 =>
        intro p ν2 hp hB2
        have e2 : ν2 2 1 = N := by rw [hB2.2.1 1 (by omega), h1]
        have ht8 : p < 8 := by omega
        have hshr := bit_shr S hS p ht8
        have hand := bit_and (S >>> p) (bit_lt2 S hS p ht8)
        have hshl := bit_shl p ht8
        have hor := bit_or S hS p ht8
        have htst := bit_tst S hS p ht8
        have hone := bit_one (S >>> p) (bit_lt2 S hS p ht8)
        have en : (39 + n).toNat = 39 + pre.length := by omega
        have K : ∀ ν3, BR κ N h ν3 pre ((pCs N j pre S (p + 1)).foldl (lfB (dF N h)) B) → X E0 shM (8 + (j + 1)) yX6_goesOn cX6_goesOn 5 none 71 [some (.inr (.inl 0)), some (.inl n), some (.inl (S : Int)), some (.inl ((p : Int) + 1)), none] [] ν3 (fun r μ' => r = none ∧ BR κ N h μ' pre ((pGen N (j + 1) pre S).foldl (lfB (dF N h)) B)) := by
          intro ν3 h3
          exact ih2 (p + 1) ν3 (by omega) h3
        refine x_iload_n (i := 3) dX6_goesOn_71 rfl rfl ?_
        refine x_aload_n (i := 0) dX6_goesOn_72 rfl rfl ?_
        refine x_getR xf_RX6_13 dX6_goesOn_73 rfl rfl ?_
        refine x_iconst dX6_goesOn_76 ?_
        refine x_ialdK (K := 1) dX6_goesOn_77 rfl rfl (by decide) (by decide) ?_
        rw [e2]
        refine x_icmp_ge (tgt := 121) dX6_goesOn_78 (by decide) (by first | (unfold x_in; omega) | (unfold x_in; decide)) (by first | (unfold x_in; omega) | (unfold x_in; decide)) (fun c1 => ?_) (fun c1 => ?_)
        · exact absurd c1 (by omega)
        · refine x_iload_n (i := 2) dX6_goesOn_81 rfl rfl ?_
          refine x_iload_n (i := 3) dX6_goesOn_82 rfl rfl ?_
          refine x_ishr (r := ((S >>> p : Nat) : Int)) dX6_goesOn_83 (hshr) ?_
          refine x_iconst dX6_goesOn_84 ?_
          refine x_iand (r := ((S >>> p &&& 1 : Nat) : Int)) dX6_goesOn_85 (hand) ?_
          refine x_iconst dX6_goesOn_86 ?_
          refine x_icmp_ne (tgt := 93) dX6_goesOn_87 (by decide) (by first | (unfold x_in; omega) | (unfold x_in; decide)) (by first | (unfold x_in; omega) | (unfold x_in; decide)) (fun c2 => ?_) (fun c2 => ?_)
          · refine x_aload_n (i := 0) dX6_goesOn_93 rfl rfl ?_
            refine x_getR xf_RX6_13 dX6_goesOn_94 rfl rfl ?_
            refine x_bipush dX6_goesOn_97 (by decide) ?_
            refine x_iload_n (i := 1) dX6_goesOn_99 rfl rfl ?_
            refine x_iadd dX6_goesOn_100 ?_
            refine x_iload_n (i := 3) dX6_goesOn_101 rfl rfl ?_
            refine x_iast dX6_goesOn_102 rfl (by decide) (by first | omega | decide) (by first | omega | decide) ?_
            rw [en]
            have hbt : ¬ S.testBit p = true := fun q => absurd (htst.1 q) (by omega)
            have hB3 := hB2.push (t := p) ht8 (by omega) hN
            refine x_aload_n (i := 0) dX6_goesOn_103 rfl rfl ?_
            refine x_iload_n (i := 1) dX6_goesOn_104 rfl rfl ?_
            refine x_iconst dX6_goesOn_105 ?_
            refine x_iadd dX6_goesOn_106 ?_
            refine x_iload_n (i := 2) dX6_goesOn_107 rfl rfl ?_
            refine x_iconst dX6_goesOn_108 ?_
            refine x_iload_n (i := 3) dX6_goesOn_109 rfl rfl ?_
            refine x_ishl (r := ((2 ^ p : Nat) : Int)) dX6_goesOn_110 (hshl) ?_
            refine x_ior (r := ((S ||| 2 ^ p : Nat) : Int)) dX6_goesOn_111 (hor) ?_
            refine x_cV0_2 lk_RX6_195 xm_X6_goesOn dX6_goesOn_112 (ih (pre ++ [p]) (S ||| 2 ^ p) _ _ (n + 1) (by rw [List.length_append]; simp; omega) (by rw [List.length_append]; simp; omega) (bit_lt S hS p ht8) hB3) (fun μ' hq => ?_) (hd := by omega)
            obtain ⟨-, hB4⟩ := hq
            refine x_iinc_3 dX6_goesOn_115 (by decide) rfl ?_
            refine x_goto (tgt := 71) dX6_goesOn_118 (by decide) ?_
            refine K _ ?_
            rw [pCs_s, List.foldl_append]
            first | (rw [if_neg hbt]; exact hB4.pop) | (rw [if_pos (htst.2 (by omega))]; exact hB2)
          · refine x_goto (tgt := 115) dX6_goesOn_90 (by decide) ?_
            refine x_iinc_3 dX6_goesOn_115 (by decide) rfl ?_
            refine x_goto (tgt := 71) dX6_goesOn_118 (by decide) ?_
            refine K _ ?_
            rw [pCs_s, List.foldl_append]
            first | (rw [if_neg hbt]; exact hB4.pop) | (rw [if_pos (htst.2 (by omega))]; exact hB2)
    refine x_iload_n (i := 1) dX6_goesOn_0 rfl rfl ?_
    refine x_aload_n (i := 0) dX6_goesOn_1 rfl rfl ?_
    refine x_getR xf_RX6_13 dX6_goesOn_2 rfl rfl ?_
    refine x_iconst dX6_goesOn_5 ?_
    refine x_ialdK (K := 1) dX6_goesOn_6 rfl rfl (by decide) (by decide) ?_
    rw [e1]
    refine x_icmp_ne (tgt := 69) dX6_goesOn_7 (by decide) (by first | (unfold x_in; omega) | (unfold x_in; decide)) (by first | (unfold x_in; omega) | (unfold x_in; decide)) (fun c1 => ?_) (fun c1 => ?_)
    · refine x_iconst dX6_goesOn_69 ?_
      refine x_istore_3 dX6_goesOn_70 (by decide) rfl ?_
      exact L N 0 ν (by omega) hB
    · exact absurd c1 (by omega)
