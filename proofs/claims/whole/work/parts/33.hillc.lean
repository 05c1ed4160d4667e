/-! THE CLASS, Hill: copyFrom; the next order -/
theorem va_cpy0 (f g : Nat → Int) (n j : Nat) : va_cpy f g 0 0 n j = if j < n then f j else g j := by
  unfold va_cpy
  by_cases h : j < n
  · rw [if_pos ⟨Nat.zero_le _, by omega⟩, if_pos h]
    congr 1
    omega
  · rw [if_neg (by omega), if_neg h]
theorem hOf_sh (μ ν : xM) (a b : Nat) (h0 : ν b 0 = μ a 0) (h3 : ν b 3 = μ a 3) (h6 : ν b 6 = μ a 6) (h8 : ν b 8 = μ a 8) (m : ∀ j, j < 5 → ν (b + 1) j = μ (a + 1) j) (d : ∀ j, j < 5 → ν (b + 2) j = μ (a + 2) j) (c : ∀ j, j < 8 → ν (b + 3) j = μ (a + 3) j) (w : ∀ j, j < 8 → ν (b + 4) j = μ (a + 4) j) (s : ∀ j, j < 9 → ν (b + 5) j = μ (a + 5) j) (r : ∀ j, j < 8 → ν (b + 6) j = μ (a + 6) j) : hOf ν b = hOf μ a := by
  funext k
  unfold hOf
  refine ite_congr rfl (fun _ => h0) (fun _ => ite_congr rfl (fun _ => h3) (fun _ => ite_congr rfl (fun _ => h6) (fun _ => ite_congr rfl (fun _ => h8) (fun _ => ite_congr rfl (fun _ => ?_) (fun _ => ite_congr rfl (fun _ => ite_congr rfl (fun _ => ?_) (fun _ => ?_)) (fun _ => ite_congr rfl (fun _ => ite_congr rfl (fun _ => ?_) (fun _ => ?_)) (fun _ => ite_congr rfl (fun _ => ?_) (fun _ => rfl))))))))
  · exact s _ (by omega)
  · exact m _ (by omega)
  · exact d _ (by omega)
  · exact c _ (by omega)
  · exact w _ (by omega)
  · exact r _ (by omega)
set_option maxRecDepth 100000 in
set_option maxHeartbeats 4000000 in
theorem s1_copyFrom (μ : xM) : X E0 shHH 1 yX1_copyFrom cX1_copyFrom 2 none 0 [some (.inr (.inl 0)), some (.inr (.inl 7))] [] μ (fun r μ' => r = none ∧ hOf μ' 0 = hOf μ 7 ∧ ∀ c, 7 ≤ c → μ' c = μ c) := by
  refine x_aload_n (i := 0) dX1_copyFrom_0 rfl rfl ?_
  refine x_aload_n (i := 1) dX1_copyFrom_1 rfl rfl ?_
  refine x_getI xf_RX1_30 dX1_copyFrom_2 rfl rfl ?_
  refine x_putI xp_RX1_30 dX1_copyFrom_5 rfl rfl ?_
  refine x_aload_n (i := 1) dX1_copyFrom_8 rfl rfl ?_
  refine x_getR xf_RX1_9 dX1_copyFrom_9 rfl rfl ?_
  refine x_iconst dX1_copyFrom_12 ?_
  refine x_aload_n (i := 0) dX1_copyFrom_13 rfl rfl ?_
  refine x_getR xf_RX1_9 dX1_copyFrom_14 rfl rfl ?_
  refine x_iconst dX1_copyFrom_17 ?_
  refine x_iconst dX1_copyFrom_18 ?_
  refine x_acopy lk_RX1_34 dX1_copyFrom_19 (by decide) (by decide) rfl rfl (by decide) (by decide) (by decide) (by decide) (by decide) (by decide) (by decide) ?_
  refine x_aload_n (i := 1) dX1_copyFrom_22 rfl rfl ?_
  refine x_getR xf_RX1_15 dX1_copyFrom_23 rfl rfl ?_
  refine x_iconst dX1_copyFrom_26 ?_
  refine x_aload_n (i := 0) dX1_copyFrom_27 rfl rfl ?_
  refine x_getR xf_RX1_15 dX1_copyFrom_28 rfl rfl ?_
  refine x_iconst dX1_copyFrom_31 ?_
  refine x_iconst dX1_copyFrom_32 ?_
  refine x_acopy lk_RX1_34 dX1_copyFrom_33 (by decide) (by decide) rfl rfl (by decide) (by decide) (by decide) (by decide) (by decide) (by decide) (by decide) ?_
  refine x_aload_n (i := 0) dX1_copyFrom_36 rfl rfl ?_
  refine x_aload_n (i := 1) dX1_copyFrom_37 rfl rfl ?_
  refine x_getI xf_RX1_40 dX1_copyFrom_38 rfl rfl ?_
  skip
  refine x_putI xp_RX1_40 dX1_copyFrom_41 rfl rfl ?_
  refine x_aload_n (i := 1) dX1_copyFrom_44 rfl rfl ?_
  refine x_getR xf_RX1_18 dX1_copyFrom_45 rfl rfl ?_
  refine x_iconst dX1_copyFrom_48 ?_
  refine x_aload_n (i := 0) dX1_copyFrom_49 rfl rfl ?_
  refine x_getR xf_RX1_18 dX1_copyFrom_50 rfl rfl ?_
  refine x_iconst dX1_copyFrom_53 ?_
  refine x_bipush dX1_copyFrom_54 (by decide) ?_
  refine x_acopy lk_RX1_34 dX1_copyFrom_56 (by decide) (by decide) rfl rfl (by decide) (by decide) (by decide) (by decide) (by decide) (by decide) (by decide) ?_
  refine x_aload_n (i := 1) dX1_copyFrom_59 rfl rfl ?_
  refine x_getR xf_RX1_21 dX1_copyFrom_60 rfl rfl ?_
  refine x_iconst dX1_copyFrom_63 ?_
  refine x_aload_n (i := 0) dX1_copyFrom_64 rfl rfl ?_
  refine x_getR xf_RX1_21 dX1_copyFrom_65 rfl rfl ?_
  refine x_iconst dX1_copyFrom_68 ?_
  refine x_bipush dX1_copyFrom_69 (by decide) ?_
  refine x_acopy lk_RX1_34 dX1_copyFrom_71 (by decide) (by decide) rfl rfl (by decide) (by decide) (by decide) (by decide) (by decide) (by decide) (by decide) ?_
  refine x_aload_n (i := 0) dX1_copyFrom_74 rfl rfl ?_
  refine x_aload_n (i := 1) dX1_copyFrom_75 rfl rfl ?_
  refine x_getI xf_RX1_43 dX1_copyFrom_76 rfl rfl ?_
  skip
  refine x_putI xp_RX1_43 dX1_copyFrom_79 rfl rfl ?_
  refine x_aload_n (i := 1) dX1_copyFrom_82 rfl rfl ?_
  refine x_getR xf_RX1_24 dX1_copyFrom_83 rfl rfl ?_
  refine x_iconst dX1_copyFrom_86 ?_
  refine x_aload_n (i := 0) dX1_copyFrom_87 rfl rfl ?_
  refine x_getR xf_RX1_24 dX1_copyFrom_88 rfl rfl ?_
  refine x_iconst dX1_copyFrom_91 ?_
  refine x_bipush dX1_copyFrom_92 (by decide) ?_
  refine x_acopy lk_RX1_34 dX1_copyFrom_94 (by decide) (by decide) rfl rfl (by decide) (by decide) (by decide) (by decide) (by decide) (by decide) (by decide) ?_
  refine x_aload_n (i := 0) dX1_copyFrom_97 rfl rfl ?_
  refine x_aload_n (i := 1) dX1_copyFrom_98 rfl rfl ?_
  refine x_getI xf_RX1_46 dX1_copyFrom_99 rfl rfl ?_
  skip
  refine x_putI xp_RX1_46 dX1_copyFrom_102 rfl rfl ?_
  refine x_aload_n (i := 1) dX1_copyFrom_105 rfl rfl ?_
  refine x_getR xf_RX1_27 dX1_copyFrom_106 rfl rfl ?_
  refine x_iconst dX1_copyFrom_109 ?_
  refine x_aload_n (i := 0) dX1_copyFrom_110 rfl rfl ?_
  refine x_getR xf_RX1_27 dX1_copyFrom_111 rfl rfl ?_
  refine x_iconst dX1_copyFrom_114 ?_
  refine x_bipush dX1_copyFrom_115 (by decide) ?_
  refine x_acopy lk_RX1_34 dX1_copyFrom_117 (by decide) (by decide) rfl rfl (by decide) (by decide) (by decide) (by decide) (by decide) (by decide) (by decide) ?_
  refine x_vret dX1_copyFrom_120 rfl ?_
  refine ⟨rfl, hOf_sh _ _ _ _ rfl rfl rfl rfl (fun j hj => ?_) (fun j hj => ?_) (fun j hj => ?_) (fun j hj => ?_) (fun j hj => ?_) (fun j hj => ?_), fun c hc => ?_⟩
  · exact (va_cpy0 _ _ 5 j).trans (if_pos hj)
  · exact (va_cpy0 _ _ 5 j).trans (if_pos hj)
  · exact (va_cpy0 _ _ 8 j).trans (if_pos hj)
  · exact (va_cpy0 _ _ 8 j).trans (if_pos hj)
  · exact (va_cpy0 _ _ 9 j).trans (if_pos hj)
  · exact (va_cpy0 _ _ 8 j).trans (if_pos hj)
  · funext x
    simp [x_st, show c ≠ 0 by omega, show c ≠ 1 by omega, show c ≠ 2 by omega, show c ≠ 3 by omega, show c ≠ 4 by omega, show c ≠ 5 by omega, show c ≠ 6 by omega]
def swL (p : List Nat) (a b : Nat) : List Nat := (p.set a (p.getD b 0)).set b (p.getD a 0)
def plL (p : List Nat) : Nat → Int
  | 0 => -1
  | k + 1 => if p.getD (k + 1) 0 < p.getD k 0 then plL p k else (k : Int)
def otL (p : List Nat) (a : Nat) : Nat → Nat
  | 0 => 0
  | k + 1 => if a < k + 1 ∧ p.getD (k + 1) 0 < p.getD a 0 then otL p a k else k + 1
def rvL : Nat → List Nat → Nat → Nat → List Nat
  | 0, p, _, _ => p
  | f + 1, p, a, b => if a < b then rvL f (swL p a b) (a + 1) (b - 1) else p
def nxL (N : Nat) (p : List Nat) : Option (List Nat) := if plL p (N - 1) < 0 then none else some (rvL N (swL p (plL p (N - 1)).toNat (otL p (plL p (N - 1)).toNat (N - 1))) ((plL p (N - 1)).toNat + 1) (N - 1))
def nxC (N : Nat) : List (List Nat) → Bool
  | [] => true
  | [p] => decide (nxL N p = none)
  | p :: q :: l => decide (nxL N p = some q) && nxC N (q :: l)
theorem nxC_all : ∀ N, N < 6 → nxC N (pGen N N [] 0) = true ∧ (pGen N N [] 0).all (fun p => p.length == N && p.all (fun d => decide (d < 8))) = true ∧ (pGen N N [] 0).head? = some (List.range N) ∧ (pGen N N [] 0).length ≤ 120 := by decide +kernel
theorem swL_len (p : List Nat) (a b : Nat) : (swL p a b).length = p.length := by
  unfold swL
  rw [List.length_set, List.length_set]
theorem soN_set (N : Nat) (h : Nat → Int) (p : List Nat) (hl : p.length = N) {a : Nat} (ha : a < N) (v : Nat) : soN N h (p.set a v) = hset (soN N h p) (39 + a) (v : Int) := by
  funext j
  unfold hset soN
  by_cases e : j = 39 + a
  · rw [if_pos e, if_pos (by omega), e, show 39 + a - 39 = a by omega, List.getD_eq_getElem?_getD, List.getElem?_set_self (by omega)]
    rfl
  · rw [if_neg e]
    by_cases q : 39 ≤ j ∧ j < 39 + N
    · rw [if_pos q, if_pos q, List.getD_eq_getElem?_getD, List.getElem?_set_ne (by omega), ← List.getD_eq_getElem?_getD]
    · rw [if_neg q, if_neg q]
theorem soN_rd {μ : xM} {N : Nat} {h : Nat → Int} {p : List Nat} (hO : hOf μ 0 = soN N h p) (hN : N ≤ 8) {j : Int} (h0 : 0 ≤ j) (h1 : j < N) : μ 6 j.toNat = ((p.getD j.toNat 0 : Nat) : Int) := by
  have h2 := hOf_ord μ 0 h0 (by omega)
  rw [hO] at h2
  have h3 : (soN N h p) (39 + j).toNat = ((p.getD j.toNat 0 : Nat) : Int) := by
    unfold soN
    rw [if_pos (by omega), show (39 + j).toNat - 39 = j.toNat by omega]
  rw [h3] at h2
  exact h2.symm
theorem soN_low {μ : xM} {N : Nat} {h : Nat → Int} {p : List Nat} (hO : hOf μ 0 = soN N h p) : μ 0 8 = h 3 := by
  have h2 : hOf μ 0 3 = soN N h p 3 := by rw [hO]
  exact h2
theorem rvL_len : ∀ (f : Nat) (p : List Nat) (a b : Nat), (rvL f p a b).length = p.length
  | 0, _, _, _ => rfl
  | f + 1, p, a, b => by
    rw [rvL]
    split
    · rw [rvL_len f, swL_len]
    · rfl
theorem plL_lt (p : List Nat) : ∀ k, plL p k < k ∧ -1 ≤ plL p k
  | 0 => ⟨(by decide : (-1 : Int) < 0), (by decide : (-1 : Int) ≤ -1)⟩
  | k + 1 => by
    rw [plL]
    have := plL_lt p k
    split <;> omega
theorem otL_le (p : List Nat) (a : Nat) : ∀ k, otL p a k ≤ k
  | 0 => Nat.le_refl _
  | k + 1 => by
    rw [otL]
    have := otL_le p a k
    split <;> omega
theorem dg_of {p : List Nat} (hd : ∀ k, p.getD k 0 < 8) (k : Nat) : x_in ((p.getD k 0 : Nat) : Int) := by
  have := hd k
  unfold x_in
  omega
set_option maxRecDepth 100000 in
set_option maxHeartbeats 4000000 in
theorem s1_swapInOrder (N : Nat) (hN : N ≤ 8) (h : Nat → Int) (h3 : h 3 = N) (μ : xM) (p : List Nat) (hl : p.length = N) (hO : hOf μ 0 = soN N h p) (a b : Int) (ha : 0 ≤ a ∧ a < N) (hb : 0 ≤ b ∧ b < N) : X E0 shHill 0 yX1_swapInOrder cX1_swapInOrder 4 none 0 [some (.inr (.inl 0)), some (.inl a), some (.inl b), none] [] μ (fun r μ' => r = none ∧ hOf μ' 0 = soN N h (swL p a.toNat b.toNat)) := by
  have ra := soN_rd hO hN ha.1 ha.2
  have rb := soN_rd hO hN hb.1 hb.2
  have e1 : hOf (x_st μ 6 a.toNat (μ 6 b.toNat)) 0 = soN N h (p.set a.toNat (p.getD b.toNat 0)) := by
    rw [soN_set N h p hl (by omega) _, ← hO, ← rb]
    have := hOf_so μ 0 ha.1 (by omega) (μ 6 b.toNat)
    rw [show (39 + a).toNat = 39 + a.toNat by omega] at this
    exact this
  have e2 : hOf (x_st (x_st μ 6 a.toNat (μ 6 b.toNat)) 6 b.toNat (μ 6 a.toNat)) 0 = soN N h (swL p a.toNat b.toNat) := by
    unfold swL
    rw [soN_set N h _ (by rw [List.length_set]; exact hl) (by omega) _, ← e1, ← ra]
    have := hOf_so (x_st μ 6 a.toNat (μ 6 b.toNat)) 0 hb.1 (by omega) (μ 6 a.toNat)
    rw [show (39 + b).toNat = 39 + b.toNat by omega] at this
    exact this
  refine x_aload_n (i := 0) dX1_swapInOrder_0 rfl rfl ?_
  refine x_getR xf_RX1_27 dX1_swapInOrder_1 rfl rfl ?_
  refine x_iload_n (i := 1) dX1_swapInOrder_4 rfl rfl ?_
  refine x_iald dX1_swapInOrder_5 rfl (by decide) (by first | omega | decide) (by first | omega | decide) ?_
  refine x_istore_3 dX1_swapInOrder_6 (by decide) rfl ?_
  refine x_aload_n (i := 0) dX1_swapInOrder_7 rfl rfl ?_
  refine x_getR xf_RX1_27 dX1_swapInOrder_8 rfl rfl ?_
  refine x_iload_n (i := 1) dX1_swapInOrder_11 rfl rfl ?_
  refine x_aload_n (i := 0) dX1_swapInOrder_12 rfl rfl ?_
  refine x_getR xf_RX1_27 dX1_swapInOrder_13 rfl rfl ?_
  refine x_iload_n (i := 2) dX1_swapInOrder_16 rfl rfl ?_
  refine x_iald dX1_swapInOrder_17 rfl (by decide) (by first | omega | decide) (by first | omega | decide) ?_
  refine x_iast dX1_swapInOrder_18 rfl (by decide) (by first | omega | decide) (by first | omega | decide) ?_
  refine x_aload_n (i := 0) dX1_swapInOrder_19 rfl rfl ?_
  refine x_getR xf_RX1_27 dX1_swapInOrder_20 rfl rfl ?_
  refine x_iload_n (i := 2) dX1_swapInOrder_23 rfl rfl ?_
  refine x_iload_n (i := 3) dX1_swapInOrder_24 rfl rfl ?_
  refine x_iast dX1_swapInOrder_25 rfl (by decide) (by first | omega | decide) (by first | omega | decide) ?_
  refine x_vret dX1_swapInOrder_26 rfl ?_
  exact ⟨rfl, e2⟩
set_option maxRecDepth 100000 in
set_option maxHeartbeats 4000000 in
theorem la_goToNextOrder (N : Nat) (hN : N ≤ 8) (h : Nat → Int) (h3 : h 3 = N) (Q : Option xA → xM → Prop) (μ : xM) (p : List Nat) (hl : p.length = N) (hd : ∀ k, p.getD k 0 < 8) (hO : hOf μ 0 = soN N h p) : ∀ (k : Nat), k + 1 ≤ N → X E0 shHill 1 yX1_goToNextOrder cX1_goToNextOrder 5 (some .boolean) 34 [some (.inr (.inl 0)), some (.inl (plL p k)), none, none, none] [] μ (Q) → ∀ i : Int, i = (k : Int) - 1 → X E0 shHill 1 yX1_goToNextOrder cX1_goToNextOrder 5 (some .boolean) 7 [some (.inr (.inl 0)), some (.inl i), none, none, none] [] μ (Q) := by
  intro k
  induction k with
  | zero =>
    intro hk K i hi
    refine x_iload_n (i := 1) dX1_goToNextOrder_7 rfl rfl ?_
    refine x_if_lt (tgt := 34) dX1_goToNextOrder_8 (by decide) (by first | (unfold x_in; omega) | (unfold x_in; decide)) (fun c1 => ?_) (fun c1 => ?_)
    · rw [hi]; exact K
    · exact absurd c1 (by omega)
  | succ k ih =>
    intro hk K i hi
    have r1 := soN_rd hO hN (j := i) (by omega) (by omega)
    have r2 := soN_rd hO hN (j := i + 1) (by omega) (by omega)
    have ei : i.toNat = k := by omega
    have ei2 : (i + 1).toNat = k + 1 := by omega
    rw [ei] at r1
    rw [ei2] at r2
    have g1 := hd k
    have g2 := hd (k + 1)
    refine x_iload_n (i := 1) dX1_goToNextOrder_7 rfl rfl ?_
    refine x_if_lt (tgt := 34) dX1_goToNextOrder_8 (by decide) (by first | (unfold x_in; omega) | (unfold x_in; decide)) (fun c1 => ?_) (fun c1 => ?_)
    · exact absurd c1 (by omega)
    · refine x_aload_n (i := 0) dX1_goToNextOrder_11 rfl rfl ?_
      refine x_getR xf_RX1_27 dX1_goToNextOrder_12 rfl rfl ?_
      refine x_iload_n (i := 1) dX1_goToNextOrder_15 rfl rfl ?_
      refine x_iald dX1_goToNextOrder_16 rfl (by decide) (by first | omega | decide) (by first | omega | decide) ?_
      refine x_aload_n (i := 0) dX1_goToNextOrder_17 rfl rfl ?_
      refine x_getR xf_RX1_27 dX1_goToNextOrder_18 rfl rfl ?_
      refine x_iload_n (i := 1) dX1_goToNextOrder_21 rfl rfl ?_
      refine x_iconst dX1_goToNextOrder_22 ?_
      refine x_iadd dX1_goToNextOrder_23 ?_
      refine x_iald dX1_goToNextOrder_24 rfl (by decide) (by first | omega | decide) (by first | omega | decide) ?_
      rw [ei, ei2, r1, r2]
      refine x_icmp_le (tgt := 34) dX1_goToNextOrder_25 (by decide) (by first | (unfold x_in; omega) | (unfold x_in; decide)) (by first | (unfold x_in; omega) | (unfold x_in; decide)) (fun c2 => ?_) (fun c2 => ?_)
      · have hp : plL p (k + 1) = i := (by rw [plL]; exact (if_neg (by omega)).trans (by omega))
        rw [← hp]
        exact K
      · refine x_iinc_1 dX1_goToNextOrder_28 (by decide) rfl ?_
        refine x_goto (tgt := 7) dX1_goToNextOrder_31 (by decide) ?_
        refine ih (by omega) ?_ _ (by omega)
        have hp : plL p (k + 1) = plL p k := (by rw [plL]; exact if_pos (by omega))
        rw [← hp]
        exact K
set_option maxRecDepth 100000 in
set_option maxHeartbeats 4000000 in
theorem lb_goToNextOrder (N : Nat) (hN : N ≤ 8) (h : Nat → Int) (h3 : h 3 = N) (Q : Option xA → xM → Prop) (μ : xM) (p : List Nat) (hl : p.length = N) (hd : ∀ k, p.getD k 0 < 8) (hO : hOf μ 0 = soN N h p) (a : Nat) : ∀ (k : Nat), k < N → a ≤ k → X E0 shHill 1 yX1_goToNextOrder cX1_goToNextOrder 5 (some .boolean) 73 [some (.inr (.inl 0)), some (.inl ((a : Int))), some (.inl ((otL p a k : Int))), none, none] [] μ (Q) → ∀ i : Int, i = (k : Int) → X E0 shHill 1 yX1_goToNextOrder cX1_goToNextOrder 5 (some .boolean) 47 [some (.inr (.inl 0)), some (.inl ((a : Int))), some (.inl i), none, none] [] μ (Q) := by
  intro k
  induction k with
  | zero =>
    intro hk ha K i hi
    refine x_iload_n (i := 2) dX1_goToNextOrder_47 rfl rfl ?_
    refine x_iload_n (i := 1) dX1_goToNextOrder_48 rfl rfl ?_
    refine x_icmp_le (tgt := 73) dX1_goToNextOrder_49 (by decide) (by first | (unfold x_in; omega) | (unfold x_in; decide)) (by first | (unfold x_in; omega) | (unfold x_in; decide)) (fun c1 => ?_) (fun c1 => ?_)
    · rw [hi]; exact K
    · exact absurd c1 (by omega)
  | succ k ih =>
    intro hk ha K i hi
    have r1 := soN_rd hO hN (j := i) (by omega) (by omega)
    have r2 := soN_rd hO hN (j := (a : Int)) (by omega) (by omega)
    have ei : i.toNat = k + 1 := by omega
    have ei2 : (a : Int).toNat = a := by omega
    rw [ei] at r1
    rw [ei2] at r2
    have g1 := hd (k + 1)
    have g2 := hd a
    refine x_iload_n (i := 2) dX1_goToNextOrder_47 rfl rfl ?_
    refine x_iload_n (i := 1) dX1_goToNextOrder_48 rfl rfl ?_
    refine x_icmp_le (tgt := 73) dX1_goToNextOrder_49 (by decide) (by first | (unfold x_in; omega) | (unfold x_in; decide)) (by first | (unfold x_in; omega) | (unfold x_in; decide)) (fun c1 => ?_) (fun c1 => ?_)
    · have hp : ((otL p a (k + 1) : Nat) : Int) = i := (by rw [otL, if_neg (by omega)]; omega)
      rw [← hp]
      exact K
    · refine x_aload_n (i := 0) dX1_goToNextOrder_52 rfl rfl ?_
      refine x_getR xf_RX1_27 dX1_goToNextOrder_53 rfl rfl ?_
      refine x_iload_n (i := 2) dX1_goToNextOrder_56 rfl rfl ?_
      refine x_iald dX1_goToNextOrder_57 rfl (by decide) (by first | omega | decide) (by first | omega | decide) ?_
      refine x_aload_n (i := 0) dX1_goToNextOrder_58 rfl rfl ?_
      refine x_getR xf_RX1_27 dX1_goToNextOrder_59 rfl rfl ?_
      refine x_iload_n (i := 1) dX1_goToNextOrder_62 rfl rfl ?_
      refine x_iald dX1_goToNextOrder_63 rfl (by decide) (by first | omega | decide) (by first | omega | decide) ?_
      rw [ei, ei2, r1, r2]
      refine x_icmp_ge (tgt := 73) dX1_goToNextOrder_64 (by decide) (by first | (unfold x_in; omega) | (unfold x_in; decide)) (by first | (unfold x_in; omega) | (unfold x_in; decide)) (fun c2 => ?_) (fun c2 => ?_)
      · have hp : ((otL p a (k + 1) : Nat) : Int) = i := (by rw [otL, if_neg (by omega)]; omega)
        rw [← hp]
        exact K
      · refine x_iinc_2 dX1_goToNextOrder_67 (by decide) rfl ?_
        refine x_goto (tgt := 47) dX1_goToNextOrder_70 (by decide) ?_
        refine ih (by omega) (by omega) ?_ _ (by omega)
        have hp : otL p a (k + 1) = otL p a k := (by rw [otL]; exact if_pos ⟨by omega, by omega⟩)
        rw [← hp]
        exact K
set_option maxRecDepth 100000 in
set_option maxHeartbeats 4000000 in
theorem lc_goToNextOrder (N : Nat) (hN : N ≤ 8) (h : Nat → Int) (h3 : h 3 = N) (Q : Option xA → xM → Prop) (z1 z2 : Int) : ∀ (f : Nat) (μ : xM) (p : List Nat) (a b : Nat), p.length = N → hOf μ 0 = soN N h p → b < N → b ≤ a + f → a ≤ N → (∀ μ2, hOf μ2 0 = soN N h (rvL f p a b) → Q (some (.inl 1)) μ2) → ∀ i j : Int, i = (a : Int) → j = (b : Int) → X E0 shHill 1 yX1_goToNextOrder cX1_goToNextOrder 5 (some .boolean) 91 [some (.inr (.inl 0)), some (.inl z1), some (.inl z2), some (.inl i), some (.inl j)] [] μ (Q) := by
  intro f
  induction f with
  | zero =>
    intro μ p a b hl hO hb hf han K i j hi hj
    refine x_iload_n (i := 3) dX1_goToNextOrder_91 rfl rfl ?_
    refine x_iload dX1_goToNextOrder_92 rfl ?_
    refine x_icmp_ge (tgt := 113) dX1_goToNextOrder_94 (by decide) (by first | (unfold x_in; omega) | (unfold x_in; decide)) (by first | (unfold x_in; omega) | (unfold x_in; decide)) (fun c1 => ?_) (fun c1 => ?_)
    · refine x_iconst dX1_goToNextOrder_113 ?_
      refine x_iret dX1_goToNextOrder_114 rfl (x_narZ (by first | exact Or.inl rfl | exact Or.inr rfl | omega)) ?_
      exact K _ hO
    · exact absurd c1 (by omega)
  | succ f ih =>
    intro μ p a b hl hO hb hf han K i j hi hj
    refine x_iload_n (i := 3) dX1_goToNextOrder_91 rfl rfl ?_
    refine x_iload dX1_goToNextOrder_92 rfl ?_
    refine x_icmp_ge (tgt := 113) dX1_goToNextOrder_94 (by decide) (by first | (unfold x_in; omega) | (unfold x_in; decide)) (by first | (unfold x_in; omega) | (unfold x_in; decide)) (fun c1 => ?_) (fun c1 => ?_)
    · refine x_iconst dX1_goToNextOrder_113 ?_
      refine x_iret dX1_goToNextOrder_114 rfl (x_narZ (by first | exact Or.inl rfl | exact Or.inr rfl | omega)) ?_
      exact K _ (by rw [hO, rvL, if_neg (by omega)])
    · refine x_aload_n (i := 0) dX1_goToNextOrder_97 rfl rfl ?_
      refine x_iload_n (i := 3) dX1_goToNextOrder_98 rfl rfl ?_
      refine x_iload dX1_goToNextOrder_99 rfl ?_
      refine x_cV0_2 lk_RX1_61 xm_X1_swapInOrder dX1_goToNextOrder_101 (s1_swapInOrder N hN h h3 _ p hl hO i j (by omega) (by omega)) (fun μ2 hq => ?_)
      obtain ⟨-, hO2⟩ := hq
      refine x_iinc_3 dX1_goToNextOrder_104 (by decide) rfl ?_
      refine x_iinc_4 dX1_goToNextOrder_107 (by decide) rfl ?_
      refine x_goto (tgt := 91) dX1_goToNextOrder_110 (by decide) ?_
      refine ih μ2 (swL p i.toNat j.toNat) (a + 1) (b - 1) (by rw [swL_len]; exact hl) hO2 (by omega) (by omega) (by omega) (fun μ3 e3 => K μ3 ?_) _ _ (by omega) (by omega)
      rw [e3, rvL, if_pos (by omega), show i.toNat = a by omega, show j.toNat = b by omega]
set_option maxRecDepth 100000 in
set_option maxHeartbeats 4000000 in
theorem s1_goToNextOrder (N : Nat) (hN : N ≤ 8) (h : Nat → Int) (h3 : h 3 = N) (μ : xM) (p : List Nat) (hl : p.length = N) (hd : ∀ k, p.getD k 0 < 8) (hO : hOf μ 0 = soN N h p) : X E0 shHill 1 yX1_goToNextOrder cX1_goToNextOrder 5 (some .boolean) 0 [some (.inr (.inl 0)), none, none, none, none] [] μ (fun r μ' => (r = some (.inl (bI (nxL N p).isSome))) ∧ ∀ q, nxL N p = some q → hOf μ' 0 = soN N h q) := by
  have e8 := soN_low hO
  rw [h3] at e8
  by_cases h0 : N = 0
  · have hx : nxL N p = none := by
      unfold nxL
      rw [h0]
      rfl
    have k0 := plL_lt p 0
    refine x_aload_n (i := 0) dX1_goToNextOrder_0 rfl rfl ?_
    refine x_getI xf_RX1_46 dX1_goToNextOrder_1 rfl rfl ?_
    refine x_iconst dX1_goToNextOrder_4 ?_
    refine x_isub dX1_goToNextOrder_5 ?_
    refine x_istore_1 dX1_goToNextOrder_6 (by decide) rfl ?_
    refine x_iload_n (i := 1) dX1_goToNextOrder_7 rfl rfl ?_
    rw [e8]
    refine x_if_lt (tgt := 34) dX1_goToNextOrder_8 (by decide) (by first | (unfold x_in; omega) | (unfold x_in; decide)) (fun c1 => ?_) (fun c1 => ?_)
    · refine x_iload_n (i := 1) dX1_goToNextOrder_34 rfl rfl ?_
      refine x_if_ge (tgt := 40) dX1_goToNextOrder_35 (by decide) (by first | (unfold x_in; omega) | (unfold x_in; decide)) (fun c2 => ?_) (fun c2 => ?_)
      · exact absurd c2 (by omega)
      · refine x_iconst dX1_goToNextOrder_38 ?_
        refine x_iret dX1_goToNextOrder_39 rfl (x_narZ (by first | exact Or.inl rfl | exact Or.inr rfl | omega)) ?_
        rw [hx]
        exact ⟨rfl, fun q hq => by cases hq⟩
    · exact absurd c1 (by omega)
  · have kp := plL_lt p (N - 1)
    have ko := otL_le p (plL p (N - 1)).toNat (N - 1)
    have K73 : ∀ (a o : Nat), a + 1 < N → o < N → ∀ (Q : Option xA → xM → Prop), (∀ μ2, hOf μ2 0 = soN N h (rvL N (swL p a o) (a + 1) (N - 1)) → Q (some (.inl 1)) μ2) → X E0 shHill 1 yX1_goToNextOrder cX1_goToNextOrder 5 (some .boolean) 73 [some (.inr (.inl 0)), some (.inl ((a : Int))), some (.inl ((o : Int))), none, none] [] μ (Q) := by
      intro a o ha ho Q K
      refine x_aload_n (i := 0) dX1_goToNextOrder_73 rfl rfl ?_
      refine x_iload_n (i := 1) dX1_goToNextOrder_74 rfl rfl ?_
      refine x_iload_n (i := 2) dX1_goToNextOrder_75 rfl rfl ?_
      refine x_cV0_2 lk_RX1_61 xm_X1_swapInOrder dX1_goToNextOrder_76 (s1_swapInOrder N hN h h3 _ p hl hO (a : Int) (o : Int) (by omega) (by omega)) (fun μ2 hq => ?_)
      obtain ⟨-, hO2⟩ := hq
      rw [show (a : Int).toNat = a by omega, show (o : Int).toNat = o by omega] at hO2
      have e82 := soN_low hO2
      rw [h3] at e82
      refine x_iload_n (i := 1) dX1_goToNextOrder_79 rfl rfl ?_
      refine x_iconst dX1_goToNextOrder_80 ?_
      refine x_iadd dX1_goToNextOrder_81 ?_
      refine x_istore_3 dX1_goToNextOrder_82 (by decide) rfl ?_
      refine x_aload_n (i := 0) dX1_goToNextOrder_83 rfl rfl ?_
      refine x_getI xf_RX1_46 dX1_goToNextOrder_84 rfl rfl ?_
      try simp (decide := true) only [x_st_at, ↓reduceIte, if_true, if_false]
      refine x_iconst dX1_goToNextOrder_87 ?_
      refine x_isub dX1_goToNextOrder_88 ?_
      refine x_istore_4 dX1_goToNextOrder_89 (by decide) rfl ?_
      rw [e82]
      exact lc_goToNextOrder N hN h h3 Q _ _ N μ2 (swL p a o) (a + 1) (N - 1) (by rw [swL_len]; exact hl) hO2 (by omega) (by omega) (by omega) K _ _ (by omega) (by omega)
    have K34 : X E0 shHill 1 yX1_goToNextOrder cX1_goToNextOrder 5 (some .boolean) 34 [some (.inr (.inl 0)), some (.inl (plL p (N - 1))), none, none, none] [] μ (fun r μ' => (r = some (.inl (bI (nxL N p).isSome))) ∧ ∀ q, nxL N p = some q → hOf μ' 0 = soN N h q) := by
      refine x_iload_n (i := 1) dX1_goToNextOrder_34 rfl rfl ?_
      refine x_if_ge (tgt := 40) dX1_goToNextOrder_35 (by decide) (by first | (unfold x_in; omega) | (unfold x_in; decide)) (fun c1 => ?_) (fun c1 => ?_)
      · refine x_aload_n (i := 0) dX1_goToNextOrder_40 rfl rfl ?_
        refine x_getI xf_RX1_46 dX1_goToNextOrder_41 rfl rfl ?_
        refine x_iconst dX1_goToNextOrder_44 ?_
        refine x_isub dX1_goToNextOrder_45 ?_
        refine x_istore_2 dX1_goToNextOrder_46 (by decide) rfl ?_
        rw [e8]
        have hx : nxL N p = some (rvL N (swL p (plL p (N - 1)).toNat (otL p (plL p (N - 1)).toNat (N - 1))) ((plL p (N - 1)).toNat + 1) (N - 1)) := if_neg (by omega)
        rw [hx]
        have ea : plL p (N - 1) = (((plL p (N - 1)).toNat : Nat) : Int) := by omega
        generalize (plL p (N - 1)).toNat = a at *
        rw [ea]
        refine lb_goToNextOrder N hN h h3 _ μ p hl hd hO a (N - 1) (by omega) (by omega) ?_ _ (by omega)
        refine K73 a (otL p a (N - 1)) (by omega) (by omega) _ (fun μ3 e3 => ⟨rfl, fun q hq => ?_⟩)
        cases hq
        exact e3
      · refine x_iconst dX1_goToNextOrder_38 ?_
        refine x_iret dX1_goToNextOrder_39 rfl (x_narZ (by first | exact Or.inl rfl | exact Or.inr rfl | omega)) ?_
        have hx : nxL N p = none := if_pos (by omega)
        rw [hx]
        exact ⟨rfl, fun q hq => by cases hq⟩
    refine x_aload_n (i := 0) dX1_goToNextOrder_0 rfl rfl ?_
    refine x_getI xf_RX1_46 dX1_goToNextOrder_1 rfl rfl ?_
    refine x_iconst dX1_goToNextOrder_4 ?_
    refine x_isub dX1_goToNextOrder_5 ?_
    refine x_istore_1 dX1_goToNextOrder_6 (by decide) rfl ?_
    rw [e8]
    exact la_goToNextOrder N hN h h3 _ μ p hl hd hO (N - 1) (by omega) K34 _ (by omega)
