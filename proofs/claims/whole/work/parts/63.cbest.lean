/-! THE CLASS: the order with least waiting -/
theorem pGen_nd : ∀ N, N < 6 → (pGen N N [] 0).all (fun p => decide p.Nodup) = true := by decide +kernel
theorem DO_soN {N : Nat} {g : Nat → Int} (h3 : g 3 = N) {p : List Nat} (hl : p.length = N) (hn : p.Nodup) : DO (soN N g p) := by
  have e3 : soN N g p 3 = N := by
    unfold soN
    rw [if_neg (by omega)]
    exact h3
  intro i j hij hj
  rw [e3] at hj
  unfold soN
  rw [if_pos (by omega), if_pos (by omega), show 39 + i - 39 = i by omega, show 39 + j - 39 = j by omega]
  rw [List.getD_eq_getElem?_getD, List.getD_eq_getElem?_getD, List.getElem?_eq_getElem (by omega), List.getElem?_eq_getElem (by omega)]
  have := (List.pairwise_iff_getElem.mp hn) i j (by omega) (by omega) hij
  intro e
  exact this (Int.ofNat.inj e)
theorem hOrdN_so (h : Nat → Int) (N : Nat) : hOrdN h N = soN N h (List.range N) := by
  have K : ∀ n, hOrdN h n = fun j => if 39 ≤ j ∧ j < 39 + n then ((j - 39 : Nat) : Int) else h j := by
    intro n
    induction n with
    | zero =>
      funext j
      show h j = _
      rw [if_neg (by omega)]
    | succ n ih =>
      funext j
      rw [hOrdN, ih]
      unfold hset
      by_cases e : j = 39 + n
      · rw [if_pos (by omega), if_pos (by omega)]
        omega
      · rw [if_neg (by omega)]
        show (if 39 ≤ j ∧ j < 39 + n then ((j - 39 : Nat) : Int) else h j) = _
        by_cases q : 39 ≤ j ∧ j < 39 + n
        · rw [if_pos q, if_pos (by omega)]
        · rw [if_neg q, if_neg (by omega)]
  rw [K]
  funext j
  show (if 39 ≤ j ∧ j < 39 + N then ((j - 39 : Nat) : Int) else h j) = _
  unfold soN
  by_cases q : 39 ≤ j ∧ j < 39 + N
  · rw [if_pos q, if_pos q, List.getD_eq_getElem?_getD, List.getElem?_range (by omega)]
    rfl
  · rw [if_neg q, if_neg q]
theorem lfB_ge2 {F : List Nat → Int} : ∀ (L : List (List Nat)) (B : Int × List Nat), (∀ p ∈ L, 0 ≤ F p) → (0 ≤ B.1 ∨ L ≠ []) → 0 ≤ (L.foldl (lfB F) B).1
  | [], B, _, h => h.elim id (fun q => absurd rfl q)
  | p :: L, B, hp, _ => by
    rw [List.foldl_cons]
    refine lfB_ge2 L _ (fun q hq => hp q (List.mem_cons_of_mem _ hq)) (Or.inl ?_)
    unfold lfB
    split
    next q => exact q.1
    next => exact hp p List.mem_cons_self
theorem MI_set4 {h : Nat → Int} (hI : MI h) {v : Int} (hv : 1 ≤ v ∧ v ≤ 999) : MI (hset h 4 v) := by
  obtain ⟨a0, a1, a2, a3, a4, a5, a6, a7, a8, a9, a10, a11, a12, ap, at_, ao⟩ := hI
  refine ⟨a0, a1, a2, a3, hv, a5, a6, a7, a8, a9, a10, a11, a12, fun p p0 p5 => ?_, fun t t0 t8 => ?_, fun k k0 k8 => ?_⟩
  · unfold hset
    rw [if_neg (by omega), if_neg (by omega)]
    exact ap p p0 p5
  · unfold hset
    rw [if_neg (by omega), if_neg (by omega)]
    exact at_ t t0 t8
  · unfold hset
    rw [if_neg (by omega)]
    exact ao k k0 k8
theorem MI_set5 {h : Nat → Int} (hI : MI h) {v : Int} (hv : 1 ≤ v ∧ v ≤ 999) : MI (hset h 5 v) := by
  obtain ⟨a0, a1, a2, a3, a4, a5, a6, a7, a8, a9, a10, a11, a12, ap, at_, ao⟩ := hI
  refine ⟨a0, a1, a2, a3, a4, hv, a6, a7, a8, a9, a10, a11, a12, fun p p0 p5 => ?_, fun t t0 t8 => ?_, fun k k0 k8 => ?_⟩
  · unfold hset
    rw [if_neg (by omega), if_neg (by omega)]
    exact ap p p0 p5
  · unfold hset
    rw [if_neg (by omega), if_neg (by omega)]
    exact at_ t t0 t8
  · unfold hset
    rw [if_neg (by omega)]
    exact ao k k0 k8
theorem MI_set6 {h : Nat → Int} (hI : MI h) {v : Int} (hv : 0 ≤ v ∧ v ≤ 90) : MI (hset h 6 v) := by
  obtain ⟨a0, a1, a2, a3, a4, a5, a6, a7, a8, a9, a10, a11, a12, ap, at_, ao⟩ := hI
  refine ⟨a0, a1, a2, a3, a4, a5, hv, a7, a8, a9, a10, a11, a12, fun p p0 p5 => ?_, fun t t0 t8 => ?_, fun k k0 k8 => ?_⟩
  · unfold hset
    rw [if_neg (by omega), if_neg (by omega)]
    exact ap p p0 p5
  · unfold hset
    rw [if_neg (by omega), if_neg (by omega)]
    exact at_ t t0 t8
  · unfold hset
    rw [if_neg (by omega)]
    exact ao k k0 k8
theorem MI_set7 {h : Nat → Int} (hI : MI h) {v : Int} (hv : 0 ≤ v ∧ v ≤ 20) : MI (hset h 7 v) := by
  obtain ⟨a0, a1, a2, a3, a4, a5, a6, a7, a8, a9, a10, a11, a12, ap, at_, ao⟩ := hI
  refine ⟨a0, a1, a2, a3, a4, a5, a6, hv, a8, a9, a10, a11, a12, fun p p0 p5 => ?_, fun t t0 t8 => ?_, fun k k0 k8 => ?_⟩
  · unfold hset
    rw [if_neg (by omega), if_neg (by omega)]
    exact ap p p0 p5
  · unfold hset
    rw [if_neg (by omega), if_neg (by omega)]
    exact at_ t t0 t8
  · unfold hset
    rw [if_neg (by omega)]
    exact ao k k0 k8
theorem MI_set8 {h : Nat → Int} (hI : MI h) {v : Int} (hv : 0 ≤ v ∧ v ≤ 20) : MI (hset h 8 v) := by
  obtain ⟨a0, a1, a2, a3, a4, a5, a6, a7, a8, a9, a10, a11, a12, ap, at_, ao⟩ := hI
  refine ⟨a0, a1, a2, a3, a4, a5, a6, a7, hv, a9, a10, a11, a12, fun p p0 p5 => ?_, fun t t0 t8 => ?_, fun k k0 k8 => ?_⟩
  · unfold hset
    rw [if_neg (by omega), if_neg (by omega)]
    exact ap p p0 p5
  · unfold hset
    rw [if_neg (by omega), if_neg (by omega)]
    exact at_ t t0 t8
  · unfold hset
    rw [if_neg (by omega)]
    exact ao k k0 k8
theorem MI_set9 {h : Nat → Int} (hI : MI h) {v : Int} (hv : 1 ≤ v ∧ v ≤ 60) : MI (hset h 9 v) := by
  obtain ⟨a0, a1, a2, a3, a4, a5, a6, a7, a8, a9, a10, a11, a12, ap, at_, ao⟩ := hI
  refine ⟨a0, a1, a2, a3, a4, a5, a6, a7, a8, hv, a10, a11, a12, fun p p0 p5 => ?_, fun t t0 t8 => ?_, fun k k0 k8 => ?_⟩
  · unfold hset
    rw [if_neg (by omega), if_neg (by omega)]
    exact ap p p0 p5
  · unfold hset
    rw [if_neg (by omega), if_neg (by omega)]
    exact at_ t t0 t8
  · unfold hset
    rw [if_neg (by omega)]
    exact ao k k0 k8
theorem MI_set11 {h : Nat → Int} (hI : MI h) {v : Int} (hv : 0 ≤ v ∧ v ≤ 3) : MI (hset h 11 v) := by
  obtain ⟨a0, a1, a2, a3, a4, a5, a6, a7, a8, a9, a10, a11, a12, ap, at_, ao⟩ := hI
  refine ⟨a0, a1, a2, a3, a4, a5, a6, a7, a8, a9, a10, hv, a12, fun p p0 p5 => ?_, fun t t0 t8 => ?_, fun k k0 k8 => ?_⟩
  · unfold hset
    rw [if_neg (by omega), if_neg (by omega)]
    exact ap p p0 p5
  · unfold hset
    rw [if_neg (by omega), if_neg (by omega)]
    exact at_ t t0 t8
  · unfold hset
    rw [if_neg (by omega)]
    exact ao k k0 k8
theorem MI_set12 {h : Nat → Int} (hI : MI h) {v : Int} (hv : 0 ≤ v ∧ v ≤ 1) : MI (hset h 12 v) := by
  obtain ⟨a0, a1, a2, a3, a4, a5, a6, a7, a8, a9, a10, a11, a12, ap, at_, ao⟩ := hI
  refine ⟨a0, a1, a2, a3, a4, a5, a6, a7, a8, a9, a10, a11, hv, fun p p0 p5 => ?_, fun t t0 t8 => ?_, fun k k0 k8 => ?_⟩
  · unfold hset
    rw [if_neg (by omega), if_neg (by omega)]
    exact ap p p0 p5
  · unfold hset
    rw [if_neg (by omega), if_neg (by omega)]
    exact at_ t t0 t8
  · unfold hset
    rw [if_neg (by omega)]
    exact ao k k0 k8
set_option maxRecDepth 100000 in
set_option maxHeartbeats 4000000 in
theorem l5_findBestOrder (κ : xM) (N : Nat) (hN : N ≤ 5) (g : Nat → Int) (hI : MI g) (h3 : g 3 = N) : ∀ (L : List (List Nat)) (B : Int × List Nat) (i : Int) (z : Option xA) (ν : xM), nxC N L = true → (∀ p ∈ L, p.length = N ∧ (∀ k, p.getD k 0 < 8) ∧ DO (soN N g p)) → 0 ≤ i → i + L.length ≤ 120 → (∀ p, L.head? = some p → hOf ν 28 = soN N g p) → ((B.1 = -9 ∨ 0 ≤ B.1) ∧ B.1 ≤ 80000) → (0 ≤ B.1 → ∀ k, k < N → ν 1 k = (B.2.getD k 0 : Nat)) → CR ν κ → X E0 shC 6 yX5_findBestOrder cX5_findBestOrder 5 (some .int) 36 [some (.inr (.inl 0)), some (.inl B.1), some (.inl (bI (!L.isEmpty))), some (.inl i), z] [] ν (fun r μ' => r = some (.inl ((L).foldl (lfB (dF N g)) (B)).1) ∧ CR μ' κ ∧ (0 ≤ ((L).foldl (lfB (dF N g)) (B)).1 → ∀ k, k < N → μ' 1 k = (((L).foldl (lfB (dF N g)) (B)).2.getD k 0 : Nat))) := by
  intro L
  induction L with
  | nil =>
    intro B i z ν hx hp hi hl hh hB hb h
    have hi2 : i ≤ 120 := by simpa using hl
    show X E0 shC 6 yX5_findBestOrder cX5_findBestOrder 5 (some .int) 36 [some (.inr (.inl 0)), some (.inl B.1), some (.inl 0), some (.inl i), z] [] ν (fun r μ' => r = some (.inl (([]).foldl (lfB (dF N g)) (B)).1) ∧ CR μ' κ ∧ (0 ≤ (([]).foldl (lfB (dF N g)) (B)).1 → ∀ k, k < N → μ' 1 k = ((([]).foldl (lfB (dF N g)) (B)).2.getD k 0 : Nat)))
    refine x_iload_n (i := 3) dX5_findBestOrder_36 rfl rfl ?_
    refine x_bipush dX5_findBestOrder_37 (by decide) ?_
    refine x_icmp_ge (tgt := 99) dX5_findBestOrder_39 (by decide) (by first | (unfold x_in; omega) | (unfold x_in; decide)) (by first | (unfold x_in; omega) | (unfold x_in; decide)) (fun c1 => ?_) (fun c1 => ?_)
    · refine x_iload_n (i := 1) dX5_findBestOrder_99 rfl rfl ?_
      refine x_iret dX5_findBestOrder_100 rfl rfl ?_
      exact ⟨rfl, h, hb⟩
    · refine x_iload_n (i := 2) dX5_findBestOrder_42 rfl rfl ?_
      refine x_if_eq (tgt := 99) dX5_findBestOrder_43 (by decide) (by first | (unfold x_in; omega) | (unfold x_in; decide)) (fun c2 => ?_) (fun c2 => ?_)
      · refine x_iload_n (i := 1) dX5_findBestOrder_99 rfl rfl ?_
        refine x_iret dX5_findBestOrder_100 rfl rfl ?_
        exact ⟨rfl, h, hb⟩
      · exact absurd c2 (by omega)
  | cons p L ih =>
    intro B i z ν hx hp hi hl hh hB hb h
    have hpp := hp p List.mem_cons_self
    have hl2 : i + L.length + 1 ≤ 120 := by
      simp only [List.length_cons] at hl
      omega
    have h28 := hh p rfl
    have hMI := MI_soN hI hN (p := p) (fun k => by have := hpp.2.1 k; omega)
    have hd := dAll_in hMI
    have eF : dF N g p = dAll (soN N g p) := rfl
    have hd0 := dAll_ge hMI
    have K85 : ∀ (B2 : Int × List Nat) (ν2 : xM) z2, B2 = lfB (dF N g) B p → hOf ν2 28 = soN N g p → CR ν2 κ → ((B2.1 = -9 ∨ 0 ≤ B2.1) ∧ B2.1 ≤ 80000) → (0 ≤ B2.1 → ∀ k, k < N → ν2 1 k = (B2.2.getD k 0 : Nat)) → X E0 shC 6 yX5_findBestOrder cX5_findBestOrder 5 (some .int) 85 [some (.inr (.inl 0)), some (.inl B2.1), some (.inl 1), some (.inl i), z2] [] ν2 (fun r μ' => r = some (.inl ((p :: L).foldl (lfB (dF N g)) (B)).1) ∧ CR μ' κ ∧ (0 ≤ ((p :: L).foldl (lfB (dF N g)) (B)).1 → ∀ k, k < N → μ' 1 k = (((p :: L).foldl (lfB (dF N g)) (B)).2.getD k 0 : Nat))) := by
      intro B2 ν2 z2 eB e28 hc hB2 hb2
      have hg := s1_goToNextOrder N (by omega) g h3 (x_ct [28, 29, 30, 31, 32, 33, 34] ν2) p hpp.1 hpp.2.1 e28
      have KK : ∀ ν3 : xM, (∀ q, nxL N p = some q → hOf ν3 0 = soN N g q) → X E0 shC 6 yX5_findBestOrder cX5_findBestOrder 5 (some .int) 36 [some (.inr (.inl 0)), some (.inl B2.1), some (.inl (bI (nxL N p).isSome)), some (.inl (i + 1)), z2] [] (x_mrg [28, 29, 30, 31, 32, 33, 34] ν2 ν3) (fun r μ' => r = some (.inl ((p :: L).foldl (lfB (dF N g)) (B)).1) ∧ CR μ' κ ∧ (0 ≤ ((p :: L).foldl (lfB (dF N g)) (B)).1 → ∀ k, k < N → μ' 1 k = (((p :: L).foldl (lfB (dF N g)) (B)).2.getD k 0 : Nat))) := by
        intro ν3 e3
        have en : (nxL N p).isSome = !L.isEmpty ∧ (∀ q, L.head? = some q → nxL N p = some q) ∧ nxC N L = true := by
          cases L with
          | nil =>
            have : nxL N p = none := of_decide_eq_true hx
            rw [this]
            exact ⟨rfl, fun q hq => by simp at hq, rfl⟩
          | cons q L =>
            have hx2 := (Bool.and_eq_true _ _).mp hx
            have e1 : nxL N p = some q := of_decide_eq_true hx2.1
            rw [e1]
            exact ⟨rfl, fun q' hq => hq, hx2.2⟩
        rw [en.1, List.foldl_cons, ← eB]
        exact ih B2 (i + 1) z2 (x_mrg [28, 29, 30, 31, 32, 33, 34] ν2 ν3) en.2.2 (fun q hq => hp q (List.mem_cons_of_mem _ hq)) (by omega) (by omega) (fun q hq => e3 q (en.2.1 q hq)) hB2 hb2 (hc.same (fun k hk _ => x_mrg_out ν2 ν3 (fun i hi => by simp at hi; omega)))
      clear ih hb2 hc hx
      refine x_aload_n (i := 0) dX5_findBestOrder_85 rfl rfl ?_
      refine x_getR xf_RX5_24 dX5_findBestOrder_86 rfl rfl ?_
      refine x_cI_0 [28, 29, 30, 31, 32, 33, 34] lk_RX5_195 xm_X1_goToNextOrder dX5_findBestOrder_89 (hg) (fun a ν3 hq => ?_)
      obtain ⟨ea, e3⟩ := hq
      cases ea
      refine x_istore_2 dX5_findBestOrder_92 (by decide) rfl ?_
      refine x_iinc_3 dX5_findBestOrder_93 (by decide) rfl ?_
      refine x_goto (tgt := 36) dX5_findBestOrder_96 (by decide) ?_
      exact KK ν3 e3
    have KU : ∀ ν2 : xM, (∀ k, k < 19 ∨ 34 < k → ν2 k = ν k) → hOf ν2 28 = soN N g p → (B.1 = -9 ∨ dAll (soN N g p) < B.1) → ∀ ν3 : xM, (∀ k, k ≠ 1 → ν3 k = ν2 k) → (∀ k, k < 8 → ν3 1 k = ν2 34 k) → ∀ z2, X E0 shC 6 yX5_findBestOrder cX5_findBestOrder 5 (some .int) 85 [some (.inr (.inl 0)), some (.inl (dAll (soN N g p))), some (.inl 1), some (.inl i), z2] [] ν3 (fun r μ' => r = some (.inl ((p :: L).foldl (lfB (dF N g)) (B)).1) ∧ CR μ' κ ∧ (0 ≤ ((p :: L).foldl (lfB (dF N g)) (B)).1 → ∀ k, k < N → μ' 1 k = (((p :: L).foldl (lfB (dF N g)) (B)).2.getD k 0 : Nat))) := by
      intro ν2 e2 e28 hcond ν3 e3 e3b z2
      have e28b : hOf ν3 28 = soN N g p := (hOf_congr (fun k h1 h2 => e3 k (by omega))).trans e28
      refine K85 (dAll (soN N g p), p) ν3 z2 ?_ e28b ((h.same (fun k q _ => e2 k q)).same (fun k q q1 => e3 k q1)) ⟨Or.inr hd0, hd.2⟩ (fun _ k hk => ?_)
      · unfold lfB
        rw [eF, if_neg (by omega)]
      · rw [e3b k (by omega)]
        have e := congrFun e28 (39 + k)
        have e1 : hOf ν2 28 (39 + k) = ν2 34 k := by
          have := hOf_ord ν2 28 (p := (k : Int)) (by omega) (by omega)
          rw [show (39 + (k : Int)).toNat = 39 + k by omega] at this
          exact this
        rw [← e1, e]
        unfold soN
        rw [if_pos (by omega), show 39 + k - 39 = k by omega]
    have KN : ∀ ν2 : xM, (∀ k, k < 19 ∨ 34 < k → ν2 k = ν k) → hOf ν2 28 = soN N g p → ¬ (B.1 = -9 ∨ dAll (soN N g p) < B.1) → ∀ z2, X E0 shC 6 yX5_findBestOrder cX5_findBestOrder 5 (some .int) 85 [some (.inr (.inl 0)), some (.inl B.1), some (.inl 1), some (.inl i), z2] [] ν2 (fun r μ' => r = some (.inl ((p :: L).foldl (lfB (dF N g)) (B)).1) ∧ CR μ' κ ∧ (0 ≤ ((p :: L).foldl (lfB (dF N g)) (B)).1 → ∀ k, k < N → μ' 1 k = (((p :: L).foldl (lfB (dF N g)) (B)).2.getD k 0 : Nat))) := by
      intro ν2 e2 e28 hcond z2
      refine K85 B ν2 z2 ?_ e28 (h.same (fun k q _ => e2 k q)) hB (fun q k hk => ?_)
      · unfold lfB
        rw [eF, if_pos (by omega)]
      · rw [e2 1 (by decide)]
        exact hb q k hk
    show X E0 shC 6 yX5_findBestOrder cX5_findBestOrder 5 (some .int) 36 [some (.inr (.inl 0)), some (.inl B.1), some (.inl 1), some (.inl i), z] [] ν (fun r μ' => r = some (.inl ((p :: L).foldl (lfB (dF N g)) (B)).1) ∧ CR μ' κ ∧ (0 ≤ ((p :: L).foldl (lfB (dF N g)) (B)).1 → ∀ k, k < N → μ' 1 k = (((p :: L).foldl (lfB (dF N g)) (B)).2.getD k 0 : Nat)))
    have hwt := s5_waitedOnTrial (soN N g p) hMI hpp.2.2 ν h28
    clear ih K85 hb hh hp hx eF
    generalize dAll (soN N g p) = w at *
    refine x_iload_n (i := 3) dX5_findBestOrder_36 rfl rfl ?_
    refine x_bipush dX5_findBestOrder_37 (by decide) ?_
    refine x_icmp_ge (tgt := 99) dX5_findBestOrder_39 (by decide) (by first | (unfold x_in; omega) | (unfold x_in; decide)) (by first | (unfold x_in; omega) | (unfold x_in; decide)) (fun c1 => ?_) (fun c1 => ?_)
    · exact absurd c1 (by omega)
    · refine x_iload_n (i := 2) dX5_findBestOrder_42 rfl rfl ?_
      refine x_if_eq (tgt := 99) dX5_findBestOrder_43 (by decide) (by first | (unfold x_in; omega) | (unfold x_in; decide)) (fun c2 => ?_) (fun c2 => ?_)
      · exact absurd c2 (by omega)
      · refine x_aload_n (i := 0) dX5_findBestOrder_46 rfl rfl ?_
        refine x_cI0_0 lk_RX5_147 xm_X5_waitedOnTrial dX5_findBestOrder_47 (hwt) (fun a μ2 hq2 => ?_)
        obtain ⟨ea, e28, eo⟩ := hq2
        cases ea
        refine x_istore_4 dX5_findBestOrder_50 (by decide) rfl ?_
        refine x_iload_n (i := 1) dX5_findBestOrder_52 rfl rfl ?_
        refine x_bipush dX5_findBestOrder_53 (by decide) ?_
        refine x_icmp_eq (tgt := 64) dX5_findBestOrder_55 (by decide) (by first | (unfold x_in; omega) | (unfold x_in; decide)) (by first | (unfold x_in; omega) | (unfold x_in; decide)) (fun c3 => ?_) (fun c3 => ?_)
        · refine x_iload dX5_findBestOrder_64 rfl ?_
          refine x_istore_1 dX5_findBestOrder_66 (by decide) rfl ?_
          refine x_aload_n (i := 0) dX5_findBestOrder_67 rfl rfl ?_
          refine x_getR xf_RX5_24 dX5_findBestOrder_68 rfl rfl ?_
          refine x_getR xf_RX5_186 dX5_findBestOrder_71 rfl rfl ?_
          refine x_iconst dX5_findBestOrder_74 ?_
          refine x_aload_n (i := 0) dX5_findBestOrder_75 rfl rfl ?_
          refine x_getR xf_RX5_47 dX5_findBestOrder_76 rfl rfl ?_
          refine x_iconst dX5_findBestOrder_79 ?_
          refine x_bipush dX5_findBestOrder_80 (by decide) ?_
          refine x_acopy lk_RX5_189 dX5_findBestOrder_82 (by decide) (by decide) rfl rfl (by decide) (by decide) (by decide) (by decide) (by decide) (by decide) (by decide) ?_
          first | (have q : ¬ (B.1 = -9 ∨ w < B.1) := (by omega); exact KN μ2 eo e28 q _) | (refine KU μ2 eo e28 (by omega) _ ?_ ?_ _; (intro k hk; exact if_neg hk); (intro k hk; exact (va_cpy0 (μ2 34) (μ2 1) 8 k).trans (if_pos hk)))
        · refine x_iload dX5_findBestOrder_58 rfl ?_
          refine x_iload_n (i := 1) dX5_findBestOrder_60 rfl rfl ?_
          refine x_icmp_ge (tgt := 85) dX5_findBestOrder_61 (by decide) (by first | (unfold x_in; omega) | (unfold x_in; decide)) (by first | (unfold x_in; omega) | (unfold x_in; decide)) (fun c4 => ?_) (fun c4 => ?_)
          · first | (have q : ¬ (B.1 = -9 ∨ w < B.1) := (by omega); exact KN μ2 eo e28 q _) | (refine KU μ2 eo e28 (by omega) _ ?_ ?_ _; (intro k hk; exact if_neg hk); (intro k hk; exact (va_cpy0 (μ2 34) (μ2 1) 8 k).trans (if_pos hk)))
          · refine x_iload dX5_findBestOrder_64 rfl ?_
            refine x_istore_1 dX5_findBestOrder_66 (by decide) rfl ?_
            refine x_aload_n (i := 0) dX5_findBestOrder_67 rfl rfl ?_
            refine x_getR xf_RX5_24 dX5_findBestOrder_68 rfl rfl ?_
            refine x_getR xf_RX5_186 dX5_findBestOrder_71 rfl rfl ?_
            refine x_iconst dX5_findBestOrder_74 ?_
            refine x_aload_n (i := 0) dX5_findBestOrder_75 rfl rfl ?_
            refine x_getR xf_RX5_47 dX5_findBestOrder_76 rfl rfl ?_
            refine x_iconst dX5_findBestOrder_79 ?_
            refine x_bipush dX5_findBestOrder_80 (by decide) ?_
            refine x_acopy lk_RX5_189 dX5_findBestOrder_82 (by decide) (by decide) rfl rfl (by decide) (by decide) (by decide) (by decide) (by decide) (by decide) (by decide) ?_
            first | (have q : ¬ (B.1 = -9 ∨ w < B.1) := (by omega); exact KN μ2 eo e28 q _) | (refine KU μ2 eo e28 (by omega) _ ?_ ?_ _; (intro k hk; exact if_neg hk); (intro k hk; exact (va_cpy0 (μ2 34) (μ2 1) 8 k).trans (if_pos hk)))
set_option maxRecDepth 100000 in
set_option maxHeartbeats 4000000 in
theorem s5_findBestOrder (μ κ : xM) (h : CR μ κ) (h5 : κ 2 1 ≤ 5) : X E0 shC 6 yX5_findBestOrder cX5_findBestOrder 5 (some .int) 0 [some (.inr (.inl 0)), none, none, none, none] [] μ (fun r μ' => r = some (.inl (dBest (κ 2)).1) ∧ CR μ' κ ∧ 0 ≤ (dBest (κ 2)).1 ∧ ∀ k, k < (κ 2 1).toNat → μ' 1 k = ((dBest (κ 2)).2.getD k 0 : Nat)) := by
  have eH : hOf (x_ct [12, 13, 14, 15, 16, 17, 18] μ) 0 = κ 2 := h.hill
  have hI := h.mi
  have h1 : 0 ≤ κ 2 1 ∧ κ 2 1 ≤ 8 := hI.2.1
  have h0 : 0 ≤ κ 2 0 ∧ κ 2 0 ≤ 5 := hI.1
  have hN : (κ 2 1).toNat ≤ 5 := by omega
  have hA := nxC_all (κ 2 1).toNat (by omega)
  have hnd := pGen_nd (κ 2 1).toNat (by omega)
  have hMB := MI_hB hI
  have h3 : hB (κ 2) 3 = ((κ 2 1).toNat : Nat) := (nat_back h1.1).symm
  have hmem : ∀ p ∈ pGen (κ 2 1).toNat (κ 2 1).toNat [] 0, p.length = (κ 2 1).toNat ∧ (∀ k, p.getD k 0 < 8) ∧ DO (soN (κ 2 1).toNat (hB (κ 2)) p) := by
    intro p hp
    have q1 := (Bool.and_eq_true _ _).mp (List.all_eq_true.mp hA.2.1 p hp)
    have q2 : p.length = (κ 2 1).toNat := by simpa using q1.1
    refine ⟨q2, fun k => ?_, DO_soN h3 q2 (of_decide_eq_true (List.all_eq_true.mp hnd p hp))⟩
    rw [List.getD_eq_getElem?_getD]
    by_cases hk : k < p.length
    · rw [List.getElem?_eq_getElem hk]
      exact of_decide_eq_true (List.all_eq_true.mp q1.2 _ (List.getElem_mem hk))
    · rw [List.getElem?_eq_none (by omega)]
      decide
  have hge : 0 ≤ (dBest (κ 2)).1 := by
    refine lfB_ge2 _ _ (fun p hp => ?_) (Or.inr (fun e => ?_))
    · exact dAll_ge (MI_soN hMB hN (p := p) (fun k => by have := (hmem p hp).2.1 k; omega))
    · have := hA.2.2.1
      rw [e] at this
      simp at this
  have hne : (!(pGen (κ 2 1).toNat (κ 2 1).toNat [] 0).isEmpty) = true := by
    have := hA.2.2.1
    cases hg : pGen (κ 2 1).toNat (κ 2 1).toNat [] 0 with
    | nil => rw [hg] at this; simp at this
    | cons a l => rfl
  have K11 : ∀ μ1, CR μ1 κ → hOf μ1 28 = κ 2 → X E0 shC 6 yX5_findBestOrder cX5_findBestOrder 5 (some .int) 11 [some (.inr (.inl 0)), none, none, none, none] [] μ1 (fun r μ' => r = some (.inl (dBest (κ 2)).1) ∧ CR μ' κ ∧ 0 ≤ (dBest (κ 2)).1 ∧ ∀ k, k < (κ 2 1).toNat → μ' 1 k = ((dBest (κ 2)).2.getD k 0 : Nat)) := by
    intro μ1 hc h28
    have hg11 : hOf (x_st μ1 33 7 3) 28 = hset (κ 2) 11 3 := by
      have := hOf_ss μ1 28 (p := 7) (by decide) (by decide) 3
      rw [h28] at this
      exact this
    have hMI11 : MI (hOf (x_ct [28, 29, 30, 31, 32, 33, 34] (x_st μ1 33 7 3)) 0) := by
      show MI (hOf (x_st μ1 33 7 3) 28)
      rw [hg11]
      exact MI_set11 hI (by decide)
    have KL : ∀ ν, CR ν κ → hOf ν 28 = soN (κ 2 1).toNat (hB (κ 2)) (List.range (κ 2 1).toNat) → X E0 shC 6 yX5_findBestOrder cX5_findBestOrder 5 (some .int) 36 [some (.inr (.inl 0)), some (.inl (-9)), some (.inl 1), some (.inl 0), none] [] ν (fun r μ' => r = some (.inl (dBest (κ 2)).1) ∧ CR μ' κ ∧ 0 ≤ (dBest (κ 2)).1 ∧ ∀ k, k < (κ 2 1).toNat → μ' 1 k = ((dBest (κ 2)).2.getD k 0 : Nat)) := by
      intro ν cν eν
      have := l5_findBestOrder κ (κ 2 1).toNat hN (hB (κ 2)) hMB h3 (pGen (κ 2 1).toNat (κ 2 1).toNat [] 0) (-9, []) 0 none ν hA.1 hmem (by decide) (by have := hA.2.2.2; omega) (fun p hp => by
        rw [hA.2.2.1] at hp
        cases hp
        exact eν) ⟨Or.inl rfl, show (-9 : Int) ≤ 80000 by decide⟩ (fun q => absurd q (show ¬ (0 : Int) ≤ -9 by decide)) cν
      rw [hne] at this
      exact this.mono (fun r μ' q => ⟨q.1, q.2.1, hge, q.2.2 hge⟩)
    have KO : ∀ ν : xM, hOf ν 0 = hOrdN (hset (hOf (x_ct [28, 29, 30, 31, 32, 33, 34] (x_st μ1 33 7 3)) 0) 3 (hOf (x_ct [28, 29, 30, 31, 32, 33, 34] (x_st μ1 33 7 3)) 0 1)) (hOf (x_ct [28, 29, 30, 31, 32, 33, 34] (x_st μ1 33 7 3)) 0 1).toNat → CR (x_mrg [28, 29, 30, 31, 32, 33, 34] (x_st μ1 33 7 3) ν) κ ∧ hOf (x_mrg [28, 29, 30, 31, 32, 33, 34] (x_st μ1 33 7 3) ν) 28 = soN (κ 2 1).toNat (hB (κ 2)) (List.range (κ 2 1).toNat) := by
      intro ν e
      refine ⟨hc.same (fun k q _ => (x_mrg_out (x_st μ1 33 7 3) ν (fun i hi => by simp at hi; omega)).trans (funext fun x => x_st_ne (Or.inl (by omega)))), ?_⟩
      have e0 : hOf (x_ct [28, 29, 30, 31, 32, 33, 34] (x_st μ1 33 7 3)) 0 = hset (κ 2) 11 3 := hg11
      rw [e0, hset_ne (show 1 ≠ 11 by decide), hOrdN_so] at e
      exact e
    clear hmem hA hnd
    refine x_aload_n (i := 0) dX5_findBestOrder_11 rfl rfl ?_
    refine x_getR xf_RX5_24 dX5_findBestOrder_12 rfl rfl ?_
    refine x_getR xf_RX5_102 dX5_findBestOrder_15 rfl rfl ?_
    refine x_bipush dX5_findBestOrder_18 (by decide) ?_
    refine x_iconst dX5_findBestOrder_20 ?_
    refine x_iastK (K := 7) dX5_findBestOrder_21 rfl rfl (by decide) (by decide) ?_
    refine x_aload_n (i := 0) dX5_findBestOrder_22 rfl rfl ?_
    refine x_getR xf_RX5_24 dX5_findBestOrder_23 rfl rfl ?_
    refine x_cV_0 [28, 29, 30, 31, 32, 33, 34] lk_RX5_183 xm_X1_orderByNumber dX5_findBestOrder_26 (s1_orderByNumber _ hMI11) (fun ν hq => ?_)
    obtain ⟨k1, k2⟩ := KO ν hq.2
    refine x_bipush dX5_findBestOrder_29 (by decide) ?_
    refine x_istore_1 dX5_findBestOrder_31 (by decide) rfl ?_
    refine x_iconst dX5_findBestOrder_32 ?_
    refine x_istore_2 dX5_findBestOrder_33 (by decide) rfl ?_
    refine x_iconst dX5_findBestOrder_34 ?_
    refine x_istore_3 dX5_findBestOrder_35 (by decide) rfl ?_
    exact KL _ k1 k2
  refine x_aload_n (i := 0) dX5_findBestOrder_0 rfl rfl ?_
  refine x_getR xf_RX5_24 dX5_findBestOrder_1 rfl rfl ?_
  refine x_aload_n (i := 0) dX5_findBestOrder_4 rfl rfl ?_
  refine x_getR xf_RX5_20 dX5_findBestOrder_5 rfl rfl ?_
  refine x_cV_R [28, 29, 30, 31, 32, 33, 34, 12, 13, 14, 15, 16, 17, 18] lk_RX5_70 xm_X1_copyFrom dX5_findBestOrder_8 (s1_copyFrom (x_ct [28, 29, 30, 31, 32, 33, 34, 12, 13, 14, 15, 16, 17, 18] μ)) (fun ν hq => ?_)
  have hx := cp_trial hq.2.2
  have hc : CR (x_mrg [28, 29, 30, 31, 32, 33, 34, 12, 13, 14, 15, 16, 17, 18] μ ν) κ := h.same (fun k hk _ => hx k (by omega))
  have h28 : hOf (x_mrg [28, 29, 30, 31, 32, 33, 34, 12, 13, 14, 15, 16, 17, 18] μ ν) 28 = κ 2 := hq.2.1.trans h.hill
  clear hx
  generalize x_mrg [28, 29, 30, 31, 32, 33, 34, 12, 13, 14, 15, 16, 17, 18] μ ν = μ1 at *
  exact K11 μ1 hc h28
set_option maxRecDepth 100000 in
set_option maxHeartbeats 4000000 in
theorem s5_best (i : Int) (hi : x_in i) (μ κ : xM) (h : CR μ κ) : X E0 shC 9 yX5_best cX5_best 3 (some .int) 0 [some (.inr (.inl 0)), some (.inl i), none] [] μ (CQ (if i < -1 then -4 else if 5 < κ 2 1 then -6 else if i < 0 then (dBest (κ 2)).1 else if i < κ 2 1 then (((dBest (κ 2)).2.getD i.toNat 0 : Nat) : Int) else -9) (if i < -1 then mRef κ (-4) else if 5 < κ 2 1 then mRef κ (-6) else κ)) := by
  have eH : hOf (x_ct [12, 13, 14, 15, 16, 17, 18] μ) 0 = κ 2 := h.hill
  have hI := h.mi
  have h1 : 0 ≤ κ 2 1 ∧ κ 2 1 ≤ 8 := hI.2.1
  have h0 : 0 ≤ κ 2 0 ∧ κ 2 0 ≤ 5 := hI.1
  have b1 : μ 12 3 = κ 2 1 := congrFun h.hill 1
  have hi2 : -2147483648 ≤ i ∧ i < 2147483648 := hi
  refine x_iload_n (i := 1) dX5_best_0 rfl rfl ?_
  refine x_iconst dX5_best_1 ?_
  refine x_icmp_ge (tgt := 12) dX5_best_2 (by decide) (by first | assumption | (unfold x_in; omega) | (unfold x_in; decide)) (by first | assumption | (unfold x_in; omega) | (unfold x_in; decide)) (fun c1 => ?_) (fun c1 => ?_)
  · refine x_aload_n (i := 0) dX5_best_12 rfl rfl ?_
    refine x_getR xf_RX5_20 dX5_best_13 rfl rfl ?_
    refine x_getI xf_RX5_138 dX5_best_16 rfl rfl ?_
    refine x_iconst dX5_best_19 ?_
    refine x_icmp_le (tgt := 30) dX5_best_20 (by decide) (by first | assumption | (unfold x_in; omega) | (unfold x_in; decide)) (by first | assumption | (unfold x_in; omega) | (unfold x_in; decide)) (fun c2 => ?_) (fun c2 => ?_)
    · refine x_iload_n (i := 1) dX5_best_30 rfl rfl ?_
      refine x_aload_n (i := 0) dX5_best_31 rfl rfl ?_
      refine x_getR xf_RX5_20 dX5_best_32 rfl rfl ?_
      refine x_getI xf_RX5_138 dX5_best_35 rfl rfl ?_
      refine x_icmp_lt (tgt := 44) dX5_best_38 (by decide) (by first | assumption | (unfold x_in; omega) | (unfold x_in; decide)) (by first | assumption | (unfold x_in; omega) | (unfold x_in; decide)) (fun c3 => ?_) (fun c3 => ?_)
      · refine x_aload_n (i := 0) dX5_best_44 rfl rfl ?_
        refine x_cI0_0 lk_RX5_141 xm_X5_findBestOrder dX5_best_45 (s5_findBestOrder μ κ h (by omega)) (fun a ν hq => ?_)
        obtain ⟨ea, hc, hge, hb⟩ := hq
        cases ea
        refine x_istore_2 dX5_best_48 (by decide) rfl ?_
        refine x_iload_n (i := 1) dX5_best_49 rfl rfl ?_
        refine x_if_ge (tgt := 57) dX5_best_50 (by decide) (by first | assumption | (unfold x_in; omega) | (unfold x_in; decide)) (fun c4 => ?_) (fun c4 => ?_)
        · refine x_aload_n (i := 0) dX5_best_57 rfl rfl ?_
          refine x_getR xf_RX5_47 dX5_best_58 rfl rfl ?_
          refine x_iload_n (i := 1) dX5_best_61 rfl rfl ?_
          refine x_iald dX5_best_62 rfl (by decide) (by first | omega | decide) (by first | omega | decide) ?_
          try simp (decide := true) only [x_st_at, ↓reduceIte, if_true, if_false]
          refine x_iret dX5_best_63 rfl rfl ?_
          have q1 : ¬ i < -1 := (by omega)
          have q2 : ¬ 5 < κ 2 1 := (by omega)
          first | (have q3 : i < 0 := (by omega); rw [if_neg q1, if_neg q1, if_neg q2, if_neg q2, if_pos q3]; exact ⟨rfl, hc⟩) | (have q3 : ¬ i < 0 := (by omega); have q4 : i < κ 2 1 := (by omega); rw [if_neg q1, if_neg q1, if_neg q2, if_neg q2, if_neg q3, if_pos q4]; exact ⟨congrArg (fun z => some (Sum.inl z)) (hb i.toNat (by omega)), hc⟩)
        · refine x_iload_n (i := 2) dX5_best_53 rfl rfl ?_
          refine x_goto (tgt := 63) dX5_best_54 (by decide) ?_
          refine x_iret dX5_best_63 rfl rfl ?_
          have q1 : ¬ i < -1 := (by omega)
          have q2 : ¬ 5 < κ 2 1 := (by omega)
          first | (have q3 : i < 0 := (by omega); rw [if_neg q1, if_neg q1, if_neg q2, if_neg q2, if_pos q3]; exact ⟨rfl, hc⟩) | (have q3 : ¬ i < 0 := (by omega); have q4 : i < κ 2 1 := (by omega); rw [if_neg q1, if_neg q1, if_neg q2, if_neg q2, if_neg q3, if_pos q4]; exact ⟨congrArg (fun z => some (Sum.inl z)) (hb i.toNat (by omega)), hc⟩)
      · refine x_bipush dX5_best_41 (by decide) ?_
        refine x_iret dX5_best_43 rfl rfl ?_
        have q1 : ¬ i < -1 := (by omega)
        have q2 : ¬ 5 < κ 2 1 := (by omega)
        have q3 : ¬ i < 0 := (by omega)
        have q4 : ¬ i < κ 2 1 := (by omega)
        rw [if_neg q1, if_neg q1, if_neg q2, if_neg q2, if_neg q3, if_neg q4]
        exact ⟨rfl, h⟩
    · refine x_aload_n (i := 0) dX5_best_23 rfl rfl ?_
      refine x_bipush dX5_best_24 (by decide) ?_
      refine x_cIf0_1 lk_RX5_54 xm_X5_refuse dX5_best_26 (s5_refuse _ (by decide) _) ?_
      refine x_iret dX5_best_29 rfl rfl ?_
      have q1 : ¬ i < -1 := (by omega)
      have q2 : 5 < κ 2 1 := (by omega)
      rw [if_neg q1, if_neg q1, if_pos q2, if_pos q2]
      exact ⟨rfl, h.ref (-6)⟩
  · refine x_aload_n (i := 0) dX5_best_5 rfl rfl ?_
    refine x_bipush dX5_best_6 (by decide) ?_
    refine x_cIf0_1 lk_RX5_54 xm_X5_refuse dX5_best_8 (s5_refuse _ (by decide) _) ?_
    refine x_iret dX5_best_11 rfl rfl ?_
    have q1 : i < -1 := (by omega)
    rw [if_pos q1, if_pos q1]
    exact ⟨rfl, h.ref (-4)⟩
