/-! THE CLASS, Traffic: its methods as functions of memory -/
def fE (s t : Nat → Int) (top : Int) : Nat → Int
  | 0 => -1
  | k + 1 => if t k = top ∧ (fE s t top k < 0 ∨ s k < s (fE s t top k).toNat) then (k : Int) else fE s t top k
theorem fE_s (s t : Nat → Int) (top : Int) {p : Int} (hp : 0 ≤ p) : fE s t top (p + 1).toNat = if t p.toNat = top ∧ (fE s t top p.toNat < 0 ∨ s p.toNat < s (fE s t top p.toNat).toNat) then p else fE s t top p.toNat := by rw [nat_succ hp, fE, nat_back hp]
theorem fE_in (s t : Nat → Int) (top : Int) : ∀ k : Nat, -1 ≤ fE s t top k ∧ fE s t top k < k ∨ (k = 0 ∧ fE s t top k = -1)
  | 0 => Or.inr ⟨rfl, rfl⟩
  | k + 1 => by
    have := fE_in s t top k
    rw [fE]
    split <;> omega
/-- the bounds of a traffic's state -/
def TB4 (μ : xM) : Prop := (0 ≤ μ 0 7 ∧ μ 0 7 ≤ 4) ∧ (μ 0 6 = 0 ∨ μ 0 6 = 1) ∧ (∀ i : Nat, i < 4 → (μ 4 i = 0 ∨ μ 4 i = 1) ∧ 0 ≤ μ 3 i ∧ μ 3 i ≤ 30000) ∧ (∀ j : Nat, 10 ≤ j → j ≤ 14 → 0 ≤ μ 0 j ∧ μ 0 j ≤ 30000) ∧ (∀ k : Nat, k < 3 → 0 ≤ μ 2 k ∧ μ 2 k ≤ 300) ∧ (0 ≤ μ 0 4 ∧ μ 0 4 ≤ 45) ∧ (1 ≤ μ 0 5 ∧ μ 0 5 ≤ 60)
abbrev tE (μ : xM) (top : Int) : Int := fE (μ 3) (μ 4) top (μ 0 7).toNat
theorem tE_in {μ : xM} (h : TB4 μ) (top : Int) : -1 ≤ tE μ top ∧ tE μ top < 4 := by
  have h1 := h.1
  have h2 := fE_in (μ 3) (μ 4) top (μ 0 7).toNat
  show -1 ≤ fE (μ 3) (μ 4) top (μ 0 7).toNat ∧ fE (μ 3) (μ 4) top (μ 0 7).toNat < 4
  omega
def tFt (μ : xM) : Int := if tE μ 0 < 0 then 1000000 else μ 3 (tE μ 0).toNat
def tU (μ : xM) : Int := if μ 0 6 = 0 then max (μ 0 12) (μ 0 13) else max (max (μ 0 12) (μ 0 13)) (μ 0 11)
def tD (μ : xM) : Int := if μ 0 6 = 0 then max (μ 0 12) (μ 0 14) else max (max (μ 0 12) (μ 0 14)) (μ 0 10)
def tDF (μ : xM) : Int := if tE μ 1 < 0 then 1000000 else max (tD μ) (μ 3 (tE μ 1).toNat)
def lkA (μ : xM) : xM := x_st (x_st (x_st (x_st (x_st μ 0 2 (tFt μ)) 1 0 (tU μ)) 1 1 (max (tU μ) (tFt μ))) 1 2 (max (max (tU μ) (tFt μ)) (max (μ 0 10) (μ 0 11)))) 0 1 (tDF μ)
def mvE (μ : xM) (f w : Int) : xM := if tE μ f < 0 then μ else x_st (x_st μ 4 (tE μ f).toNat (1 - f)) 3 (tE μ f).toNat w
def guT0 (μ : xM) (k m : Int) : xM := x_st (x_st μ 0 10 (max (μ 0 10) (m + μ 2 k.toNat))) 0 13 (m + μ 0 5)
def guT1 (μ : xM) (k m : Int) : xM := if k = 2 then x_st (guT0 μ k m) 0 12 (m + μ 2 k.toNat) else guT0 μ k m
def guT2 (μ : xM) (k m : Int) : xM := if k = 0 then guT1 μ k m else mvE (guT1 μ k m) 0 (m + μ 2 k.toNat)
def cdT0 (μ : xM) (m : Int) : xM := x_st (x_st μ 0 11 (m + μ 0 4)) 0 14 (m + μ 0 5)
def cdT2 (μ : xM) (m : Int) : xM := mvE (cdT0 μ m) 1 (m + μ 0 4)
theorem TB4.st0 {μ : xM} (h : TB4 μ) {j : Nat} (hj : 10 ≤ j) (hj2 : j ≤ 14) {v : Int} (hv : 0 ≤ v ∧ v ≤ 30000) : TB4 (x_st μ 0 j v) := by
  obtain ⟨a, b, c, d, e, f, g⟩ := h
  have hn : ∀ i, i < 10 → x_st μ 0 j v 0 i = μ 0 i := fun i hi => x_st_ne (Or.inr (by omega))
  refine ⟨by rw [hn 7 (by omega)]; exact a, by rw [hn 6 (by omega)]; exact b, c, fun i hi hi2 => ?_, e, by rw [hn 4 (by omega)]; exact f, by rw [hn 5 (by omega)]; exact g⟩
  by_cases q : i = j
  · rw [q, x_st_eq]; exact hv
  · rw [x_st_ne (Or.inr q)]; exact d i hi hi2
theorem TB4.mv {μ : xM} (h : TB4 μ) {f w : Int} (hf : f = 0 ∨ f = 1) (hw : 0 ≤ w ∧ w ≤ 30000) : TB4 (mvE μ f w) := by
  have ht := tE_in h f
  unfold mvE
  split
  · exact h
  next q =>
    obtain ⟨a, b, c, d, e, ff, g⟩ := h
    refine ⟨a, b, fun i hi => ?_, d, e, ff, g⟩
    have h4 : x_st (x_st μ 4 (tE μ f).toNat (1 - f)) 3 (tE μ f).toNat w 4 i = if i = (tE μ f).toNat then 1 - f else μ 4 i := rfl
    have h3 : x_st (x_st μ 4 (tE μ f).toNat (1 - f)) 3 (tE μ f).toNat w 3 i = if i = (tE μ f).toNat then w else μ 3 i := rfl
    rw [h4, h3]
    have := c i hi
    split <;> omega
theorem TB4.gu1 {μ : xM} (h : TB4 μ) {k m : Int} (hk : 0 ≤ k ∧ k ≤ 2) (hm : 0 ≤ m ∧ m ≤ 10000) : TB4 (guT1 μ k m) := by
  obtain ⟨a, b, c, d, e, f, g⟩ := h
  have e1 := e k.toNat (by omega)
  have d1 := d 10 (by omega) (by omega)
  have h0 : TB4 (guT0 μ k m) := ((show TB4 μ from ⟨a, b, c, d, e, f, g⟩).st0 (j := 10) (by omega) (by omega) (by omega)).st0 (j := 13) (by omega) (by omega) (by omega)
  unfold guT1
  split
  · exact h0.st0 (j := 12) (by omega) (by omega) (by omega)
  · exact h0
theorem TB4.gu2 {μ : xM} (h : TB4 μ) {k m : Int} (hk : 0 ≤ k ∧ k ≤ 2) (hm : 0 ≤ m ∧ m ≤ 10000) : TB4 (guT2 μ k m) := by
  have e1 := h.2.2.2.2.1 k.toNat (by omega)
  unfold guT2
  split
  · exact h.gu1 hk hm
  · exact (h.gu1 hk hm).mv (Or.inl rfl) (by omega)
theorem TB4.cd0 {μ : xM} (h : TB4 μ) {m : Int} (hm : 0 ≤ m ∧ m ≤ 10000) : TB4 (cdT0 μ m) := by
  have f := h.2.2.2.2.2.1
  have g := h.2.2.2.2.2.2
  exact (h.st0 (j := 11) (by omega) (by omega) (by omega)).st0 (j := 14) (by omega) (by omega) (by omega)
set_option maxRecDepth 100000 in
set_option maxHeartbeats 4000000 in
theorem l4_firstEngine (top : Int) (ht : top = 0 ∨ top = 1) (μ : xM) (hB : TB4 μ) : ∀ (n : Nat) (p : Int), 0 ≤ p → p ≤ μ 0 7 → (μ 0 7 - p).toNat < n → X E0 shTr 0 yX4_firstEngine cX4_firstEngine 4 (some .int) 4 [some (.inr (.inl 0)), some (.inl top), some (.inl (fE (μ 3) (μ 4) top p.toNat)), some (.inl p)] [] μ (x_Q (tE μ top) μ) := by
  have h7 := hB.1
  intro n
  induction n with
  | zero => intro p _ _ h; omega
  | succ n ih =>
    intro p hp hp2 hn
    have hf := fE_in (μ 3) (μ 4) top p.toNat
    have KK : ∀ z, p < μ 0 7 → z = fE (μ 3) (μ 4) top (p + 1).toNat → X E0 shTr 0 yX4_firstEngine cX4_firstEngine 4 (some .int) 4 [some (.inr (.inl 0)), some (.inl top), some (.inl z), some (.inl (p + 1))] [] μ (x_Q (tE μ top) μ) := by
      intro z hz e
      rw [e]
      exact ih (p + 1) (by omega) (by omega) (by omega)
    have hs := fE_s (μ 3) (μ 4) top hp
    have g1 : p < μ 0 7 → (μ 4 p.toNat = 0 ∨ μ 4 p.toNat = 1) ∧ 0 ≤ μ 3 p.toNat ∧ μ 3 p.toNat ≤ 30000 := fun q => hB.2.2.1 p.toNat (by omega)
    have g2 : p < μ 0 7 → 0 ≤ fE (μ 3) (μ 4) top p.toNat → 0 ≤ μ 3 (fE (μ 3) (μ 4) top p.toNat).toNat ∧ μ 3 (fE (μ 3) (μ 4) top p.toNat).toNat ≤ 30000 := fun q r => (hB.2.2.1 (fE (μ 3) (μ 4) top p.toNat).toNat (by omega)).2
    refine x_iload_n (i := 3) dX4_firstEngine_4 rfl rfl ?_
    refine x_aload_n (i := 0) dX4_firstEngine_5 rfl rfl ?_
    refine x_getI xf_RX4_54 dX4_firstEngine_6 rfl rfl ?_
    refine x_icmp_ge (tgt := 54) dX4_firstEngine_9 (by decide) (by first | (unfold x_in; omega) | (unfold x_in; decide) | (have g3 := g1 (by omega); unfold x_in; omega) | (have g3 := g2 (by omega) (by omega); unfold x_in; omega)) (by first | (unfold x_in; omega) | (unfold x_in; decide) | (have g3 := g1 (by omega); unfold x_in; omega) | (have g3 := g2 (by omega) (by omega); unfold x_in; omega)) (fun c1 => ?_) (fun c1 => ?_)
    · refine x_iload_n (i := 2) dX4_firstEngine_54 rfl rfl ?_
      exact x_iret dX4_firstEngine_55 rfl rfl (x_ok (by rw [show p = μ 0 7 by omega]) (by rfl))
    · refine x_iload_n (i := 3) dX4_firstEngine_12 rfl rfl ?_
      refine x_iconst dX4_firstEngine_13 ?_
      refine x_icmp_ge (tgt := 54) dX4_firstEngine_14 (by decide) (by first | (unfold x_in; omega) | (unfold x_in; decide) | (have g3 := g1 (by omega); unfold x_in; omega) | (have g3 := g2 (by omega) (by omega); unfold x_in; omega)) (by first | (unfold x_in; omega) | (unfold x_in; decide) | (have g3 := g1 (by omega); unfold x_in; omega) | (have g3 := g2 (by omega) (by omega); unfold x_in; omega)) (fun c2 => ?_) (fun c2 => ?_)
      · exact absurd c2 (by omega)
      · refine x_aload_n (i := 0) dX4_firstEngine_17 rfl rfl ?_
        refine x_getR xf_RX4_21 dX4_firstEngine_18 rfl rfl ?_
        refine x_iload_n (i := 3) dX4_firstEngine_21 rfl rfl ?_
        refine x_zald dX4_firstEngine_22 rfl (by decide) (by first | omega | decide) (by first | omega | decide) ?_
        refine x_iload_n (i := 1) dX4_firstEngine_23 rfl rfl ?_
        refine x_icmp_ne (tgt := 48) dX4_firstEngine_24 (by decide) (by first | (unfold x_in; omega) | (unfold x_in; decide) | (have g3 := g1 (by omega); unfold x_in; omega) | (have g3 := g2 (by omega) (by omega); unfold x_in; omega)) (by first | (unfold x_in; omega) | (unfold x_in; decide) | (have g3 := g1 (by omega); unfold x_in; omega) | (have g3 := g2 (by omega) (by omega); unfold x_in; omega)) (fun c3 => ?_) (fun c3 => ?_)
        · refine x_iinc_3 dX4_firstEngine_48 (by decide) rfl ?_
          refine x_goto (tgt := 4) dX4_firstEngine_51 (by decide) ?_
          refine KK _ (by omega) ?_
          rw [hs]
          first | exact (if_pos ⟨by omega, by omega⟩).symm | exact (if_neg (by omega)).symm
        · refine x_iload_n (i := 2) dX4_firstEngine_27 rfl rfl ?_
          refine x_if_lt (tgt := 46) dX4_firstEngine_28 (by decide) (by first | (unfold x_in; omega) | (unfold x_in; decide) | (have g3 := g1 (by omega); unfold x_in; omega) | (have g3 := g2 (by omega) (by omega); unfold x_in; omega)) (fun c4 => ?_) (fun c4 => ?_)
          · refine x_iload_n (i := 3) dX4_firstEngine_46 rfl rfl ?_
            refine x_istore_2 dX4_firstEngine_47 (by decide) rfl ?_
            refine x_iinc_3 dX4_firstEngine_48 (by decide) rfl ?_
            refine x_goto (tgt := 4) dX4_firstEngine_51 (by decide) ?_
            refine KK _ (by omega) ?_
            rw [hs]
            first | exact (if_pos ⟨by omega, by omega⟩).symm | exact (if_neg (by omega)).symm
          · refine x_aload_n (i := 0) dX4_firstEngine_31 rfl rfl ?_
            refine x_getR xf_RX4_18 dX4_firstEngine_32 rfl rfl ?_
            refine x_iload_n (i := 3) dX4_firstEngine_35 rfl rfl ?_
            refine x_iald dX4_firstEngine_36 rfl (by decide) (by first | omega | decide) (by first | omega | decide) ?_
            refine x_aload_n (i := 0) dX4_firstEngine_37 rfl rfl ?_
            refine x_getR xf_RX4_18 dX4_firstEngine_38 rfl rfl ?_
            refine x_iload_n (i := 2) dX4_firstEngine_41 rfl rfl ?_
            refine x_iald dX4_firstEngine_42 rfl (by decide) (by first | omega | decide) (by first | omega | decide) ?_
            refine x_icmp_ge (tgt := 48) dX4_firstEngine_43 (by decide) (by first | (unfold x_in; omega) | (unfold x_in; decide) | (have g3 := g1 (by omega); unfold x_in; omega) | (have g3 := g2 (by omega) (by omega); unfold x_in; omega)) (by first | (unfold x_in; omega) | (unfold x_in; decide) | (have g3 := g1 (by omega); unfold x_in; omega) | (have g3 := g2 (by omega) (by omega); unfold x_in; omega)) (fun c5 => ?_) (fun c5 => ?_)
            · refine x_iinc_3 dX4_firstEngine_48 (by decide) rfl ?_
              refine x_goto (tgt := 4) dX4_firstEngine_51 (by decide) ?_
              refine KK _ (by omega) ?_
              rw [hs]
              first | exact (if_pos ⟨by omega, by omega⟩).symm | exact (if_neg (by omega)).symm
            · refine x_iload_n (i := 3) dX4_firstEngine_46 rfl rfl ?_
              refine x_istore_2 dX4_firstEngine_47 (by decide) rfl ?_
              refine x_iinc_3 dX4_firstEngine_48 (by decide) rfl ?_
              refine x_goto (tgt := 4) dX4_firstEngine_51 (by decide) ?_
              refine KK _ (by omega) ?_
              rw [hs]
              first | exact (if_pos ⟨by omega, by omega⟩).symm | exact (if_neg (by omega)).symm
set_option maxRecDepth 100000 in
set_option maxHeartbeats 4000000 in
theorem s4_firstEngine (top : Int) (ht : top = 0 ∨ top = 1) (μ : xM) (hB : TB4 μ) : X E0 shTr 0 yX4_firstEngine cX4_firstEngine 4 (some .int) 0 [some (.inr (.inl 0)), some (.inl top), none, none] [] μ (x_Q (tE μ top) μ) := by
  have h7 := hB.1
  refine x_iconst dX4_firstEngine_0 ?_
  refine x_istore_2 dX4_firstEngine_1 (by decide) rfl ?_
  refine x_iconst dX4_firstEngine_2 ?_
  refine x_istore_3 dX4_firstEngine_3 (by decide) rfl ?_
  exact l4_firstEngine top ht μ hB _ 0 (by omega) (by omega) (Nat.lt_succ_self _)
set_option maxRecDepth 100000 in
set_option maxHeartbeats 4000000 in
theorem s4_moveEngine (f w : Int) (hf : f = 0 ∨ f = 1) (μ : xM) (hB : TB4 μ) : X E0 shTr 1 yX4_moveEngine cX4_moveEngine 4 none 0 [some (.inr (.inl 0)), some (.inl f), some (.inl w), none] [] μ (x_Qn (mvE μ f w)) := by
  have ht := tE_in hB f
  refine x_aload_n (i := 0) dX4_moveEngine_0 rfl rfl ?_
  refine x_iload_n (i := 1) dX4_moveEngine_1 rfl rfl ?_
  refine x_cIp0_1 lk_RX4_83 xm_X4_firstEngine dX4_moveEngine_2 (s4_firstEngine _ hf _ hB) ?_
  refine x_istore_3 dX4_moveEngine_5 (by decide) rfl ?_
  refine x_iload_n (i := 3) dX4_moveEngine_6 rfl rfl ?_
  refine x_if_lt (tgt := 32) dX4_moveEngine_7 (by decide) (by first | (unfold x_in; omega) | (unfold x_in; decide)) (fun c1 => ?_) (fun c1 => ?_)
  · exact x_vret dX4_moveEngine_32 rfl ⟨rfl, by unfold mvE; first | exact (if_pos (by omega)).symm | (rw [if_neg (by omega), show (1 : Int) - f = 0 by omega]; done) | (rw [if_neg (by omega), show (1 : Int) - f = 1 by omega]; done)⟩
  · refine x_aload_n (i := 0) dX4_moveEngine_10 rfl rfl ?_
    refine x_getR xf_RX4_21 dX4_moveEngine_11 rfl rfl ?_
    refine x_iload_n (i := 3) dX4_moveEngine_14 rfl rfl ?_
    refine x_iload_n (i := 1) dX4_moveEngine_15 rfl rfl ?_
    refine x_if_ne (tgt := 23) dX4_moveEngine_16 (by decide) (by first | (unfold x_in; omega) | (unfold x_in; decide)) (fun c2 => ?_) (fun c2 => ?_)
    · refine x_iconst dX4_moveEngine_23 ?_
      refine x_zast dX4_moveEngine_24 rfl (by decide) (by first | omega | decide) (by first | omega | decide) (by first | exact Or.inl rfl | exact Or.inr rfl | omega) ?_
      refine x_aload_n (i := 0) dX4_moveEngine_25 rfl rfl ?_
      refine x_getR xf_RX4_18 dX4_moveEngine_26 rfl rfl ?_
      refine x_iload_n (i := 3) dX4_moveEngine_29 rfl rfl ?_
      refine x_iload_n (i := 2) dX4_moveEngine_30 rfl rfl ?_
      refine x_iast dX4_moveEngine_31 rfl (by decide) (by first | omega | decide) (by first | omega | decide) ?_
      exact x_vret dX4_moveEngine_32 rfl ⟨rfl, by unfold mvE; first | exact (if_pos (by omega)).symm | (rw [if_neg (by omega), show (1 : Int) - f = 0 by omega]; done) | (rw [if_neg (by omega), show (1 : Int) - f = 1 by omega]; done)⟩
    · refine x_iconst dX4_moveEngine_19 ?_
      refine x_goto (tgt := 24) dX4_moveEngine_20 (by decide) ?_
      refine x_zast dX4_moveEngine_24 rfl (by decide) (by first | omega | decide) (by first | omega | decide) (by first | exact Or.inl rfl | exact Or.inr rfl | omega) ?_
      refine x_aload_n (i := 0) dX4_moveEngine_25 rfl rfl ?_
      refine x_getR xf_RX4_18 dX4_moveEngine_26 rfl rfl ?_
      refine x_iload_n (i := 3) dX4_moveEngine_29 rfl rfl ?_
      refine x_iload_n (i := 2) dX4_moveEngine_30 rfl rfl ?_
      refine x_iast dX4_moveEngine_31 rfl (by decide) (by first | omega | decide) (by first | omega | decide) ?_
      exact x_vret dX4_moveEngine_32 rfl ⟨rfl, by unfold mvE; first | exact (if_pos (by omega)).symm | (rw [if_neg (by omega), show (1 : Int) - f = 0 by omega]; done) | (rw [if_neg (by omega), show (1 : Int) - f = 1 by omega]; done)⟩
set_option maxRecDepth 100000 in
set_option maxHeartbeats 4000000 in
theorem s4_lookAhead (μ : xM) (hB : TB4 μ) : X E0 shTr 1 yX4_lookAhead cX4_lookAhead 5 none 0 [some (.inr (.inl 0)), none, none, none, none] [] μ (x_Qn (lkA μ)) := by
  have ht0 := tE_in hB 0
  have ht1 := tE_in hB 1
  have d10 := hB.2.2.2.1 10 (by omega) (by omega)
  have d11 := hB.2.2.2.1 11 (by omega) (by omega)
  have d12 := hB.2.2.2.1 12 (by omega) (by omega)
  have d13 := hB.2.2.2.1 13 (by omega) (by omega)
  have d14 := hB.2.2.2.1 14 (by omega) (by omega)
  have h6 := hB.2.1
  have hF : 0 ≤ tFt μ ∧ tFt μ ≤ 1000000 := by
    unfold tFt
    split
    · omega
    · have := (hB.2.2.1 (tE μ 0).toNat (by omega)).2
      omega
  have hU : 0 ≤ tU μ ∧ tU μ ≤ 30000 := by
    unfold tU
    split <;> omega
  have hD : 0 ≤ tD μ ∧ tD μ ≤ 30000 := by
    unfold tD
    split <;> omega
  have hs1 : 0 ≤ tE μ 1 → 0 ≤ μ 3 (tE μ 1).toNat ∧ μ 3 (tE μ 1).toNat ≤ 30000 := fun q => (hB.2.2.1 (tE μ 1).toNat (by omega)).2
  have K151 : ∀ w, w = tDF μ → X E0 shTr 1 yX4_lookAhead cX4_lookAhead 5 none 151 [some (.inr (.inl 0)), some (.inl (tE μ 0)), some (.inl (tE μ 1)), some (.inl (tU μ)), some (.inl (tD μ))] [.inl w, .inr (.inl 0)] (x_st (x_st (x_st (x_st μ 0 2 (tFt μ)) 1 0 (tU μ)) 1 1 (max (tU μ) (tFt μ))) 1 2 (max (max (tU μ) (tFt μ)) (max (μ 0 10) (μ 0 11)))) (x_Qn (lkA μ)) := by
    intro w hw
    refine x_putI xp_RX4_91 dX4_lookAhead_151 rfl rfl ?_
    exact x_vret dX4_lookAhead_154 rfl ⟨rfl, by rw [hw]; rfl⟩
  have K83 : ∀ u d, u = tU μ → d = tD μ → X E0 shTr 1 yX4_lookAhead cX4_lookAhead 5 none 83 [some (.inr (.inl 0)), some (.inl (tE μ 0)), some (.inl (tE μ 1)), some (.inl u), some (.inl d)] [] (x_st μ 0 2 (tFt μ)) (x_Qn (lkA μ)) := by
    intro u d hu hd
    subst hu
    subst hd
    refine x_aload_n (i := 0) dX4_lookAhead_83 rfl rfl ?_
    refine x_getR xf_RX4_9 dX4_lookAhead_84 rfl rfl ?_
    refine x_iconst dX4_lookAhead_87 ?_
    refine x_iload_n (i := 3) dX4_lookAhead_88 rfl rfl ?_
    refine x_iastK (K := 0) dX4_lookAhead_89 rfl rfl (by decide) (by decide) ?_
    refine x_aload_n (i := 0) dX4_lookAhead_90 rfl rfl ?_
    refine x_getR xf_RX4_9 dX4_lookAhead_91 rfl rfl ?_
    refine x_iconst dX4_lookAhead_94 ?_
    refine x_iload_n (i := 3) dX4_lookAhead_95 rfl rfl ?_
    refine x_aload_n (i := 0) dX4_lookAhead_96 rfl rfl ?_
    refine x_getI xf_RX4_88 dX4_lookAhead_97 rfl rfl ?_
    try simp (decide := true) only [x_st_at, ↓reduceIte, if_true, if_false]
    refine x_mmax lk_RX4_73 dX4_lookAhead_100 (by decide) (by exact Nat.le_of_ble_eq_true rfl) (by first | (unfold x_in; omega) | (unfold x_in; decide) | (have g := hs1 (by omega); unfold x_in; omega)) (by first | (unfold x_in; omega) | (unfold x_in; decide) | (have g := hs1 (by omega); unfold x_in; omega)) ?_
    refine x_iastK (K := 1) dX4_lookAhead_103 rfl rfl (by decide) (by decide) ?_
    refine x_aload_n (i := 0) dX4_lookAhead_104 rfl rfl ?_
    refine x_getR xf_RX4_9 dX4_lookAhead_105 rfl rfl ?_
    refine x_iconst dX4_lookAhead_108 ?_
    refine x_aload_n (i := 0) dX4_lookAhead_109 rfl rfl ?_
    refine x_getR xf_RX4_9 dX4_lookAhead_110 rfl rfl ?_
    refine x_iconst dX4_lookAhead_113 ?_
    refine x_ialdK (K := 1) dX4_lookAhead_114 rfl rfl (by decide) (by decide) ?_
    try simp (decide := true) only [x_st_at, ↓reduceIte, if_true, if_false]
    refine x_aload_n (i := 0) dX4_lookAhead_115 rfl rfl ?_
    refine x_getI xf_RX4_55 dX4_lookAhead_116 rfl rfl ?_
    try simp (decide := true) only [x_st_at, ↓reduceIte, if_true, if_false]
    refine x_aload_n (i := 0) dX4_lookAhead_119 rfl rfl ?_
    refine x_getI xf_RX4_58 dX4_lookAhead_120 rfl rfl ?_
    try simp (decide := true) only [x_st_at, ↓reduceIte, if_true, if_false]
    refine x_mmax lk_RX4_73 dX4_lookAhead_123 (by decide) (by exact Nat.le_of_ble_eq_true rfl) (by first | (unfold x_in; omega) | (unfold x_in; decide) | (have g := hs1 (by omega); unfold x_in; omega)) (by first | (unfold x_in; omega) | (unfold x_in; decide) | (have g := hs1 (by omega); unfold x_in; omega)) ?_
    refine x_mmax lk_RX4_73 dX4_lookAhead_126 (by decide) (by exact Nat.le_of_ble_eq_true rfl) (by first | (unfold x_in; omega) | (unfold x_in; decide) | (have g := hs1 (by omega); unfold x_in; omega)) (by first | (unfold x_in; omega) | (unfold x_in; decide) | (have g := hs1 (by omega); unfold x_in; omega)) ?_
    refine x_iastK (K := 2) dX4_lookAhead_129 rfl rfl (by decide) (by decide) ?_
    refine x_aload_n (i := 0) dX4_lookAhead_130 rfl rfl ?_
    refine x_iload_n (i := 2) dX4_lookAhead_131 rfl rfl ?_
    refine x_if_ge (tgt := 140) dX4_lookAhead_132 (by decide) (by first | (unfold x_in; omega) | (unfold x_in; decide) | (have g := hs1 (by omega); unfold x_in; omega)) (fun c1 => ?_) (fun c1 => ?_)
    · refine x_iload dX4_lookAhead_140 rfl ?_
      refine x_aload_n (i := 0) dX4_lookAhead_142 rfl rfl ?_
      refine x_getR xf_RX4_18 dX4_lookAhead_143 rfl rfl ?_
      refine x_iload_n (i := 2) dX4_lookAhead_146 rfl rfl ?_
      refine x_iald dX4_lookAhead_147 rfl (by decide) (by first | omega | decide) (by first | omega | decide) ?_
      try simp (decide := true) only [x_st_at, ↓reduceIte, if_true, if_false]
      refine x_mmax lk_RX4_73 dX4_lookAhead_148 (by decide) (by exact Nat.le_of_ble_eq_true rfl) (by first | (unfold x_in; omega) | (unfold x_in; decide) | (have g := hs1 (by omega); unfold x_in; omega)) (by first | (unfold x_in; omega) | (unfold x_in; decide) | (have g := hs1 (by omega); unfold x_in; omega)) ?_
      refine K151 _ ?_
      unfold tDF
      first | exact (if_pos (by omega)).symm | exact (if_neg (by omega)).symm
    · refine x_ldc (n := 1000000) dX4_lookAhead_135 ck_RX4_87 rfl ?_
      refine x_goto (tgt := 151) dX4_lookAhead_137 (by decide) ?_
      refine K151 _ ?_
      unfold tDF
      first | exact (if_pos (by omega)).symm | exact (if_neg (by omega)).symm
  have K28 : ∀ w, w = tFt μ → X E0 shTr 1 yX4_lookAhead cX4_lookAhead 5 none 28 [some (.inr (.inl 0)), some (.inl (tE μ 0)), some (.inl (tE μ 1)), none, none] [.inl w, .inr (.inl 0)] μ (x_Qn (lkA μ)) := by
    intro w hw
    subst hw
    refine x_putI xp_RX4_88 dX4_lookAhead_28 rfl rfl ?_
    refine x_aload_n (i := 0) dX4_lookAhead_31 rfl rfl ?_
    refine x_getI xf_RX4_61 dX4_lookAhead_32 rfl rfl ?_
    try simp (decide := true) only [x_st_at, ↓reduceIte, if_true, if_false]
    refine x_aload_n (i := 0) dX4_lookAhead_35 rfl rfl ?_
    refine x_getI xf_RX4_64 dX4_lookAhead_36 rfl rfl ?_
    try simp (decide := true) only [x_st_at, ↓reduceIte, if_true, if_false]
    refine x_mmax lk_RX4_73 dX4_lookAhead_39 (by decide) (by exact Nat.le_of_ble_eq_true rfl) (by first | (unfold x_in; omega) | (unfold x_in; decide)) (by first | (unfold x_in; omega) | (unfold x_in; decide)) ?_
    refine x_istore_3 dX4_lookAhead_42 (by decide) rfl ?_
    refine x_aload_n (i := 0) dX4_lookAhead_43 rfl rfl ?_
    refine x_getI xf_RX4_61 dX4_lookAhead_44 rfl rfl ?_
    try simp (decide := true) only [x_st_at, ↓reduceIte, if_true, if_false]
    refine x_aload_n (i := 0) dX4_lookAhead_47 rfl rfl ?_
    refine x_getI xf_RX4_67 dX4_lookAhead_48 rfl rfl ?_
    try simp (decide := true) only [x_st_at, ↓reduceIte, if_true, if_false]
    refine x_mmax lk_RX4_73 dX4_lookAhead_51 (by decide) (by exact Nat.le_of_ble_eq_true rfl) (by first | (unfold x_in; omega) | (unfold x_in; decide)) (by first | (unfold x_in; omega) | (unfold x_in; decide)) ?_
    refine x_istore_4 dX4_lookAhead_54 (by decide) rfl ?_
    refine x_aload_n (i := 0) dX4_lookAhead_56 rfl rfl ?_
    refine x_getI xf_RX4_47 dX4_lookAhead_57 rfl rfl ?_
    try simp (decide := true) only [x_st_at, ↓reduceIte, if_true, if_false]
    refine x_if_eq (tgt := 83) dX4_lookAhead_60 (by decide) (by first | (unfold x_in; omega) | (unfold x_in; decide)) (fun c1 => ?_) (fun c1 => ?_)
    · refine K83 _ _ ?_ ?_
      · unfold tU
        first | exact (if_pos (by omega)).symm | exact (if_neg (by omega)).symm
      · unfold tD
        first | exact (if_pos (by omega)).symm | exact (if_neg (by omega)).symm
    · refine x_iload_n (i := 3) dX4_lookAhead_63 rfl rfl ?_
      refine x_aload_n (i := 0) dX4_lookAhead_64 rfl rfl ?_
      refine x_getI xf_RX4_58 dX4_lookAhead_65 rfl rfl ?_
      try simp (decide := true) only [x_st_at, ↓reduceIte, if_true, if_false]
      refine x_mmax lk_RX4_73 dX4_lookAhead_68 (by decide) (by exact Nat.le_of_ble_eq_true rfl) (by first | (unfold x_in; omega) | (unfold x_in; decide)) (by first | (unfold x_in; omega) | (unfold x_in; decide)) ?_
      refine x_istore_3 dX4_lookAhead_71 (by decide) rfl ?_
      refine x_iload dX4_lookAhead_72 rfl ?_
      refine x_aload_n (i := 0) dX4_lookAhead_74 rfl rfl ?_
      refine x_getI xf_RX4_55 dX4_lookAhead_75 rfl rfl ?_
      try simp (decide := true) only [x_st_at, ↓reduceIte, if_true, if_false]
      refine x_mmax lk_RX4_73 dX4_lookAhead_78 (by decide) (by exact Nat.le_of_ble_eq_true rfl) (by first | (unfold x_in; omega) | (unfold x_in; decide)) (by first | (unfold x_in; omega) | (unfold x_in; decide)) ?_
      refine x_istore_4 dX4_lookAhead_81 (by decide) rfl ?_
      refine K83 _ _ ?_ ?_
      · unfold tU
        first | exact (if_pos (by omega)).symm | exact (if_neg (by omega)).symm
      · unfold tD
        first | exact (if_pos (by omega)).symm | exact (if_neg (by omega)).symm
  refine x_aload_n (i := 0) dX4_lookAhead_0 rfl rfl ?_
  refine x_iconst dX4_lookAhead_1 ?_
  refine x_cIp0_1 lk_RX4_83 xm_X4_firstEngine dX4_lookAhead_2 (s4_firstEngine 0 (Or.inl rfl) _ hB) ?_
  refine x_istore_1 dX4_lookAhead_5 (by decide) rfl ?_
  refine x_aload_n (i := 0) dX4_lookAhead_6 rfl rfl ?_
  refine x_iconst dX4_lookAhead_7 ?_
  refine x_cIp0_1 lk_RX4_83 xm_X4_firstEngine dX4_lookAhead_8 (s4_firstEngine 1 (Or.inr rfl) _ hB) ?_
  refine x_istore_2 dX4_lookAhead_11 (by decide) rfl ?_
  refine x_aload_n (i := 0) dX4_lookAhead_12 rfl rfl ?_
  refine x_iload_n (i := 1) dX4_lookAhead_13 rfl rfl ?_
  refine x_if_ge (tgt := 22) dX4_lookAhead_14 (by decide) (by first | (unfold x_in; omega) | (unfold x_in; decide)) (fun c1 => ?_) (fun c1 => ?_)
  · refine x_aload_n (i := 0) dX4_lookAhead_22 rfl rfl ?_
    refine x_getR xf_RX4_18 dX4_lookAhead_23 rfl rfl ?_
    refine x_iload_n (i := 1) dX4_lookAhead_26 rfl rfl ?_
    refine x_iald dX4_lookAhead_27 rfl (by decide) (by first | omega | decide) (by first | omega | decide) ?_
    refine K28 _ ?_
    unfold tFt
    first | exact (if_pos (by omega)).symm | exact (if_neg (by omega)).symm
  · refine x_ldc (n := 1000000) dX4_lookAhead_17 ck_RX4_87 rfl ?_
    refine x_goto (tgt := 28) dX4_lookAhead_19 (by decide) ?_
    refine K28 _ ?_
    unfold tFt
    first | exact (if_pos (by omega)).symm | exact (if_neg (by omega)).symm
set_option maxRecDepth 100000 in
set_option maxHeartbeats 4000000 in
theorem s4_goUp (k m : Int) (hk : 0 ≤ k ∧ k ≤ 2) (hm : 0 ≤ m ∧ m ≤ 10000) (μ : xM) (hB : TB4 μ) : X E0 shTr 2 yX4_goUp cX4_goUp 4 none 0 [some (.inr (.inl 0)), some (.inl k), some (.inl m), none] [] μ (x_Qn (lkA (guT2 μ k m))) := by
  have e1 := hB.2.2.2.2.1 k.toNat (by omega)
  have d10 := hB.2.2.2.1 10 (by omega) (by omega)
  have K61 : ∀ ν, ν = guT2 μ k m → X E0 shTr 2 yX4_goUp cX4_goUp 4 none 61 [some (.inr (.inl 0)), some (.inl k), some (.inl m), some (.inl (m + μ 2 k.toNat))] [] ν (x_Qn (lkA (guT2 μ k m))) := by
    intro ν hν
    subst hν
    refine x_aload_n (i := 0) dX4_goUp_61 rfl rfl ?_
    refine x_cVf0_0 lk_RX4_70 xm_X4_lookAhead dX4_goUp_62 (s4_lookAhead _ (hB.gu2 hk hm)) ?_
    exact x_vret dX4_goUp_65 rfl ⟨rfl, by rfl⟩
  have K51 : ∀ ν, ν = guT1 μ k m → X E0 shTr 2 yX4_goUp cX4_goUp 4 none 51 [some (.inr (.inl 0)), some (.inl k), some (.inl m), some (.inl (m + μ 2 k.toNat))] [] ν (x_Qn (lkA (guT2 μ k m))) := by
    intro ν hν
    subst hν
    refine x_iload_n (i := 1) dX4_goUp_51 rfl rfl ?_
    refine x_if_eq (tgt := 61) dX4_goUp_52 (by decide) (by first | (unfold x_in; omega) | (unfold x_in; decide)) (fun c1 => ?_) (fun c1 => ?_)
    · refine K61 _ ?_
      unfold guT2
      first | exact (if_pos (by omega)).symm | exact (if_neg (by omega)).symm
    · refine x_aload_n (i := 0) dX4_goUp_55 rfl rfl ?_
      refine x_iconst dX4_goUp_56 ?_
      refine x_iload_n (i := 3) dX4_goUp_57 rfl rfl ?_
      refine x_cVf0_2 lk_RX4_79 xm_X4_moveEngine dX4_goUp_58 (s4_moveEngine 0 _ (Or.inl rfl) _ (hB.gu1 hk hm)) ?_
      refine K61 _ ?_
      unfold guT2
      first | exact (if_pos (by omega)).symm | exact (if_neg (by omega)).symm
  refine x_iload_n (i := 1) dX4_goUp_0 rfl rfl ?_
  refine x_if_lt (tgt := 9) dX4_goUp_1 (by decide) (by first | (unfold x_in; omega) | (unfold x_in; decide)) (fun c1 => ?_) (fun c1 => ?_)
  · exact absurd c1 (by omega)
  · refine x_iload_n (i := 1) dX4_goUp_4 rfl rfl ?_
    refine x_iconst dX4_goUp_5 ?_
    refine x_icmp_le (tgt := 10) dX4_goUp_6 (by decide) (by first | (unfold x_in; omega) | (unfold x_in; decide)) (by first | (unfold x_in; omega) | (unfold x_in; decide)) (fun c2 => ?_) (fun c2 => ?_)
    · refine x_iload_n (i := 2) dX4_goUp_10 rfl rfl ?_
      refine x_aload_n (i := 0) dX4_goUp_11 rfl rfl ?_
      refine x_getR xf_RX4_15 dX4_goUp_12 rfl rfl ?_
      refine x_iload_n (i := 1) dX4_goUp_15 rfl rfl ?_
      refine x_iald dX4_goUp_16 rfl (by decide) (by first | omega | decide) (by first | omega | decide) ?_
      refine x_iadd dX4_goUp_17 ?_
      refine x_istore_3 dX4_goUp_18 (by decide) rfl ?_
      refine x_aload_n (i := 0) dX4_goUp_19 rfl rfl ?_
      refine x_aload_n (i := 0) dX4_goUp_20 rfl rfl ?_
      refine x_getI xf_RX4_55 dX4_goUp_21 rfl rfl ?_
      refine x_iload_n (i := 3) dX4_goUp_24 rfl rfl ?_
      refine x_mmax lk_RX4_73 dX4_goUp_25 (by decide) (by exact Nat.le_of_ble_eq_true rfl) (by first | (unfold x_in; omega) | (unfold x_in; decide)) (by first | (unfold x_in; omega) | (unfold x_in; decide)) ?_
      refine x_putI xp_RX4_55 dX4_goUp_28 rfl rfl ?_
      refine x_aload_n (i := 0) dX4_goUp_31 rfl rfl ?_
      refine x_iload_n (i := 2) dX4_goUp_32 rfl rfl ?_
      refine x_aload_n (i := 0) dX4_goUp_33 rfl rfl ?_
      refine x_getI xf_RX4_41 dX4_goUp_34 rfl rfl ?_
      try simp (decide := true) only [x_st_at, ↓reduceIte, if_true, if_false]
      refine x_iadd dX4_goUp_37 ?_
      refine x_putI xp_RX4_64 dX4_goUp_38 rfl rfl ?_
      refine x_iload_n (i := 1) dX4_goUp_41 rfl rfl ?_
      refine x_iconst dX4_goUp_42 ?_
      refine x_icmp_ne (tgt := 51) dX4_goUp_43 (by decide) (by first | (unfold x_in; omega) | (unfold x_in; decide)) (by first | (unfold x_in; omega) | (unfold x_in; decide)) (fun c3 => ?_) (fun c3 => ?_)
      · refine K51 _ ?_
        unfold guT1
        first | exact (if_pos (by omega)).symm | exact (if_neg (by omega)).symm
      · refine x_aload_n (i := 0) dX4_goUp_46 rfl rfl ?_
        refine x_iload_n (i := 3) dX4_goUp_47 rfl rfl ?_
        refine x_putI xp_RX4_61 dX4_goUp_48 rfl rfl ?_
        refine K51 _ ?_
        unfold guT1
        first | exact (if_pos (by omega)).symm | exact (if_neg (by omega)).symm
    · exact absurd c2 (by omega)
set_option maxRecDepth 100000 in
set_option maxHeartbeats 4000000 in
theorem s4_comeDown (m : Int) (hm : 0 ≤ m ∧ m ≤ 10000) (μ : xM) (hB : TB4 μ) : X E0 shTr 2 yX4_comeDown cX4_comeDown 2 none 0 [some (.inr (.inl 0)), some (.inl m)] [] μ (x_Qn (lkA (cdT2 μ m))) := by
  have f := hB.2.2.2.2.2.1
  refine x_aload_n (i := 0) dX4_comeDown_0 rfl rfl ?_
  refine x_iload_n (i := 1) dX4_comeDown_1 rfl rfl ?_
  refine x_aload_n (i := 0) dX4_comeDown_2 rfl rfl ?_
  refine x_getI xf_RX4_34 dX4_comeDown_3 rfl rfl ?_
  refine x_iadd dX4_comeDown_6 ?_
  refine x_putI xp_RX4_58 dX4_comeDown_7 rfl rfl ?_
  refine x_aload_n (i := 0) dX4_comeDown_10 rfl rfl ?_
  refine x_iload_n (i := 1) dX4_comeDown_11 rfl rfl ?_
  refine x_aload_n (i := 0) dX4_comeDown_12 rfl rfl ?_
  refine x_getI xf_RX4_41 dX4_comeDown_13 rfl rfl ?_
  try simp (decide := true) only [x_st_at, ↓reduceIte, if_true, if_false]
  refine x_iadd dX4_comeDown_16 ?_
  refine x_putI xp_RX4_67 dX4_comeDown_17 rfl rfl ?_
  refine x_aload_n (i := 0) dX4_comeDown_20 rfl rfl ?_
  refine x_iconst dX4_comeDown_21 ?_
  refine x_aload_n (i := 0) dX4_comeDown_22 rfl rfl ?_
  refine x_getI xf_RX4_58 dX4_comeDown_23 rfl rfl ?_
  try simp (decide := true) only [x_st_at, ↓reduceIte, if_true, if_false]
  refine x_cVf0_2 lk_RX4_79 xm_X4_moveEngine dX4_comeDown_26 (s4_moveEngine 1 _ (Or.inr rfl) _ (hB.cd0 hm)) ?_
  refine x_aload_n (i := 0) dX4_comeDown_29 rfl rfl ?_
  refine x_cVf0_0 lk_RX4_70 xm_X4_lookAhead dX4_comeDown_30 (s4_lookAhead _ ((hB.cd0 hm).mv (Or.inr rfl) (by omega))) ?_
  exact x_vret dX4_comeDown_33 rfl ⟨rfl, by rfl⟩
