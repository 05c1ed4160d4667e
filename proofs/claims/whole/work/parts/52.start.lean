/-! THE CLASS, Day: findTurns, start, run -/
/-- the order told has no train twice -/
def DO (h : Nat → Int) : Prop := ∀ i j : Nat, i < j → (j : Int) < h 3 → h (39 + i) ≠ h (39 + j)
def oTN (h : Nat → Int) (t : Int) : Nat → Int
  | 0 => 8
  | k + 1 => if h (39 + k) = t then (k : Int) else oTN h t k
theorem oTN_s (h : Nat → Int) (t : Int) {p : Int} (hp : 0 ≤ p) : oTN h t (p + 1).toNat = if h (39 + p).toNat = t then p else oTN h t p.toNat := by
  rw [nat_succ hp, oTN, nat_back hp, show (39 + p).toNat = 39 + p.toNat by omega]
theorem oTN_none {h : Nat → Int} {t : Int} : ∀ n : Nat, (∀ i, i < n → h (39 + i) ≠ t) → oTN h t n = 8
  | 0, _ => rfl
  | n + 1, q => by
    rw [oTN, if_neg (q n (by omega))]
    exact oTN_none n (fun i hi => q i (by omega))
theorem oTN_at {h : Nat → Int} {t : Int} {j : Nat} (hj : h (39 + j) = t) : ∀ n : Nat, j < n → (∀ i, j < i → i < n → h (39 + i) ≠ t) → oTN h t n = j
  | 0, q, _ => absurd q (Nat.not_lt_zero j)
  | n + 1, q, r => by
    rw [oTN]
    by_cases e : j = n
    · rw [← e, if_pos hj]
    · rw [if_neg (r n (by omega) (by omega))]
      exact oTN_at hj n (by omega) (fun i h1 h2 => r i h1 (by omega))
theorem mPlN_none {h : Nat → Int} {t : Int} : ∀ (n k : Nat), (∀ i, k ≤ i → i < k + n → h (39 + i) ≠ t) → mPlN h t n (k : Int) = 8
  | 0, _, _ => rfl
  | n + 1, k, q => by
    rw [mPlN, show (39 + (k : Int)).toNat = 39 + k by omega, if_neg (q k (by omega) (by omega))]
    have := mPlN_none n (k + 1) (fun i h1 h2 => q i (by omega) (by omega))
    rw [show ((k + 1 : Nat) : Int) = (k : Int) + 1 by omega] at this
    exact this
theorem mPlN_at {h : Nat → Int} {t : Int} {j : Nat} (hj : h (39 + j) = t) : ∀ (n k : Nat), k ≤ j → j < k + n → (∀ i, k ≤ i → i < j → h (39 + i) ≠ t) → mPlN h t n (k : Int) = j
  | 0, k, q, q2, _ => by omega
  | n + 1, k, q, q2, r => by
    rw [mPlN, show (39 + (k : Int)).toNat = 39 + k by omega]
    by_cases e : k = j
    · rw [e, if_pos hj]
    · rw [if_neg (r k (by omega) (by omega))]
      have := mPlN_at hj n (k + 1) (by omega) (by omega) (fun i h1 h2 => r i (by omega) h2)
      rw [show ((k + 1 : Nat) : Int) = (k : Int) + 1 by omega] at this
      exact this
theorem oTN_pl {h : Nat → Int} (hO : DO h) (t : Int) : oTN h t (h 3).toNat = mPl h t := by
  unfold mPl
  by_cases hx : ∃ j : Nat, j < (h 3).toNat ∧ h (39 + j) = t
  · obtain ⟨j, h1, h2⟩ := hx
    rw [oTN_at h2 _ h1 (fun i q1 q2 e => hO j i q1 (by omega) (h2.trans e.symm))]
    exact (mPlN_at h2 (h 3).toNat 0 (by omega) (by omega) (fun i q1 q2 e => hO i j q2 (by omega) (e.trans h2.symm))).symm
  · have hn : ∀ i, i < (h 3).toNat → h (39 + i) ≠ t := fun i q e => hx ⟨i, q, e⟩
    rw [oTN_none _ hn]
    exact (mPlN_none (h 3).toNat 0 (fun i _ q => hn i (by omega))).symm
def fT (h : Nat → Int) (t : Int) : Int := if h 11 = 1 then -mWt h t else if h 11 = 2 then mWt h t else if h 11 = 3 then 8 else 0
def fT2 (h : Nat → Int) (t : Int) (k : Nat) : Int := if h 11 = 3 then oTN h t k else fT h t
set_option maxRecDepth 100000 in
set_option maxHeartbeats 4000000 in
theorem la_findTurns (μ : xM) (hI : MI (hOf μ 9)) (z3 : Option xA) (Q : Option xA → xM → Prop) (K : ∀ ν z, (∀ k, k ≠ 3 → ν k = μ k) → (∀ t, 0 ≤ t → t < μ 9 3 → ν 3 t.toNat = fT (hOf μ 9) t) → X E0 shDay 1 yX0_findTurns cX0_findTurns 4 none 113 [some (.inr (.inl 0)), some (.inl (μ 14 7)), some (.inl z), z3] [] ν (Q)) : ∀ (n : Nat) (p : Int) (ν : xM), 0 ≤ p → p ≤ μ 9 3 → (μ 9 3 - p).toNat < n → (∀ k, k ≠ 3 → ν k = μ k) → (∀ t, 0 ≤ t → t < p → ν 3 t.toNat = fT (hOf μ 9) t) → X E0 shDay 1 yX0_findTurns cX0_findTurns 4 none 13 [some (.inr (.inl 0)), some (.inl (μ 14 7)), some (.inl p), z3] [] ν (Q) := by
  have h8 : 0 ≤ μ 9 3 ∧ μ 9 3 ≤ 8 := hI.2.1
  have h11 : 0 ≤ μ 14 7 ∧ μ 14 7 ≤ 3 := hI.2.2.2.2.2.2.2.2.2.2.2.1
  have e11 : hOf μ 9 11 = μ 14 7 := rfl
  intro n
  induction n with
  | zero => intro p ν _ _ h; omega
  | succ n ih =>
    intro p ν hp hp2 hn hk ht
    have n9 : ν 9 3 = μ 9 3 := by rw [hk 9 (by decide)]
    have n13 : p < μ 9 3 → ν 13 p.toNat = mWt (hOf μ 9) p := by
      intro q
      rw [hk 13 (by decide)]
      exact (hOf_wt μ 9 hp (by omega)).symm
    have KK : ∀ w, p < μ 9 3 → w = fT (hOf μ 9) p → X E0 shDay 1 yX0_findTurns cX0_findTurns 4 none 13 [some (.inr (.inl 0)), some (.inl (μ 14 7)), some (.inl (p + 1)), z3] [] (x_st ν 3 p.toNat w) (Q) := by
      intro w hl hw
      refine ih (p + 1) _ (by omega) (by omega) (by omega) (fun k q => ?_) (fun t t0 t1 => ?_)
      · rw [← hk k q]
        exact funext fun x => x_st_ne (Or.inl q)
      · by_cases e : t = p
        · rw [e, x_st_eq, hw]
        · rw [x_st_ne (Or.inr (by omega))]
          exact ht t t0 (by omega)
    have KE : p = μ 9 3 → X E0 shDay 1 yX0_findTurns cX0_findTurns 4 none 113 [some (.inr (.inl 0)), some (.inl (μ 14 7)), some (.inl p), z3] [] ν (Q) := by
      intro q
      exact K ν p hk (fun t t0 t1 => ht t t0 (by omega))
    have v1 : μ 14 7 = 1 → p < μ 9 3 → -ν 13 p.toNat = fT (hOf μ 9) p := by
      intro q r
      unfold fT
      rw [e11, if_pos q, n13 r]
    have v2 : μ 14 7 = 2 → p < μ 9 3 → ν 13 p.toNat = fT (hOf μ 9) p := by
      intro q r
      unfold fT
      rw [e11, if_neg (by omega), if_pos q, n13 r]
    have v3 : μ 14 7 = 3 → (8 : Int) = fT (hOf μ 9) p := by
      intro q
      unfold fT
      rw [e11, if_neg (by omega), if_neg (by omega), if_pos q]
    have v0 : μ 14 7 = 0 → (0 : Int) = fT (hOf μ 9) p := by
      intro q
      unfold fT
      rw [e11, if_neg (by omega), if_neg (by omega), if_neg (by omega)]
    clear ih ht hk n13 e11 K
    refine x_iload_n (i := 2) dX0_findTurns_13 rfl rfl ?_
    refine x_aload_n (i := 0) dX0_findTurns_14 rfl rfl ?_
    refine x_getR xf_RX0_12 dX0_findTurns_15 rfl rfl ?_
    refine x_getI xf_RX0_46 dX0_findTurns_18 rfl rfl ?_
    refine x_icmp_ge (tgt := 113) dX0_findTurns_21 (by decide) (by first | (unfold x_in; omega) | (unfold x_in; decide)) (by first | (unfold x_in; omega) | (unfold x_in; decide)) (fun c1 => ?_) (fun c1 => ?_)
    · exact KE (by omega)
    · refine x_iload_n (i := 1) dX0_findTurns_24 rfl rfl ?_
      refine x_tab3 (td := 100) (t0 := 52) (t1 := 71) (t2 := 89) dX0_findTurns_25 (by first | (unfold x_in; omega) | (unfold x_in; decide)) (by decide) (by decide) (by decide) (by decide) (by decide) (fun c2 => ?_) (fun c2 => ?_) (fun c2 => ?_) (fun c2 => ?_)
      · refine x_aload_n (i := 0) dX0_findTurns_52 rfl rfl ?_
        refine x_getR xf_RX0_32 dX0_findTurns_53 rfl rfl ?_
        refine x_iload_n (i := 2) dX0_findTurns_56 rfl rfl ?_
        refine x_aload_n (i := 0) dX0_findTurns_57 rfl rfl ?_
        refine x_getR xf_RX0_12 dX0_findTurns_58 rfl rfl ?_
        refine x_getR xf_RX0_53 dX0_findTurns_61 rfl rfl ?_
        refine x_iload_n (i := 2) dX0_findTurns_64 rfl rfl ?_
        refine x_iald dX0_findTurns_65 rfl (by decide) (by first | omega | decide) (by first | omega | decide) ?_
        refine x_ineg dX0_findTurns_66 ?_
        refine x_iast dX0_findTurns_67 rfl (by decide) (by first | omega | decide) (by first | omega | decide) ?_
        refine x_goto (tgt := 107) dX0_findTurns_68 (by decide) ?_
        refine x_iinc_2 dX0_findTurns_107 (by decide) rfl ?_
        refine x_goto (tgt := 13) dX0_findTurns_110 (by decide) ?_
        first | exact KK _ (by omega) (v1 (by omega) (by omega)) | exact KK _ (by omega) (v2 (by omega) (by omega)) | exact KK _ (by omega) (v3 (by omega)) | exact KK _ (by omega) (v0 (by omega))
      · refine x_aload_n (i := 0) dX0_findTurns_71 rfl rfl ?_
        refine x_getR xf_RX0_32 dX0_findTurns_72 rfl rfl ?_
        refine x_iload_n (i := 2) dX0_findTurns_75 rfl rfl ?_
        refine x_aload_n (i := 0) dX0_findTurns_76 rfl rfl ?_
        refine x_getR xf_RX0_12 dX0_findTurns_77 rfl rfl ?_
        refine x_getR xf_RX0_53 dX0_findTurns_80 rfl rfl ?_
        refine x_iload_n (i := 2) dX0_findTurns_83 rfl rfl ?_
        refine x_iald dX0_findTurns_84 rfl (by decide) (by first | omega | decide) (by first | omega | decide) ?_
        refine x_iast dX0_findTurns_85 rfl (by decide) (by first | omega | decide) (by first | omega | decide) ?_
        refine x_goto (tgt := 107) dX0_findTurns_86 (by decide) ?_
        refine x_iinc_2 dX0_findTurns_107 (by decide) rfl ?_
        refine x_goto (tgt := 13) dX0_findTurns_110 (by decide) ?_
        first | exact KK _ (by omega) (v1 (by omega) (by omega)) | exact KK _ (by omega) (v2 (by omega) (by omega)) | exact KK _ (by omega) (v3 (by omega)) | exact KK _ (by omega) (v0 (by omega))
      · refine x_aload_n (i := 0) dX0_findTurns_89 rfl rfl ?_
        refine x_getR xf_RX0_32 dX0_findTurns_90 rfl rfl ?_
        refine x_iload_n (i := 2) dX0_findTurns_93 rfl rfl ?_
        refine x_bipush dX0_findTurns_94 (by decide) ?_
        refine x_iast dX0_findTurns_96 rfl (by decide) (by first | omega | decide) (by first | omega | decide) ?_
        refine x_goto (tgt := 107) dX0_findTurns_97 (by decide) ?_
        refine x_iinc_2 dX0_findTurns_107 (by decide) rfl ?_
        refine x_goto (tgt := 13) dX0_findTurns_110 (by decide) ?_
        first | exact KK _ (by omega) (v1 (by omega) (by omega)) | exact KK _ (by omega) (v2 (by omega) (by omega)) | exact KK _ (by omega) (v3 (by omega)) | exact KK _ (by omega) (v0 (by omega))
      · refine x_aload_n (i := 0) dX0_findTurns_100 rfl rfl ?_
        refine x_getR xf_RX0_32 dX0_findTurns_101 rfl rfl ?_
        refine x_iload_n (i := 2) dX0_findTurns_104 rfl rfl ?_
        refine x_iconst dX0_findTurns_105 ?_
        refine x_iast dX0_findTurns_106 rfl (by decide) (by first | omega | decide) (by first | omega | decide) ?_
        refine x_iinc_2 dX0_findTurns_107 (by decide) rfl ?_
        refine x_goto (tgt := 13) dX0_findTurns_110 (by decide) ?_
        first | exact KK _ (by omega) (v1 (by omega) (by omega)) | exact KK _ (by omega) (v2 (by omega) (by omega)) | exact KK _ (by omega) (v3 (by omega)) | exact KK _ (by omega) (v0 (by omega))
set_option maxRecDepth 100000 in
set_option maxHeartbeats 4000000 in
theorem lb_findTurns (μ : xM) (hI : MI (hOf μ 9)) (hO : DO (hOf μ 9)) : ∀ (n : Nat) (p : Int) (ν : xM) (z3 : Option xA), 0 ≤ p → p ≤ μ 9 8 → (μ 9 8 - p).toNat < n → (∀ k, k ≠ 3 → ν k = μ k) → (∀ t, 0 ≤ t → t < μ 9 3 → ν 3 t.toNat = fT2 (hOf μ 9) t p.toNat) → X E0 shDay 1 yX0_findTurns cX0_findTurns 4 none 115 [some (.inr (.inl 0)), some (.inl (μ 14 7)), some (.inl p), z3] [] ν (fun r μ' => r = none ∧ (∀ k, k ≠ 3 → μ' k = μ k) ∧ ∀ t, 0 ≤ t → t < μ 9 3 → μ' 3 t.toNat = mKey (hOf μ 9) t) := by
  have h8 : 0 ≤ μ 9 3 ∧ μ 9 3 ≤ 8 := hI.2.1
  have h38 : 0 ≤ μ 9 8 ∧ μ 9 8 ≤ 8 := hI.2.2.2.1
  have h11 : 0 ≤ μ 14 7 ∧ μ 14 7 ≤ 3 := hI.2.2.2.2.2.2.2.2.2.2.2.1
  have e11 : hOf μ 9 11 = μ 14 7 := rfl
  intro n
  induction n with
  | zero => intro p ν _ _ _ h; omega
  | succ n ih =>
    intro p ν z3 hp hp2 hn hk ht
    have n9 : ν 9 3 = μ 9 3 := by rw [hk 9 (by decide)]
    have n98 : ν 9 8 = μ 9 8 := by rw [hk 9 (by decide)]
    have eO : hOf ν 9 = hOf μ 9 := hOf_congr (fun k q _ => hk k (by omega))
    have eI : hOf (x_ct [9, 10, 11, 12, 13, 14, 15] ν) 0 = hOf μ 9 := eO
    have n15 : p < μ 9 8 → ν 15 p.toNat = hOf μ 9 (39 + p).toNat := by
      intro q
      rw [hk 15 (by decide)]
      exact (hOf_ord μ 9 hp (by omega)).symm
    have b15 : p < μ 9 8 → 0 ≤ ν 15 p.toNat ∧ ν 15 p.toNat ≤ 9 := by
      intro q
      rw [n15 q]
      exact hI.2.2.2.2.2.2.2.2.2.2.2.2.2.2.2 p hp (by omega)
    have KE : μ 14 7 ≠ 3 ∨ p = μ 9 8 → (none : Option xA) = none ∧ (∀ k, k ≠ 3 → ν k = μ k) ∧ ∀ t, 0 ≤ t → t < μ 9 3 → ν 3 t.toNat = mKey (hOf μ 9) t := by
      intro q
      refine ⟨rfl, hk, fun t t0 t1 => ?_⟩
      rw [ht t t0 t1]
      unfold fT2 mKey fT
      by_cases r : hOf μ 9 11 = 3
      · have e : p = hOf μ 9 3 := by
          rcases q with q | q
          · exact absurd r q
          · exact q
        rw [if_pos r, if_neg (by omega), if_neg (by omega), if_pos r, e]
        exact oTN_pl hO t
      · rw [if_neg r, if_neg r, if_neg r]
    have KA : p < μ 9 8 → μ 14 7 = 3 → 0 ≤ ν 15 p.toNat ∧ ν 15 p.toNat < μ 9 3 → ∀ z, X E0 shDay 1 yX0_findTurns cX0_findTurns 4 none 115 [some (.inr (.inl 0)), some (.inl (μ 14 7)), some (.inl (p + 1)), z] [] (x_st ν 3 (ν 15 p.toNat).toNat p) (fun r μ' => r = none ∧ (∀ k, k ≠ 3 → μ' k = μ k) ∧ ∀ t, 0 ≤ t → t < μ 9 3 → μ' 3 t.toNat = mKey (hOf μ 9) t) := by
      intro q r w z
      refine ih (p + 1) _ z (by omega) (by omega) (by omega) (fun k q => ?_) (fun t t0 t1 => ?_)
      · rw [← hk k q]
        exact funext fun x => x_st_ne (Or.inl q)
      · unfold fT2
        rw [if_pos (show hOf μ 9 11 = 3 from r), oTN_s _ _ hp, ← n15 q]
        by_cases e : ν 15 p.toNat = t
        · rw [if_pos e, e, x_st_eq]
        · rw [if_neg e, x_st_ne (Or.inr (by omega)), ht t t0 t1]
          unfold fT2
          rw [if_pos (show hOf μ 9 11 = 3 from r)]
    have KB : p < μ 9 8 → μ 14 7 = 3 → ¬ (0 ≤ ν 15 p.toNat ∧ ν 15 p.toNat < μ 9 3) → ∀ z, X E0 shDay 1 yX0_findTurns cX0_findTurns 4 none 115 [some (.inr (.inl 0)), some (.inl (μ 14 7)), some (.inl (p + 1)), z] [] ν (fun r μ' => r = none ∧ (∀ k, k ≠ 3 → μ' k = μ k) ∧ ∀ t, 0 ≤ t → t < μ 9 3 → μ' 3 t.toNat = mKey (hOf μ 9) t) := by
      intro q r w z
      refine ih (p + 1) _ z (by omega) (by omega) (by omega) hk (fun t t0 t1 => ?_)
      rw [ht t t0 t1]
      unfold fT2
      rw [if_pos (show hOf μ 9 11 = 3 from r), if_pos (show hOf μ 9 11 = 3 from r), oTN_s _ _ hp, if_neg]
      rw [← n15 q]
      intro e
      exact w (by omega)
    have hm := mIn_in (ν 15 p.toNat) (hOf μ 9 1)
    have e1 : hOf μ 9 1 = μ 9 3 := rfl
    clear ih ht hk n15 e11 eO
    refine x_iload_n (i := 1) dX0_findTurns_115 rfl rfl ?_
    refine x_iconst dX0_findTurns_116 ?_
    refine x_icmp_ne (tgt := 165) dX0_findTurns_117 (by decide) (by first | (unfold x_in; omega) | (unfold x_in; decide) | (have g := b15 (by omega); unfold x_in; omega)) (by first | (unfold x_in; omega) | (unfold x_in; decide) | (have g := b15 (by omega); unfold x_in; omega)) (fun c1 => ?_) (fun c1 => ?_)
    · refine x_vret dX0_findTurns_165 rfl ?_
      first | exact KE (Or.inl (by omega)) | exact KE (Or.inr (by omega))
    · refine x_iload_n (i := 2) dX0_findTurns_120 rfl rfl ?_
      refine x_aload_n (i := 0) dX0_findTurns_121 rfl rfl ?_
      refine x_getR xf_RX0_12 dX0_findTurns_122 rfl rfl ?_
      refine x_getI xf_RX0_71 dX0_findTurns_125 rfl rfl ?_
      refine x_icmp_ge (tgt := 165) dX0_findTurns_128 (by decide) (by first | (unfold x_in; omega) | (unfold x_in; decide) | (have g := b15 (by omega); unfold x_in; omega)) (by first | (unfold x_in; omega) | (unfold x_in; decide) | (have g := b15 (by omega); unfold x_in; omega)) (fun c2 => ?_) (fun c2 => ?_)
      · refine x_vret dX0_findTurns_165 rfl ?_
        first | exact KE (Or.inl (by omega)) | exact KE (Or.inr (by omega))
      · refine x_aload_n (i := 0) dX0_findTurns_131 rfl rfl ?_
        refine x_getR xf_RX0_12 dX0_findTurns_132 rfl rfl ?_
        refine x_getR xf_RX0_74 dX0_findTurns_135 rfl rfl ?_
        refine x_iload_n (i := 2) dX0_findTurns_138 rfl rfl ?_
        refine x_iald dX0_findTurns_139 rfl (by decide) (by first | omega | decide | (have g := mIn_t c3; omega)) (by first | omega | decide | (have g := mIn_t c3; omega)) ?_
        refine x_istore_3 dX0_findTurns_140 (by decide) rfl ?_
        refine x_aload_n (i := 0) dX0_findTurns_141 rfl rfl ?_
        refine x_getR xf_RX0_12 dX0_findTurns_142 rfl rfl ?_
        refine x_iload_n (i := 3) dX0_findTurns_145 rfl rfl ?_
        refine x_cIp_1 [9, 10, 11, 12, 13, 14, 15] lk_RX0_77 xm_X1_hasTrain dX0_findTurns_146 (s1_hasTrain _ (by have g := b15 (by omega); unfold x_in; omega) _ (by rw [eI]; exact hI)) ?_
        rw [eI]
        refine x_if_eq (tgt := 159) dX0_findTurns_149 (by decide) (by first | (unfold x_in; omega) | (unfold x_in; decide) | (have g := b15 (by omega); unfold x_in; omega)) (fun c3 => ?_) (fun c3 => ?_)
        · refine x_iinc_2 dX0_findTurns_159 (by decide) rfl ?_
          refine x_goto (tgt := 115) dX0_findTurns_162 (by decide) ?_
          first | exact KA (by omega) (by omega) (by have g := mIn_t c3; omega) _ | exact KB (by omega) (by omega) (by have g := mIn_f c3; omega) _
        · refine x_aload_n (i := 0) dX0_findTurns_152 rfl rfl ?_
          refine x_getR xf_RX0_32 dX0_findTurns_153 rfl rfl ?_
          refine x_iload_n (i := 3) dX0_findTurns_156 rfl rfl ?_
          refine x_iload_n (i := 2) dX0_findTurns_157 rfl rfl ?_
          refine x_iast dX0_findTurns_158 rfl (by decide) (by first | omega | decide | (have g := mIn_t c3; omega)) (by first | omega | decide | (have g := mIn_t c3; omega)) ?_
          refine x_iinc_2 dX0_findTurns_159 (by decide) rfl ?_
          refine x_goto (tgt := 115) dX0_findTurns_162 (by decide) ?_
          first | exact KA (by omega) (by omega) (by have g := mIn_t c3; omega) _ | exact KB (by omega) (by omega) (by have g := mIn_f c3; omega) _
set_option maxRecDepth 100000 in
set_option maxHeartbeats 4000000 in
theorem s0_findTurns (μ : xM) (hI : MI (hOf μ 9)) (hO : DO (hOf μ 9)) : X E0 shDay 1 yX0_findTurns cX0_findTurns 4 none 0 [some (.inr (.inl 0)), none, none, none] [] μ (fun r μ' => r = none ∧ (∀ k, k ≠ 3 → μ' k = μ k) ∧ ∀ t, 0 ≤ t → t < μ 9 3 → μ' 3 t.toNat = mKey (hOf μ 9) t) := by
  have h8 : 0 ≤ μ 9 3 ∧ μ 9 3 ≤ 8 := hI.2.1
  have h38 : 0 ≤ μ 9 8 ∧ μ 9 8 ≤ 8 := hI.2.2.2.1
  have K113 : ∀ ν z, (∀ k, k ≠ 3 → ν k = μ k) → (∀ t, 0 ≤ t → t < μ 9 3 → ν 3 t.toNat = fT (hOf μ 9) t) → X E0 shDay 1 yX0_findTurns cX0_findTurns 4 none 113 [some (.inr (.inl 0)), some (.inl (μ 14 7)), some (.inl z), none] [] ν (fun r μ' => r = none ∧ (∀ k, k ≠ 3 → μ' k = μ k) ∧ ∀ t, 0 ≤ t → t < μ 9 3 → μ' 3 t.toNat = mKey (hOf μ 9) t) := by
    intro ν z hk ht
    have KL := lb_findTurns μ hI hO _ 0 ν none (by omega) (by omega) (Nat.lt_succ_self _) hk (fun t t0 t1 => by
      rw [ht t t0 t1]
      unfold fT2
      by_cases q : hOf μ 9 11 = 3
      · rw [if_pos q]
        unfold fT
        rw [if_neg (by omega), if_neg (by omega), if_pos q]
        rfl
      · rw [if_neg q])
    clear ht hk
    refine x_iconst dX0_findTurns_113 ?_
    refine x_istore_2 dX0_findTurns_114 (by decide) rfl ?_
    exact KL
  have KA := la_findTurns μ hI none _ K113 _ 0 μ (by omega) (by omega) (Nat.lt_succ_self _) (fun _ _ => rfl) (fun t t0 t1 => absurd t1 (Int.not_lt.mpr t0))
  clear K113
  refine x_aload_n (i := 0) dX0_findTurns_0 rfl rfl ?_
  refine x_getR xf_RX0_12 dX0_findTurns_1 rfl rfl ?_
  refine x_getR xf_RX0_68 dX0_findTurns_4 rfl rfl ?_
  refine x_bipush dX0_findTurns_7 (by decide) ?_
  refine x_ialdK (K := 7) dX0_findTurns_9 rfl rfl (by decide) (by decide) ?_
  refine x_istore_1 dX0_findTurns_10 (by decide) rfl ?_
  refine x_iconst dX0_findTurns_11 ?_
  refine x_istore_2 dX0_findTurns_12 (by decide) rfl ?_
  exact KA
