/-! THE LAW: both objects in one world -/
abbrev shL : List xS := [.inr (5, [some 3, some 12, some 19, some 28, some 35, none, some 42, some 44, some 1, some 2]), .inl (8, false), .inl (7, false), .inr (0, [some 12, some 4, none, some 7, some 5, some 6]), .inl (8, false), .inl (8, false), .inl (8, false), .inr (4, [some 8, none, none, some 9, none, none, none, none, some 10, some 11, none, none, none, none, none]), .inl (3, false), .inl (3, false), .inl (4, false), .inl (4, true), .inr (1, [none, some 13, some 14, none, some 15, some 16, none, some 17, none, some 18]), .inl (5, false), .inl (5, false), .inl (8, false), .inl (8, false), .inl (9, false), .inl (8, false), .inr (0, [some 28, some 20, none, some 23, some 21, some 22]), .inl (8, false), .inl (8, false), .inl (8, false), .inr (4, [some 24, none, none, some 25, none, none, none, none, some 26, some 27, none, none, none, none, none]), .inl (3, false), .inl (3, false), .inl (4, false), .inl (4, true), .inr (1, [none, some 29, some 30, none, some 31, some 32, none, some 33, none, some 34]), .inl (5, false), .inl (5, false), .inl (8, false), .inl (8, false), .inl (9, false), .inl (8, false), .inr (1, [none, some 36, some 37, none, some 38, some 39, none, some 40, none, some 41]), .inl (5, false), .inl (5, false), .inl (8, false), .inl (8, false), .inl (9, false), .inl (8, false), .inr (3, [none, some 43, none, none, none, none, none]), .inl (48, false), .inr (2, [none, none, none, some 46, some 45, none]), .inl (16, false), .inr (4, [some 47, none, none, some 48, none, none, none, none, some 49, some 50, none, none, none, none, none]), .inl (3, false), .inl (3, false), .inl (4, false), .inl (4, true), .inr (6, [some 52, some 53, some 54, some 55, none, some 56, some 57, none, none, some 58, some 59, some 60, none, none, none, none, none, none, some 61, some 62, none, some 63, none]), .inl (7, false), .inl (47, false), .inl (47, false), .inl (47, false), .inl (48, false), .inl (2, false), .inl (8, false), .inl (6, false), .inl (8, false), .inl (47, false), .inl (8, false), .inl (16, false)]
abbrev IS1 : List Nat := List.range 51
abbrev IS2 : List Nat := [51, 52, 53, 54, 55, 56, 57, 58, 59, 60, 61, 62, 63]
theorem he5 : x_emb shL shC IS1 := ⟨by decide +kernel, by decide +kernel, by decide⟩
theorem he6 : x_emb shL shM IS2 := ⟨by decide +kernel, by decide +kernel, by decide⟩
def NM (ν : xM) : xM := fun j => if j < 13 then ν (51 + j) else fun _ => 0
def LR (ν : xM) : Prop := CR ν (NM ν)
theorem is2_ix : ∀ k, k < 13 → x_ix IS2 k = 51 + k := by decide +kernel
theorem is2_pos : ∀ k, k < 13 → x_pos IS2 (51 + k) = some k := by decide +kernel
theorem NM_ct (ν ν1 : xM) : ∀ k, k < shM.length → x_ct IS2 (x_mrg IS1 ν ν1) k = NM ν k := by
  intro k hk
  have hk2 : k < 13 := hk
  show x_mrg IS1 ν ν1 (x_ix IS2 k) = (if k < 13 then ν (51 + k) else fun _ => 0)
  rw [is2_ix k hk2, if_pos hk2]
  exact x_mrg_out ν ν1 (fun i hi => by have := List.mem_range.mp hi; omega)
theorem CR.congr {μ μ' κ κ' : xM} (h : CR μ κ) (e : ∀ k, k < 51 → μ' k = μ k) (f : ∀ k, k < 13 → κ' k = κ k) : CR μ' κ' := by
  have e12 : hOf μ' 12 = hOf μ 12 := hOf_congr (fun k h1 h2 => e k (by omega))
  have e35 : hOf μ' 35 = hOf μ 35 := hOf_congr (fun k h1 h2 => e k (by omega))
  unfold CR GI at h ⊢
  rw [e12, e35, e 0 (by decide), e 42 (by decide), e 43 (by decide), e 44 (by decide), e 45 (by decide), e 2 (by decide), f 0 (by decide), f 1 (by decide), f 2 (by decide), f 3 (by decide), f 4 (by decide), f 5 (by decide), f 10 (by decide), f 12 (by decide)]
  exact h
theorem LR_step {ν ν1 m κ2 : xM} (hc : CR ν1 m) (ha : Abs m κ2) : LR (x_mrg IS2 (x_mrg IS1 ν ν1) κ2) := by
  refine (hc.abs ha).congr (fun k hk => ?_) (fun k hk => ?_)
  · rw [x_mrg_out _ _ (fun i hi => by simp at hi; omega)]
    exact x_mrg_range (by decide) ν ν1 hk
  · show (if k < 13 then x_mrg IS2 (x_mrg IS1 ν ν1) κ2 (51 + k) else fun _ => 0) = κ2 k
    rw [if_pos hk]
    unfold x_mrg
    rw [is2_pos k hk]
section XQ
variable {E : xE} {sh : List xS} {d : Nat} {y : MethodName} {cc : ByteArray} {nL : Nat} {ret : Option FieldType} {pc : Nat} {lv : List (Option xA)} {st : List xA} {μ : xM} {Q : Option xA → xM → Prop}
theorem x_icmp_same {a : Int} {off : Int} {tgt : Nat} (hdg : decode cc pc = .ok (.if_icmp .eq off, 3)) (ht : (pc : Int) + off = (tgt : Int)) (kt : X E sh d y cc nL ret tgt lv st μ Q) : X E sh d y cc nL ret pc lv (.inl a :: .inl a :: st) μ Q := by
  intro p l e R s m args below meth c D cI cZ ad A H locs cells slots ls Z hC hP hD hS hA hE hl hk
  exact lv_icmp_eq hC.1 hC.2.1 hdg ht (fun _ => kt p l e R s m args below meth c D cI cZ ad A H locs cells slots ls Z hC hP hD hS hA hE hl hk) (fun h => absurd rfl h)
theorem x_atR (h : X E sh d y cc nL ret pc lv st μ Q) (n : Nat) : X E sh d y cc nL ret pc lv st (x_ct (List.range n) μ) Q := by
  rw [x_ct_range]
  exact h
end XQ
theorem p6_q {v : Int} {m : xM} (g : GI m) {r : Option xA} {μ' : xM} (h : x_Q v m r μ') : PQ v m r μ' := ⟨h.1, by rw [h.2]; exact Abs.rfl' g⟩
theorem GI_if {P : Prop} [Decidable P] {κ : xM} (g : GI κ) (c : Int) : GI (if P then κ else mRef κ c) := by
  split
  · exact g
  · exact g.ref c
abbrev EL (L : Nat) (f : Nat → Int) : xE := ([eLe, eMo, (L, f)], [("PushedUp", "LEAST_SETTING", "[I", 1000 + 0), ("PushedUp", "MOST_SETTING", "[I", 1000 + 1)])
