/-! the world's list, cell by cell -/
def x_fs (ad : Nat → Nat) (μ : Nat → Int) : Nat → List (Option Nat) → List Value
  | _, [] => []
  | k, a :: l => x_f ad μ k a :: x_fs ad μ (k + 1) l
theorem x_fs_eq (ad : Nat → Nat) (μ : Nat → Int) : ∀ (l : List (Option Nat)) (k : Nat), l.mapIdx (fun i => x_f ad μ (k + i)) = x_fs ad μ k l
  | [], _ => rfl
  | a :: l, k => by
    rw [List.mapIdx_cons, x_fs, ← x_fs_eq ad μ l (k + 1)]
    congr 2
    funext i
    rw [show k + (i + 1) = k + 1 + i by omega]
def x_er (cI cZ : ClassId) (ad : Nat → Nat) (μ : Nat → Int) : xS → va_E
  | .inl (n, z) => .inl ((if z = true then cZ else cI), n, .inl (fun j => x_I (μ j)))
  | .inr (ci, fs) => .inr (ci, x_fs ad μ 0 fs)
theorem x_er_eq (cI cZ : ClassId) (ad : Nat → Nat) (μ : Nat → Int) (s : xS) : x_e cI cZ ad μ s = x_er cI cZ ad μ s := by
  rcases s with a | ⟨ci, fs⟩
  · rfl
  · have h := x_fs_eq ad μ fs 0
    simp only [Nat.zero_add] at h
    show (Sum.inr (ci, fs.mapIdx (x_f ad μ)) : va_E) = Sum.inr (ci, x_fs ad μ 0 fs)
    rw [← h]
def x_wr (cI cZ : ClassId) (ad : Nat → Nat) (μ : xM) : Nat → List xS → va_W
  | _, [] => []
  | k, s :: l => (ad k, x_er cI cZ ad (μ k) s) :: x_wr cI cZ ad μ (k + 1) l
theorem x_wr_eq (cI cZ : ClassId) (ad : Nat → Nat) (μ : xM) : ∀ (l : List xS) (k : Nat), l.mapIdx (fun i s => (ad (k + i), x_e cI cZ ad (μ (k + i)) s)) = x_wr cI cZ ad μ k l
  | [], _ => rfl
  | s :: l, k => by
    rw [List.mapIdx_cons, x_wr, ← x_wr_eq cI cZ ad μ l (k + 1), x_er_eq]
    congr 2
    funext i t
    rw [show k + (i + 1) = k + 1 + i by omega]
theorem x_w_eq (cI cZ : ClassId) (ad : Nat → Nat) (sh : List xS) (μ : xM) : x_w cI cZ ad sh μ = x_wr cI cZ ad μ 0 sh := by
  have h := x_wr_eq cI cZ ad μ sh 0
  simp only [Nat.zero_add] at h
  exact h
