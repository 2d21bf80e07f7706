/-! WAYS: the least sums of costs to a goal, as the one solution of an equation; what each of the three algorithms keeps -/
/-- by a step from p to nb, at the sums S; 1000000 where there is none -/
def so (H Z S : Nat → Int) (p nb : Int) : Int := if 0 ≤ nb ∧ nb < 64 ∧ Z nb.toNat = 0 then (if 1 + iabs (H p.toNat - H nb.toNat) + S nb.toNat < 1000000 then 1 + iabs (H p.toNat - H nb.toNat) + S nb.toNat else 1000000) else 1000000
def bl (H Z S : Nat → Int) (p : Int) : Nat → Int
  | 0 => 1000000
  | k + 1 => if so H Z S p (nbr p (k : Int)) < bl H Z S p k then so H Z S p (nbr p (k : Int)) else bl H Z S p k
def bb (H Z S : Nat → Int) (p : Int) : Nat → Int
  | 0 => -1
  | k + 1 => if so H Z S p (nbr p (k : Int)) < bl H Z S p k then nbr p (k : Int) else bb H Z S p k
theorem so_le (H Z S : Nat → Int) (p nb : Int) : so H Z S p nb ≤ 1000000 := by unfold so; split <;> (try split) <;> omega
theorem so_pos {H Z S : Nat → Int} {p nb : Int} (hS : ∀ j, j < 64 → 0 ≤ S j) : 1 ≤ so H Z S p nb := by
  unfold so
  split
  · rename_i h
    have h1 := hS nb.toNat (by omega)
    have h2 : 0 ≤ iabs (H p.toNat - H nb.toNat) := by unfold iabs; split <;> omega
    split <;> omega
  · omega
theorem so_mono {H Z S S' : Nat → Int} {p nb : Int} (h : ∀ j, j < 64 → S j ≤ S' j) : so H Z S p nb ≤ so H Z S' p nb := by
  unfold so
  split
  · rename_i q
    have h1 := h nb.toNat (by omega)
    split <;> split <;> omega
  · exact Int.le_refl _
theorem so_le1 {H Z S S' : Nat → Int} {p nb : Int} (h : S nb.toNat ≤ S' nb.toNat) : so H Z S p nb ≤ so H Z S' p nb := by
  unfold so
  split
  · split <;> split <;> omega
  · exact Int.le_refl _
theorem so_fin {H Z S : Nat → Int} {p nb : Int} (h : so H Z S p nb < 1000000) : (0 ≤ nb ∧ nb < 64 ∧ Z nb.toNat = 0) ∧ so H Z S p nb = 1 + iabs (H p.toNat - H nb.toNat) + S nb.toNat := by
  unfold so at h ⊢
  split
  · rename_i q
    refine ⟨q, ?_⟩
    rw [if_pos q] at h
    split
    · rfl
    · rename_i w
      rw [if_neg w] at h
      omega
  · rename_i q
    rw [if_neg q] at h
    omega
theorem so_gt {H Z S : Nat → Int} {p nb : Int} (h : so H Z S p nb < 1000000) : S nb.toNat < so H Z S p nb := by
  obtain ⟨-, e⟩ := so_fin h
  have h2 : 0 ≤ iabs (H p.toNat - H nb.toNat) := by unfold iabs; split <;> omega
  omega
theorem bl_le (H Z S : Nat → Int) (p : Int) : ∀ k, bl H Z S p k ≤ 1000000
  | 0 => Int.le_refl _
  | k + 1 => by
    have h1 := bl_le H Z S p k
    have h2 := so_le H Z S p (nbr p (k : Int))
    unfold bl
    split <;> omega
theorem bl_so {H Z S : Nat → Int} {p : Int} : ∀ {k d : Nat}, d < k → bl H Z S p k ≤ so H Z S p (nbr p (d : Int))
  | 0, d, h => absurd h (Nat.not_lt_zero d)
  | k + 1, d, h => by
    rw [show bl H Z S p (k + 1) = (if so H Z S p (nbr p (k : Int)) < bl H Z S p k then so H Z S p (nbr p (k : Int)) else bl H Z S p k) from rfl]
    by_cases e : d = k
    · subst e
      split <;> omega
    · have := bl_so (H := H) (Z := Z) (S := S) (p := p) (k := k) (d := d) (by omega)
      split <;> omega
theorem bl_at {H Z S : Nat → Int} {p : Int} : ∀ k, (bl H Z S p k = 1000000 ∧ bb H Z S p k = -1) ∨ ∃ d, d < k ∧ bl H Z S p k = so H Z S p (nbr p (d : Int)) ∧ so H Z S p (nbr p (d : Int)) < 1000000 ∧ bb H Z S p k = nbr p (d : Int)
  | 0 => Or.inl ⟨rfl, rfl⟩
  | k + 1 => by
    rw [show bl H Z S p (k + 1) = (if so H Z S p (nbr p (k : Int)) < bl H Z S p k then so H Z S p (nbr p (k : Int)) else bl H Z S p k) from rfl, show bb H Z S p (k + 1) = (if so H Z S p (nbr p (k : Int)) < bl H Z S p k then nbr p (k : Int) else bb H Z S p k) from rfl]
    by_cases e : so H Z S p (nbr p (k : Int)) < bl H Z S p k
    · rw [if_pos e, if_pos e]
      have := bl_le H Z S p k
      exact Or.inr ⟨k, by omega, rfl, by omega, rfl⟩
    · rw [if_neg e, if_neg e]
      rcases bl_at (H := H) (Z := Z) (S := S) (p := p) k with h | ⟨d, h1, h2⟩
      · exact Or.inl h
      · exact Or.inr ⟨d, by omega, h2⟩
def BA (H Z S : Nat → Int) (p : Int) (k : Nat) : Prop := (bl H Z S p k = 1000000 ∧ bb H Z S p k = -1) ∨ ∃ d, d < k ∧ bl H Z S p k = so H Z S p (nbr p (d : Int)) ∧ so H Z S p (nbr p (d : Int)) < 1000000 ∧ bb H Z S p k = nbr p (d : Int)
theorem ba_at {H Z S : Nat → Int} {p : Int} (k : Nat) : BA H Z S p k := bl_at k
theorem bl_mono {H Z S S' : Nat → Int} {p : Int} (h : ∀ j, j < 64 → S j ≤ S' j) : ∀ k, bl H Z S p k ≤ bl H Z S' p k := by
  intro k
  rcases bl_at (H := H) (Z := Z) (S := S') (p := p) k with ⟨h1, -⟩ | ⟨d, h1, h2, -⟩
  · rw [h1]; exact bl_le _ _ _ _ _
  · rw [h2]
    exact Int.le_trans (bl_so h1) (so_mono h)
theorem bl_cong {H Z S S' : Nat → Int} {p : Int} (h : ∀ j, j < 64 → S j = S' j) (k : Nat) : bl H Z S p k = bl H Z S' p k := by
  have h1 := bl_mono (H := H) (Z := Z) (p := p) (S := S) (S' := S') (fun j hj => by rw [h j hj]; exact Int.le_refl _) k
  have h2 := bl_mono (H := H) (Z := Z) (p := p) (S := S') (S' := S) (fun j hj => by rw [h j hj]; exact Int.le_refl _) k
  omega
theorem so_cong {H Z S S' : Nat → Int} {p nb : Int} (h : ∀ j, j < 64 → S j = S' j) : so H Z S p nb = so H Z S' p nb := by
  have h1 := so_mono (H := H) (Z := Z) (p := p) (nb := nb) (S := S) (S' := S') (fun j hj => by rw [h j hj]; exact Int.le_refl _)
  have h2 := so_mono (H := H) (Z := Z) (p := p) (nb := nb) (S := S') (S' := S) (fun j hj => by rw [h j hj]; exact Int.le_refl _)
  omega
theorem bb_cong {H Z S S' : Nat → Int} {p : Int} (h : ∀ j, j < 64 → S j = S' j) : ∀ k, bb H Z S p k = bb H Z S' p k
  | 0 => rfl
  | k + 1 => by
    rw [show bb H Z S p (k + 1) = (if so H Z S p (nbr p (k : Int)) < bl H Z S p k then nbr p (k : Int) else bb H Z S p k) from rfl, show bb H Z S' p (k + 1) = (if so H Z S' p (nbr p (k : Int)) < bl H Z S' p k then nbr p (k : Int) else bb H Z S' p k) from rfl, bb_cong h k, so_cong h, bl_cong h k]
/-- what every stage of a measuring keeps -/
def WI (H Z : Nat → Int) (g : Nat) (S : Nat → Int) : Prop := S g = 0 ∧ (∀ p, p < 64 → 0 ≤ S p ∧ S p ≤ 1000000) ∧ ∀ p, p < 64 → p ≠ g → bl H Z S (p : Int) 4 ≤ S p
/-- the least sums -/
def WF (H Z : Nat → Int) (g : Nat) (S : Nat → Int) : Prop := WI H Z g S ∧ ∀ p, p < 64 → p ≠ g → S p = bl H Z S (p : Int) 4
theorem WI.ge {H Z : Nat → Int} {g : Nat} {S D : Nat → Int} (hD : WF H Z g D) (hS : WI H Z g S) : ∀ (n : Nat) (p : Nat), p < 64 → S p ≤ n → D p ≤ S p := by
  intro n
  induction n using Nat.strongRecOn with
  | ind n ih =>
    intro p hp hn
    by_cases e : p = g
    · rw [e, hD.1.1, hS.1]; exact Int.le_refl _
    · have h1 := hS.2.2 p hp e
      have h2 := hD.2 p hp e
      rcases bl_at (H := H) (Z := Z) (S := S) (p := (p : Int)) 4 with ⟨h3, -⟩ | ⟨d, h3, h4, h5, -⟩
      · have := hD.1.2.1 p hp
        omega
      · obtain ⟨⟨h6, h7, h8⟩, h9⟩ := so_fin h5
        have h10 := so_gt h5
        have h11 := hS.2.1 (nbr (p : Int) (d : Int)).toNat (by omega)
        have h12 := ih (S (nbr (p : Int) (d : Int)).toNat).toNat (by omega) (nbr (p : Int) (d : Int)).toNat (by omega) (by omega)
        have h13 : so H Z D (p : Int) (nbr (p : Int) (d : Int)) ≤ so H Z S (p : Int) (nbr (p : Int) (d : Int)) := so_le1 h12
        have h14 := bl_so (H := H) (Z := Z) (S := D) (p := (p : Int)) (k := 4) (d := d) h3
        omega
theorem WI.le {H Z : Nat → Int} {g : Nat} {S D : Nat → Int} (hD : WF H Z g D) (hS : WI H Z g S) {p : Nat} (hp : p < 64) : D p ≤ S p := hS.ge hD (S p).toNat p hp (by omega)
theorem WF.one {H Z : Nat → Int} {g : Nat} {S D : Nat → Int} (hD : WF H Z g D) (hS : WF H Z g S) : ∀ p, p < 64 → D p = S p := fun p hp => by
  have h1 := hS.1.le hD hp
  have h2 := hD.1.le hS hp
  omega
theorem WI_0 {H Z : Nat → Int} {g : Nat} (S : Nat → Int) (h : ∀ p, p < 64 → S p = if p = g then 0 else 1000000) (hg : g < 64) : WI H Z g S := by
  refine ⟨by rw [h g hg, if_pos rfl], fun p hp => ?_, fun p hp e => ?_⟩
  · rw [h p hp]
    split <;> omega
  · rw [h p hp, if_neg e]
    exact bl_le _ _ _ _ _
theorem WI_up {H Z : Nat → Int} {g : Nat} {S : Nat → Int} (hS : WI H Z g S) {p : Nat} (hp : p < 64) {v : Int} (h1 : bl H Z S (p : Int) 4 ≤ v) (h2 : v ≤ S p) (e : p ≠ g) : WI H Z g (wr S p v) := by
  have hle : ∀ j, j < 64 → wr S p v j ≤ S j := fun j hj => by
    by_cases q : j = p
    · subst q; rw [wr_at]; exact h2
    · rw [wr_ne q]; exact Int.le_refl _
  have hv : 0 ≤ v := by
    rcases bl_at (H := H) (Z := Z) (S := S) (p := (p : Int)) 4 with ⟨h3, -⟩ | ⟨d, h3, h4, h5, -⟩
    · omega
    · have := so_pos (H := H) (Z := Z) (S := S) (p := (p : Int)) (nb := nbr (p : Int) (d : Int)) (fun j hj => (hS.2.1 j hj).1)
      omega
  refine ⟨by rw [wr_ne (fun q => e q.symm)]; exact hS.1, fun j hj => ?_, fun j hj ej => ?_⟩
  · by_cases q : j = p
    · subst q; rw [wr_at]
      have := hS.2.1 j hj
      omega
    · rw [wr_ne q]; exact hS.2.1 j hj
  · have h3 := bl_mono (H := H) (Z := Z) (p := (j : Int)) hle 4
    by_cases q : j = p
    · subst q; rw [wr_at]; omega
    · rw [wr_ne q]
      have := hS.2.2 j hj ej
      omega
theorem sm_wr {S : Nat → Int} {p : Nat} {v : Int} : ∀ {n : Nat}, p < n → sm (wr S p v) n = sm S n - S p + v
  | 0, h => absurd h (Nat.not_lt_zero p)
  | n + 1, h => by
    rw [show sm (wr S p v) (n + 1) = sm (wr S p v) n + wr S p v n from rfl, show sm S (n + 1) = sm S n + S n from rfl]
    by_cases q : p = n
    · subst q
      rw [wr_at, sm_cong (Q := S) (fun j hj => wr_ne (by omega))]
      omega
    · rw [wr_ne (fun w => q w.symm), sm_wr (by omega)]
      omega
theorem sm_nn {S : Nat → Int} : ∀ {n : Nat}, (∀ j, j < n → 0 ≤ S j) → 0 ≤ sm S n
  | 0, _ => Int.le_refl _
  | n + 1, h => by
    have h1 := sm_nn (n := n) (fun j hj => h j (by omega))
    have h2 := h n (by omega)
    rw [show sm S (n + 1) = sm S n + S n from rfl]
    omega
theorem WF_ex_of {H Z : Nat → Int} {g : Nat} : ∀ (N : Nat) (S : Nat → Int), WI H Z g S → sm S 64 = (N : Int) → ∃ D, WF H Z g D := by
  intro N
  induction N using Nat.strongRecOn with
  | ind N ih =>
    intro S hS hN
    by_cases e : ∃ p, p < 64 ∧ p ≠ g ∧ bl H Z S (p : Int) 4 < S p
    · obtain ⟨p, hp, h1, h2⟩ := e
      have h3 := WI_up hS hp (Int.le_refl _) (by omega) h1
      have h4 := sm_wr (S := S) (p := p) (v := bl H Z S (p : Int) 4) hp
      have h5 := sm_nn (S := wr S p (bl H Z S (p : Int) 4)) (n := 64) (fun j hj => (h3.2.1 j hj).1)
      exact ih (sm (wr S p (bl H Z S (p : Int) 4)) 64).toNat (by omega) _ h3 (by omega)
    · refine ⟨S, hS, fun p hp h1 => ?_⟩
      have h2 := hS.2.2 p hp h1
      by_cases w : bl H Z S (p : Int) 4 < S p
      · exact absurd ⟨p, hp, h1, w⟩ e
      · omega
theorem WF_ex (H Z : Nat → Int) {g : Nat} (hg : g < 64) : ∃ D, WF H Z g D := by
  have h := WI_0 (H := H) (Z := Z) (g := g) (fun p => if p = g then 0 else 1000000) (fun p hp => rfl) hg
  have h5 := sm_nn (S := fun p => if p = g then 0 else 1000000) (n := 64) (fun j hj => (h.2.1 j hj).1)
  exact WF_ex_of _ _ h (by omega : _ = ((sm (fun p => if p = g then 0 else 1000000) 64).toNat : Int))
/-- no step betters the sums any more -/
theorem WF_of {H Z : Nat → Int} {g : Nat} {S : Nat → Int} (hS : WI H Z g S) (h : ∀ p, p < 64 → p ≠ g → S p ≤ bl H Z S (p : Int) 4) : WF H Z g S := ⟨hS, fun p hp e => by
  have h1 := hS.2.2 p hp e
  have h2 := h p hp e
  omega⟩
/-- how many places are nearer -/
def rk (D : Nat → Int) (v : Int) : Nat → Nat
  | 0 => 0
  | n + 1 => rk D v n + (if D n < v then 1 else 0)
theorem rk_le (D : Nat → Int) (v : Int) : ∀ n, rk D v n ≤ n
  | 0 => Nat.le_refl _
  | n + 1 => by
    have := rk_le D v n
    unfold rk
    split <;> omega
theorem rk_mono {D : Nat → Int} {v w : Int} (h : v ≤ w) : ∀ n, rk D v n ≤ rk D w n
  | 0 => Nat.le_refl _
  | n + 1 => by
    have := rk_mono (D := D) h n
    unfold rk
    split <;> split <;> omega
theorem rk_lt {D : Nat → Int} {v w : Int} (h : v ≤ w) : ∀ {n p : Nat}, p < n → v ≤ D p → D p < w → rk D v n < rk D w n
  | 0, p, hp, _, _ => absurd hp (Nat.not_lt_zero p)
  | n + 1, p, hp, h1, h2 => by
    rw [show rk D v (n + 1) = rk D v n + (if D n < v then 1 else 0) from rfl, show rk D w (n + 1) = rk D w n + (if D n < w then 1 else 0) from rfl]
    by_cases q : p = n
    · subst q
      have := rk_mono (D := D) h p
      rw [if_neg (by omega), if_pos h2]
      omega
    · have := rk_lt (D := D) h (n := n) (p := p) (by omega) h1 h2
      split <;> split <;> omega
/-- after k rounds the sums of the places of at most k nearer ones are the least -/
def RND (D S : Nat → Int) (k : Nat) : Prop := ∀ p, p < 64 → rk D (D p) 64 ≤ k → S p ≤ D p
theorem RND_0 {H Z : Nat → Int} {g : Nat} {D S : Nat → Int} (hD : WF H Z g D) (hS : WI H Z g S) (hg : g < 64) : RND D S 0 := by
  intro p hp h
  by_cases e : p = g
  · rw [e, hS.1, hD.1.1]; exact Int.le_refl _
  · have h1 := hD.2 p hp e
    rcases bl_at (H := H) (Z := Z) (S := D) (p := (p : Int)) 4 with ⟨h3, -⟩ | ⟨d, h3, h4, h5, -⟩
    · have := hS.2.1 p hp
      omega
    · have h6 := so_pos (H := H) (Z := Z) (S := D) (p := (p : Int)) (nb := nbr (p : Int) (d : Int)) (fun j hj => (hD.1.2.1 j hj).1)
      have h7 := rk_lt (D := D) (v := 0) (w := D p) (by omega) (n := 64) (p := g) hg (by rw [hD.1.1]; exact Int.le_refl _) (by rw [hD.1.1]; omega)
      omega
/-- within round k + 1, at the place p: what the round before gave is enough -/
theorem RND_at {H Z : Nat → Int} {g : Nat} {D S : Nat → Int} (hD : WF H Z g D) (hS : WI H Z g S) {k p : Nat} (hk : RND D S k) (hp : p < 64) (h : rk D (D p) 64 ≤ k + 1) (e : p ≠ g) : bl H Z S (p : Int) 4 ≤ D p := by
  have h1 := hD.2 p hp e
  rcases bl_at (H := H) (Z := Z) (S := D) (p := (p : Int)) 4 with ⟨h3, -⟩ | ⟨d, h3, h4, h5, -⟩
  · have := bl_le H Z S (p : Int) 4
    omega
  · obtain ⟨⟨h6, h7, h8⟩, h9⟩ := so_fin h5
    have h10 := so_gt h5
    have h11 := rk_lt (D := D) (v := D (nbr (p : Int) (d : Int)).toNat) (w := D p) (by omega) (n := 64) (p := (nbr (p : Int) (d : Int)).toNat) (by omega) (Int.le_refl _) (by omega)
    have h12 := hk (nbr (p : Int) (d : Int)).toNat (by omega) (by omega)
    have h13 : so H Z S (p : Int) (nbr (p : Int) (d : Int)) ≤ so H Z D (p : Int) (nbr (p : Int) (d : Int)) := so_le1 h12
    have h14 := bl_so (H := H) (Z := Z) (S := S) (p := (p : Int)) (k := 4) (d := d) h3
    omega
theorem RND_end {H Z : Nat → Int} {g : Nat} {D S : Nat → Int} (hD : WF H Z g D) (hS : WI H Z g S) {k : Nat} (hk : RND D S k) (h : 64 ≤ k) : WF H Z g S := by
  have e : ∀ p, p < 64 → S p = D p := fun p hp => by
    have h1 := hS.le hD hp
    have h2 := hk p hp (by have := rk_le D (D p) 64; omega)
    omega
  refine ⟨hS, fun p hp h1 => ?_⟩
  rw [e p hp, hD.2 p hp h1, bl_cong (S := D) (S' := S) (fun j hj => (e j hj).symm)]
/-! nearest first -/
def nl (S T : Nat → Int) : Nat → Int
  | 0 => 1000000
  | k + 1 => if T k = 0 ∧ S k < nl S T k then S k else nl S T k
def nn (S T : Nat → Int) : Nat → Int
  | 0 => -1
  | k + 1 => if T k = 0 ∧ S k < nl S T k then (k : Int) else nn S T k
theorem nl_le (S T : Nat → Int) : ∀ k, nl S T k ≤ 1000000
  | 0 => Int.le_refl _
  | k + 1 => by
    have := nl_le S T k
    unfold nl
    split <;> omega
theorem nn_at {S T : Nat → Int} : ∀ k, (nn S T k = -1 ∧ nl S T k = 1000000 ∧ ∀ j, j < k → T j = 0 → 1000000 ≤ S j) ∨ ∃ u, u < k ∧ nn S T k = (u : Int) ∧ T u = 0 ∧ S u < 1000000 ∧ nl S T k = S u ∧ ∀ j, j < k → T j = 0 → S u ≤ S j
  | 0 => Or.inl ⟨rfl, rfl, fun j hj => absurd hj (Nat.not_lt_zero j)⟩
  | k + 1 => by
    rw [show nn S T (k + 1) = (if T k = 0 ∧ S k < nl S T k then (k : Int) else nn S T k) from rfl, show nl S T (k + 1) = (if T k = 0 ∧ S k < nl S T k then S k else nl S T k) from rfl]
    have h9 := nl_le S T k
    rcases nn_at (S := S) (T := T) k with ⟨h1, h2, h3⟩ | ⟨u, h1, h2, h3, h4, h5, h6⟩
    · by_cases e : T k = 0 ∧ S k < nl S T k
      · rw [if_pos e, if_pos e]
        refine Or.inr ⟨k, by omega, rfl, e.1, by omega, rfl, fun j hj ht => ?_⟩
        by_cases q : j = k
        · rw [q]; exact Int.le_refl _
        · have := h3 j (by omega) ht
          omega
      · rw [if_neg e, if_neg e]
        refine Or.inl ⟨h1, h2, fun j hj ht => ?_⟩
        by_cases q : j = k
        · subst q
          have : ¬ S j < nl S T j := fun w => e ⟨ht, w⟩
          omega
        · exact h3 j (by omega) ht
    · by_cases e : T k = 0 ∧ S k < nl S T k
      · rw [if_pos e, if_pos e]
        refine Or.inr ⟨k, by omega, rfl, e.1, by omega, rfl, fun j hj ht => ?_⟩
        by_cases q : j = k
        · rw [q]; exact Int.le_refl _
        · have := h6 j (by omega) ht
          omega
      · rw [if_neg e, if_neg e]
        refine Or.inr ⟨u, by omega, h2, h3, h4, h5, fun j hj ht => ?_⟩
        by_cases q : j = k
        · subst q
          have : ¬ S j < nl S T j := fun w => e ⟨ht, w⟩
          omega
        · exact h6 j (by omega) ht
/-- what the algorithm keeps: settled places have their least sums, and what steps to them give is told already -/
def DJ (H Z : Nat → Int) (D S T : Nat → Int) : Prop := (∀ u : Nat, u < 64 → T u = 1 → S u = D u) ∧ ∀ (u p d : Nat), u < 64 → p < 64 → d < 4 → T u = 1 → nbr (p : Int) (d : Int) = (u : Int) → S p ≤ so H Z S (p : Int) (u : Int)
theorem DJ_un {H Z : Nat → Int} {g : Nat} {D S T : Nat → Int} (hD : WF H Z g D) (hS : WI H Z g S) (hT : ∀ j, j < 64 → T j = 0 ∨ T j = 1) (h : DJ H Z D S T) : ∀ (n : Nat) (x : Nat), x < 64 → T x = 0 → D x < 1000000 → D x ≤ n → ∃ y, y < 64 ∧ T y = 0 ∧ S y = D y ∧ D y ≤ D x := by
  intro n
  induction n using Nat.strongRecOn with
  | ind n ih =>
    intro x hx h0 h1 h2
    by_cases e : x = g
    · subst e
      exact ⟨x, hx, h0, by rw [hS.1, hD.1.1], Int.le_refl _⟩
    · have h3 := hD.2 x hx e
      rcases bl_at (H := H) (Z := Z) (S := D) (p := (x : Int)) 4 with ⟨h4, -⟩ | ⟨d, h4, h5, h6, -⟩
      · omega
      · obtain ⟨⟨h7, h8, h9⟩, h10⟩ := so_fin h6
        have h11 := so_gt h6
        obtain ⟨u, hu⟩ : ∃ u : Nat, nbr (x : Int) (d : Int) = (u : Int) := ⟨(nbr (x : Int) (d : Int)).toNat, by omega⟩
        rw [hu] at h5 h6 h7 h8 h9 h10 h11
        rw [Int.toNat_natCast] at h9 h10 h11
        have hD0 := hD.1.2.1 u (by omega)
        rcases hT u (by omega) with ht | ht
        · obtain ⟨y, g1, g2, g3, g4⟩ := ih (D u).toNat (by omega) u (by omega) ht (by omega) (by omega)
          exact ⟨y, g1, g2, g3, by omega⟩
        · have g1 := h.2 u x d (by omega) hx h4 ht hu
          have g2 := h.1 u (by omega) ht
          have g3 : so H Z S (x : Int) (u : Int) = so H Z D (x : Int) (u : Int) := by
            unfold so
            rw [Int.toNat_natCast, g2]
          have g4 := hS.le hD hx
          exact ⟨x, hx, h0, by omega, Int.le_refl _⟩
/-- the nearest place that isn't settled has its least sum -/
theorem DJ_near {H Z : Nat → Int} {g : Nat} {D S T : Nat → Int} (hD : WF H Z g D) (hS : WI H Z g S) (hT : ∀ j, j < 64 → T j = 0 ∨ T j = 1) (h : DJ H Z D S T) {u : Nat} (hu : u < 64) (h0 : T u = 0) (h1 : S u < 1000000) (h2 : ∀ j, j < 64 → T j = 0 → S u ≤ S j) : S u = D u := by
  have h3 := hS.le hD hu
  have h5 := hD.1.2.1 u hu
  obtain ⟨y, g1, g2, g3, g4⟩ := DJ_un hD hS hT h (D u).toNat u hu h0 (by omega) (by omega)
  have := h2 y g1 g2
  omega
theorem DJ_end {H Z : Nat → Int} {g : Nat} {D S T : Nat → Int} (hD : WF H Z g D) (hS : WI H Z g S) (hT : ∀ j, j < 64 → T j = 0 ∨ T j = 1) (h : DJ H Z D S T) (h2 : ∀ j, j < 64 → T j = 0 → 1000000 ≤ S j) : WF H Z g S := by
  have e : ∀ p, p < 64 → S p = D p := fun p hp => by
    rcases hT p hp with ht | ht
    · have h3 := hS.le hD hp
      have h4 := h2 p hp ht
      have h5 := hD.1.2.1 p hp
      by_cases w : D p < 1000000
      · obtain ⟨y, g1, g2, g3, g4⟩ := DJ_un hD hS hT h (D p).toNat p hp ht w (by omega)
        have := h2 y g1 g2
        omega
      · have := hS.2.1 p hp
        omega
    · exact h.1 p hp ht
  refine ⟨hS, fun p hp h1 => ?_⟩
  rw [e p hp, hD.2 p hp h1, bl_cong (S := D) (S' := S) (fun j hj => (e j hj).symm)]
/-- the sums behind the reaching of u's neighbours -/
def rch (H Z S : Nat → Int) (u : Int) : Nat → (Nat → Int)
  | 0 => S
  | k + 1 => if 0 ≤ nbr u (k : Int) then wr (rch H Z S u k) (nbr u (k : Int)).toNat (if rch H Z S u k (nbr u (k : Int)).toNat ≤ so H Z (rch H Z S u k) (nbr u (k : Int)) u then rch H Z S u k (nbr u (k : Int)).toNat else so H Z (rch H Z S u k) (nbr u (k : Int)) u) else rch H Z S u k
theorem nbr_back {p u : Int} (hp : 0 ≤ p ∧ p < 64) (hu : 0 ≤ u ∧ u < 64) {d : Nat} (hd : d < 4) (h : nbr p (d : Int) = u) : ∃ k : Nat, k < 4 ∧ nbr u (k : Int) = p ∧ p ≠ u := by
  rcases (show d = 0 ∨ d = 1 ∨ d = 2 ∨ d = 3 by omega) with rfl | rfl | rfl | rfl
  · refine ⟨3, by omega, ?_⟩
    unfold nbr at h ⊢
    simp at h ⊢
    split at h <;> (try split) <;> omega
  · refine ⟨2, by omega, ?_⟩
    unfold nbr at h ⊢
    simp at h ⊢
    split at h <;> (try split) <;> omega
  · refine ⟨1, by omega, ?_⟩
    unfold nbr at h ⊢
    simp at h ⊢
    split at h <;> (try split) <;> omega
  · refine ⟨0, by omega, ?_⟩
    unfold nbr at h ⊢
    simp at h ⊢
    split at h <;> (try split) <;> omega
theorem nbr_ne {u : Int} (hu : 0 ≤ u ∧ u < 64) (d : Int) : nbr u d ≠ u := by
  unfold nbr
  split <;> (try split) <;> (try split) <;> (try split) <;> omega
theorem rch_yes {H Z S : Nat → Int} {u : Int} {k : Nat} {v : Int} (h : 0 ≤ nbr u (k : Int)) (hv : (rch H Z S u k (nbr u (k : Int)).toNat ≤ so H Z (rch H Z S u k) (nbr u (k : Int)) u ∧ v = rch H Z S u k (nbr u (k : Int)).toNat) ∨ (¬ rch H Z S u k (nbr u (k : Int)).toNat ≤ so H Z (rch H Z S u k) (nbr u (k : Int)) u ∧ v = so H Z (rch H Z S u k) (nbr u (k : Int)) u)) : rch H Z S u (k + 1) = wr (rch H Z S u k) (nbr u (k : Int)).toNat v := by
  rw [show rch H Z S u (k + 1) = (if 0 ≤ nbr u (k : Int) then wr (rch H Z S u k) (nbr u (k : Int)).toNat (if rch H Z S u k (nbr u (k : Int)).toNat ≤ so H Z (rch H Z S u k) (nbr u (k : Int)) u then rch H Z S u k (nbr u (k : Int)).toNat else so H Z (rch H Z S u k) (nbr u (k : Int)) u) else rch H Z S u k) from rfl, if_pos h]
  rcases hv with ⟨h1, h2⟩ | ⟨h1, h2⟩
  · rw [if_pos h1, h2]
  · rw [if_neg h1, h2]
theorem rch_no {H Z S : Nat → Int} {u : Int} {k : Nat} (h : ¬ 0 ≤ nbr u (k : Int)) : rch H Z S u (k + 1) = rch H Z S u k := by
  rw [show rch H Z S u (k + 1) = (if 0 ≤ nbr u (k : Int) then wr (rch H Z S u k) (nbr u (k : Int)).toNat (if rch H Z S u k (nbr u (k : Int)).toNat ≤ so H Z (rch H Z S u k) (nbr u (k : Int)) u then rch H Z S u k (nbr u (k : Int)).toNat else so H Z (rch H Z S u k) (nbr u (k : Int)) u) else rch H Z S u k) from rfl, if_neg h]
theorem rch_rg {H Z S : Nat → Int} {u : Int} (hu : 0 ≤ u ∧ u < 64) (h : ∀ j, j < 64 → 0 ≤ S j ∧ S j ≤ 1000000) : ∀ (k j : Nat), j < 64 → 0 ≤ rch H Z S u k j ∧ rch H Z S u k j ≤ 1000000
  | 0, j, hj => h j hj
  | k + 1, j, hj => by
    have ih := rch_rg (H := H) (Z := Z) hu h k
    by_cases e : 0 ≤ nbr u (k : Int)
    · have h2 := nbr_rg hu (k : Int)
      have h3 := so_pos (H := H) (Z := Z) (p := nbr u (k : Int)) (nb := u) (fun j hj => (ih j hj).1)
      have h4 := so_le H Z (rch H Z S u k) (nbr u (k : Int)) u
      by_cases w : rch H Z S u k (nbr u (k : Int)).toNat ≤ so H Z (rch H Z S u k) (nbr u (k : Int)) u
      · rw [rch_yes e (Or.inl ⟨w, rfl⟩)]
        by_cases q : j = (nbr u (k : Int)).toNat
        · subst q; rw [wr_at]; exact ih _ hj
        · rw [wr_ne q]; exact ih j hj
      · rw [rch_yes e (Or.inr ⟨w, rfl⟩)]
        by_cases q : j = (nbr u (k : Int)).toNat
        · subst q; rw [wr_at]; omega
        · rw [wr_ne q]; exact ih j hj
    · rw [rch_no e]; exact ih j hj
/-- what the reaching of a place u does: no sum grows, u's stays, each place from which a step leads to u has what it gives; the sums stay sound -/
theorem rch_ok {H Z S : Nat → Int} {g u : Nat} (hu : u < 64) (hS : WI H Z g S) : ∀ k, k ≤ 4 → WI H Z g (rch H Z S (u : Int) k) ∧ (∀ j, j < 64 → rch H Z S (u : Int) k j ≤ S j) ∧ rch H Z S (u : Int) k u = S u ∧ ∀ d p, d < k → nbr (u : Int) ((d : Nat) : Int) = ((p : Nat) : Int) → rch H Z S (u : Int) k p ≤ so H Z S (p : Int) (u : Int)
  | 0, _ => ⟨hS, fun j hj => Int.le_refl _, rfl, fun d p hd => absurd hd (Nat.not_lt_zero d)⟩
  | k + 1, hk => by
    obtain ⟨h1, h2, h3, h4⟩ := rch_ok hu hS k (by omega)
    have hn := nbr_rg (p := (u : Int)) (by omega) (k : Int)
    have hne := nbr_ne (u := (u : Int)) (by omega) (k : Int)
    by_cases e : 0 ≤ nbr (u : Int) (k : Int)
    · obtain ⟨x, hx⟩ : ∃ x : Nat, nbr (u : Int) (k : Int) = (x : Int) := ⟨(nbr (u : Int) (k : Int)).toNat, by omega⟩
      obtain ⟨v, hv, hv1, hv2⟩ : ∃ v, rch H Z S (u : Int) (k + 1) = wr (rch H Z S (u : Int) k) x v ∧ v ≤ rch H Z S (u : Int) k x ∧ (v ≤ so H Z (rch H Z S (u : Int) k) (x : Int) (u : Int) ∧ (v = rch H Z S (u : Int) k x ∨ v = so H Z (rch H Z S (u : Int) k) (x : Int) (u : Int))) := by
        by_cases w : rch H Z S (u : Int) k (nbr (u : Int) (k : Int)).toNat ≤ so H Z (rch H Z S (u : Int) k) (nbr (u : Int) (k : Int)) (u : Int)
        · refine ⟨_, rch_yes e (Or.inl ⟨w, rfl⟩) |>.trans (by rw [hx, Int.toNat_natCast]), ?_⟩
          rw [hx, Int.toNat_natCast] at w
          exact ⟨Int.le_refl _, w, Or.inl rfl⟩
        · refine ⟨_, rch_yes e (Or.inr ⟨w, rfl⟩) |>.trans (by rw [hx, Int.toNat_natCast]), ?_⟩
          rw [hx, Int.toNat_natCast] at w
          exact ⟨by omega, Int.le_refl _, Or.inr rfl⟩
      have hso : so H Z (rch H Z S (u : Int) k) (x : Int) (u : Int) = so H Z S (x : Int) (u : Int) := by
        unfold so
        rw [Int.toNat_natCast, h3]
      rw [hv]
      refine ⟨?_, fun j hj => ?_, ?_, fun d p hd hp => ?_⟩
      · by_cases hg : x = g
        · subst hg
          have h5 := so_pos (H := H) (Z := Z) (S := rch H Z S (u : Int) k) (p := (x : Int)) (nb := (u : Int)) (fun j hj => (h1.2.1 j hj).1)
          have h6 := h1.1
          have h7 : v = rch H Z S (u : Int) k x := by omega
          have h8 : wr (rch H Z S (u : Int) k) x v = rch H Z S (u : Int) k := by
            funext j
            by_cases q : j = x
            · subst q; rw [wr_at, h7]
            · rw [wr_ne q]
          rw [h8]; exact h1
        · refine WI_up h1 (by omega) ?_ hv1 hg
          rcases hv2.2 with h5 | h5
          · rw [h5]; exact h1.2.2 x (by omega) hg
          · rw [h5]
            have hback := nbr_back (p := (u : Int)) (u := (x : Int)) (by omega) (by omega) (d := k) (by omega) hx
            obtain ⟨d', hd1, hd2, -⟩ := hback
            have := bl_so (H := H) (Z := Z) (S := rch H Z S (u : Int) k) (p := (x : Int)) (k := 4) hd1
            rw [hd2] at this
            exact this
      · by_cases q : j = x
        · subst q; rw [wr_at]; have := h2 j hj; omega
        · rw [wr_ne q]; exact h2 j hj
      · rw [wr_ne (by omega)]; exact h3
      · by_cases q : p = x
        · subst q
          rw [wr_at, ← hso]
          exact hv2.1
        · rw [wr_ne q]
          by_cases q2 : d = k
          · subst q2; omega
          · exact h4 d p (by omega) hp
    · rw [rch_no e]
      refine ⟨h1, h2, h3, fun d p hd hp => ?_⟩
      by_cases q : d = k
      · subst q; omega
      · exact h4 d p (by omega) hp
/-- one place more is settled -/
theorem DJ_step {H Z : Nat → Int} {g : Nat} {D S T S' : Nat → Int} (hD : WF H Z g D) (hS : WI H Z g S) (hT : ∀ j, j < 64 → T j = 0 ∨ T j = 1) (h : DJ H Z D S T) {u : Nat} (hu : u < 64) (h0 : T u = 0) (h1 : S u < 1000000) (h2 : ∀ j, j < 64 → T j = 0 → S u ≤ S j) (hS' : (Z u = 0 ∧ S' = rch H Z S (u : Int) 4) ∨ (Z u ≠ 0 ∧ S' = S)) : WI H Z g S' ∧ DJ H Z D S' (wr T u 1) := by
  have hD1 := DJ_near hD hS hT h hu h0 h1 h2
  obtain ⟨k1, k2, k3, k4⟩ := rch_ok (H := H) (Z := Z) hu hS 4 (by omega)
  have key : WI H Z g S' ∧ (∀ j, j < 64 → S' j ≤ S j) ∧ S' u = S u ∧ ∀ p d, p < 64 → d < 4 → nbr ((p : Nat) : Int) ((d : Nat) : Int) = (u : Int) → S' p ≤ so H Z S (p : Int) (u : Int) := by
    rcases hS' with ⟨hz, rfl⟩ | ⟨hz, e⟩
    · refine ⟨k1, k2, k3, fun p d hp hd hn => ?_⟩
      obtain ⟨d', e1, e2, -⟩ := nbr_back (p := (p : Int)) (u := (u : Int)) (by omega) (by omega) hd hn
      exact k4 d' p e1 e2
    · rw [e]
      refine ⟨hS, fun j hj => Int.le_refl _, rfl, fun p d hp hd hn => ?_⟩
      have h3 : so H Z S (p : Int) (u : Int) = 1000000 := by
        unfold so
        rw [if_neg (fun w => hz (by have := w.2.2; rw [Int.toNat_natCast] at this; exact this))]
      rw [h3]
      exact (hS.2.1 p hp).2
  obtain ⟨a1, a2, a3, a4⟩ := key
  have hold : ∀ u2, u2 < 64 → T u2 = 1 → S' u2 = S u2 := fun u2 hu2 ht => by
    have b1 := a1.le hD hu2
    have b2 := a2 u2 hu2
    have b3 := h.1 u2 hu2 ht
    omega
  refine ⟨a1, fun u2 hu2 ht => ?_, fun u2 p d hu2 hp hd ht hn => ?_⟩
  · by_cases q : u2 = u
    · subst q; rw [a3, hD1]
    · rw [wr_ne q] at ht
      rw [hold u2 hu2 ht]; exact h.1 u2 hu2 ht
  · by_cases q : u2 = u
    · subst q
      have b1 : so H Z S' (p : Int) (u2 : Int) = so H Z S (p : Int) (u2 : Int) := by
        unfold so
        rw [Int.toNat_natCast, a3]
      rw [b1]
      exact a4 p d hp hd hn
    · rw [wr_ne q] at ht
      have b1 : so H Z S' (p : Int) (u2 : Int) = so H Z S (p : Int) (u2 : Int) := by
        unfold so
        rw [Int.toNat_natCast, hold u2 hu2 ht]
      rw [b1]
      exact Int.le_trans (a2 p hp) (h.2 u2 p d hu2 hp hd ht hn)
theorem sm_le {T : Nat → Int} : ∀ {n : Nat}, (∀ j, j < n → T j = 0 ∨ T j = 1) → sm T n ≤ n
  | 0, _ => Int.le_refl _
  | n + 1, h => by
    have h1 := sm_le (n := n) (fun j hj => h j (by omega))
    have h2 := h n (by omega)
    rw [show sm T (n + 1) = sm T n + T n from rfl]
    omega
theorem sm_all {T : Nat → Int} : ∀ {n : Nat}, (∀ j, j < n → T j = 0 ∨ T j = 1) → sm T n = n → ∀ j, j < n → T j = 1
  | 0, _, _, j, hj => absurd hj (Nat.not_lt_zero j)
  | n + 1, h, e, j, hj => by
    have h1 := sm_le (n := n) (fun j hj => h j (by omega))
    have h2 := h n (by omega)
    rw [show sm T (n + 1) = sm T n + T n from rfl] at e
    by_cases q : j = n
    · subst q; omega
    · exact sm_all (n := n) (fun j hj => h j (by omega)) (by omega) j (by omega)
def WaysR (G : GG) (μ : Mm) (a : Nat) (S T : Nat → Int) : Prop := ∃ s t, OB μ a 4 8 [.ref s, .ref t] ∧ AI G μ s 5 64 S ∧ AZ G μ t 6 64 T ∧ (∀ j, j < 64 → 0 ≤ S j ∧ S j ≤ 1000000) ∧ ∀ j, j < 64 → T j = 0 ∨ T j = 1
theorem WaysR.ob {G : GG} {μ : Mm} {a : Nat} {S T : Nat → Int} (h : WaysR G μ a S T) : ∃ r fs, μ a = some (r, .inr (8, fs)) := by
  obtain ⟨s, t, h1, -⟩ := h
  exact ⟨_, _, h1⟩
theorem Fr.ways {lo hi : Nat} {μ μ' : Mm} (hF : Fr lo hi μ μ') {G : GG} {a : Nat} {S T : Nat → Int} (h : WaysR G μ a S T) (hr : hi ≤ 4 ∨ 7 ≤ lo := by omega) : WaysR G μ' a S T := by
  obtain ⟨s, t, h1, h2, h3, h4⟩ := h
  exact ⟨s, t, hF.ob h1, hF.ai h2, hF.az h3, h4⟩
