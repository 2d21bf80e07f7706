/-! the reference's answers -/
def WdI (σ : SS) (s k : Nat) (i : Int) : Prop := (i = 1 ∧ σ 11 0 = σ 11 (s + 1) ∧ ∀ j, j < k → lw σ 0 j = lw σ (s + 1) j) ∨ (i = 0 ∧ ¬ (σ 11 0 = σ 11 (s + 1) ∧ ∀ j, j < ln σ 0 → lw σ 0 j = lw σ (s + 1) j))
theorem WdI.rg {σ : SS} {s k : Nat} {i : Int} (h : WdI σ s k i) : i = 0 ∨ i = 1 := by
  rcases h with ⟨h, -⟩ | ⟨h, -⟩
  · exact Or.inr h
  · exact Or.inl h
theorem WdI_0 {σ : SS} {s : Nat} {i : Int} (h : (i = 1 ∧ σ 11 0 = σ 11 (s + 1)) ∨ (i = 0 ∧ ¬ σ 11 0 = σ 11 (s + 1))) : WdI σ s 0 i := by
  rcases h with ⟨h1, h2⟩ | ⟨h1, h2⟩
  · exact Or.inl ⟨h1, h2, fun j hj => absurd hj (Nat.not_lt_zero j)⟩
  · exact Or.inr ⟨h1, fun q => h2 q.1⟩
theorem WdI_s {σ : SS} {s k : Nat} {i i' : Int} (h : WdI σ s k i) (hi : i ≠ 0) (hk : (k : Int) < σ 11 0) (h2 : (i' = 1 ∧ σ 10 k = σ 10 (5 * (s + 1) + k)) ∨ (i' = 0 ∧ ¬ σ 10 k = σ 10 (5 * (s + 1) + k))) : WdI σ s (k + 1) i' := by
  have e : lw σ 0 k = σ 10 k := by show σ 10 (5 * 0 + k) = _; rw [Nat.mul_zero, Nat.zero_add]
  have e2 : lw σ (s + 1) k = σ 10 (5 * (s + 1) + k) := rfl
  rcases h with ⟨h1, h3, h4⟩ | ⟨h1, -⟩
  · rcases h2 with ⟨h5, h6⟩ | ⟨h5, h6⟩
    · refine Or.inl ⟨h5, h3, fun j hj => ?_⟩
      by_cases q : j = k
      · subst q; rw [e, e2]; exact h6
      · exact h4 j (by omega)
    · exact Or.inr ⟨h5, fun q => h6 (by rw [← e, ← e2]; exact q.2 k (by unfold ln; omega))⟩
  · exact absurd h1 hi
theorem WdI_e {σ : SS} {s k : Nat} {i : Int} (h : WdI σ s k i) (hk : i = 0 ∨ ln σ 0 ≤ k) : i = isWd σ s := by
  unfold isWd
  rcases h with ⟨h1, h3, h4⟩ | ⟨h1, h2⟩
  · rw [if_pos ⟨h3, fun j hj => h4 j (by omega)⟩]; exact h1
  · rw [if_neg h2]; exact h1
theorem iabs_neg (x : Int) : iabs (-x) = iabs x := by unfold iabs; split <;> split <;> omega
theorem dst_sym (p q : Int) : dst p q = dst q p := by
  unfold dst
  rw [← iabs_neg (p / 8 - q / 8), ← iabs_neg (p % 8 - q % 8), Int.neg_sub, Int.neg_sub]
theorem ior_0 {x : Int} : zI x ||| zI 0 = zI x := by rw [zI_0]; exact Int32.or_zero
theorem b_score_rg {σ : SS} {n : Nat} (hI : Iv σ n) (hn : n ≤ 600) {w : Nat} (hw : w < 6) : ∀ k : Nat, k ≤ 6 → 0 ≤ sm (ptq σ w) k ∧ sm (ptq σ w) k ≤ 100 * k
  | 0, _ => ⟨Int.le_refl _, Int.le_refl _⟩
  | k + 1, h => by
    have h1 := b_score_rg hI hn hw k (by omega)
    have h2 := hI.r22 (6 * w + k) (by omega)
    have h3 := pts_rg (w := σ 22 (6 * w + k)) (t := σ 21 (6 * w + k)) (by omega)
    rw [show sm (ptq σ w) (k + 1) = sm (ptq σ w) k + (if σ 20 (6 * w + k) = 1 then pts (σ 22 (6 * w + k)) (σ 21 (6 * w + k)) else 0) from rfl]
    split <;> omega
theorem Iv_tell {σ : SS} {n : Nat} (hI : Iv σ n) {o s : Int} : Iv (n_tell σ o s) n := Iv_wr hI (by decide) (by show (0 : Int) ≤ 1 ∧ (1 : Int) ≤ (1 : Int); omega)
theorem b_solved_rg {σ : SS} {n : Nat} (hI : Iv σ n) {w : Nat} (hw : w < 6) : 0 ≤ b_solved σ w ∧ b_solved σ w ≤ 6 := by
  have key : ∀ k : Nat, k ≤ 6 → 0 ≤ sm (fun s => σ 20 (6 * w + s)) k ∧ sm (fun s => σ 20 (6 * w + s)) k ≤ k := by
    intro k
    induction k with
    | zero => intro _; exact ⟨Int.le_refl _, Int.le_refl _⟩
    | succ k ih =>
      intro hk
      have h1 := ih (by omega)
      have h2 := hI.r20 (6 * w + k) (by omega)
      rw [show sm (fun s => σ 20 (6 * w + s)) (k + 1) = sm (fun s => σ 20 (6 * w + s)) k + σ 20 (6 * w + k) from rfl]
      omega
  have h7 := hI.n7
  have := key (σ 7 0).toNat (by omega)
  unfold b_solved
  omega
