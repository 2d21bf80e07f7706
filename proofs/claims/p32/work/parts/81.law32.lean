/-! p32: how many come in some minutes -/
theorem wm_01 (w : W4) : (wm w).2 = 0 ∨ (wm w).2 = 1 := by
  unfold wm
  split
  · exact Or.inl rfl
  · split
    · exact Or.inl rfl
    · split
      · exact Or.inr rfl
      · exact Or.inl rfl
theorem wi_le {σ : SS} {pc : Int} {w : W4} : ∀ n : Nat, 0 ≤ (wi σ pc n w).2 ∧ (wi σ pc n w).2 ≤ n
  | 0 => ⟨Int.le_refl _, Int.le_refl _⟩
  | n + 1 => by
    have h1 := wi_le (σ := σ) (pc := pc) (w := w) n
    have h2 := wm_01 (wb σ pc (wi σ pc n w).1)
    show 0 ≤ (wi σ pc n w).2 + (wm (wb σ pc (wi σ pc n w).1)).2 ∧ (wi σ pc n w).2 + (wm (wb σ pc (wi σ pc n w).1)).2 ≤ ((n + 1 : Nat) : Int)
    omega
theorem b_pass_rg {σ : SS} {m : Int} (hm : 0 ≤ m ∧ m ≤ 60) : ∀ n : Nat, 0 ≤ b_pass σ m n ∧ b_pass σ m n ≤ 60 * n
  | 0 => ⟨Int.le_refl _, Int.le_refl _⟩
  | n + 1 => by
    have h1 := b_pass_rg (σ := σ) hm n
    have h2 := wi_le (σ := σ) (pc := σ 13 n) (w := (σ 14 n, σ 15 n, σ 16 n, σ 17 n)) m.toNat
    show 0 ≤ b_pass σ m n + (wi σ (σ 13 n) m.toNat (σ 14 n, σ 15 n, σ 16 n, σ 17 n)).2 ∧ b_pass σ m n + (wi σ (σ 13 n) m.toNat (σ 14 n, σ 15 n, σ 16 n, σ 17 n)).2 ≤ 60 * ((n + 1 : Nat) : Int)
    omega
theorem hn_eq {σ : SS} {n : Nat} (hI : Iv σ n) : ((hn σ 0 : Nat) : Int) = σ 6 0 := by
  have h := hI.r6 0 (by omega)
  unfold hn
  omega
