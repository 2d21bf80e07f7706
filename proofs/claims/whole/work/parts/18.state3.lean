/-! what each call answers, on: ranks, wardens, stages -/
def b_rank (σ : SS) (num : Int) (mine : Int) : Nat → Int
  | 0 => 0
  | n + 1 => b_rank σ num mine n + (if mine < b_score σ n ∨ (b_score σ n = mine ∧ (n : Int) < num) then 1 else 0)
theorem b_rank_rg (σ : SS) (num mine : Int) : ∀ n, 0 ≤ b_rank σ num mine n ∧ b_rank σ num mine n ≤ n
  | 0 => ⟨Int.le_refl _, Int.le_refl _⟩
  | n + 1 => by
    have := b_rank_rg σ num mine n
    unfold b_rank
    split <;> omega
def rkw (σ : SS) (w : Nat) : Int := b_rank σ (w : Int) (b_score σ w) (σ 12 0).toNat
def b_walkerAt (σ : SS) (c : Int) (r : Int) : Prop := (∃ w : Nat, (w : Int) < σ 12 0 ∧ r = w ∧ rkw σ w = c ∧ ∀ v, v < w → rkw σ v ≠ c) ∨ ((∀ w : Nat, (w : Int) < σ 12 0 → rkw σ w ≠ c) ∧ r = -1)
theorem b_walkerAt_one {σ : SS} {c r r2 : Int} (h : b_walkerAt σ c r) (h2 : b_walkerAt σ c r2) : r = r2 := by
  rcases h with ⟨w, h1, h3, h4, h5⟩ | ⟨h1, h3⟩
  · rcases h2 with ⟨w2, g1, g3, g4, g5⟩ | ⟨g1, g3⟩
    · have : w = w2 := by
        rcases Nat.lt_trichotomy w w2 with q | q | q
        · exact absurd h4 (g5 w q)
        · exact q
        · exact absurd g4 (h5 w2 q)
      omega
    · exact absurd h4 (g1 w h1)
  · rcases h2 with ⟨w2, g1, g3, g4, g5⟩ | ⟨g1, g3⟩
    · exact absurd g4 (h1 w2 g1)
    · omega
/-- what a warden sees -/
def p2 : Nat → Int
  | 0 => 1
  | n + 1 => 2 * p2 n
def seeN (σ : SS) (p : Int) : Nat → Int
  | 0 => 0
  | n + 1 => seeN σ p n + (if dst p (σ 14 n) ≤ 3 then p2 n else 0)
theorem p2_6 : ∀ i, i < 7 → 1 ≤ p2 i ∧ p2 i ≤ 64 := by decide +kernel
theorem seeN_rg (σ : SS) (p : Int) : ∀ n, 0 ≤ seeN σ p n ∧ seeN σ p n < p2 n
  | 0 => ⟨Int.le_refl _, by (show (0 : Int) < 1; omega)⟩
  | n + 1 => by
    have := seeN_rg σ p n
    rw [show seeN σ p (n + 1) = seeN σ p n + (if dst p (σ 14 n) ≤ 3 then p2 n else 0) from rfl, show p2 (n + 1) = 2 * p2 n from rfl]
    split <;> omega
theorem ior_n : ∀ i, i < 6 → ∀ s : Nat, s < 64 → (s : Int) < p2 i → zI (s : Int) ||| (zI 1 <<< (zI (i : Int) &&& 31)) = zI ((s : Int) + p2 i) := by decide +kernel
theorem ior_z {i : Nat} (hi : i < 6) {s : Int} (h : 0 ≤ s ∧ s < p2 i) : zI s ||| (zI 1 <<< (zI (i : Int) &&& 31)) = zI (s + p2 i) := by
  have h1 := p2_6 i (by omega)
  have := ior_n i hi s.toNat (by omega) (by omega)
  rw [show ((s.toNat : Nat) : Int) = s by omega] at this
  exact this
def t_sees (σ : SS) (w : Int) : Int := if 0 ≤ w ∧ w < σ 18 0 then 0 else 1
