/-! what each call answers, on: ranks, wardens, stages -/
def b_rank (σ : SS) (num : Int) (mine : Int) : Nat → Int
  | 0 => 0
  | n + 1 => b_rank σ num mine n + (if mine < b_score σ n ∨ (b_score σ n = mine ∧ (n : Int) < num) then 1 else 0)
theorem b_rank_rg (σ : SS) (num mine : Int) : ∀ n, 0 ≤ b_rank σ num mine n ∧ b_rank σ num mine n ≤ n
  | 0 => ⟨Int.le_refl _, Int.le_refl _⟩
  | n + 1 => by
    have := b_rank_rg σ num mine n
    unfold b_rank
    split <;> omega
def rkw (σ : SS) (w : Nat) : Int := b_rank σ (w : Int) (b_score σ w) (σ 12 0).toNat
def b_walkerAt (σ : SS) (c : Int) (r : Int) : Prop := (∃ w : Nat, (w : Int) < σ 12 0 ∧ r = w ∧ rkw σ w = c ∧ ∀ v, v < w → rkw σ v ≠ c) ∨ ((∀ w : Nat, (w : Int) < σ 12 0 → rkw σ w ≠ c) ∧ r = -1)
theorem b_walkerAt_one {σ : SS} {c r r2 : Int} (h : b_walkerAt σ c r) (h2 : b_walkerAt σ c r2) : r = r2 := by
  rcases h with ⟨w, h1, h3, h4, h5⟩ | ⟨h1, h3⟩
  · rcases h2 with ⟨w2, g1, g3, g4, g5⟩ | ⟨g1, g3⟩
    · have : w = w2 := by
        rcases Nat.lt_trichotomy w w2 with q | q | q
        · exact absurd h4 (g5 w q)
        · exact q
        · exact absurd g4 (h5 w2 q)
      omega
    · exact absurd h4 (g1 w h1)
  · rcases h2 with ⟨w2, g1, g3, g4, g5⟩ | ⟨g1, g3⟩
    · exact absurd g4 (h1 w2 g1)
    · omega
/-- what a warden sees -/
def p2 : Nat → Int
  | 0 => 1
  | n + 1 => 2 * p2 n
def seeN (σ : SS) (p : Int) : Nat → Int
  | 0 => 0
  | n + 1 => seeN σ p n + (if dst p (σ 14 n) ≤ 3 then p2 n else 0)
theorem p2_6 : ∀ i, i < 7 → 1 ≤ p2 i ∧ p2 i ≤ 64 := by decide +kernel
theorem seeN_rg (σ : SS) (p : Int) : ∀ n, 0 ≤ seeN σ p n ∧ seeN σ p n < p2 n
  | 0 => ⟨Int.le_refl _, by (show (0 : Int) < 1; omega)⟩
  | n + 1 => by
    have := seeN_rg σ p n
    rw [show seeN σ p (n + 1) = seeN σ p n + (if dst p (σ 14 n) ≤ 3 then p2 n else 0) from rfl, show p2 (n + 1) = 2 * p2 n from rfl]
    split <;> omega
theorem ior_n : ∀ i, i < 6 → ∀ s : Nat, s < 64 → (s : Int) < p2 i → zI (s : Int) ||| (zI 1 <<< (zI (i : Int) &&& 31)) = zI ((s : Int) + p2 i) := by decide +kernel
theorem ior_z {i : Nat} (hi : i < 6) {s : Int} (h : 0 ≤ s ∧ s < p2 i) : zI s ||| (zI 1 <<< (zI (i : Int) &&& 31)) = zI (s + p2 i) := by
  have h1 := p2_6 i (by omega)
  have := ior_n i hi s.toNat (by omega) (by omega)
  rw [show ((s.toNat : Nat) : Int) = s by omega] at this
  exact this
def t_sees (σ : SS) (w : Int) : Int := if 0 ≤ w ∧ w < σ 18 0 then 0 else 1
/-! ciphers -/
theorem cil_cong {W W' : Nat → Int} {m : Nat} {p i : Int} (hp : 0 ≤ p) (hi : 0 ≤ i ∧ i ≤ m) (hm : 1 ≤ m) (h : ∀ j, j < m → W j = W' j) : cil W m p i = cil W' m p i := by
  have h1 : 0 ≤ p % ((m : Int) + 1) ∧ p % ((m : Int) + 1) ≤ m := ⟨Int.emod_nonneg _ (by omega), by have := Int.emod_lt_of_pos p (show (0 : Int) < (m : Int) + 1 by omega); omega⟩
  unfold cil
  split
  · rfl
  · rw [h _ (by split <;> split <;> omega)]
def cl9 (σ : SS) (s : Nat) (i : Int) : Int := cil (lw σ (s + 1)) (ln σ (s + 1)) (σ 8 s) i
def csm (σ : SS) (s : Nat) : Nat → Int
  | 0 => 0
  | n + 1 => csm σ s n + (if cl9 σ s (n : Int) = 26 then 2 else 1)
theorem csm_rg (σ : SS) (s : Nat) : ∀ n : Nat, (n : Int) ≤ csm σ s n ∧ csm σ s n ≤ 2 * n
  | 0 => ⟨Int.le_refl _, Int.le_refl _⟩
  | n + 1 => by
    have := csm_rg σ s n
    unfold csm
    split <;> omega
theorem csm_mono (σ : SS) (s : Nat) {i j : Nat} (h : i ≤ j) : csm σ s i ≤ csm σ s j := by
  induction j with
  | zero => rw [show i = 0 by omega]; exact Int.le_refl _
  | succ j ih =>
    by_cases e : i = j + 1
    · rw [e]; exact Int.le_refl _
    · have := ih (by omega)
      rw [show csm σ s (j + 1) = csm σ s j + (if cl9 σ s (j : Int) = 26 then 2 else 1) from rfl]
      split <;> omega
def t_cipher (σ : SS) (k : Int) : Int := if 0 ≤ k ∧ k < σ 7 0 then (if σ 8 k.toNat = -1 then 2 else 0) else 1
def clen (σ : SS) (k : Int) : Int := csm σ k.toNat (ln σ (k.toNat + 1) + 1)
def t_cipherAt (σ : SS) (k c : Int) : Int := if 0 ≤ k ∧ k < σ 7 0 then (if σ 8 k.toNat ≠ -1 ∧ 0 ≤ c ∧ c < clen σ k then 0 else 2) else 1
def chr9 (l i : Int) : Int := if l ≠ 26 then 97 + l else if i = 0 then 55357 else 56831
def b_cipherAt (σ : SS) (k c r : Int) : Prop := ∃ i : Nat, i < ln σ (k.toNat + 1) + 1 ∧ csm σ k.toNat i ≤ c ∧ c < csm σ k.toNat (i + 1) ∧ r = chr9 (cl9 σ k.toNat (i : Int)) (c - csm σ k.toNat i)
theorem b_cipherAt_one {σ : SS} {k c r r2 : Int} (h : b_cipherAt σ k c r) (h2 : b_cipherAt σ k c r2) : r = r2 := by
  obtain ⟨i, h1, h3, h4, h5⟩ := h
  obtain ⟨j, g1, g3, g4, g5⟩ := h2
  have : i = j := by
    rcases Nat.lt_trichotomy i j with q | q | q
    · have := csm_mono σ k.toNat (show i + 1 ≤ j from q); omega
    · exact q
    · have := csm_mono σ k.toNat (show j + 1 ≤ i from q); omega
  subst this
  rw [h5, g5]
