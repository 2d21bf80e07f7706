/-! the reference's ciphers -/
def layC (C : Nat → Int) (cm l : Int) : Nat → Int := if l = 26 then wr (wr C cm.toNat 55357) (cm + 1).toNat 56831 else wr C cm.toNat (97 + l)
def layN (cm l : Int) : Int := if l = 26 then cm + 2 else cm + 1
def CiOK (σ : SS) (s : Nat) (C : Nat → Int) (n : Nat) : Prop := ∀ i : Nat, i < n → (cl9 σ s (i : Int) = 26 ∧ C (csm σ s i).toNat = 55357 ∧ C (csm σ s i + 1).toNat = 56831) ∨ (cl9 σ s (i : Int) ≠ 26 ∧ C (csm σ s i).toNat = 97 + cl9 σ s (i : Int))
theorem CiOK_0 {σ : SS} {s : Nat} {C : Nat → Int} : CiOK σ s C 0 := fun i hi => absurd hi (Nat.not_lt_zero i)
theorem CiOK_s {σ : SS} {s n : Nat} {C : Nat → Int} {cm l : Int} (h : CiOK σ s C n) (hc : cm = csm σ s n) (hl : l = cl9 σ s (n : Int)) : CiOK σ s (layC C cm l) (n + 1) ∧ layN cm l = csm σ s (n + 1) := by
  have hs : csm σ s (n + 1) = csm σ s n + (if cl9 σ s (n : Int) = 26 then 2 else 1) := rfl
  refine ⟨fun i hi => ?_, ?_⟩
  · have h0 := csm_rg σ s i
    have h0n := csm_rg σ s n
    by_cases e : i = n
    · subst e
      unfold layC
      by_cases w : l = 26
      · rw [if_pos w]
        refine Or.inl ⟨by omega, ?_, ?_⟩
        · rw [wr_ne (by omega), hc, wr_at]
        · rw [hc, wr_at]
      · rw [if_neg w, hc, wr_at, hl]
        exact Or.inr ⟨by omega, rfl⟩
    · have h1 := csm_mono σ s (show i + 1 ≤ n by omega)
      have h2 : csm σ s (i + 1) = csm σ s i + (if cl9 σ s (i : Int) = 26 then 2 else 1) := rfl
      have key : ∀ x : Int, 0 ≤ x → x < csm σ s n → layC C cm l x.toNat = C x.toNat := fun x hx hx2 => by
        unfold layC
        split
        · rw [wr_ne (by omega), wr_ne (by omega)]
        · rw [wr_ne (by omega)]
      rcases h i (by omega) with ⟨a1, a2, a3⟩ | ⟨a1, a2⟩
      · rw [if_pos a1] at h2
        refine Or.inl ⟨a1, ?_, ?_⟩
        · rw [key _ (by omega) (by omega)]; exact a2
        · rw [key _ (by omega) (by omega)]; exact a3
      · rw [if_neg a1] at h2
        refine Or.inr ⟨a1, ?_⟩
        rw [key _ (by omega) (by omega)]; exact a2
  · unfold layN
    rw [hs, hl, hc]
    split <;> rfl
theorem csm_find {σ : SS} {s : Nat} {c : Int} (h0 : 0 ≤ c) : ∀ n : Nat, c < csm σ s n → ∃ i, i < n ∧ csm σ s i ≤ c ∧ c < csm σ s (i + 1)
  | 0, h => by
    have : csm σ s 0 = 0 := rfl
    omega
  | n + 1, h => by
    by_cases w : c < csm σ s n
    · obtain ⟨i, h1, h2, h3⟩ := csm_find h0 n w
      exact ⟨i, by omega, h2, h3⟩
    · exact ⟨n, by omega, by omega, h⟩
theorem CiOK_at {σ : SS} {k c : Int} {C : Nat → Int} (h : CiOK σ k.toNat C (ln σ (k.toNat + 1) + 1)) (h0 : 0 ≤ c) (hc : c < clen σ k) : b_cipherAt σ k c (C c.toNat) := by
  obtain ⟨i, h1, h2, h3⟩ := csm_find h0 _ hc
  refine ⟨i, h1, h2, h3, ?_⟩
  have h4 : csm σ k.toNat (i + 1) = csm σ k.toNat i + (if cl9 σ k.toNat (i : Int) = 26 then 2 else 1) := rfl
  unfold chr9
  rcases h i h1 with ⟨a1, a2, a3⟩ | ⟨a1, a2⟩
  · rw [if_pos a1] at h4
    rw [if_neg (fun q => q a1)]
    by_cases e : c = csm σ k.toNat i
    · rw [if_pos (by omega), e, a2]
    · rw [if_neg (by omega), show c = csm σ k.toNat i + 1 by omega, a3]
  · rw [if_neg a1] at h4
    rw [if_pos a1, show c = csm σ k.toNat i by omega, a2]
theorem cl9_rg {σ : SS} {n : Nat} (hI : Iv σ n) {s : Nat} (hs : s < 6) (hp : 0 ≤ σ 8 s) (hm : 1 ≤ ln σ (s + 1)) {i : Int} (hi : 0 ≤ i ∧ i ≤ ln σ (s + 1)) : 0 ≤ cl9 σ s i ∧ cl9 σ s i ≤ 26 := by
  have h11 := hI.r11 (s + 1) (by omega)
  have hl5 : ln σ (s + 1) ≤ 5 := by unfold ln; omega
  unfold cl9 cil
  generalize ln σ (s + 1) = m at hm hi hl5 ⊢
  have h1 : 0 ≤ σ 8 s % ((m : Int) + 1) ∧ σ 8 s % ((m : Int) + 1) ≤ m := ⟨Int.emod_nonneg _ (by omega), by have := Int.emod_lt_of_pos (σ 8 s) (show (0 : Int) < (m : Int) + 1 by omega); omega⟩
  generalize σ 8 s % ((m : Int) + 1) = gp at h1 ⊢
  split
  · omega
  · have key : ∀ j : Nat, j < 5 → 0 ≤ lw σ (s + 1) j := fun j hj => (hI.r10 (5 * (s + 1) + j) (by omega)).1
    have h2 := key (if σ 8 s % 2 = 1 then (m : Int) - 1 - (if i < gp then i else i - 1) else (if i < gp then i else i - 1)).toNat (by split <;> split <;> omega)
    omega
theorem b_cipherAt_rg {σ : SS} {n : Nat} (hI : Iv σ n) {k c r : Int} (hk : 0 ≤ k ∧ k < 6) (hp : 0 ≤ σ 8 k.toNat) (hm : 1 ≤ ln σ (k.toNat + 1)) (h : b_cipherAt σ k c r) : 0 ≤ r ∧ r < 65536 := by
  obtain ⟨i, h1, h2, h3, h4⟩ := h
  have h5 := cl9_rg hI (s := k.toNat) (by omega) hp hm (i := (i : Int)) (by omega)
  rw [h4]
  unfold chr9
  split
  · omega
  · split <;> omega
/-! a new stage, in the reference's rows -/
def CanI (σ : SS) (k : Nat) (i : Int) : Prop := (i = 1 ∧ uq (fitb σ 0 (-1)) ≠ -1 ∧ 0 < σ 11 0 ∧ σ 7 0 < 6 ∧ ∀ j : Nat, j < k → ctb (fitb σ 0 (j : Int)) 64 ≠ 1) ∨ (i = 0 ∧ t_stage σ = 1)
theorem CanI.rg {σ : SS} {k : Nat} {i : Int} (h : CanI σ k i) : i = 0 ∨ i = 1 := by
  rcases h with ⟨h, -⟩ | ⟨h, -⟩
  · exact Or.inr h
  · exact Or.inl h
theorem CanI_0 {σ : SS} {i : Int} (h : (i = 1 ∧ uq (fitb σ 0 (-1)) ≠ -1 ∧ 0 < σ 11 0 ∧ σ 7 0 < 6) ∨ (i = 0 ∧ ¬ (uq (fitb σ 0 (-1)) ≠ -1 ∧ 0 < σ 11 0 ∧ σ 7 0 < 6))) : CanI σ 0 i := by
  rcases h with ⟨h1, h2, h3, h4⟩ | ⟨h1, h2⟩
  · exact Or.inl ⟨h1, h2, h3, h4, fun j hj => absurd hj (Nat.not_lt_zero j)⟩
  · refine Or.inr ⟨h1, ?_⟩
    unfold t_stage
    rw [if_neg (fun q => h2 ⟨q.1, q.2.2.1, q.2.2.2⟩)]
theorem CanI_y {σ : SS} {k : Nat} {i : Int} (h : CanI σ k i) (hi : i ≠ 0) (h2 : ctb (fitb σ 0 (k : Int)) 64 ≠ 1) : CanI σ (k + 1) 1 := by
  rcases h with ⟨a1, a2, a3, a4, a5⟩ | ⟨a1, -⟩
  · refine Or.inl ⟨rfl, a2, a3, a4, fun j hj => ?_⟩
    by_cases e : j = k
    · subst e; exact h2
    · exact a5 j (by omega)
  · exact absurd a1 hi
theorem CanI_n {σ : SS} {k : Nat} {i : Int} (h : CanI σ k i) (hk : k < hn σ 0) (h2 : i = 0 ∨ ctb (fitb σ 0 (k : Int)) 64 = 1) : CanI σ (k + 1) 0 := by
  refine Or.inr ⟨rfl, ?_⟩
  rcases h with ⟨a1, a2, a3, a4, a5⟩ | ⟨a1, a2⟩
  · unfold t_stage
    rw [if_neg (fun q => q.2.1 k hk (by omega))]
  · exact a2
theorem CanI.e {σ : SS} {k : Nat} {i : Int} (h : CanI σ k i) (hk : hn σ 0 ≤ k) : (i = 1 ∧ t_stage σ = 0 ∧ σ 7 0 < 6) ∨ (i = 0 ∧ t_stage σ = 1) := by
  rcases h with ⟨a1, a2, a3, a4, a5⟩ | h
  · refine Or.inl ⟨a1, ?_, a4⟩
    unfold t_stage
    rw [if_pos ⟨a2, fun j hj => a5 j (by omega), a3, a4⟩]
  · exact Or.inr h
def cpk (f : Nat → Int) (r k : Nat) : Nat → Int := fun i => if 5 * r ≤ i ∧ i < 5 * r + k then f (i - 5 * r) else f i
theorem cpk_0 {f : Nat → Int} {r : Nat} : cpk f r 0 = f := by
  funext i
  unfold cpk
  rw [if_neg (by omega)]
theorem cpk_5 {f : Nat → Int} {r : Nat} : cpk f r 5 = cp5 f r := rfl
theorem cpk_k {f : Nat → Int} {r k j : Nat} (h : j < 5) (hr : 1 ≤ r) : cpk f r k j = f j := by
  unfold cpk
  rw [if_neg (by omega)]
theorem cpk_s {f : Nat → Int} {r k : Nat} (hk : k < 5) (hr : 1 ≤ r) : wr (cpk f r k) (5 * r + k) (cpk f r k k) = cpk f r (k + 1) := by
  rw [cpk_k hk hr]
  funext i
  by_cases e : i = 5 * r + k
  · subst e
    rw [wr_at]
    unfold cpk
    rw [if_pos (by omega)]
    congr 1; omega
  · rw [wr_ne e]
    unfold cpk
    by_cases w : 5 * r ≤ i ∧ i < 5 * r + k
    · rw [if_pos w, if_pos (by omega)]
    · rw [if_neg w, if_neg (by omega)]
def stK (σ : SS) (r k : Nat) : SS := su (su (su (su (su (su (su σ 6 (wr (σ 6) r (σ 6 0))) 11 (wr (σ 11) r (σ 11 0))) 2 (cpk (σ 2) r k)) 3 (cpk (σ 3) r k)) 4 (cpk (σ 4) r k)) 5 (cpk (σ 5) r k)) 10 (cpk (σ 10) r k)
theorem stK_0 {σ : SS} {r : Nat} : stK σ r 0 = su (su σ 6 (wr (σ 6) r (σ 6 0))) 11 (wr (σ 11) r (σ 11 0)) := by
  unfold stK
  rw [cpk_0, cpk_0, cpk_0, cpk_0, cpk_0]
  funext i
  unfold su
  by_cases e1 : i = 2
  · subst e1; rfl
  · by_cases e2 : i = 3
    · subst e2; rfl
    · by_cases e3 : i = 4
      · subst e3; rfl
      · by_cases e4 : i = 5
        · subst e4; rfl
        · by_cases e5 : i = 10
          · subst e5; rfl
          · simp [e1, e2, e3, e4, e5]
theorem stK_s {σ : SS} {r k : Nat} {a b c d e : Nat → Int} (ha : a = cpk (σ 2) r (k + 1)) (hb : b = cpk (σ 3) r (k + 1)) (hc : c = cpk (σ 4) r (k + 1)) (hd : d = cpk (σ 5) r (k + 1)) (he : e = cpk (σ 10) r (k + 1)) : su (su (su (su (su (stK σ r k) 2 a) 3 b) 4 c) 5 d) 10 e = stK σ r (k + 1) := by
  subst ha; subst hb; subst hc; subst hd; subst he
  funext i
  unfold stK su
  by_cases e1 : i = 2
  · subst e1; rfl
  · by_cases e2 : i = 3
    · subst e2; rfl
    · by_cases e3 : i = 4
      · subst e3; rfl
      · by_cases e4 : i = 5
        · subst e4; rfl
        · by_cases e5 : i = 10
          · subst e5; rfl
          · simp [e1, e2, e3, e4, e5]
theorem Iv_stK {σ : SS} {n r k : Nat} (hI : Iv σ n) (hr : r < 7) (hk : k ≤ 5) : Iv (stK σ r k) n := by
  have key : ∀ (f : Nat → Int) (lo hi : Int), (∀ j, j < 35 → lo ≤ f j ∧ f j ≤ hi) → ∀ j, j < 35 → lo ≤ cpk f r k j ∧ cpk f r k j ≤ hi := fun f lo hi h j hj => by
    unfold cpk
    split
    · exact h _ (by omega)
    · exact h j hj
  have k2 : ∀ (f : Nat → Int) (lo hi : Int), (∀ j, j < 7 → lo ≤ f j ∧ f j ≤ hi) → ∀ j, j < 7 → lo ≤ wr f r (f 0) j ∧ wr f r (f 0) j ≤ hi := fun f lo hi h j hj => by
    unfold wr
    split
    · exact h _ (by omega)
    · exact h j hj
  exact Iv_su (Iv_su (Iv_su (Iv_su (Iv_su (Iv_su (Iv_su hI (k2 _ _ _ hI.r6)) (k2 _ _ _ hI.r11)) (key _ _ _ hI.r2)) (key _ _ _ hI.r3)) (key _ _ _ hI.r4)) (key _ _ _ hI.r5)) (key _ _ _ hI.r10)
theorem stK_uq {σ : SS} {n r : Nat} (hI : Iv σ n) (hr : 1 ≤ r) : uq (fitb (stK σ r 5) r (-1)) = uq (fitb σ 0 (-1)) := by
  have h6 := hI.r6 0 (by decide)
  refine uq_cong fun p hp => ?_
  have e : hn (stK σ r 5) r = hn σ 0 := by
    show (wr (σ 6) r (σ 6 0) r).toNat = _
    rw [wr_at]; rfl
  show allat (σ 0) (dq (stK σ r 5) r) (-1) (hn (stK σ r 5) r) p = allat (σ 0) (dq σ 0) (-1) (hn σ 0) p
  rw [e]
  refine allat_cong (fun j hj i hi => ?_) rfl
  have hj5 : j < 5 := by unfold hn at hj; omega
  have e3 : ∀ f : Nat → Int, cpk f r 5 (5 * r + j) = f (5 * 0 + j) := fun f => by
    rw [cpk_5, cp5_in hj5, Nat.mul_zero, Nat.zero_add]
  match i with
  | 0 => exact e3 (σ 2)
  | 1 => exact e3 (σ 3)
  | 2 => exact e3 (σ 4)
  | i + 3 => exact e3 (σ 5)
theorem stK_n {σ : SS} {f g : Nat → Int} (hf : f = wr (σ 8) (σ 7 0).toNat (uq (fitb σ 0 (-1)))) (hg : g = wr (wr (σ 6) ((σ 7 0).toNat + 1) (σ 6 0)) 0 0) : su (su (su (stK σ ((σ 7 0).toNat + 1) 5) 8 f) 6 g) 7 (wr (σ 7) 0 (σ 7 0 + 1)) = n_stage σ := by
  subst hf; subst hg
  funext i
  unfold stK n_stage su
  rw [cpk_5, cpk_5, cpk_5, cpk_5, cpk_5]
  by_cases e1 : i = 2
  · subst e1; rfl
  · by_cases e2 : i = 3
    · subst e2; rfl
    · by_cases e3 : i = 4
      · subst e3; rfl
      · by_cases e4 : i = 5
        · subst e4; rfl
        · by_cases e5 : i = 10
          · subst e5; rfl
          · by_cases e6 : i = 6
            · subst e6; rfl
            · by_cases e7 : i = 11
              · subst e7; rfl
              · by_cases e8 : i = 8
                · subst e8; rfl
                · by_cases e9 : i = 7
                  · subst e9; rfl
                  · simp [e1, e2, e3, e4, e5, e6, e7, e8, e9]
