/-! the reference's hints -/
def HB (σ : SS) (x : Nat) (p : Int) : Bool := decide (HH (σ 0 p.toNat) (σ 2 x) (σ 3 x) (σ 4 x) (σ 5 x) p)
theorem b01_of {c : Prop} [Decidable c] {r : Int} (h : (r = 1 ∧ c) ∨ (r = 0 ∧ ¬ c)) : r = b01 (decide c) := by
  unfold b01
  rcases h with ⟨h1, h2⟩ | ⟨h1, h2⟩
  · rw [decide_eq_true h2, if_pos rfl]; exact h1
  · rw [decide_eq_false h2, if_neg (by decide)]; exact h1
theorem b01_c (f : Bool) : (b01 f = 1 ∧ f = true) ∨ (b01 f = 0 ∧ f = false) := by cases f <;> decide
def ab (σ : SS) (row : Nat) (but : Int) (p : Nat) (k : Nat) : Bool := alw (fun j => hb (σ 0 p) (dq σ row j) (p : Int)) but k
theorem ab_f {σ : SS} {row : Nat} {but : Int} {p : Nat} : fitb σ row but p = ab σ row but p (hn σ row) := rfl
theorem ab_s {σ : SS} {row : Nat} {but : Int} {p k : Nat} : ab σ row but p (k + 1) = (ab σ row but p k && (decide ((k : Int) = but) || HB σ (5 * row + k) (p : Int))) := rfl
theorem ab_b {σ : SS} {row : Nat} {but : Int} {p k : Nat} {i : Int} (h : i = b01 (ab σ row but p k)) (h2 : (k : Int) = but) : i = b01 (ab σ row but p (k + 1)) := by
  rw [ab_s, h, decide_eq_true h2, Bool.true_or, Bool.and_true]
theorem ab_n {σ : SS} {row : Nat} {but : Int} {p k : Nat} {i r : Int} (h : i = b01 (ab σ row but p k)) (hr : r = b01 (HB σ (5 * row + k) (p : Int))) (h2 : (k : Int) ≠ but) (hi : i ≠ 0) : r = b01 (ab σ row but p (k + 1)) := by
  rcases b01_c (ab σ row but p k) with ⟨h3, h4⟩ | ⟨h3, h4⟩
  · rw [ab_s, h4, decide_eq_false h2, Bool.false_or, Bool.true_and]; exact hr
  · omega
theorem ab_0 {σ : SS} {row : Nat} {but : Int} {p k : Nat} {i : Int} (h : i = b01 (ab σ row but p k)) (hi : i = 0) : (0 : Int) = b01 (ab σ row but p (k + 1)) := by
  rcases b01_c (ab σ row but p k) with ⟨h3, h4⟩ | ⟨h3, h4⟩
  · omega
  · rw [ab_s, h4, Bool.false_and]; rfl
theorem ctb_s {f : Nat → Bool} {k : Nat} {i : Int} (h : i = b01 (f k)) : (i = 0 ∧ ctb f (k + 1) = ctb f k ∧ lsb f (k + 1) = lsb f k) ∨ (i = 1 ∧ ctb f (k + 1) = ctb f k + 1 ∧ lsb f (k + 1) = (k : Int)) := by
  rw [show ctb f (k + 1) = ctb f k + (if f k = true then 1 else 0) from rfl, show lsb f (k + 1) = (if f k = true then (k : Int) else lsb f k) from rfl]
  rcases b01_c (f k) with ⟨h3, h4⟩ | ⟨h3, h4⟩
  · rw [h4, if_pos rfl, if_pos rfl]; exact Or.inr ⟨by omega, rfl, rfl⟩
  · rw [h4, if_neg (by decide), if_neg (by decide)]; exact Or.inl ⟨by omega, by omega, rfl⟩
theorem uq_of {f : Nat → Bool} : (ctb f 64 = 1 ∧ uq f = lsb f 64) ∨ (ctb f 64 ≠ 1 ∧ uq f = -1) := by
  unfold uq
  by_cases h : ctb f 64 = 1
  · rw [if_pos h]; exact Or.inl ⟨h, rfl⟩
  · rw [if_neg h]; exact Or.inr ⟨h, rfl⟩
/-! keeping the ranges -/
theorem Iv_hint {σ : SS} {n : Nat} (h : Iv σ n) {k v m d : Int} (hk : 0 ≤ k ∧ k ≤ 4) (hv : 0 ≤ v ∧ v ≤ 14) (hm : 0 ≤ m ∧ m < 64) (hd : d = 0 ∨ d = 1) (h6 : σ 6 0 < 5) : Iv (n_hint σ k v m d) n := by
  have h60 := h.r6 0 (by decide)
  refine Iv_su (Iv_su (Iv_su (Iv_su (Iv_su h ?_) ?_) ?_) ?_) ?_
  · intro j hj; have := h.r2 j hj; show (0 : Int) ≤ wr _ _ _ _ ∧ wr _ _ _ _ ≤ (4 : Int); unfold wr; split <;> omega
  · intro j hj; have := h.r3 j hj; show (0 : Int) ≤ wr _ _ _ _ ∧ wr _ _ _ _ ≤ (14 : Int); unfold wr; split <;> omega
  · intro j hj; have := h.r4 j hj; show (0 : Int) ≤ wr _ _ _ _ ∧ wr _ _ _ _ ≤ (63 : Int); unfold wr; split <;> omega
  · intro j hj; have := h.r5 j hj; show (0 : Int) ≤ wr _ _ _ _ ∧ wr _ _ _ _ ≤ (1 : Int); unfold wr; split <;> omega
  · intro j hj; have := h.r6 j hj; show (0 : Int) ≤ wr _ _ _ _ ∧ wr _ _ _ _ ≤ (5 : Int); unfold wr; split <;> omega
theorem uq_rg (f : Nat → Bool) : -1 ≤ uq f ∧ uq f ≤ 63 := by
  have := (UQ_uq f).rg
  omega
/-- heights: after the first k stages -/
def shS (σ : SS) (p : Nat) (h : Int) (k : Nat) : SS := su (su (n_ph σ p h) 8 (pl9 σ p h k)) 9 (mv9 σ p h k)
theorem shS_0 {σ : SS} {p : Nat} {h : Int} : shS σ p h 0 = n_ph σ p h := by
  have e1 : pl9 σ p h 0 = (n_ph σ p h) 8 := by funext k; unfold pl9; rw [if_neg (by omega)]; rfl
  have e2 : mv9 σ p h 0 = (n_ph σ p h) 9 := by funext k; unfold mv9; rw [if_neg (by omega)]; rfl
  unfold shS
  rw [e1, su_self, e2, su_self]
theorem su_su {σ : SS} {k : Nat} {f g : Nat → Int} : su (su σ k f) k g = su σ k g := by
  funext i
  unfold su
  split <;> rfl
theorem su_cm {σ : SS} {k l : Nat} {f g : Nat → Int} (h : k ≠ l) : su (su σ k f) l g = su (su σ l g) k f := by
  funext i
  unfold su
  by_cases e : i = k
  · rw [if_neg (show ¬ i = l by omega)]; simp only [if_pos e]
  · simp only [if_neg e]
theorem shS_y {σ : SS} {p : Nat} {h : Int} {k : Nat} {r : Int} (hr : r = npl σ p h k) (hne : r ≠ σ 8 k) : su (su (shS σ p h k) 8 (wr (pl9 σ p h k) k r)) 9 (wr (mv9 σ p h k) k (mv9 σ p h k k + 1)) = shS σ p h (k + 1) := by
  have e1 : wr (pl9 σ p h k) k r = pl9 σ p h (k + 1) := by
    funext j
    unfold pl9
    by_cases e : j = k
    · subst e; rw [wr_at, if_pos (by omega)]; exact hr
    · rw [wr_ne e]
      by_cases w : j < k
      · rw [if_pos w, if_pos (by omega)]
      · rw [if_neg w, if_neg (by omega)]
  have e2 : wr (mv9 σ p h k) k (mv9 σ p h k k + 1) = mv9 σ p h (k + 1) := by
    funext j
    by_cases e : j = k
    · subst e; rw [wr_at]; unfold mv9; rw [if_neg (by omega), if_pos ⟨by omega, by omega⟩]
    · rw [wr_ne e]
      unfold mv9
      by_cases w : j < k ∧ npl σ p h j ≠ σ 8 j
      · rw [if_pos w, if_pos ⟨by omega, w.2⟩]
      · rw [if_neg w, if_neg (fun q => w ⟨by omega, q.2⟩)]
  rw [e1, e2]
  unfold shS
  rw [su_cm (k := 9) (l := 8) (by decide), su_su, su_su]
theorem shS_n {σ : SS} {p : Nat} {h : Int} {k : Nat} (hr : npl σ p h k = σ 8 k) : shS σ p h k = shS σ p h (k + 1) := by
  have e1 : pl9 σ p h k = pl9 σ p h (k + 1) := by
    funext j
    unfold pl9
    by_cases e : j = k
    · subst e; rw [if_neg (by omega), if_pos (by omega)]; exact hr.symm
    · by_cases w : j < k
      · rw [if_pos w, if_pos (by omega)]
      · rw [if_neg w, if_neg (by omega)]
  have e2 : mv9 σ p h k = mv9 σ p h (k + 1) := by
    funext j
    unfold mv9
    by_cases e : j = k
    · subst e; rw [if_neg (by omega), if_neg (fun q => q.2 hr)]
    · by_cases w : j < k ∧ npl σ p h j ≠ σ 8 j
      · rw [if_pos w, if_pos ⟨by omega, w.2⟩]
      · rw [if_neg w, if_neg (fun q => w ⟨by omega, q.2⟩)]
  unfold shS
  rw [e1, e2]
theorem Iv_ph {σ : SS} {n p : Nat} {h : Int} (hI : Iv σ n) (hh : 0 ≤ h ∧ h ≤ 9) : Iv (n_ph σ p h) n := Iv_wr hI (by decide) (by show (0 : Int) ≤ h ∧ h ≤ (9 : Int); omega)
theorem Iv_sh {σ : SS} {n p : Nat} {h : Int} (hI : Iv σ n) (hh : 0 ≤ h ∧ h ≤ 9) (k : Nat) : Iv (shS σ p h k) (n + 1) := by
  refine Iv_su (Iv_su (Iv_ph hI hh).mono ?_) ?_
  · intro j hj
    have h1 := hI.r8 j hj
    have h2 := uq_rg (fitb (n_ph σ p h) (j + 1) (-1))
    show (-1 : Int) ≤ pl9 σ p h k j ∧ pl9 σ p h k j ≤ (63 : Int)
    unfold pl9 npl
    split <;> omega
  · intro j hj
    have h1 := hI.r9 j hj
    show (0 : Int) ≤ mv9 σ p h k j ∧ mv9 σ p h k j ≤ ((n + 1 : Nat) : Int)
    unfold mv9
    split <;> omega
theorem Iv_spell {σ : SS} {n : Nat} {c : Int} (h : Iv σ n) (hc : 0 ≤ c ∧ c ≤ 26) (h5 : σ 11 0 < 5) : Iv (n_spell σ c) n := by
  have h11 := h.r11 0 (by decide)
  refine Iv_su (Iv_su h ?_) ?_
  · intro j hj; have := h.r10 j hj; show (0 : Int) ≤ wr _ _ _ _ ∧ wr _ _ _ _ ≤ (26 : Int); unfold wr; split <;> omega
  · intro j hj; have := h.r11 j hj; show (0 : Int) ≤ wr _ _ _ _ ∧ wr _ _ _ _ ≤ (5 : Int); unfold wr; split <;> omega
