/-! a new stage -/
def cp5 (f : Nat → Int) (r : Nat) : Nat → Int := fun i => if 5 * r ≤ i ∧ i < 5 * r + 5 then f (i - 5 * r) else f i
theorem cp5_in {f : Nat → Int} {r j : Nat} (h : j < 5) : cp5 f r (5 * r + j) = f j := by
  unfold cp5
  rw [if_pos (by omega)]
  congr 1; omega
theorem cp5_out {f : Nat → Int} {r i : Nat} (h : i < 5 * r ∨ 5 * r + 5 ≤ i) : cp5 f r i = f i := by
  unfold cp5
  rw [if_neg (by omega)]
def t_stage (σ : SS) : Int := if uq (fitb σ 0 (-1)) ≠ -1 ∧ (∀ k : Nat, k < hn σ 0 → ctb (fitb σ 0 (k : Int)) 64 ≠ 1) ∧ 0 < σ 11 0 ∧ σ 7 0 < 6 then 0 else 1
def n_stage (σ : SS) : SS := su (su (su (su (su (su (su (su (su σ 2 (cp5 (σ 2) ((σ 7 0).toNat + 1))) 3 (cp5 (σ 3) ((σ 7 0).toNat + 1))) 4 (cp5 (σ 4) ((σ 7 0).toNat + 1))) 5 (cp5 (σ 5) ((σ 7 0).toNat + 1))) 10 (cp5 (σ 10) ((σ 7 0).toNat + 1))) 6 (wr (wr (σ 6) ((σ 7 0).toNat + 1) (σ 6 0)) 0 0)) 11 (wr (σ 11) ((σ 7 0).toNat + 1) (σ 11 0))) 8 (wr (σ 8) (σ 7 0).toNat (uq (fitb σ 0 (-1))))) 7 (wr (σ 7) 0 (σ 7 0 + 1))
theorem dq_stage {σ : SS} {nS : Nat} (h : σ 7 0 = nS) {j : Nat} (hj : j < 5) : ∀ i, dq σ 0 j i = dq (n_stage σ) (nS + 1) j i := by
  have e : (σ 7 0).toNat = nS := by omega
  refine dq_cong ?_ ?_ ?_ ?_
  · show cp5 (σ 2) ((σ 7 0).toNat + 1) (5 * (nS + 1) + j) = _; rw [e, cp5_in hj, Nat.mul_zero, Nat.zero_add]
  · show cp5 (σ 3) ((σ 7 0).toNat + 1) (5 * (nS + 1) + j) = _; rw [e, cp5_in hj, Nat.mul_zero, Nat.zero_add]
  · show cp5 (σ 4) ((σ 7 0).toNat + 1) (5 * (nS + 1) + j) = _; rw [e, cp5_in hj, Nat.mul_zero, Nat.zero_add]
  · show cp5 (σ 5) ((σ 7 0).toNat + 1) (5 * (nS + 1) + j) = _; rw [e, cp5_in hj, Nat.mul_zero, Nat.zero_add]
theorem dq_stage2 {σ : SS} {nS : Nat} (h : σ 7 0 = nS) {r j : Nat} (hr : r < nS) (hj : j < 5) : ∀ i, dq σ (r + 1) j i = dq (n_stage σ) (r + 1) j i := by
  have e : (σ 7 0).toNat = nS := by omega
  refine dq_cong ?_ ?_ ?_ ?_
  · show cp5 (σ 2) ((σ 7 0).toNat + 1) (5 * (r + 1) + j) = _; rw [e]; exact cp5_out (by omega)
  · show cp5 (σ 3) ((σ 7 0).toNat + 1) (5 * (r + 1) + j) = _; rw [e]; exact cp5_out (by omega)
  · show cp5 (σ 4) ((σ 7 0).toNat + 1) (5 * (r + 1) + j) = _; rw [e]; exact cp5_out (by omega)
  · show cp5 (σ 5) ((σ 7 0).toNat + 1) (5 * (r + 1) + j) = _; rw [e]; exact cp5_out (by omega)
theorem lw_stage {σ : SS} {nS : Nat} (h : σ 7 0 = nS) {j : Nat} (hj : j < 5) : lw (n_stage σ) (nS + 1) j = lw σ 0 j := by
  have e : (σ 7 0).toNat = nS := by omega
  show cp5 (σ 10) ((σ 7 0).toNat + 1) (5 * (nS + 1) + j) = σ 10 (5 * 0 + j)
  rw [e, cp5_in hj, Nat.mul_zero, Nat.zero_add]
theorem lw_stage0 {σ : SS} : ∀ j, j < 5 → lw σ 0 j = lw (n_stage σ) 0 j := fun j hj => by
  show _ = cp5 (σ 10) ((σ 7 0).toNat + 1) (5 * 0 + j)
  rw [cp5_out (by omega)]; rfl
theorem TextR.cong {G : GG} {μ : Mm} {a r n : Nat} {W W' : Nat → Int} (h : TextR G μ a r n W) (e : ∀ j, j < 5 → W j = W' j) : TextR G μ a r n W' := by
  obtain ⟨f, h1, h2, h3, h4⟩ := h
  exact ⟨f, h1, h2.cong e, h3, fun j hj => by rw [← e j hj]; exact h4 j hj⟩
theorem StF.add {G : GG} {z : Nat} {μ : Mm} {xs : Nat → Nat} {n e : Nat} {σ σ' : SS} {H P P' M W : Nat → Int} {nD nL : Nat} {p : Int} (h : StF G z μ xs 0 n σ H P M) (hn5 : nD ≤ 5) (hs : StageR G z μ e (100 + 100 * n) nD (dq σ 0) H nL W p 0) (e6 : ∀ k, k < n → σ' 6 (k + 1) = σ 6 (k + 1)) (e11 : ∀ k, k < n → σ' 11 (k + 1) = σ 11 (k + 1)) (e2 : ∀ k, k < n → ∀ j : Nat, (j : Int) < σ 6 (k + 1) → ∀ i, dq σ (k + 1) j i = dq σ' (k + 1) j i) (e10 : ∀ k, k < n → ∀ j : Nat, (j : Int) < σ 11 (k + 1) → σ' 10 (5 * (k + 1) + j) = σ 10 (5 * (k + 1) + j))
    (hp : P' n = p) (hm : M n = 0) (f6 : hn σ' (n + 1) = nD) (f11 : ln σ' (n + 1) = nL) (fq : ∀ j, j < 5 → ∀ i, dq σ 0 j i = dq σ' (n + 1) j i) (fW : ∀ j, j < nL → W j = lw σ' (n + 1) j) (hP : ∀ k, k < n → P' k = P k) : StF G z μ (apn xs n e) 0 (n + 1) σ' H P' M := fun k h1 h2 => by
  by_cases q : k = n
  · subst q
    rw [f11, f6, hp, hm, apn_at]
    exact ⟨W, fW, hs.cong (fun j hj i _ => fq j (by omega) i)⟩
  · rw [hP k (by omega), apn_ne q]
    exact h.cg e6 e11 e2 e10 k h1 (by omega)
