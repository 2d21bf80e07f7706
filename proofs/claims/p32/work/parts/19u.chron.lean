/-! one entry more in the chronicle -/
theorem cnw_cong {En En' : Nat → Int} {c : Int} : ∀ {k : Nat}, (∀ j, j < k → En j = En' j) → cnw En c k = cnw En' c k
  | 0, _ => rfl
  | k + 1, h => by
    unfold cnw
    rw [cnw_cong (fun j hj => h j (by omega)), h k (by omega)]
theorem cnt_cong {En En' : Nat → Int} {c : Int} : ∀ {k : Nat}, (∀ j, j < k → En j = En' j) → cnt En c k = cnt En' c k
  | 0, _ => rfl
  | k + 1, h => by
    unfold cnt
    rw [cnt_cong (fun j hj => h j (by omega)), h k (by omega)]
theorem wr_old {En : Nat → Int} {n k : Nat} {v : Int} (h : k ≤ n) : ∀ j, j < k → En j = wr En n v j := fun j hj => Eq.symm (wr_ne (by omega))
/-- of another code -/
theorem chr_far {En : Nat → Int} {n : Nat} {x y : Int} {κ : Int} (hκ : 0 ≤ κ ∧ κ < 3) (hxy : x ≠ y) : (∀ r, PFO En (y * 3) n r → PFO (wr En n (x * 3 + κ)) (y * 3) (n + 1) r) ∧ ((∀ i, i < n → En i ≠ y * 3) → ∀ i, i < n + 1 → wr En n (x * 3 + κ) i ≠ y * 3) ∧ cnw (wr En n (x * 3 + κ)) (y * 3) (n + 1) = cnw En (y * 3) n ∧ cnt (wr En n (x * 3 + κ)) (y * 3) (n + 1) = cnt En (y * 3) n := by
  have hno : (∀ i, i < n → En i ≠ y * 3) → ∀ i, i < n + 1 → wr En n (x * 3 + κ) i ≠ y * 3 := fun h i hi => by
    by_cases e : i = n
    · subst e; rw [wr_at]; omega
    · rw [wr_ne e]; exact h i (by omega)
  refine ⟨fun r h => ?_, hno, ?_, ?_⟩
  · rcases h with ⟨i, h1, h2, h3, h4⟩ | ⟨h1, h2⟩
    · refine Or.inl ⟨i, by omega, by rw [wr_ne (by omega)]; exact h2, fun j hj => by rw [wr_ne (by omega)]; exact h3 j hj, ?_⟩
      rw [h4, cnw_cong (wr_old (v := x * 3 + κ) (show i ≤ n by omega)), cnt_cong (wr_old (v := x * 3 + κ) (show i ≤ n by omega))]
    · exact Or.inr ⟨hno h1, h2⟩
  · rw [show cnw (wr En n (x * 3 + κ)) (y * 3) (n + 1) = cnw (wr En n (x * 3 + κ)) (y * 3) n + (if wr En n (x * 3 + κ) n - y * 3 = 1 then 1 else 0) from rfl, wr_at, if_neg (by omega), ← cnw_cong (wr_old (v := x * 3 + κ) (Nat.le_refl n))]
    omega
  · rw [show cnt (wr En n (x * 3 + κ)) (y * 3) (n + 1) = (if cnt (wr En n (x * 3 + κ)) (y * 3) n = 0 then (if wr En n (x * 3 + κ) n - y * 3 = 2 then 1 else 0) else 1) from rfl, wr_at, if_neg (by omega : ¬ x * 3 + κ - y * 3 = 2), ← cnt_cong (wr_old (v := x * 3 + κ) (Nat.le_refl n))]
    have := cnt_rg En (y * 3) n
    split <;> omega
/-- of the same code, which wasn't answered rightly yet -/
theorem chr_near {En : Nat → Int} {n : Nat} {x : Int} {κ : Int} (h : ∀ i, i < n → En i ≠ x * 3) : (κ = 0 → PFO (wr En n (x * 3 + κ)) (x * 3) (n + 1) (pts (cnw En (x * 3) n) (cnt En (x * 3) n))) ∧ (κ ≠ 0 → ∀ i, i < n + 1 → wr En n (x * 3 + κ) i ≠ x * 3) ∧ cnw (wr En n (x * 3 + κ)) (x * 3) (n + 1) = cnw En (x * 3) n + (if κ = 1 then 1 else 0) ∧ cnt (wr En n (x * 3 + κ)) (x * 3) (n + 1) = (if κ = 2 then 1 else cnt En (x * 3) n) := by
  refine ⟨fun hk => ?_, fun hk i hi => ?_, ?_, ?_⟩
  · subst hk
    refine Or.inl ⟨n, by omega, by rw [wr_at]; omega, fun j hj => by rw [wr_ne (by omega)]; exact h j hj, ?_⟩
    rw [cnw_cong (wr_old (v := x * 3 + 0) (Nat.le_refl n)), cnt_cong (wr_old (v := x * 3 + 0) (Nat.le_refl n))]
  · by_cases e : i = n
    · subst e; rw [wr_at]; omega
    · rw [wr_ne e]; exact h i (by omega)
  · rw [show cnw (wr En n (x * 3 + κ)) (x * 3) (n + 1) = cnw (wr En n (x * 3 + κ)) (x * 3) n + (if wr En n (x * 3 + κ) n - x * 3 = 1 then 1 else 0) from rfl, wr_at, ← cnw_cong (wr_old (v := x * 3 + κ) (Nat.le_refl n))]
    split <;> split <;> omega
  · rw [show cnt (wr En n (x * 3 + κ)) (x * 3) (n + 1) = (if cnt (wr En n (x * 3 + κ)) (x * 3) n = 0 then (if wr En n (x * 3 + κ) n - x * 3 = 2 then 1 else 0) else 1) from rfl, wr_at, ← cnt_cong (wr_old (v := x * 3 + κ) (Nat.le_refl n))]
    have := cnt_rg En (x * 3) n
    split <;> split <;> (try split) <;> omega
/-- a telling -/
theorem Ic.tell {σ : SS} {nC : Nat} {so sc En : Nat → Int} (h : Ic σ nC so sc En) {w s : Nat} (hw : w < 6) (hs : s < 6) (hso : so w ≤ s) : Ic (su σ 21 (wr (σ 21) (6 * w + s) 1)) (nC + 1) so sc (wr En nC (((w : Int) * 6 + s) * 3 + 2)) := fun v hv => by
  obtain ⟨h1, h2, h3, h4, h5⟩ := h v hv
  refine ⟨h1, h2, h3, ?_, fun u hu => ?_⟩
  · rw [h4]
    refine sm_cong fun u hu => ?_
    show _ = if σ 20 (6 * v + u) = 1 then pts (σ 22 (6 * v + u)) (wr (σ 21) (6 * w + s) 1 (6 * v + u)) else 0
    by_cases e : 6 * v + u = 6 * w + s
    · have e1 : v = w := by omega
      have e2 : u = s := by omega
      subst e1; subst e2
      have := h.bit hv hu
      rw [if_neg (by omega)] at this
      rw [if_neg (by omega), if_neg (by omega)]
    · rw [wr_ne e]
  · show ((u : Int) < so v ∧ σ 20 (6 * v + u) = 1 ∧ PFO (wr En nC (((w : Int) * 6 + s) * 3 + 2)) (((v : Int) * 6 + u) * 3) (nC + 1) (pts (σ 22 (6 * v + u)) (wr (σ 21) (6 * w + s) 1 (6 * v + u)))) ∨ (so v ≤ u ∧ σ 20 (6 * v + u) = 0 ∧ (∀ i, i < nC + 1 → wr En nC (((w : Int) * 6 + s) * 3 + 2) i ≠ ((v : Int) * 6 + u) * 3) ∧ cnw (wr En nC (((w : Int) * 6 + s) * 3 + 2)) (((v : Int) * 6 + u) * 3) (nC + 1) = σ 22 (6 * v + u) ∧ cnt (wr En nC (((w : Int) * 6 + s) * 3 + 2)) (((v : Int) * 6 + u) * 3) (nC + 1) = wr (σ 21) (6 * w + s) 1 (6 * v + u))
    by_cases e : 6 * v + u = 6 * w + s
    · have e1 : v = w := by omega
      have e2 : u = s := by omega
      subst e1; subst e2
      rcases h5 u hu with ⟨a1, -⟩ | ⟨a1, a2, a3, a4, a5⟩
      · omega
      · obtain ⟨-, b2, b3, b4⟩ := chr_near (κ := 2) a3
        refine Or.inr ⟨a1, a2, b2 (by omega), ?_, ?_⟩
        · rw [b3, a4, if_neg (by omega)]; omega
        · rw [b4, if_pos rfl, wr_at]
    · obtain ⟨b1, b2, b3, b4⟩ := chr_far (En := En) (n := nC) (κ := 2) (x := (w : Int) * 6 + s) (y := (v : Int) * 6 + u) (by omega) (by omega)
      rw [wr_ne e]
      rcases h5 u hu with ⟨a1, a2, a3⟩ | ⟨a1, a2, a3, a4, a5⟩
      · exact Or.inl ⟨a1, a2, b1 _ a3⟩
      · exact Or.inr ⟨a1, a2, b2 a3, by rw [b3, a4], by rw [b4, a5]⟩
def t_tell (σ : SS) (w o s : Int) : Int := if (0 ≤ w ∧ w < σ 12 0) ∧ (0 ≤ o ∧ o < σ 12 0) ∧ 0 ≤ s ∧ s < σ 7 0 then (if w = o then 2 else if σ 20 (6 * w.toNat + s.toNat) = 1 ∧ dst (σ 14 w.toNat) (σ 14 o.toNat) ≤ 1 ∧ σ 20 (6 * o.toNat + s.toNat) = 0 ∧ σ 21 (6 * o.toNat + s.toNat) = 0 then 0 else 3) else 1
def n_tell (σ : SS) (o s : Int) : SS := su σ 21 (wr (σ 21) (6 * o.toNat + s.toNat) 1)
def b_tell (σ : SS) (o s : Int) : Int := pts (σ 22 (6 * o.toNat + s.toNat)) 1
/-- a wrong answer -/
theorem Ic.wrong {σ : SS} {nC : Nat} {so sc En : Nat → Int} (h : Ic σ nC so sc En) {w s : Nat} (hw : w < 6) (hs : s < 6) (hso : so w ≤ s) : Ic (su σ 22 (wr (σ 22) (6 * w + s) (σ 22 (6 * w + s) + 1))) (nC + 1) so sc (wr En nC (((w : Int) * 6 + s) * 3 + 1)) := fun v hv => by
  obtain ⟨h1, h2, h3, h4, h5⟩ := h v hv
  refine ⟨h1, h2, h3, ?_, fun u hu => ?_⟩
  · rw [h4]
    refine sm_cong fun u hu => ?_
    show _ = if σ 20 (6 * v + u) = 1 then pts (wr (σ 22) (6 * w + s) (σ 22 (6 * w + s) + 1) (6 * v + u)) (σ 21 (6 * v + u)) else 0
    by_cases e : 6 * v + u = 6 * w + s
    · have e1 : v = w := by omega
      have e2 : u = s := by omega
      subst e1; subst e2
      have := h.bit hv hu
      rw [if_neg (by omega)] at this
      rw [if_neg (by omega), if_neg (by omega)]
    · rw [wr_ne e]
  · show ((u : Int) < so v ∧ σ 20 (6 * v + u) = 1 ∧ PFO (wr En nC (((w : Int) * 6 + s) * 3 + 1)) (((v : Int) * 6 + u) * 3) (nC + 1) (pts (wr (σ 22) (6 * w + s) (σ 22 (6 * w + s) + 1) (6 * v + u)) (σ 21 (6 * v + u)))) ∨ (so v ≤ u ∧ σ 20 (6 * v + u) = 0 ∧ (∀ i, i < nC + 1 → wr En nC (((w : Int) * 6 + s) * 3 + 1) i ≠ ((v : Int) * 6 + u) * 3) ∧ cnw (wr En nC (((w : Int) * 6 + s) * 3 + 1)) (((v : Int) * 6 + u) * 3) (nC + 1) = wr (σ 22) (6 * w + s) (σ 22 (6 * w + s) + 1) (6 * v + u) ∧ cnt (wr En nC (((w : Int) * 6 + s) * 3 + 1)) (((v : Int) * 6 + u) * 3) (nC + 1) = σ 21 (6 * v + u))
    by_cases e : 6 * v + u = 6 * w + s
    · have e1 : v = w := by omega
      have e2 : u = s := by omega
      subst e1; subst e2
      rcases h5 u hu with ⟨a1, -⟩ | ⟨a1, a2, a3, a4, a5⟩
      · omega
      · obtain ⟨-, b2, b3, b4⟩ := chr_near (κ := 1) a3
        refine Or.inr ⟨a1, a2, b2 (by omega), ?_, ?_⟩
        · rw [b3, a4, if_pos rfl, wr_at]
        · rw [b4, if_neg (by omega), a5]
    · obtain ⟨b1, b2, b3, b4⟩ := chr_far (En := En) (n := nC) (κ := 1) (x := (w : Int) * 6 + s) (y := (v : Int) * 6 + u) (by omega) (by omega)
      rw [wr_ne e]
      rcases h5 u hu with ⟨a1, a2, a3⟩ | ⟨a1, a2, a3, a4, a5⟩
      · exact Or.inl ⟨a1, a2, b1 _ a3⟩
      · exact Or.inr ⟨a1, a2, b2 a3, by rw [b3, a4], by rw [b4, a5]⟩
/-- a right answer -/
theorem Ic.right {σ : SS} {nC : Nat} {so sc En : Nat → Int} (h : Ic σ nC so sc En) {w s : Nat} (hw : w < 6) (hs : s < 6) (hso : so w = s) (h7 : (s : Int) < σ 7 0) (h12 : (w : Int) < σ 12 0) : Ic (su σ 20 (wr (σ 20) (6 * w + s) 1)) (nC + 1) (wr so w (so w + 1)) (wr sc w (sc w + pts (σ 22 (6 * w + s)) (σ 21 (6 * w + s)))) (wr En nC (((w : Int) * 6 + s) * 3 + 0)) := fun v hv => by
  obtain ⟨h1, h2, h3, h4, h5⟩ := h v hv
  by_cases ev : v = w
  · subst ev
    have hb := h.bit hv hs
    rw [if_neg (by omega)] at hb
    rw [wr_at, wr_at]
    refine ⟨by omega, by (show so v + 1 ≤ σ 7 0; omega), fun q => by (exfalso; have : σ 12 0 ≤ (v : Int) := q; omega), ?_, fun u hu => ?_⟩
    · have key : sm (fun u => if su σ 20 (wr (σ 20) (6 * v + s) 1) 20 (6 * v + u) = 1 then pts (su σ 20 (wr (σ 20) (6 * v + s) 1) 22 (6 * v + u)) (su σ 20 (wr (σ 20) (6 * v + s) 1) 21 (6 * v + u)) else 0) 6 = sm (wr (fun u => if σ 20 (6 * v + u) = 1 then pts (σ 22 (6 * v + u)) (σ 21 (6 * v + u)) else 0) s (pts (σ 22 (6 * v + s)) (σ 21 (6 * v + s)))) 6 := sm_cong fun u hu => by
        show (if wr (σ 20) (6 * v + s) 1 (6 * v + u) = 1 then pts (σ 22 (6 * v + u)) (σ 21 (6 * v + u)) else 0) = _
        by_cases e : u = s
        · subst e; rw [wr_at, wr_at, if_pos rfl]
        · rw [wr_ne (show 6 * v + u ≠ 6 * v + s by omega), wr_ne e]
      rw [key, sm_wr hs, ← h4, if_neg (by omega)]
      omega
    · show ((u : Int) < so v + 1 ∧ wr (σ 20) (6 * v + s) 1 (6 * v + u) = 1 ∧ PFO (wr En nC (((v : Int) * 6 + s) * 3 + 0)) (((v : Int) * 6 + u) * 3) (nC + 1) (pts (σ 22 (6 * v + u)) (σ 21 (6 * v + u)))) ∨ (so v + 1 ≤ u ∧ wr (σ 20) (6 * v + s) 1 (6 * v + u) = 0 ∧ (∀ i, i < nC + 1 → wr En nC (((v : Int) * 6 + s) * 3 + 0) i ≠ ((v : Int) * 6 + u) * 3) ∧ cnw (wr En nC (((v : Int) * 6 + s) * 3 + 0)) (((v : Int) * 6 + u) * 3) (nC + 1) = σ 22 (6 * v + u) ∧ cnt (wr En nC (((v : Int) * 6 + s) * 3 + 0)) (((v : Int) * 6 + u) * 3) (nC + 1) = σ 21 (6 * v + u))
      by_cases e : u = s
      · subst e
        rcases h5 u hu with ⟨a1, -⟩ | ⟨a1, a2, a3, a4, a5⟩
        · omega
        · obtain ⟨b1, -, -, -⟩ := chr_near (κ := 0) a3
          rw [a4, a5] at b1
          exact Or.inl ⟨by omega, wr_at, b1 rfl⟩
      · obtain ⟨b1, b2, b3, b4⟩ := chr_far (En := En) (n := nC) (κ := 0) (x := (v : Int) * 6 + s) (y := (v : Int) * 6 + u) (by omega) (by omega)
        rw [wr_ne (show 6 * v + u ≠ 6 * v + s by omega)]
        rcases h5 u hu with ⟨a1, a2, a3⟩ | ⟨a1, a2, a3, a4, a5⟩
        · exact Or.inl ⟨by omega, a2, b1 _ a3⟩
        · exact Or.inr ⟨by omega, a2, b2 a3, by rw [b3, a4], by rw [b4, a5]⟩
  · rw [wr_ne ev, wr_ne ev]
    refine ⟨h1, h2, h3, ?_, fun u hu => ?_⟩
    · rw [h4]
      refine sm_cong fun u hu => ?_
      show _ = if wr (σ 20) (6 * w + s) 1 (6 * v + u) = 1 then pts (σ 22 (6 * v + u)) (σ 21 (6 * v + u)) else 0
      rw [wr_ne (by omega)]
    · show ((u : Int) < so v ∧ wr (σ 20) (6 * w + s) 1 (6 * v + u) = 1 ∧ PFO (wr En nC (((w : Int) * 6 + s) * 3 + 0)) (((v : Int) * 6 + u) * 3) (nC + 1) (pts (σ 22 (6 * v + u)) (σ 21 (6 * v + u)))) ∨ (so v ≤ u ∧ wr (σ 20) (6 * w + s) 1 (6 * v + u) = 0 ∧ (∀ i, i < nC + 1 → wr En nC (((w : Int) * 6 + s) * 3 + 0) i ≠ ((v : Int) * 6 + u) * 3) ∧ cnw (wr En nC (((w : Int) * 6 + s) * 3 + 0)) (((v : Int) * 6 + u) * 3) (nC + 1) = σ 22 (6 * v + u) ∧ cnt (wr En nC (((w : Int) * 6 + s) * 3 + 0)) (((v : Int) * 6 + u) * 3) (nC + 1) = σ 21 (6 * v + u))
      obtain ⟨b1, b2, b3, b4⟩ := chr_far (En := En) (n := nC) (κ := 0) (x := (w : Int) * 6 + s) (y := (v : Int) * 6 + u) (by omega) (by omega)
      rw [wr_ne (show 6 * v + u ≠ 6 * w + s by omega)]
      rcases h5 u hu with ⟨a1, a2, a3⟩ | ⟨a1, a2, a3, a4, a5⟩
      · exact Or.inl ⟨a1, a2, b1 _ a3⟩
      · exact Or.inr ⟨a1, a2, b2 a3, by rw [b3, a4], by rw [b4, a5]⟩
/-! an answer -/
def isWd (σ : SS) (s : Nat) : Int := if σ 11 0 = σ 11 (s + 1) ∧ ∀ i, i < ln σ 0 → lw σ 0 i = lw σ (s + 1) i then 1 else 0
theorem isWd_rg (σ : SS) (s : Nat) : isWd σ s = 0 ∨ isWd σ s = 1 := by
  unfold isWd
  split
  · exact Or.inr rfl
  · exact Or.inl rfl
def t_answer (σ : SS) (w s : Int) : Int := if (0 ≤ w ∧ w < σ 12 0) ∧ 0 ≤ s ∧ s < σ 7 0 then (if (σ 15 w.toNat = -1 ∧ σ 16 w.toNat = -1) ∧ σ 14 w.toNat = σ 8 s.toNat ∧ b_solved σ w.toNat = s then 0 else 2) else 1
def n_answer (σ : SS) (w s : Int) : SS := su (su σ 20 (wr (σ 20) (6 * w.toNat + s.toNat) (isWd σ s.toNat))) 22 (wr (σ 22) (6 * w.toNat + s.toNat) (σ 22 (6 * w.toNat + s.toNat) + (1 - isWd σ s.toNat)))
theorem isWd_of {σ : SS} {s nL : Nat} {W : Nat → Int} {r : Int} (h11 : σ 11 0 = nL) (h0 : 0 ≤ σ 11 (s + 1)) (hW : ∀ j, j < ln σ (s + 1) → W j = lw σ (s + 1) j) (h : (r = 1 ∧ nL = ln σ (s + 1) ∧ ∀ i, i < nL → lw σ 0 i = W i) ∨ (r = 0 ∧ ¬ (nL = ln σ (s + 1) ∧ ∀ i, i < nL → lw σ 0 i = W i))) : r = isWd σ s := by
  have e0 : ln σ 0 = nL := by unfold ln; omega
  unfold isWd
  rw [e0]
  rcases h with ⟨h1, h2, h3⟩ | ⟨h1, h2⟩
  · rw [if_pos ⟨by unfold ln at h2; omega, fun i hi => by rw [h3 i hi, hW i (by omega)]⟩]; exact h1
  · rw [if_neg (fun q => h2 ⟨by (have := q.1; unfold ln; omega), fun i hi => by rw [q.2 i hi, hW i (by (have := q.1; unfold ln; omega))]⟩)]; exact h1
theorem nans_r {σ : SS} {w s : Int} (h : isWd σ s.toNat = 1) : n_answer σ w s = su σ 20 (wr (σ 20) (6 * w.toNat + s.toNat) 1) := by
  unfold n_answer
  rw [h]
  funext k
  by_cases e : k = 22
  · subst e
    show wr (σ 22) (6 * w.toNat + s.toNat) (σ 22 (6 * w.toNat + s.toNat) + (1 - 1)) = σ 22
    funext j
    by_cases e2 : j = 6 * w.toNat + s.toNat
    · rw [e2, wr_at]; omega
    · rw [wr_ne e2]
  · show (if k = 22 then _ else su σ 20 _ k) = _
    rw [if_neg e]
theorem nans_w {σ : SS} {w s : Int} (h : isWd σ s.toNat = 0) (h0 : σ 20 (6 * w.toNat + s.toNat) = 0) : n_answer σ w s = su σ 22 (wr (σ 22) (6 * w.toNat + s.toNat) (σ 22 (6 * w.toNat + s.toNat) + 1)) := by
  unfold n_answer
  rw [h]
  funext k
  by_cases e : k = 20
  · subst e
    show wr (σ 20) (6 * w.toNat + s.toNat) 0 = σ 20
    funext j
    by_cases e2 : j = 6 * w.toNat + s.toNat
    · rw [e2, wr_at, h0]
    · rw [wr_ne e2]
  · by_cases e2 : k = 22
    · subst e2; rfl
    · show (if k = 22 then _ else if k = 20 then _ else σ k) = (if k = 22 then _ else σ k)
      rw [if_neg e2, if_neg e2, if_neg e]
