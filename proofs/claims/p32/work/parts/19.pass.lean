/-! walkers' minutes: where a walker is, its goal, its step, what is left -/
abbrev W4 := Int × Int × Int × Int
theorem bb_rg {H Z S : Nat → Int} {p : Int} (hp : 0 ≤ p ∧ p < 64) (k : Nat) : -1 ≤ bb H Z S p k ∧ bb H Z S p k < 64 := by
  rcases bl_at (H := H) (Z := Z) (S := S) (p := p) k with ⟨-, h⟩ | ⟨d, -, -, -, h⟩
  · omega
  · have := nbr_rg hp (d : Int)
    omega
noncomputable def wb (σ : SS) (pc : Int) (w : W4) : W4 := if w.2.2.1 = -1 ∧ w.2.1 ≠ -1 then (if bb (σ 0) (σ 1) (dD σ w.2.1.toNat) w.1 4 = -1 then (w.1, -1, -1, w.2.2.2) else (w.1, w.2.1, bb (σ 0) (σ 1) (dD σ w.2.1.toNat) w.1 4, (1 + iabs (σ 0 w.1.toNat - σ 0 (bb (σ 0) (σ 1) (dD σ w.2.1.toNat) w.1 4).toNat)) * pc)) else w
def wm (w : W4) : W4 × Int := if w.2.2.1 = -1 then (w, 0) else if 1 < w.2.2.2 then ((w.1, w.2.1, w.2.2.1, w.2.2.2 - 1), 0) else if w.2.2.1 = w.2.1 then ((w.2.2.1, -1, -1, w.2.2.2 - 1), 1) else ((w.2.2.1, w.2.1, -1, w.2.2.2 - 1), 0)
noncomputable def wi (σ : SS) (pc : Int) : Nat → W4 → W4 × Int
  | 0, w => (w, 0)
  | n + 1, w => ((wm (wb σ pc (wi σ pc n w).1)).1, (wi σ pc n w).2 + (wm (wb σ pc (wi σ pc n w).1)).2)
theorem wi_next {σ : SS} {pc : Int} {k : Nat} {w x y z : W4} {a r : Int} (h : wi σ pc k w = (x, a)) (h1 : wb σ pc x = y) (h2 : wm y = (z, r)) : wi σ pc (k + 1) w = (z, a + r) := by
  rw [show wi σ pc (k + 1) w = ((wm (wb σ pc (wi σ pc k w).1)).1, (wi σ pc k w).2 + (wm (wb σ pc (wi σ pc k w).1)).2) from rfl, h, h1, h2]
theorem wb_step {σ : SS} {pc pl go st le : Int} (h : st ≠ -1) : wb σ pc (pl, go, st, le) = (pl, go, st, le) := by
  unfold wb
  rw [if_neg (fun q => h q.1)]
theorem wb_rest {σ : SS} {pc pl st le : Int} : wb σ pc (pl, -1, st, le) = (pl, -1, st, le) := by
  unfold wb
  rw [if_neg (fun q => q.2 rfl)]
theorem wb_begin {σ : SS} {pc pl go le go' st' le' : Int} {S : Nat → Int} (hg : 0 ≤ go ∧ go < 64) (hD : WF (σ 0) (σ 1) go.toNat S) (h : (bb (σ 0) (σ 1) S pl 4 = -1 ∧ go' = -1 ∧ st' = -1 ∧ le' = le) ∨ (bb (σ 0) (σ 1) S pl 4 ≠ -1 ∧ go' = go ∧ st' = bb (σ 0) (σ 1) S pl 4 ∧ le' = (1 + iabs (σ 0 pl.toNat - σ 0 (bb (σ 0) (σ 1) S pl 4).toNat)) * pc)) : wb σ pc (pl, go, -1, le) = (pl, go', st', le') := by
  have e : bb (σ 0) (σ 1) S pl 4 = bb (σ 0) (σ 1) (dD σ go.toNat) pl 4 := bb_cong (fun j hj => dD_eq (σ := σ) (by omega) hD hj) 4
  rw [e] at h
  unfold wb
  dsimp only
  rw [if_pos ⟨rfl, by omega⟩]
  rcases h with ⟨h1, h2, h3, h4⟩ | ⟨h1, h2, h3, h4⟩
  · rw [if_pos h1, h2, h3, h4]
  · rw [if_neg h1, h2, h3, h4]
theorem wm_of {pl go st le pl' go' st' le' r9 : Int} (h : (st = -1 ∧ r9 = 0 ∧ pl' = pl ∧ go' = go ∧ st' = st ∧ le' = le) ∨ (st ≠ -1 ∧ 1 < le ∧ r9 = 0 ∧ pl' = pl ∧ go' = go ∧ st' = st ∧ le' = le - 1) ∨ (st ≠ -1 ∧ ¬ 1 < le ∧ st ≠ go ∧ r9 = 0 ∧ pl' = st ∧ go' = go ∧ st' = -1 ∧ le' = le - 1) ∨ (st ≠ -1 ∧ ¬ 1 < le ∧ st = go ∧ r9 = 1 ∧ pl' = st ∧ go' = -1 ∧ st' = -1 ∧ le' = le - 1)) : wm (pl, go, st, le) = ((pl', go', st', le'), r9) := by
  unfold wm
  dsimp only
  rcases h with ⟨h1, h2, h3, h4, h5, h6⟩ | ⟨h1, h2, h3, h4, h5, h6, h7⟩ | ⟨h1, h2, h3, h4, h5, h6, h7, h8⟩ | ⟨h1, h2, h3, h4, h5, h6, h7, h8⟩
  · rw [if_pos h1, h2, h3, h4, h5, h6]
  · rw [if_neg h1, if_pos h2, h3, h4, h5, h6, h7]
  · rw [if_neg h1, if_neg h2, if_neg h3, h4, h5, h6, h7, h8]
  · rw [if_neg h1, if_neg h2, if_pos h3, h4, h5, h6, h7, h8]
theorem wi_rest {σ : SS} {pc : Int} {k : Nat} {w : W4} {pl le a : Int} (h : wi σ pc k w = ((pl, -1, -1, le), a)) : ∀ d, wi σ pc (k + d) w = ((pl, -1, -1, le), a)
  | 0 => h
  | d + 1 => by
    have := wi_next (wi_rest h d) wb_rest (wm_of (pl := pl) (go := -1) (st := -1) (le := le) (Or.inl ⟨rfl, rfl, rfl, rfl, rfl, rfl⟩))
    rw [Int.add_zero] at this
    exact this
/-- what is changed lies in two ranges of roles: that of the ways, and one more -/
def F2 (lo hi : Nat) (μ μ' : Mm) : Prop := ∀ b r e, μ b = some (r, e) → (r < 4 ∨ 7 ≤ r) → (r < lo ∨ hi ≤ r) → μ' b = some (r, e)
theorem F2.rf {lo hi : Nat} {μ : Mm} : F2 lo hi μ μ := fun _ _ _ h _ _ => h
theorem F2.step {lo hi l h : Nat} {μ μ1 μ2 : Mm} (h1 : F2 lo hi μ μ1) (h2 : Fr l h μ1 μ2) (hr : (4 ≤ l ∧ h ≤ 7) ∨ (lo ≤ l ∧ h ≤ hi) := by omega) : F2 lo hi μ μ2 := fun b r e hb q1 q2 => h2 b r e (h1 b r e hb q1 q2) (by omega)
theorem F2.mid {lo hi : Nat} {μ μ' : Mm} (h : F2 lo hi μ μ') : ∃ μm, Fr 4 7 μ μm ∧ Fr lo hi μm μ' := by
  refine ⟨fun b => match μ b with
    | none => none
    | some x => if x.1 < 4 ∨ 7 ≤ x.1 then some x else μ' b, fun b r e hb hr => ?_, fun b r e hb hr => ?_⟩
  · dsimp only
    rw [hb]
    dsimp only
    rw [if_pos hr]
  · dsimp only at hb
    cases q : μ b with
    | none => rw [q] at hb; cases hb
    | some x =>
      rw [q] at hb
      dsimp only at hb
      by_cases w : x.1 < 4 ∨ 7 ≤ x.1
      · rw [if_pos w] at hb
        cases hb
        exact h b r e q w hr
      · rw [if_neg w] at hb
        exact hb
def t_pass (σ : SS) (m : Int) : Int := if 1 ≤ m ∧ m ≤ 60 then (if σ 23 0 + m ≤ 5000 then 0 else 2) else 1
noncomputable def pw (σ : SS) (m : Int) (w : Nat) : W4 × Int := wi σ (σ 13 w) m.toNat (σ 14 w, σ 15 w, σ 16 w, σ 17 w)
noncomputable def p14 (σ : SS) (m : Int) : Nat → Int := fun w => if (w : Int) < σ 12 0 then (pw σ m w).1.1 else σ 14 w
noncomputable def p15 (σ : SS) (m : Int) : Nat → Int := fun w => if (w : Int) < σ 12 0 then (pw σ m w).1.2.1 else σ 15 w
noncomputable def p16 (σ : SS) (m : Int) : Nat → Int := fun w => if (w : Int) < σ 12 0 then (pw σ m w).1.2.2.1 else σ 16 w
noncomputable def p17 (σ : SS) (m : Int) : Nat → Int := fun w => if (w : Int) < σ 12 0 then (pw σ m w).1.2.2.2 else σ 17 w
noncomputable def n_pass (σ : SS) (m : Int) : SS := su (su (su (su (su σ 14 (p14 σ m)) 15 (p15 σ m)) 16 (p16 σ m)) 17 (p17 σ m)) 23 (wr (σ 23) 0 (σ 23 0 + m))
noncomputable def b_pass (σ : SS) (m : Int) : Nat → Int
  | 0 => 0
  | n + 1 => b_pass σ m n + (pw σ m n).2
theorem WkF.pass {G : GG} {μ : Mm} {ys : Nat → Nat} {k : Nat} {σ : SS} {so sc : Nat → Int} {m pl go st le r : Int} (h : WkF G μ ys 0 k (n_pass σ m) so sc) (hk : (k : Int) < σ 12 0) (hw : WalkerR G μ (ys k) (2000 + 10 * k) (σ 13 k) pl go st le (so k) (sc k) (fun s => σ 22 (6 * k + s)) (fun s => σ 21 (6 * k + s))) (e : wi σ (σ 13 k) m.toNat (σ 14 k, σ 15 k, σ 16 k, σ 17 k) = ((pl, go, st, le), r)) : WkF G μ ys 0 (k + 1) (n_pass σ m) so sc := fun j h1 h2 => by
  by_cases q : j = k
  · subst q
    have e' : pw σ m j = ((pl, go, st, le), r) := e
    have e1 : n_pass σ m 14 j = pl := by (show p14 σ m j = pl; unfold p14; rw [if_pos hk, e'])
    have e2 : n_pass σ m 15 j = go := by (show p15 σ m j = go; unfold p15; rw [if_pos hk, e'])
    have e3 : n_pass σ m 16 j = st := by (show p16 σ m j = st; unfold p16; rw [if_pos hk, e'])
    have e4 : n_pass σ m 17 j = le := by (show p17 σ m j = le; unfold p17; rw [if_pos hk, e'])
    rw [e1, e2, e3, e4]
    exact hw
  · exact h j h1 (by omega)
