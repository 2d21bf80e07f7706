/-! p32: what stands of solved stages and of places; scores, ranks, ciphers, minutes -/
def Gv (σ : SS) : Prop := (∀ w : Nat, w < 6 → ∃ o : Int, (0 ≤ o ∧ o ≤ σ 7 0) ∧ ∀ s : Nat, s < 6 → σ 20 (6 * w + s) = if (s : Int) < o then 1 else 0) ∧ ∀ k : Nat, (k : Int) < σ 7 0 → uq (fitb σ (k + 1) (-1)) = σ 8 k
theorem RepC.gv {G : GG} {z : Nat} {μ : Mm} {a : Nat} {σ : SS} {n : Nat} (h : RepC G z μ a σ n) : Gv σ := by
  obtain ⟨ld, wy, sp, sl, wl, wp, ch, dr, nS, nW, nD, nL, nV, nC, xs, ys, so, sc, En, S, T, h1, hO, hL, hY, hSp, hSl, hWl, hWp, hCh, hDr, hSt, hWk, hN, hIc⟩ := h
  obtain ⟨n7, n12, n6, n11, n18, n7r, n12r, n18r⟩ := hN
  refine ⟨fun w hw => ⟨so w, ⟨(hIc w hw).1, (hIc w hw).2.1⟩, fun s hs => hIc.bit hw hs⟩, fun k hk => ?_⟩
  obtain ⟨W, -, hi, wd, -, -, -, hu⟩ := hSt k (Nat.zero_le _) (by omega)
  exact hu.uq.symm
theorem sm_cut {P : Nat → Int} {n : Nat} : ∀ {m : Nat}, n ≤ m → (∀ j, n ≤ j → j < m → P j = 0) → sm P m = sm P n
  | 0, h, _ => by rw [show n = 0 by omega]
  | m + 1, h, hz => by
    by_cases e : n = m + 1
    · rw [e]
    · rw [show sm P (m + 1) = sm P m + P m from rfl, sm_cut (m := m) (by omega) (fun j h1 h2 => hz j h1 (by omega)), hz m (by omega) (by omega)]
      omega
theorem Gv.z {σ : SS} (h : Gv σ) {w s : Nat} (hw : w < 6) (hs : s < 6) (h7 : σ 7 0 ≤ s) : σ 20 (6 * w + s) = 0 := by
  obtain ⟨o, ho, hb⟩ := h.1 w hw
  rw [hb s hs, if_neg (by omega)]
theorem Gv.so {σ : SS} (h : Gv σ) {w : Nat} (hw : w < 6) (h7 : 0 ≤ σ 7 0 ∧ σ 7 0 ≤ 6) : sm (fun s => σ 20 (6 * w + s)) 6 = b_solved σ w := sm_cut (by omega) (fun j h1 h2 => h.z hw h2 (by omega))
theorem Gv.sc {σ : SS} (h : Gv σ) {w : Nat} (hw : w < 6) (h7 : 0 ≤ σ 7 0 ∧ σ 7 0 ≤ 6) : sm (ptq σ w) 6 = b_score σ w := sm_cut (by omega) (fun j h1 h2 => by
  unfold ptq
  rw [if_neg (by rw [h.z hw h2 (by omega)]; omega)])
/-- the next stage to solve isn't solved -/
theorem Gv.nx {σ : SS} (h : Gv σ) {w s : Nat} (hw : w < 6) (hs : s < 6) (h7 : 0 ≤ σ 7 0 ∧ σ 7 0 ≤ 6) (e : b_solved σ w = (s : Int)) : σ 20 (6 * w + s) = 0 := by
  obtain ⟨o, ho, hb⟩ := h.1 w hw
  rw [← h.so hw h7] at e
  have e2 : sm (fun s => σ 20 (6 * w + s)) 6 = 0 + σ 20 (6 * w + 0) + σ 20 (6 * w + 1) + σ 20 (6 * w + 2) + σ 20 (6 * w + 3) + σ 20 (6 * w + 4) + σ 20 (6 * w + 5) := rfl
  have c0 := hb 0 (by omega)
  have c1 := hb 1 (by omega)
  have c2 := hb 2 (by omega)
  have c3 := hb 3 (by omega)
  have c4 := hb 4 (by omega)
  have c5 := hb 5 (by omega)
  rw [hb s hs]
  rw [e2, c0, c1, c2, c3, c4, c5] at e
  by_cases w : (s : Int) < o
  · exfalso
    have : (if ((0 : Nat) : Int) < o then (1 : Int) else 0) = if 0 < o then 1 else 0 := rfl
    have d0 : ((0 : Nat) : Int) < o → (if ((0 : Nat) : Int) < o then (1 : Int) else 0) = 1 := fun q => if_pos q
    revert e
    rcases (show o = 1 ∨ o = 2 ∨ o = 3 ∨ o = 4 ∨ o = 5 ∨ o = 6 by omega) with rfl | rfl | rfl | rfl | rfl | rfl <;> simp <;> omega
  · exact if_neg w
/-! ranks -/
def bt9 (σ : SS) (num mine : Int) (v : Nat) : Prop := mine < b_score σ v ∨ (b_score σ v = mine ∧ (v : Int) < num)
theorem rank_le {σ : SS} {u v mu mv : Int} (h : ∀ x : Nat, bt9 σ u mu x → bt9 σ v mv x) : ∀ n, b_rank σ u mu n ≤ b_rank σ v mv n
  | 0 => Int.le_refl _
  | n + 1 => by
    have ih := rank_le h n
    have hn := h n
    unfold bt9 at hn
    unfold b_rank
    split <;> split <;> rename_i q1 q2
    · omega
    · exact absurd (hn q1) q2
    · omega
    · omega
theorem rank_lt {σ : SS} {u v mu mv : Int} (h : ∀ x : Nat, bt9 σ u mu x → bt9 σ v mv x) {y : Nat} (h1 : bt9 σ v mv y) (h2 : ¬ bt9 σ u mu y) : ∀ n, y < n → b_rank σ u mu n < b_rank σ v mv n
  | 0, hy => absurd hy (Nat.not_lt_zero y)
  | n + 1, hy => by
    rw [show b_rank σ u mu (n + 1) = b_rank σ u mu n + (if mu < b_score σ n ∨ (b_score σ n = mu ∧ (n : Int) < u) then 1 else 0) from rfl, show b_rank σ v mv (n + 1) = b_rank σ v mv n + (if mv < b_score σ n ∨ (b_score σ n = mv ∧ (n : Int) < v) then 1 else 0) from rfl]
    by_cases e : y = n
    · subst e
      have ih := rank_le h y
      unfold bt9 at h1 h2
      rw [if_neg h2, if_pos h1]
      omega
    · have ih := rank_lt h h1 h2 n (by omega)
      have hn := h n
      unfold bt9 at hn
      split <;> split <;> rename_i q1 q2
      · omega
      · exact absurd (hn q1) q2
      · omega
      · omega
theorem rank_ne {σ : SS} {i v : Nat} (hi : (i : Int) < σ 12 0) (hv : (v : Int) < σ 12 0) (e : v ≠ i) : rkw σ v ≠ rkw σ i := by
  have key : ∀ a b : Nat, (a : Int) < σ 12 0 → bt9 σ (b : Int) (b_score σ b) a → rkw σ a < rkw σ b := fun a b ha hb => by
    unfold rkw
    refine rank_lt (fun x hx => ?_) hb ?_ _ (by omega)
    · unfold bt9 at hb hx ⊢; omega
    · unfold bt9; omega
  by_cases w : bt9 σ (i : Int) (b_score σ i) v
  · have := key v i hv w; omega
  · have : bt9 σ (v : Int) (b_score σ v) i := by unfold bt9 at w ⊢; omega
    have := key i v hi this; omega
theorem rank_self {σ : SS} {w : Nat} : ∀ n : Nat, b_rank σ (w : Int) (b_score σ w) n ≤ n ∧ (w < n → b_rank σ (w : Int) (b_score σ w) n < n)
  | 0 => ⟨Int.le_refl _, fun h => absurd h (Nat.not_lt_zero w)⟩
  | n + 1 => by
    obtain ⟨h1, h2⟩ := rank_self (σ := σ) (w := w) n
    rw [show b_rank σ (w : Int) (b_score σ w) (n + 1) = b_rank σ (w : Int) (b_score σ w) n + (if b_score σ w < b_score σ n ∨ (b_score σ n = b_score σ w ∧ (n : Int) < (w : Int)) then 1 else 0) from rfl]
    by_cases e : w = n
    · subst e
      rw [if_neg (by omega)]
      omega
    · refine ⟨by split <;> omega, fun h => ?_⟩
      have := h2 (by omega)
      split <;> omega
theorem wAt_i {σ : SS} {i : Nat} {r : Int} (hi : (i : Int) < σ 12 0) (h : b_walkerAt σ (rkw σ i) r) : r = (i : Int) := by
  rcases h with ⟨w, h1, h2, h3, -⟩ | ⟨h1, -⟩
  · by_cases e : w = i
    · omega
    · exact absurd h3 (rank_ne hi h1 e)
  · exact absurd rfl (h1 i hi)
theorem wAt_no {σ : SS} {r : Int} (h0 : 0 ≤ σ 12 0) (h : b_walkerAt σ (σ 12 0) r) : r = -1 := by
  rcases h with ⟨w, h1, h2, h3, -⟩ | ⟨-, h2⟩
  · have := (rank_self (σ := σ) (w := w) (σ 12 0).toNat).2 (by omega)
    unfold rkw at h3
    omega
  · exact h2
/-! ciphers -/
def posI (p gap m : Int) (k : Int) : Int := if (if p % 2 = 0 then k else m - 1 - k) < gap then (if p % 2 = 0 then k else m - 1 - k) else (if p % 2 = 0 then k else m - 1 - k) + 1
theorem posI_rg {p gap m k : Int} (hk : 0 ≤ k ∧ k < m) (hg : 0 ≤ gap ∧ gap ≤ m) : 0 ≤ posI p gap m k ∧ posI p gap m k ≤ m ∧ posI p gap m k ≠ gap := by
  unfold posI
  split <;> split <;> omega
theorem posI_ne {p gap m k j : Int} (hk : 0 ≤ k ∧ k < m) (hj : 0 ≤ j ∧ j < m) (e : j ≠ k) : posI p gap m j ≠ posI p gap m k := by
  unfold posI
  split <;> split <;> split <;> omega
def CA (W : Nat → Int) (p gap : Int) (m k : Nat) (A : Nat → Int) : Prop := ∀ j : Nat, j < k → A (posI p gap m j).toNat = (W j + p) % 27
theorem CA_0 {W A : Nat → Int} {p gap : Int} {m : Nat} : CA W p gap m 0 A := fun j hj => absurd hj (Nat.not_lt_zero j)
theorem CA_s {W A : Nat → Int} {p gap v x : Int} {m k : Nat} (h : CA W p gap m k A) (hk : k < m) (hg : 0 ≤ gap ∧ gap ≤ m) (hx : x = posI p gap m k) (hv : v = (W k + p) % 27) : CA W p gap m (k + 1) (wr A x.toNat v) := fun j hj => by
  have h1 := posI_rg (p := p) (gap := gap) (m := (m : Int)) (k := (k : Int)) (by omega) hg
  by_cases e : j = k
  · subst e
    rw [hx, wr_at, hv]
  · have h2 := posI_rg (p := p) (gap := gap) (m := (m : Int)) (k := (j : Int)) (by omega) hg
    have h3 := posI_ne (p := p) (gap := gap) (m := (m : Int)) (k := (k : Int)) (j := (j : Int)) (by omega) (by omega) (by omega)
    rw [wr_ne (by omega)]
    exact h j (by omega)
theorem CA_e {W A : Nat → Int} {p gap : Int} {m k : Nat} (h : CA W p gap m k A) (hk : m ≤ k) (hp : 0 ≤ p) (hg : gap = p % ((m : Int) + 1)) {i : Nat} (hi : i ≤ m) : wr A gap.toNat (p % 27) i = cil W m p (i : Int) := by
  have hgr : 0 ≤ gap ∧ gap ≤ m := by
    rw [hg]
    exact ⟨Int.emod_nonneg _ (by omega), by have := Int.emod_lt_of_pos p (show (0 : Int) < (m : Int) + 1 by omega); omega⟩
  unfold cil
  rw [← hg]
  by_cases e : (i : Int) = gap
  · rw [if_pos e, show i = gap.toNat by omega, wr_at]
  · rw [if_neg e, wr_ne (by omega)]
    obtain ⟨j, hj⟩ : ∃ j : Nat, (j : Int) = if p % 2 = 1 then (m : Int) - 1 - (if (i : Int) < gap then (i : Int) else (i : Int) - 1) else (if (i : Int) < gap then (i : Int) else (i : Int) - 1) := ⟨(if p % 2 = 1 then (m : Int) - 1 - (if (i : Int) < gap then (i : Int) else (i : Int) - 1) else (if (i : Int) < gap then (i : Int) else (i : Int) - 1)).toNat, by split <;> split <;> omega⟩
    rw [← hj, Int.toNat_natCast]
    have hjm : j < m := by
      split at hj <;> split at hj <;> omega
    have h1 := h j (by omega)
    rw [← h1]
    congr 1
    unfold posI
    split at hj <;> split at hj <;> split <;> split <;> omega
theorem CiOK_s2 {σ : SS} {s n : Nat} {C : Nat → Int} {cm l v : Int} (h : CiOK σ s C n) (hc : cm = csm σ s n) (hl : l = cl9 σ s (n : Int)) (hv : (l = 26 ∧ v = 55357) ∨ (l ≠ 26 ∧ v = 97 + l)) : CiOK σ s (wr (wr C cm.toNat v) (cm + 1).toNat 56831) (n + 1) := by
  have hs : csm σ s (n + 1) = csm σ s n + (if cl9 σ s (n : Int) = 26 then 2 else 1) := rfl
  intro i hi
  have h0 := csm_rg σ s i
  have h0n := csm_rg σ s n
  by_cases e : i = n
  · subst e
    rw [← hc]
    rcases hv with ⟨v1, v2⟩ | ⟨v1, v2⟩
    · refine Or.inl ⟨by omega, ?_, ?_⟩
      · rw [wr_ne (by omega), wr_at, v2]
      · rw [wr_at]
    · refine Or.inr ⟨by omega, ?_⟩
      rw [wr_ne (by omega), wr_at, v2, hl]
  · have h1 := csm_mono σ s (show i + 1 ≤ n by omega)
    have h2 : csm σ s (i + 1) = csm σ s i + (if cl9 σ s (i : Int) = 26 then 2 else 1) := rfl
    have key : ∀ x : Int, 0 ≤ x → x < csm σ s n → wr (wr C cm.toNat v) (cm + 1).toNat 56831 x.toNat = C x.toNat := fun x hx hx2 => by
      rw [wr_ne (by omega), wr_ne (by omega)]
    rcases h i (by omega) with ⟨a1, a2, a3⟩ | ⟨a1, a2⟩
    · rw [if_pos a1] at h2
      refine Or.inl ⟨a1, ?_, ?_⟩
      · rw [key _ (by omega) (by omega)]; exact a2
      · rw [key _ (by omega) (by omega)]; exact a3
    · rw [if_neg a1] at h2
      refine Or.inr ⟨a1, ?_⟩
      rw [key _ (by omega) (by omega)]; exact a2
/-! points -/
theorem pts_w {w t r : Int} (hw : 0 ≤ w) (ht : t = 0 ∨ t = 1) (h : (9 < w ∧ r = 10) ∨ (¬ 9 < w ∧ r = 100 - 10 * w)) : (t = 1 → pts w t = r / 2) ∧ (t ≠ 1 → pts w t = r) := by
  unfold pts
  refine ⟨fun e => ?_, fun e => ?_⟩
  · rw [if_neg (by omega)]; congr 1; split <;> omega
  · rw [if_pos (by omega)]; split <;> omega
/-! minutes -/
theorem WR_s {σ : SS} {t v : Nat} {W W' : Nat → Int} {pl go st le r : Int} (hv : (v : Int) < σ 12 0) (h : WR (psS σ t v) W) (hw : wm (wb (psS σ t v) (psS σ t v 13 v) (psS σ t v 14 v, psS σ t v 15 v, psS σ t v 16 v, psS σ t v 17 v)) = ((pl, go, st, le), r)) (he : ∀ j, j ≠ 5 * v + 1 → j ≠ 5 * v + 2 → j ≠ 5 * v + 3 → j ≠ 5 * v + 4 → W' j = W j) (h1 : W' (5 * v + 1) = pl) (h2 : W' (5 * v + 2) = go) (h3 : W' (5 * v + 3) = st) (h4 : st ≠ -1 → W' (5 * v + 4) = le) : WR (psS σ t (v + 1)) W' := by
  obtain ⟨q, -⟩ := tp_s hv hw
  intro i hi
  by_cases e : i = v
  · subst e
    have hd := psS_s hv hw
    have e14 : psS σ t (i + 1) 14 i = pl := by
      show ps14 σ t (i + 1) i = pl
      unfold ps14; rw [if_pos hv, tq_v.2, q]
    have e15 : psS σ t (i + 1) 15 i = go := by
      show ps15 σ t (i + 1) i = go
      unfold ps15; rw [if_pos hv, tq_v.2, q]
    have e16 : psS σ t (i + 1) 16 i = st := by
      show ps16 σ t (i + 1) i = st
      unfold ps16; rw [if_pos hv, tq_v.2, q]
    have e17 : psS σ t (i + 1) 17 i = le := by
      show ps17 σ t (i + 1) i = le
      unfold ps17; rw [if_pos hv, tq_v.2, q]
    rw [e14, e15, e16, e17]
    refine ⟨?_, h1, h2, h3, h4⟩
    rw [he _ (by omega) (by omega) (by omega) (by omega)]
    exact (h i hi).1
  · obtain ⟨a1, a2, a3, a4, a5⟩ := h i hi
    rw [he _ (by omega) (by omega) (by omega) (by omega), he _ (by omega) (by omega) (by omega) (by omega), he _ (by omega) (by omega) (by omega) (by omega), he _ (by omega) (by omega) (by omega) (by omega), he _ (by omega) (by omega) (by omega) (by omega)]
    have e14 : psS σ t (v + 1) 14 i = psS σ t v 14 i := by
      show ps14 σ t (v + 1) i = ps14 σ t v i
      unfold ps14; rw [tq_s e]
    have e15 : psS σ t (v + 1) 15 i = psS σ t v 15 i := by
      show ps15 σ t (v + 1) i = ps15 σ t v i
      unfold ps15; rw [tq_s e]
    have e16 : psS σ t (v + 1) 16 i = psS σ t v 16 i := by
      show ps16 σ t (v + 1) i = ps16 σ t v i
      unfold ps16; rw [tq_s e]
    have e17 : psS σ t (v + 1) 17 i = psS σ t v 17 i := by
      show ps17 σ t (v + 1) i = ps17 σ t v i
      unfold ps17; rw [tq_s e]
    rw [e14, e15, e16, e17]
    exact ⟨a1, a2, a3, a4, a5⟩
