/-! what each call answers, on -/
def b_solved (σ : SS) (w : Nat) : Int := sm (fun s => σ 20 (6 * w + s)) (σ 7 0).toNat
def ptq (σ : SS) (w : Nat) : Nat → Int := fun s => if σ 20 (6 * w + s) = 1 then pts (σ 22 (6 * w + s)) (σ 21 (6 * w + s)) else 0
def b_score (σ : SS) (w : Nat) : Int := sm (ptq σ w) (σ 7 0).toNat
theorem Ic.bit {σ : SS} {nC : Nat} {so sc En : Nat → Int} (h : Ic σ nC so sc En) {w : Nat} (hw : w < 6) {s : Nat} (hs : s < 6) : σ 20 (6 * w + s) = if (s : Int) < so w then 1 else 0 := by
  rcases (h w hw).2.2.2.2 s hs with ⟨h1, h2, -⟩ | ⟨h1, h2, -⟩
  · rw [if_pos h1, h2]
  · rw [if_neg (by omega), h2]
theorem Ic.sums {σ : SS} {nC : Nat} {so sc En : Nat → Int} (h : Ic σ nC so sc En) {w : Nat} (hw : w < 6) : ∀ n : Nat, n ≤ 6 → sm (fun s => σ 20 (6 * w + s)) n = if (n : Int) ≤ so w then (n : Int) else so w
  | 0, _ => by
    have := (h w hw).1
    rw [if_pos (by omega)]; rfl
  | n + 1, hn => by
    rw [show sm (fun s => σ 20 (6 * w + s)) (n + 1) = sm (fun s => σ 20 (6 * w + s)) n + σ 20 (6 * w + n) from rfl, h.sums hw n (by omega), h.bit hw (show n < 6 by omega)]
    split <;> split <;> split <;> omega
theorem Ic.so {σ : SS} {nC : Nat} {so sc En : Nat → Int} (h : Ic σ nC so sc En) {w : Nat} (hw : w < 6) {nS : Nat} (h7 : σ 7 0 = nS) (h6 : nS ≤ 6) : so w = b_solved σ w := by
  unfold b_solved
  rw [h7, Int.toNat_natCast, h.sums hw nS h6]
  have := (h w hw).2.1
  split <;> omega
theorem Ic.ptq0 {σ : SS} {nC : Nat} {so sc En : Nat → Int} (h : Ic σ nC so sc En) {w : Nat} (hw : w < 6) : ∀ n : Nat, n ≤ 6 → so w ≤ n → sm (ptq σ w) 6 = sm (ptq σ w) n := by
  have key : ∀ d n : Nat, n + d = 6 → so w ≤ n → sm (ptq σ w) 6 = sm (ptq σ w) n := by
    intro d
    induction d with
    | zero => intro n hn _; rw [show n = 6 by omega]
    | succ d ih =>
      intro n hn hs
      rw [ih (n + 1) (by omega) (by omega), show sm (ptq σ w) (n + 1) = sm (ptq σ w) n + ptq σ w n from rfl]
      have := h.bit hw (show n < 6 by omega)
      rw [if_neg (by omega)] at this
      unfold ptq
      rw [if_neg (by omega)]
      omega
  exact fun n hn hs => key (6 - n) n (by omega) hs
theorem Ic.sc {σ : SS} {nC : Nat} {so sc En : Nat → Int} (h : Ic σ nC so sc En) {w : Nat} (hw : w < 6) {nS : Nat} (h7 : σ 7 0 = nS) (h6 : nS ≤ 6) : sc w = b_score σ w := by
  unfold b_score
  have h1 := (h w hw).2.1
  rw [h7, Int.toNat_natCast, ← h.ptq0 hw nS h6 (by omega)]
  exact (h w hw).2.2.2.1
theorem Ic.anew {σ : SS} {nC : Nat} {so sc En : Nat → Int} (h : Ic σ nC so sc En) {w : Nat} (hw : w < 6) {P : Nat → Int} (hP : ∀ s : Nat, s < 6 → PFO En (((w : Int) * 6 + s) * 3) nC (P s)) : P 0 + P 1 + P 2 + P 3 + P 4 + P 5 = sc w := by
  have key : ∀ s : Nat, s < 6 → P s = ptq σ w s := fun s hs => by
    unfold ptq
    rcases (h w hw).2.2.2.2 s hs with ⟨h1, h2, h3⟩ | ⟨h1, h2, h3, -⟩
    · rw [if_pos h2]; exact (hP s hs).one h3
    · rw [if_neg (by omega)]
      exact (hP s hs).one (Or.inr ⟨h3, rfl⟩)
  rw [(h w hw).2.2.2.1, key 0 (by omega), key 1 (by omega), key 2 (by omega), key 3 (by omega), key 4 (by omega), key 5 (by omega)]
  show _ = 0 + ptq σ w 0 + ptq σ w 1 + ptq σ w 2 + ptq σ w 3 + ptq σ w 4 + ptq σ w 5
  omega
def b_fits (σ : SS) (r : Nat) : Int := ctb (fitb σ r (-1)) 64
theorem ctb_kb {n : Nat} {f : Nat → Bool} {K : Int64} (hK : K = lN n) (h : ∀ p, p < 64 → kb K p = f p) : ctb (fun j => n.testBit j) 64 = ctb f 64 := ctb_cong fun j hj => by
  rw [← h j hj, hK, bt_kb hj]
def t_hint (σ : SS) (k v m : Int) : Int := if 0 ≤ m ∧ m < 64 then (if (0 ≤ k ∧ k ≤ 4) ∧ 0 ≤ v ∧ v ≤ 14 then (if σ 6 0 < 5 then 0 else 3) else 2) else 1
def n_hint (σ : SS) (k v m d : Int) : SS := su (su (su (su (su σ 2 (wr (σ 2) (σ 6 0).toNat k)) 3 (wr (σ 3) (σ 6 0).toNat v)) 4 (wr (σ 4) (σ 6 0).toNat m)) 5 (wr (σ 5) (σ 6 0).toNat d)) 6 (wr (σ 6) 0 (σ 6 0 + 1))
def q4 (k v m d : Int) : Nat → Int := fun i => match i with
  | 0 => k
  | 1 => v
  | 2 => m
  | _ => d
theorem dq_hint {σ : SS} {k v m d : Int} {nD : Nat} (h : σ 6 0 = nD) : (∀ j, j < nD → dq (n_hint σ k v m d) 0 j = dq σ 0 j) ∧ dq (n_hint σ k v m d) 0 nD = q4 k v m d := by
  have e : (σ 6 0).toNat = nD := by omega
  constructor
  · intro j hj
    funext i
    match i with
    | 0 => show wr (σ 2) (σ 6 0).toNat k (5 * 0 + j) = _; exact wr_ne (by omega)
    | 1 => show wr (σ 3) (σ 6 0).toNat v (5 * 0 + j) = _; exact wr_ne (by omega)
    | 2 => show wr (σ 4) (σ 6 0).toNat m (5 * 0 + j) = _; exact wr_ne (by omega)
    | i + 3 => show wr (σ 5) (σ 6 0).toNat d (5 * 0 + j) = _; exact wr_ne (by omega)
  · funext i
    have e2 : 5 * 0 + nD = (σ 6 0).toNat := by omega
    match i with
    | 0 => show wr (σ 2) (σ 6 0).toNat k (5 * 0 + nD) = _; rw [e2, wr_at]; rfl
    | 1 => show wr (σ 3) (σ 6 0).toNat v (5 * 0 + nD) = _; rw [e2, wr_at]; rfl
    | 2 => show wr (σ 4) (σ 6 0).toNat m (5 * 0 + nD) = _; rw [e2, wr_at]; rfl
    | i + 3 => show wr (σ 5) (σ 6 0).toNat d (5 * 0 + nD) = _; rw [e2, wr_at]; rfl
theorem dq_hint2 {σ : SS} {k v m d : Int} {nD : Nat} (h : σ 6 0 = nD) (h5 : nD < 5) {r j : Nat} : dq σ (r + 1) j = dq (n_hint σ k v m d) (r + 1) j := by
  have e : (σ 6 0).toNat = nD := by omega
  funext i
  match i with
  | 0 => show _ = wr (σ 2) (σ 6 0).toNat k (5 * (r + 1) + j); exact Eq.symm (wr_ne (by omega))
  | 1 => show _ = wr (σ 3) (σ 6 0).toNat v (5 * (r + 1) + j); exact Eq.symm (wr_ne (by omega))
  | 2 => show _ = wr (σ 4) (σ 6 0).toNat m (5 * (r + 1) + j); exact Eq.symm (wr_ne (by omega))
  | i + 3 => show _ = wr (σ 5) (σ 6 0).toNat d (5 * (r + 1) + j); exact Eq.symm (wr_ne (by omega))
theorem hn_hint {σ : SS} {k v m d : Int} {nD : Nat} (h : σ 6 0 = nD) : hn (n_hint σ k v m d) 0 = nD + 1 := by
  show (wr (σ 6) 0 (σ 6 0 + 1) 0).toNat = _
  rw [wr_at]; omega
/-- the new place of a stage's hints -/
def n_ph (σ : SS) (p : Nat) (h : Int) : SS := su σ 0 (wr (σ 0) p h)
def npl (σ : SS) (p : Nat) (h : Int) (k : Nat) : Int := uq (fitb (n_ph σ p h) (k + 1) (-1))
def pl9 (σ : SS) (p : Nat) (h : Int) (n : Nat) : Nat → Int := fun k => if k < n then npl σ p h k else σ 8 k
def mv9 (σ : SS) (p : Nat) (h : Int) (n : Nat) : Nat → Int := fun k => if k < n ∧ npl σ p h k ≠ σ 8 k then σ 9 k + 1 else σ 9 k
def n_setHeight (σ : SS) (p : Nat) (h : Int) : SS := su (su (n_ph σ p h) 8 (pl9 σ p h (σ 7 0).toNat)) 9 (mv9 σ p h (σ 7 0).toNat)
def b_setHeight (σ : SS) (p : Nat) (h : Int) : Nat → Int
  | 0 => 0
  | n + 1 => b_setHeight σ p h n + (if npl σ p h n ≠ σ 8 n then 1 else 0)
def t_setHeight (p h : Int) : Int := if 0 ≤ p ∧ p < 64 then (if 0 ≤ h ∧ h ≤ 9 then 0 else 2) else 1
theorem b_setHeight_rg (σ : SS) (p : Nat) (h : Int) : ∀ n, 0 ≤ b_setHeight σ p h n ∧ b_setHeight σ p h n ≤ n
  | 0 => ⟨Int.le_refl _, Int.le_refl _⟩
  | n + 1 => by
    have := b_setHeight_rg σ p h n
    unfold b_setHeight
    split <;> omega
theorem WkF.add {G : GG} {μ : Mm} {ys ys' : Nat → Nat} {n e : Nat} {σ σ' : SS} {so sc : Nat → Int} {c p : Int} (h : WkF G μ ys 0 n σ so sc) (hw : WalkerR G μ e (2000 + 10 * n) c p (-1) (-1) 0 0 0 (fun _ => 0) (fun _ => 0)) (e13 : σ' 13 n = c) (e14 : σ' 14 n = p) (e15 : σ' 15 n = -1) (e16 : σ' 16 n = -1) (e17 : σ' 17 n = 0) (eso : so n = 0) (esc : sc n = 0) (e2 : ∀ s, s < 6 → σ' 22 (6 * n + s) = 0 ∧ σ' 21 (6 * n + s) = 0)
    (he : ∀ v, v < n → σ' 13 v = σ 13 v ∧ σ' 14 v = σ 14 v ∧ σ' 15 v = σ 15 v ∧ σ' 16 v = σ 16 v ∧ σ' 17 v = σ 17 v) (e22 : σ' 22 = σ 22) (e21 : σ' 21 = σ 21) (hy : ∀ v, v < n → ys' v = ys v) (hyn : ys' n = e) : WkF G μ ys' 0 (n + 1) σ' so sc := fun v h1 h2 => by
  by_cases q : v = n
  · subst q
    obtain ⟨wa, ta, hO, hA, hB, wk1, wk2, wk3, wk4, wk5, wk6, wk7, hAr, hBr⟩ := hw
    rw [e13, e14, e15, e16, e17, eso, esc, hyn]
    exact ⟨wa, ta, hO, hA.cong (fun j hj => ((e2 j hj).1).symm), hB.cong (fun j hj => ((e2 j hj).2).symm), wk1, wk2, wk3, wk4, wk5, wk6, wk7, fun j hj => by (have := (e2 j hj).1; dsimp only; omega), fun j hj => Or.inl (e2 j hj).2⟩
  · obtain ⟨a1, a2, a3, a4, a5⟩ := he v (by omega)
    rw [a1, a2, a3, a4, a5, e22, e21, hy v (by omega)]
    exact h v h1 (by omega)
theorem Ic.more {σ σ' : SS} {nC : Nat} {so sc En : Nat → Int} (h : Ic σ nC so sc En) (e7 : σ 7 0 ≤ σ' 7 0) (e12 : σ 12 0 ≤ σ' 12 0) (e20 : σ' 20 = σ 20) (e21 : σ' 21 = σ 21) (e22 : σ' 22 = σ 22) : Ic σ' nC so sc En := fun w hw => by
  obtain ⟨h1, h2, h3, h4, h5⟩ := h w hw
  rw [e20, e21, e22]
  exact ⟨h1, Int.le_trans h2 e7, fun q => h3 (Int.le_trans e12 q), h4, h5⟩
theorem Fr.hintsN {lo hi : Nat} {μ μ' : Mm} (hF : Fr lo hi μ μ') {G : GG} {z a b n : Nat} {q : Nat → Nat → Int} {H : Nat → Int} (h : HintsR G z μ a b n q H) (hr : b + 10 + n ≤ lo := by omega) : HintsR G z μ' a b n q H := by
  obtain ⟨al, xs, K, h1, h2, h3, h4⟩ := h
  exact ⟨al, xs, K, hF.ob h1, hF.list h2, h3, fun j hj => ⟨hF.hk (h4 j hj).1 (by omega), (h4 j hj).2⟩⟩
