/-! what each call answers, on -/
def b_solved (σ : SS) (w : Nat) : Int := sm (fun s => σ 20 (6 * w + s)) (σ 7 0).toNat
def ptq (σ : SS) (w : Nat) : Nat → Int := fun s => if σ 20 (6 * w + s) = 1 then pts (σ 22 (6 * w + s)) (σ 21 (6 * w + s)) else 0
def b_score (σ : SS) (w : Nat) : Int := sm (ptq σ w) (σ 7 0).toNat
theorem Ic.bit {σ : SS} {nC : Nat} {so sc En : Nat → Int} (h : Ic σ nC so sc En) {w : Nat} (hw : w < 6) {s : Nat} (hs : s < 6) : σ 20 (6 * w + s) = if (s : Int) < so w then 1 else 0 := by
  rcases (h w hw).2.2.2.2 s hs with ⟨h1, h2, -⟩ | ⟨h1, h2, -⟩
  · rw [if_pos h1, h2]
  · rw [if_neg (by omega), h2]
theorem Ic.sums {σ : SS} {nC : Nat} {so sc En : Nat → Int} (h : Ic σ nC so sc En) {w : Nat} (hw : w < 6) : ∀ n : Nat, n ≤ 6 → sm (fun s => σ 20 (6 * w + s)) n = if (n : Int) ≤ so w then (n : Int) else so w
  | 0, _ => by
    have := (h w hw).1
    rw [if_pos (by omega)]; rfl
  | n + 1, hn => by
    rw [show sm (fun s => σ 20 (6 * w + s)) (n + 1) = sm (fun s => σ 20 (6 * w + s)) n + σ 20 (6 * w + n) from rfl, h.sums hw n (by omega), h.bit hw (show n < 6 by omega)]
    split <;> split <;> split <;> omega
theorem Ic.so {σ : SS} {nC : Nat} {so sc En : Nat → Int} (h : Ic σ nC so sc En) {w : Nat} (hw : w < 6) {nS : Nat} (h7 : σ 7 0 = nS) (h6 : nS ≤ 6) : so w = b_solved σ w := by
  unfold b_solved
  rw [h7, Int.toNat_natCast, h.sums hw nS h6]
  have := (h w hw).2.1
  split <;> omega
theorem Ic.ptq0 {σ : SS} {nC : Nat} {so sc En : Nat → Int} (h : Ic σ nC so sc En) {w : Nat} (hw : w < 6) : ∀ n : Nat, n ≤ 6 → so w ≤ n → sm (ptq σ w) 6 = sm (ptq σ w) n := by
  have key : ∀ d n : Nat, n + d = 6 → so w ≤ n → sm (ptq σ w) 6 = sm (ptq σ w) n := by
    intro d
    induction d with
    | zero => intro n hn _; rw [show n = 6 by omega]
    | succ d ih =>
      intro n hn hs
      rw [ih (n + 1) (by omega) (by omega), show sm (ptq σ w) (n + 1) = sm (ptq σ w) n + ptq σ w n from rfl]
      have := h.bit hw (show n < 6 by omega)
      rw [if_neg (by omega)] at this
      unfold ptq
      rw [if_neg (by omega)]
      omega
  exact fun n hn hs => key (6 - n) n (by omega) hs
theorem Ic.sc {σ : SS} {nC : Nat} {so sc En : Nat → Int} (h : Ic σ nC so sc En) {w : Nat} (hw : w < 6) {nS : Nat} (h7 : σ 7 0 = nS) (h6 : nS ≤ 6) : sc w = b_score σ w := by
  unfold b_score
  have h1 := (h w hw).2.1
  rw [h7, Int.toNat_natCast, ← h.ptq0 hw nS h6 (by omega)]
  exact (h w hw).2.2.2.1
theorem Ic.anew {σ : SS} {nC : Nat} {so sc En : Nat → Int} (h : Ic σ nC so sc En) {w : Nat} (hw : w < 6) {P : Nat → Int} (hP : ∀ s : Nat, s < 6 → PFO En (((w : Int) * 6 + s) * 3) nC (P s)) : P 0 + P 1 + P 2 + P 3 + P 4 + P 5 = sc w := by
  have key : ∀ s : Nat, s < 6 → P s = ptq σ w s := fun s hs => by
    unfold ptq
    rcases (h w hw).2.2.2.2 s hs with ⟨h1, h2, h3⟩ | ⟨h1, h2, h3, -⟩
    · rw [if_pos h2]; exact (hP s hs).one h3
    · rw [if_neg (by omega)]
      exact (hP s hs).one (Or.inr ⟨h3, rfl⟩)
  rw [(h w hw).2.2.2.1, key 0 (by omega), key 1 (by omega), key 2 (by omega), key 3 (by omega), key 4 (by omega), key 5 (by omega)]
  show _ = 0 + ptq σ w 0 + ptq σ w 1 + ptq σ w 2 + ptq σ w 3 + ptq σ w 4 + ptq σ w 5
  omega
