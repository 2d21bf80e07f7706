/-! HINTS: when one holds; the bits of the places; the only place -/
abbrev HS (h k v m p : Int) : Prop := (k = 0 ∧ p / 8 < v) ∨ (k = 1 ∧ p % 8 < v) ∨ (k = 2 ∧ v ≤ h) ∨ (k = 3 ∧ dst p m ≤ v) ∨ (k ≠ 0 ∧ k ≠ 1 ∧ k ≠ 2 ∧ k ≠ 3 ∧ (p / 8 + p % 8) % 2 = v)
abbrev HH (h k v m d p : Int) : Prop := (HS h k v m p ∧ d = 0) ∨ (¬ HS h k v m p ∧ d ≠ 0)
/-- hint q holds at the place p of the height h -/
def hb (h : Int) (q : Nat → Int) (p : Int) : Bool := decide (HH h (q 0) (q 1) (q 2) (q 3) p)
theorem hb_t {h : Int} {q : Nat → Int} {p : Int} (e : HH h (q 0) (q 1) (q 2) (q 3) p) : hb h q p = true := decide_eq_true e
theorem hb_f {h : Int} {q : Nat → Int} {p : Int} (e : ¬ HH h (q 0) (q 1) (q 2) (q 3) p) : hb h q p = false := decide_eq_false e
def kb (K : Int64) (j : Nat) : Bool := K.toBitVec.getLsbD j
theorem bitL_tv : ∀ k, k < 64 → (bitL k).toBitVec = BitVec.twoPow 64 k := by decide +kernel
theorem kb_or {K : Int64} {p j : Nat} (hp : p < 64) : kb (K ||| bitL p) j = (kb K j || decide (j = p)) := by
  unfold kb
  rw [Int64.toBitVec_or, bitL_tv p hp, BitVec.getLsbD_or, BitVec.getLsbD_twoPow]
  simp [hp, eq_comm]
theorem kb_clr {K : Int64} {p j : Nat} (hp : p < 64) (hj : j < 64) : kb (K &&& (bitL p ^^^ (-1))) j = (kb K j && !decide (j = p)) := by
  unfold kb
  have ha : (-1 : Int64).toBitVec = BitVec.allOnes 64 := by decide
  rw [Int64.toBitVec_and, Int64.toBitVec_xor, bitL_tv p hp, ha, BitVec.getLsbD_and, BitVec.getLsbD_xor, BitVec.getLsbD_twoPow, BitVec.getLsbD_allOnes]
  simp [hp, hj, eq_comm]
theorem kb_and {K L : Int64} {j : Nat} : kb (K &&& L) j = (kb K j && kb L j) := by
  unfold kb
  rw [Int64.toBitVec_and, BitVec.getLsbD_and]
theorem kb_m1 {j : Nat} (hj : j < 64) : kb (-1) j = true := by
  unfold kb
  have ha : (-1 : Int64).toBitVec = BitVec.allOnes 64 := by decide
  rw [ha, BitVec.getLsbD_allOnes]
  simp [hj]
theorem kb_0 {j : Nat} : kb 0 j = false := by
  unfold kb
  have ha : (0 : Int64).toBitVec = 0#64 := by decide
  rw [ha]
  simp
theorem kb_bit {p j : Nat} (hp : p < 64) : kb (bitL p) j = decide (j = p) := by
  unfold kb
  rw [bitL_tv p hp, BitVec.getLsbD_twoPow]
  simp [hp, eq_comm]
theorem kb_ext {K L : Int64} (h : ∀ j, j < 64 → kb K j = kb L j) : K = L := by
  apply Int64.toBitVec_inj.mp
  apply BitVec.eq_of_getLsbD_eq
  intro i hi
  exact h i hi
/-- the only place of f, by its number; -1 where there is none, or more than one -/
def UQ (f : Nat → Bool) (r : Int) : Prop := (∃ p, p < 64 ∧ f p = true ∧ (∀ p', p' < 64 → f p' = true → p' = p) ∧ r = (p : Int)) ∨ ((∀ p, p < 64 → f p = true → ∃ p', p' < 64 ∧ f p' = true ∧ p' ≠ p) ∧ r = -1)
theorem UQ.one {f : Nat → Bool} {r r2 : Int} (h : UQ f r) (h2 : UQ f r2) : r = r2 := by
  rcases h with ⟨p, h1, h3, h4, rfl⟩ | ⟨h1, rfl⟩
  · rcases h2 with ⟨p2, g1, g3, g4, rfl⟩ | ⟨g1, rfl⟩
    · rw [h4 p2 g1 g3]
    · obtain ⟨p', k1, k2, k3⟩ := g1 p h1 h3
      exact absurd (h4 p' k1 k2) k3
  · rcases h2 with ⟨p2, g1, g3, g4, rfl⟩ | ⟨g1, rfl⟩
    · obtain ⟨p', k1, k2, k3⟩ := h1 p2 g1 g3
      exact absurd (g4 p' k1 k2) k3
    · rfl
theorem UQ.cong {f g : Nat → Bool} {r : Int} (h : UQ f r) (e : ∀ p, p < 64 → f p = g p) : UQ g r := by
  rcases h with ⟨p, h1, h3, h4, rfl⟩ | ⟨h1, rfl⟩
  · exact Or.inl ⟨p, h1, by rw [← e p h1]; exact h3, fun p' q1 q2 => h4 p' q1 (by rw [e p' q1]; exact q2), rfl⟩
  · refine Or.inr ⟨fun p q1 q2 => ?_, rfl⟩
    obtain ⟨p', k1, k2, k3⟩ := h1 p q1 (by rw [e p q1]; exact q2)
    exact ⟨p', k1, by rw [← e p' k1]; exact k2, k3⟩
theorem UQ.rg {f : Nat → Bool} {r : Int} (h : UQ f r) : -1 ≤ r ∧ r < 64 := by
  rcases h with ⟨p, h1, h3, h4, rfl⟩ | ⟨h1, rfl⟩ <;> omega
theorem UQ_bit {K : Int64} {p : Nat} (hp : p < 64) (h : K = bitL p) : UQ (kb K) (p : Int) := by
  subst h
  exact Or.inl ⟨p, hp, by rw [kb_bit hp]; simp, fun p' _ q => by rw [kb_bit hp] at q; simpa using q, rfl⟩
theorem UQ_no {K : Int64} (h : ∀ p, p < 64 → K ≠ bitL p) : UQ (kb K) (-1) := by
  refine Or.inr ⟨fun p hp q => ?_, rfl⟩
  by_cases e : ∃ p', p' < 64 ∧ kb K p' = true ∧ p' ≠ p
  · exact e
  · refine absurd (kb_ext (fun j hj => ?_)) (h p hp)
    rw [kb_bit hp]
    by_cases w : j = p
    · subst w; simp [q]
    · cases z : kb K j
      · simp [w]
      · exact absurd ⟨j, hj, z, w⟩ e
/-- all of the first n hold, but the one of number 'but' -/
def alw (f : Nat → Bool) (but : Int) : Nat → Bool
  | 0 => true
  | n + 1 => alw f but n && (decide ((n : Int) = but) || f n)
theorem alw_t {f : Nat → Bool} {but : Int} : ∀ {n : Nat}, alw f but n = true ↔ ∀ j, j < n → (j : Int) ≠ but → f j = true
  | 0 => by simp [alw]
  | n + 1 => by
    unfold alw
    rw [Bool.and_eq_true, alw_t, Bool.or_eq_true, decide_eq_true_eq]
    constructor
    · intro ⟨h1, h2⟩ j hj hb
      by_cases q : j = n
      · subst q
        rcases h2 with h2 | h2
        · exact absurd h2 hb
        · exact h2
      · exact h1 j (by omega) hb
    · intro h
      refine ⟨fun j hj hb => h j (by omega) hb, ?_⟩
      by_cases q : (n : Int) = but
      · exact Or.inl q
      · exact Or.inr (h n (by omega) q)
theorem alw_cong {f g : Nat → Bool} {but : Int} : ∀ {n : Nat}, (∀ j, j < n → f j = g j) → alw f but n = alw g but n
  | 0, _ => rfl
  | n + 1, h => by
    unfold alw
    rw [alw_cong (fun j hj => h j (by omega)), h n (by omega)]
theorem lg_ne {x y : Int64} : ¬ lg_cmp x y = 0 ↔ ¬ x = y := by rw [lg_cmp_eq]
/-- a hint: q 0 kind, q 1 value, q 2 mark, q 3 denial; K the places' bits -/
def HK (μ : Mm) (a r : Nat) (q : Nat → Int) (K : Int64) : Prop := OB μ a r 2 [.int (zI (q 0)), .int (zI (q 1)), .int (zI (q 2)), .int (zI (q 3)), .long K] ∧ (0 ≤ q 0 ∧ q 0 ≤ 4) ∧ (0 ≤ q 1 ∧ q 1 ≤ 14) ∧ (0 ≤ q 2 ∧ q 2 < 64) ∧ (q 3 = 0 ∨ q 3 = 1)
theorem HK.ob {μ : Mm} {a r : Nat} {q : Nat → Int} {K : Int64} (h : HK μ a r q K) : ∃ r fs, μ a = some (r, .inr (2, fs)) := ⟨_, _, h.1⟩
theorem Fr.hk {lo hi : Nat} {μ μ' : Mm} (hF : Fr lo hi μ μ') {a r : Nat} {q : Nat → Int} {K : Int64} (h : HK μ a r q K) (hr : r < lo ∨ hi ≤ r := by omega) : HK μ' a r q K := ⟨hF.ob h.1, h.2⟩
/-- the bits are those of the places where it holds -/
def KOK (H : Nat → Int) (q : Nat → Int) (K : Int64) : Prop := ∀ p, p < 64 → kb K p = hb (H p) q (p : Int)
/-- hints, n of them: role b, the list's b + 1 and b + 2, hint j's b + 10 + j; what they say of heights H stands in their bits -/
def HintsR (G : GG) (z : Nat) (μ : Mm) (a b n : Nat) (q : Nat → Nat → Int) (H : Nat → Int) : Prop := ∃ (al : Nat) (xs : Nat → Nat) (K : Nat → Int64), OB μ a b 3 [.ref al] ∧ ListR G z μ al (b + 1) n xs ∧ n ≤ 5 ∧ ∀ j, j < n → HK μ (xs j) (b + 10 + j) (q j) (K j) ∧ KOK H (q j) (K j)
theorem HintsR.ob {G : GG} {z : Nat} {μ : Mm} {a b n : Nat} {q : Nat → Nat → Int} {H : Nat → Int} (h : HintsR G z μ a b n q H) : ∃ r fs, μ a = some (r, .inr (3, fs)) := by
  obtain ⟨al, xs, K, h1, -⟩ := h
  exact ⟨_, _, h1⟩
theorem HintsR.le {G : GG} {z : Nat} {μ : Mm} {a b n : Nat} {q : Nat → Nat → Int} {H : Nat → Int} (h : HintsR G z μ a b n q H) : n ≤ 5 := by
  obtain ⟨al, xs, K, h1, h2, h3, h4⟩ := h
  exact h3
theorem Fr.hints {lo hi : Nat} {μ μ' : Mm} (hF : Fr lo hi μ μ') {G : GG} {z a b n : Nat} {q : Nat → Nat → Int} {H : Nat → Int} (h : HintsR G z μ a b n q H) (hr : hi ≤ b ∨ b + 15 ≤ lo := by omega) : HintsR G z μ' a b n q H := by
  obtain ⟨al, xs, K, h1, h2, h3, h4⟩ := h
  exact ⟨al, xs, K, hF.ob h1, hF.list h2, h3, fun j hj => ⟨hF.hk (h4 j hj).1, (h4 j hj).2⟩⟩
theorem HintsR.cong {G : GG} {z : Nat} {μ : Mm} {a b n : Nat} {q q' : Nat → Nat → Int} {H H' : Nat → Int} (h : HintsR G z μ a b n q H) (e1 : ∀ j, j < n → ∀ i, i < 4 → q j i = q' j i) (e2 : ∀ p, p < 64 → H p = H' p) : HintsR G z μ a b n q' H' := by
  obtain ⟨al, xs, K, h1, h2, h3, h4⟩ := h
  refine ⟨al, xs, K, h1, h2, h3, fun j hj => ?_⟩
  obtain ⟨g1, g2⟩ := h4 j hj
  have e := e1 j hj
  refine ⟨?_, fun p hp => ?_⟩
  · unfold HK at g1 ⊢
    rw [← e 0 (by omega), ← e 1 (by omega), ← e 2 (by omega), ← e 3 (by omega)]
    exact g1
  · rw [g2 p hp, e2 p hp]
    unfold hb
    rw [e 0 (by omega), e 1 (by omega), e 2 (by omega), e 3 (by omega)]
/-- where all hints of a row hold -/
def allat (H : Nat → Int) (q : Nat → Nat → Int) (but : Int) (n : Nat) (p : Nat) : Bool := alw (fun j => hb (H p) (q j) (p : Int)) but n
theorem KOK.wr {H : Nat → Int} {q : Nat → Int} {K K' : Int64} {p : Nat} {h : Int} (hk : KOK H q K) (h1 : kb K' p = hb h q (p : Int)) (h2 : ∀ j, j < 64 → j ≠ p → kb K' j = kb K j) : KOK (wr H p h) q K' := by
  intro j hj
  by_cases e : j = p
  · subst e
    rw [h1, wr_at]
  · rw [h2 j hj e, wr_ne e]
    exact hk j hj
theorem allat_cong {H H' : Nat → Int} {q q' : Nat → Nat → Int} {but : Int} {n p : Nat} (e1 : ∀ j, j < n → ∀ i, i < 4 → q j i = q' j i) (e2 : H p = H' p) : allat H q but n p = allat H' q' but n p := by
  unfold allat
  refine alw_cong fun j hj => ?_
  unfold hb
  rw [e2, e1 j hj 0 (by omega), e1 j hj 1 (by omega), e1 j hj 2 (by omega), e1 j hj 3 (by omega)]
theorem ask_no {f : Nat → Bool} {r : Int} {k : Nat} (h : (r = -1 ∧ ∀ p, p < k → f p = false) ∨ (∃ p0, p0 < k ∧ r = (p0 : Int) ∧ f p0 = true ∧ ∀ p, p < k → f p = true → p = p0)) (hk : f k = false) : (r = -1 ∧ ∀ p, p < k + 1 → f p = false) ∨ (∃ p0, p0 < k + 1 ∧ r = (p0 : Int) ∧ f p0 = true ∧ ∀ p, p < k + 1 → f p = true → p = p0) := by
  rcases h with ⟨h1, h2⟩ | ⟨p0, h1, h2, h3, h4⟩
  · refine Or.inl ⟨h1, fun p hp => ?_⟩
    by_cases e : p = k
    · rw [e]; exact hk
    · exact h2 p (by omega)
  · refine Or.inr ⟨p0, by omega, h2, h3, fun p hp hf => ?_⟩
    by_cases e : p = k
    · rw [e, hk] at hf; cases hf
    · exact h4 p (by omega) hf
theorem ask_yes {f : Nat → Bool} {r : Int} {k : Nat} (h : (r = -1 ∧ ∀ p, p < k → f p = false) ∨ (∃ p0, p0 < k ∧ r = (p0 : Int) ∧ f p0 = true ∧ ∀ p, p < k → f p = true → p = p0)) (hk : f k = true) (hr : r = -1) : ((k : Int) = -1 ∧ ∀ p, p < k + 1 → f p = false) ∨ (∃ p0, p0 < k + 1 ∧ (k : Int) = (p0 : Int) ∧ f p0 = true ∧ ∀ p, p < k + 1 → f p = true → p = p0) := by
  rcases h with ⟨h1, h2⟩ | ⟨p0, h1, h2, h3, h4⟩
  · refine Or.inr ⟨k, by omega, rfl, hk, fun p hp hf => ?_⟩
    by_cases e : p = k
    · exact e
    · rw [h2 p (by omega)] at hf; cases hf
  · omega
theorem ask_two {f : Nat → Bool} {r : Int} {k : Nat} (h : (r = -1 ∧ ∀ p, p < k → f p = false) ∨ (∃ p0, p0 < k ∧ r = (p0 : Int) ∧ f p0 = true ∧ ∀ p, p < k → f p = true → p = p0)) (hk : f k = true) (hr : r ≠ -1) (hk64 : k < 64) : UQ f (-1) := by
  rcases h with ⟨h1, h2⟩ | ⟨p0, h1, h2, h3, h4⟩
  · exact absurd h1 hr
  · refine Or.inr ⟨fun p hp hf => ?_, rfl⟩
    by_cases e : p = k
    · exact ⟨p0, by omega, h3, by omega⟩
    · exact ⟨k, hk64, hk, fun w => e w.symm⟩
theorem ask_end {f : Nat → Bool} {r : Int} {k : Nat} (h : (r = -1 ∧ ∀ p, p < k → f p = false) ∨ (∃ p0, p0 < k ∧ r = (p0 : Int) ∧ f p0 = true ∧ ∀ p, p < k → f p = true → p = p0)) (hk : k = 64) : UQ f r := by
  subst hk
  rcases h with ⟨h1, h2⟩ | ⟨p0, h1, h2, h3, h4⟩
  · exact Or.inr ⟨fun p hp hf => by (rw [h2 p hp] at hf; cases hf), h1⟩
  · exact Or.inl ⟨p0, h1, h3, h4, h2⟩
/-- a stage: role b + 50, its word's b + 51, its hints' b .. -/
def StageR (G : GG) (z : Nat) (μ : Mm) (a b n : Nat) (q : Nat → Nat → Int) (H : Nat → Int) (m : Nat) (W : Nat → Int) (p mv : Int) : Prop := ∃ hi wd, OB μ a (b + 50) 5 [.ref hi, .ref wd, .int (zI p), .int (zI mv)] ∧ HintsR G z μ hi b n q H ∧ TextR G μ wd (b + 51) m W ∧ UQ (allat H q (-1) n) p
theorem StageR.ob {G : GG} {z : Nat} {μ : Mm} {a b n : Nat} {q : Nat → Nat → Int} {H : Nat → Int} {m : Nat} {W : Nat → Int} {p mv : Int} (h : StageR G z μ a b n q H m W p mv) : ∃ r fs, μ a = some (r, .inr (5, fs)) := by
  obtain ⟨hi, wd, h1, -⟩ := h
  exact ⟨_, _, h1⟩
theorem Fr.stage {lo hi : Nat} {μ μ' : Mm} (hF : Fr lo hi μ μ') {G : GG} {z a b n : Nat} {q : Nat → Nat → Int} {H : Nat → Int} {m : Nat} {W : Nat → Int} {p mv : Int} (h : StageR G z μ a b n q H m W p mv) (hr : hi ≤ b ∨ b + 53 ≤ lo := by omega) : StageR G z μ' a b n q H m W p mv := by
  obtain ⟨h0, wd, h1, h2, h3, h4⟩ := h
  exact ⟨h0, wd, hF.ob h1, hF.hints h2, hF.text h3, h4⟩
/-- the letter of number i of a cipher: word W of m letters, at the place p -/
def cil (W : Nat → Int) (m : Nat) (p i : Int) : Int :=
  if i = p % ((m : Int) + 1) then p % 27 else
    (W (if p % 2 = 1 then (m : Int) - 1 - (if i < p % ((m : Int) + 1) then i else i - 1) else (if i < p % ((m : Int) + 1) then i else i - 1)).toNat + p) % 27
