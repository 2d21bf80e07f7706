/-! the reference's object, tied to the same state -/
def mz (k : Nat) : Bool := k == 1 || k == 5 || k == 20 || k == 21
def mi (k : Nat) : Bool := decide (k < 23) && !(k == 1 || k == 5 || k == 20 || k == 21) && !(k == 7 || k == 12 || k == 18)
def MA (G : GG) (μ : Mm) (A : Nat → Nat) (σ : SS) : Prop := (∀ k, mi k = true → AI G μ (A k) (3001 + k) (ilen k) (σ k)) ∧ ∀ k, mz k = true → AZ G μ (A k) (3001 + k) (ilen k) (σ k)
theorem mi_lt {k : Nat} (h : mi k = true) : k < 23 := by
  unfold mi at h
  simp only [Bool.and_eq_true, decide_eq_true_eq] at h
  exact h.1.1
theorem mz_lt {k : Nat} (h : mz k = true) : k < 23 := by
  unfold mz at h
  simp only [Bool.or_eq_true, beq_iff_eq] at h
  omega
theorem MA.ai {G : GG} {μ : Mm} {A : Nat → Nat} {σ : SS} (h : MA G μ A σ) (k : Nat) (hk : mi k = true) : AI G μ (A k) (3001 + k) (ilen k) (σ k) := h.1 k hk
theorem MA.az {G : GG} {μ : Mm} {A : Nat → Nat} {σ : SS} (h : MA G μ A σ) (k : Nat) (hk : mz k = true) : AZ G μ (A k) (3001 + k) (ilen k) (σ k) := h.2 k hk
theorem Fr.ma {lo hi : Nat} {μ μ' : Mm} (hF : Fr lo hi μ μ') {G : GG} {A : Nat → Nat} {σ : SS} (h : MA G μ A σ) (hr : hi ≤ 3001 ∨ 3024 ≤ lo := by omega) : MA G μ' A σ := ⟨fun k hk => by (have := mi_lt hk; exact hF.ai (h.1 k hk) (by omega)), fun k hk => by (have := mz_lt hk; exact hF.az (h.2 k hk) (by omega))⟩
theorem MA.up {G : GG} {μ μ' : Mm} {A : Nat → Nat} {σ : SS} (h : MA G μ A σ) {k : Nat} {f : Nat → Int} (hk : mi k = true) (hn : AI G μ' (A k) (3001 + k) (ilen k) f) (hF : Fr (3001 + k) (3002 + k) μ μ') : MA G μ' A (su σ k f) := by
  refine ⟨fun j hj => ?_, fun j hj => ?_⟩
  · by_cases e : j = k
    · subst e; unfold su; rw [if_pos rfl]; exact hn
    · unfold su; rw [if_neg e]; exact hF.ai (h.1 j hj) (by omega)
  · by_cases e : j = k
    · subst e
      exfalso
      unfold mz at hj; unfold mi at hk
      rw [hj] at hk; simp at hk
    · unfold su; rw [if_neg e]; exact hF.az (h.2 j hj) (by omega)
theorem MA.upz {G : GG} {μ μ' : Mm} {A : Nat → Nat} {σ : SS} (h : MA G μ A σ) {k : Nat} {f : Nat → Int} (hk : mz k = true) (hn : AZ G μ' (A k) (3001 + k) (ilen k) f) (hF : Fr (3001 + k) (3002 + k) μ μ') : MA G μ' A (su σ k f) := by
  refine ⟨fun j hj => ?_, fun j hj => ?_⟩
  · by_cases e : j = k
    · subst e
      exfalso
      unfold mz at hk; unfold mi at hj
      rw [hk] at hj; simp at hj
    · unfold su; rw [if_neg e]; exact hF.ai (h.1 j hj) (by omega)
  · by_cases e : j = k
    · subst e; unfold su; rw [if_pos rfl]; exact hn
    · unfold su; rw [if_neg e]; exact hF.az (h.2 j hj) (by omega)
/-- the counts are fields of their own -/
theorem MA.sc {G : GG} {μ : Mm} {A : Nat → Nat} {σ : SS} (h : MA G μ A σ) {k : Nat} {f : Nat → Int} (hk : k = 7 ∨ k = 12 ∨ k = 18 ∨ k = 23) : MA G μ A (su σ k f) := by
  refine ⟨fun j hj => ?_, fun j hj => ?_⟩
  · by_cases e : j = k
    · exfalso
      subst e
      rcases hk with rfl | rfl | rfl | rfl <;> revert hj <;> decide
    · unfold su; rw [if_neg e]; exact h.1 j hj
  · by_cases e : j = k
    · exfalso
      subst e
      rcases hk with rfl | rfl | rfl | rfl <;> revert hj <;> decide
    · unfold su; rw [if_neg e]; exact h.2 j hj
theorem MA.cg {G : GG} {μ : Mm} {A : Nat → Nat} {σ σ' : SS} (h : MA G μ A σ) (e : ∀ k, k < 23 → (mi k = true ∨ mz k = true) → ∀ j, j < ilen k → σ k j = σ' k j) : MA G μ A σ' := ⟨fun k hk => (h.1 k hk).cong (e k (mi_lt hk) (Or.inl hk)), fun k hk => (h.2 k hk).cong (e k (mz_lt hk) (Or.inr hk))⟩
theorem wr_self {f : Nat → Int} {j : Nat} : wr f j (f j) = f := by
  funext i
  by_cases e : i = j
  · subst e; exact wr_at
  · exact wr_ne e
theorem su_self {σ : SS} {k : Nat} : su σ k (σ k) = σ := by
  funext i
  unfold su
  split
  · rename_i e; rw [e]
  · rfl

theorem Iv.r0 {σ : SS} {n : Nat} (h : Iv σ n) : ∀ j, j < 64 → (0 : Int) ≤ σ 0 j ∧ σ 0 j ≤ (9 : Int) := fun j hj => h 0 (by decide) j hj
theorem Iv.r1 {σ : SS} {n : Nat} (h : Iv σ n) : ∀ j, j < 64 → (0 : Int) ≤ σ 1 j ∧ σ 1 j ≤ (1 : Int) := fun j hj => h 1 (by decide) j hj
theorem Iv.r2 {σ : SS} {n : Nat} (h : Iv σ n) : ∀ j, j < 35 → (0 : Int) ≤ σ 2 j ∧ σ 2 j ≤ (4 : Int) := fun j hj => h 2 (by decide) j hj
theorem Iv.r3 {σ : SS} {n : Nat} (h : Iv σ n) : ∀ j, j < 35 → (0 : Int) ≤ σ 3 j ∧ σ 3 j ≤ (14 : Int) := fun j hj => h 3 (by decide) j hj
theorem Iv.r4 {σ : SS} {n : Nat} (h : Iv σ n) : ∀ j, j < 35 → (0 : Int) ≤ σ 4 j ∧ σ 4 j ≤ (63 : Int) := fun j hj => h 4 (by decide) j hj
theorem Iv.r5 {σ : SS} {n : Nat} (h : Iv σ n) : ∀ j, j < 35 → (0 : Int) ≤ σ 5 j ∧ σ 5 j ≤ (1 : Int) := fun j hj => h 5 (by decide) j hj
theorem Iv.r6 {σ : SS} {n : Nat} (h : Iv σ n) : ∀ j, j < 7 → (0 : Int) ≤ σ 6 j ∧ σ 6 j ≤ (5 : Int) := fun j hj => h 6 (by decide) j hj
theorem Iv.n7 {σ : SS} {n : Nat} (h : Iv σ n) : (0 : Int) ≤ σ 7 0 ∧ σ 7 0 ≤ (6 : Int) := h 7 (by decide) 0 (by decide)
theorem Iv.r8 {σ : SS} {n : Nat} (h : Iv σ n) : ∀ j, j < 6 → (-1 : Int) ≤ σ 8 j ∧ σ 8 j ≤ (63 : Int) := fun j hj => h 8 (by decide) j hj
theorem Iv.r9 {σ : SS} {n : Nat} (h : Iv σ n) : ∀ j, j < 6 → (0 : Int) ≤ σ 9 j ∧ σ 9 j ≤ (n : Int) := fun j hj => h 9 (by decide) j hj
theorem Iv.r10 {σ : SS} {n : Nat} (h : Iv σ n) : ∀ j, j < 35 → (0 : Int) ≤ σ 10 j ∧ σ 10 j ≤ (26 : Int) := fun j hj => h 10 (by decide) j hj
theorem Iv.r11 {σ : SS} {n : Nat} (h : Iv σ n) : ∀ j, j < 7 → (0 : Int) ≤ σ 11 j ∧ σ 11 j ≤ (5 : Int) := fun j hj => h 11 (by decide) j hj
theorem Iv.n12 {σ : SS} {n : Nat} (h : Iv σ n) : (0 : Int) ≤ σ 12 0 ∧ σ 12 0 ≤ (6 : Int) := h 12 (by decide) 0 (by decide)
theorem Iv.r13 {σ : SS} {n : Nat} (h : Iv σ n) : ∀ j, j < 6 → (0 : Int) ≤ σ 13 j ∧ σ 13 j ≤ (5 : Int) := fun j hj => h 13 (by decide) j hj
theorem Iv.r14 {σ : SS} {n : Nat} (h : Iv σ n) : ∀ j, j < 6 → (0 : Int) ≤ σ 14 j ∧ σ 14 j ≤ (63 : Int) := fun j hj => h 14 (by decide) j hj
theorem Iv.r15 {σ : SS} {n : Nat} (h : Iv σ n) : ∀ j, j < 6 → (-1 : Int) ≤ σ 15 j ∧ σ 15 j ≤ (63 : Int) := fun j hj => h 15 (by decide) j hj
theorem Iv.r16 {σ : SS} {n : Nat} (h : Iv σ n) : ∀ j, j < 6 → (-1 : Int) ≤ σ 16 j ∧ σ 16 j ≤ (63 : Int) := fun j hj => h 16 (by decide) j hj
theorem Iv.r17 {σ : SS} {n : Nat} (h : Iv σ n) : ∀ j, j < 6 → (0 : Int) ≤ σ 17 j ∧ σ 17 j ≤ (50 : Int) := fun j hj => h 17 (by decide) j hj
theorem Iv.n18 {σ : SS} {n : Nat} (h : Iv σ n) : (0 : Int) ≤ σ 18 0 ∧ σ 18 0 ≤ (4 : Int) := h 18 (by decide) 0 (by decide)
theorem Iv.r19 {σ : SS} {n : Nat} (h : Iv σ n) : ∀ j, j < 4 → (0 : Int) ≤ σ 19 j ∧ σ 19 j ≤ (63 : Int) := fun j hj => h 19 (by decide) j hj
theorem Iv.r20 {σ : SS} {n : Nat} (h : Iv σ n) : ∀ j, j < 36 → (0 : Int) ≤ σ 20 j ∧ σ 20 j ≤ (1 : Int) := fun j hj => h 20 (by decide) j hj
theorem Iv.r21 {σ : SS} {n : Nat} (h : Iv σ n) : ∀ j, j < 36 → (0 : Int) ≤ σ 21 j ∧ σ 21 j ≤ (1 : Int) := fun j hj => h 21 (by decide) j hj
theorem Iv.r22 {σ : SS} {n : Nat} (h : Iv σ n) : ∀ j, j < 36 → (0 : Int) ≤ σ 22 j ∧ σ 22 j ≤ (n : Int) := fun j hj => h 22 (by decide) j hj
theorem Iv.n23 {σ : SS} {n : Nat} (h : Iv σ n) : (0 : Int) ≤ σ 23 0 ∧ σ 23 0 ≤ (5000 : Int) := h 23 (by decide) 0 (by decide)
def RepY (G : GG) (μ : Mm) (m : Nat) (σ : SS) (th fo cm : Int) (Ci Su : Nat → Int) (A : Nat → Nat) : Prop := OB μ m 3000 10 [.ref (A 0), .ref (A 1), .ref (A 2), .ref (A 3), .ref (A 4), .ref (A 5), .ref (A 6), .int (zI (σ 7 0)), .ref (A 8), .ref (A 9), .ref (A 10), .ref (A 11), .int (zI (σ 12 0)), .ref (A 13), .ref (A 14), .ref (A 15), .ref (A 16), .ref (A 17), .int (zI (σ 18 0)), .ref (A 19), .ref (A 20), .ref (A 21), .ref (A 22), .int (zI (σ 23 0)), .int (zI th), .int (zI fo), .ref (A 26), .int (zI cm), .ref (A 28)] ∧ MA G μ A σ ∧ AI G μ (A 26) 3027 12 Ci ∧ AI G μ (A 28) 3029 64 Su
theorem RepY.ob {G : GG} {μ : Mm} {m : Nat} {σ : SS} {th fo cm : Int} {Ci Su : Nat → Int} {A : Nat → Nat} (h : RepY G μ m σ th fo cm Ci Su A) : ∃ r fs, μ m = some (r, .inr (10, fs)) := ⟨_, _, h.1⟩
def RepM (G : GG) (μ : Mm) (m : Nat) (σ : SS) (th : Int) : Prop := ∃ fo cm Ci Su A, RepY G μ m σ th fo cm Ci Su A
/-- a call of the reference: its number, its answer, the state -/
def MR (G : GG) (μ : Mm) (m : Nat) (t b : Int) (σ σ' : SS) (r : Int) : Prop := (t = 0 ∧ r = b ∧ RepM G μ m σ' 0) ∨ (t ≠ 0 ∧ RepM G μ m σ t)
def b01 (f : Bool) : Int := if f = true then 1 else 0
