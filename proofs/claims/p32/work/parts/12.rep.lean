/-! WHAT THE CELLS OF THE SYSTEM ARE: a predicate a class; its frame; the words of the land -/
def iabs (x : Int) : Int := if x < 0 then -x else x
def dst (p q : Int) : Int := iabs (p / 8 - q / 8) + iabs (p % 8 - q % 8)
/-- the neighbour of a place in a direction; -1 -/
def nbr (p d : Int) : Int := if d = 0 then (if 0 < p / 8 then p - 8 else -1) else if d = 1 then (if 0 < p % 8 then p - 1 else -1) else if d = 2 then (if p % 8 < 7 then p + 1 else -1) else (if p / 8 < 7 then p + 8 else -1)
theorem iabs_rg {x : Int} {n : Int} (h : -n ≤ x ∧ x ≤ n) : 0 ≤ iabs x ∧ iabs x ≤ n := by unfold iabs; split <;> omega
theorem dst_rg {p q : Int} (hp : 0 ≤ p ∧ p < 64) (hq : 0 ≤ q ∧ q < 64) : 0 ≤ dst p q ∧ dst p q ≤ 14 := by
  have h1 := iabs_rg (x := p / 8 - q / 8) (n := 7) (by omega)
  have h2 := iabs_rg (x := p % 8 - q % 8) (n := 7) (by omega)
  unfold dst
  omega
theorem nbr_rg {p : Int} (hp : 0 ≤ p ∧ p < 64) (d : Int) : nbr p d = -1 ∨ (0 ≤ nbr p d ∧ nbr p d < 64) := by
  unfold nbr
  split
  · split <;> omega
  · split
    · split <;> omega
    · split
      · split <;> omega
      · split <;> omega
def LandR (G : GG) (μ : Mm) (a : Nat) (H Z : Nat → Int) : Prop := ∃ h c, OB μ a 1 4 [.ref h, .ref c] ∧ AI G μ h 2 64 H ∧ AZ G μ c 3 64 Z ∧ (∀ j, j < 64 → 0 ≤ H j ∧ H j ≤ 9) ∧ ∀ j, j < 64 → Z j = 0 ∨ Z j = 1
theorem LandR.ob {G : GG} {μ : Mm} {a : Nat} {H Z : Nat → Int} (h : LandR G μ a H Z) : ∃ r fs, μ a = some (r, .inr (4, fs)) := by
  obtain ⟨h, c, h1, -⟩ := h
  exact ⟨_, _, h1⟩
theorem Fr.land {lo hi : Nat} {μ μ' : Mm} (hF : Fr lo hi μ μ') {G : GG} {a : Nat} {H Z : Nat → Int} (h : LandR G μ a H Z) (hr : hi ≤ 1 ∨ 4 ≤ lo := by omega) : LandR G μ' a H Z := by
  obtain ⟨h, c, h1, h2, h3, h4⟩ := h
  exact ⟨h, c, hF.ob h1, hF.ai h2, hF.az h3, h4⟩
/-- a text: its letters, by their numbers; role r, its row r + 1 -/
def TextR (G : GG) (μ : Mm) (a r n : Nat) (W : Nat → Int) : Prop := ∃ f, OB μ a r 6 [.ref f, .int (zI n)] ∧ AI G μ f (r + 1) 5 W ∧ n ≤ 5 ∧ ∀ j, j < 5 → 0 ≤ W j ∧ W j ≤ 26
theorem TextR.ob {G : GG} {μ : Mm} {a r n : Nat} {W : Nat → Int} (h : TextR G μ a r n W) : ∃ r fs, μ a = some (r, .inr (6, fs)) := by
  obtain ⟨h, h1, -⟩ := h
  exact ⟨_, _, h1⟩
theorem Fr.text {lo hi : Nat} {μ μ' : Mm} (hF : Fr lo hi μ μ') {G : GG} {a r n : Nat} {W : Nat → Int} (h : TextR G μ a r n W) (hr : hi ≤ r ∨ r + 2 ≤ lo := by omega) : TextR G μ' a r n W := by
  obtain ⟨h, h1, h2, h3⟩ := h
  exact ⟨h, hF.ob h1, hF.ai h2, h3⟩
theorem LandR.hr {G : GG} {μ : Mm} {a : Nat} {H Z : Nat → Int} (h : LandR G μ a H Z) : ∀ j, j < 64 → 0 ≤ H j ∧ H j ≤ 9 := by
  obtain ⟨h, c, -, -, -, h4, -⟩ := h
  exact h4
theorem LandR.zr {G : GG} {μ : Mm} {a : Nat} {H Z : Nat → Int} (h : LandR G μ a H Z) : ∀ j, j < 64 → Z j = 0 ∨ Z j = 1 := by
  obtain ⟨h, c, -, -, -, -, h4⟩ := h
  exact h4
/-- a list: n elements at the addresses xs; role r, its array's r + 1 (the JDK's own empty array z, while nothing was added) -/
def ListR (G : GG) (z : Nat) (μ : Mm) (a r : Nat) (n : Nat) (xs : Nat → Nat) : Prop := ∃ (m : Int) (d : Nat), OB μ a r 0 [.int (zI m), .ref d, .int (zI n)] ∧ n ≤ 10 ∧ ((d = z ∧ n = 0) ∨ ∃ f, μ d = some (r + 1, eO G 10 f) ∧ ∀ j, j < n → f j = some (xs j))
theorem ListR.ob {G : GG} {z : Nat} {μ : Mm} {a r n : Nat} {xs : Nat → Nat} (h : ListR G z μ a r n xs) : ∃ r fs, μ a = some (r, .inr (0, fs)) := by
  obtain ⟨m, d, h1, -⟩ := h
  exact ⟨_, _, h1⟩
theorem Fr.list {lo hi : Nat} {μ μ' : Mm} (hF : Fr lo hi μ μ') {G : GG} {z : Nat} {a r n : Nat} {xs : Nat → Nat} (h : ListR G z μ a r n xs) (hr : hi ≤ r ∨ r + 2 ≤ lo := by omega) : ListR G z μ' a r n xs := by
  obtain ⟨m, d, h1, h2, h3⟩ := h
  refine ⟨m, d, hF.ob h1, h2, ?_⟩
  rcases h3 with h3 | ⟨f, h3, h4⟩
  · exact Or.inl h3
  · exact Or.inr ⟨f, hF.at h3, h4⟩
theorem ListR.le {G : GG} {z : Nat} {μ : Mm} {a r n : Nat} {xs : Nat → Nat} (h : ListR G z μ a r n xs) : n ≤ 10 := by
  obtain ⟨m, d, -, h2, -⟩ := h
  exact h2
/-- one more at the end -/
def apn (xs : Nat → Nat) (n e : Nat) : Nat → Nat := fun j => if j = n then e else xs j
theorem apn_at {xs : Nat → Nat} {n e : Nat} : apn xs n e n = e := by simp [apn]
theorem apn_ne {xs : Nat → Nat} {n e j : Nat} (h : j ≠ n) : apn xs n e j = xs j := by simp [apn, h]
theorem ListR.cong {G : GG} {z : Nat} {μ : Mm} {a r n : Nat} {xs ys : Nat → Nat} (h : ListR G z μ a r n xs) (e : ∀ j, j < n → xs j = ys j) : ListR G z μ a r n ys := by
  obtain ⟨m, d, h1, h2, h3⟩ := h
  refine ⟨m, d, h1, h2, ?_⟩
  rcases h3 with h3 | ⟨f, h3, h4⟩
  · exact Or.inl h3
  · exact Or.inr ⟨f, h3, fun j hj => by rw [h4 j hj, e j hj]⟩
theorem TextR.le {G : GG} {μ : Mm} {a r n : Nat} {W : Nat → Int} (h : TextR G μ a r n W) : n ≤ 5 := by
  obtain ⟨h, h1, h2, h3, -⟩ := h
  exact h3
theorem TextR.wr {G : GG} {μ : Mm} {a r n : Nat} {W : Nat → Int} (h : TextR G μ a r n W) : ∀ j, j < 5 → 0 ≤ W j ∧ W j ≤ 26 := by
  obtain ⟨h, h1, h2, h3, h4⟩ := h
  exact h4
/-- how many chars the first n letters are -/
def chs (W : Nat → Int) : Nat → Int
  | 0 => 0
  | n + 1 => chs W n + (if W n = 26 then 2 else 1)
theorem chs_rg (W : Nat → Int) : ∀ n, 0 ≤ chs W n ∧ chs W n ≤ 2 * n
  | 0 => by simp [chs]
  | n + 1 => by
    have := chs_rg W n
    unfold chs
    split <;> omega
/-- the points of a stage: w wrong answers, told or not -/
def pts (w t : Int) : Int := if t = 0 then (if 10 < 100 - 10 * w then 100 - 10 * w else 10) else (if 10 < 100 - 10 * w then 100 - 10 * w else 10) / 2
def bitL (k : Nat) : Int64 := (1 : Int64) <<< ((zI (k : Int)).toInt64 &&& 63)
theorem pts_rg {w t : Int} (hw : 0 ≤ w ∧ w ≤ 1000) : 0 ≤ pts w t ∧ pts w t ≤ 100 := by
  unfold pts
  split <;> split <;> omega
theorem mul_rg {c p : Int} (hc : 1 ≤ c ∧ c ≤ 10) (hp : 1 ≤ p ∧ p ≤ 5) : 1 ≤ c * p ∧ c * p ≤ 50 := by
  rcases (show p = 1 ∨ p = 2 ∨ p = 3 ∨ p = 4 ∨ p = 5 by omega) with rfl | rfl | rfl | rfl | rfl <;> omega
/-- a walker: role r, its rows r + 1, r + 2 -/
def WalkerR (G : GG) (μ : Mm) (a r : Nat) (pc pl go st le so sc : Int) (Wr To : Nat → Int) : Prop := ∃ wa ta, OB μ a r 7 [.int (zI pc), .ref wa, .ref ta, .int (zI pl), .int (zI go), .int (zI st), .int (zI le), .int (zI so), .int (zI sc)] ∧ AI G μ wa (r + 1) 6 Wr ∧ AZ G μ ta (r + 2) 6 To ∧ (1 ≤ pc ∧ pc ≤ 5) ∧ (0 ≤ pl ∧ pl < 64) ∧ (-1 ≤ go ∧ go < 64) ∧ (-1 ≤ st ∧ st < 64) ∧ (0 ≤ le ∧ le ≤ 50) ∧ (0 ≤ so ∧ so ≤ 6) ∧ (0 ≤ sc ∧ sc ≤ 100 * so) ∧ (∀ j, j < 6 → 0 ≤ Wr j ∧ Wr j ≤ 1000) ∧ ∀ j, j < 6 → To j = 0 ∨ To j = 1
theorem WalkerR.ob {G : GG} {μ : Mm} {a r : Nat} {pc pl go st le so sc : Int} {Wr To : Nat → Int} (h : WalkerR G μ a r pc pl go st le so sc Wr To) : ∃ r fs, μ a = some (r, .inr (7, fs)) := by
  obtain ⟨wa, ta, h1, -⟩ := h
  exact ⟨_, _, h1⟩
theorem Fr.walker {lo hi : Nat} {μ μ' : Mm} (hF : Fr lo hi μ μ') {G : GG} {a r : Nat} {pc pl go st le so sc : Int} {Wr To : Nat → Int} (h : WalkerR G μ a r pc pl go st le so sc Wr To) (hr : hi ≤ r ∨ r + 3 ≤ lo := by omega) : WalkerR G μ' a r pc pl go st le so sc Wr To := by
  obtain ⟨wa, ta, h1, h2, h3, h4⟩ := h
  exact ⟨wa, ta, hF.ob h1, hF.ai h2, hF.az h3, h4⟩
theorem WalkerR.rg {G : GG} {μ : Mm} {a r : Nat} {pc pl go st le so sc : Int} {Wr To : Nat → Int} (h : WalkerR G μ a r pc pl go st le so sc Wr To) : (1 ≤ pc ∧ pc ≤ 5) ∧ (0 ≤ pl ∧ pl < 64) ∧ (-1 ≤ go ∧ go < 64) ∧ (-1 ≤ st ∧ st < 64) ∧ (0 ≤ le ∧ le ≤ 50) ∧ (0 ≤ so ∧ so ≤ 6) ∧ (0 ≤ sc ∧ sc ≤ 100 * so) ∧ (∀ j, j < 6 → 0 ≤ Wr j ∧ Wr j ≤ 1000) ∧ ∀ j, j < 6 → To j = 0 ∨ To j = 1 := by
  obtain ⟨wa, ta, h1, h2, h3, h4⟩ := h
  exact h4
/-- the chronicle: n entries -/
def ChronR (G : GG) (μ : Mm) (a n : Nat) (En : Nat → Int) : Prop := ∃ e, OB μ a 14 1 [.ref e, .int (zI n)] ∧ AI G μ e 15 512 En ∧ n ≤ 512 ∧ ∀ j, j < 512 → 0 ≤ En j ∧ En j < 200
theorem ChronR.ob {G : GG} {μ : Mm} {a n : Nat} {En : Nat → Int} (h : ChronR G μ a n En) : ∃ r fs, μ a = some (r, .inr (1, fs)) := by
  obtain ⟨e, h1, -⟩ := h
  exact ⟨_, _, h1⟩
theorem Fr.chron {lo hi : Nat} {μ μ' : Mm} (hF : Fr lo hi μ μ') {G : GG} {a n : Nat} {En : Nat → Int} (h : ChronR G μ a n En) (hr : hi ≤ 14 ∨ 16 ≤ lo := by omega) : ChronR G μ' a n En := by
  obtain ⟨e, h1, h2, h3⟩ := h
  exact ⟨e, hF.ob h1, hF.ai h2, h3⟩
/-- of the first k entries: how many are the wrong answers of a code; whether one is its telling -/
def cnw (En : Nat → Int) (c : Int) : Nat → Int
  | 0 => 0
  | k + 1 => cnw En c k + (if En k - c = 1 then 1 else 0)
def cnt (En : Nat → Int) (c : Int) : Nat → Int
  | 0 => 0
  | k + 1 => if cnt En c k = 0 then (if En k - c = 2 then 1 else 0) else 1
theorem cnw_rg (En : Nat → Int) (c : Int) : ∀ k, 0 ≤ cnw En c k ∧ cnw En c k ≤ k
  | 0 => by simp [cnw]
  | k + 1 => by
    have := cnw_rg En c k
    unfold cnw
    split <;> omega
theorem cnt_rg (En : Nat → Int) (c : Int) : ∀ k, cnt En c k = 0 ∨ cnt En c k = 1
  | 0 => by simp [cnt]
  | k + 1 => by
    unfold cnt
    split
    · split <;> simp
    · simp
/-- the points that the chronicle's first n entries tell of a code -/
def PFO (En : Nat → Int) (c : Int) (n : Nat) (r : Int) : Prop := (∃ i, i < n ∧ En i = c ∧ (∀ j, j < i → En j ≠ c) ∧ r = pts (cnw En c i) (cnt En c i)) ∨ ((∀ i, i < n → En i ≠ c) ∧ r = 0)
theorem PFO.rg {En : Nat → Int} {c : Int} {n : Nat} {r : Int} (h : PFO En c n r) (hn : n ≤ 512) : 0 ≤ r ∧ r ≤ 100 := by
  rcases h with ⟨i, h1, h2, h3, rfl⟩ | ⟨h1, rfl⟩
  · have := cnw_rg En c i
    exact pts_rg (by omega)
  · omega
theorem PFO.one {En : Nat → Int} {c : Int} {n : Nat} {r r2 : Int} (h : PFO En c n r) (h2 : PFO En c n r2) : r = r2 := by
  rcases h with ⟨i, h1, h3, h4, rfl⟩ | ⟨h1, rfl⟩
  · rcases h2 with ⟨i2, g1, g3, g4, rfl⟩ | ⟨g1, rfl⟩
    · have : i = i2 := by
        rcases Nat.lt_trichotomy i i2 with q | q | q
        · exact absurd h3 (g4 i q)
        · exact q
        · exact absurd g3 (h4 i2 q)
      rw [this]
    · exact absurd h3 (g1 i h1)
  · rcases h2 with ⟨i2, g1, g3, g4, rfl⟩ | ⟨g1, rfl⟩
    · exact absurd g3 (h1 i2 g1)
    · rfl
def sm (P : Nat → Int) : Nat → Int
  | 0 => 0
  | k + 1 => sm P k + P k
theorem sm_cong {P Q : Nat → Int} : ∀ {k : Nat}, (∀ j, j < k → P j = Q j) → sm P k = sm Q k
  | 0, _ => rfl
  | k + 1, h => by
    unfold sm
    rw [sm_cong (fun j hj => h j (by omega)), h k (by omega)]
theorem sm_up {P : Nat → Int} {k : Nat} {v : Int} : sm (va_up P k v) k = sm P k := sm_cong fun j hj => va_up_ne _ _ (by omega)
