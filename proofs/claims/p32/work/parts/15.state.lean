/-! THE STATE both sides are tied to: row k of it is the row of the reference's field k -/
abbrev SS := Nat → Nat → Int
def su (σ : SS) (k : Nat) (f : Nat → Int) : SS := fun i => if i = k then f else σ i
def dq (σ : SS) (row : Nat) : Nat → Nat → Int := fun j i => match i with
  | 0 => σ 2 (5 * row + j)
  | 1 => σ 3 (5 * row + j)
  | 2 => σ 4 (5 * row + j)
  | _ => σ 5 (5 * row + j)
def hn (σ : SS) (row : Nat) : Nat := (σ 6 row).toNat
def ln (σ : SS) (row : Nat) : Nat := (σ 11 row).toNat
def lw (σ : SS) (row : Nat) : Nat → Int := fun j => σ 10 (5 * row + j)
def fitb (σ : SS) (row : Nat) (but : Int) : Nat → Bool := allat (σ 0) (dq σ row) but (hn σ row)
/-- how many, and the last -/
def ctb (f : Nat → Bool) : Nat → Int
  | 0 => 0
  | k + 1 => ctb f k + (if f k = true then 1 else 0)
def lsb (f : Nat → Bool) : Nat → Int
  | 0 => -1
  | k + 1 => if f k = true then (k : Int) else lsb f k
def uq (f : Nat → Bool) : Int := if ctb f 64 = 1 then lsb f 64 else -1
theorem ctb_rg (f : Nat → Bool) : ∀ k, 0 ≤ ctb f k ∧ ctb f k ≤ k
  | 0 => ⟨Int.le_refl _, Int.le_refl _⟩
  | k + 1 => by
    have := ctb_rg f k
    unfold ctb
    split <;> omega
theorem ctb_cong {f g : Nat → Bool} : ∀ {n : Nat}, (∀ j, j < n → f j = g j) → ctb f n = ctb g n
  | 0, _ => rfl
  | n + 1, h => by
    unfold ctb
    rw [ctb_cong (fun j hj => h j (by omega)), h n (by omega)]
theorem lsb_cong {f g : Nat → Bool} : ∀ {n : Nat}, (∀ j, j < n → f j = g j) → lsb f n = lsb g n
  | 0, _ => rfl
  | n + 1, h => by
    unfold lsb
    rw [lsb_cong (fun j hj => h j (by omega)), h n (by omega)]
theorem uq_cong {f g : Nat → Bool} (h : ∀ j, j < 64 → f j = g j) : uq f = uq g := by
  unfold uq
  rw [ctb_cong h, lsb_cong h]
theorem ctb_0 {f : Nat → Bool} : ∀ {n : Nat}, ctb f n = 0 → ∀ j, j < n → f j = false
  | 0, _, j, hj => absurd hj (Nat.not_lt_zero j)
  | n + 1, h, j, hj => by
    have h1 := ctb_rg f n
    rw [show ctb f (n + 1) = ctb f n + (if f n = true then 1 else 0) from rfl] at h
    by_cases w : f n = true
    · rw [if_pos w] at h; omega
    · rw [if_neg w] at h
      by_cases e : j = n
      · subst e; cases q : f j
        · rfl
        · exact absurd q w
      · exact ctb_0 (n := n) (by omega) j (by omega)
theorem ctb_1 {f : Nat → Bool} : ∀ {n : Nat}, ctb f n = 1 → ∃ p : Nat, p < n ∧ f p = true ∧ (∀ j, j < n → f j = true → j = p) ∧ lsb f n = (p : Int)
  | 0, h => by simp [ctb] at h
  | n + 1, h => by
    rw [show ctb f (n + 1) = ctb f n + (if f n = true then 1 else 0) from rfl] at h
    rw [show lsb f (n + 1) = (if f n = true then (n : Int) else lsb f n) from rfl]
    by_cases w : f n = true
    · rw [if_pos w] at h
      rw [if_pos w]
      refine ⟨n, by omega, w, fun j hj hf => ?_, rfl⟩
      by_cases e : j = n
      · exact e
      · have := ctb_0 (f := f) (n := n) (by omega) j (by omega)
        rw [this] at hf; cases hf
    · rw [if_neg w] at h
      rw [if_neg w]
      obtain ⟨p, h1, h2, h3, h4⟩ := ctb_1 (f := f) (n := n) (by omega)
      refine ⟨p, by omega, h2, fun j hj hf => ?_, h4⟩
      by_cases e : j = n
      · subst e; exact absurd hf w
      · exact h3 j (by omega) hf
theorem ctb_one {f : Nat → Bool} {p : Nat} (hf : f p = true) : ∀ {n : Nat}, p < n → (∀ j, j < n → f j = true → j = p) → ctb f n = 1
  | 0, h, _ => absurd h (Nat.not_lt_zero p)
  | n + 1, h, ho => by
    rw [show ctb f (n + 1) = ctb f n + (if f n = true then 1 else 0) from rfl]
    by_cases e : p = n
    · subst e
      rw [if_pos hf]
      have : ∀ m, m ≤ p → ctb f m = 0 := by
        intro m
        induction m with
        | zero => intro _; rfl
        | succ m ih =>
          intro hm
          rw [show ctb f (m + 1) = ctb f m + (if f m = true then 1 else 0) from rfl, ih (by omega), if_neg (fun w => by have := ho m (by omega) w; omega)]; rfl
      rw [this p (Nat.le_refl p)]; rfl
    · rw [if_neg (fun w => e (ho n (by omega) w).symm), ctb_one hf (n := n) (by omega) (fun j hj => ho j (by omega))]; rfl
theorem UQ_uq (f : Nat → Bool) : UQ f (uq f) := by
  unfold uq
  by_cases h : ctb f 64 = 1
  · rw [if_pos h]
    obtain ⟨p, h1, h2, h3, h4⟩ := ctb_1 h
    exact Or.inl ⟨p, h1, h2, h3, h4⟩
  · rw [if_neg h]
    refine Or.inr ⟨fun p hp hf => ?_, rfl⟩
    by_cases w : ∃ p', p' < 64 ∧ f p' = true ∧ p' ≠ p
    · exact w
    · exact absurd (ctb_one hf hp (fun j hj q => by
        by_cases e : j = p
        · exact e
        · exact absurd ⟨j, hj, q, e⟩ w)) h
theorem UQ.uq {f : Nat → Bool} {r : Int} (h : UQ f r) : r = uq f := h.one (UQ_uq f)
theorem uq_m1 {f : Nat → Bool} : uq f ≠ -1 ↔ ctb f 64 = 1 := by
  unfold uq
  by_cases h : ctb f 64 = 1
  · obtain ⟨p, h1, h2, h3, h4⟩ := ctb_1 h
    rw [if_pos h]
    exact ⟨fun _ => h, fun _ => by omega⟩
  · rw [if_neg h]
    exact ⟨fun w => absurd rfl w, fun w => absurd w h⟩
/-- ranges of the rows -/
def ilen : Nat → Nat
  | 0 => 64 | 1 => 64 | 2 => 35 | 3 => 35 | 4 => 35 | 5 => 35 | 6 => 7 | 7 => 1 | 8 => 6 | 9 => 6 | 10 => 35 | 11 => 7 | 12 => 1 | 13 => 6 | 14 => 6 | 15 => 6 | 16 => 6 | 17 => 6 | 18 => 1 | 19 => 4 | 20 => 36 | 21 => 36 | 22 => 36 | 23 => 1 | _ => 0
def ilo : Nat → Int
  | 8 => -1 | 15 => -1 | 16 => -1 | _ => 0
def ihi (n : Nat) : Nat → Int
  | 0 => 9 | 1 => 1 | 2 => 4 | 3 => 14 | 4 => 63 | 5 => 1 | 6 => 5 | 7 => 6 | 8 => 63 | 9 => n | 10 => 26 | 11 => 5 | 12 => 6 | 13 => 5 | 14 => 63 | 15 => 63 | 16 => 63 | 17 => 50 | 18 => 4 | 19 => 63 | 20 => 1 | 21 => 1 | 22 => n | 23 => 5000 | _ => 0
def Iv (σ : SS) (n : Nat) : Prop := ∀ k, k < 24 → ∀ j, j < ilen k → ilo k ≤ σ k j ∧ σ k j ≤ ihi n k
theorem Iv.mono {σ : SS} {n : Nat} (h : Iv σ n) : Iv σ (n + 1) := fun k hk j hj => ⟨(h k hk j hj).1, Int.le_trans (h k hk j hj).2 (by
  rcases (show k = 0 ∨ k = 1 ∨ k = 2 ∨ k = 3 ∨ k = 4 ∨ k = 5 ∨ k = 6 ∨ k = 7 ∨ k = 8 ∨ k = 9 ∨ k = 10 ∨ k = 11 ∨ k = 12 ∨ k = 13 ∨ k = 14 ∨ k = 15 ∨ k = 16 ∨ k = 17 ∨ k = 18 ∨ k = 19 ∨ k = 20 ∨ k = 21 ∨ k = 22 ∨ k = 23 by omega) with rfl | rfl | rfl | rfl | rfl | rfl | rfl | rfl | rfl | rfl | rfl | rfl | rfl | rfl | rfl | rfl | rfl | rfl | rfl | rfl | rfl | rfl | rfl | rfl <;> simp only [ihi] <;> omega)⟩
theorem Iv_su {σ : SS} {n k : Nat} {f : Nat → Int} (h : Iv σ n) (hf : ∀ j, j < ilen k → ilo k ≤ f j ∧ f j ≤ ihi n k) : Iv (su σ k f) n := fun i hi j hj => by
  by_cases e : i = k
  · subst e
    unfold su
    rw [if_pos rfl]
    exact hf j hj
  · unfold su
    rw [if_neg e]
    exact h i hi j hj
theorem Iv_wr {σ : SS} {n k : Nat} {p : Nat} {v : Int} (h : Iv σ n) (hk : k < 24) (hv : ilo k ≤ v ∧ v ≤ ihi n k) : Iv (su σ k (wr (σ k) p v)) n := Iv_su h fun j hj => by
  unfold wr
  split
  · exact hv
  · exact h k hk j hj
/-- what holds between the rows -/
def Jv (σ : SS) : Prop :=
  (∀ w : Nat, (w : Int) < σ 12 0 → 1 ≤ σ 13 w ∧ (σ 16 w = -1 → σ 15 w = -1 ∨ σ 15 w ≠ σ 14 w) ∧ (σ 16 w ≠ -1 → 1 ≤ σ 17 w)) ∧
  (∀ w : Nat, σ 12 0 ≤ w → w < 6 → σ 17 w = 0 ∧ ∀ s, s < 6 → σ 20 (6 * w + s) = 0 ∧ σ 21 (6 * w + s) = 0 ∧ σ 22 (6 * w + s) = 0) ∧
  (∀ s : Nat, (s : Int) < σ 7 0 → 1 ≤ σ 11 (s + 1)) ∧
  (∀ s : Nat, σ 7 0 ≤ s → s < 6 → σ 9 s = 0)
def StF (G : GG) (z : Nat) (μ : Mm) (xs : Nat → Nat) (lo hi : Nat) (σ : SS) (H P M : Nat → Int) : Prop := ∀ k, lo ≤ k → k < hi → ∃ W, (∀ j, j < ln σ (k + 1) → W j = lw σ (k + 1) j) ∧ StageR G z μ (xs k) (100 + 100 * k) (hn σ (k + 1)) (dq σ (k + 1)) H (ln σ (k + 1)) W (P k) (M k)
theorem Fr.stf {l h : Nat} {μ μ' : Mm} (hF : Fr l h μ μ') {G : GG} {z : Nat} {xs : Nat → Nat} {lo hi : Nat} {σ : SS} {H P M : Nat → Int} (hS : StF G z μ xs lo hi σ H P M) (hr : h ≤ 100 + 100 * lo ∨ 100 + 100 * hi ≤ l := by omega) : StF G z μ' xs lo hi σ H P M := fun k h1 h2 => by
  obtain ⟨W, h3, h4⟩ := hS k h1 h2
  exact ⟨W, h3, hF.stage h4 (by omega)⟩
def WkF (G : GG) (μ : Mm) (ys : Nat → Nat) (lo hi : Nat) (σ : SS) (so sc : Nat → Int) : Prop := ∀ w, lo ≤ w → w < hi → WalkerR G μ (ys w) (2000 + 10 * w) (σ 13 w) (σ 14 w) (σ 15 w) (σ 16 w) (σ 17 w) (so w) (sc w) (fun s => σ 22 (6 * w + s)) (fun s => σ 21 (6 * w + s))
theorem Fr.wkf {l h : Nat} {μ μ' : Mm} (hF : Fr l h μ μ') {G : GG} {ys : Nat → Nat} {lo hi : Nat} {σ : SS} {so sc : Nat → Int} (hS : WkF G μ ys lo hi σ so sc) (hr : h ≤ 2000 + 10 * lo ∨ 2000 + 10 * hi ≤ l := by omega) : WkF G μ' ys lo hi σ so sc := fun w h1 h2 => hF.walker (hS w h1 h2) (by omega)
/-- the chronicle tells what the rows tell -/
def Ic (σ : SS) (nC : Nat) (so sc En : Nat → Int) : Prop := ∀ w : Nat, w < 6 → 0 ≤ so w ∧ so w ≤ σ 7 0 ∧ (σ 12 0 ≤ w → so w = 0 ∧ sc w = 0) ∧ sc w = sm (fun s => if σ 20 (6 * w + s) = 1 then pts (σ 22 (6 * w + s)) (σ 21 (6 * w + s)) else 0) 6 ∧ ∀ s : Nat, s < 6 → ((s : Int) < so w ∧ σ 20 (6 * w + s) = 1 ∧ PFO En (((w : Int) * 6 + s) * 3) nC (pts (σ 22 (6 * w + s)) (σ 21 (6 * w + s)))) ∨ (so w ≤ s ∧ σ 20 (6 * w + s) = 0 ∧ (∀ i, i < nC → En i ≠ ((w : Int) * 6 + s) * 3) ∧ cnw En (((w : Int) * 6 + s) * 3) nC = σ 22 (6 * w + s) ∧ cnt En (((w : Int) * 6 + s) * 3) nC = σ 21 (6 * w + s))
/-- the class's object, all said -/
def RepX (G : GG) (z : Nat) (μ : Mm) (a : Nat) (σ : SS) (ld wy sp sl wl wp ch dr nS nW nD nL nV nC : Nat) (xs ys : Nat → Nat) (so sc En S T : Nat → Int) : Prop :=
  OB μ a 0 9 [.ref ld, .ref wy, .ref sp, .ref sl, .ref wl, .ref wp, .ref ch, .ref dr, .int (zI (nV : Int)), .int (zI (σ 23 0))] ∧ LandR G μ ld (σ 0) (σ 1) ∧ WaysR G μ wy S T ∧ TextR G μ sp 7 nL (lw σ 0) ∧ ListR G z μ sl 9 nS xs ∧ ListR G z μ wl 11 nW ys ∧ AI G μ wp 13 4 (σ 19) ∧ ChronR G μ ch nC En ∧ HintsR G z μ dr (100 + 100 * nS) nD (dq σ 0) (σ 0) ∧ StF G z μ xs 0 nS σ (σ 0) (σ 8) (σ 9) ∧ WkF G μ ys 0 nW σ so sc ∧ (σ 7 0 = nS ∧ σ 12 0 = nW ∧ σ 6 0 = nD ∧ σ 11 0 = nL ∧ σ 18 0 = nV ∧ nS ≤ 6 ∧ nW ≤ 6 ∧ nV ≤ 4) ∧ Ic σ nC so sc En
def RepC (G : GG) (z : Nat) (μ : Mm) (a : Nat) (σ : SS) (n : Nat) : Prop := ∃ ld wy sp sl wl wp ch dr nS nW nD nL nV nC xs ys so sc En S T, nC ≤ n ∧ RepX G z μ a σ ld wy sp sl wl wp ch dr nS nW nD nL nV nC xs ys so sc En S T
theorem RepX.ob {G : GG} {z : Nat} {μ : Mm} {a : Nat} {σ : SS} {ld wy sp sl wl wp ch dr nS nW nD nL nV nC : Nat} {xs ys : Nat → Nat} {so sc En S T : Nat → Int} (h : RepX G z μ a σ ld wy sp sl wl wp ch dr nS nW nD nL nV nC xs ys so sc En S T) : ∃ r fs, μ a = some (r, .inr (9, fs)) := ⟨_, _, h.1⟩
/-! what each call answers: t the exception's number, b the answer, n the state after it -/
def t_st (σ : SS) (k : Int) : Int := if 0 ≤ k ∧ k < σ 7 0 then 0 else 1
def t_wk (σ : SS) (k : Int) : Int := if 0 ≤ k ∧ k < σ 12 0 then 0 else 1
def t_p (p : Int) : Int := if 0 ≤ p ∧ p < 64 then 0 else 1
def t_pp (p g : Int) : Int := if (0 ≤ p ∧ p < 64) ∧ 0 ≤ g ∧ g < 64 then 0 else 1
def n_close (σ : SS) (p : Int) : SS := su σ 1 (wr (σ 1) p.toNat (1 - σ 1 p.toNat))
def n_clearDraft (σ : SS) : SS := su σ 6 (wr (σ 6) 0 0)
def n_clearSpelled (σ : SS) : SS := su σ 11 (wr (σ 11) 0 0)
def t_spell (σ : SS) (l : Int) : Int := if 0 ≤ l ∧ l < 27 then (if σ 11 0 < 5 then 0 else 2) else 1
def n_spell (σ : SS) (l : Int) : SS := su (su σ 10 (wr (σ 10) (σ 11 0).toNat l)) 11 (wr (σ 11) 0 (σ 11 0 + 1))
def b_spell (σ : SS) (l : Int) : Int := chs (wr (σ 10) (σ 11 0).toNat l) ((σ 11 0).toNat + 1)
def t_addWarden (σ : SS) (p : Int) : Int := if 0 ≤ p ∧ p < 64 then (if σ 18 0 < 4 then 0 else 2) else 1
def n_addWarden (σ : SS) (p : Int) : SS := su (su σ 19 (wr (σ 19) (σ 18 0).toNat p)) 18 (wr (σ 18) 0 (σ 18 0 + 1))
/-- the least sums of a land -/
noncomputable def dD (σ : SS) (g : Nat) : Nat → Int := if h : g < 64 then Classical.choose (WF_ex (σ 0) (σ 1) h) else fun _ => 0
theorem dD_ok {σ : SS} {g : Nat} (h : g < 64) : WF (σ 0) (σ 1) g (dD σ g) := by
  unfold dD
  rw [dif_pos h]
  exact Classical.choose_spec (WF_ex (σ 0) (σ 1) h)
theorem dD_eq {σ : SS} {g : Nat} (h : g < 64) {D : Nat → Int} (hD : WF (σ 0) (σ 1) g D) {p : Nat} (hp : p < 64) : D p = dD σ g p := hD.one (dD_ok h) p hp
noncomputable def b_way (σ : SS) (p g : Int) : Int := if dD σ g.toNat p.toNat < 1000000 then dD σ g.toNat p.toNat else -1
def t_send (σ : SS) (w g : Int) : Int := if (0 ≤ w ∧ w < σ 12 0) ∧ 0 ≤ g ∧ g < 64 then 0 else 1
def n_send (σ : SS) (w g : Int) : SS := su σ 15 (wr (σ 15) w.toNat (if σ 16 w.toNat = -1 ∧ σ 14 w.toNat = g then -1 else g))
def t_addWalker (σ : SS) (p c : Int) : Int := if 0 ≤ p ∧ p < 64 then (if 1 ≤ c ∧ c ≤ 5 then (if σ 12 0 < 6 then 0 else 3) else 2) else 1
def n_addWalker (σ : SS) (p c : Int) : SS := su (su (su (su (su σ 14 (wr (σ 14) (σ 12 0).toNat p)) 13 (wr (σ 13) (σ 12 0).toNat c)) 15 (wr (σ 15) (σ 12 0).toNat (-1))) 16 (wr (σ 16) (σ 12 0).toNat (-1))) 12 (wr (σ 12) 0 (σ 12 0 + 1))
theorem StageR.cong {G : GG} {z : Nat} {μ : Mm} {a b n : Nat} {q q' : Nat → Nat → Int} {H : Nat → Int} {m : Nat} {W : Nat → Int} {p mv : Int} (h : StageR G z μ a b n q H m W p mv) (e : ∀ j, j < n → ∀ i, i < 4 → q j i = q' j i) : StageR G z μ a b n q' H m W p mv := by
  obtain ⟨h0, wd, h1, h2, h3, h4⟩ := h
  exact ⟨h0, wd, h1, h2.cong e (fun _ _ => rfl), h3, h4.cong (fun p hp => allat_cong e rfl)⟩
theorem dq_cong {σ σ' : SS} {r r' j : Nat} (e2 : σ' 2 (5 * r' + j) = σ 2 (5 * r + j)) (e3 : σ' 3 (5 * r' + j) = σ 3 (5 * r + j)) (e4 : σ' 4 (5 * r' + j) = σ 4 (5 * r + j)) (e5 : σ' 5 (5 * r' + j) = σ 5 (5 * r + j)) : ∀ i, dq σ r j i = dq σ' r' j i := fun i => by
  match i with
  | 0 => exact e2.symm
  | 1 => exact e3.symm
  | 2 => exact e4.symm
  | i + 3 => exact e5.symm
theorem StF.cg {G : GG} {z : Nat} {μ : Mm} {xs : Nat → Nat} {lo hi : Nat} {σ σ' : SS} {H P M : Nat → Int} (h : StF G z μ xs lo hi σ H P M) (e6 : ∀ k, k < hi → σ' 6 (k + 1) = σ 6 (k + 1)) (e11 : ∀ k, k < hi → σ' 11 (k + 1) = σ 11 (k + 1)) (e2 : ∀ k, k < hi → ∀ j : Nat, (j : Int) < σ 6 (k + 1) → ∀ i, dq σ (k + 1) j i = dq σ' (k + 1) j i) (e10 : ∀ k, k < hi → ∀ j : Nat, (j : Int) < σ 11 (k + 1) → σ' 10 (5 * (k + 1) + j) = σ 10 (5 * (k + 1) + j)) : StF G z μ xs lo hi σ' H P M := fun k h1 h2 => by
  obtain ⟨W, h3, h4⟩ := h k h1 h2
  have a6 : hn σ' (k + 1) = hn σ (k + 1) := by unfold hn; rw [e6 k h2]
  have a11 : ln σ' (k + 1) = ln σ (k + 1) := by unfold ln; rw [e11 k h2]
  refine ⟨W, fun j hj => ?_, ?_⟩
  · rw [a11] at hj
    rw [h3 j hj]
    exact (e10 k h2 j (by unfold ln at hj; omega)).symm
  · rw [a6, a11]
    exact h4.cong (fun j hj i _ => e2 k h2 j (by unfold hn at hj; omega) i)
theorem WkF.one {G : GG} {μ : Mm} {ys : Nat → Nat} {lo hi : Nat} {σ : SS} {so sc : Nat → Int} (h : WkF G μ ys lo hi σ so sc) {w : Nat} (h1 : lo ≤ w) (h2 : w < hi) : WalkerR G μ (ys w) (2000 + 10 * w) (σ 13 w) (σ 14 w) (σ 15 w) (σ 16 w) (σ 17 w) (so w) (sc w) (fun s => σ 22 (6 * w + s)) (fun s => σ 21 (6 * w + s)) := h w h1 h2
/-- one walker's cells are changed -/
theorem WkF.ch {G : GG} {μ μ' : Mm} {ys : Nat → Nat} {n : Nat} {σ σ' : SS} {so sc so' sc' : Nat → Int} (h : WkF G μ ys 0 n σ so sc) {w l hh : Nat} (hF : Fr l hh μ μ') (hw : 2000 + 10 * w ≤ l ∧ hh ≤ 2003 + 10 * w) (hn : WalkerR G μ' (ys w) (2000 + 10 * w) (σ' 13 w) (σ' 14 w) (σ' 15 w) (σ' 16 w) (σ' 17 w) (so' w) (sc' w) (fun s => σ' 22 (6 * w + s)) (fun s => σ' 21 (6 * w + s)))
    (he : ∀ v, v < n → v ≠ w → σ' 13 v = σ 13 v ∧ σ' 14 v = σ 14 v ∧ σ' 15 v = σ 15 v ∧ σ' 16 v = σ 16 v ∧ σ' 17 v = σ 17 v ∧ so' v = so v ∧ sc' v = sc v ∧ ∀ s, s < 6 → σ' 22 (6 * v + s) = σ 22 (6 * v + s) ∧ σ' 21 (6 * v + s) = σ 21 (6 * v + s)) : WkF G μ' ys 0 n σ' so' sc' := fun v h1 h2 => by
  by_cases e : v = w
  · subst e; exact hn
  · obtain ⟨a1, a2, a3, a4, a5, a6, a7, a8⟩ := he v h2 e
    have := hF.walker (h v h1 h2) (by omega)
    obtain ⟨wa, ta, hO, hA, hB, wk1, wk2, wk3, wk4, wk5, wk6, wk7, hAr, hBr⟩ := this
    rw [a1, a2, a3, a4, a5, a6, a7]
    exact ⟨wa, ta, hO, hA.cong (fun j hj => ((a8 j hj).1).symm), hB.cong (fun j hj => ((a8 j hj).2).symm), wk1, wk2, wk3, wk4, wk5, wk6, wk7, fun j hj => by (have := hAr j hj; dsimp only at this ⊢; rw [(a8 j hj).1]; exact this), fun j hj => by (have := hBr j hj; dsimp only at this ⊢; rw [(a8 j hj).2]; exact this)⟩
