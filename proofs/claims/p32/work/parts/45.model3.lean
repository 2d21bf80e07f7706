/-! the reference's ways: -1 where there is no way -/
def fS (S : Nat → Int) : Nat → Int := fun j => if S j = -1 then 1000000 else S j
def fin1 (S : Nat → Int) : Nat → Int := fun j => if S j = -1 then 0 else 1
def SI (S : Nat → Int) : Prop := ∀ j, j < 64 → -1 ≤ S j ∧ S j + 10 ≤ 10 * sm (fin1 S) 64
theorem fin1_rg (S : Nat → Int) : ∀ n : Nat, 0 ≤ sm (fin1 S) n ∧ sm (fin1 S) n ≤ n
  | 0 => ⟨Int.le_refl _, Int.le_refl _⟩
  | n + 1 => by
    have := fin1_rg S n
    rw [show sm (fin1 S) (n + 1) = sm (fin1 S) n + (if S n = -1 then 0 else 1) from rfl]
    split <;> omega
theorem SI.r {S : Nat → Int} (h : SI S) : ∀ j, j < 64 → -1 ≤ S j ∧ S j ≤ 700 := fun j hj => by
  have := h j hj
  have := fin1_rg S 64
  omega
theorem fS_wr {S : Nat → Int} {p : Nat} {v : Int} (h : v ≠ -1) : fS (wr S p v) = wr (fS S) p v := by
  funext j
  unfold fS
  by_cases e : j = p
  · subst e; rw [wr_at, wr_at, if_neg h]
  · rw [wr_ne e, wr_ne e]
theorem fin1_wr {S : Nat → Int} {p : Nat} {v : Int} (h : v ≠ -1) : fin1 (wr S p v) = wr (fin1 S) p 1 := by
  funext j
  unfold fin1
  by_cases e : j = p
  · subst e; rw [wr_at, wr_at, if_neg h]
  · rw [wr_ne e, wr_ne e]
theorem SI_0 {S : Nat → Int} {g : Nat} (hg : g < 64) (h : ∀ j, j < 64 → S j = if j = g then 0 else -1) : SI S := by
  have h1 : sm (fin1 S) 64 = sm (wr (fun _ => 0) g 1) 64 := sm_cong fun j hj => by
    unfold fin1
    rw [h j hj]
    by_cases e : j = g
    · subst e; rw [wr_at, if_pos rfl, if_neg (by omega)]
    · rw [wr_ne e, if_neg e, if_pos rfl]
  have h3 : sm (fun _ => (0 : Int)) 64 = 0 := by decide
  have h2 : sm (wr (fun _ => 0) g 1) 64 = 0 - 0 + 1 := by rw [sm_wr hg, h3]
  intro j hj
  rw [h1, h2, h j hj]
  split <;> omega
theorem SI_up {σ : SS} {S : Nat → Int} {p : Nat} {nb v : Int} (h : SI S) (hp : p < 64) (hH : ∀ j, j < 64 → 0 ≤ σ 0 j ∧ σ 0 j ≤ 9) (hv : v = so (σ 0) (σ 1) (fS S) (p : Int) nb) (hl : v < 1000000) (hlt : S p = -1 ∨ v < S p) : SI (wr S p v) ∧ 1 ≤ v := by
  rw [hv] at hl
  obtain ⟨⟨h1, h2, h3⟩, h4⟩ := so_fin hl
  have h5 := h nb.toNat (by omega)
  have hab := iabs_rg (x := σ 0 ((p : Int)).toNat - σ 0 nb.toNat) (n := 9) (by (have := hH ((p : Int)).toNat (by omega); have := hH nb.toNat (by omega); omega))
  have h6 : S nb.toNat ≠ -1 ∧ fS S nb.toNat = S nb.toNat := by
    have hq : fS S nb.toNat = if S nb.toNat = -1 then 1000000 else S nb.toNat := rfl
    by_cases e : S nb.toNat = -1
    · rw [if_pos e] at hq; omega
    · rw [if_neg e] at hq; exact ⟨e, hq⟩
  rw [h6.2] at h4
  have hv1 : v ≠ -1 := by omega
  have hc : sm (fin1 (wr S p v)) 64 = sm (fin1 S) 64 - fin1 S p + 1 := by rw [fin1_wr hv1, sm_wr hp]
  have hfp : (S p = -1 ∧ fin1 S p = 0) ∨ (S p ≠ -1 ∧ fin1 S p = 1) := by
    unfold fin1
    by_cases e : S p = -1
    · rw [if_pos e]; exact Or.inl ⟨e, rfl⟩
    · rw [if_neg e]; exact Or.inr ⟨e, rfl⟩
  refine ⟨fun j hj => ?_, by omega⟩
  have h7 := h j hj
  have h8 := h p hp
  rw [hc]
  by_cases e : j = p
  · subst e; rw [wr_at]; omega
  · rw [wr_ne e]; omega
/-- the sums so far, within a round -/
def GP (σ : SS) (M : Int) (S : Nat → Int) (p : Nat) (go : Int) : Prop := (go = 0 ∧ sm (fS S) 64 ≤ M ∧ ∀ q, q < p → fS S q ≤ bl (σ 0) (σ 1) (fS S) (q : Int) 4) ∨ (go = 1 ∧ sm (fS S) 64 < M)
def GD (σ : SS) (M : Int) (S : Nat → Int) (p d : Nat) (go : Int) : Prop := (go = 0 ∧ sm (fS S) 64 ≤ M ∧ (∀ q, q < p → fS S q ≤ bl (σ 0) (σ 1) (fS S) (q : Int) 4) ∧ ∀ e, e < d → fS S p ≤ so (σ 0) (σ 1) (fS S) (p : Int) (nbr (p : Int) (e : Int))) ∨ (go = 1 ∧ sm (fS S) 64 < M)
theorem GP.rg {σ : SS} {M : Int} {S : Nat → Int} {p : Nat} {go : Int} (h : GP σ M S p go) : go = 0 ∨ go = 1 := by
  rcases h with ⟨h, -⟩ | ⟨h, -⟩
  · exact Or.inl h
  · exact Or.inr h
theorem GD.rg {σ : SS} {M : Int} {S : Nat → Int} {p d : Nat} {go : Int} (h : GD σ M S p d go) : go = 0 ∨ go = 1 := by
  rcases h with ⟨h, -⟩ | ⟨h, -⟩
  · exact Or.inl h
  · exact Or.inr h
theorem GP_0 {σ : SS} {S : Nat → Int} : GP σ (sm (fS S) 64) S 0 0 := Or.inl ⟨rfl, Int.le_refl _, fun q hq => absurd hq (Nat.not_lt_zero q)⟩
theorem GP.gd {σ : SS} {M : Int} {S : Nat → Int} {p : Nat} {go : Int} (h : GP σ M S p go) : GD σ M S p 0 go := by
  rcases h with ⟨h1, h2, h3⟩ | h
  · exact Or.inl ⟨h1, h2, h3, fun e he => absurd he (Nat.not_lt_zero e)⟩
  · exact Or.inr h
theorem GD_n {σ : SS} {M : Int} {S : Nat → Int} {p d : Nat} {go : Int} (h : GD σ M S p d go) (h2 : fS S p ≤ so (σ 0) (σ 1) (fS S) (p : Int) (nbr (p : Int) (d : Int))) : GD σ M S p (d + 1) go := by
  rcases h with ⟨h1, h3, h4, h5⟩ | h
  · refine Or.inl ⟨h1, h3, h4, fun e he => ?_⟩
    by_cases q : e = d
    · subst q; exact h2
    · exact h5 e (by omega)
  · exact Or.inr h
theorem GD_y {σ : SS} {M : Int} {S : Nat → Int} {p d : Nat} {go v : Int} (h : GD σ M S p d go) (hp : p < 64) (hv : v ≠ -1) (h2 : v < fS S p) : GD σ M (wr S p v) p (d + 1) 1 := by
  have e : sm (fS (wr S p v)) 64 = sm (fS S) 64 - fS S p + v := by rw [fS_wr hv, sm_wr hp]
  refine Or.inr ⟨rfl, ?_⟩
  rcases h with ⟨h1, h3, h4, h5⟩ | ⟨h1, h3⟩ <;> omega
theorem GD.gp {σ : SS} {M : Int} {S : Nat → Int} {p : Nat} {go : Int} (h : GD σ M S p 4 go) (hS : fS S p ≤ 1000000) : GP σ M S (p + 1) go := by
  rcases h with ⟨h1, h3, h4, h5⟩ | h
  · refine Or.inl ⟨h1, h3, fun q hq => ?_⟩
    by_cases e : q = p
    · subst e
      rcases bl_at (H := σ 0) (Z := σ 1) (S := fS S) (p := (q : Int)) 4 with ⟨h6, -⟩ | ⟨d, h6, h7, -, -⟩
      · rw [h6]; exact hS
      · rw [h7]; exact h5 d h6
    · exact h4 q (by omega)
  · exact Or.inr h
theorem GP.e {σ : SS} {M : Int} {S : Nat → Int} {g : Nat} {go : Int} (h : GP σ M S 64 go) (hW : WI (σ 0) (σ 1) g (fS S)) : (go = 1 ∧ sm (fS S) 64 < M) ∨ (go = 0 ∧ sm (fS S) 64 ≤ M ∧ WF (σ 0) (σ 1) g (fS S)) := by
  rcases h with ⟨h1, h3, h4⟩ | h
  · exact Or.inr ⟨h1, h3, WF_of hW fun p hp _ => h4 p hp⟩
  · exact Or.inl h
theorem WI_y {σ : SS} {S : Nat → Int} {g p d : Nat} {v : Int} (hW : WI (σ 0) (σ 1) g (fS S)) (hp : p < 64) (hd : d < 4) (hv : v = so (σ 0) (σ 1) (fS S) (p : Int) (nbr (p : Int) (d : Int))) (h1 : 1 ≤ v) (h2 : v < fS S p) : WI (σ 0) (σ 1) g (fS (wr S p v)) := by
  rw [fS_wr (by omega)]
  refine WI_up hW hp ?_ (by omega) ?_
  · rw [hv]; exact bl_so hd
  · intro e
    subst e
    have := hW.1
    omega
/-- the sums told -/
def SD (σ : SS) (g : Nat) (S : Nat → Int) : Prop := (∀ j, j < 64 → -1 ≤ S j ∧ S j ≤ 700) ∧ ∀ j, j < 64 → fS S j = dD σ g j
theorem SD_of {σ : SS} {S : Nat → Int} {g : Nat} (hg : g < 64) (hS : SI S) (hW : WF (σ 0) (σ 1) g (fS S)) : SD σ g S := ⟨hS.r, fun _ hj => dD_eq hg hW hj⟩
theorem SD.way {σ : SS} {S : Nat → Int} {g p : Nat} (h : SD σ g S) (hp : p < 64) : S p = if dD σ g p < 1000000 then dD σ g p else -1 := by
  have h1 := h.1 p hp
  rw [← h.2 p hp]
  unfold fS
  by_cases e : S p = -1
  · rw [if_pos e, if_neg (by omega)]; exact e
  · rw [if_neg e, if_pos (by omega)]
theorem Iv_send {σ : SS} {n : Nat} (hI : Iv σ n) {w g : Int} (hg : 0 ≤ g ∧ g < 64) : Iv (n_send σ w g) n := Iv_wr hI (by decide) (by (show (-1 : Int) ≤ (if _ then _ else _) ∧ (if _ then _ else _) ≤ (63 : Int); split <;> omega))
/-! a walker's minute, in the reference's rows -/
def bgS (σ : SS) (w : Nat) (a b c : Int) : SS := su (su (su σ 15 (wr (σ 15) w a)) 16 (wr (σ 16) w b)) 17 (wr (σ 17) w c)
theorem bgS_1 {σ : SS} {w : Nat} {a : Int} : bgS σ w a (σ 16 w) (σ 17 w) = su σ 15 (wr (σ 15) w a) := by
  unfold bgS
  rw [wr_self, wr_self]
  rw [show su (su σ 15 (wr (σ 15) w a)) 16 (σ 16) = su σ 15 (wr (σ 15) w a) from su_self (σ := su σ 15 (wr (σ 15) w a)) (k := 16)]
  exact su_self (σ := su σ 15 (wr (σ 15) w a)) (k := 17)
theorem bgS_2 {σ : SS} {w : Nat} {b c : Int} : bgS σ w (σ 15 w) b c = su (su σ 16 (wr (σ 16) w b)) 17 (wr (σ 17) w c) := by
  unfold bgS
  rw [wr_self, su_self]
def cmS (σ : SS) (w : Nat) (p a b c : Int) : SS := bgS (su σ 14 (wr (σ 14) w p)) w a b c
theorem cmS_0 {σ : SS} {w : Nat} {a b c : Int} : cmS σ w (σ 14 w) a b c = bgS σ w a b c := by
  unfold cmS
  rw [wr_self, su_self]
theorem wr_wr {f : Nat → Int} {j : Nat} {u v : Int} : wr (wr f j u) j v = wr f j v := by
  funext i
  unfold wr
  split <;> rfl
theorem bgS_17 {σ : SS} {w : Nat} {a b c d : Int} : su (bgS σ w a b c) 17 (wr (bgS σ w a b c 17) w d) = bgS σ w a b d := by
  show su (su (su (su σ 15 _) 16 _) 17 (wr (σ 17) w c)) 17 (wr (wr (σ 17) w c) w d) = _
  rw [wr_wr, su_su]; rfl
theorem bgS_cm {σ : SS} {w : Nat} {a b c d e f g : Int} : su (su (su (su (bgS σ w a b c) 17 (wr (bgS σ w a b c 17) w d)) 14 (wr (bgS σ w a b c 14) w e)) 16 (wr (bgS σ w a b c 16) w f)) 15 (wr (bgS σ w a b c 15) w g) = cmS σ w e g f d := by
  show su (su (su (su (su (su (su σ 15 (wr (σ 15) w a)) 16 (wr (σ 16) w b)) 17 (wr (σ 17) w c)) 17 (wr (wr (σ 17) w c) w d)) 14 (wr (σ 14) w e)) 16 (wr (wr (σ 16) w b) w f)) 15 (wr (wr (σ 15) w a) w g) = su (su (su (su σ 14 (wr (σ 14) w e)) 15 (wr (σ 15) w g)) 16 (wr (σ 16) w f)) 17 (wr (σ 17) w d)
  rw [wr_wr, wr_wr, wr_wr]
  funext i
  unfold su
  by_cases e1 : i = 14
  · subst e1; rfl
  · by_cases e2 : i = 15
    · subst e2; rfl
    · by_cases e3 : i = 16
      · subst e3; rfl
      · by_cases e4 : i = 17
        · subst e4; rfl
        · simp [e1, e2, e3, e4]
def W4ok (w : W4) : Prop := (0 ≤ w.1 ∧ w.1 < 64) ∧ (-1 ≤ w.2.1 ∧ w.2.1 < 64) ∧ (-1 ≤ w.2.2.1 ∧ w.2.2.1 < 64) ∧ (0 ≤ w.2.2.2 ∧ w.2.2.2 ≤ 50) ∧ (w.2.2.1 = -1 → w.2.1 = -1 ∨ w.2.1 ≠ w.1) ∧ (w.2.2.1 ≠ -1 → 1 ≤ w.2.2.2)
theorem wb_ok {σ : SS} {n : Nat} (hI : Iv σ n) {pc : Int} (hpc : 1 ≤ pc ∧ pc ≤ 5) {w : W4} (h : W4ok w) : W4ok (wb σ pc w) := by
  obtain ⟨pl, go, st, le⟩ := w
  obtain ⟨h1, h2, h3, h4, h5, h6⟩ := h
  dsimp only at h1 h2 h3 h4 h5 h6
  unfold wb
  dsimp only
  split
  · rename_i q
    have hb := bb_rg (H := σ 0) (Z := σ 1) (S := dD σ go.toNat) (p := pl) h1 4
    split
    · exact ⟨h1, by dsimp only; omega, by dsimp only; omega, h4, fun _ => Or.inl rfl, fun e => absurd rfl e⟩
    · rename_i q2
      have h7 := hI.r0 pl.toNat (by omega)
      have h8 := hI.r0 (bb (σ 0) (σ 1) (dD σ go.toNat) pl 4).toNat (by omega)
      have h9 := iabs_rg (x := σ 0 pl.toNat - σ 0 (bb (σ 0) (σ 1) (dD σ go.toNat) pl 4).toNat) (n := 9) (by omega)
      have h10 := mul_rg (c := 1 + iabs (σ 0 pl.toNat - σ 0 (bb (σ 0) (σ 1) (dD σ go.toNat) pl 4).toNat)) (p := pc) (by omega) hpc
      exact ⟨h1, h2, by dsimp only; omega, by dsimp only; omega, fun e => absurd e q2, fun _ => by dsimp only; omega⟩
  · exact ⟨h1, h2, h3, h4, h5, h6⟩
theorem wm_ok {w : W4} (h : W4ok w) : W4ok (wm w).1 ∧ ((wm w).2 = 0 ∨ (wm w).2 = 1) := by
  obtain ⟨pl, go, st, le⟩ := w
  obtain ⟨h1, h2, h3, h4, h5, h6⟩ := h
  dsimp only at h1 h2 h3 h4 h5 h6
  unfold wm
  dsimp only
  split
  · exact ⟨⟨h1, h2, h3, h4, h5, h6⟩, Or.inl rfl⟩
  · split
    · exact ⟨⟨h1, h2, h3, by dsimp only; omega, h5, fun _ => by dsimp only; omega⟩, Or.inl rfl⟩
    · split
      · exact ⟨⟨by dsimp only; omega, by dsimp only; omega, by dsimp only; omega, by dsimp only; omega, fun _ => Or.inl rfl, fun e => absurd rfl e⟩, Or.inr rfl⟩
      · rename_i q
        exact ⟨⟨by dsimp only; omega, h2, by dsimp only; omega, by dsimp only; omega, fun _ => Or.inr (fun e => q e.symm), fun e => absurd rfl e⟩, Or.inl rfl⟩
theorem wi_ok {σ : SS} {n : Nat} (hI : Iv σ n) {pc : Int} (hpc : 1 ≤ pc ∧ pc ≤ 5) {w : W4} (h : W4ok w) : ∀ k, W4ok (wi σ pc k w).1
  | 0 => h
  | k + 1 => (wm_ok (wb_ok hI hpc (wi_ok hI hpc h k))).1
theorem sb_of {H Z S : Nat → Int} {p nb r q : Int} (hq : nb = q) (hn : nb = -1 ∨ (0 ≤ nb ∧ nb < 64)) (hS : ∀ j, j < 64 → -1 ≤ S j ∧ S j ≤ 700) (hH : ∀ j, j < 64 → 0 ≤ H j ∧ H j ≤ 9) (hp : 0 ≤ p ∧ p < 64) (h : ((nb = -1 ∨ Z nb.toNat ≠ 0 ∨ S nb.toNat = -1) ∧ r = -1) ∨ ((nb ≠ -1 ∧ Z nb.toNat = 0 ∧ S nb.toNat ≠ -1) ∧ r = 1 + iabs (H p.toNat - H nb.toNat) + S nb.toNat)) : (r = -1 ∧ so H Z (fS S) p q = 1000000) ∨ (1 ≤ r ∧ r ≤ 800 ∧ r = so H Z (fS S) p q ∧ r < 1000000) := by
  subst hq
  have e : fS S nb.toNat = if S nb.toNat = -1 then 1000000 else S nb.toNat := rfl
  unfold so
  rcases h with ⟨h1, h2⟩ | ⟨⟨h1, h2, h3⟩, h4⟩
  · refine Or.inl ⟨h2, ?_⟩
    by_cases w : 0 ≤ nb ∧ nb < 64 ∧ Z nb.toNat = 0
    · rw [if_pos w]
      have h5 : S nb.toNat = -1 := by omega
      rw [if_pos h5] at e
      have h6 := iabs_rg (x := H p.toNat - H nb.toNat) (n := 9) (by (have := hH p.toNat (by omega); have := hH nb.toNat (by omega); omega))
      rw [if_neg (by omega)]
    · rw [if_neg w]
  · rw [if_neg h3] at e
    have h6 := iabs_rg (x := H p.toNat - H nb.toNat) (n := 9) (by (have := hH p.toNat (by omega); have := hH nb.toNat (by omega); omega))
    have h7 := hS nb.toNat (by omega)
    rw [if_pos ⟨by omega, by omega, h2⟩, e, if_pos (by omega)]
    exact Or.inr ⟨by omega, by omega, h4, by omega⟩
