/-! the state keeps its ranges and relations -/
def Kv (σ : SS) (n : Nat) : Prop := Iv σ n ∧ Jv σ
theorem Kv_0 : Kv s0 0 := by
  refine ⟨fun k hk j hj => ?_, ?_, ?_, ?_, ?_⟩
  · show ilo k ≤ (0 : Int) ∧ (0 : Int) ≤ ihi 0 k
    rcases (show k = 0 ∨ k = 1 ∨ k = 2 ∨ k = 3 ∨ k = 4 ∨ k = 5 ∨ k = 6 ∨ k = 7 ∨ k = 8 ∨ k = 9 ∨ k = 10 ∨ k = 11 ∨ k = 12 ∨ k = 13 ∨ k = 14 ∨ k = 15 ∨ k = 16 ∨ k = 17 ∨ k = 18 ∨ k = 19 ∨ k = 20 ∨ k = 21 ∨ k = 22 ∨ k = 23 by omega) with rfl | rfl | rfl | rfl | rfl | rfl | rfl | rfl | rfl | rfl | rfl | rfl | rfl | rfl | rfl | rfl | rfl | rfl | rfl | rfl | rfl | rfl | rfl | rfl <;> simp only [ilo, ihi] <;> omega
  · intro w hw
    exfalso
    change (w : Int) < 0 at hw
    omega
  · intro w _ _
    exact ⟨rfl, fun s _ => ⟨rfl, rfl, rfl⟩⟩
  · intro s hs
    exfalso
    change (s : Int) < 0 at hs
    omega
  · intro s _ _
    rfl
theorem Kv.mono {σ : SS} {n : Nat} (h : Kv σ n) : Kv σ (n + 1) := ⟨h.1.mono, h.2⟩
theorem Kv_close {σ : SS} {n : Nat} (h : Kv σ n) {p : Int} (ht : t_p p = 0) : Kv (n_close σ p) n := by
  have hp : 0 ≤ p ∧ p < 64 := by unfold t_p at ht; split at ht <;> omega
  have h1 := h.1.r1 p.toNat (by omega)
  exact ⟨Iv_wr h.1 (by decide) (by show (0 : Int) ≤ 1 - σ 1 p.toNat ∧ 1 - σ 1 p.toNat ≤ (1 : Int); omega), h.2⟩
theorem Kv_clearDraft {σ : SS} {n : Nat} (h : Kv σ n) : Kv (n_clearDraft σ) n := ⟨Iv_wr h.1 (by decide) (by show (0 : Int) ≤ 0 ∧ (0 : Int) ≤ (5 : Int); omega), h.2⟩
theorem Jv_11 {σ σ' : SS} (hJ : Jv σ) (e7 : σ' 7 = σ 7) (e9 : σ' 9 = σ 9) (e12 : σ' 12 = σ 12) (e13 : σ' 13 = σ 13) (e14 : σ' 14 = σ 14) (e15 : σ' 15 = σ 15) (e16 : σ' 16 = σ 16) (e17 : σ' 17 = σ 17) (e20 : σ' 20 = σ 20) (e21 : σ' 21 = σ 21) (e22 : σ' 22 = σ 22) (e11 : ∀ s, σ' 11 (s + 1) = σ 11 (s + 1)) : Jv σ' := by
  obtain ⟨h1, h2, h3, h4⟩ := hJ
  unfold Jv
  rw [e7, e9, e12, e13, e14, e15, e16, e17, e20, e21, e22]
  exact ⟨h1, h2, fun s hs => by rw [e11]; exact h3 s hs, h4⟩
theorem Kv_clearSpelled {σ : SS} {n : Nat} (h : Kv σ n) : Kv (n_clearSpelled σ) n := ⟨Iv_wr h.1 (by decide) (by show (0 : Int) ≤ 0 ∧ (0 : Int) ≤ (5 : Int); omega), Jv_11 h.2 rfl rfl rfl rfl rfl rfl rfl rfl rfl rfl rfl (fun s => by show wr (σ 11) 0 0 (s + 1) = _; exact wr_ne (by omega))⟩
theorem Kv_spell {σ : SS} {n : Nat} (h : Kv σ n) {c : Int} (ht : t_spell σ c = 0) : Kv (n_spell σ c) n := by
  have hc : (0 ≤ c ∧ c < 27) ∧ σ 11 0 < 5 := by unfold t_spell at ht; split at ht; split at ht; exact ⟨by assumption, by assumption⟩; all_goals omega
  exact ⟨Iv_spell h.1 (by omega) hc.2, Jv_11 h.2 rfl rfl rfl rfl rfl rfl rfl rfl rfl rfl rfl (fun s => by show wr (σ 11) 0 (σ 11 0 + 1) (s + 1) = _; exact wr_ne (by omega))⟩
theorem Kv_addWarden {σ : SS} {n : Nat} (h : Kv σ n) {p : Int} (ht : t_addWarden σ p = 0) : Kv (n_addWarden σ p) n := by
  have hp : (0 ≤ p ∧ p < 64) ∧ σ 18 0 < 4 := by unfold t_addWarden at ht; split at ht; split at ht; exact ⟨by assumption, by assumption⟩; all_goals omega
  have h18 := h.1.n18
  refine ⟨Iv_su (Iv_wr h.1 (by decide) (by show (0 : Int) ≤ p ∧ p ≤ (63 : Int); omega)) ?_, h.2⟩
  intro j hj
  obtain rfl : j = 0 := by (change j < 1 at hj; omega)
  show (0 : Int) ≤ wr (σ 18) 0 (σ 18 0 + 1) 0 ∧ wr (σ 18) 0 (σ 18 0 + 1) 0 ≤ (4 : Int)
  rw [wr_at]; omega
theorem Kv_hint {σ : SS} {n : Nat} (h : Kv σ n) {k v m d : Int} (hd : d = 0 ∨ d = 1) (ht : t_hint σ k v m = 0) : Kv (n_hint σ k v m d) n := by
  have hc : (0 ≤ m ∧ m < 64) ∧ ((0 ≤ k ∧ k ≤ 4) ∧ 0 ≤ v ∧ v ≤ 14) ∧ σ 6 0 < 5 := by unfold t_hint at ht; split at ht; split at ht; split at ht; exact ⟨by assumption, by assumption, by assumption⟩; all_goals omega
  exact ⟨Iv_hint h.1 hc.2.1.1 hc.2.1.2 hc.1 hd hc.2.2, h.2⟩
theorem Kv_send {σ : SS} {n : Nat} (h : Kv σ n) {w g : Int} (ht : t_send σ w g = 0) : Kv (n_send σ w g) n := by
  have hc : (0 ≤ w ∧ w < σ 12 0) ∧ 0 ≤ g ∧ g < 64 := by unfold t_send at ht; split at ht; assumption; omega
  obtain ⟨h1, h2, h3, h4⟩ := h.2
  refine ⟨Iv_send h.1 hc.2, fun v hv => ?_, h2, h3, h4⟩
  obtain ⟨a1, a2, a3⟩ := h1 v hv
  refine ⟨a1, fun e => ?_, a3⟩
  show wr (σ 15) w.toNat _ v = -1 ∨ wr (σ 15) w.toNat _ v ≠ σ 14 v
  by_cases q : v = w.toNat
  · subst q
    rw [wr_at]
    have e' : σ 16 w.toNat = -1 := e
    by_cases q2 : σ 16 w.toNat = -1 ∧ σ 14 w.toNat = g
    · rw [if_pos q2]; exact Or.inl rfl
    · rw [if_neg q2]; exact Or.inr (fun e2 => q2 ⟨e', e2.symm⟩)
  · rw [wr_ne q]; exact a2 e
theorem Kv_addWalker {σ : SS} {n : Nat} (h : Kv σ n) {p c : Int} (ht : t_addWalker σ p c = 0) : Kv (n_addWalker σ p c) n := by
  have hc : (0 ≤ p ∧ p < 64) ∧ (1 ≤ c ∧ c ≤ 5) ∧ σ 12 0 < 6 := by unfold t_addWalker at ht; split at ht; split at ht; split at ht; exact ⟨by assumption, by assumption, by assumption⟩; all_goals omega
  obtain ⟨h1, h2, h3, h4⟩ := h.2
  have h12 := h.1.n12
  have e12 : n_addWalker σ p c 12 0 = σ 12 0 + 1 := by show wr (σ 12) 0 (σ 12 0 + 1) 0 = _; exact wr_at
  refine ⟨Iv_su (Iv_su (Iv_su (Iv_su (Iv_su h.1 ?_) ?_) ?_) ?_) ?_, fun v hv => ?_, fun v hv h6 => ?_, h3, h4⟩
  · intro j hj; have := h.1.r14 j hj; show (0 : Int) ≤ wr _ _ _ _ ∧ wr _ _ _ _ ≤ (63 : Int); unfold wr; split <;> omega
  · intro j hj; have := h.1.r13 j hj; show (0 : Int) ≤ wr _ _ _ _ ∧ wr _ _ _ _ ≤ (5 : Int); unfold wr; split <;> omega
  · intro j hj; have := h.1.r15 j hj; show (-1 : Int) ≤ wr _ _ _ _ ∧ wr _ _ _ _ ≤ (63 : Int); unfold wr; split <;> omega
  · intro j hj; have := h.1.r16 j hj; show (-1 : Int) ≤ wr _ _ _ _ ∧ wr _ _ _ _ ≤ (63 : Int); unfold wr; split <;> omega
  · intro j hj
    obtain rfl : j = 0 := by (change j < 1 at hj; omega)
    show (0 : Int) ≤ wr (σ 12) 0 (σ 12 0 + 1) 0 ∧ wr (σ 12) 0 (σ 12 0 + 1) 0 ≤ (6 : Int)
    rw [wr_at]; omega
  · rw [e12] at hv
    show 1 ≤ wr (σ 13) (σ 12 0).toNat c v ∧ (wr (σ 16) (σ 12 0).toNat (-1) v = -1 → wr (σ 15) (σ 12 0).toNat (-1) v = -1 ∨ wr (σ 15) (σ 12 0).toNat (-1) v ≠ wr (σ 14) (σ 12 0).toNat p v) ∧ (wr (σ 16) (σ 12 0).toNat (-1) v ≠ -1 → 1 ≤ σ 17 v)
    by_cases q : v = (σ 12 0).toNat
    · subst q
      rw [wr_at, wr_at, wr_at]
      exact ⟨hc.2.1.1, fun _ => Or.inl rfl, fun e => absurd rfl e⟩
    · rw [wr_ne q, wr_ne q, wr_ne q, wr_ne q]
      exact h1 v (by omega)
  · rw [e12] at hv
    exact h2 v (by omega) h6
theorem Kv_setHeight {σ : SS} {n : Nat} (h : Kv σ n) {p v : Int} (ht : t_setHeight p v = 0) : Kv (n_setHeight σ p.toNat v) (n + 1) := by
  have hc : (0 ≤ p ∧ p < 64) ∧ 0 ≤ v ∧ v ≤ 9 := by unfold t_setHeight at ht; split at ht; split at ht; exact ⟨by assumption, by assumption⟩; all_goals omega
  obtain ⟨h1, h2, h3, h4⟩ := h.2
  refine ⟨Iv_sh h.1 hc.2 _, h1, h2, h3, fun s hs h6 => ?_⟩
  have hs' : σ 7 0 ≤ (s : Int) := hs
  show mv9 σ p.toNat v (σ 7 0).toNat s = 0
  unfold mv9
  rw [if_neg (by omega)]
  exact h4 s hs h6
theorem Kv_pass {σ : SS} {n : Nat} (h : Kv σ n) {m : Int} (ht : t_pass σ m = 0) : Kv (n_pass σ m) n := by
  have hc : (1 ≤ m ∧ m ≤ 60) ∧ σ 23 0 + m ≤ 5000 := by unfold t_pass at ht; split at ht; split at ht; exact ⟨by assumption, by assumption⟩; all_goals omega
  obtain ⟨h1, h2, h3, h4⟩ := h.2
  have h23 := h.1.n23
  refine ⟨?_, fun w hw => ?_, fun w hw h6 => ?_, h3, h4⟩
  · have := Iv_23 (f := wr (σ 23) 0 (σ 23 0 + m)) (Iv_ps h.1 h.2 m.toNat 0) (by rw [wr_at]; omega)
    exact this
  · have hw' : (w : Int) < σ 12 0 := hw
    have ok := (tp_ok h.1 h.2 hw' m.toNat).1
    obtain ⟨o1, o2, o3, o4, o5, o6⟩ := ok
    show 1 ≤ σ 13 w ∧ (p16 σ m w = -1 → p15 σ m w = -1 ∨ p15 σ m w ≠ p14 σ m w) ∧ (p16 σ m w ≠ -1 → 1 ≤ p17 σ m w)
    unfold p14 p15 p16 p17
    rw [if_pos hw', if_pos hw', if_pos hw', if_pos hw']
    exact ⟨(h1 w hw).1, o5, o6⟩
  · have hw' : σ 12 0 ≤ (w : Int) := hw
    obtain ⟨a1, a2⟩ := h2 w hw h6
    refine ⟨?_, a2⟩
    show p17 σ m w = 0
    unfold p17
    rw [if_neg (by omega)]
    exact a1
theorem Kv_stage {σ : SS} {n : Nat} (h : Kv σ n) (ht : t_stage σ = 0) : Kv (n_stage σ) n := by
  have hc : 0 < σ 11 0 ∧ σ 7 0 < 6 := by unfold t_stage at ht; split at ht; rename_i q; exact q.2.2; omega
  obtain ⟨h1, h2, h3, h4⟩ := h.2
  have h7 := h.1.n7
  have h60 := h.1.r6 0 (by decide)
  have h11 := h.1.r11 0 (by decide)
  have key : ∀ (f : Nat → Int) (lo hi : Int), (∀ j, j < 35 → lo ≤ f j ∧ f j ≤ hi) → ∀ j, j < 35 → lo ≤ cp5 f ((σ 7 0).toNat + 1) j ∧ cp5 f ((σ 7 0).toNat + 1) j ≤ hi := fun f lo hi h j hj => by
    unfold cp5
    split
    · exact h _ (by omega)
    · exact h j hj
  have e7 : n_stage σ 7 0 = σ 7 0 + 1 := by show wr (σ 7) 0 (σ 7 0 + 1) 0 = _; exact wr_at
  have hu := uq_rg (fitb σ 0 (-1))
  refine ⟨Iv_su (Iv_su (Iv_su (Iv_su (Iv_su (Iv_su (Iv_su (Iv_su (Iv_su h.1 (key _ _ _ h.1.r2)) (key _ _ _ h.1.r3)) (key _ _ _ h.1.r4)) (key _ _ _ h.1.r5)) (key _ _ _ h.1.r10)) ?_) ?_) ?_) ?_, h1, h2, fun s hs => ?_, fun s hs h6 => ?_⟩
  · intro j hj; have := h.1.r6 j hj; show (0 : Int) ≤ wr _ _ _ _ ∧ wr _ _ _ _ ≤ (5 : Int); unfold wr; split; omega; split <;> omega
  · intro j hj; have := h.1.r11 j hj; show (0 : Int) ≤ wr _ _ _ _ ∧ wr _ _ _ _ ≤ (5 : Int); unfold wr; split <;> omega
  · intro j hj; have := h.1.r8 j hj; show (-1 : Int) ≤ wr _ _ _ _ ∧ wr _ _ _ _ ≤ (63 : Int); unfold wr; split <;> omega
  · intro j hj
    obtain rfl : j = 0 := by (change j < 1 at hj; omega)
    show (0 : Int) ≤ wr (σ 7) 0 (σ 7 0 + 1) 0 ∧ wr (σ 7) 0 (σ 7 0 + 1) 0 ≤ (6 : Int)
    rw [wr_at]; omega
  · rw [e7] at hs
    show 1 ≤ wr (σ 11) ((σ 7 0).toNat + 1) (σ 11 0) (s + 1)
    by_cases q : s = (σ 7 0).toNat
    · subst q; rw [wr_at]; omega
    · rw [wr_ne (by omega)]; exact h3 s (by omega)
  · rw [e7] at hs
    exact h4 s (by omega) h6
theorem Kv_tell {σ : SS} {n : Nat} (h : Kv σ n) {w o s : Int} (ht : t_tell σ w o s = 0) : Kv (n_tell σ o s) n := by
  have hc : (0 ≤ w ∧ w < σ 12 0) ∧ (0 ≤ o ∧ o < σ 12 0) ∧ 0 ≤ s ∧ s < σ 7 0 := by unfold t_tell at ht; split at ht; assumption; omega
  obtain ⟨h1, h2, h3, h4⟩ := h.2
  have h7 := h.1.n7
  refine ⟨Iv_tell h.1, h1, fun v hv h6 => ?_, h3, h4⟩
  have hv' : σ 12 0 ≤ (v : Int) := hv
  obtain ⟨a1, a2⟩ := h2 v hv h6
  refine ⟨a1, fun u hu => ⟨(a2 u hu).1, ?_, (a2 u hu).2.2⟩⟩
  show wr (σ 21) (6 * o.toNat + s.toNat) 1 (6 * v + u) = 0
  rw [wr_ne (by omega)]
  exact (a2 u hu).2.1
theorem Kv_answer {σ : SS} {n : Nat} (h : Kv σ n) {w s : Int} (ht : t_answer σ w s = 0) : Kv (n_answer σ w s) (n + 1) := by
  have hc : (0 ≤ w ∧ w < σ 12 0) ∧ 0 ≤ s ∧ s < σ 7 0 := by unfold t_answer at ht; split at ht; assumption; omega
  obtain ⟨h1, h2, h3, h4⟩ := h.2
  have h7 := h.1.n7
  have h12 := h.1.n12
  have hd := isWd_rg σ s.toNat
  have h22 := h.1.r22 (6 * w.toNat + s.toNat) (by omega)
  refine ⟨Iv_su (Iv_su h.1.mono ?_) ?_, h1, fun v hv h6 => ?_, h3, h4⟩
  · intro j hj; have := h.1.r20 j hj; show (0 : Int) ≤ wr _ _ _ _ ∧ wr _ _ _ _ ≤ (1 : Int); unfold wr; split <;> omega
  · intro j hj; have := h.1.r22 j hj; show (0 : Int) ≤ wr _ _ _ _ ∧ wr _ _ _ _ ≤ ((n + 1 : Nat) : Int); unfold wr; split <;> omega
  · have hv' : σ 12 0 ≤ (v : Int) := hv
    obtain ⟨a1, a2⟩ := h2 v hv h6
    refine ⟨a1, fun u hu => ⟨?_, (a2 u hu).2.1, ?_⟩⟩
    · show wr (σ 20) (6 * w.toNat + s.toNat) _ (6 * v + u) = 0
      rw [wr_ne (by omega)]; exact (a2 u hu).1
    · show wr (σ 22) (6 * w.toNat + s.toNat) _ (6 * v + u) = 0
      rw [wr_ne (by omega)]; exact (a2 u hu).2.2
theorem RepC.mono {G : GG} {z : Nat} {μ : Mm} {a : Nat} {σ : SS} {n : Nat} (h : RepC G z μ a σ n) : RepC G z μ a σ (n + 1) := by
  obtain ⟨ld, wy, sp, sl, wl, wp, ch, dr, nS, nW, nD, nL, nV, nC, xs, ys, so, sc, En, S, T, h1, h2⟩ := h
  exact ⟨ld, wy, sp, sl, wl, wp, ch, dr, nS, nW, nD, nL, nV, nC, xs, ys, so, sc, En, S, T, by omega, h2⟩
