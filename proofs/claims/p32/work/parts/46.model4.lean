/-! the reference's minutes: t of them, and of the next one that of the first v walkers -/
theorem bgS_3 {σ : SS} {w : Nat} : bgS σ w (σ 15 w) (σ 16 w) (σ 17 w) = σ := by rw [bgS_1, wr_self, su_self]
theorem bgS_cm2 {σ : SS} {w : Nat} {a b c e f g : Int} : su (su (su (bgS σ w a b c) 14 (wr (σ 14) w e)) 16 (wr (wr (σ 16) w b) w f)) 15 (wr (wr (σ 15) w a) w g) = cmS σ w e g f c := by
  show su (su (su (su (su (su σ 15 (wr (σ 15) w a)) 16 (wr (σ 16) w b)) 17 (wr (σ 17) w c)) 14 (wr (σ 14) w e)) 16 (wr (wr (σ 16) w b) w f)) 15 (wr (wr (σ 15) w a) w g) = su (su (su (su σ 14 (wr (σ 14) w e)) 15 (wr (σ 15) w g)) 16 (wr (σ 16) w f)) 17 (wr (σ 17) w c)
  rw [wr_wr, wr_wr]
  funext i
  unfold su
  by_cases e1 : i = 14
  · subst e1; rfl
  · by_cases e2 : i = 15
    · subst e2; rfl
    · by_cases e3 : i = 16
      · subst e3; rfl
      · by_cases e4 : i = 17
        · subst e4; rfl
        · simp [e1, e2, e3, e4]
noncomputable def tp (σ : SS) (t w : Nat) : W4 × Int := wi σ (σ 13 w) t (σ 14 w, σ 15 w, σ 16 w, σ 17 w)
def tq (t v w : Nat) : Nat := if w < v then t + 1 else t
noncomputable def ps14 (σ : SS) (t v : Nat) : Nat → Int := fun w => if (w : Int) < σ 12 0 then (tp σ (tq t v w) w).1.1 else σ 14 w
noncomputable def ps15 (σ : SS) (t v : Nat) : Nat → Int := fun w => if (w : Int) < σ 12 0 then (tp σ (tq t v w) w).1.2.1 else σ 15 w
noncomputable def ps16 (σ : SS) (t v : Nat) : Nat → Int := fun w => if (w : Int) < σ 12 0 then (tp σ (tq t v w) w).1.2.2.1 else σ 16 w
noncomputable def ps17 (σ : SS) (t v : Nat) : Nat → Int := fun w => if (w : Int) < σ 12 0 then (tp σ (tq t v w) w).1.2.2.2 else σ 17 w
noncomputable def psS (σ : SS) (t v : Nat) : SS := su (su (su (su σ 14 (ps14 σ t v)) 15 (ps15 σ t v)) 16 (ps16 σ t v)) 17 (ps17 σ t v)
noncomputable def pS (σ : SS) (t v : Nat) : Int := sm (fun w => (tp σ (tq t v w) w).2) (σ 12 0).toNat
theorem tp_ok {σ : SS} {n : Nat} (hI : Iv σ n) (hJ : Jv σ) {w : Nat} (hw : (w : Int) < σ 12 0) (t : Nat) : W4ok (tp σ t w).1 ∧ 1 ≤ σ 13 w ∧ σ 13 w ≤ 5 := by
  have h12 := hI.n12
  obtain ⟨j1, j2, j3⟩ := hJ.1 w hw
  have h13 := hI.r13 w (by omega)
  have h14 := hI.r14 w (by omega)
  have h15 := hI.r15 w (by omega)
  have h16 := hI.r16 w (by omega)
  have h17 := hI.r17 w (by omega)
  refine ⟨wi_ok hI ⟨j1, h13.2⟩ ⟨?_, ?_, ?_, ?_, j2, j3⟩ t, j1, h13.2⟩ <;> dsimp only <;> omega
theorem psS_0 {σ : SS} : psS σ 0 0 = σ := by
  have e1 : ps14 σ 0 0 = σ 14 := by funext w; show (if _ then σ 14 w else σ 14 w) = _; split <;> rfl
  have e2 : ps15 σ 0 0 = σ 15 := by funext w; show (if _ then σ 15 w else σ 15 w) = _; split <;> rfl
  have e3 : ps16 σ 0 0 = σ 16 := by funext w; show (if _ then σ 16 w else σ 16 w) = _; split <;> rfl
  have e4 : ps17 σ 0 0 = σ 17 := by funext w; show (if _ then σ 17 w else σ 17 w) = _; split <;> rfl
  unfold psS
  rw [e1, e2, e3, e4, su_self, su_self, su_self, su_self]
theorem tq_nx {σ : SS} {t w : Nat} (hw : (w : Int) < σ 12 0) : tq t (σ 12 0).toNat w = tq (t + 1) 0 w := by
  unfold tq
  rw [if_pos (by omega), if_neg (by omega)]
theorem psS_nx {σ : SS} {t : Nat} : psS σ t (σ 12 0).toNat = psS σ (t + 1) 0 := by
  have e1 : ps14 σ t (σ 12 0).toNat = ps14 σ (t + 1) 0 := by funext w; unfold ps14; by_cases h : (w : Int) < σ 12 0; rw [if_pos h, if_pos h, tq_nx h]; rw [if_neg h, if_neg h]
  have e2 : ps15 σ t (σ 12 0).toNat = ps15 σ (t + 1) 0 := by funext w; unfold ps15; by_cases h : (w : Int) < σ 12 0; rw [if_pos h, if_pos h, tq_nx h]; rw [if_neg h, if_neg h]
  have e3 : ps16 σ t (σ 12 0).toNat = ps16 σ (t + 1) 0 := by funext w; unfold ps16; by_cases h : (w : Int) < σ 12 0; rw [if_pos h, if_pos h, tq_nx h]; rw [if_neg h, if_neg h]
  have e4 : ps17 σ t (σ 12 0).toNat = ps17 σ (t + 1) 0 := by funext w; unfold ps17; by_cases h : (w : Int) < σ 12 0; rw [if_pos h, if_pos h, tq_nx h]; rw [if_neg h, if_neg h]
  unfold psS
  rw [e1, e2, e3, e4]
theorem pS_nx {σ : SS} {t : Nat} : pS σ t (σ 12 0).toNat = pS σ (t + 1) 0 := sm_cong fun w hw => by rw [tq_nx (by omega)]
theorem tq_s {t v w : Nat} (e : w ≠ v) : tq t (v + 1) w = tq t v w := by
  unfold tq
  by_cases h : w < v
  · rw [if_pos h, if_pos (by omega)]
  · rw [if_neg h, if_neg (by omega)]
theorem tq_v {t v : Nat} : tq t v v = t ∧ tq t (v + 1) v = t + 1 := by
  unfold tq
  rw [if_neg (by omega), if_pos (by omega)]
  exact ⟨rfl, rfl⟩
theorem psS_at {σ : SS} {t v : Nat} (hv : (v : Int) < σ 12 0) : (psS σ t v 14 v, psS σ t v 15 v, psS σ t v 16 v, psS σ t v 17 v) = (tp σ t v).1 := by
  show (ps14 σ t v v, ps15 σ t v v, ps16 σ t v v, ps17 σ t v v) = _
  unfold ps14 ps15 ps16 ps17
  rw [if_pos hv, if_pos hv, if_pos hv, if_pos hv, tq_v.1]
theorem tp_s {σ : SS} {t v : Nat} {pl go st le r : Int} (hv : (v : Int) < σ 12 0) (h : wm (wb (psS σ t v) (psS σ t v 13 v) (psS σ t v 14 v, psS σ t v 15 v, psS σ t v 16 v, psS σ t v 17 v)) = ((pl, go, st, le), r)) : (tp σ (t + 1) v).1 = (pl, go, st, le) ∧ (tp σ (t + 1) v).2 = (tp σ t v).2 + r := by
  rw [psS_at hv] at h
  have h2 : wm (wb σ (σ 13 v) (tp σ t v).1) = ((pl, go, st, le), r) := h
  have e : tp σ (t + 1) v = ((wm (wb σ (σ 13 v) (tp σ t v).1)).1, (tp σ t v).2 + (wm (wb σ (σ 13 v) (tp σ t v).1)).2) := rfl
  rw [e, h2]
  exact ⟨rfl, rfl⟩
theorem psS_s {σ : SS} {t v : Nat} {pl go st le r : Int} (hv : (v : Int) < σ 12 0) (h : wm (wb (psS σ t v) (psS σ t v 13 v) (psS σ t v 14 v, psS σ t v 15 v, psS σ t v 16 v, psS σ t v 17 v)) = ((pl, go, st, le), r)) : cmS (psS σ t v) v pl go st le = psS σ t (v + 1) := by
  obtain ⟨h1, -⟩ := tp_s hv h
  have e1 : wr (ps14 σ t v) v pl = ps14 σ t (v + 1) := by
    funext w
    by_cases e : w = v
    · subst e; rw [wr_at]; unfold ps14; rw [if_pos hv, tq_v.2, h1]
    · rw [wr_ne e]; unfold ps14; rw [tq_s e]
  have e2 : wr (ps15 σ t v) v go = ps15 σ t (v + 1) := by
    funext w
    by_cases e : w = v
    · subst e; rw [wr_at]; unfold ps15; rw [if_pos hv, tq_v.2, h1]
    · rw [wr_ne e]; unfold ps15; rw [tq_s e]
  have e3 : wr (ps16 σ t v) v st = ps16 σ t (v + 1) := by
    funext w
    by_cases e : w = v
    · subst e; rw [wr_at]; unfold ps16; rw [if_pos hv, tq_v.2, h1]
    · rw [wr_ne e]; unfold ps16; rw [tq_s e]
  have e4 : wr (ps17 σ t v) v le = ps17 σ t (v + 1) := by
    funext w
    by_cases e : w = v
    · subst e; rw [wr_at]; unfold ps17; rw [if_pos hv, tq_v.2, h1]
    · rw [wr_ne e]; unfold ps17; rw [tq_s e]
  show su (su (su (su (psS σ t v) 14 (wr (ps14 σ t v) v pl)) 15 (wr (ps15 σ t v) v go)) 16 (wr (ps16 σ t v) v st)) 17 (wr (ps17 σ t v) v le) = _
  rw [e1, e2, e3, e4]
  funext i
  unfold psS su
  by_cases q1 : i = 14
  · subst q1; rfl
  · by_cases q2 : i = 15
    · subst q2; rfl
    · by_cases q3 : i = 16
      · subst q3; rfl
      · by_cases q4 : i = 17
        · subst q4; rfl
        · simp [q1, q2, q3, q4]
theorem pS_s {σ : SS} {t v : Nat} {pl go st le r : Int} (hv : (v : Int) < σ 12 0) (h : wm (wb (psS σ t v) (psS σ t v 13 v) (psS σ t v 14 v, psS σ t v 15 v, psS σ t v 16 v, psS σ t v 17 v)) = ((pl, go, st, le), r)) : pS σ t (v + 1) = pS σ t v + r := by
  obtain ⟨-, h2⟩ := tp_s hv h
  have e : sm (fun w => (tp σ (tq t (v + 1) w) w).2) (σ 12 0).toNat = sm (wr (fun w => (tp σ (tq t v w) w).2) v ((tp σ t v).2 + r)) (σ 12 0).toNat := sm_cong fun w hw => by
    by_cases q : w = v
    · subst q; rw [wr_at, tq_v.2, h2]
    · rw [wr_ne q, tq_s q]
  unfold pS
  rw [e, sm_wr (by omega)]
  show _ - (tp σ (tq t v v) v).2 + _ = _
  rw [tq_v.1]
  omega
theorem Iv_ps {σ : SS} {n : Nat} (hI : Iv σ n) (hJ : Jv σ) (t v : Nat) : Iv (psS σ t v) n := by
  refine Iv_su (Iv_su (Iv_su (Iv_su hI ?_) ?_) ?_) ?_
  · intro j hj
    have h1 := hI.r14 j hj
    show (0 : Int) ≤ ps14 σ t v j ∧ ps14 σ t v j ≤ (63 : Int)
    unfold ps14
    split
    · rename_i q; have := (tp_ok hI hJ q (tq t v j)).1.1; omega
    · exact h1
  · intro j hj
    have h1 := hI.r15 j hj
    show (-1 : Int) ≤ ps15 σ t v j ∧ ps15 σ t v j ≤ (63 : Int)
    unfold ps15
    split
    · rename_i q; have := (tp_ok hI hJ q (tq t v j)).1.2.1; omega
    · exact h1
  · intro j hj
    have h1 := hI.r16 j hj
    show (-1 : Int) ≤ ps16 σ t v j ∧ ps16 σ t v j ≤ (63 : Int)
    unfold ps16
    split
    · rename_i q; have := (tp_ok hI hJ q (tq t v j)).1.2.2.1; omega
    · exact h1
  · intro j hj
    have h1 := hI.r17 j hj
    show (0 : Int) ≤ ps17 σ t v j ∧ ps17 σ t v j ≤ (50 : Int)
    unfold ps17
    split
    · rename_i q; have := (tp_ok hI hJ q (tq t v j)).1.2.2.2.1; omega
    · exact h1
theorem psS_ok {σ : SS} {n : Nat} (hI : Iv σ n) (hJ : Jv σ) {t v : Nat} (hv : (v : Int) < σ 12 0) : W4ok (psS σ t v 14 v, psS σ t v 15 v, psS σ t v 16 v, psS σ t v 17 v) := by
  rw [psS_at hv]
  exact (tp_ok hI hJ hv t).1
theorem pS_pass {σ : SS} {m : Int} : ∀ k : Nat, sm (fun w => (tp σ (tq m.toNat 0 w) w).2) k = b_pass σ m k
  | 0 => rfl
  | k + 1 => by
    show sm _ k + (tp σ (tq m.toNat 0 k) k).2 = b_pass σ m k + (pw σ m k).2
    rw [pS_pass k]; rfl
theorem psS_pass {σ : SS} {m : Int} {f : Nat → Int} : su (psS σ m.toNat 0) 23 f = su (su (su (su (su σ 14 (p14 σ m)) 15 (p15 σ m)) 16 (p16 σ m)) 17 (p17 σ m)) 23 f := rfl
theorem sm_0 {P : Nat → Int} : ∀ {n : Nat}, (∀ w, w < n → P w = 0) → sm P n = 0
  | 0, _ => rfl
  | n + 1, h => by
    rw [show sm P (n + 1) = sm P n + P n from rfl, sm_0 (fun w hw => h w (by omega)), h n (by omega)]; rfl
theorem MA.un23 {G : GG} {μ : Mm} {A : Nat → Nat} {σ : SS} {f : Nat → Int} (h : MA G μ A (su σ 23 f)) : MA G μ A σ := h.cg fun k hk _ j hj => by
  unfold su
  rw [if_neg (by omega)]
theorem cmS_23 {σ : SS} {f : Nat → Int} {w : Nat} {p a b c : Int} : cmS (su σ 23 f) w p a b c = su (cmS σ w p a b c) 23 f := by
  show su (su (su (su (su σ 23 f) 14 (wr (σ 14) w p)) 15 (wr (σ 15) w a)) 16 (wr (σ 16) w b)) 17 (wr (σ 17) w c) = su (su (su (su (su σ 14 (wr (σ 14) w p)) 15 (wr (σ 15) w a)) 16 (wr (σ 16) w b)) 17 (wr (σ 17) w c)) 23 f
  rw [su_cm (k := 23) (l := 14) (by decide), su_cm (k := 23) (l := 15) (by decide), su_cm (k := 23) (l := 16) (by decide), su_cm (k := 23) (l := 17) (by decide)]
theorem Iv_23 {σ : SS} {n : Nat} {f : Nat → Int} (hI : Iv σ n) (h : 0 ≤ f 0 ∧ f 0 ≤ 5000) : Iv (su σ 23 f) n := Iv_su hI fun j hj => by
  obtain rfl : j = 0 := by (change j < 1 at hj; omega)
  exact h
