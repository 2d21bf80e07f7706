/-! p32: what the law holds between two turns -/
theorem nF_c {σ σ' : SS} (e7 : σ' 7 0 = σ 7 0) (e12 : σ' 12 0 = σ 12 0) (e18 : σ' 18 0 = σ 18 0) (e23 : σ' 23 0 = σ 23 0) : nF σ' = nF σ := by
  funext j
  match j with
  | 0 => exact e7
  | 1 => exact e12
  | 2 => exact e18
  | j + 3 => exact e23
theorem nF_7 {σ σ' : SS} {v : Int} (e7 : σ' 7 0 = v) (e12 : σ' 12 0 = σ 12 0) (e18 : σ' 18 0 = σ 18 0) (e23 : σ' 23 0 = σ 23 0) : nF σ' = wr (nF σ) 0 v := by
  funext j
  match j with
  | 0 => rw [wr_at]; exact e7
  | 1 => rw [wr_ne (by omega)]; exact e12
  | 2 => rw [wr_ne (by omega)]; exact e18
  | j + 3 => rw [wr_ne (by omega)]; exact e23
theorem nF_12 {σ σ' : SS} {v : Int} (e7 : σ' 7 0 = σ 7 0) (e12 : σ' 12 0 = v) (e18 : σ' 18 0 = σ 18 0) (e23 : σ' 23 0 = σ 23 0) : nF σ' = wr (nF σ) 1 v := by
  funext j
  match j with
  | 0 => rw [wr_ne (by omega)]; exact e7
  | 1 => rw [wr_at]; exact e12
  | 2 => rw [wr_ne (by omega)]; exact e18
  | j + 3 => rw [wr_ne (by omega)]; exact e23
theorem nF_18 {σ σ' : SS} {v : Int} (e7 : σ' 7 0 = σ 7 0) (e12 : σ' 12 0 = σ 12 0) (e18 : σ' 18 0 = v) (e23 : σ' 23 0 = σ 23 0) : nF σ' = wr (nF σ) 2 v := by
  funext j
  match j with
  | 0 => rw [wr_ne (by omega)]; exact e7
  | 1 => rw [wr_ne (by omega)]; exact e12
  | 2 => rw [wr_at]; exact e18
  | j + 3 => rw [wr_ne (by omega)]; exact e23
theorem nF_23 {σ σ' : SS} {v : Int} (e7 : σ' 7 0 = σ 7 0) (e12 : σ' 12 0 = σ 12 0) (e18 : σ' 18 0 = σ 18 0) (e23 : σ' 23 0 = v) : ∀ j, j < 4 → wr (nF σ) 3 v j = nF σ' j := fun j hj => by
  match j, hj with
  | 0, _ => rw [wr_ne (by omega)]; exact e7.symm
  | 1, _ => rw [wr_ne (by omega)]; exact e12.symm
  | 2, _ => rw [wr_ne (by omega)]; exact e18.symm
  | 3, _ => rw [wr_at]; exact e23.symm
  | j + 4, h => omega
theorem dF_c {σ σ' : SS} (e2 : σ' 2 = σ 2) (e3 : σ' 3 = σ 3) (e4 : σ' 4 = σ 4) (e5 : σ' 5 = σ 5) : dF σ' = dF σ := by
  funext j
  unfold dF
  rw [e2, e3, e4, e5]
theorem gF_c {σ σ' : SS} (e8 : σ' 8 = σ 8) (e9 : σ' 9 = σ 9) : gF σ' = gF σ := by
  funext j
  unfold gF
  rw [e8, e9]
theorem uF_c {σ σ' : SS} (e10 : σ' 10 = σ 10) (e11 : σ' 11 = σ 11) : uF σ' = uF σ := by
  funext r
  show wv (fun j => σ' 10 (5 * r + j)) (σ' 11 r).toNat = wv (fun j => σ 10 (5 * r + j)) (σ 11 r).toNat
  rw [e10, e11]
theorem sF_c {σ σ' : SS} (e20 : σ' 20 = σ 20) : sF σ' = sF σ := by
  funext w
  unfold sF
  rw [e20]
theorem tF_c {σ σ' : SS} (e21 : σ' 21 = σ 21) : tF σ' = tF σ := by
  funext w
  unfold tF
  rw [e21]
theorem ZB.c {σ σ' : SS} {K : Int64} (h : ZB σ K) (e1 : σ' 1 = σ 1) : ZB σ' K := by
  unfold ZB
  rw [e1]; exact h
theorem WR.c {σ σ' : SS} {W : Nat → Int} (h : WR σ W) (e12 : σ' 12 0 = σ 12 0) (e13 : σ' 13 = σ 13) (e14 : σ' 14 = σ 14) (e15 : σ' 15 = σ 15) (e16 : σ' 16 = σ 16) (e17 : σ' 17 = σ 17) : WR σ' W := by
  unfold WR
  rw [e12, e13, e14, e15, e16, e17]; exact h
def LwS (G : GG) (z : Nat) (μ : Mm) (xa : Nat) (A : Nat → Nat) (σ : SS) (n : Nat) : Prop := RepC G z μ xa σ n ∧ Kv σ n ∧ AI G μ (A 0) 3006 4 (nF σ) ∧ AI G μ (A 1) 4001 64 (σ 0) ∧ (∃ K, OL G μ (A 2) 4002 K ∧ ZB σ K) ∧ AI G μ (A 3) 4003 35 (dF σ) ∧ AI G μ (A 4) 4004 7 (σ 6) ∧ AI G μ (A 5) 4005 12 (gF σ) ∧ AI G μ (A 6) 4006 7 (uF σ) ∧ (∃ W, AI G μ (A 7) 3007 30 W ∧ WR σ W) ∧ AI G μ (A 8) 4008 6 (sF σ) ∧ AI G μ (A 9) 4009 6 (tF σ) ∧ AI G μ (A 10) 4010 36 (σ 22) ∧ AI G μ (A 11) 4011 4 (σ 19) ∧ ∃ C, AI G μ (A 12) 3010 64 C
theorem wr_wr2 {f : Nat → Int} {j : Nat} {a b : Int} : wr (wr f j a) j b = wr f j b := by
  funext i
  unfold wr
  split <;> rfl
theorem AI.wrs {G : GG} {μ : Mm} {a r n : Nat} {g : Nat → Int} {j : Nat} {v : Int} (h : AI G μ a r n (wr g j v)) (e : v = g j) : AI G μ a r n g := h.cong fun i _ => by
  unfold wr
  split
  · rename_i q; rw [e, q]
  · rfl
/-! setHeight -/
theorem shS_g0 {σ : SS} {p : Nat} {h : Int} {k : Nat} : gF (shS σ p h k) (2 * k) = σ 8 k := by
  rw [gF_0]
  show pl9 σ p h k k = _
  unfold pl9
  rw [if_neg (by omega)]
theorem shS_g1 {σ : SS} {p : Nat} {h : Int} {k : Nat} : gF (shS σ p h k) (2 * k + 1) = σ 9 k := by
  rw [gF_1]
  show mv9 σ p h k k = _
  unfold mv9
  rw [if_neg (by omega)]
theorem gS_s {σ : SS} {p : Nat} {h c r : Int} {k : Nat} (hr : r = npl σ p h k) (hc : (r = σ 8 k ∧ c = 0) ∨ (r ≠ σ 8 k ∧ c = 1)) (j : Nat) : wr (wr (gF (shS σ p h k)) (2 * k + 1) (σ 9 k + c)) (2 * k) r j = gF (shS σ p h (k + 1)) j := by
  have e0 : ∀ m i, gF (shS σ p h m) (2 * i) = pl9 σ p h m i := fun m i => gF_0
  have e1 : ∀ m i, gF (shS σ p h m) (2 * i + 1) = mv9 σ p h m i := fun m i => gF_1
  rcases (show j = 2 * (j / 2) ∨ j = 2 * (j / 2) + 1 by omega) with q | q
  · rw [q, e0 (k + 1)]
    by_cases e : j / 2 = k
    · rw [e, wr_at, hr]
      unfold pl9
      rw [if_pos (by omega)]
    · rw [wr_ne (by omega), wr_ne (by omega), e0]
      unfold pl9
      by_cases w : j / 2 < k
      · rw [if_pos w, if_pos (by omega)]
      · rw [if_neg w, if_neg (by omega)]
  · rw [q, e1 (k + 1)]
    by_cases e : j / 2 = k
    · rw [e, wr_ne (by omega), wr_at]
      unfold mv9
      rcases hc with ⟨h1, h2⟩ | ⟨h1, h2⟩
      · rw [if_neg (fun w => w.2 (by omega))]; omega
      · rw [if_pos ⟨by omega, by omega⟩]; omega
    · rw [wr_ne (by omega), wr_ne (by omega), e1]
      unfold mv9
      by_cases w : j / 2 < k ∧ npl σ p h (j / 2) ≠ σ 8 (j / 2)
      · rw [if_pos w, if_pos ⟨by omega, w.2⟩]
      · rw [if_neg w, if_neg (fun w2 => w ⟨by omega, w2.2⟩)]
theorem gF_s0 {σ : SS} {p : Nat} {h : Int} : gF (shS σ p h 0) = gF σ := by
  rw [shS_0]; exact gF_c rfl rfl
/-! close -/
theorem ZB_close {σ : SS} {n : Nat} {K : Int64} {p : Nat} (hI : Iv σ n) (hp : p < 64) (h : ZB σ K) : ZB (n_close σ (p : Int)) (K ^^^ bitL p) := fun j hj => by
  have hb : kb (K ^^^ bitL p) j = (kb K j ^^ decide (j = p)) := by
    unfold kb
    rw [Int64.toBitVec_xor, bitL_tv p hp, BitVec.getLsbD_xor, BitVec.getLsbD_twoPow]
    simp [hp, eq_comm]
  rw [hb, h j hj]
  have h1 := hI.r1 p hp
  show _ = decide (wr (σ 1) p (1 - σ 1 p) j ≠ 0)
  by_cases e : j = p
  · subst e
    rw [wr_at, decide_eq_true (rfl : j = j)]
    rcases (show σ 1 j = 0 ∨ σ 1 j = 1 by omega) with q | q <;> rw [q] <;> decide
  · rw [wr_ne e, decide_eq_false e, Bool.xor_false]
/-! hint -/
theorem dF_hint {σ : SS} {x d : Int} (hx : 0 ≤ x ∧ x < 16384) (hd : (8191 < x ∧ d = 1) ∨ (x ≤ 8191 ∧ d = 0)) : dF (n_hint σ (x % 8) (x / 8 % 16) (x / 128 % 64) d) = wr (dF σ) (σ 6 0).toNat x := by
  funext j
  show wr (σ 2) (σ 6 0).toNat (x % 8) j + 8 * wr (σ 3) (σ 6 0).toNat (x / 8 % 16) j + 128 * wr (σ 4) (σ 6 0).toNat (x / 128 % 64) j + 8192 * wr (σ 5) (σ 6 0).toNat d j = _
  by_cases e : j = (σ 6 0).toNat
  · subst e
    rw [wr_at, wr_at, wr_at, wr_at, wr_at]; omega
  · rw [wr_ne e, wr_ne e, wr_ne e, wr_ne e, wr_ne e]; rfl
/-! words -/
theorem lw0 {σ : SS} : lw σ 0 = σ 10 := by
  funext j
  show σ 10 (5 * 0 + j) = _
  rw [Nat.mul_zero, Nat.zero_add]
theorem uF_spell {σ : SS} {n m : Nat} {l : Int} (hI : Iv σ n) (hm : σ 11 0 = m) (hm5 : m < 5) : ∀ r, r < 7 → wr (uF σ) 0 (wv (wr (lw σ 0) m l) (m + 1)) r = uF (n_spell σ l) r := fun r hr => by
  have e : (σ 11 0).toNat = m := by omega
  show _ = wv (fun j => wr (σ 10) (σ 11 0).toNat l (5 * r + j)) (wr (σ 11) 0 (σ 11 0 + 1) r).toNat
  rw [e]
  by_cases q : r = 0
  · subst q
    rw [wr_at, wr_at, hm, show ((m : Int) + 1).toNat = m + 1 by omega, lw0]
    refine wv_cong fun j _ => ?_
    rw [Nat.mul_zero, Nat.zero_add]
  · rw [wr_ne q, wr_ne q]
    have h := hI.r11 r hr
    show wv (lw σ r) (ln σ r) = wv (fun j => wr (σ 10) m l (5 * r + j)) (ln σ r)
    refine wv_cong fun j hj => ?_
    have hj5 : j < 5 := by unfold ln at hj; omega
    rw [wr_ne (by omega)]; rfl
theorem uF_clr {σ : SS} : wr (uF σ) 0 0 = uF (n_clearSpelled σ) := by
  funext r
  show _ = wv (lw σ r) (wr (σ 11) 0 0 r).toNat
  by_cases q : r = 0
  · subst q
    rw [wr_at, wr_at]; rfl
  · rw [wr_ne q, wr_ne q]; rfl
theorem chs_ge (W : Nat → Int) : ∀ n : Nat, (n : Int) ≤ chs W n
  | 0 => Int.le_refl _
  | n + 1 => by
    have := chs_ge W n
    unfold chs
    split <;> omega
/-- k letters of the word W are spelled, all else is σ's -/
def SpI (σ : SS) (W : Nat → Int) (k : Nat) (σ' : SS) : Prop := (∀ r, r ≠ 10 → r ≠ 11 → σ' r = σ r) ∧ (∀ i, 5 ≤ i → σ' 10 i = σ 10 i) ∧ (∀ r, 1 ≤ r → σ' 11 r = σ 11 r) ∧ σ' 11 0 = (k : Int) ∧ ∀ j, j < k → σ' 10 j = W j
theorem SpI_0 {σ : SS} {W : Nat → Int} : SpI σ W 0 (n_clearSpelled σ) := ⟨fun r _ h => if_neg h, fun i _ => rfl, fun r hr => by show wr (σ 11) 0 0 r = _; exact wr_ne (by omega), by show wr (σ 11) 0 0 0 = _; exact wr_at, fun j hj => absurd hj (Nat.not_lt_zero j)⟩
theorem SpI_s {σ σ' : SS} {W : Nat → Int} {k : Nat} (h : SpI σ W k σ') (hk : k < 5) : SpI σ W (k + 1) (n_spell σ' (W k)) := by
  obtain ⟨h1, h2, h3, h4, h5⟩ := h
  have e : (σ' 11 0).toNat = k := by omega
  refine ⟨fun r q1 q2 => ?_, fun i hi => ?_, fun r hr => ?_, ?_, fun j hj => ?_⟩
  · show (if r = 11 then _ else if r = 10 then _ else σ' r) = _
    rw [if_neg q2, if_neg q1]; exact h1 r q1 q2
  · show wr (σ' 10) (σ' 11 0).toNat (W k) i = _
    rw [wr_ne (by omega)]; exact h2 i hi
  · show wr (σ' 11) 0 (σ' 11 0 + 1) r = _
    rw [wr_ne (by omega)]; exact h3 r hr
  · show wr (σ' 11) 0 (σ' 11 0 + 1) 0 = _
    rw [wr_at]; omega
  · show wr (σ' 10) (σ' 11 0).toNat (W k) j = _
    rw [e]
    by_cases q : j = k
    · subst q; rw [wr_at]
    · rw [wr_ne q]; exact h5 j (by omega)
theorem uF_sp {σ σ' : SS} {n k : Nat} {W : Nat → Int} (hI : Iv σ n) (h : SpI σ W k σ') : ∀ r, r < 7 → wr (uF σ) 0 (wv W k) r = uF σ' r := fun r hr => by
  obtain ⟨h1, h2, h3, h4, h5⟩ := h
  show _ = wv (lw σ' r) (σ' 11 r).toNat
  by_cases q : r = 0
  · subst q
    rw [wr_at, h4, Int.toNat_natCast, lw0]
    exact wv_cong fun j hj => (h5 j hj).symm
  · rw [wr_ne q, h3 r (by omega)]
    have h6 := hI.r11 r hr
    show wv (lw σ r) (ln σ r) = wv (lw σ' r) (ln σ r)
    refine wv_cong fun j hj => ?_
    have hj5 : j < 5 := by unfold ln at hj; omega
    show σ 10 (5 * r + j) = σ' 10 (5 * r + j)
    rw [h2 _ (by omega)]
/-! stages -/
theorem dF_st {σ : SS} {m : Nat} (hm : σ 7 0 = m) : dF (n_stage σ) = cpk (dF σ) (m + 1) 5 := by
  have e : (σ 7 0).toNat = m := by omega
  funext j
  show cp5 (σ 2) ((σ 7 0).toNat + 1) j + 8 * cp5 (σ 3) ((σ 7 0).toNat + 1) j + 128 * cp5 (σ 4) ((σ 7 0).toNat + 1) j + 8192 * cp5 (σ 5) ((σ 7 0).toNat + 1) j = cp5 (dF σ) (m + 1) j
  rw [e]
  unfold cp5
  split <;> rfl
theorem gF_st {σ σ' : SS} {m : Nat} {x : Int} (e8 : σ' 8 = wr (σ 8) m x) (e9 : σ' 9 = σ 9) : gF σ' = wr (gF σ) (2 * m) x := by
  funext j
  rcases (show j = 2 * (j / 2) ∨ j = 2 * (j / 2) + 1 by omega) with q | q
  · rw [q, gF_0, e8]
    by_cases e : j / 2 = m
    · rw [e, wr_at, wr_at]
    · rw [wr_ne e, wr_ne (by omega), gF_0]
  · rw [q, gF_1, e9, wr_ne (by omega), gF_1]
theorem uF_st {σ : SS} {n m : Nat} (hI : Iv σ n) (hm : σ 7 0 = m) (hm6 : m < 6) : ∀ r, r < 7 → wr (uF σ) (m + 1) (uF σ 0) r = uF (n_stage σ) r := fun r hr => by
  have e : (σ 7 0).toNat = m := by omega
  have h := hI.r11 r hr
  have h0 := hI.r11 0 (by omega)
  show _ = wv (fun j => cp5 (σ 10) ((σ 7 0).toNat + 1) (5 * r + j)) (wr (σ 11) ((σ 7 0).toNat + 1) (σ 11 0) r).toNat
  rw [e]
  by_cases q : r = m + 1
  · subst q
    rw [wr_at, wr_at]
    show wv (lw σ 0) (ln σ 0) = wv _ (ln σ 0)
    refine wv_cong fun j hj => ?_
    have hj5 : j < 5 := by unfold ln at hj; omega
    rw [cp5_in hj5, lw0]
  · rw [wr_ne q, wr_ne q]
    show wv (lw σ r) (ln σ r) = wv _ (ln σ r)
    refine wv_cong fun j hj => ?_
    have hj5 : j < 5 := by unfold ln at hj; omega
    rw [cp5_out (by omega)]; rfl
/-! walkers -/
theorem WR_add {σ : SS} {W W' : Nat → Int} {m : Nat} {p c : Int} (h : WR σ W) (hm : σ 12 0 = m) (he : ∀ j, j < 5 * m → W' j = W j) (h0 : W' (5 * m) = c) (h1 : W' (5 * m + 1) = p) (h2 : W' (5 * m + 2) = -1) (h3 : W' (5 * m + 3) = -1) : WR (n_addWalker σ p c) W' := fun i hi => by
  have e : (σ 12 0).toNat = m := by omega
  have hi2 : (i : Int) < m + 1 := by
    have : n_addWalker σ p c 12 0 = σ 12 0 + 1 := by show wr (σ 12) 0 (σ 12 0 + 1) 0 = _; exact wr_at
    omega
  show W' (5 * i) = wr (σ 13) (σ 12 0).toNat c i ∧ W' (5 * i + 1) = wr (σ 14) (σ 12 0).toNat p i ∧ W' (5 * i + 2) = wr (σ 15) (σ 12 0).toNat (-1) i ∧ W' (5 * i + 3) = wr (σ 16) (σ 12 0).toNat (-1) i ∧ (wr (σ 16) (σ 12 0).toNat (-1) i ≠ -1 → W' (5 * i + 4) = σ 17 i)
  rw [e]
  by_cases q : i = m
  · subst q
    rw [wr_at, wr_at, wr_at, wr_at]
    exact ⟨h0, h1, h2, h3, fun w => absurd rfl w⟩
  · obtain ⟨a0, a1, a2, a3, a4⟩ := h i (by omega)
    rw [wr_ne q, wr_ne q, wr_ne q, wr_ne q, he _ (by omega), he _ (by omega), he _ (by omega), he _ (by omega), he _ (by omega)]
    exact ⟨a0, a1, a2, a3, a4⟩
theorem WR_send {σ : SS} {W W' : Nat → Int} {w : Nat} {g v : Int} (h : WR σ W) (hW : W' = wr W (5 * w + 2) v) (hv : (σ 16 w = -1 ∧ σ 14 w = g ∧ v = -1) ∨ (¬ (σ 16 w = -1 ∧ σ 14 w = g) ∧ v = g)) : WR (n_send σ (w : Int) g) W' := fun i hi => by
  obtain ⟨a0, a1, a2, a3, a4⟩ := h i hi
  rw [hW]
  refine ⟨by rw [wr_ne (by omega)]; exact a0, by rw [wr_ne (by omega)]; exact a1, ?_, by rw [wr_ne (by omega)]; exact a3, fun q => by rw [wr_ne (by omega)]; exact a4 q⟩
  show _ = wr (σ 15) w (if σ 16 w = -1 ∧ σ 14 w = g then -1 else g) i
  by_cases e : i = w
  · subst e
    rw [wr_at, wr_at]
    rcases hv with ⟨h1, h2, h3⟩ | ⟨h1, h2⟩
    · rw [if_pos ⟨h1, h2⟩]; exact h3
    · rw [if_neg h1]; exact h2
  · rw [wr_ne (by omega), wr_ne e]; exact a2
/-! answers, words told -/
theorem sF_set {σ σ' : SS} {w s : Nat} (hs : s < 6) (e20 : σ' 20 = wr (σ 20) (6 * w + s) 1) : sF σ' = wr (sF σ) w (b6 (wr (fun u => σ 20 (6 * w + u)) s 1)) := by
  funext v
  show b6 (fun u => σ' 20 (6 * v + u)) = _
  rw [e20]
  have key : ∀ k, k < 6 → v ≠ w → wr (σ 20) (6 * w + s) 1 (6 * v + k) = σ 20 (6 * v + k) := fun k hk hv => wr_ne (by omega)
  have key2 : ∀ k, wr (σ 20) (6 * w + s) 1 (6 * w + k) = wr (fun u => σ 20 (6 * w + u)) s 1 k := fun k => by
    by_cases q : k = s
    · rw [q, wr_at, wr_at]
    · rw [wr_ne q, wr_ne (by omega)]
  by_cases e : v = w
  · subst e
    rw [wr_at]
    unfold b6
    dsimp only
    rw [key2, key2, key2, key2, key2, key2]
  · rw [wr_ne e]
    unfold sF b6
    dsimp only
    rw [key 0 (by omega) e, key 1 (by omega) e, key 2 (by omega) e, key 3 (by omega) e, key 4 (by omega) e, key 5 (by omega) e]
theorem tF_set {σ σ' : SS} {w s : Nat} (hs : s < 6) (e21 : σ' 21 = wr (σ 21) (6 * w + s) 1) : tF σ' = wr (tF σ) w (b6 (wr (fun u => σ 21 (6 * w + u)) s 1)) := by
  funext v
  show b6 (fun u => σ' 21 (6 * v + u)) = _
  rw [e21]
  have key : ∀ k, k < 6 → v ≠ w → wr (σ 21) (6 * w + s) 1 (6 * v + k) = σ 21 (6 * v + k) := fun k hk hv => wr_ne (by omega)
  have key2 : ∀ k, wr (σ 21) (6 * w + s) 1 (6 * w + k) = wr (fun u => σ 21 (6 * w + u)) s 1 k := fun k => by
    by_cases q : k = s
    · rw [q, wr_at, wr_at]
    · rw [wr_ne q, wr_ne (by omega)]
  by_cases e : v = w
  · subst e
    rw [wr_at]
    unfold b6
    dsimp only
    rw [key2, key2, key2, key2, key2, key2]
  · rw [wr_ne e]
    unfold tF b6
    dsimp only
    rw [key 0 (by omega) e, key 1 (by omega) e, key 2 (by omega) e, key 3 (by omega) e, key 4 (by omega) e, key 5 (by omega) e]
theorem ans_of {σ : SS} {w s : Nat} {r : Int} {P Q : Prop} (h12 : 0 ≤ σ 12 0) (h7 : 0 ≤ σ 7 0) (hw : (σ 12 0 = 0 ∧ w = 0) ∨ (w : Int) < σ 12 0) (hs : (σ 7 0 = 0 ∧ s = 0) ∨ (s : Int) < σ 7 0) (h : (t_answer σ (w : Int) (s : Int) = 0 ∧ r = isWd σ (s : Int).toNat ∧ P) ∨ (((t_answer σ (w : Int) (s : Int) = 1 ∧ r = -11) ∨ (t_answer σ (w : Int) (s : Int) = 2 ∧ r = -13)) ∧ Q)) : ((σ 12 0 = 0 ∨ σ 7 0 = 0) ∧ r = -11 ∧ Q) ∨ ((0 < σ 12 0 ∧ 0 < σ 7 0) ∧ ¬ ((σ 15 w = -1 ∧ σ 16 w = -1) ∧ σ 14 w = σ 8 s ∧ b_solved σ w = s) ∧ r = -13 ∧ Q) ∨ ((0 < σ 12 0 ∧ 0 < σ 7 0) ∧ ((σ 15 w = -1 ∧ σ 16 w = -1) ∧ σ 14 w = σ 8 s ∧ b_solved σ w = s) ∧ r = isWd σ s ∧ t_answer σ (w : Int) (s : Int) = 0 ∧ P) := by
  by_cases e : σ 12 0 = 0 ∨ σ 7 0 = 0
  · have ht : t_answer σ (w : Int) (s : Int) = 1 := if_neg (fun q => by omega)
    rcases h with ⟨h1, -⟩ | ⟨⟨h1, h2⟩ | ⟨h1, h2⟩, h3⟩
    · omega
    · exact Or.inl ⟨e, h2, h3⟩
    · omega
  · have ht : t_answer σ (w : Int) (s : Int) = if (σ 15 w = -1 ∧ σ 16 w = -1) ∧ σ 14 w = σ 8 s ∧ b_solved σ w = s then 0 else 2 := if_pos ⟨by omega, by omega⟩
    by_cases q : (σ 15 w = -1 ∧ σ 16 w = -1) ∧ σ 14 w = σ 8 s ∧ b_solved σ w = s
    · rw [if_pos q] at ht
      rcases h with ⟨h1, h2, h3⟩ | ⟨⟨h1, h2⟩ | ⟨h1, h2⟩, h3⟩
      · exact Or.inr (Or.inr ⟨by omega, q, h2, h1, h3⟩)
      · omega
      · omega
    · rw [if_neg q] at ht
      rcases h with ⟨h1, h2, h3⟩ | ⟨⟨h1, h2⟩ | ⟨h1, h2⟩, h3⟩
      · omega
      · omega
      · exact Or.inr (Or.inl ⟨by omega, q, h2, h3⟩)
theorem tell_of {σ : SS} {w o s : Nat} {r : Int} {P Q : Prop} (h12 : 0 ≤ σ 12 0) (h7 : 0 ≤ σ 7 0) (hw : (σ 12 0 = 0 ∧ w = 0) ∨ (w : Int) < σ 12 0) (ho : (σ 12 0 = 0 ∧ o = 0) ∨ (o : Int) < σ 12 0) (hs : (σ 7 0 = 0 ∧ s = 0) ∨ (s : Int) < σ 7 0) (h : (t_tell σ (w : Int) (o : Int) (s : Int) = 0 ∧ r = b_tell σ (o : Int) (s : Int) ∧ P) ∨ (((t_tell σ (w : Int) (o : Int) (s : Int) = 1 ∧ r = -11) ∨ (t_tell σ (w : Int) (o : Int) (s : Int) = 2 ∧ r = -12) ∨ (t_tell σ (w : Int) (o : Int) (s : Int) = 3 ∧ r = -13)) ∧ Q)) : ((σ 12 0 = 0 ∨ σ 7 0 = 0) ∧ r = -11 ∧ Q) ∨ ((0 < σ 12 0 ∧ 0 < σ 7 0) ∧ w = o ∧ r = -12 ∧ Q) ∨ ((0 < σ 12 0 ∧ 0 < σ 7 0) ∧ w ≠ o ∧ ¬ (σ 20 (6 * w + s) = 1 ∧ dst (σ 14 w) (σ 14 o) ≤ 1 ∧ σ 20 (6 * o + s) = 0 ∧ σ 21 (6 * o + s) = 0) ∧ r = -13 ∧ Q) ∨ ((0 < σ 12 0 ∧ 0 < σ 7 0) ∧ w ≠ o ∧ (σ 20 (6 * w + s) = 1 ∧ dst (σ 14 w) (σ 14 o) ≤ 1 ∧ σ 20 (6 * o + s) = 0 ∧ σ 21 (6 * o + s) = 0) ∧ r = pts (σ 22 (6 * o + s)) 1 ∧ t_tell σ (w : Int) (o : Int) (s : Int) = 0 ∧ P) := by
  by_cases e : σ 12 0 = 0 ∨ σ 7 0 = 0
  · have ht : t_tell σ (w : Int) (o : Int) (s : Int) = 1 := if_neg (fun q => by omega)
    rcases h with ⟨h1, -⟩ | ⟨⟨h1, h2⟩ | ⟨h1, h2⟩ | ⟨h1, h2⟩, h3⟩
    · omega
    · exact Or.inl ⟨e, h2, h3⟩
    · omega
    · omega
  · have ht : t_tell σ (w : Int) (o : Int) (s : Int) = if (w : Int) = (o : Int) then 2 else if σ 20 (6 * w + s) = 1 ∧ dst (σ 14 w) (σ 14 o) ≤ 1 ∧ σ 20 (6 * o + s) = 0 ∧ σ 21 (6 * o + s) = 0 then 0 else 3 := if_pos ⟨by omega, by omega, by omega⟩
    by_cases q0 : (w : Int) = (o : Int)
    · rw [if_pos q0] at ht
      rcases h with ⟨h1, h2, h3⟩ | ⟨⟨h1, h2⟩ | ⟨h1, h2⟩ | ⟨h1, h2⟩, h3⟩
      · omega
      · omega
      · exact Or.inr (Or.inl ⟨by omega, by omega, h2, h3⟩)
      · omega
    · rw [if_neg q0] at ht
      by_cases q : σ 20 (6 * w + s) = 1 ∧ dst (σ 14 w) (σ 14 o) ≤ 1 ∧ σ 20 (6 * o + s) = 0 ∧ σ 21 (6 * o + s) = 0
      · rw [if_pos q] at ht
        rcases h with ⟨h1, h2, h3⟩ | ⟨⟨h1, h2⟩ | ⟨h1, h2⟩ | ⟨h1, h2⟩, h3⟩
        · exact Or.inr (Or.inr (Or.inr ⟨by omega, by omega, q, h2, h1, h3⟩))
        · omega
        · omega
        · omega
      · rw [if_neg q] at ht
        rcases h with ⟨h1, h2, h3⟩ | ⟨⟨h1, h2⟩ | ⟨h1, h2⟩ | ⟨h1, h2⟩, h3⟩
        · omega
        · omega
        · omega
        · exact Or.inr (Or.inr (Or.inl ⟨by omega, by omega, q, h2, h3⟩))
/-! minutes -/
theorem pS_00 {σ : SS} : pS σ 0 0 = 0 := sm_0 (fun w _ => rfl)
theorem pS_b {σ : SS} {m : Int} : pS σ m.toNat 0 = b_pass σ m (σ 12 0).toNat := pS_pass _
