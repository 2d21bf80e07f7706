/-! p32: the law's own rows, told by the state -/
def nF (σ : SS) : Nat → Int := fun j => match j with
  | 0 => σ 7 0
  | 1 => σ 12 0
  | 2 => σ 18 0
  | _ => σ 23 0
def dF (σ : SS) : Nat → Int := fun j => σ 2 j + 8 * σ 3 j + 128 * σ 4 j + 8192 * σ 5 j
def gF (σ : SS) : Nat → Int := fun j => if j % 2 = 0 then σ 8 (j / 2) else σ 9 (j / 2)
def eW (W : Nat → Int) (m j : Nat) : Int := if j < m then W j else 0
def wv (W : Nat → Int) (m : Nat) : Int := eW W m 0 + 32 * eW W m 1 + 1024 * eW W m 2 + 32768 * eW W m 3 + 1048576 * eW W m 4 + 33554432 * (m : Int)
def uF (σ : SS) : Nat → Int := fun r => wv (lw σ r) (ln σ r)
def b6 (f : Nat → Int) : Int := f 0 + 2 * f 1 + 4 * f 2 + 8 * f 3 + 16 * f 4 + 32 * f 5
def sF (σ : SS) : Nat → Int := fun w => b6 (fun s => σ 20 (6 * w + s))
def tF (σ : SS) : Nat → Int := fun w => b6 (fun s => σ 21 (6 * w + s))
def ZB (σ : SS) (K : Int64) : Prop := ∀ p, p < 64 → kb K p = decide (σ 1 p ≠ 0)
def WR (σ : SS) (W : Nat → Int) : Prop := ∀ i : Nat, (i : Int) < σ 12 0 → W (5 * i) = σ 13 i ∧ W (5 * i + 1) = σ 14 i ∧ W (5 * i + 2) = σ 15 i ∧ W (5 * i + 3) = σ 16 i ∧ (σ 16 i ≠ -1 → W (5 * i + 4) = σ 17 i)
theorem dF_ok {σ : SS} {n : Nat} (hI : Iv σ n) {j : Nat} (hj : j < 35) : (0 ≤ dF σ j ∧ dF σ j < 16384) ∧ dF σ j % 8 = σ 2 j ∧ dF σ j / 8 % 16 = σ 3 j ∧ dF σ j / 128 % 64 = σ 4 j ∧ ((8191 < dF σ j ∧ σ 5 j = 1) ∨ (dF σ j ≤ 8191 ∧ σ 5 j = 0)) := by
  have h2 := hI.r2 j hj
  have h3 := hI.r3 j hj
  have h4 := hI.r4 j hj
  have h5 := hI.r5 j hj
  unfold dF
  omega
theorem gF_0 {σ : SS} {k : Nat} : gF σ (2 * k) = σ 8 k := by
  unfold gF
  rw [if_pos (by omega), show 2 * k / 2 = k by omega]
theorem gF_1 {σ : SS} {k : Nat} : gF σ (2 * k + 1) = σ 9 k := by
  unfold gF
  rw [if_neg (by omega), show (2 * k + 1) / 2 = k by omega]
/-! words -/
def L26 (W : Nat → Int) (m : Nat) : Prop := ∀ j, j < m → 0 ≤ W j ∧ W j ≤ 26
theorem L26.e {W : Nat → Int} {m : Nat} (h : L26 W m) (j : Nat) : 0 ≤ eW W m j ∧ eW W m j ≤ 26 := by
  unfold eW
  split
  · rename_i q; exact h j q
  · omega
theorem wv_rg {W : Nat → Int} {m : Nat} (h : L26 W m) (hm : m ≤ 5) : 0 ≤ wv W m ∧ wv W m < 234881024 ∧ wv W m / 33554432 = m := by
  have h0 := h.e 0
  have h1 := h.e 1
  have h2 := h.e 2
  have h3 := h.e 3
  have h4 := h.e 4
  unfold wv
  omega
theorem wv_let {W : Nat → Int} {m k : Nat} (h : L26 W m) (hk : k < m) (hm : m ≤ 5) : wv W m / 2 ^ (5 * k) % 32 = W k := by
  have h0 := h.e 0
  have h1 := h.e 1
  have h2 := h.e 2
  have h3 := h.e 3
  have h4 := h.e 4
  have e : eW W m k = W k := if_pos hk
  rw [← e]
  unfold wv
  rcases (show k = 0 ∨ k = 1 ∨ k = 2 ∨ k = 3 ∨ k = 4 by omega) with rfl | rfl | rfl | rfl | rfl
  · show _ / 1 % 32 = _; omega
  · show _ / 32 % 32 = _; omega
  · show _ / 1024 % 32 = _; omega
  · show _ / 32768 % 32 = _; omega
  · show _ / 1048576 % 32 = _; omega
theorem wv_cong {W W' : Nat → Int} {m : Nat} (h : ∀ j, j < m → W j = W' j) : wv W m = wv W' m := by
  have key : ∀ j, eW W m j = eW W' m j := fun j => by
    unfold eW
    split
    · rename_i q; exact h j q
    · rfl
  unfold wv
  rw [key, key, key, key, key]
theorem wv_inj {W W' : Nat → Int} {m m' : Nat} (h : L26 W m) (h' : L26 W' m') (hm : m ≤ 5) (hm' : m' ≤ 5) (e : wv W m = wv W' m') : m = m' ∧ ∀ j, j < m → W j = W' j := by
  have a := (wv_rg h hm).2.2
  have a' := (wv_rg h' hm').2.2
  have hmm : m = m' := by rw [e] at a; omega
  subst hmm
  refine ⟨rfl, fun j hj => ?_⟩
  rw [← wv_let h hj hm, ← wv_let h' hj hm, e]
theorem wv_put {W : Nat → Int} {m : Nat} {l : Int} (h : L26 W m) (hm : m < 5) (hl : 0 ≤ l ∧ l ≤ 26) : (zI (wv W m) &&& zI 33554431) ||| (zI l <<< (zI (5 * (m : Int)) &&& 31)) ||| (zI ((m : Int) + 1) <<< (zI 25 &&& 31)) = zI (wv (wr W m l) (m + 1)) := by
  have h0 := h.e 0
  have h1 := h.e 1
  have h2 := h.e 2
  have h3 := h.e 3
  have h4 := h.e 4
  have hr := wv_rg h (by omega)
  have ha : zI (wv W m) &&& zI 33554431 = zI (wv W m % 33554432) := zI_and (k := 25) hr.1 (by omega) (by decide)
  obtain ⟨b, hb⟩ : ∃ b : Nat, l = (b : Int) := ⟨l.toNat, by omega⟩
  obtain ⟨a, hab⟩ : ∃ a : Nat, wv W m % 33554432 = (a : Int) := ⟨(wv W m % 33554432).toNat, by omega⟩
  have e1 : zI l <<< (zI (5 * (m : Int)) &&& 31) = zI ((2 ^ (5 * m) * b : Nat) : Int) := by
    rw [hb, show 5 * (m : Int) = ((5 * m : Nat) : Int) by omega]
    exact zI_shl (by omega) (by rcases (show m = 0 ∨ m = 1 ∨ m = 2 ∨ m = 3 ∨ m = 4 by omega) with rfl | rfl | rfl | rfl | rfl <;> simp <;> omega)
  have e2 : zI ((m : Int) + 1) <<< (zI 25 &&& 31) = zI ((2 ^ 25 * (m + 1) : Nat) : Int) := by
    rw [show (m : Int) + 1 = ((m + 1 : Nat) : Int) by omega]
    exact zI_shl (k := 25) (by decide) (by omega)
  have key : ∀ j, j < 5 → eW (wr W m l) (m + 1) j = if j = m then l else eW W m j := fun j hj => by
    unfold eW wr
    by_cases q : j = m
    · rw [if_pos (by omega), if_pos q, if_pos q]
    · rw [if_neg q, if_neg q]
      by_cases q2 : j < m
      · rw [if_pos q2, if_pos (by omega)]
      · rw [if_neg q2, if_neg (by omega)]
  have k0 := key 0 (by omega)
  have k1 := key 1 (by omega)
  have k2 := key 2 (by omega)
  have k3 := key 3 (by omega)
  have k4 := key 4 (by omega)
  have z0 : ∀ j, m ≤ j → eW W m j = 0 := fun j hj => if_neg (by omega)
  have hbd : a < 2 ^ (5 * m) ∧ 2 ^ (5 * m) * b + a < 2 ^ 25 ∧ ((2 ^ 25 * (m + 1) + (2 ^ (5 * m) * b + a) : Nat) : Int) = wv (wr W m l) (m + 1) := by
    unfold wv at hab ⊢
    rw [k0, k1, k2, k3, k4]
    rcases (show m = 0 ∨ m = 1 ∨ m = 2 ∨ m = 3 ∨ m = 4 by omega) with rfl | rfl | rfl | rfl | rfl
    · have := z0 0 (by omega); have := z0 1 (by omega); have := z0 2 (by omega); have := z0 3 (by omega); have := z0 4 (by omega); simp; omega
    · have := z0 1 (by omega); have := z0 2 (by omega); have := z0 3 (by omega); have := z0 4 (by omega); simp; omega
    · have := z0 2 (by omega); have := z0 3 (by omega); have := z0 4 (by omega); simp; omega
    · have := z0 3 (by omega); have := z0 4 (by omega); simp; omega
    · have := z0 4 (by omega); simp; omega
  rw [ha, hab, e1, e2, zI_or hbd.1 (by omega), zI_or (k := 25) hbd.2.1 (by omega), hbd.2.2]
theorem uF_rg {σ : SS} {n : Nat} (hI : Iv σ n) {r : Nat} (hr : r < 7) : L26 (lw σ r) (ln σ r) ∧ ln σ r ≤ 5 := by
  have h := hI.r11 r hr
  have h5 : ln σ r ≤ 5 := by unfold ln; omega
  exact ⟨fun j hj => hI.r10 (5 * r + j) (by omega), h5⟩
theorem isWd_w {σ : SS} {n : Nat} (hI : Iv σ n) {s : Nat} (hs : s < 6) : (uF σ 0 = uF σ (s + 1) ∧ isWd σ s = 1) ∨ (uF σ 0 ≠ uF σ (s + 1) ∧ isWd σ s = 0) := by
  obtain ⟨a1, a2⟩ := uF_rg hI (show 0 < 7 by omega)
  obtain ⟨b1, b2⟩ := uF_rg hI (show s + 1 < 7 by omega)
  have h0 := hI.r11 0 (by omega)
  have h1 := hI.r11 (s + 1) (by omega)
  by_cases e : uF σ 0 = uF σ (s + 1)
  · obtain ⟨c1, c2⟩ := wv_inj a1 b1 a2 b2 e
    refine Or.inl ⟨e, ?_⟩
    unfold isWd
    rw [if_pos ⟨by unfold ln at c1; omega, c2⟩]
  · refine Or.inr ⟨e, ?_⟩
    unfold isWd
    rw [if_neg (fun q => e ?_)]
    have hl : ln σ 0 = ln σ (s + 1) := by unfold ln; rw [q.1]
    show wv (lw σ 0) (ln σ 0) = wv (lw σ (s + 1)) (ln σ (s + 1))
    rw [← hl]
    exact wv_cong q.2
/-! bits of six -/
theorem b6_rg {f : Nat → Int} (h : ∀ s, s < 6 → 0 ≤ f s ∧ f s ≤ 1) : 0 ≤ b6 f ∧ b6 f < 64 := by
  have h0 := h 0 (by omega)
  have h1 := h 1 (by omega)
  have h2 := h 2 (by omega)
  have h3 := h 3 (by omega)
  have h4 := h 4 (by omega)
  have h5 := h 5 (by omega)
  unfold b6
  omega
theorem b6_bit {f : Nat → Int} (h : ∀ s, s < 6 → 0 ≤ f s ∧ f s ≤ 1) {s : Nat} (hs : s < 6) : b6 f / 2 ^ s % 2 = f s := by
  have h0 := h 0 (by omega)
  have h1 := h 1 (by omega)
  have h2 := h 2 (by omega)
  have h3 := h 3 (by omega)
  have h4 := h 4 (by omega)
  have h5 := h 5 (by omega)
  unfold b6
  rcases (show s = 0 ∨ s = 1 ∨ s = 2 ∨ s = 3 ∨ s = 4 ∨ s = 5 by omega) with rfl | rfl | rfl | rfl | rfl | rfl
  · show _ / 1 % 2 = _; omega
  · show _ / 2 % 2 = _; omega
  · show _ / 4 % 2 = _; omega
  · show _ / 8 % 2 = _; omega
  · show _ / 16 % 2 = _; omega
  · show _ / 32 % 2 = _; omega
theorem b6_ct : ∀ x : Nat, x < 64 → ctb (kb ((zI (x : Int)).toInt64)) 64 = ((x % 2 + x / 2 % 2 + x / 4 % 2 + x / 8 % 2 + x / 16 % 2 + x / 32 % 2 : Nat) : Int) := by decide +kernel
theorem b6_cnt {f : Nat → Int} (h : ∀ s, s < 6 → 0 ≤ f s ∧ f s ≤ 1) : ctb (kb ((zI (b6 f)).toInt64)) 64 = sm f 6 := by
  have hr := b6_rg h
  have h0 := h 0 (by omega)
  have h1 := h 1 (by omega)
  have h2 := h 2 (by omega)
  have h3 := h 3 (by omega)
  have h4 := h 4 (by omega)
  have h5 := h 5 (by omega)
  have e := b6_ct (b6 f).toNat (by omega)
  rw [show (((b6 f).toNat : Nat) : Int) = b6 f by omega] at e
  rw [e]
  show _ = 0 + f 0 + f 1 + f 2 + f 3 + f 4 + f 5
  unfold b6 at hr ⊢
  omega
theorem or6 : ∀ s : Nat, s < 6 → ∀ x : Nat, x < 64 → zI (x : Int) ||| (zI 1 <<< (zI (s : Int) &&& 31)) = zI (((if x / 2 ^ s % 2 = 1 then x else x + 2 ^ s : Nat)) : Int) := by decide +kernel
theorem b6_or {f : Nat → Int} (h : ∀ s, s < 6 → 0 ≤ f s ∧ f s ≤ 1) {s : Nat} (hs : s < 6) : zI (b6 f) ||| (zI 1 <<< (zI (s : Int) &&& 31)) = zI (b6 (wr f s 1)) := by
  have hr := b6_rg h
  have h0 := h 0 (by omega)
  have h1 := h 1 (by omega)
  have h2 := h 2 (by omega)
  have h3 := h 3 (by omega)
  have h4 := h 4 (by omega)
  have h5 := h 5 (by omega)
  have e := or6 s hs (b6 f).toNat (by omega)
  rw [show (((b6 f).toNat : Nat) : Int) = b6 f by omega] at e
  rw [e]
  congr 1
  unfold b6 at hr ⊢
  rcases (show s = 0 ∨ s = 1 ∨ s = 2 ∨ s = 3 ∨ s = 4 ∨ s = 5 by omega) with rfl | rfl | rfl | rfl | rfl | rfl
  · show (((if (f 0 + 2 * f 1 + 4 * f 2 + 8 * f 3 + 16 * f 4 + 32 * f 5).toNat / 1 % 2 = 1 then _ else _ + 1 : Nat)) : Int) = 1 + 2 * f 1 + 4 * f 2 + 8 * f 3 + 16 * f 4 + 32 * f 5
    split <;> omega
  · show (((if (f 0 + 2 * f 1 + 4 * f 2 + 8 * f 3 + 16 * f 4 + 32 * f 5).toNat / 2 % 2 = 1 then _ else _ + 2 : Nat)) : Int) = f 0 + 2 * 1 + 4 * f 2 + 8 * f 3 + 16 * f 4 + 32 * f 5
    split <;> omega
  · show (((if (f 0 + 2 * f 1 + 4 * f 2 + 8 * f 3 + 16 * f 4 + 32 * f 5).toNat / 4 % 2 = 1 then _ else _ + 4 : Nat)) : Int) = f 0 + 2 * f 1 + 4 * 1 + 8 * f 3 + 16 * f 4 + 32 * f 5
    split <;> omega
  · show (((if (f 0 + 2 * f 1 + 4 * f 2 + 8 * f 3 + 16 * f 4 + 32 * f 5).toNat / 8 % 2 = 1 then _ else _ + 8 : Nat)) : Int) = f 0 + 2 * f 1 + 4 * f 2 + 8 * 1 + 16 * f 4 + 32 * f 5
    split <;> omega
  · show (((if (f 0 + 2 * f 1 + 4 * f 2 + 8 * f 3 + 16 * f 4 + 32 * f 5).toNat / 16 % 2 = 1 then _ else _ + 16 : Nat)) : Int) = f 0 + 2 * f 1 + 4 * f 2 + 8 * f 3 + 16 * 1 + 32 * f 5
    split <;> omega
  · show (((if (f 0 + 2 * f 1 + 4 * f 2 + 8 * f 3 + 16 * f 4 + 32 * f 5).toNat / 32 % 2 = 1 then _ else _ + 32 : Nat)) : Int) = f 0 + 2 * f 1 + 4 * f 2 + 8 * f 3 + 16 * f 4 + 32 * 1
    split <;> omega
/-- two sets of six together -/
theorem b6_or2 {f g : Nat → Int} (hf : ∀ s, s < 6 → 0 ≤ f s ∧ f s ≤ 1) (hg : ∀ s, s < 6 → 0 ≤ g s ∧ g s ≤ 1) : ∃ v : Int, (0 ≤ v ∧ v < 64) ∧ zI (b6 f) ||| zI (b6 g) = zI v ∧ ∀ s : Nat, s < 6 → (v / 2 ^ s % 2 = 0 ∧ f s = 0 ∧ g s = 0) ∨ (v / 2 ^ s % 2 = 1 ∧ ¬ (f s = 0 ∧ g s = 0)) := by
  have hr := b6_rg hf
  have hq := b6_rg hg
  refine ⟨(((b6 f).toNat ||| (b6 g).toNat : Nat) : Int), ⟨by omega, ?_⟩, ?_, fun s hs => ?_⟩
  · have := Nat.or_lt_two_pow (x := (b6 f).toNat) (y := (b6 g).toNat) (n := 6) (by omega) (by omega)
    omega
  · apply bv_zI
    show ((zI (b6 f)).toBitVec ||| (zI (b6 g)).toBitVec).toNat = _
    have e1 := zI_bv (k := (b6 f).toNat) (by omega)
    have e2 := zI_bv (k := (b6 g).toNat) (by omega)
    rw [show (((b6 f).toNat : Nat) : Int) = b6 f by omega] at e1
    rw [show (((b6 g).toNat : Nat) : Int) = b6 g by omega] at e2
    rw [BitVec.toNat_or, e1, e2]
  · have h1 := b6_bit hf hs
    have h2 := b6_bit hg hs
    have t1 : (b6 f).toNat.testBit s = decide (f s = 1) := by
      rw [Nat.testBit_eq_decide_div_mod_eq]
      congr 1
      rw [← h1]
      have : ((b6 f).toNat / 2 ^ s % 2 : Nat) = ((b6 f) / 2 ^ s % 2).toNat := by
        rcases (show s = 0 ∨ s = 1 ∨ s = 2 ∨ s = 3 ∨ s = 4 ∨ s = 5 by omega) with rfl | rfl | rfl | rfl | rfl | rfl <;> simp <;> omega
      have := hf s hs
      simp
      omega
    have t2 : (b6 g).toNat.testBit s = decide (g s = 1) := by
      rw [Nat.testBit_eq_decide_div_mod_eq]
      congr 1
      rw [← h2]
      have : ((b6 g).toNat / 2 ^ s % 2 : Nat) = ((b6 g) / 2 ^ s % 2).toNat := by
        rcases (show s = 0 ∨ s = 1 ∨ s = 2 ∨ s = 3 ∨ s = 4 ∨ s = 5 by omega) with rfl | rfl | rfl | rfl | rfl | rfl <;> simp <;> omega
      have := hg s hs
      simp
      omega
    have t3 : ((b6 f).toNat ||| (b6 g).toNat).testBit s = (decide (f s = 1) || decide (g s = 1)) := by rw [Nat.testBit_or, t1, t2]
    rw [Nat.testBit_eq_decide_div_mod_eq] at t3
    have e : ((((b6 f).toNat ||| (b6 g).toNat : Nat) : Int) / 2 ^ s % 2) = ((((b6 f).toNat ||| (b6 g).toNat) / 2 ^ s % 2 : Nat) : Int) := by
      rw [Int.natCast_emod, Int.natCast_ediv, Int.natCast_pow]; rfl
    have f1 := hf s hs
    have g1 := hg s hs
    have hlt := Nat.mod_lt (((b6 f).toNat ||| (b6 g).toNat) / 2 ^ s) (show 0 < 2 by decide)
    by_cases w : f s = 0 ∧ g s = 0
    · refine Or.inl ⟨?_, w⟩
      rw [decide_eq_false (show ¬ f s = 1 by omega), decide_eq_false (show ¬ g s = 1 by omega)] at t3
      have := of_decide_eq_false t3
      omega
    · refine Or.inr ⟨?_, w⟩
      have t4 : (decide (f s = 1) || decide (g s = 1)) = true := by
        rw [Bool.or_eq_true, decide_eq_true_eq, decide_eq_true_eq]; omega
      rw [t4] at t3
      have := of_decide_eq_true t3
      omega
