/-! p32: what the law keeps, told by the state; what its helpers answer -/
def rPL (μ : Mm) (P : Int64 → Prop) : Option Value → Mm → Prop := fun v μ' => ∃ r : Int64, v = some (.long r) ∧ P r ∧ μ' = μ
theorem iabs_c (x : Int) : (x < 0 ∧ iabs x = -x) ∨ (0 ≤ x ∧ iabs x = x) := by unfold iabs; split <;> omega
/-! where a hint holds -/
def wF9 (H : Nat → Int) (q : Nat → Int) (j : Nat) : Bool := decide (HS (H j) (q 0) (q 1) (q 2) (j : Int))
def WQ (H : Nat → Int) (q : Nat → Int) (k : Nat) (S : Int64) : Prop := ∀ j, j < 64 → kb S j = (decide (j < k) && wF9 H q j)
theorem kb_or0 {K : Int64} {j : Nat} : kb (K ||| 0) j = kb K j := by rw [Int64.or_zero]
theorem WQ_0 {H q : Nat → Int} : WQ H q 0 0 := fun j _ => by rw [kb_0]; simp
theorem WQ_y {H q : Nat → Int} {k : Nat} {S : Int64} (h : WQ H q k S) (hk : k < 64) (hb : HS (H k) (q 0) (q 1) (q 2) (k : Int)) : WQ H q (k + 1) (S ||| bitL k) := fun j hj => by
  rw [kb_or hk, h j hj]
  by_cases e : j = k
  · subst e
    have : wF9 H q j = true := decide_eq_true hb
    simp [this]
  · by_cases w : j < k
    · simp [e, w, show j < k + 1 by omega]
    · simp [e, w, show ¬ j < k + 1 by omega]
theorem WQ_n {H q : Nat → Int} {k : Nat} {S : Int64} (h : WQ H q k S) (hb : ¬ HS (H k) (q 0) (q 1) (q 2) (k : Int)) : WQ H q (k + 1) (S ||| 0) := fun j hj => by
  rw [kb_or0, h j hj]
  by_cases e : j = k
  · subst e
    have : wF9 H q j = false := decide_eq_false hb
    simp [this]
  · by_cases w : j < k
    · simp [w, show j < k + 1 by omega]
    · simp [w, show ¬ j < k + 1 by omega]
theorem WQ_p {H q : Nat → Int} {k : Nat} {S : Int64} (h : WQ H q k S) (hk : 64 ≤ k) (h3 : q 3 = 0) : ∀ p, p < 64 → kb S p = hb (H p) q (p : Int) := fun p hp => by
  rw [h p hp, decide_eq_true (show p < k by omega), Bool.true_and]
  unfold wF9 hb
  congr 1
  rw [h3]
  simp [HH]
theorem WQ_m {H q : Nat → Int} {k : Nat} {S : Int64} (h : WQ H q k S) (hk : 64 ≤ k) (h3 : q 3 = 1) : ∀ p, p < 64 → kb (S ^^^ (-1)) p = hb (H p) q (p : Int) := fun p hp => by
  have h1 : kb (S ^^^ (-1)) p = !kb S p := by
    unfold kb
    have ha : (-1 : Int64).toBitVec = BitVec.allOnes 64 := by decide
    rw [Int64.toBitVec_xor, ha, BitVec.getLsbD_xor, BitVec.getLsbD_allOnes]
    simp [hp]
  rw [h1, h p hp, decide_eq_true (show p < k by omega), Bool.true_and]
  unfold wF9 hb
  by_cases e : HS (H p) (q 0) (q 1) (q 2) (p : Int)
  · rw [decide_eq_true e, decide_eq_false (fun w : HH (H p) (q 0) (q 1) (q 2) (q 3) (p : Int) => by (rcases w with ⟨-, w⟩ | ⟨w, -⟩; omega; exact w e))]
    rfl
  · rw [decide_eq_false e, decide_eq_true (show HH (H p) (q 0) (q 1) (q 2) (q 3) (p : Int) from Or.inr ⟨e, by omega⟩)]
    rfl
/-! how many bits; the only bit -/
theorem ctb_sh (f : Nat → Bool) : ∀ k, ctb f (k + 1) = (if f 0 = true then 1 else 0) + ctb (fun j => f (j + 1)) k
  | 0 => by
    show (0 : Int) + (if f 0 = true then 1 else 0) = (if f 0 = true then 1 else 0) + 0
    rw [Int.zero_add, Int.add_zero]
  | k + 1 => by
    rw [show ctb f (k + 1 + 1) = ctb f (k + 1) + (if f (k + 1) = true then 1 else 0) from rfl, ctb_sh f k, show ctb (fun j => f (j + 1)) (k + 1) = ctb (fun j => f (j + 1)) k + (if f (k + 1) = true then 1 else 0) from rfl]
    omega
theorem ctb_lo : ∀ (k n : Nat), n < 2 ^ k → 0 < n → ctb (fun j => (n &&& (n - 1)).testBit j) k = ctb (fun j => n.testBit j) k - 1
  | 0, n, h, h0 => by simp at h; omega
  | k + 1, n, h, h0 => by
    rw [ctb_sh, ctb_sh (fun j => n.testBit j)]
    have e1 : (fun j => (n &&& (n - 1)).testBit (j + 1)) = (fun j => (n / 2 &&& ((n - 1) / 2)).testBit j) := by
      funext j
      rw [Nat.testBit_succ, Nat.and_div_two]
    have e2 : (fun j => n.testBit (j + 1)) = (fun j => (n / 2).testBit j) := by
      funext j
      rw [Nat.testBit_succ]
    rw [e1, e2, Nat.testBit_and, Nat.testBit_zero, Nat.testBit_zero]
    by_cases w : n % 2 = 1
    · rw [show (n - 1) / 2 = n / 2 by omega, Nat.and_self, decide_eq_true w, decide_eq_false (show ¬ (n - 1) % 2 = 1 by omega)]
      simp
      omega
    · have ih := ctb_lo k (n / 2) (by rw [Nat.pow_succ] at h; omega) (by omega)
      rw [show (n - 1) / 2 = n / 2 - 1 by omega, ih, decide_eq_false w]
      simp
theorem ctb_low {R : Int64} (h : R ≠ 0) : ctb (kb (R &&& (R - 1))) 64 = ctb (kb R) 64 - 1 := by
  obtain ⟨n, hn, rfl⟩ := bt_of R
  have h0 : 0 < n := by
    rcases Nat.eq_zero_or_pos n with e | e
    · subst e; exact absurd rfl h
    · exact e
  have e1 : lN n - 1 = lN (n - 1) := bt_sub (b := 1) h0
  rw [e1, bt_and, ctb_cong (g := fun j => (n &&& (n - 1)).testBit j) (fun j hj => bt_kb hj), ctb_cong (f := kb (lN n)) (g := fun j => n.testBit j) (fun j hj => bt_kb hj)]
  exact ctb_lo 64 n hn h0
theorem ctb_kz : ctb (kb 0) 64 = 0 := by
  have : ∀ k, ctb (kb 0) k = 0 := fun k => by
    induction k with
    | zero => rfl
    | succ k ih => rw [show ctb (kb 0) (k + 1) = ctb (kb 0) k + (if kb 0 k = true then 1 else 0) from rfl, ih, kb_0]; rfl
  exact this 64
def OnI (K : Int64) (k : Nat) (r : Int) : Prop := (r = -1 ∧ ∀ p : Nat, p < k → K ≠ bitL p) ∨ ∃ p : Nat, p < 64 ∧ r = (p : Int) ∧ K = bitL p
theorem OnI.rg {K : Int64} {k : Nat} {r : Int} (h : OnI K k r) : -1 ≤ r ∧ r < 64 := by
  rcases h with ⟨h, -⟩ | ⟨p, h, h2, -⟩ <;> omega
theorem OnI_0 {K : Int64} : OnI K 0 (-1) := Or.inl ⟨rfl, fun p hp => absurd hp (Nat.not_lt_zero p)⟩
theorem OnI_y {K : Int64} {k : Nat} (hk : k < 64) (h : K = bitL k) : OnI K (k + 1) (k : Int) := Or.inr ⟨k, hk, rfl, h⟩
theorem OnI_n {K : Int64} {k : Nat} {r : Int} (h : OnI K k r) (hn : ¬ K = bitL k) : OnI K (k + 1) r := by
  rcases h with ⟨h1, h2⟩ | h
  · refine Or.inl ⟨h1, fun p hp => ?_⟩
    by_cases e : p = k
    · rw [e]; exact hn
    · exact h2 p (by omega)
  · exact Or.inr h
theorem OnI.e {K : Int64} {k : Nat} {r : Int} (h : OnI K k r) (hk : 64 ≤ k) : r = uq (kb K) := by
  rcases h with ⟨h1, h2⟩ | ⟨p, h1, h2, h3⟩
  · rw [h1]; exact (UQ_no (fun p hp => h2 p (by omega))).uq
  · rw [h2]; exact (UQ_bit h1 h3).uq
/-! ways: the law's sums, 100000 where there is none -/
def fL (C : Nat → Int) : Nat → Int := fun p => if C p = 100000 then 1000000 else C p
def CI9 (C : Nat → Int) (k : Int) : Prop := ∀ p, p < 64 → (0 ≤ C p ∧ C p ≤ 10 * k) ∨ C p = 100000
def CB (C : Nat → Int) : Prop := ∀ p, p < 64 → (0 ≤ C p ∧ C p < 100000) ∨ C p = 100000
theorem CI9.b {C : Nat → Int} {k : Int} (h : CI9 C k) (hk : k ≤ 64) : CB C := fun p hp => by have := h p hp; omega
theorem CI9.mono {C : Nat → Int} {k k' : Int} (h : CI9 C k) (hk : k ≤ k') : CI9 C k' := fun p hp => by have := h p hp; omega
def LD (σ : SS) (g : Nat) (C : Nat → Int) : Prop := (∀ p, p < 64 → (0 ≤ C p ∧ C p ≤ 640) ∨ C p = 100000) ∧ ∀ p, p < 64 → fL C p = dD σ g p
def NX (C T : Nat → Int) (k : Nat) (r : Int) : Prop := (r = -1 ∧ ∀ j, j < k → T j = 0 → C j = 100000) ∨ ∃ u : Nat, u < k ∧ r = (u : Int) ∧ T u = 0 ∧ C u < 100000 ∧ ∀ j, j < k → T j = 0 → C u ≤ C j
theorem NX.rg {C T : Nat → Int} {k : Nat} {r : Int} (h : NX C T k r) : -1 ≤ r ∧ r < (k : Int) := by
  rcases h with ⟨h, -⟩ | ⟨p, h, h2, -⟩ <;> omega
theorem NX_0 {C T : Nat → Int} : NX C T 0 (-1) := Or.inl ⟨rfl, fun p hp => absurd hp (Nat.not_lt_zero p)⟩
theorem NX_y {C T : Nat → Int} {k : Nat} {r : Int} (h : NX C T k r) (hc : CB C) (hk : k < 64) (h0 : T k = 0) (h1 : C k < 100000) (h2 : r < 0 ∨ C k < C r.toNat) : NX C T (k + 1) (k : Int) := by
  refine Or.inr ⟨k, by omega, rfl, h0, h1, fun j hj ht => ?_⟩
  by_cases e : j = k
  · rw [e]; exact Int.le_refl _
  · rcases h with ⟨h3, h4⟩ | ⟨u, h3, h4, h5, h6, h7⟩
    · rw [h4 j (by omega) ht]; omega
    · have := h7 j (by omega) ht
      rw [h4, Int.toNat_natCast] at h2
      omega
theorem NX_n {C T : Nat → Int} {k : Nat} {r : Int} (h : NX C T k r) (hc : CB C) (hk : k < 64) (h0 : T k = 0 → C k < 100000 → ¬ r < 0 ∧ ¬ C k < C r.toNat) : NX C T (k + 1) r := by
  have hck := hc k hk
  rcases h with ⟨h3, h4⟩ | ⟨u, h3, h4, h5, h6, h7⟩
  · refine Or.inl ⟨h3, fun j hj ht => ?_⟩
    by_cases e : j = k
    · subst e
      by_cases w : C j < 100000
      · have := h0 ht w; omega
      · omega
    · exact h4 j (by omega) ht
  · refine Or.inr ⟨u, by omega, h4, h5, h6, fun j hj ht => ?_⟩
    by_cases e : j = k
    · subst e
      rw [h4, Int.toNat_natCast] at h0
      by_cases w : C j < 100000
      · have := h0 ht w; omega
      · omega
    · exact h7 j (by omega) ht
def rl1 (H Z C : Nat → Int) (u p : Nat) : Int := if dst (p : Int) (u : Int) = 1 ∧ Z u = 0 ∧ C u + 1 + iabs (H p - H u) < C p then C u + 1 + iabs (H p - H u) else C p
def rlx (H Z C : Nat → Int) (u j : Nat) : Nat → Int := fun p => if p < j then rl1 H Z C u p else C p
theorem dst_0 (p : Int) : dst p p = 0 := by
  unfold dst iabs
  rw [Int.sub_self, Int.sub_self]; rfl
theorem rl1_u {H Z C : Nat → Int} {u : Nat} : rl1 H Z C u u = C u := by
  unfold rl1
  rw [if_neg (fun w => by rw [dst_0] at w; have := w.1; omega)]
theorem rlx_u {H Z C : Nat → Int} {u j : Nat} : rlx H Z C u j u = C u := by
  unfold rlx
  split
  · exact rl1_u
  · rfl
theorem rlx_j {H Z C : Nat → Int} {u j : Nat} : rlx H Z C u j j = C j := by
  unfold rlx
  rw [if_neg (by omega)]
theorem rlx_0 {H Z C : Nat → Int} {u : Nat} : rlx H Z C u 0 = C := by
  funext p
  unfold rlx
  rw [if_neg (by omega)]
theorem rlx_s {H Z C : Nat → Int} {u j : Nat} {v : Int} (h : v = rl1 H Z C u j) : wr (rlx H Z C u j) j v = rlx H Z C u (j + 1) := by
  funext p
  by_cases e : p = j
  · subst e
    rw [wr_at, h]
    unfold rlx
    rw [if_pos (by omega)]
  · rw [wr_ne e]
    unfold rlx
    by_cases w : p < j
    · rw [if_pos w, if_pos (by omega)]
    · rw [if_neg w, if_neg (by omega)]
theorem dst_nb : ∀ p : Nat, p < 64 → ∀ u : Nat, u < 64 → dst (p : Int) (u : Int) = 1 → nbr (p : Int) 0 = (u : Int) ∨ nbr (p : Int) 1 = (u : Int) ∨ nbr (p : Int) 2 = (u : Int) ∨ nbr (p : Int) 3 = (u : Int) := by decide +kernel
theorem nb_dst : ∀ p : Nat, p < 64 → ∀ u : Nat, u < 64 → ∀ d : Nat, d < 4 → nbr (p : Int) (d : Int) = (u : Int) → dst (p : Int) (u : Int) = 1 := by decide +kernel
theorem dst_nbr {p u : Nat} (hp : p < 64) (hu : u < 64) (h : dst (p : Int) (u : Int) = 1) : ∃ d : Nat, d < 4 ∧ nbr (p : Int) (d : Int) = (u : Int) := by
  rcases dst_nb p hp u hu h with h | h | h | h
  · exact ⟨0, by omega, h⟩
  · exact ⟨1, by omega, h⟩
  · exact ⟨2, by omega, h⟩
  · exact ⟨3, by omega, h⟩
theorem DJ_stepG {H Z : Nat → Int} {g : Nat} {D S T S' : Nat → Int} (hD : WF H Z g D) (hS : WI H Z g S) (hT : ∀ j, j < 64 → T j = 0 ∨ T j = 1) (h : DJ H Z D S T) {u : Nat} (hu : u < 64) (h0 : T u = 0) (h1 : S u < 1000000) (h2 : ∀ j, j < 64 → T j = 0 → S u ≤ S j) (a1 : WI H Z g S') (a2 : ∀ j, j < 64 → S' j ≤ S j) (a3 : S' u = S u) (a4 : ∀ p d, p < 64 → d < 4 → nbr ((p : Nat) : Int) ((d : Nat) : Int) = (u : Int) → S' p ≤ so H Z S (p : Int) (u : Int)) : DJ H Z D S' (wr T u 1) := by
  have hD1 := DJ_near hD hS hT h hu h0 h1 h2
  have hold : ∀ u2, u2 < 64 → T u2 = 1 → S' u2 = S u2 := fun u2 hu2 ht => by
    have b1 := a1.le hD hu2
    have b2 := a2 u2 hu2
    have b3 := h.1 u2 hu2 ht
    omega
  refine ⟨fun u2 hu2 ht => ?_, fun u2 p d hu2 hp hd ht hn => ?_⟩
  · by_cases q : u2 = u
    · subst q; rw [a3, hD1]
    · rw [wr_ne q] at ht
      rw [hold u2 hu2 ht]; exact h.1 u2 hu2 ht
  · by_cases q : u2 = u
    · subst q
      have b1 : so H Z S' (p : Int) (u2 : Int) = so H Z S (p : Int) (u2 : Int) := by
        unfold so
        rw [Int.toNat_natCast, a3]
      rw [b1]
      exact a4 p d hp hd hn
    · rw [wr_ne q] at ht
      have b1 : so H Z S' (p : Int) (u2 : Int) = so H Z S (p : Int) (u2 : Int) := by
        unfold so
        rw [Int.toNat_natCast, hold u2 hu2 ht]
      rw [b1]
      exact Int.le_trans (a2 p hp) (h.2 u2 p d hu2 hp hd ht hn)
theorem fL_c (C : Nat → Int) (p : Nat) : (C p = 100000 ∧ fL C p = 1000000) ∨ (C p ≠ 100000 ∧ fL C p = C p) := by
  unfold fL; split <;> omega
theorem fL_0 {H Z C : Nat → Int} {g : Nat} (hg : g < 64) (h : ∀ p, p < 64 → C p = if p = g then 0 else 100000) : WI H Z g (fL C) ∧ CI9 C 0 := by
  refine ⟨WI_0 _ (fun p hp => ?_) hg, fun p hp => ?_⟩
  · have f := fL_c C p
    have e := h p hp
    split at e <;> rename_i q
    · rw [if_pos q]; omega
    · rw [if_neg q]; omega
  · have e := h p hp
    split at e <;> omega
theorem DJ_0 {H Z D S : Nat → Int} : DJ H Z D S (fun _ => 0) := ⟨fun u _ ht => absurd (show (0 : Int) = 1 from ht) (by decide), fun u p d _ _ _ ht _ => absurd (show (0 : Int) = 1 from ht) (by decide)⟩
/-- one round of the law's ways -/
theorem LR_step {H Z : Nat → Int} {g : Nat} {D C T : Nat → Int} {k : Int} (hH : ∀ j, j < 64 → 0 ≤ H j ∧ H j ≤ 9) (hD : WF H Z g D) (hS : WI H Z g (fL C)) (hT : ∀ j, j < 64 → T j = 0 ∨ T j = 1) (h : DJ H Z D (fL C) T) {u : Nat} (hu : u < 64) (h0 : T u = 0) (h1 : C u < 100000) (h2 : ∀ j, j < 64 → T j = 0 → C u ≤ C j) (hk : k < 64) (hC : CI9 C k) : WI H Z g (fL (rlx H Z C u 64)) ∧ DJ H Z D (fL (rlx H Z C u 64)) (wr T u 1) ∧ CI9 (rlx H Z C u 64) (k + 1) := by
  have hat : ∀ p, p < 64 → (fL (rlx H Z C u 64) p = so H Z (fL C) (p : Int) (u : Int) ∧ dst (p : Int) (u : Int) = 1 ∧ Z u = 0 ∧ so H Z (fL C) (p : Int) (u : Int) ≤ fL C p ∧ rlx H Z C u 64 p ≤ 10 * (k + 1) ∧ 1 ≤ rlx H Z C u 64 p) ∨ (fL (rlx H Z C u 64) p = fL C p ∧ rlx H Z C u 64 p = C p ∧ (dst (p : Int) (u : Int) = 1 → fL C p ≤ so H Z (fL C) (p : Int) (u : Int))) := fun p hp => by
    have hu1 := hC u hu
    have hp1 := hC p hp
    have hHp := hH p hp
    have hHu := hH u hu
    have hi := iabs_c (H p - H u)
    have f1 := fL_c C u
    have f2 := fL_c C p
    have e : rlx H Z C u 64 p = rl1 H Z C u p := by unfold rlx; rw [if_pos hp]
    have f3 := fL_c (rlx H Z C u 64) p
    rw [e] at f3 ⊢
    have hso : Z u = 0 → so H Z (fL C) (p : Int) (u : Int) = C u + 1 + iabs (H p - H u) := fun hz => by
      unfold so
      rw [Int.toNat_natCast, Int.toNat_natCast, if_pos ⟨by omega, by omega, hz⟩, if_pos (by omega)]
      omega
    have hso2 : Z u ≠ 0 → so H Z (fL C) (p : Int) (u : Int) = 1000000 := fun hz => by
      unfold so
      rw [Int.toNat_natCast, if_neg (fun w => hz w.2.2)]
    by_cases w : dst (p : Int) (u : Int) = 1 ∧ Z u = 0 ∧ C u + 1 + iabs (H p - H u) < C p
    · have e2 : rl1 H Z C u p = C u + 1 + iabs (H p - H u) := by unfold rl1; rw [if_pos w]
      have := hso w.2.1
      rw [e2] at f3 ⊢
      exact Or.inl ⟨by omega, w.1, w.2.1, by omega, by omega, by omega⟩
    · have e2 : rl1 H Z C u p = C p := by unfold rl1; rw [if_neg w]
      rw [e2] at f3 ⊢
      refine Or.inr ⟨by omega, rfl, fun hd => ?_⟩
      by_cases hz : Z u = 0
      · have := hso hz
        have : ¬ C u + 1 + iabs (H p - H u) < C p := fun q => w ⟨hd, hz, q⟩
        omega
      · rw [hso2 hz]; exact (hS.2.1 p hp).2
  have a3 : fL (rlx H Z C u 64) u = fL C u := by
    unfold fL
    rw [rlx_u]
  have a2 : ∀ j, j < 64 → fL (rlx H Z C u 64) j ≤ fL C j := fun j hj => by
    rcases hat j hj with ⟨b1, -, -, b2, -⟩ | ⟨b1, -⟩ <;> omega
  have a1 : WI H Z g (fL (rlx H Z C u 64)) := by
    refine ⟨?_, fun p hp => ?_, fun p hp hne => ?_⟩
    · have hg : g < 64 ∨ 64 ≤ g := by omega
      rcases hg with hg | hg
      · have h0g := hS.1
        rcases hat g hg with ⟨b1, b2, b3, b4, b5, b6⟩ | ⟨b1, -⟩
        · have := so_pos (H := H) (Z := Z) (S := fL C) (p := (g : Int)) (nb := (u : Int)) (fun j hj => (hS.2.1 j hj).1)
          omega
        · omega
      · have : rlx H Z C u 64 g = C g := by unfold rlx; rw [if_neg (by omega)]
        have e : fL (rlx H Z C u 64) g = fL C g := by unfold fL; rw [this]
        rw [e]; exact hS.1
    · have b0 := hS.2.1 p hp
      have := so_pos (H := H) (Z := Z) (S := fL C) (p := (p : Int)) (nb := (u : Int)) (fun j hj => (hS.2.1 j hj).1)
      rcases hat p hp with ⟨b1, b2, b3, b4, b5⟩ | ⟨b1, -⟩ <;> omega
    · have c1 := bl_mono (H := H) (Z := Z) (p := (p : Int)) a2 4
      rcases hat p hp with ⟨b1, b2, b3, b4, b5⟩ | ⟨b1, -⟩
      · obtain ⟨d, hd, hn⟩ := dst_nbr hp hu b2
        have c2 := bl_so (H := H) (Z := Z) (S := fL (rlx H Z C u 64)) (p := (p : Int)) (k := 4) hd
        rw [hn] at c2
        have c3 : so H Z (fL (rlx H Z C u 64)) (p : Int) (u : Int) = so H Z (fL C) (p : Int) (u : Int) := by
          unfold so
          rw [Int.toNat_natCast, Int.toNat_natCast, a3]
        omega
      · have := hS.2.2 p hp hne
        omega
  have f1 := fL_c C u
  refine ⟨a1, DJ_stepG hD hS hT h hu h0 (by omega) (fun j hj ht => ?_) a1 a2 a3 (fun p d hp hd hn => ?_), fun p hp => ?_⟩
  · have := h2 j hj ht
    have f2 := fL_c C j
    omega
  · have hdd := nb_dst p hp u hu d hd hn
    rcases hat p hp with ⟨b1, b2, b3, b4, b5⟩ | ⟨b1, b2, b3⟩
    · omega
    · rw [b1]; exact b3 hdd
  · rcases hat p hp with ⟨b1, b2, b3, b4, b5, b6⟩ | ⟨b1, b2, b3⟩
    · exact Or.inl ⟨by omega, by omega⟩
    · rw [b2]
      have := hC p hp
      omega
theorem LR_end {σ : SS} {g : Nat} {D C T : Nat → Int} (hg : g < 64) (hD : WF (σ 0) (σ 1) g D) (hS : WI (σ 0) (σ 1) g (fL C)) (hT : ∀ j, j < 64 → T j = 0 ∨ T j = 1) (h : DJ (σ 0) (σ 1) D (fL C) T) {k : Int} (hk : k = 64) (hC : CI9 C k) (he : sm T 64 = k ∨ ∀ j, j < 64 → T j = 0 → C j = 100000) : LD σ g C := by
  subst hk
  have hW : WF (σ 0) (σ 1) g (fL C) := DJ_end hD hS hT h (fun j hj ht => by
    have f := fL_c C j
    rcases he with he | he
    · have := sm_all hT he j hj
      omega
    · have := he j hj ht
      omega)
  refine ⟨fun p hp => ?_, fun p hp => dD_eq hg hW hp⟩
  have := hC p hp
  omega
theorem LD.way {σ : SS} {g p : Nat} {C : Nat → Int} (h : LD σ g C) (hp : p < 64) : (C p = 100000 ∧ dD σ g p = 1000000) ∨ (C p ≠ 100000 ∧ 0 ≤ C p ∧ C p ≤ 640 ∧ dD σ g p = C p) := by
  have h1 := h.1 p hp
  have h2 := h.2 p hp
  have f := fL_c C p
  omega
theorem LD_bway {σ : SS} {p q : Int} {C : Nat → Int} (h : LD σ q.toNat C) (hp : 0 ≤ p ∧ p < 64) : (C p.toNat = 100000 ∧ b_way σ p q = -1) ∨ (C p.toNat ≠ 100000 ∧ 0 ≤ C p.toNat ∧ C p.toNat ≤ 640 ∧ b_way σ p q = C p.toNat) := by
  have h1 := h.way (p := p.toNat) (by omega)
  unfold b_way
  split <;> omega
/-! the best step -/
def cnd (Z : Nat → Int) (p : Int) (to : Nat) : Prop := dst p (to : Int) = 1 ∧ Z to = 0
def cst (H C : Nat → Int) (p : Int) (to : Nat) : Int := 1 + iabs (H p.toNat - H to) + C to
/-- the first of the least: r, at v, among those below k -/
def FL (H Z C : Nat → Int) (p : Int) (k : Nat) (r v : Int) : Prop := (r = -1 ∧ v = 100000 ∧ ∀ j, j < k → cnd Z p j → 100000 ≤ cst H C p j) ∨ ∃ u : Nat, u < k ∧ r = (u : Int) ∧ cnd Z p u ∧ v = cst H C p u ∧ v < 100000 ∧ (∀ j, j < k → cnd Z p j → v ≤ cst H C p j) ∧ ∀ j, j < u → cnd Z p j → v < cst H C p j
theorem FL_0 {H Z C : Nat → Int} {p : Int} : FL H Z C p 0 (-1) 100000 := Or.inl ⟨rfl, rfl, fun j hj => absurd hj (Nat.not_lt_zero j)⟩
theorem FL.rg {H Z C : Nat → Int} {p : Int} {k : Nat} {r v : Int} (h : FL H Z C p k r v) : -1 ≤ r ∧ r < (k : Int) ∧ v ≤ 100000 := by
  rcases h with ⟨h1, h2, -⟩ | ⟨u, h1, h2, h3, h4, h5, -⟩ <;> omega
theorem FL_y {H Z C : Nat → Int} {p : Int} {k : Nat} {r v : Int} (h : FL H Z C p k r v) (hc : cnd Z p k) (hv : cst H C p k < v) : FL H Z C p (k + 1) (k : Int) (cst H C p k) := by
  have hr := h.rg
  refine Or.inr ⟨k, by omega, rfl, hc, rfl, by omega, fun j hj hcj => ?_, fun j hj hcj => ?_⟩
  · by_cases e : j = k
    · rw [e]; exact Int.le_refl _
    · rcases h with ⟨h1, h2, h3⟩ | ⟨u, h1, h2, h3, h4, h5, h6, h7⟩
      · have := h3 j (by omega) hcj; omega
      · have := h6 j (by omega) hcj; omega
  · rcases h with ⟨h1, h2, h3⟩ | ⟨u, h1, h2, h3, h4, h5, h6, h7⟩
    · have := h3 j (by omega) hcj; omega
    · have := h6 j (by omega) hcj; omega
theorem FL_n {H Z C : Nat → Int} {p : Int} {k : Nat} {r v : Int} (h : FL H Z C p k r v) (hn : cnd Z p k → ¬ cst H C p k < v) : FL H Z C p (k + 1) r v := by
  rcases h with ⟨h1, h2, h3⟩ | ⟨u, h1, h2, h3, h4, h5, h6, h7⟩
  · refine Or.inl ⟨h1, h2, fun j hj hc => ?_⟩
    by_cases e : j = k
    · subst e; have := hn hc; omega
    · exact h3 j (by omega) hc
  · refine Or.inr ⟨u, by omega, h2, h3, h4, h5, fun j hj hc => ?_, h7⟩
    by_cases e : j = k
    · subst e; have := hn hc; omega
    · exact h6 j (by omega) hc
theorem nbr_mono {p : Int} (hp : 0 ≤ p ∧ p < 64) {d e : Nat} (hde : d < e) (he : e < 4) (h1 : 0 ≤ nbr p (d : Int)) (h2 : 0 ≤ nbr p (e : Int)) : nbr p (d : Int) < nbr p (e : Int) := by
  have key : ∀ p : Nat, p < 64 → ∀ e : Nat, e < 4 → ∀ d : Nat, d < e → 0 ≤ nbr (p : Int) (d : Int) → 0 ≤ nbr (p : Int) (e : Int) → nbr (p : Int) (d : Int) < nbr (p : Int) (e : Int) := by decide +kernel
  have := key p.toNat (by omega) e he d hde
  rw [show ((p.toNat : Nat) : Int) = p by omega] at this
  exact this h1 h2
/-- of the four directions the first of the least -/
theorem bb_first {H Z S : Nat → Int} {p : Int} : ∀ k, (bl H Z S p k = 1000000 ∧ bb H Z S p k = -1) ∨ ∃ d, d < k ∧ bl H Z S p k = so H Z S p (nbr p (d : Int)) ∧ so H Z S p (nbr p (d : Int)) < 1000000 ∧ bb H Z S p k = nbr p (d : Int) ∧ ∀ e, e < d → so H Z S p (nbr p (d : Int)) < so H Z S p (nbr p (e : Int))
  | 0 => Or.inl ⟨rfl, rfl⟩
  | k + 1 => by
    rw [show bl H Z S p (k + 1) = (if so H Z S p (nbr p (k : Int)) < bl H Z S p k then so H Z S p (nbr p (k : Int)) else bl H Z S p k) from rfl, show bb H Z S p (k + 1) = (if so H Z S p (nbr p (k : Int)) < bl H Z S p k then nbr p (k : Int) else bb H Z S p k) from rfl]
    by_cases e : so H Z S p (nbr p (k : Int)) < bl H Z S p k
    · rw [if_pos e, if_pos e]
      have := bl_le H Z S p k
      refine Or.inr ⟨k, by omega, rfl, by omega, rfl, fun d hd => ?_⟩
      have := bl_so (H := H) (Z := Z) (S := S) (p := p) hd
      omega
    · rw [if_neg e, if_neg e]
      rcases bb_first (H := H) (Z := Z) (S := S) (p := p) k with h | ⟨d, h1, h2⟩
      · exact Or.inl h
      · exact Or.inr ⟨d, by omega, h2⟩
theorem FL_bb {σ : SS} {g : Nat} {C : Nat → Int} {p r v : Int} {k : Nat} (hH : ∀ j, j < 64 → 0 ≤ σ 0 j ∧ σ 0 j ≤ 9) (hC : LD σ g C) (hp : 0 ≤ p ∧ p < 64) (hk : k = 64) (h : FL (σ 0) (σ 1) C p k r v) : r = bb (σ 0) (σ 1) (dD σ g) p 4 := by
  subst hk
  have hso : ∀ nb : Int, 0 ≤ nb ∧ nb < 64 → σ 1 nb.toNat = 0 → (C nb.toNat = 100000 ∧ so (σ 0) (σ 1) (dD σ g) p nb = 1000000) ∨ (C nb.toNat ≤ 640 ∧ so (σ 0) (σ 1) (dD σ g) p nb = cst (σ 0) C p nb.toNat) := fun nb hnb hz => by
    have h1 := hC.way (p := nb.toNat) (by omega)
    have h2 := hH p.toNat (by omega)
    have h3 := hH nb.toNat (by omega)
    have h4 := iabs_c (σ 0 p.toNat - σ 0 nb.toNat)
    unfold so cst
    rw [if_pos ⟨hnb.1, hnb.2, hz⟩]
    split <;> omega
  have hcd : ∀ j : Nat, j < 64 → cnd (σ 1) p j → ∃ d : Nat, d < 4 ∧ nbr p (d : Int) = (j : Int) := fun j hj hc => by
    have := dst_nbr (p := p.toNat) (u := j) (by omega) hj (by rw [show ((p.toNat : Nat) : Int) = p by omega]; exact hc.1)
    rw [show ((p.toNat : Nat) : Int) = p by omega] at this
    exact this
  have hdc : ∀ d : Nat, d < 4 → so (σ 0) (σ 1) (dD σ g) p (nbr p (d : Int)) < 1000000 → ∃ j : Nat, j < 64 ∧ nbr p (d : Int) = (j : Int) ∧ cnd (σ 1) p j ∧ cst (σ 0) C p j < 100000 ∧ so (σ 0) (σ 1) (dD σ g) p (nbr p (d : Int)) = cst (σ 0) C p j := fun d hd hs => by
    obtain ⟨⟨q1, q2, q3⟩, -⟩ := so_fin hs
    have h6 := hso _ ⟨q1, q2⟩ q3
    have h7 := hH p.toNat (by omega)
    have h8 := hH (nbr p (d : Int)).toNat (by omega)
    have h9 := iabs_c (σ 0 p.toNat - σ 0 (nbr p (d : Int)).toNat)
    have h10 := nb_dst p.toNat (by omega) (nbr p (d : Int)).toNat (by omega) d hd (by rw [show ((p.toNat : Nat) : Int) = p by omega]; omega)
    rw [show ((p.toNat : Nat) : Int) = p by omega] at h10
    refine ⟨(nbr p (d : Int)).toNat, by omega, by omega, ⟨h10, q3⟩, ?_, by omega⟩
    unfold cst
    omega
  have hjs : ∀ j : Nat, j < 64 → cnd (σ 1) p j → cst (σ 0) C p j < 100000 → so (σ 0) (σ 1) (dD σ g) p (j : Int) = cst (σ 0) C p j := fun j hj hc hlt => by
    have h6 := hso (j : Int) (by omega) (by rw [Int.toNat_natCast]; exact hc.2)
    rw [Int.toNat_natCast] at h6
    have h7 := hH p.toNat (by omega)
    have h8 := hH j hj
    have h9 := iabs_c (σ 0 p.toNat - σ 0 j)
    unfold cst at hlt h6 ⊢
    omega
  rcases bb_first (H := σ 0) (Z := σ 1) (S := dD σ g) (p := p) 4 with ⟨b1, b2⟩ | ⟨d, b1, b2, b3, b4, b5⟩
  · rw [b2]
    rcases h with ⟨h1, -⟩ | ⟨u, h1, h2, h3, h4, h5, -⟩
    · exact h1
    · exfalso
      obtain ⟨d, hd, hn⟩ := hcd u h1 h3
      have h6 := bl_so (H := σ 0) (Z := σ 1) (S := dD σ g) (p := p) (k := 4) hd
      rw [hn, hjs u h1 h3 (by omega)] at h6
      omega
  · obtain ⟨j, j1, j2, j3, j4, j5⟩ := hdc d b1 b3
    rw [b4, j2]
    rcases h with ⟨h1, h2, h3⟩ | ⟨u, h1, h2, h3, h4, h5, h6, h7⟩
    · have := h3 j j1 j3; omega
    · rw [h2]
      obtain ⟨e, he, hn⟩ := hcd u h1 h3
      have k1 := hjs u h1 h3 (by omega)
      have k2 := bl_so (H := σ 0) (Z := σ 1) (S := dD σ g) (p := p) (k := 4) he
      rw [hn, k1] at k2
      have k3 := h6 j j1 j3
      have k4 : cst (σ 0) C p u = cst (σ 0) C p j := by omega
      rcases Nat.lt_trichotomy d e with q | q | q
      · have k5 := nbr_mono hp q he (by omega) (by omega)
        rw [j2, hn] at k5
        have := h7 j (by omega) j3
        omega
      · subst q; rw [j2] at hn; omega
      · have k5 := b5 e q
        rw [hn, k1] at k5
        omega
