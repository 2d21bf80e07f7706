/-! p32's KIT: shifts and masks of ints and longs, the law's long[] -/
section LK2
variable {E : EE} {G : GG} {z n9 : Nat} {cc : ByteArray} {own : String} {ws : List Cond} {rm : Room} {cells slots pc : Nat} {lv : List (Nat × Value)} {stk : List Value} {μ : Mm}
theorem x_ishr (C : Cx E G z cc own ws rm n9) {x y v : Int32} (hd : decode cc pc = .ok (.ishr, 1)) (hv : x >>> (y &&& 31) = v) (kk : Wx E G cells slots (pc + 1) lv (.int v :: stk) μ) : Wx E G cells slots pc lv (.int y :: .int x :: stk) μ := fun H locs ls hM hS hl => lv_ishr C.hx C.hb hd (by rw [hv]; exact kk H locs ls hM hS hl)
theorem x_lshr (C : Cx E G z cc own ws rm n9) {x v : Int64} {y : Int32} (hd : decode cc pc = .ok (.lshr, 1)) (hv : x >>> (y.toInt64 &&& 63) = v) (kk : Wx E G cells slots (pc + 1) lv (.long v :: stk) μ) : Wx E G cells slots pc lv (.int y :: .long x :: stk) μ := fun H locs ls hM hS hl => lv_lshr C.hx C.hb hd hv (kk H locs ls hM hS hl)
theorem x_lstore (C : Cx E G z cc own ws rm n9) {i : Nat} {x : Int64} {lv' : List (Nat × Value)} (hd : decode cc pc = .ok (.lstore i, 2)) (hn : i + 1 < n9) (hv : (i, Value.long x) :: lv.filter (fun q => !(q.1 == i) && (!(q.1 == i + 1) && !(q.1 + 1 == i && q.2.category == 2))) = lv') (kk : Wx E G cells slots (pc + 2) lv' stk μ) : Wx E G cells slots pc lv (.long x :: stk) μ := fun H locs ls hM hS hl => lv_lstore C.hx C.hb hd hl (by rw [C.ml]; exact hn) hv (fun ls hl => kk H locs ls hM hS hl)
theorem z_ineg (C : Cx E G z cc own ws rm n9) {x : Int} (hd : decode cc pc = .ok (.ineg, 1)) (kk : Wx E G cells slots (pc + 1) lv (.int (zI (-x)) :: stk) μ) : Wx E G cells slots pc lv (.int (zI x) :: stk) μ := fun H locs ls hM hS hl => lv_ineg C.hx C.hb hd (by rw [show -(zI x) = zI (-x) from (Int32.ofInt_neg x).symm]; exact kk H locs ls hM hS hl)
theorem zI_bv {k : Nat} (h : k < 2147483648) : (zI (k : Int)).toBitVec.toNat = k := by
  rw [zI_nI]
  show (BitVec.ofNat 32 k).toNat = k
  rw [BitVec.toNat_ofNat, Nat.mod_eq_of_lt (by omega)]
theorem bv_zI {x : Int32} {k : Nat} (h : x.toBitVec.toNat = k) : x = zI (k : Int) := by
  rw [zI_nI]
  apply Int32.toBitVec_inj.1
  apply BitVec.eq_of_toNat_eq
  show x.toBitVec.toNat = (BitVec.ofNat 32 k).toNat
  rw [BitVec.toNat_ofNat, h, Nat.mod_eq_of_lt]
  rw [← h]; exact x.toBitVec.isLt
theorem sh_sm : ∀ k : Nat, k < 32 → ((zI (k : Int) &&& 31).toBitVec.smod 32).toNat = k := by decide +kernel
theorem zI_shr {x : Int} {k : Nat} (h0 : 0 ≤ x) (h1 : x < 2147483648) (hk : k < 32) : zI x >>> (zI (k : Int) &&& 31) = zI (x / 2 ^ k) := by
  apply Int32.toBitVec_inj.1
  apply BitVec.eq_of_toInt_eq
  show ((zI x).toBitVec.sshiftRight' ((zI (k : Int) &&& 31).toBitVec.smod 32)).toInt = (zI (x / 2 ^ k)).toInt
  have hp : (0 : Int) < 2 ^ k := Int.pow_pos (by decide)
  have h2 : x / 2 ^ k ≤ x := Int.ediv_le_self _ h0
  have h3 : 0 ≤ x / 2 ^ k := Int.ediv_nonneg h0 (Int.le_of_lt hp)
  rw [BitVec.toInt_sshiftRight', sh_sm k hk, show (zI x).toBitVec.toInt = (zI x).toInt from rfl, zI_to (rg_of (by omega) (by omega)), zI_to (rg_of (by omega) (by omega)), Int.shiftRight_eq_div_pow]
  rfl
theorem zI_and {x : Int} {k : Nat} (h0 : 0 ≤ x) (h1 : x < 2147483648) (hk : k < 32) : zI x &&& zI ((2 ^ k - 1 : Nat) : Int) = zI (x % ((2 ^ k : Nat) : Int)) := by
  obtain ⟨a, rfl⟩ : ∃ a : Nat, x = (a : Int) := ⟨x.toNat, by omega⟩
  have hp : 2 ^ k ≤ 2 ^ 31 := Nat.pow_le_pow_right (by decide) (by omega)
  have hp0 : 0 < 2 ^ k := Nat.pow_pos (by decide)
  rw [show ((a : Int) % ((2 ^ k : Nat) : Int)) = ((a % 2 ^ k : Nat) : Int) from rfl]
  apply bv_zI
  show ((zI (a : Int)).toBitVec &&& (zI ((2 ^ k - 1 : Nat) : Int)).toBitVec).toNat = _
  rw [BitVec.toNat_and, zI_bv (by omega), zI_bv (by omega), Nat.and_two_pow_sub_one_eq_mod]
theorem zI_or {a b : Nat} {k : Nat} (ha : a < 2 ^ k) (h1 : 2 ^ k * b + a < 2147483648) : zI (a : Int) ||| zI ((2 ^ k * b : Nat) : Int) = zI ((2 ^ k * b + a : Nat) : Int) := by
  apply bv_zI
  show ((zI (a : Int)).toBitVec ||| (zI ((2 ^ k * b : Nat) : Int)).toBitVec).toNat = _
  rw [BitVec.toNat_or, zI_bv (by omega), zI_bv (by omega), Nat.two_pow_add_eq_or_of_lt ha, Nat.or_comm]
theorem sl_sm : ∀ k : Nat, k < 32 → ((zI (k : Int) &&& 31).toBitVec.smod 32).toNat = k := sh_sm
theorem zI_shl {a : Nat} {k : Nat} (hk : k < 32) (h1 : 2 ^ k * a < 2147483648) : zI (a : Int) <<< (zI (k : Int) &&& 31) = zI ((2 ^ k * a : Nat) : Int) := by
  have hp0 : 0 < 2 ^ k := Nat.pow_pos (by decide)
  have ha : a ≤ 2 ^ k * a := Nat.le_mul_of_pos_left a hp0
  apply bv_zI
  show ((zI (a : Int)).toBitVec <<< ((zI (k : Int) &&& 31).toBitVec.smod 32)).toNat = _
  rw [BitVec.shiftLeft_eq', BitVec.toNat_shiftLeft, sh_sm k hk, zI_bv (by omega), Nat.shiftLeft_eq, Nat.mul_comm, Nat.mod_eq_of_lt (by omega)]
theorem z_ishr (C : Cx E G z cc own ws rm n9) {x : Int} (k : Nat) {i v : Int} (hd : decode cc pc = .ok (.ishr, 1)) (h0 : 0 ≤ x) (h1 : x < 2147483648) (hi : i = (k : Int)) (hk : k < 32) (hv : x / 2 ^ k = v) (kk : Wx E G cells slots (pc + 1) lv (.int (zI v) :: stk) μ) : Wx E G cells slots pc lv (.int (zI i) :: .int (zI x) :: stk) μ := by
  subst hi; subst hv
  exact x_ishr C hd (zI_shr h0 h1 hk) kk
theorem z_iand (C : Cx E G z cc own ws rm n9) {x : Int} (k : Nat) {i v : Int} (hd : decode cc pc = .ok (.iand, 1)) (h0 : 0 ≤ x) (h1 : x < 2147483648) (hk : k < 32) (hi : i = ((2 ^ k - 1 : Nat) : Int)) (hv : x % ((2 ^ k : Nat) : Int) = v) (kk : Wx E G cells slots (pc + 1) lv (.int (zI v) :: stk) μ) : Wx E G cells slots pc lv (.int (zI i) :: .int (zI x) :: stk) μ := by
  subst hi; subst hv
  exact x_iand C hd (zI_and h0 h1 hk) kk
/-- what is below the sign bit of any int -/
theorem zI_low (x : Int) : ∃ v : Int, (0 ≤ v ∧ v < 2147483648) ∧ zI x &&& zI 2147483647 = zI v := by
  refine ⟨(((zI x).toBitVec.toNat % 2 ^ 31 : Nat) : Int), ⟨by omega, by have := Nat.mod_lt (zI x).toBitVec.toNat (show 0 < 2 ^ 31 by decide); omega⟩, ?_⟩
  apply bv_zI
  show ((zI x).toBitVec &&& (zI 2147483647).toBitVec).toNat = _
  rw [BitVec.toNat_and, show (zI 2147483647).toBitVec.toNat = 2 ^ 31 - 1 from by decide +kernel, Nat.and_two_pow_sub_one_eq_mod]
/-! longs -/
theorem l_sm : ∀ k : Nat, k < 64 → (((zI (k : Int)).toInt64 &&& 63).toBitVec.smod 64).toNat = k := by decide +kernel
theorem kb_shr {K : Int64} {p : Nat} (hp : p < 64) : (K >>> ((zI (p : Int)).toInt64 &&& 63)) &&& 1 = if kb K p = true then 1 else 0 := by
  apply kb_ext
  intro j hj
  have h1 : kb ((K >>> ((zI (p : Int)).toInt64 &&& 63)) &&& 1) j = (kb (K >>> ((zI (p : Int)).toInt64 &&& 63)) j && decide (j = 0)) := by
    rw [kb_and]
    congr 1
    have : ∀ j : Nat, j < 64 → kb 1 j = decide (j = 0) := by decide +kernel
    exact this j hj
  rw [h1]
  have h2 : kb (K >>> ((zI (p : Int)).toInt64 &&& 63)) 0 = kb K p := by
    show (K.toBitVec.sshiftRight' (((zI (p : Int)).toInt64 &&& 63).toBitVec.smod 64)).getLsbD 0 = _
    rw [BitVec.getLsbD_sshiftRight', l_sm p hp]
    simp [hp, kb]
  by_cases e : j = 0
  · subst e
    rw [h2]
    cases h3 : kb K p
    · simp [kb_0]
    · simp; decide
  · have h4 : ∀ j : Nat, j < 64 → kb 1 j = decide (j = 0) := by decide +kernel
    cases h3 : kb K p
    · simp [kb_0, e]
    · simp [e, h4 j hj]
theorem z_bit (C : Cx E G z cc own ws rm n9) {K : Int64} (p : Nat) {i : Int} {v : Int64} (hd : decode cc pc = .ok (.lshr, 1)) (hd1 : decode cc (pc + 1) = .ok (.lconst 1, 1)) (hd2 : decode cc (pc + 2) = .ok (.land, 1)) (hi : i = (p : Int)) (hp : p < 64) (hv : (if kb K p = true then (1 : Int64) else 0) = v) (kk : Wx E G cells slots (pc + 3) lv (.long v :: stk) μ) : Wx E G cells slots pc lv (.int (zI i) :: .long K :: stk) μ := by
  subst hi
  exact x_lshr C hd rfl (x_lconst C hd1 rfl (x_land C hd2 ((kb_shr hp).trans hv) kk))
end LK2
def OL (G : GG) (μ : Mm) (o r : Nat) (v : Int64) : Prop := ∃ f : Nat → Int64, μ o = some (r, eJ G 1 f) ∧ f 0 = v
theorem Fr.ol {lo hi : Nat} {μ μ' : Mm} (hF : Fr lo hi μ μ') {G : GG} {o r : Nat} {v : Int64} (h : OL G μ o r v) (hr : r < lo ∨ hi ≤ r := by omega) : OL G μ' o r v := by
  obtain ⟨f, h1, h2⟩ := h
  exact ⟨f, hF.at h1 hr, h2⟩
section LK3
variable {E : EE} {G : GG} {z n9 : Nat} {cc : ByteArray} {own : String} {ws : List Cond} {rm : Room} {cells slots pc : Nat} {lv : List (Nat × Value)} {stk : List Value} {μ : Mm}
theorem z_olst (C : Cx E G z cc own ws rm n9) {o r : Nat} {v x : Int64} (hd : decode cc pc = .ok (.lastore, 1)) (ho : OL G μ o r v) (kk : ∀ μ', OL G μ' o r x → Fr r (r + 1) μ μ' → Wx E G cells slots (pc + 1) lv stk μ') : Wx E G cells slots pc lv (.long x :: .int (zI 0) :: .ref o :: stk) μ := by
  obtain ⟨f, h1, h2⟩ := ho
  exact x_last C hd h1 (ix_z (j := 0) rfl (by decide) (by decide)) rfl (kk _ ⟨_, mU_at, by simp [vp_updL]⟩ (mU_fr h1))
theorem z_olld (C : Cx E G z cc own ws rm n9) {o r : Nat} {v : Int64} (hd : decode cc pc = .ok (.laload, 1)) (ho : OL G μ o r v) (kk : Wx E G cells slots (pc + 1) lv (.long v :: stk) μ) : Wx E G cells slots pc lv (.int (zI 0) :: .ref o :: stk) μ := by
  obtain ⟨f, h1, h2⟩ := ho
  exact x_lald C hd h1 (ix_z (j := 0) rfl (by decide) (by decide)) h2 kk
end LK3
