/-! COUNTING THE BITS of a long, as the library's method does it, byte by byte -/
theorem bt_and (a b : Nat) : lN a &&& lN b = lN (a &&& b) := by
  apply Int64.toBitVec_inj.1
  show BitVec.ofNat 64 a &&& BitVec.ofNat 64 b = BitVec.ofNat 64 (a &&& b)
  apply BitVec.eq_of_getLsbD_eq
  intro i hi
  simp [hi]
theorem bt_add (a b : Nat) : lN a + lN b = lN (a + b) := by
  apply Int64.toBitVec_inj.1
  show BitVec.ofNat 64 a + BitVec.ofNat 64 b = BitVec.ofNat 64 (a + b)
  exact (BitVec.ofNat_add a b).symm
theorem bt_sub {a b : Nat} (h : b ≤ a) : lN a - lN b = lN (a - b) := by
  have h1 := bt_add (a - b) b
  rw [Nat.sub_add_cancel h] at h1
  rw [← h1]
  exact Int64.add_sub_cancel _ _
theorem bt_cu : ∀ k : Nat, k < 64 → ((zI (k : Int)).toInt64.toUInt64 &&& Int64.toUInt64 63) = UInt64.ofNat k := by decide +kernel
theorem bt_tn {n : Nat} (h : n < 2 ^ 64) : (lN n).toBitVec.toNat = n := by
  show (BitVec.ofNat 64 n).toNat = n
  rw [BitVec.toNat_ofNat, Nat.mod_eq_of_lt h]
theorem bt_shr {n : Nat} (k : Nat) (hn : n < 2 ^ 64) (hk : k < 64) : ((lN n).toUInt64 >>> ((zI (k : Int)).toInt64.toUInt64 &&& Int64.toUInt64 63)).toInt64 = lN (n / 2 ^ k) := by
  rw [bt_cu k hk]
  apply Int64.toBitVec_inj.1
  apply BitVec.eq_of_toNat_eq
  show ((lN n).toUInt64 >>> UInt64.ofNat k).toNat = (BitVec.ofNat 64 _).toNat
  have h1 : (UInt64.ofNat k).toNat = k := by
    show (BitVec.ofNat 64 k).toNat = k
    rw [BitVec.toNat_ofNat, Nat.mod_eq_of_lt (by omega)]
  have h2 : (lN n).toUInt64.toNat = n := bt_tn hn
  rw [UInt64.toNat_shiftRight, h1, h2, Nat.mod_eq_of_lt hk, Nat.shiftRight_eq_div_pow, BitVec.toNat_ofNat, Nat.mod_eq_of_lt (Nat.lt_of_le_of_lt (Nat.div_le_self _ _) hn)]
theorem bt_of (x : Int64) : ∃ n, n < 2 ^ 64 ∧ x = lN n := ⟨x.toBitVec.toNat, x.toBitVec.isLt, Int64.toBitVec_inj.1 (by show _ = BitVec.ofNat 64 _; simp)⟩
theorem bt_kb {n j : Nat} (hj : j < 64) : kb (lN n) j = n.testBit j := by
  show (BitVec.ofNat 64 n).getLsbD j = _
  rw [BitVec.getLsbD_ofNat]
  simp [hj]
theorem bt_end (m : Nat) : (lN m).toInt32 &&& zI 127 = zI ((m % 128 : Nat) : Int) := by
  rw [zI_nI]
  apply Int32.toBitVec_inj.1
  apply BitVec.eq_of_toNat_eq
  show (((BitVec.ofNat 64 m).signExtend 32) &&& (BitVec.ofNat 32 127)).toNat = (BitVec.ofNat 32 (m % 128)).toNat
  rw [BitVec.toNat_and, BitVec.signExtend_eq_setWidth_of_le _ (by decide), BitVec.toNat_setWidth, BitVec.toNat_ofNat, BitVec.toNat_ofNat, BitVec.toNat_ofNat, show 127 % 2 ^ 32 = 2 ^ 7 - 1 from rfl, Nat.and_two_pow_sub_one_eq_mod, Nat.mod_mod_of_dvd _ (by decide), Nat.mod_mod_of_dvd _ (by decide)]
  rw [Nat.mod_eq_of_lt (show m % 128 < 2 ^ 32 by omega)]
/-- a mask of k equal bytes -/
def mk8 (c : Nat) : Nat → Nat
  | 0 => 0
  | k + 1 => c + 256 * mk8 c k
theorem by_and {a b x y : Nat} (ha : a < 256) (hb : b < 256) : (a + 256 * x) &&& (b + 256 * y) = (a &&& b) + 256 * (x &&& y) := by
  have h1 : ((a + 256 * x) &&& (b + 256 * y)) % 2 ^ 8 = a &&& b := by
    rw [Nat.and_mod_two_pow, show (a + 256 * x) % 2 ^ 8 = a by omega, show (b + 256 * y) % 2 ^ 8 = b by omega]
  have h2 : ((a + 256 * x) &&& (b + 256 * y)) / 2 ^ 8 = x &&& y := by
    rw [Nat.and_div_two_pow, show (a + 256 * x) / 2 ^ 8 = x by omega, show (b + 256 * y) / 2 ^ 8 = y by omega]
  omega
def g1 (b : Nat) : Nat := b - (b / 2 &&& 85)
def g2 (b : Nat) : Nat := (b &&& 51) + (b / 4 &&& 51)
def g3 (b : Nat) : Nat := (b + b / 16) &&& 15
def f1 (k n : Nat) : Nat := n - (n / 2 &&& mk8 85 k)
def f2 (k n : Nat) : Nat := (n &&& mk8 51 k) + (n / 4 &&& mk8 51 k)
def f3 (k n : Nat) : Nat := (n + n / 16) &&& mk8 15 k
theorem g1_le : ∀ b, b < 256 → (b / 2 &&& 85) ≤ b := by decide +kernel
theorem g1_t : ∀ b, b < 256 → ∀ t, t < 2 → ((b / 2 + 128 * t) &&& 85) = (b / 2 &&& 85) := by decide +kernel
theorem g2_t : ∀ b, b < 256 → ∀ t, t < 4 → ((b / 4 + 64 * t) &&& 51) = (b / 4 &&& 51) := by decide +kernel
theorem g2_lt : ∀ b, b < 256 → g2 b < 256 := by decide +kernel
theorem g21 : ∀ b, b < 256 → g2 (g1 b) % 16 ≤ 4 ∧ g2 (g1 b) / 16 ≤ 4 := by decide +kernel
theorem g3_t : ∀ b, b < 5 → ∀ c, c < 5 → ∀ t, t < 5 → ((b + 16 * c + c + 16 * t) &&& 15) = g3 (b + 16 * c) := by decide +kernel
theorem f1_le (n : Nat) : ∀ k, (n / 2 &&& mk8 85 k) ≤ n := fun k => Nat.le_trans (Nat.and_le_left) (Nat.div_le_self _ _)
theorem f1_s (k n : Nat) : f1 (k + 1) n = g1 (n % 256) + 256 * f1 k (n / 256) := by
  have e : n / 2 = (n % 256 / 2 + 128 * (n / 256 % 2)) + 256 * (n / 256 / 2) := by omega
  have h2 := g1_le (n % 256) (by omega)
  have h3 := f1_le (n / 256) k
  unfold f1 g1
  rw [show mk8 85 (k + 1) = 85 + 256 * mk8 85 k from rfl, e, by_and (by omega) (by omega), g1_t _ (by omega) _ (by omega)]
  omega
theorem f2_s (k n : Nat) : f2 (k + 1) n = g2 (n % 256) + 256 * f2 k (n / 256) := by
  have e : n / 4 = (n % 256 / 4 + 64 * (n / 256 % 4)) + 256 * (n / 256 / 4) := by omega
  have e2 : n &&& mk8 51 (k + 1) = (n % 256 &&& 51) + 256 * (n / 256 &&& mk8 51 k) := by
    rw [show mk8 51 (k + 1) = 51 + 256 * mk8 51 k from rfl, ← by_and (by omega) (by omega)]
    congr 1; omega
  unfold f2 g2
  rw [e2, show mk8 51 (k + 1) = 51 + 256 * mk8 51 k from rfl, e, by_and (by omega) (by omega), g2_t _ (by omega) _ (by omega)]
  omega
theorem f3_s (k n : Nat) (h1 : n % 256 % 16 ≤ 4) (h2 : n % 256 / 16 ≤ 4) (h3 : n / 256 % 16 ≤ 4) : f3 (k + 1) n = g3 (n % 256) + 256 * f3 k (n / 256) := by
  have e : n + n / 16 = (n % 256 % 16 + 16 * (n % 256 / 16) + n % 256 / 16 + 16 * (n / 256 % 16)) + 256 * (n / 256 + n / 256 / 16) := by omega
  have e2 := g3_t (n % 256 % 16) (by omega) (n % 256 / 16) (by omega) (n / 256 % 16) (by omega)
  unfold f3
  rw [show mk8 15 (k + 1) = 15 + 256 * mk8 15 k from rfl, e, by_and (by omega) (by omega), e2, show n % 256 % 16 + 16 * (n % 256 / 16) = n % 256 by omega]
/-- the counts of the bytes -/
def cs8 : Nat → Nat → Nat
  | 0, _ => 0
  | k + 1, n => g3 (g2 (g1 (n % 256))) + 256 * cs8 k (n / 256)
theorem g1_lt (b : Nat) (h : b < 256) : g1 b < 256 := by unfold g1; omega
theorem f21_m : ∀ k n, f2 k (f1 k n) % 16 ≤ 4
  | 0, n => by
    have : f2 0 (f1 0 n) = 0 := by
      show (_ &&& 0) + (_ &&& 0) = 0
      rw [Nat.and_zero, Nat.and_zero]
    rw [this]; decide
  | k + 1, n => by
    have h1 := g1_lt (n % 256) (by omega)
    have h3 := g21 (n % 256) (by omega)
    rw [f1_s, f2_s, show (g1 (n % 256) + 256 * f1 k (n / 256)) % 256 = g1 (n % 256) by omega]
    omega
theorem f321 : ∀ k n, f3 k (f2 k (f1 k n)) = cs8 k n
  | 0, n => by
    show (_ &&& 0) = 0
    rw [Nat.and_zero]
  | k + 1, n => by
    have h1 := g1_lt (n % 256) (by omega)
    have h2 := g2_lt (g1 (n % 256)) h1
    have h3 := g21 (n % 256) (by omega)
    have h4 := f21_m k (n / 256)
    have e1 : f2 (k + 1) (f1 (k + 1) n) = g2 (g1 (n % 256)) + 256 * f2 k (f1 k (n / 256)) := by
      rw [f1_s, f2_s, show (g1 (n % 256) + 256 * f1 k (n / 256)) % 256 = g1 (n % 256) by omega, show (g1 (n % 256) + 256 * f1 k (n / 256)) / 256 = f1 k (n / 256) by omega]
    rw [e1, f3_s k _ (by omega) (by omega) (by omega), show (g2 (g1 (n % 256)) + 256 * f2 k (f1 k (n / 256))) % 256 = g2 (g1 (n % 256)) by omega, show (g2 (g1 (n % 256)) + 256 * f2 k (f1 k (n / 256))) / 256 = f2 k (f1 k (n / 256)) by omega, f321 k (n / 256)]
    rfl
def p8 (b : Nat) : Nat := g3 (g2 (g1 b))
theorem p8_ct : ∀ b, b < 256 → (p8 b : Int) = ctb (fun j => b.testBit j) 8 := by decide +kernel
theorem p8_le : ∀ b, b < 256 → p8 b ≤ 8 := by decide +kernel
theorem ctb_add (f : Nat → Bool) (m : Nat) : ∀ n, ctb f (m + n) = ctb f m + ctb (fun j => f (m + j)) n
  | 0 => by rw [show ctb (fun j => f (m + j)) 0 = 0 from rfl]; exact (Int.add_zero _).symm
  | n + 1 => by
    rw [show m + (n + 1) = (m + n) + 1 from rfl, show ctb f (m + n + 1) = ctb f (m + n) + (if f (m + n) = true then 1 else 0) from rfl, ctb_add f m n, show ctb (fun j => f (m + j)) (n + 1) = ctb (fun j => f (m + j)) n + (if f (m + n) = true then 1 else 0) from rfl]
    omega
/-- the sum of the bytes' counts -/
def ss8 : Nat → Nat → Nat
  | 0, _ => 0
  | k + 1, n => p8 (n % 256) + ss8 k (n / 256)
theorem ss8_ct : ∀ k n, (ss8 k n : Int) = ctb (fun j => n.testBit j) (8 * k)
  | 0, n => rfl
  | k + 1, n => by
    rw [show 8 * (k + 1) = 8 + 8 * k by omega, ctb_add, show ss8 (k + 1) n = p8 (n % 256) + ss8 k (n / 256) from rfl]
    have h1 := p8_ct (n % 256) (by omega)
    have h2 := ss8_ct k (n / 256)
    have h3 : ctb (fun j => (n % 256).testBit j) 8 = ctb (fun j => n.testBit j) 8 := ctb_cong fun j hj => by
      show (n % 2 ^ 8).testBit j = _
      rw [Nat.testBit_mod_two_pow]
      simp [hj]
    have h4 : ctb (fun j => (n / 256).testBit j) (8 * k) = ctb (fun j => n.testBit (8 + j)) (8 * k) := ctb_cong fun j hj => by
      show (n / 2 ^ 8).testBit j = _
      rw [Nat.testBit_div_two_pow]
      congr 1; omega
    omega
theorem cs8_end (n : Nat) (hn : n < 2 ^ 64) : (let a := cs8 8 n; let b := a + a / 256; let c := b + b / 65536; (c + c / 4294967296) % 128) = ss8 8 n := by
  have e : ∀ k m, cs8 (k + 1) m = p8 (m % 256) + 256 * cs8 k (m / 256) := fun k m => rfl
  have e2 : ∀ k m, ss8 (k + 1) m = p8 (m % 256) + ss8 k (m / 256) := fun k m => rfl
  simp only [e, e2, show ∀ m, cs8 0 m = 0 from fun _ => rfl, show ∀ m, ss8 0 m = 0 from fun _ => rfl]
  have a0 := p8_le (n % 256) (by omega)
  have a1 := p8_le (n / 256 % 256) (by omega)
  have a2 := p8_le (n / 256 / 256 % 256) (by omega)
  have a3 := p8_le (n / 256 / 256 / 256 % 256) (by omega)
  have a4 := p8_le (n / 256 / 256 / 256 / 256 % 256) (by omega)
  have a5 := p8_le (n / 256 / 256 / 256 / 256 / 256 % 256) (by omega)
  have a6 := p8_le (n / 256 / 256 / 256 / 256 / 256 / 256 % 256) (by omega)
  have a7 := p8_le (n / 256 / 256 / 256 / 256 / 256 / 256 / 256 % 256) (by omega)
  generalize p8 (n % 256) = c0 at *
  generalize p8 (n / 256 % 256) = c1 at *
  generalize p8 (n / 256 / 256 % 256) = c2 at *
  generalize p8 (n / 256 / 256 / 256 % 256) = c3 at *
  generalize p8 (n / 256 / 256 / 256 / 256 % 256) = c4 at *
  generalize p8 (n / 256 / 256 / 256 / 256 / 256 % 256) = c5 at *
  generalize p8 (n / 256 / 256 / 256 / 256 / 256 / 256 % 256) = c6 at *
  generalize p8 (n / 256 / 256 / 256 / 256 / 256 / 256 / 256 % 256) = c7 at *
  clear e e2 hn
  have q1 : (c0 + 256 * (c1 + 256 * (c2 + 256 * (c3 + 256 * (c4 + 256 * (c5 + 256 * (c6 + 256 * (c7)))))))) / 256 = c1 + 256 * (c2 + 256 * (c3 + 256 * (c4 + 256 * (c5 + 256 * (c6 + 256 * (c7)))))) := by omega
  have q2 : (c0 + 256 * (c1 + 256 * (c2 + 256 * (c3 + 256 * (c4 + 256 * (c5 + 256 * (c6 + 256 * (c7)))))))) + (c1 + 256 * (c2 + 256 * (c3 + 256 * (c4 + 256 * (c5 + 256 * (c6 + 256 * (c7))))))) = (c0 + c1) + 256 * ((c1 + c2) + 256 * ((c2 + c3) + 256 * ((c3 + c4) + 256 * ((c4 + c5) + 256 * ((c5 + c6) + 256 * ((c6 + c7) + 256 * (c7))))))) := by omega
  have q3 : ((c0 + c1) + 256 * ((c1 + c2) + 256 * ((c2 + c3) + 256 * ((c3 + c4) + 256 * ((c4 + c5) + 256 * ((c5 + c6) + 256 * ((c6 + c7) + 256 * (c7)))))))) / 65536 = (c2 + c3) + 256 * ((c3 + c4) + 256 * ((c4 + c5) + 256 * ((c5 + c6) + 256 * ((c6 + c7) + 256 * (c7))))) := by omega
  have q4 : ((c0 + c1) + 256 * ((c1 + c2) + 256 * ((c2 + c3) + 256 * ((c3 + c4) + 256 * ((c4 + c5) + 256 * ((c5 + c6) + 256 * ((c6 + c7) + 256 * (c7)))))))) + ((c2 + c3) + 256 * ((c3 + c4) + 256 * ((c4 + c5) + 256 * ((c5 + c6) + 256 * ((c6 + c7) + 256 * (c7)))))) = (c0 + c1 + c2 + c3) + 256 * ((c1 + c2 + c3 + c4) + 256 * ((c2 + c3 + c4 + c5) + 256 * ((c3 + c4 + c5 + c6) + 256 * ((c4 + c5 + c6 + c7) + 256 * ((c5 + c6 + c7) + 256 * ((c6 + c7) + 256 * ((c7)))))))) := by omega
  have q5 : ((c0 + c1 + c2 + c3) + 256 * ((c1 + c2 + c3 + c4) + 256 * ((c2 + c3 + c4 + c5) + 256 * ((c3 + c4 + c5 + c6) + 256 * ((c4 + c5 + c6 + c7) + 256 * ((c5 + c6 + c7) + 256 * ((c6 + c7) + 256 * ((c7))))))))) / 4294967296 = (c4 + c5 + c6 + c7) + 256 * ((c5 + c6 + c7) + 256 * ((c6 + c7) + 256 * ((c7)))) := by omega
  rw [Nat.mul_zero, Nat.add_zero, q1, q2, q3, q4, q5]
  clear q1 q2 q3 q4 q5
  omega
theorem mk85 : mk8 85 8 = 6148914691236517205 := by decide +kernel
theorem mk51 : mk8 51 8 = 3689348814741910323 := by decide +kernel
theorem mk15 : mk8 15 8 = 1085102592571150095 := by decide +kernel
theorem bt_le (n : Nat) : (n / 2 &&& 6148914691236517205) ≤ n := Nat.le_trans Nat.and_le_left (Nat.div_le_self _ _)
theorem bt_all {n n1 n2 n3 n4 n5 n6 : Nat} (hn : n < 2 ^ 64) (e1 : n1 = n - (n / 2 &&& 6148914691236517205)) (e2 : n2 = (n1 &&& 3689348814741910323) + (n1 / 4 &&& 3689348814741910323)) (e3 : n3 = (n2 + n2 / 16) &&& 1085102592571150095) (e4 : n4 = n3 + n3 / 256) (e5 : n5 = n4 + n4 / 65536) (e6 : n6 = n5 + n5 / 4294967296) : ((n6 % 128 : Nat) : Int) = ctb (fun j => n.testBit j) 64 := by
  rw [← mk85] at e1
  rw [← mk51] at e2
  rw [← mk15] at e3
  have h2 : n3 = cs8 8 n := by
    have := f321 8 n
    unfold f3 f2 f1 at this
    rw [← e1, ← e2, ← e3] at this
    exact this
  have h1 : n6 % 128 = ss8 8 n := by
    rw [e6, e5, e4, h2]
    exact cs8_end n hn
  rw [h1]
  exact ss8_ct 8 n
