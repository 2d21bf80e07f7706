/-! INTS AS INTEGERS: zI e is the int of the integer e; comparisons and divisions under the ranges. AI, AZ: rows of ints and booleans that hold integers, place by place. Fr lo hi: cells of other roles stay. -/
def zI (x : Int) : Int32 := Int32.ofInt x
def rg (x : Int) : Prop := -2147483648 ≤ x ∧ x < 2147483648
theorem rg_of {x : Int} (h1 : -2147483648 ≤ x) (h2 : x < 2147483648) : rg x := ⟨h1, h2⟩
theorem zI_to {x : Int} (h : rg x) : (zI x).toInt = x := Int32.toInt_ofInt_of_le (by have := h.1; omega) (by have := h.2; omega)
theorem zI_of (x : Int32) : zI x.toInt = x := Int32.ofInt_toInt x
theorem zI_rg (x : Int32) : rg x.toInt := ⟨by have := Int32.le_toInt x; omega, by have := Int32.toInt_lt x; omega⟩
theorem zI_add (a b : Int) : zI a + zI b = zI (a + b) := (Int32.ofInt_add a b).symm
theorem zI_sub (a b : Int) : zI a - zI b = zI (a - b) := (Int32.ofInt_sub a b).symm
theorem zI_mul (a b : Int) : zI a * zI b = zI (a * b) := (Int32.ofInt_mul a b).symm
theorem zI_lt {a b : Int} (ha : rg a) (hb : rg b) : zI a < zI b ↔ a < b := by rw [Int32.lt_iff_toInt_lt, zI_to ha, zI_to hb]
theorem zI_le {a b : Int} (ha : rg a) (hb : rg b) : zI a ≤ zI b ↔ a ≤ b := by rw [Int32.le_iff_toInt_le, zI_to ha, zI_to hb]
theorem zI_eq {a b : Int} (ha : rg a) (hb : rg b) : zI a = zI b ↔ a = b := by rw [← Int32.toInt_inj, zI_to ha, zI_to hb]
theorem rg0 : rg 0 := ⟨by omega, by omega⟩
theorem zI_0 : zI 0 = 0 := rfl
theorem zI_eq0 {x : Int} (hx : rg x) : zI x = 0 ↔ x = 0 := by rw [← zI_0]; exact zI_eq hx rg0
theorem zI_lt0 {x : Int} (hx : rg x) : zI x < 0 ↔ x < 0 := by rw [← zI_0]; exact zI_lt hx rg0
theorem zI_ge0 {x : Int} (hx : rg x) : 0 ≤ zI x ↔ 0 ≤ x := by rw [← zI_0]; exact zI_le rg0 hx
theorem zI_gt0 {x : Int} (hx : rg x) : 0 < zI x ↔ 0 < x := by rw [← zI_0]; exact zI_lt rg0 hx
theorem zI_le0 {x : Int} (hx : rg x) : zI x ≤ 0 ↔ x ≤ 0 := by rw [← zI_0]; exact zI_le hx rg0
theorem zI_nI (n : Nat) : zI (n : Int) = nI n := Int32.ofInt_eq_ofNat
theorem zI_div {a b : Int} (ha : rg a) (h0 : 0 ≤ a) (hb : rg b) : zI a / zI b = zI (a / b) := by
  unfold zI
  rw [← Int32.ofInt_tdiv (show (-2147483648 : Int) ≤ a from ha.1) (show a ≤ (2147483647 : Int) from by have := ha.2; omega) (show (-2147483648 : Int) ≤ b from hb.1) (show b ≤ (2147483647 : Int) from by have := hb.2; omega), Int.tdiv_eq_ediv_of_nonneg h0]
theorem zI_rem {a b : Int} (ha : rg a) (h0 : 0 ≤ a) (hb : rg b) : zI a - zI a / zI b * zI b = zI (a % b) := by
  rw [zI_div ha h0 hb, zI_mul, zI_sub]
  congr 1
  have := Int.mul_ediv_add_emod a b
  rw [Int.mul_comm] at this
  omega
theorem zI_ne0 {b : Int} (hb : rg b) (h : b ≠ 0) : ¬ zI b = 0 := fun q => h ((zI_eq0 hb).mp q)
theorem zI_clamp {a : Int} (ha : rg a) : (zI a).toNatClampNeg = a.toNat := by rw [← Int32.toNat_toInt, zI_to ha]
theorem ix_z {a : Int} {j n : Nat} (h : a = (j : Int)) (h2 : j < n) (hn : n < 2147483648) : ix (zI a) j n := by
  subst h
  rw [zI_nI]
  exact ix_nI h2 (by omega)
def AI (G : GG) (μ : Mm) (a r n : Nat) (g : Nat → Int) : Prop := ∃ f : Nat → Int32, μ a = some (r, eI G n f) ∧ ∀ j, j < n → f j = zI (g j)
def AZ (G : GG) (μ : Mm) (a r n : Nat) (g : Nat → Int) : Prop := ∃ f : Nat → Int32, μ a = some (r, eZ G n f) ∧ ∀ j, j < n → f j = zI (g j)
def OB (μ : Mm) (a r ci : Nat) (fs : List Value) : Prop := μ a = some (r, .inr (ci, fs))
def Fr (lo hi : Nat) (μ μ' : Mm) : Prop := ∀ b r e, μ b = some (r, e) → (r < lo ∨ hi ≤ r) → μ' b = some (r, e)
theorem Fr.rf {lo hi : Nat} {μ : Mm} : Fr lo hi μ μ := fun _ _ _ h _ => h
theorem Fr.tr {lo hi lo1 hi1 lo2 hi2 : Nat} {μ μ1 μ2 : Mm} (h1 : Fr lo1 hi1 μ μ1) (h2 : Fr lo2 hi2 μ1 μ2) (a1 : lo ≤ lo1 := by omega) (a2 : hi1 ≤ hi := by omega) (a3 : lo ≤ lo2 := by omega) (a4 : hi2 ≤ hi := by omega) : Fr lo hi μ μ2 := fun b r e h q => h2 b r e (h1 b r e h (by omega)) (by omega)
theorem Fr.wd {lo hi lo1 hi1 : Nat} {μ μ1 : Mm} (h1 : Fr lo1 hi1 μ μ1) (a1 : lo ≤ lo1 := by omega) (a2 : hi1 ≤ hi := by omega) : Fr lo hi μ μ1 := fun b r e h q => h1 b r e h (by omega)
theorem Fr.ob {lo hi : Nat} {μ μ' : Mm} (h : Fr lo hi μ μ') {a r ci : Nat} {fs : List Value} (ho : OB μ a r ci fs) (hr : r < lo ∨ hi ≤ r := by omega) : OB μ' a r ci fs := h a r _ ho hr
theorem Fr.ai {lo hi : Nat} {μ μ' : Mm} (h : Fr lo hi μ μ') {G : GG} {a r n : Nat} {g : Nat → Int} (ho : AI G μ a r n g) (hr : r < lo ∨ hi ≤ r := by omega) : AI G μ' a r n g := by
  obtain ⟨f, h1, h2⟩ := ho
  exact ⟨f, h a r _ h1 hr, h2⟩
theorem Fr.az {lo hi : Nat} {μ μ' : Mm} (h : Fr lo hi μ μ') {G : GG} {a r n : Nat} {g : Nat → Int} (ho : AZ G μ a r n g) (hr : r < lo ∨ hi ≤ r := by omega) : AZ G μ' a r n g := by
  obtain ⟨f, h1, h2⟩ := ho
  exact ⟨f, h a r _ h1 hr, h2⟩
theorem Fr.at {lo hi : Nat} {μ μ' : Mm} (h : Fr lo hi μ μ') {a r : Nat} {e : va_E} (ho : μ a = some (r, e)) (hr : r < lo ∨ hi ≤ r := by omega) : μ' a = some (r, e) := h a r _ ho hr
theorem mU_fr {μ : Mm} {a r : Nat} {e0 e : va_E} (ha : μ a = some (r, e0)) : Fr r (r + 1) μ (mU μ a r e) := fun b r2 e2 hb hr => mU_role ha hb (by omega)
theorem mU_frn {μ : Mm} {a r lo hi : Nat} {e : va_E} (ha : μ a = none) : Fr lo hi μ (mU μ a r e) := fun b r2 e2 hb hr => mU_new ha hb
theorem AI.cong {G : GG} {μ : Mm} {a r n : Nat} {g g' : Nat → Int} (h : AI G μ a r n g) (e : ∀ j, j < n → g j = g' j) : AI G μ a r n g' := by
  obtain ⟨f, h1, h2⟩ := h
  exact ⟨f, h1, fun j hj => by rw [h2 j hj, e j hj]⟩
theorem AZ.cong {G : GG} {μ : Mm} {a r n : Nat} {g g' : Nat → Int} (h : AZ G μ a r n g) (e : ∀ j, j < n → g j = g' j) : AZ G μ a r n g' := by
  obtain ⟨f, h1, h2⟩ := h
  exact ⟨f, h1, fun j hj => by rw [h2 j hj, e j hj]⟩
/-- an integer row with one place written -/
def wr (g : Nat → Int) (j : Nat) (v : Int) : Nat → Int := fun i => if i = j then v else g i
theorem wr_at {g : Nat → Int} {j : Nat} {v : Int} : wr g j v j = v := by simp [wr]
theorem wr_ne {g : Nat → Int} {i j : Nat} {v : Int} (h : i ≠ j) : wr g j v i = g i := by simp [wr, h]
theorem nar_z {b : Int} (h : b = 0 ∨ b = 1) : narrow .boolean (.int (zI b)) = .int (zI b) := by rcases h with rfl | rfl <;> decide
theorem fit_z {b : Int} (h : b = 0 ∨ b = 1) : fits .boolean (.int (zI b)) = true := by rcases h with rfl | rfl <;> decide
theorem vnar_z {b : Int} (h : b = 0 ∨ b = 1) : vp_nar .boolean (zI b) = zI b := by rcases h with rfl | rfl <;> decide
theorem nar_c {b : Int} (h : 0 ≤ b ∧ b < 65536) : narrow .char (.int (zI b)) = .int (zI b) := by
  obtain ⟨k, rfl⟩ : ∃ k : Nat, b = (k : Int) := ⟨b.toNat, by omega⟩
  rw [zI_nI]
  exact (pk_charN (by omega)).1
theorem ite_or {c : Prop} [Decidable c] {a b r : Int} (h : (if c then a else b) = r) : (c ∧ r = a) ∨ (¬ c ∧ r = b) := by
  by_cases q : c
  · rw [if_pos q] at h
    exact Or.inl ⟨q, h.symm⟩
  · rw [if_neg q] at h
    exact Or.inr ⟨q, h.symm⟩
section ZR
variable {E : EE} {G : GG} {z n9 : Nat} {cc : ByteArray} {own : String} {ws : List Cond} {rm : Room} {cells slots pc : Nat} {lv : List (Nat × Value)} {stk : List Value} {μ : Mm}
theorem z_iconst (C : Cx E G z cc own ws rm n9) {n : Int} (hd : decode cc pc = .ok (.iconst n, 1)) (kk : Wx E G cells slots (pc + 1) lv (.int (zI n) :: stk) μ) : Wx E G cells slots pc lv stk μ := x_iconst C hd rfl kk
theorem z_bipush (C : Cx E G z cc own ws rm n9) {n : Int} (hd : decode cc pc = .ok (.bipush n, 2)) (hv : (Int8.ofInt n).toInt32 = zI n) (kk : Wx E G cells slots (pc + 2) lv (.int (zI n) :: stk) μ) : Wx E G cells slots pc lv stk μ := x_bipush C hd hv kk
theorem z_sipush (C : Cx E G z cc own ws rm n9) {n : Int} (hd : decode cc pc = .ok (.sipush n, 3)) (hv : (Int16.ofInt n).toInt32 = zI n) (kk : Wx E G cells slots (pc + 3) lv (.int (zI n) :: stk) μ) : Wx E G cells slots pc lv stk μ := x_sipush C hd hv kk
theorem z_iadd (C : Cx E G z cc own ws rm n9) {x y v : Int} (hd : decode cc pc = .ok (.iadd, 1)) (hv : x + y = v) (kk : Wx E G cells slots (pc + 1) lv (.int (zI v) :: stk) μ) : Wx E G cells slots pc lv (.int (zI y) :: .int (zI x) :: stk) μ := x_iadd C hd (by rw [zI_add, hv]) kk
theorem z_isub (C : Cx E G z cc own ws rm n9) {x y v : Int} (hd : decode cc pc = .ok (.isub, 1)) (hv : x - y = v) (kk : Wx E G cells slots (pc + 1) lv (.int (zI v) :: stk) μ) : Wx E G cells slots pc lv (.int (zI y) :: .int (zI x) :: stk) μ := x_isub C hd (by rw [zI_sub, hv]) kk
theorem z_imul (C : Cx E G z cc own ws rm n9) {x y v : Int} (hd : decode cc pc = .ok (.imul, 1)) (hv : x * y = v) (kk : Wx E G cells slots (pc + 1) lv (.int (zI v) :: stk) μ) : Wx E G cells slots pc lv (.int (zI y) :: .int (zI x) :: stk) μ := x_imul C hd (by rw [zI_mul, hv]) kk
theorem z_idiv (C : Cx E G z cc own ws rm n9) {x y v : Int} (hd : decode cc pc = .ok (.idiv, 1)) (hx : rg x) (h0 : 0 ≤ x) (hy : rg y) (hne : y ≠ 0) (hv : x / y = v) (kk : Wx E G cells slots (pc + 1) lv (.int (zI v) :: stk) μ) : Wx E G cells slots pc lv (.int (zI y) :: .int (zI x) :: stk) μ := x_idiv C hd (zI_ne0 hy hne) (by rw [zI_div hx h0 hy, hv]) kk
theorem z_irem (C : Cx E G z cc own ws rm n9) {x y v : Int} (hd : decode cc pc = .ok (.irem, 1)) (hx : rg x) (h0 : 0 ≤ x) (hy : rg y) (hne : y ≠ 0) (hv : x % y = v) (kk : Wx E G cells slots (pc + 1) lv (.int (zI v) :: stk) μ) : Wx E G cells slots pc lv (.int (zI y) :: .int (zI x) :: stk) μ := x_irem C hd (zI_ne0 hy hne) (by rw [zI_rem hx h0 hy, hv]) kk
theorem z_iinc (C : Cx E G z cc own ws rm n9) {i : Nat} {n : Int} {x v : Int} {lv' : List (Nat × Value)} (hd : decode cc pc = .ok (.iinc i n, 3)) (j : Nat) (hj : lv[j]? = some (i, .int (zI x))) (hx : x + n = v) (hn : i < n9) (hv : (i, Value.int (zI v)) :: lv.filter (fun q => !(q.1 == i) && !(q.1 + 1 == i && q.2.category == 2)) = lv') (kk : Wx E G cells slots (pc + 3) lv' stk μ) : Wx E G cells slots pc lv stk μ := x_iinc C hd j hj (by rw [← hx, ← zI_add]; rfl) hn hv kk
theorem z_ldc (C : Cx E G z cc own ws rm n9) {index : Nat} {v : Int} {w : Int32} (hd : decode cc pc = .ok (.ldc index, 2)) (hw : Cond.constant own index w ∈ ws) (hv : w = zI v) (kk : Wx E G cells slots (pc + 2) lv (.int (zI v) :: stk) μ) : Wx E G cells slots pc lv stk μ := x_ldc C hd hw (by rw [hv]; exact kk)
theorem z_ldcw (C : Cx E G z cc own ws rm n9) {index : Nat} {v : Int} {w : Int32} (hd : decode cc pc = .ok (.ldc_w index, 3)) (hw : Cond.constant own index w ∈ ws) (hv : w = zI v) (kk : Wx E G cells slots (pc + 3) lv (.int (zI v) :: stk) μ) : Wx E G cells slots pc lv stk μ := x_ldcw C hd hw (by rw [hv]; exact kk)
theorem z_icmp_eq (C : Cx E G z cc own ws rm n9) {x y : Int} {off : Int} {tgt : Nat} (hd : decode cc pc = .ok (.if_icmp .eq off, 3)) (ht : (pc : Int) + off = (tgt : Int)) (hx : rg x) (hy : rg y) (kt : x = y → Wx E G cells slots tgt lv stk μ) (kf : ¬ x = y → Wx E G cells slots (pc + 3) lv stk μ) : Wx E G cells slots pc lv (.int (zI y) :: .int (zI x) :: stk) μ := x_icmp_eq C hd ht (fun q => kt ((zI_eq hx hy).mp q)) (fun q => kf (fun w => q ((zI_eq hx hy).mpr w)))
theorem z_if_eq (C : Cx E G z cc own ws rm n9) {x : Int} {off : Int} {tgt : Nat} (hd : decode cc pc = .ok (.ifCond .eq off, 3)) (ht : (pc : Int) + off = (tgt : Int)) (hx : rg x) (kt : x = 0 → Wx E G cells slots tgt lv stk μ) (kf : ¬ x = 0 → Wx E G cells slots (pc + 3) lv stk μ) : Wx E G cells slots pc lv (.int (zI x) :: stk) μ := x_if_eq C hd ht (fun q => kt ((zI_eq0 hx).mp q)) (fun q => kf (fun w => q ((zI_eq0 hx).mpr w)))
theorem z_icmp_ne (C : Cx E G z cc own ws rm n9) {x y : Int} {off : Int} {tgt : Nat} (hd : decode cc pc = .ok (.if_icmp .ne off, 3)) (ht : (pc : Int) + off = (tgt : Int)) (hx : rg x) (hy : rg y) (kt : ¬ x = y → Wx E G cells slots tgt lv stk μ) (kf : x = y → Wx E G cells slots (pc + 3) lv stk μ) : Wx E G cells slots pc lv (.int (zI y) :: .int (zI x) :: stk) μ := x_icmp_ne C hd ht (fun q => kt (fun w => q ((zI_eq hx hy).mpr w))) (fun q => kf ((zI_eq hx hy).mp q))
theorem z_if_ne (C : Cx E G z cc own ws rm n9) {x : Int} {off : Int} {tgt : Nat} (hd : decode cc pc = .ok (.ifCond .ne off, 3)) (ht : (pc : Int) + off = (tgt : Int)) (hx : rg x) (kt : ¬ x = 0 → Wx E G cells slots tgt lv stk μ) (kf : x = 0 → Wx E G cells slots (pc + 3) lv stk μ) : Wx E G cells slots pc lv (.int (zI x) :: stk) μ := x_if_ne C hd ht (fun q => kt (fun w => q ((zI_eq0 hx).mpr w))) (fun q => kf ((zI_eq0 hx).mp q))
theorem z_icmp_lt (C : Cx E G z cc own ws rm n9) {x y : Int} {off : Int} {tgt : Nat} (hd : decode cc pc = .ok (.if_icmp .lt off, 3)) (ht : (pc : Int) + off = (tgt : Int)) (hx : rg x) (hy : rg y) (kt : x < y → Wx E G cells slots tgt lv stk μ) (kf : ¬ x < y → Wx E G cells slots (pc + 3) lv stk μ) : Wx E G cells slots pc lv (.int (zI y) :: .int (zI x) :: stk) μ := x_icmp_lt C hd ht (fun q => kt ((zI_lt hx hy).mp q)) (fun q => kf (fun w => q ((zI_lt hx hy).mpr w)))
theorem z_if_lt (C : Cx E G z cc own ws rm n9) {x : Int} {off : Int} {tgt : Nat} (hd : decode cc pc = .ok (.ifCond .lt off, 3)) (ht : (pc : Int) + off = (tgt : Int)) (hx : rg x) (kt : x < 0 → Wx E G cells slots tgt lv stk μ) (kf : ¬ x < 0 → Wx E G cells slots (pc + 3) lv stk μ) : Wx E G cells slots pc lv (.int (zI x) :: stk) μ := x_if_lt C hd ht (fun q => kt ((zI_lt0 hx).mp q)) (fun q => kf (fun w => q ((zI_lt0 hx).mpr w)))
theorem z_icmp_ge (C : Cx E G z cc own ws rm n9) {x y : Int} {off : Int} {tgt : Nat} (hd : decode cc pc = .ok (.if_icmp .ge off, 3)) (ht : (pc : Int) + off = (tgt : Int)) (hx : rg x) (hy : rg y) (kt : y ≤ x → Wx E G cells slots tgt lv stk μ) (kf : ¬ y ≤ x → Wx E G cells slots (pc + 3) lv stk μ) : Wx E G cells slots pc lv (.int (zI y) :: .int (zI x) :: stk) μ := x_icmp_ge C hd ht (fun q => kt ((zI_le hy hx).mp q)) (fun q => kf (fun w => q ((zI_le hy hx).mpr w)))
theorem z_if_ge (C : Cx E G z cc own ws rm n9) {x : Int} {off : Int} {tgt : Nat} (hd : decode cc pc = .ok (.ifCond .ge off, 3)) (ht : (pc : Int) + off = (tgt : Int)) (hx : rg x) (kt : 0 ≤ x → Wx E G cells slots tgt lv stk μ) (kf : ¬ 0 ≤ x → Wx E G cells slots (pc + 3) lv stk μ) : Wx E G cells slots pc lv (.int (zI x) :: stk) μ := x_if_ge C hd ht (fun q => kt ((zI_ge0 hx).mp q)) (fun q => kf (fun w => q ((zI_ge0 hx).mpr w)))
theorem z_icmp_gt (C : Cx E G z cc own ws rm n9) {x y : Int} {off : Int} {tgt : Nat} (hd : decode cc pc = .ok (.if_icmp .gt off, 3)) (ht : (pc : Int) + off = (tgt : Int)) (hx : rg x) (hy : rg y) (kt : y < x → Wx E G cells slots tgt lv stk μ) (kf : ¬ y < x → Wx E G cells slots (pc + 3) lv stk μ) : Wx E G cells slots pc lv (.int (zI y) :: .int (zI x) :: stk) μ := x_icmp_gt C hd ht (fun q => kt ((zI_lt hy hx).mp q)) (fun q => kf (fun w => q ((zI_lt hy hx).mpr w)))
theorem z_if_gt (C : Cx E G z cc own ws rm n9) {x : Int} {off : Int} {tgt : Nat} (hd : decode cc pc = .ok (.ifCond .gt off, 3)) (ht : (pc : Int) + off = (tgt : Int)) (hx : rg x) (kt : 0 < x → Wx E G cells slots tgt lv stk μ) (kf : ¬ 0 < x → Wx E G cells slots (pc + 3) lv stk μ) : Wx E G cells slots pc lv (.int (zI x) :: stk) μ := x_if_gt C hd ht (fun q => kt ((zI_gt0 hx).mp q)) (fun q => kf (fun w => q ((zI_gt0 hx).mpr w)))
theorem z_icmp_le (C : Cx E G z cc own ws rm n9) {x y : Int} {off : Int} {tgt : Nat} (hd : decode cc pc = .ok (.if_icmp .le off, 3)) (ht : (pc : Int) + off = (tgt : Int)) (hx : rg x) (hy : rg y) (kt : x ≤ y → Wx E G cells slots tgt lv stk μ) (kf : ¬ x ≤ y → Wx E G cells slots (pc + 3) lv stk μ) : Wx E G cells slots pc lv (.int (zI y) :: .int (zI x) :: stk) μ := x_icmp_le C hd ht (fun q => kt ((zI_le hx hy).mp q)) (fun q => kf (fun w => q ((zI_le hx hy).mpr w)))
theorem z_if_le (C : Cx E G z cc own ws rm n9) {x : Int} {off : Int} {tgt : Nat} (hd : decode cc pc = .ok (.ifCond .le off, 3)) (ht : (pc : Int) + off = (tgt : Int)) (hx : rg x) (kt : x ≤ 0 → Wx E G cells slots tgt lv stk μ) (kf : ¬ x ≤ 0 → Wx E G cells slots (pc + 3) lv stk μ) : Wx E G cells slots pc lv (.int (zI x) :: stk) μ := x_if_le C hd ht (fun q => kt ((zI_le0 hx).mp q)) (fun q => kf (fun w => q ((zI_le0 hx).mpr w)))
theorem z_iald (C : Cx E G z cc own ws rm n9) {a r n j : Nat} {g : Nat → Int} {i : Int} (hd : decode cc pc = .ok (.iaload, 1)) (ha : AI G μ a r n g) (hi : i = (j : Int)) (hj : j < n) (hn : n < 2147483648) (kk : Wx E G cells slots (pc + 1) lv (.int (zI (g j)) :: stk) μ) : Wx E G cells slots pc lv (.int (zI i) :: .ref a :: stk) μ := by
  obtain ⟨f, h1, h2⟩ := ha
  exact x_iald C hd h1 (ix_z hi hj hn) (h2 j hj) kk
theorem z_zald (C : Cx E G z cc own ws rm n9) {a r n j : Nat} {g : Nat → Int} {i : Int} (hd : decode cc pc = .ok (.baload, 1)) (ha : AZ G μ a r n g) (hi : i = (j : Int)) (hj : j < n) (hn : n < 2147483648) (kk : Wx E G cells slots (pc + 1) lv (.int (zI (g j)) :: stk) μ) : Wx E G cells slots pc lv (.int (zI i) :: .ref a :: stk) μ := by
  obtain ⟨f, h1, h2⟩ := ha
  exact x_zald C hd h1 (ix_z hi hj hn) (h2 j hj) kk
theorem z_iast (C : Cx E G z cc own ws rm n9) {a r n j : Nat} {g : Nat → Int} {i v : Int} (hd : decode cc pc = .ok (.iastore, 1)) (ha : AI G μ a r n g) (hi : i = (j : Int)) (hj : j < n) (hn : n < 2147483648) (kk : ∀ μ', AI G μ' a r n (wr g j v) → Fr r (r + 1) μ μ' → Wx E G cells slots (pc + 1) lv stk μ') : Wx E G cells slots pc lv (.int (zI v) :: .int (zI i) :: .ref a :: stk) μ := by
  obtain ⟨f, h1, h2⟩ := ha
  refine x_iast C hd h1 (ix_z hi hj hn) rfl (kk _ ⟨_, mU_at, fun k hk => ?_⟩ (mU_fr h1))
  by_cases q : k = j
  · subst q; rw [wr_at]; simp [upd]
  · rw [wr_ne q, ← h2 k hk]; simp [upd, q]
theorem z_zast (C : Cx E G z cc own ws rm n9) {a r n j : Nat} {g : Nat → Int} {i v : Int} (hd : decode cc pc = .ok (.bastore, 1)) (ha : AZ G μ a r n g) (hi : i = (j : Int)) (hj : j < n) (hn : n < 2147483648) (hb : v = 0 ∨ v = 1) (kk : ∀ μ', AZ G μ' a r n (wr g j v) → Fr r (r + 1) μ μ' → Wx E G cells slots (pc + 1) lv stk μ') : Wx E G cells slots pc lv (.int (zI v) :: .int (zI i) :: .ref a :: stk) μ := by
  obtain ⟨f, h1, h2⟩ := ha
  refine x_zast C hd h1 (ix_z hi hj hn) (vnar_z hb) rfl (kk _ ⟨_, mU_at, fun k hk => ?_⟩ (mU_fr h1))
  by_cases q : k = j
  · subst q; rw [wr_at]; simp [upd]
  · rw [wr_ne q, ← h2 k hk]; simp [upd, q]
theorem z_put (C : Cx E G z cc own ws rm n9) {a r ci index N : Nat} {fs fs' : List Value} {Cn ref : String} {T : u_T} {v : Value} {ty : FieldType} (hd : decode cc pc = .ok (.putfield index, 3)) (hin : ∀ w ∈ u_ws Cn T N, w ∈ ws) (hc : vwCl[ci]? = some (Cn, T, N)) (ty0 : Nat → FieldType) (hty : ∀ k, k < N → parseFieldDescriptor (T k).2.2.1 = some (ty0 k)) (hnm : ∀ a, a < N → ∀ b, b < N → a ≠ b → (T a).2.1 ≠ (T b).2.1) (ha : OB μ a r ci fs) (k : Nat) (hk : k < N) (hw : Cond.fieldLink own index ref (T k).2.1 (T k).2.2.1 ∈ ws) (hs : (T k).1 = ref) (hfin : (T k).2.2.2 = false) (hty1 : ty0 k = ty) (hn : narrow ty v = v) (hfit : fits ty v = true) (hl9 : k < fs.length) (hfs : fs.set k v = fs') (kk : ∀ μ', OB μ' a r ci fs' → Fr r (r + 1) μ μ' → Wx E G cells slots (pc + 3) lv stk μ') : Wx E G cells slots pc lv (v :: .ref a :: stk) μ :=
  x_put C hd hin hc ty0 hty hnm ha k hk hw hs hfin hty1 hn hfit hl9 hfs (kk _ mU_at (mU_fr ha))
theorem z_putU (C : Cx E G z cc own ws rm n9) {a r ci index N : Nat} {fs fs' : List Value} {Cn ref : String} {T : u_T} {v : Value} {ty : FieldType} (hd : decode cc pc = .ok (.putfield index, 3)) (hin : ∀ w ∈ u_ws Cn T N, w ∈ ws) (hc : vwCl[ci]? = some (Cn, T, N)) (ty0 : Nat → FieldType) (hty : ∀ k, k < N → parseFieldDescriptor (T k).2.2.1 = some (ty0 k)) (hnm : ∀ a, a < N → ∀ b, b < N → a ≠ b → (T a).2.1 ≠ (T b).2.1) (ha : OB μ a r ci fs) (k : Nat) (hk : k < N) (hw : Cond.fieldLink own index ref (T k).2.1 (T k).2.2.1 ∈ ws) (hs : Cond.sameField ref (T k).1 (T k).2.1 (T k).2.2.1 ∈ ws) (hfin : (T k).2.2.2 = false) (hty1 : ty0 k = ty) (hn : narrow ty v = v) (hfit : fits ty v = true) (hl9 : k < fs.length) (hfs : fs.set k v = fs') (kk : ∀ μ', OB μ' a r ci fs' → Fr r (r + 1) μ μ' → Wx E G cells slots (pc + 3) lv stk μ') : Wx E G cells slots pc lv (v :: .ref a :: stk) μ :=
  x_putU C hd hin hc ty0 hty hnm ha k hk hw hs hfin hty1 hn hfit hl9 hfs (kk _ mU_at (mU_fr ha))
theorem z_putF (C : Cx E G z cc own ws rm n9) {a r ci index N : Nat} {fs fs' : List Value} {Cn ref : String} {T : u_T} {v : Value} {ty : FieldType} (hd : decode cc pc = .ok (.putfield index, 3)) (hI : (kxT E).name = "<init>") (hin : ∀ w ∈ u_ws Cn T N, w ∈ ws) (hc : vwCl[ci]? = some (Cn, T, N)) (ty0 : Nat → FieldType) (hty : ∀ k, k < N → parseFieldDescriptor (T k).2.2.1 = some (ty0 k)) (hnm : ∀ a, a < N → ∀ b, b < N → a ≠ b → (T a).2.1 ≠ (T b).2.1) (ha : OB μ a r ci fs) (k : Nat) (hk : k < N) (hw : Cond.fieldLink own index ref (T k).2.1 (T k).2.2.1 ∈ ws) (hs : (T k).1 = ref) (hfin : (T k).2.2.2 = true) (hdc : (T k).1 = own) (hty1 : ty0 k = ty) (hn : narrow ty v = v) (hfit : fits ty v = true) (hl9 : k < fs.length) (hfs : fs.set k v = fs') (kk : ∀ μ', OB μ' a r ci fs' → Fr r (r + 1) μ μ' → Wx E G cells slots (pc + 3) lv stk μ') : Wx E G cells slots pc lv (v :: .ref a :: stk) μ :=
  x_putF C hd hI hin hc ty0 hty hnm ha k hk hw hs hfin hdc hty1 hn hfit hl9 hfs (kk _ mU_at (mU_fr ha))
theorem z_newI (C : Cx E G z cc own ws rm n9) {N9 cc9 ss9 : Nat} {n : Int} (rl : Nat) (hd : decode cc pc = .ok (.newarray .int, 2)) (w1 : Cond.arrayClass .int ∈ ws) (hn : n = (N9 : Int)) (hb9 : N9 ≤ 4096) (h1 : cells + 1 = cc9) (h2 : slots + N9 = ss9) (h3 : cc9 ≤ rm.cells) (h4 : ss9 ≤ rm.slots) (kk : ∀ q μ', μ q = none → AI G μ' q rl N9 (fun _ => 0) → (∀ lo hi, Fr lo hi μ μ') → Wx E G cc9 ss9 (pc + 2) lv (.ref q :: stk) μ') : Wx E G cells slots pc lv (.int (zI n) :: stk) μ :=
  x_newI C rl hd w1 (by subst hn; rw [zI_nI]; exact nI_pos (by omega)) (by subst hn; rw [zI_nI]; exact nI_clamp (by omega)) hb9 h1 h2 h3 h4 (fun q hq => kk q _ hq ⟨_, mU_at, fun _ _ => rfl⟩ (fun lo hi => mU_frn hq))
theorem z_newZ (C : Cx E G z cc own ws rm n9) {N9 cc9 ss9 : Nat} {n : Int} (rl : Nat) (hd : decode cc pc = .ok (.newarray .boolean, 2)) (w1 : Cond.arrayClass .boolean ∈ ws) (hn : n = (N9 : Int)) (hb9 : N9 ≤ 4096) (h1 : cells + 1 = cc9) (h2 : slots + N9 = ss9) (h3 : cc9 ≤ rm.cells) (h4 : ss9 ≤ rm.slots) (kk : ∀ q μ', μ q = none → AZ G μ' q rl N9 (fun _ => 0) → (∀ lo hi, Fr lo hi μ μ') → Wx E G cc9 ss9 (pc + 2) lv (.ref q :: stk) μ') : Wx E G cells slots pc lv (.int (zI n) :: stk) μ :=
  x_newZ C rl hd w1 (by subst hn; rw [zI_nI]; exact nI_pos (by omega)) (by subst hn; rw [zI_nI]; exact nI_clamp (by omega)) hb9 h1 h2 h3 h4 (fun q hq => kk q _ hq ⟨_, mU_at, fun _ _ => rfl⟩ (fun lo hi => mU_frn hq))
theorem z_new (C : Cx E G z cc own ws rm n9) {ci index N cc9 ss9 : Nat} {fs : List Value} {Cn : String} {T : u_T} (rl : Nat) (hd : decode cc pc = .ok (.new index, 3)) (hin : ∀ w ∈ u_ws Cn T N, w ∈ ws) (hc : vwCl[ci]? = some (Cn, T, N)) (ty0 : Nat → FieldType) (hty : ∀ k, k < N → parseFieldDescriptor (T k).2.2.1 = some (ty0 k)) (w1 : Cond.classLink own index Cn ∈ ws) (w2 : Cond.instantiable Cn N ∈ ws) (w3 : Cond.initialized Cn ∈ ws) (hfs : ∀ j, j < N → defaultValue (ty0 j) = vp_V fs j) (h1 : cells + 1 = cc9) (h2 : slots + N = ss9) (h3 : cc9 ≤ rm.cells) (h4 : ss9 ≤ rm.slots) (kk : ∀ q μ', μ q = none → OB μ' q rl ci fs → (∀ lo hi, Fr lo hi μ μ') → Wx E G cc9 ss9 (pc + 3) lv (.ref q :: stk) μ') : Wx E G cells slots pc lv stk μ :=
  x_new C rl hd hin hc ty0 hty w1 w2 w3 hfs h1 h2 h3 h4 (fun q hq => kk q _ hq mU_at (fun lo hi => mU_frn hq))
theorem z_alenI (C : Cx E G z cc own ws rm n9) {a r n : Nat} {g : Nat → Int} {v : Int} (hd : decode cc pc = .ok (.arraylength, 1)) (ha : AI G μ a r n g) (hv : (n : Int) = v) (kk : Wx E G cells slots (pc + 1) lv (.int (zI v) :: stk) μ) : Wx E G cells slots pc lv (.ref a :: stk) μ := by
  obtain ⟨f, h1, -⟩ := ha
  subst hv
  rw [zI_nI] at kk
  exact x_alen C hd h1 (Or.inl ⟨f, rfl⟩) kk
theorem z_alenZ (C : Cx E G z cc own ws rm n9) {a r n : Nat} {g : Nat → Int} {v : Int} (hd : decode cc pc = .ok (.arraylength, 1)) (ha : AZ G μ a r n g) (hv : (n : Int) = v) (kk : Wx E G cells slots (pc + 1) lv (.int (zI v) :: stk) μ) : Wx E G cells slots pc lv (.ref a :: stk) μ := by
  obtain ⟨f, h1, -⟩ := ha
  subst hv
  rw [zI_nI] at kk
  exact x_alen C hd h1 (Or.inr (Or.inl ⟨f, rfl⟩)) kk
theorem z_alenO (C : Cx E G z cc own ws rm n9) {a r n : Nat} {f : Nat → Option Nat} {v : Int} (hd : decode cc pc = .ok (.arraylength, 1)) (ha : μ a = some (r, eO G n f)) (hv : (n : Int) = v) (kk : Wx E G cells slots (pc + 1) lv (.int (zI v) :: stk) μ) : Wx E G cells slots pc lv (.ref a :: stk) μ := by
  subst hv
  rw [zI_nI] at kk
  exact x_alen C hd ha (Or.inr (Or.inr (Or.inl ⟨f, rfl⟩))) kk
theorem z_i2c (C : Cx E G z cc own ws rm n9) {x : Int} (hd : decode cc pc = .ok (.i2c, 1)) (hx : 0 ≤ x ∧ x < 65536) (kk : Wx E G cells slots (pc + 1) lv (.int (zI x) :: stk) μ) : Wx E G cells slots pc lv (.int (zI x) :: stk) μ := by
  refine x_i2c C hd ?_ kk
  obtain ⟨k, rfl⟩ : ∃ k : Nat, x = (k : Int) := ⟨x.toNat, by omega⟩
  rw [zI_nI, pk_char, pk_tn (by omega), Nat.mod_eq_of_lt (by omega)]
theorem z_tabIn (C : Cx E G z cc own ws rm n9) {dflt lo hi : Int} {offs : Array Int} {len : Nat} {x off : Int} {tgt : Nat} (hd : decode cc pc = .ok (.tableswitch dflt lo hi offs, len)) (hx : rg x) (h1 : lo ≤ x) (h2 : x ≤ hi) (ho : offs[(x - lo).toNat]? = some off) (ht : (pc : Int) + off = (tgt : Int)) (kk : Wx E G cells slots tgt lv stk μ) : Wx E G cells slots pc lv (.int (zI x) :: stk) μ := x_tabIn C hd (by rw [zI_to hx]; omega) (by rw [zI_to hx]; omega) (by rw [zI_to hx]; exact ho) ht kk
theorem z_tabOut (C : Cx E G z cc own ws rm n9) {dflt lo hi : Int} {offs : Array Int} {len : Nat} {x : Int} {tgt : Nat} (hd : decode cc pc = .ok (.tableswitch dflt lo hi offs, len)) (hx : rg x) (h : x < lo ∨ hi < x) (ht : (pc : Int) + dflt = (tgt : Int)) (kk : Wx E G cells slots tgt lv stk μ) : Wx E G cells slots pc lv (.int (zI x) :: stk) μ := x_tabOut C hd (by rw [zI_to hx]; exact h) ht kk
/-- Math.abs, max, min -/
theorem z_abs (C : Cx E G z cc own ws rm n9) {index : Nat} {x v : Int} (hd : decode cc pc = .ok (.invokestatic index, 3)) (w1 : Cond.methodLink own index Lib.Math.abs.name ∈ ws) (w2 : Cond.static Lib.Math.abs.name ∈ ws) (w3 : Cond.initialized "java/lang/Math" ∈ ws) (w4 : Cond.code Lib.Math.abs.name Lib.Math.abs.code 1 (some .int) ∈ ws) (hf : 1 ≤ rm.frames) (hlo : (stk.map fun v => v.category).sum + 13 ≤ rm.locals) (hx : rg x) (hv : (if x < 0 then -x else x) = v) (h3 : cells ≤ rm.cells) (h4 : slots ≤ rm.slots) (kk : Wx E G cells slots (pc + 3) lv (.int (zI v) :: stk) μ) : Wx E G cells slots pc lv (.int (zI x) :: stk) μ := fun H locs ls hM hS hl => by
  refine va_mabs C.hx C.hb hl.1.symm C.hown (C.hts _ w1) (C.hts _ w2) (C.hts _ w3) (C.hts _ w4) (by rw [C.hR]; exact hf) (by rw [C.hR]; omega) (by rw [C.hR]; exact h3) (by rw [C.hR]; exact h4) hd ?_
  have e : (if 0 ≤ zI x then zI x else 0 - zI x) = zI v := by
    subst hv
    by_cases q : 0 ≤ x
    · rw [if_pos ((zI_ge0 hx).mpr q), if_neg (by omega)]
    · rw [if_neg (fun w => q ((zI_ge0 hx).mp w)), if_pos (by omega), ← zI_0, zI_sub]
      congr 1
      omega
  rw [e]
  exact kk H locs ls hM hS hl
theorem z_min (C : Cx E G z cc own ws rm n9) {index : Nat} {x y v : Int} (hd : decode cc pc = .ok (.invokestatic index, 3)) (w1 : Cond.methodLink own index Lib.Math.min.name ∈ ws) (w2 : Cond.static Lib.Math.min.name ∈ ws) (w3 : Cond.initialized "java/lang/Math" ∈ ws) (w4 : Cond.code Lib.Math.min.name Lib.Math.min.code 2 (some .int) ∈ ws) (hf : 1 ≤ rm.frames) (hlo : (stk.map fun v => v.category).sum + 13 ≤ rm.locals) (hx : rg x) (hy : rg y) (hv : (if x ≤ y then x else y) = v) (h3 : cells ≤ rm.cells) (h4 : slots ≤ rm.slots) (kk : Wx E G cells slots (pc + 3) lv (.int (zI v) :: stk) μ) : Wx E G cells slots pc lv (.int (zI y) :: .int (zI x) :: stk) μ := fun H locs ls hM hS hl => by
  refine va_mmin C.hx C.hb hl.1.symm C.hown (C.hts _ w1) (C.hts _ w2) (C.hts _ w3) (C.hts _ w4) (by rw [C.hR]; exact hf) (by rw [C.hR]; omega) (by rw [C.hR]; exact h3) (by rw [C.hR]; exact h4) hd ?_
  have e : (if zI y < zI x then zI y else zI x) = zI v := by
    subst hv
    by_cases q : y < x
    · rw [if_pos ((zI_lt hy hx).mpr q), if_neg (by omega)]
    · rw [if_neg (fun w => q ((zI_lt hy hx).mp w)), if_pos (by omega)]
  rw [e]
  exact kk H locs ls hM hS hl
theorem z_max (C : Cx E G z cc own ws rm n9) {index : Nat} {x y v : Int} (hd : decode cc pc = .ok (.invokestatic index, 3)) (w1 : Cond.methodLink own index Lib.Math.max.name ∈ ws) (w2 : Cond.static Lib.Math.max.name ∈ ws) (w3 : Cond.initialized "java/lang/Math" ∈ ws) (w4 : Cond.code Lib.Math.max.name Lib.Math.max.code 2 (some .int) ∈ ws) (hf : 1 ≤ rm.frames) (hlo : (stk.map fun v => v.category).sum + 13 ≤ rm.locals) (hx : rg x) (hy : rg y) (hv : (if x < y then y else x) = v) (h3 : cells ≤ rm.cells) (h4 : slots ≤ rm.slots) (kk : Wx E G cells slots (pc + 3) lv (.int (zI v) :: stk) μ) : Wx E G cells slots pc lv (.int (zI y) :: .int (zI x) :: stk) μ := fun H locs ls hM hS hl => by
  refine va_mmax C.hx C.hb hl.1.symm C.hown (C.hts _ w1) (C.hts _ w2) (C.hts _ w3) (C.hts _ w4) (by rw [C.hR]; exact hf) (by rw [C.hR]; omega) (by rw [C.hR]; exact h3) (by rw [C.hR]; exact h4) hd ?_
  have e : (if zI x < zI y then zI y else zI x) = zI v := by
    subst hv
    by_cases q : x < y
    · rw [if_pos ((zI_lt hx hy).mpr q), if_pos q]
    · rw [if_neg (fun w => q ((zI_lt hx hy).mp w)), if_neg q]
  rw [e]
  exact kk H locs ls hM hS hl
end ZR
/-! results -/
def rP (μ : Mm) (P : Int → Prop) : Option Value → Mm → Prop := fun v μ' => ∃ r : Int, v = some (.int (zI r)) ∧ P r ∧ μ' = μ
def rS (P : Int → Mm → Prop) : Option Value → Mm → Prop := fun v μ' => ∃ r : Int, v = some (.int (zI r)) ∧ P r μ'
def rV (P : Mm → Prop) : Option Value → Mm → Prop := fun v μ' => v = none ∧ P μ'
def rA (P : Nat → Mm → Prop) : Option Value → Mm → Prop := fun v μ' => ∃ a : Nat, v = some (.ref a) ∧ P a μ'
def rL (P : Int64 → Mm → Prop) : Option Value → Mm → Prop := fun v μ' => ∃ x : Int64, v = some (.long x) ∧ P x μ'
def nX : String → Prop := fun _ => False
theorem nX_no {E : EE} {G : GG} {a b c : Nat} {lv : List (Nat × Value)} {stk : List Value} {μ : Mm} : ∀ En, nX En → Xx E G a b c lv stk En μ := fun _ h => h.elim
