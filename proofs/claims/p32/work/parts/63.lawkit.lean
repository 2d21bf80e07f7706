/-! THE LAW'S KIT: methods with handlers, the law's long[], its script -/
section LK
variable {E : EE} {G : GG} {z n9 : Nat} {cc : ByteArray} {own : String} {ws : List Cond} {rm : Room} {cells slots pc : Nat} {lv : List (Nat × Value)} {stk : List Value} {μ : Mm}
/-- caught by the row x of this method's table -/
theorem x_catch (C : Cx E G z cc own ws rm n9) {En name : String} (pre : List ExceptionTableEntry) (x : ExceptionTableEntry) (suf : List ExceptionTableEntry) (hT : (kxC E).exceptionTable.toList = pre ++ x :: suf) (hpass : ∀ y ∈ pre, covers y pc = false ∨ (y.catchType ≠ 0 ∧ ∃ nm : String, Cond.classLink own y.catchType nm ∈ ws ∧ (En, nm) ∈ NCs)) (hx : covers x pc = true) (h0 : x.catchType ≠ 0) (hlink : Cond.classLink own x.catchType name ∈ ws) (hcast : Cond.castable En name ∈ NWs) {rest : List Value}
    (kk : ∀ q : Nat, Wx E G cells slots x.handlerPc lv [.ref q] μ) : Xx E G cells slots pc lv rest En μ := fun H locs ls ce q hM hS hl hce hcv hcl =>
  vx_catch C.hown pre x suf hT (fun y hy => (hpass y hy).imp id (fun h => ⟨h.1, h.2.imp fun nm h2 => ⟨C.hts _ h2.1, C.hN.2.1 _ h2.2⟩⟩)) hx h0 (C.hts _ hlink) (nwk_use (List.all_eq_true.mp NWs_k _ hcast) (C.hN.1 _ hcast)) hce hcv hcl (kk q H locs ls hM hS hl)
section LC
variable {y : MethodName} {bytes : ByteArray} {maxL n index : Nat} {ret : Option FieldType} {wy wy' : List Cond} {ry : Room} {post : Option Value → Mm → Prop} {px : String → Prop} {As rest : List Value}
theorem x_callSX (C : Cx E G z cc own ws rm n9) {cc9 ss9 : Nat} {hh : List (Nat × Nat × Nat × Nat)} (hd : decode cc pc = .ok (.invokestatic index, 3)) (hM0 : Ct (kxL E) y wy ry G z As μ post px) (hG : GoodIn ws (va_wsS own index y wy)) (hwy : wy = Cond.codeWith y bytes maxL ret hh :: wy') (hy : y.cls ≠ "java/lang/invoke/MethodHandle" ∧ y.cls ≠ "java/lang/invoke/VarHandle" ∧ (parseMethodDescriptor y.desc).map (fun d => d.parameters.length) = some n) (hroom : ry.frames + 1 ≤ rm.frames ∧ 8 + (maxL + 11) + ry.locals ≤ rm.locals) (hn : As.length = n) (hstk : stk = As.reverse ++ rest) (h8 : (rest.map fun v => v.category).sum ≤ 8) (h1 : cells + ry.cells = cc9) (h2 : slots + ry.slots = ss9) (hf : cc9 ≤ rm.cells ∧ ss9 ≤ rm.slots) (kx : ∀ En, px En → Xx E G cc9 ss9 pc lv rest En μ) (kk : ∀ (v : Option Value) (μ' : Mm), post v μ' → Wx E G cc9 ss9 (pc + 3) lv (v.toList ++ rest) μ') : Wx E G cells slots pc lv stk μ := fun H locs ls hM hS hl => by
  subst h1; subst h2; subst hstk
  exact x_after C hM hS hl (vx_runSX (hh := hh) (x_fix C) (hM0 H.size) (by rw [C.hR]; exact vx_cwSW n C.hts hG hwy rfl rfl hy hroom) ⟨Wd_blind, fun U hU hW => ⟨rfl, x_pre C hM hS U hU hW⟩⟩ rfl hn (hl.1.trans C.ml) rfl (lv_room h8) hd (by rw [C.hR]; exact hf)) kx kk
end LC
def OJ (G : GG) (μ : Mm) (o : Nat) (v : Int64) : Prop := ∃ f : Nat → Int64, μ o = some (4000, eJ G 1 f) ∧ f 0 = v
def OJx (G : GG) (μ : Mm) (o : Nat) : Prop := ∃ v, OJ G μ o v
theorem OJ.x {G : GG} {μ : Mm} {o : Nat} {v : Int64} (h : OJ G μ o v) : OJx G μ o := ⟨v, h⟩
theorem Fr.oj {lo hi : Nat} {μ μ' : Mm} (hF : Fr lo hi μ μ') {G : GG} {o : Nat} {v : Int64} (h : OJ G μ o v) (hr : 4000 < lo ∨ hi ≤ 4000 := by omega) : OJ G μ' o v := by
  obtain ⟨f, h1, h2⟩ := h
  exact ⟨f, hF.at h1 hr, h2⟩
theorem Fr.ojx {lo hi : Nat} {μ μ' : Mm} (hF : Fr lo hi μ μ') {G : GG} {o : Nat} (h : OJx G μ o) (hr : 4000 < lo ∨ hi ≤ 4000 := by omega) : OJx G μ' o := h.imp fun _ h => hF.oj h hr
theorem z_last (C : Cx E G z cc own ws rm n9) {o : Nat} {x : Int64} (hd : decode cc pc = .ok (.lastore, 1)) (ho : OJx G μ o) (kk : ∀ μ', OJ G μ' o x → Fr 4000 4001 μ μ' → Wx E G cells slots (pc + 1) lv stk μ') : Wx E G cells slots pc lv (.long x :: .int (zI 0) :: .ref o :: stk) μ := by
  obtain ⟨v, f, h1, h2⟩ := ho
  exact x_last C hd h1 (ix_z (j := 0) rfl (by decide) (by decide)) rfl (kk _ ⟨_, mU_at, by simp [vp_updL]⟩ (mU_fr h1))
theorem z_lald (C : Cx E G z cc own ws rm n9) {o : Nat} {v : Int64} (hd : decode cc pc = .ok (.laload, 1)) (ho : OJ G μ o v) (kk : Wx E G cells slots (pc + 1) lv (.long v :: stk) μ) : Wx E G cells slots pc lv (.int (zI 0) :: .ref o :: stk) μ := by
  obtain ⟨f, h1, h2⟩ := ho
  exact x_lald C hd h1 (ix_z (j := 0) rfl (by decide) (by decide)) h2 kk
/-- the script -/
def Sc (E : EE) (b L : Nat) (xs : Nat → Int32) : Prop := va_X b L xs (kxS E) (kxS E).heap ∧ b < (kxS E).heap.size ∧ ¬ kxD E b ∧ L ≤ 2560
theorem z_sld (C : Cx E G z cc own ws rm n9) {b L : Nat} {xs : Nat → Int32} (hX : Sc E b L xs) {i : Int} (j : Nat) (hd : decode cc pc = .ok (.iaload, 1)) (hi : i = (j : Int)) (hj : j < L) (kk : Wx E G cells slots (pc + 1) lv (.int (zI (xs j).toInt) :: stk) μ) : Wx E G cells slots pc lv (.int (zI i) :: .ref b :: stk) μ := fun H locs ls hM hS hl => by
  obtain ⟨h1, h2, h3, h4⟩ := hX
  have h := ix_z (a := i) (n := L) hi hj (by omega)
  refine va_sld C.hx C.hb h1 h2 h3 hS h.1 hd ?_
  rw [h.2, ← zI_of (xs j)]
  exact kk H locs ls hM hS hl
theorem z_slen (C : Cx E G z cc own ws rm n9) {b L : Nat} {xs : Nat → Int32} (hX : Sc E b L xs) (hd : decode cc pc = .ok (.arraylength, 1)) (kk : Wx E G cells slots (pc + 1) lv (.int (zI (L : Int)) :: stk) μ) : Wx E G cells slots pc lv (.ref b :: stk) μ := fun H locs ls hM hS hl => by
  obtain ⟨h1, h2, h3, h4⟩ := hX
  refine va_slen C.hx C.hb h1 h2 h3 hS hd ?_
  rw [show Int32.ofNat L = zI (L : Int) from (zI_nI L).symm]
  exact kk H locs ls hM hS hl
theorem z_i2l (C : Cx E G z cc own ws rm n9) {x : Int} (hd : decode cc pc = .ok (.i2l, 1)) (kk : Wx E G cells slots (pc + 1) lv (.long (zI x).toInt64 :: stk) μ) : Wx E G cells slots pc lv (.int (zI x) :: stk) μ := x_i2l C hd rfl kk
theorem z_lsame (C : Cx E G z cc own ws rm n9) {x y : Int64} (hd : decode cc pc = .ok (.lcmp, 1)) (h : x = y) (kk : Wx E G cells slots (pc + 1) lv (.int (zI 0) :: stk) μ) : Wx E G cells slots pc lv (.long y :: .long x :: stk) μ := x_lcmp C hd ((lg_cmp_eq _ _).mpr h) kk
end LK
/-- a contract out of the walk of a body with handlers -/
theorem ct_ofH {l : Launch} {y : MethodName} {ws ws' : List Cond} {rm : Room} {G : GG} {z : Nat} {vs : List Value} {μ : Mm} {post : Option Value → Mm → Prop} {px : String → Prop} {cc : ByteArray} {maxL : Nat} {ret : Option FieldType} {own : String} {hh : List (Nat × Nat × Nat × Nat)} (hy : plainName y.cls = true) (hw : ws = Cond.codeWith y cc maxL ret hh :: ws') (hown : y.cls = own) (hst : l.stackTraces = false) (hlen : (lg_sl vs).length ≤ maxL)
    (body : ∀ E : EE, kxL E = l → (kxT E).name = y.name → Cx E G z cc own ws rm maxL → Rr E G ret rm.cells rm.slots μ post px → (kxC E).exceptionTable.toList = tableOf hh → Wx E G 0 0 0 (lv_args 0 vs) [] μ) : Ct l y ws rm G z vs μ post px := by
  intro sz
  refine vx_ofWH hy hw ?_
  intro p e s m args below meth c s₁ B hml hv
  have hT : c.exceptionTable.toList = tableOf hh := vx_table (x := y) B (atoms_spec (ws := ws) B.pre _ (by rw [hw]; exact List.mem_cons_self))
  obtain ⟨rfl, hsz, hM, hK, hZ, hN⟩ := hv
  subst hsz
  subst hml
  have hM1 : Hm G (Ax μ s.heap.size) μ s.heap := hM.weak (fun q hq _ => Or.inl hq)
  have hown' : s.vm.findClass own = some m.cls := by rw [← hown]; exact findClass_of_methodNamed B.named
  have h0 := body ((p, l, e, (headSpec ws rm).room, s, m, vs.toArray, below, meth, c), Ax μ s.heap.size, vx_MQ below (cQ G μ s.heap.size post) (xQ G μ s.heap.size px) vs.toArray s rm.cells rm.slots (Ax μ s.heap.size)) rfl (name_of_methodNamed B.named B.method).1
    ⟨B.exec, B.bytes, hown', atoms_spec (ws := ws) B.pre, B.notSynchronized, hK, fun q hq => Or.inr hq, rfl, hZ, hN, hst, rfl⟩ ⟨B.returns, rfl, rfl⟩ hT
  rw [lg_entry_eq]
  have hl := lv_entry vs hlen
  exact h0 s.heap [] _ hM1 va_S.rf hl
theorem RepC.ob {G : GG} {z : Nat} {μ : Mm} {a : Nat} {σ : SS} {n : Nat} (h : RepC G z μ a σ n) : ∃ r fs, μ a = some (r, .inr (9, fs)) := by
  obtain ⟨ld, wy, sp, sl, wl, wp, ch, dr, nS, nW, nD, nL, nV, nC, xs, ys, so, sc, En, S, T, h1, h2⟩ := h
  exact ⟨_, _, h2.1⟩
theorem RepM.ob {G : GG} {μ : Mm} {m : Nat} {σ : SS} {t : Int} (h : RepM G μ m σ t) : ∃ r fs, μ m = some (r, .inr (10, fs)) := by
  obtain ⟨fo, cm, Ci, Su, A, h⟩ := h
  exact h.ob
theorem Fr.repm {lo hi : Nat} {μ μ' : Mm} (hF : Fr lo hi μ μ') {G : GG} {m : Nat} {σ : SS} {t : Int} (h : RepM G μ m σ t) (hr : hi ≤ 3000 ∨ 3030 ≤ lo := by omega) : RepM G μ' m σ t := by
  obtain ⟨fo, cm, Ci, Su, A, h1, h2, h3, h4⟩ := h
  exact ⟨fo, cm, Ci, Su, A, hF.ob h1, hF.ma h2, hF.ai h3, hF.ai h4⟩
theorem Fr.repc {lo hi : Nat} {μ μ' : Mm} (hF : Fr lo hi μ μ') {G : GG} {z a : Nat} {σ : SS} {n : Nat} (h : RepC G z μ a σ n) (hr : 2999 ≤ lo := by omega) : RepC G z μ' a σ n := by
  obtain ⟨ld, wy, sp, sl, wl, wp, ch, dr, nS, nW, nD, nL, nV, nC, xs, ys, so, sc, En, S, T, h1, hO, hL, hY, hSp, hSl, hWl, hWp, hCh, hDr, hSt, hWk, hN, hIc⟩ := h
  obtain ⟨n7, n12, n6, n11, n18, n7r, n12r, n18r⟩ := hN
  exact ⟨ld, wy, sp, sl, wl, wp, ch, dr, nS, nW, nD, nL, nV, nC, xs, ys, so, sc, En, S, T, h1, hF.ob hO, hF.land hL, hF.ways hY, hF.text hSp, hF.list hSl, hF.list hWl, hF.ai hWp, hF.chron hCh, hF.hints hDr, hF.stf hSt, hF.wkf hWk, ⟨n7, n12, n6, n11, n18, n7r, n12r, n18r⟩, hIc⟩
def bJ (b : Int) : Int64 := if b = 0 then 0 else 1
theorem bJ0 {b : Int} (h : b = 0) : bJ b = 0 := if_pos h
theorem bJ1 {b : Int} (h : ¬ b = 0) : bJ b = 1 := if_neg h
theorem b_walkerAt_rg {σ : SS} {n : Nat} (hI : Iv σ n) {c r : Int} (h : b_walkerAt σ c r) : -1 ≤ r ∧ r ≤ 6 := by
  have h12 := hI.n12
  rcases h with ⟨w, h1, h2, -⟩ | ⟨-, h⟩ <;> omega
