/-! FLAT MEMORY: every cell that the law's objects own stands in one partial function from addresses to (role, contents); a role is a ghost number, cells of different roles have different addresses. Ct: a method's contract over it; Wx: the walk. -/
abbrev KK : Type := Program × Launch × Env × Room × State × MethodId × Array Value × List Frame × Method × Code
abbrev GG : Type := va_G × ClassId × ClassId × ClassId × ClassId
abbrev EE : Type := KK × (Nat → Prop) × (State → Prop)
abbrev Mm : Type := Nat → Option (Nat × va_E)
abbrev kxP (E : EE) : Program := E.1.1
abbrev kxL (E : EE) : Launch := E.1.2.1
abbrev kxE (E : EE) : Env := E.1.2.2.1
abbrev kxR (E : EE) : Room := E.1.2.2.2.1
abbrev kxS (E : EE) : State := E.1.2.2.2.2.1
abbrev kxM (E : EE) : MethodId := E.1.2.2.2.2.2.1
abbrev kxA (E : EE) : Array Value := E.1.2.2.2.2.2.2.1
abbrev kxB (E : EE) : List Frame := E.1.2.2.2.2.2.2.2.1
abbrev kxT (E : EE) : Method := E.1.2.2.2.2.2.2.2.2.1
abbrev kxC (E : EE) : Code := E.1.2.2.2.2.2.2.2.2.2
abbrev kxD (E : EE) : Nat → Prop := E.2.1
abbrev kxQ (E : EE) : State → Prop := E.2.2
def tysG (G : GG) : List (ClassId × FieldType) := [(G.2.1, .int), (G.2.2.1, .boolean), (G.2.2.2.1, .object "java/lang/Object"), (G.2.2.2.2, .long)]
abbrev eI (G : GG) (n : Nat) (f : Nat → Int32) : va_E := .inl (G.2.1, n, .inl f)
abbrev eZ (G : GG) (n : Nat) (f : Nat → Int32) : va_E := .inl (G.2.2.1, n, .inl f)
abbrev eO (G : GG) (n : Nat) (f : Nat → Option Nat) : va_E := .inl (G.2.2.2.1, n, .inr (.inr (.inr (.inr f))))
abbrev eJ (G : GG) (n : Nat) (f : Nat → Int64) : va_E := .inl (G.2.2.2.2, n, .inr (.inl f))
abbrev oB (ci : Nat) (fs : List Value) : va_E := .inr (ci, fs)
def mU (μ : Mm) (a r : Nat) (e : va_E) : Mm := fun b => if b = a then some (r, e) else μ b
theorem mU_at {μ : Mm} {a r : Nat} {e : va_E} : mU μ a r e a = some (r, e) := by simp [mU]
theorem mU_ne {μ : Mm} {a b r : Nat} {e : va_E} (h : b ≠ a) : mU μ a r e b = μ b := by simp [mU, h]
theorem mU_role {μ : Mm} {a b r r2 : Nat} {e0 e e2 : va_E} (ha : μ a = some (r, e0)) (hb : μ b = some (r2, e2)) (h : r2 ≠ r) : mU μ a r e b = some (r2, e2) := by
  rw [mU_ne (fun q => h (by subst q; rw [ha] at hb; cases hb; rfl))]; exact hb
theorem mU_new {μ : Mm} {a b r r2 : Nat} {e e2 : va_E} (ha : μ a = none) (hb : μ b = some (r2, e2)) : mU μ a r e b = some (r2, e2) := by
  rw [mU_ne (fun q => by subst q; rw [ha] at hb; cases hb)]; exact hb
theorem mm_ne {μ : Mm} {a b r r2 : Nat} {e e2 : va_E} (ha : μ a = some (r, e)) (hb : μ b = some (r2, e2)) (h : r ≠ r2) : a ≠ b := fun q => h (by subst q; rw [ha] at hb; cases hb; rfl)
def Hm (G : GG) (A : Nat → Prop) (μ : Mm) (H : Heap) : Prop :=
  ∃ (L : List Nat) (f : Nat → va_E), (∀ a r e, μ a = some (r, e) → a ∈ L ∧ f a = e) ∧ (∀ a, a ∈ L → μ a ≠ none) ∧ va_P G.1 vwCl (va_pl L f) H ∧ va_D A (va_pl L f)
theorem Hm.get {G : GG} {A : Nat → Prop} {μ : Mm} {H : Heap} (h : Hm G A μ H) {a r : Nat} {e : va_E} (ha : μ a = some (r, e)) : ∃ (ws : va_W) (k : Nat), va_P G.1 vwCl ws H ∧ va_D A ws ∧ ws[k]? = some (a, e) ∧ ∀ (e' : va_E) (H' : Heap), va_P G.1 vwCl (ws.set k (a, e')) H' → va_D A (ws.set k (a, e')) → Hm G A (mU μ a r e') H' := by
  obtain ⟨L, f, h1, h2, h3, h4⟩ := h
  obtain ⟨hL, hf⟩ := h1 a r e ha
  have h4' : va_D A ([] ++ va_pl L f) := h4
  obtain ⟨k, hk⟩ := va_pl_get (X := []) (f := f) hL
  refine ⟨va_pl L f, k, h3, h4, by rw [← hf]; exact hk, fun e' H' p1 p2 => ?_⟩
  have hs : (va_pl L f).set k (a, e') = va_pl L (va_up f a e') := by
    have := va_pl_set (X := []) (e := e') h4' hL hk
    simpa using this
  rw [hs] at p1 p2
  refine ⟨L, va_up f a e', fun b r2 e2 hb => ?_, fun b hb => ?_, p1, p2⟩
  · by_cases q : b = a
    · subst q
      rw [mU_at] at hb
      cases hb
      exact ⟨hL, va_up_self _ _ _⟩
    · rw [mU_ne q] at hb
      obtain ⟨g1, g2⟩ := h1 b r2 e2 hb
      exact ⟨g1, by rw [va_up_ne _ _ q]; exact g2⟩
  · by_cases q : b = a
    · subst q
      rw [mU_at]
      exact fun z => by cases z
    · rw [mU_ne q]
      exact h2 b hb
theorem Hm.push {G : GG} {A : Nat → Prop} {μ : Mm} {H : Heap} (h : Hm G A μ H) : ∃ ws : va_W, va_P G.1 vwCl ws H ∧ va_D A ws ∧ ∀ (q r : Nat) (e' : va_E) (H' : Heap), va_P G.1 vwCl (ws ++ [(q, e')]) H' → va_D A (ws ++ [(q, e')]) → μ q = none ∧ Hm G A (mU μ q r e') H' := by
  obtain ⟨L, f, h1, h2, h3, h4⟩ := h
  refine ⟨va_pl L f, h3, h4, fun q r e' H' p1 p2 => ?_⟩
  have hq : q ∉ L := va_pl_fresh2 (X := []) (f := f) (q := q) (e := e') (A := A) p2
  have hn : μ q = none := by
    cases hm : μ q with
    | none => rfl
    | some x => exact absurd (h1 q x.1 x.2 hm).1 hq
  rw [va_pl_push hq] at p1 p2
  refine ⟨hn, L ++ [q], va_up f q e', fun b r2 e2 hb => ?_, fun b hb => ?_, p1, p2⟩
  · by_cases z : b = q
    · subst z
      rw [mU_at] at hb
      cases hb
      exact ⟨List.mem_append_right _ List.mem_cons_self, va_up_self _ _ _⟩
    · rw [mU_ne z] at hb
      obtain ⟨g1, g2⟩ := h1 b r2 e2 hb
      exact ⟨List.mem_append_left _ g1, by rw [va_up_ne _ _ z]; exact g2⟩
  · by_cases z : b = q
    · subst z
      rw [mU_at]
      exact fun y => by cases y
    · rw [mU_ne z]
      rcases List.mem_append.mp hb with g | g
      · exact h2 b g
      · rw [List.mem_singleton] at g; exact absurd g z
def Ax (μ : Mm) (sz : Nat) : Nat → Prop := fun q => μ q ≠ none ∨ sz ≤ q
theorem Hm.inA {G : GG} {A : Nat → Prop} {μ : Mm} {H : Heap} (h : Hm G A μ H) {q : Nat} (hq : μ q ≠ none) : A q := by
  obtain ⟨L, f, h1, h2, h3, h4⟩ := h
  cases hm : μ q with
  | none => exact absurd hm hq
  | some x =>
    obtain ⟨k, hk⟩ := va_pl_get (X := []) (f := f) (h1 q x.1 x.2 hm).1
    exact h4.2 k _ hk
theorem Hm.weak {G : GG} {A B : Nat → Prop} {μ : Mm} {H : Heap} (h : Hm G A μ H) (hAB : ∀ q, μ q ≠ none → A q → B q) : Hm G B μ H := by
  obtain ⟨L, f, h1, h2, h3, h4⟩ := h
  refine ⟨L, f, h1, h2, h3, h4.weaken fun k q hk hA => hAB q.1 (h2 q.1 ?_) hA⟩
  have := List.mem_of_getElem? hk
  obtain ⟨a, ha, rfl⟩ := List.mem_map.mp this
  exact ha
/-- the statics that constructors of lists and exceptions read -/
def Zs (z : Nat) (A : Nat → Prop) (U : State) (H : Heap) : Prop :=
  va_Z "java/util/ArrayList" "DEFAULTCAPACITY_EMPTY_ELEMENTDATA" "[Ljava/lang/Object;" (.ref z) A U H ∧ va_T (.object "java/lang/Object") z 0 (fun _ => .null) A U H ∧ vx_Zq Bundle.tN "UNASSIGNED_STACK" Bundle.steD A U H ∧ vx_Zq Bundle.tN "SUPPRESSED_SENTINEL" Bundle.listD A U H
theorem Zs.moved {z : Nat} {A : Nat → Prop} {u U : State} {H : Heap} (hvm : u.vm.Alike U.vm) (h : Zs z A u H) : Zs z A U H := ⟨va_Z.moved hvm h.1, va_T.moved hvm h.2.1, vx_Zq.moved hvm h.2.2.1, vx_Zq.moved hvm h.2.2.2⟩
theorem Zs.kept {z : Nat} {A : Nat → Prop} {U : State} {H H1 : Heap} (h : Zs z A U H) (hq : ∀ a : Nat, a < H.size → ¬ A a → H1[a]? = H[a]?) : Zs z A U H1 := ⟨va_Z.kept h.1 hq, va_T.kept h.2.1 hq, vx_Zq.kept h.2.2.1 hq, vx_Zq.kept h.2.2.2 hq⟩
theorem Zs.narrow {z : Nat} {A B : Nat → Prop} {U : State} {H : Heap} (h : Zs z A U H) (hAB : ∀ q, B q → A q) : Zs z B U H := ⟨va_Z.narrow h.1 hAB, va_T.narrow h.2.1 hAB, vx_Zq.narrow h.2.2.1 hAB, vx_Zq.narrow h.2.2.2 hAB⟩
/-- words of the tables that aren't carried by a method's own list -/
def nwk : Cond → Bool
  | .methodLinkNest _ _ _ _ => true
  | .castable _ _ => true
  | .declares _ => true
  | _ => false
def NWs : List Cond := [
  .methodLinkNest RX8 11 yX3_init "CairnCipher", .methodLinkNest RX8 18 yX7_init "CairnCipher", .methodLinkNest RX8 25 yX5_init "CairnCipher", .methodLinkNest RX8 46 yX0_init "CairnCipher", .methodLinkNest RX8 53 yX2_init "CairnCipher",
  .methodLinkNest RX0 26 yX8_pointsFor "CairnCipher", .methodLinkNest RX2 53 yX8_onlyPlaceIn "CairnCipher", .methodLinkNest RX5 23 yX8_charsOf "CairnCipher", .methodLinkNest RX6 49 yX8_pointsFor "CairnCipher",
  .castable RX1 "java/lang/Object", .castable RX4 "java/lang/Object", .castable RX6 "java/lang/Object",
  .castable "java/lang/IndexOutOfBoundsException" "java/lang/IndexOutOfBoundsException", .castable "java/lang/IllegalArgumentException" "java/lang/IllegalArgumentException", .castable "java/lang/IllegalStateException" "java/lang/IllegalStateException", .castable "java/util/NoSuchElementException" "java/util/NoSuchElementException",
  .declares ⟨"java/lang/RuntimeException", "<init>", "()V"⟩, .declares ⟨"java/lang/Exception", "<init>", "()V"⟩, .declares ⟨"java/lang/Throwable", "<init>", "()V"⟩]
theorem NWs_k : NWs.all nwk = true := by decide +kernel
def NCs : List (String × String) := [("java/lang/IllegalArgumentException", "java/lang/IndexOutOfBoundsException"), ("java/lang/IllegalStateException", "java/lang/IndexOutOfBoundsException"), ("java/lang/IllegalStateException", "java/lang/IllegalArgumentException"), ("java/lang/IndexOutOfBoundsException", "java/util/NoSuchElementException"), ("java/lang/IllegalArgumentException", "java/util/NoSuchElementException"), ("java/lang/IllegalStateException", "java/util/NoSuchElementException")]
def Nws (U : State) : Prop := (∀ w ∈ NWs, va_Nw w U) ∧ (∀ q ∈ NCs, va_Nc q.1 q.2 U) ∧ va_AO "java/lang/Object" U
theorem nwk_warm {w : Cond} (h : nwk w = true) {s U : State} (hW : s.WarmedH U.vm) (hZ : va_Nw w s) : va_Nw w U := by
  cases w <;> first | (exact va_Nw.warmM hW hZ) | (exact va_Nw.warmC hW hZ) | (exact va_Nw.warmD hW hZ) | (cases h)
theorem nwk_same {w : Cond} (h : nwk w = true) {s U : State} (hv : s.vm = U.vm) (hZ : va_Nw w s) : va_Nw w U := by
  cases w <;> first | (exact va_Nw.same rfl hv hZ) | (cases h)
theorem Nws.warm {s U : State} (hW : s.WarmedH U.vm) (h : Nws s) : Nws U := ⟨fun w hw => nwk_warm (List.all_eq_true.mp NWs_k w hw) hW (h.1 w hw), fun q hq => va_Nc.moved hW.alike (h.2.1 q hq), va_AO.moved hW.alike h.2.2⟩
theorem Nws.same {s U : State} (hv : s.vm = U.vm) (h : Nws s) : Nws U := ⟨fun w hw => nwk_same (List.all_eq_true.mp NWs_k w hw) hv (h.1 w hw), fun q hq => va_Nc.moved (by rw [hv]; exact Vm.Alike.refl _) (h.2.1 q hq), va_AO.moved (by rw [hv]; exact Vm.Alike.refl _) h.2.2⟩
theorem nwk_use {w : Cond} (h : nwk w = true) {A : Array Value} {U : State} (hZ : va_Nw w U) : w.before A U = true := by
  cases w <;> first | (exact va_Nw.use rfl hZ) | (cases h)
theorem Hm.grow {G : GG} {A : Nat → Prop} {μ : Mm} {H H1 : Heap} (h : Hm G A μ H) (hk : ∀ q : Nat, q < H.size → H1[q]? = H[q]?) : Hm G A μ H1 := by
  obtain ⟨L, f, h1, h2, h3, h4⟩ := h
  exact ⟨L, f, h1, h2, fun k q hq => (h3 k q hq).kept (hk q.1 (h3 k q hq).lt), h4⟩
/-- a method's start -/
def Wd (G : GG) (z : Nat) (μ : Mm) (sz : Nat) (U : State) : Prop := U.heap.size = sz ∧ Hm G (fun _ => True) μ U.heap ∧ va_K G.1 vwCl (tysG G) U ∧ Zs z (Ax μ sz) U U.heap ∧ Nws U
def cQ (G : GG) (μ : Mm) (sz : Nat) (post : Option Value → Mm → Prop) : Array Value → State → Outcome → State → Prop := fun _ st oc t => (∃ (v : Option Value) (μ' : Mm), oc = .returned v ∧ post v μ' ∧ Hm G (Ax μ sz) μ' t.heap) ∧ va_F (Ax μ sz) st t
def xQ (G : GG) (μ : Mm) (sz : Nat) (px : String → Prop) : String → State → State → Prop := fun En st t => (px En ∧ Hm G (Ax μ sz) μ t.heap) ∧ va_F (Ax μ sz) st t
def Ct (l : Launch) (y : MethodName) (ws : List Cond) (rm : Room) (G : GG) (z : Nat) (vs : List Value) (μ : Mm) (post : Option Value → Mm → Prop) (px : String → Prop) : Prop :=
  ∀ sz : Nat, vx_Met l y ws rm (va_Pc vs (Wd G z μ sz)) (cQ G μ sz post) (xQ G μ sz px) rm.cells rm.slots (Ax μ sz)
theorem Wd_blind {G : GG} {z : Nat} {μ : Mm} {sz : Nat} {vs : List Value} : FrameBlind (va_Pc vs (Wd G z μ sz)) := by
  intro a U g mk h
  obtain ⟨h0, h1, h2, h3, h4, h5⟩ := h
  exact ⟨h0, h1, h2, va_K.moved (u := U) (U := U.calling g mk a) (Vm.Alike.refl U.vm) h3, Zs.moved (u := U) (U := U.calling g mk a) (Vm.Alike.refl U.vm) h4, Nws.same (s := U) (U := U.calling g mk a) rfl h5⟩
def Wx (E : EE) (G : GG) (cells slots pc : Nat) (lv : List (Nat × Value)) (stk : List Value) (μ : Mm) : Prop :=
  ∀ (H : Heap) (locs : List Loc) (ls : Array Slot), Hm G (kxD E) μ H → va_S (kxD E) (kxS E).heap H locs → lv_has ls (kxC E).maxLocals lv → W (kxP E) (kxL E) (kxE E) (kxR E) (kxS E) (kxM E) (kxA E) (kxB E) (kxT E) (kxC E) H locs cells slots (kxQ E) (F0 (kxM E) pc ls stk)
def Cx (E : EE) (G : GG) (z : Nat) (cc : ByteArray) (own : String) (ws : List Cond) (rm : Room) (n : Nat) : Prop :=
  (kxP E).tables.exec = Jvm.exec ∧ (kxC E).code = cc ∧ (kxS E).vm.findClass own = some (kxM E).cls ∧ (∀ w ∈ ws, w.before (kxA E) (kxS E) = true) ∧ (kxT E).locks = false ∧ va_K G.1 vwCl (tysG G) (kxS E) ∧ (∀ q, (kxS E).heap.size ≤ q → kxD E q) ∧ kxR E = rm ∧ Zs z (kxD E) (kxS E) (kxS E).heap ∧ Nws (kxS E) ∧ (kxL E).stackTraces = false ∧ (kxC E).maxLocals = n
def Rr (E : EE) (G : GG) (ret : Option FieldType) (mc ms : Nat) (μ0 : Mm) (post : Option Value → Mm → Prop) (px : String → Prop) : Prop :=
  (kxT E).sig.returnType = ret ∧ kxD E = Ax μ0 (kxS E).heap.size ∧ kxQ E = vx_MQ (kxB E) (cQ G μ0 (kxS E).heap.size post) (xQ G μ0 (kxS E).heap.size px) (kxA E) (kxS E) mc ms (Ax μ0 (kxS E).heap.size)
theorem Cx.hx {E : EE} {G : GG} {z n : Nat} {cc : ByteArray} {own : String} {ws : List Cond} {rm : Room} (C : Cx E G z cc own ws rm n) : (kxP E).tables.exec = Jvm.exec := C.1
theorem Cx.hb {E : EE} {G : GG} {z n : Nat} {cc : ByteArray} {own : String} {ws : List Cond} {rm : Room} (C : Cx E G z cc own ws rm n) : (kxC E).code = cc := C.2.1
theorem Cx.hown {E : EE} {G : GG} {z n : Nat} {cc : ByteArray} {own : String} {ws : List Cond} {rm : Room} (C : Cx E G z cc own ws rm n) : (kxS E).vm.findClass own = some (kxM E).cls := C.2.2.1
theorem Cx.hts {E : EE} {G : GG} {z n : Nat} {cc : ByteArray} {own : String} {ws : List Cond} {rm : Room} (C : Cx E G z cc own ws rm n) : ∀ w ∈ ws, w.before (kxA E) (kxS E) = true := C.2.2.2.1
theorem Cx.hlk {E : EE} {G : GG} {z n : Nat} {cc : ByteArray} {own : String} {ws : List Cond} {rm : Room} (C : Cx E G z cc own ws rm n) : (kxT E).locks = false := C.2.2.2.2.1
theorem Cx.hK {E : EE} {G : GG} {z n : Nat} {cc : ByteArray} {own : String} {ws : List Cond} {rm : Room} (C : Cx E G z cc own ws rm n) : va_K G.1 vwCl (tysG G) (kxS E) := C.2.2.2.2.2.1
theorem Cx.hA {E : EE} {G : GG} {z n : Nat} {cc : ByteArray} {own : String} {ws : List Cond} {rm : Room} (C : Cx E G z cc own ws rm n) : ∀ q, (kxS E).heap.size ≤ q → kxD E q := C.2.2.2.2.2.2.1
theorem Cx.hR {E : EE} {G : GG} {z n : Nat} {cc : ByteArray} {own : String} {ws : List Cond} {rm : Room} (C : Cx E G z cc own ws rm n) : kxR E = rm := C.2.2.2.2.2.2.2.1
theorem Cx.hZ {E : EE} {G : GG} {z n : Nat} {cc : ByteArray} {own : String} {ws : List Cond} {rm : Room} (C : Cx E G z cc own ws rm n) : Zs z (kxD E) (kxS E) (kxS E).heap := C.2.2.2.2.2.2.2.2.1
theorem Cx.hN {E : EE} {G : GG} {z n : Nat} {cc : ByteArray} {own : String} {ws : List Cond} {rm : Room} (C : Cx E G z cc own ws rm n) : Nws (kxS E) := C.2.2.2.2.2.2.2.2.2.1
theorem Cx.st {E : EE} {G : GG} {z n : Nat} {cc : ByteArray} {own : String} {ws : List Cond} {rm : Room} (C : Cx E G z cc own ws rm n) : (kxL E).stackTraces = false := C.2.2.2.2.2.2.2.2.2.2.1
theorem Cx.ml {E : EE} {G : GG} {z n : Nat} {cc : ByteArray} {own : String} {ws : List Cond} {rm : Room} (C : Cx E G z cc own ws rm n) : (kxC E).maxLocals = n := C.2.2.2.2.2.2.2.2.2.2.2

section XR
variable {E : EE} {G : GG} {z n9 : Nat} {cc : ByteArray} {own : String} {ws : List Cond} {rm : Room} {cells slots pc : Nat} {lv : List (Nat × Value)} {stk : List Value} {μ : Mm}
theorem x_sub {lv' : List (Nat × Value)} (ks : List Nat) (hl : lv_pick lv ks = lv') (k : Wx E G cells slots pc lv' stk μ) : Wx E G cells slots pc lv stk μ := fun H locs ls hM hS h => k H locs ls hM hS (lv_sub h ks hl)
theorem x_eq {stk' : List Value} {lv' : List (Nat × Value)} (h : lv = lv') (h2 : stk = stk') (k : Wx E G cells slots pc lv' stk' μ) : Wx E G cells slots pc lv stk μ := by rw [h, h2]; exact k
theorem x_stk {stk' : List Value} (h2 : stk = stk') (k : Wx E G cells slots pc lv stk' μ) : Wx E G cells slots pc lv stk μ := by rw [h2]; exact k
theorem x_top {x y : Int32} (h : x = y) (k : Wx E G cells slots pc lv (.int y :: stk) μ) : Wx E G cells slots pc lv (.int x :: stk) μ := by rw [h]; exact k
theorem x_wid {a b : Nat} (h1 : cells ≤ a) (h2 : slots ≤ b) (k : Wx E G a b pc lv stk μ) : Wx E G cells slots pc lv stk μ := fun H locs ls hM hS h => W.widen h1 h2 (k H locs ls hM hS h)

theorem x_iconst (C : Cx E G z cc own ws rm n9) {n : Int} {v : Int32} (hd : decode cc pc = .ok (.iconst n, 1)) (hv : Int32.ofInt n = v) (kk : Wx E G cells slots (pc + 1) lv (.int v :: stk) μ) : Wx E G cells slots pc lv stk μ := fun H locs ls hM hS hl => lv_iconst C.hx C.hb hd hv (kk H locs ls hM hS hl)
theorem x_bipush (C : Cx E G z cc own ws rm n9) {n : Int} {v : Int32} (hd : decode cc pc = .ok (.bipush n, 2)) (hv : (Int8.ofInt n).toInt32 = v) (kk : Wx E G cells slots (pc + 2) lv (.int v :: stk) μ) : Wx E G cells slots pc lv stk μ := fun H locs ls hM hS hl => lv_bipush C.hx C.hb hd hv (kk H locs ls hM hS hl)
theorem x_sipush (C : Cx E G z cc own ws rm n9) {n : Int} {v : Int32} (hd : decode cc pc = .ok (.sipush n, 3)) (hv : (Int16.ofInt n).toInt32 = v) (kk : Wx E G cells slots (pc + 3) lv (.int v :: stk) μ) : Wx E G cells slots pc lv stk μ := fun H locs ls hM hS hl => lv_sipush C.hx C.hb hd hv (kk H locs ls hM hS hl)
theorem x_lconst (C : Cx E G z cc own ws rm n9) {n : Fin 2} {v : Int64} (hd : decode cc pc = .ok (.lconst n, 1)) (hv : Int64.ofNat (n : Nat) = v) (kk : Wx E G cells slots (pc + 1) lv (.long v :: stk) μ) : Wx E G cells slots pc lv stk μ := fun H locs ls hM hS hl => lv_lconst C.hx C.hb hd hv (kk H locs ls hM hS hl)
theorem x_iload_n (C : Cx E G z cc own ws rm n9) {k : Fin 4} {i : Nat} {x : Int32} (hd : decode cc pc = .ok (.iload_n k, 1)) (hi : (k : Nat) = i) (j : Nat) (hj : lv[j]? = some (i, .int x)) (kk : Wx E G cells slots (pc + 1) lv (.int x :: stk) μ) : Wx E G cells slots pc lv stk μ := fun H locs ls hM hS hl => lv_iload_n C.hx C.hb hd hi (lv_at hl j hj) (kk H locs ls hM hS hl)
theorem x_lload_n (C : Cx E G z cc own ws rm n9) {k : Fin 4} {i : Nat} {x : Int64} (hd : decode cc pc = .ok (.lload_n k, 1)) (hi : (k : Nat) = i) (j : Nat) (hj : lv[j]? = some (i, .long x)) (kk : Wx E G cells slots (pc + 1) lv (.long x :: stk) μ) : Wx E G cells slots pc lv stk μ := fun H locs ls hM hS hl => lv_lload_n C.hx C.hb hd hi (lv_at hl j hj) (kk H locs ls hM hS hl)
theorem x_iload (C : Cx E G z cc own ws rm n9) {i : Nat} {x : Int32} (hd : decode cc pc = .ok (.iload i, 2)) (j : Nat) (hj : lv[j]? = some (i, .int x)) (kk : Wx E G cells slots (pc + 2) lv (.int x :: stk) μ) : Wx E G cells slots pc lv stk μ := fun H locs ls hM hS hl => lv_iload C.hx C.hb hd (lv_at hl j hj) (kk H locs ls hM hS hl)
theorem x_lload (C : Cx E G z cc own ws rm n9) {i : Nat} {x : Int64} (hd : decode cc pc = .ok (.lload i, 2)) (j : Nat) (hj : lv[j]? = some (i, .long x)) (kk : Wx E G cells slots (pc + 2) lv (.long x :: stk) μ) : Wx E G cells slots pc lv stk μ := fun H locs ls hM hS hl => lv_lload C.hx C.hb hd (lv_at hl j hj) (kk H locs ls hM hS hl)
theorem x_aload_n (C : Cx E G z cc own ws rm n9) {k : Fin 4} {i x : Nat} (hd : decode cc pc = .ok (.aload_n k, 1)) (hi : (k : Nat) = i) (j : Nat) (hj : lv[j]? = some (i, .ref x)) (kk : Wx E G cells slots (pc + 1) lv (.ref x :: stk) μ) : Wx E G cells slots pc lv stk μ := fun H locs ls hM hS hl => lv_aload_n C.hx C.hb hd hi (lv_at hl j hj) (kk H locs ls hM hS hl)
theorem x_aload (C : Cx E G z cc own ws rm n9) {i x : Nat} (hd : decode cc pc = .ok (.aload i, 2)) (j : Nat) (hj : lv[j]? = some (i, .ref x)) (kk : Wx E G cells slots (pc + 2) lv (.ref x :: stk) μ) : Wx E G cells slots pc lv stk μ := fun H locs ls hM hS hl => lv_aload C.hx C.hb hd (lv_at hl j hj) (kk H locs ls hM hS hl)
theorem x_istore_n (C : Cx E G z cc own ws rm n9) {k : Fin 4} {i : Nat} {x : Int32} {lv' : List (Nat × Value)} (hd : decode cc pc = .ok (.istore_n k, 1)) (hi : (k : Nat) = i) (hn : i < n9) (hv : (i, Value.int x) :: lv.filter (fun q => !(q.1 == i) && !(q.1 + 1 == i && q.2.category == 2)) = lv') (kk : Wx E G cells slots (pc + 1) lv' stk μ) : Wx E G cells slots pc lv (.int x :: stk) μ := fun H locs ls hM hS hl => lv_istore_n C.hx C.hb hd hi hl (by rw [C.ml]; exact hn) hv (fun ls hl => kk H locs ls hM hS hl)
theorem x_istore (C : Cx E G z cc own ws rm n9) {i : Nat} {x : Int32} {lv' : List (Nat × Value)} (hd : decode cc pc = .ok (.istore i, 2)) (hn : i < n9) (hv : (i, Value.int x) :: lv.filter (fun q => !(q.1 == i) && !(q.1 + 1 == i && q.2.category == 2)) = lv') (kk : Wx E G cells slots (pc + 2) lv' stk μ) : Wx E G cells slots pc lv (.int x :: stk) μ := fun H locs ls hM hS hl => lv_istore C.hx C.hb hd hl (by rw [C.ml]; exact hn) hv (fun ls hl => kk H locs ls hM hS hl)
theorem x_astore_n (C : Cx E G z cc own ws rm n9) {k : Fin 4} {i : Nat} {x : Nat} {lv' : List (Nat × Value)} (hd : decode cc pc = .ok (.astore_n k, 1)) (hi : (k : Nat) = i) (hn : i < n9) (hv : (i, Value.ref x) :: lv.filter (fun q => !(q.1 == i) && !(q.1 + 1 == i && q.2.category == 2)) = lv') (kk : Wx E G cells slots (pc + 1) lv' stk μ) : Wx E G cells slots pc lv (.ref x :: stk) μ := fun H locs ls hM hS hl => lv_astore_n C.hx C.hb hd hi hl (by rw [C.ml]; exact hn) hv (fun ls hl => kk H locs ls hM hS hl)
theorem x_astore (C : Cx E G z cc own ws rm n9) {i : Nat} {x : Nat} {lv' : List (Nat × Value)} (hd : decode cc pc = .ok (.astore i, 2)) (hn : i < n9) (hv : (i, Value.ref x) :: lv.filter (fun q => !(q.1 == i) && !(q.1 + 1 == i && q.2.category == 2)) = lv') (kk : Wx E G cells slots (pc + 2) lv' stk μ) : Wx E G cells slots pc lv (.ref x :: stk) μ := fun H locs ls hM hS hl => lv_astore C.hx C.hb hd hl (by rw [C.ml]; exact hn) hv (fun ls hl => kk H locs ls hM hS hl)
theorem x_lstore_n (C : Cx E G z cc own ws rm n9) {k : Fin 4} {i : Nat} {x : Int64} {lv' : List (Nat × Value)} (hd : decode cc pc = .ok (.lstore_n k, 1)) (hi : (k : Nat) = i) (hn : i + 1 < n9) (hv : (i, Value.long x) :: lv.filter (fun q => !(q.1 == i) && (!(q.1 == i + 1) && !(q.1 + 1 == i && q.2.category == 2))) = lv') (kk : Wx E G cells slots (pc + 1) lv' stk μ) : Wx E G cells slots pc lv (.long x :: stk) μ := fun H locs ls hM hS hl => lv_lstore_n C.hx C.hb hd hi hl (by rw [C.ml]; exact hn) hv (fun ls hl => kk H locs ls hM hS hl)
theorem x_iinc (C : Cx E G z cc own ws rm n9) {i : Nat} {n : Int} {x v : Int32} {lv' : List (Nat × Value)} (hd : decode cc pc = .ok (.iinc i n, 3)) (j : Nat) (hj : lv[j]? = some (i, .int x)) (hx : x + Int32.ofInt n = v) (hn : i < n9) (hv : (i, Value.int v) :: lv.filter (fun q => !(q.1 == i) && !(q.1 + 1 == i && q.2.category == 2)) = lv') (kk : Wx E G cells slots (pc + 3) lv' stk μ) : Wx E G cells slots pc lv stk μ := fun H locs ls hM hS hl => lv_iinc C.hx C.hb hd hl (k := j) hj hx (by rw [C.ml]; exact hn) hv (fun ls hl => kk H locs ls hM hS hl)
theorem x_iadd (C : Cx E G z cc own ws rm n9) {x y v : Int32} (hd : decode cc pc = .ok (.iadd, 1)) (hv : x + y = v) (kk : Wx E G cells slots (pc + 1) lv (.int v :: stk) μ) : Wx E G cells slots pc lv (.int y :: .int x :: stk) μ := fun H locs ls hM hS hl => lv_iadd C.hx C.hb hd (by rw [hv]; exact kk H locs ls hM hS hl)
theorem x_isub (C : Cx E G z cc own ws rm n9) {x y v : Int32} (hd : decode cc pc = .ok (.isub, 1)) (hv : x - y = v) (kk : Wx E G cells slots (pc + 1) lv (.int v :: stk) μ) : Wx E G cells slots pc lv (.int y :: .int x :: stk) μ := fun H locs ls hM hS hl => lv_isub C.hx C.hb hd (by rw [hv]; exact kk H locs ls hM hS hl)
theorem x_imul (C : Cx E G z cc own ws rm n9) {x y v : Int32} (hd : decode cc pc = .ok (.imul, 1)) (hv : x * y = v) (kk : Wx E G cells slots (pc + 1) lv (.int v :: stk) μ) : Wx E G cells slots pc lv (.int y :: .int x :: stk) μ := fun H locs ls hM hS hl => lv_imul C.hx C.hb hd (by rw [hv]; exact kk H locs ls hM hS hl)
theorem x_iand (C : Cx E G z cc own ws rm n9) {x y v : Int32} (hd : decode cc pc = .ok (.iand, 1)) (hv : x &&& y = v) (kk : Wx E G cells slots (pc + 1) lv (.int v :: stk) μ) : Wx E G cells slots pc lv (.int y :: .int x :: stk) μ := fun H locs ls hM hS hl => lv_iand C.hx C.hb hd (by rw [hv]; exact kk H locs ls hM hS hl)
theorem x_ior (C : Cx E G z cc own ws rm n9) {x y v : Int32} (hd : decode cc pc = .ok (.ior, 1)) (hv : x ||| y = v) (kk : Wx E G cells slots (pc + 1) lv (.int v :: stk) μ) : Wx E G cells slots pc lv (.int y :: .int x :: stk) μ := fun H locs ls hM hS hl => lv_ior C.hx C.hb hd (by rw [hv]; exact kk H locs ls hM hS hl)
theorem x_ixor (C : Cx E G z cc own ws rm n9) {x y v : Int32} (hd : decode cc pc = .ok (.ixor, 1)) (hv : x ^^^ y = v) (kk : Wx E G cells slots (pc + 1) lv (.int v :: stk) μ) : Wx E G cells slots pc lv (.int y :: .int x :: stk) μ := fun H locs ls hM hS hl => lv_ixor C.hx C.hb hd (by rw [hv]; exact kk H locs ls hM hS hl)
theorem x_ladd (C : Cx E G z cc own ws rm n9) {x y v : Int64} (hd : decode cc pc = .ok (.ladd, 1)) (hv : x + y = v) (kk : Wx E G cells slots (pc + 1) lv (.long v :: stk) μ) : Wx E G cells slots pc lv (.long y :: .long x :: stk) μ := fun H locs ls hM hS hl => lv_ladd C.hx C.hb hd (by rw [hv]; exact kk H locs ls hM hS hl)
theorem x_lsub (C : Cx E G z cc own ws rm n9) {x y v : Int64} (hd : decode cc pc = .ok (.lsub, 1)) (hv : x - y = v) (kk : Wx E G cells slots (pc + 1) lv (.long v :: stk) μ) : Wx E G cells slots pc lv (.long y :: .long x :: stk) μ := fun H locs ls hM hS hl => lv_lsub C.hx C.hb hd (by rw [hv]; exact kk H locs ls hM hS hl)
theorem x_land (C : Cx E G z cc own ws rm n9) {x y v : Int64} (hd : decode cc pc = .ok (.land, 1)) (hv : x &&& y = v) (kk : Wx E G cells slots (pc + 1) lv (.long v :: stk) μ) : Wx E G cells slots pc lv (.long y :: .long x :: stk) μ := fun H locs ls hM hS hl => lv_land C.hx C.hb hd (by rw [hv]; exact kk H locs ls hM hS hl)
theorem x_lor (C : Cx E G z cc own ws rm n9) {x y v : Int64} (hd : decode cc pc = .ok (.lor, 1)) (hv : x ||| y = v) (kk : Wx E G cells slots (pc + 1) lv (.long v :: stk) μ) : Wx E G cells slots pc lv (.long y :: .long x :: stk) μ := fun H locs ls hM hS hl => lv_lor C.hx C.hb hd (by rw [hv]; exact kk H locs ls hM hS hl)
theorem x_lxor (C : Cx E G z cc own ws rm n9) {x y v : Int64} (hd : decode cc pc = .ok (.lxor, 1)) (hv : x ^^^ y = v) (kk : Wx E G cells slots (pc + 1) lv (.long v :: stk) μ) : Wx E G cells slots pc lv (.long y :: .long x :: stk) μ := fun H locs ls hM hS hl => lv_lxor C.hx C.hb hd (by rw [hv]; exact kk H locs ls hM hS hl)
theorem x_idiv (C : Cx E G z cc own ws rm n9) {x y v : Int32} (hd : decode cc pc = .ok (.idiv, 1)) (hne : ¬ y = 0) (hv : x / y = v) (kk : Wx E G cells slots (pc + 1) lv (.int v :: stk) μ) : Wx E G cells slots pc lv (.int y :: .int x :: stk) μ := fun H locs ls hM hS hl => lv_idiv C.hx C.hb hd hne (by rw [hv]; exact kk H locs ls hM hS hl)
theorem x_irem (C : Cx E G z cc own ws rm n9) {x y v : Int32} (hd : decode cc pc = .ok (.irem, 1)) (hne : ¬ y = 0) (hv : x - x / y * y = v) (kk : Wx E G cells slots (pc + 1) lv (.int v :: stk) μ) : Wx E G cells slots pc lv (.int y :: .int x :: stk) μ := fun H locs ls hM hS hl => lv_irem C.hx C.hb hd hne (by rw [hv]; exact kk H locs ls hM hS hl)
theorem x_ishl (C : Cx E G z cc own ws rm n9) {x y v : Int32} (hd : decode cc pc = .ok (.ishl, 1)) (hv : x <<< (y &&& 31) = v) (kk : Wx E G cells slots (pc + 1) lv (.int v :: stk) μ) : Wx E G cells slots pc lv (.int y :: .int x :: stk) μ := fun H locs ls hM hS hl => lv_ishl C.hx C.hb hd (by rw [hv]; exact kk H locs ls hM hS hl)
theorem x_i2l (C : Cx E G z cc own ws rm n9) {x : Int32} {v : Int64} (hd : decode cc pc = .ok (.i2l, 1)) (hv : x.toInt64 = v) (kk : Wx E G cells slots (pc + 1) lv (.long v :: stk) μ) : Wx E G cells slots pc lv (.int x :: stk) μ := fun H locs ls hM hS hl => lv_i2l C.hx C.hb hd hv (kk H locs ls hM hS hl)
theorem x_l2i (C : Cx E G z cc own ws rm n9) {x : Int64} {v : Int32} (hd : decode cc pc = .ok (.l2i, 1)) (hv : x.toInt32 = v) (kk : Wx E G cells slots (pc + 1) lv (.int v :: stk) μ) : Wx E G cells slots pc lv (.long x :: stk) μ := fun H locs ls hM hS hl => lv_l2i C.hx C.hb hd hv (kk H locs ls hM hS hl)
theorem x_i2c (C : Cx E G z cc own ws rm n9) {x v : Int32} (hd : decode cc pc = .ok (.i2c, 1)) (hv : (x.toUInt32 % 65536).toInt32 = v) (kk : Wx E G cells slots (pc + 1) lv (.int v :: stk) μ) : Wx E G cells slots pc lv (.int x :: stk) μ := fun H locs ls hM hS hl => lv_i2c C.hx C.hb hd hv (kk H locs ls hM hS hl)
theorem x_lushr (C : Cx E G z cc own ws rm n9) {x v : Int64} {y : Int32} (hd : decode cc pc = .ok (.lushr, 1)) (hv : (x.toUInt64 >>> (y.toInt64.toUInt64 &&& Int64.toUInt64 63)).toInt64 = v) (kk : Wx E G cells slots (pc + 1) lv (.long v :: stk) μ) : Wx E G cells slots pc lv (.int y :: .long x :: stk) μ := fun H locs ls hM hS hl => lv_lushr C.hx C.hb hd hv (kk H locs ls hM hS hl)
theorem x_lshl (C : Cx E G z cc own ws rm n9) {x v : Int64} {y : Int32} (hd : decode cc pc = .ok (.lshl, 1)) (hv : x <<< (y.toInt64 &&& 63) = v) (kk : Wx E G cells slots (pc + 1) lv (.long v :: stk) μ) : Wx E G cells slots pc lv (.int y :: .long x :: stk) μ := fun H locs ls hM hS hl => lv_lshl C.hx C.hb hd hv (kk H locs ls hM hS hl)
theorem x_dup (C : Cx E G z cc own ws rm n9) {a : Value} (hd : decode cc pc = .ok (.dup, 1)) (ha : a.category = 1) (kk : Wx E G cells slots (pc + 1) lv (a :: a :: stk) μ) : Wx E G cells slots pc lv (a :: stk) μ := fun H locs ls hM hS hl => lv_dup C.hx C.hb hd ha (kk H locs ls hM hS hl)
theorem x_pop (C : Cx E G z cc own ws rm n9) {a : Value} (hd : decode cc pc = .ok (.pop, 1)) (ha : a.category = 1) (kk : Wx E G cells slots (pc + 1) lv stk μ) : Wx E G cells slots pc lv (a :: stk) μ := fun H locs ls hM hS hl => lv_pop C.hx C.hb hd ha (kk H locs ls hM hS hl)
theorem x_dup_x1 (C : Cx E G z cc own ws rm n9) {a b : Value} (hd : decode cc pc = .ok (.dup_x1, 1)) (ha : a.category = 1) (hb : b.category = 1) (kk : Wx E G cells slots (pc + 1) lv (a :: b :: a :: stk) μ) : Wx E G cells slots pc lv (a :: b :: stk) μ := fun H locs ls hM hS hl => lv_dup_x1 C.hx C.hb hd ha hb (kk H locs ls hM hS hl)
theorem x_dup2 (C : Cx E G z cc own ws rm n9) {a b : Value} (hd : decode cc pc = .ok (.dup2, 1)) (ha : a.category = 1) (hb : b.category = 1) (kk : Wx E G cells slots (pc + 1) lv (a :: b :: a :: b :: stk) μ) : Wx E G cells slots pc lv (a :: b :: stk) μ := fun H locs ls hM hS hl => lv_dup2_11 C.hx C.hb hd ha hb (kk H locs ls hM hS hl)
theorem x_null (C : Cx E G z cc own ws rm n9)  (hd : decode cc pc = .ok (.aconst_null, 1))  (kk : Wx E G cells slots (pc + 1) lv (.null :: stk) μ) : Wx E G cells slots pc lv stk μ := fun H locs ls hM hS hl => lv_null C.hx C.hb hd (kk H locs ls hM hS hl)
theorem x_ldc (C : Cx E G z cc own ws rm n9) {index : Nat} {v : Int32} (hd : decode cc pc = .ok (.ldc index, 2)) (hw : Cond.constant own index v ∈ ws) (kk : Wx E G cells slots (pc + 2) lv (.int v :: stk) μ) : Wx E G cells slots pc lv stk μ := fun H locs ls hM hS hl => lv_ldc C.hx C.hb C.hown (C.hts _ hw) hd (kk H locs ls hM hS hl)
theorem x_ldcw (C : Cx E G z cc own ws rm n9) {index : Nat} {v : Int32} (hd : decode cc pc = .ok (.ldc_w index, 3)) (hw : Cond.constant own index v ∈ ws) (kk : Wx E G cells slots (pc + 3) lv (.int v :: stk) μ) : Wx E G cells slots pc lv stk μ := fun H locs ls hM hS hl => lv_ldcw C.hx C.hb C.hown (C.hts _ hw) hd (kk H locs ls hM hS hl)
theorem x_ldc2 (C : Cx E G z cc own ws rm n9) {index : Nat} {v : Int64} (hd : decode cc pc = .ok (.ldc2_w index, 3)) (hw : Cond.constantLong own index v ∈ ws) (kk : Wx E G cells slots (pc + 3) lv (.long v :: stk) μ) : Wx E G cells slots pc lv stk μ := fun H locs ls hM hS hl => lv_ldc2 C.hx C.hb C.hown (C.hts _ hw) hd (kk H locs ls hM hS hl)
theorem x_if_eq (C : Cx E G z cc own ws rm n9) {x : Int32} {off : Int} {tgt : Nat} (hd : decode cc pc = .ok (.ifCond .eq off, 3)) (ht : (pc : Int) + off = (tgt : Int)) (kt : x = 0 → Wx E G cells slots tgt lv stk μ) (kf : ¬ x = 0 → Wx E G cells slots (pc + 3) lv stk μ) : Wx E G cells slots pc lv (.int x :: stk) μ := fun H locs ls hM hS hl => lv_if_eq C.hx C.hb hd ht (fun q => kt q H locs ls hM hS hl) (fun q => kf q H locs ls hM hS hl)
theorem x_if_ne (C : Cx E G z cc own ws rm n9) {x : Int32} {off : Int} {tgt : Nat} (hd : decode cc pc = .ok (.ifCond .ne off, 3)) (ht : (pc : Int) + off = (tgt : Int)) (kt : ¬ x = 0 → Wx E G cells slots tgt lv stk μ) (kf : x = 0 → Wx E G cells slots (pc + 3) lv stk μ) : Wx E G cells slots pc lv (.int x :: stk) μ := fun H locs ls hM hS hl => lv_if_ne C.hx C.hb hd ht (fun q => kt q H locs ls hM hS hl) (fun q => kf q H locs ls hM hS hl)
theorem x_if_lt (C : Cx E G z cc own ws rm n9) {x : Int32} {off : Int} {tgt : Nat} (hd : decode cc pc = .ok (.ifCond .lt off, 3)) (ht : (pc : Int) + off = (tgt : Int)) (kt : x < 0 → Wx E G cells slots tgt lv stk μ) (kf : ¬ x < 0 → Wx E G cells slots (pc + 3) lv stk μ) : Wx E G cells slots pc lv (.int x :: stk) μ := fun H locs ls hM hS hl => lv_if_lt C.hx C.hb hd ht (fun q => kt q H locs ls hM hS hl) (fun q => kf q H locs ls hM hS hl)
theorem x_if_ge (C : Cx E G z cc own ws rm n9) {x : Int32} {off : Int} {tgt : Nat} (hd : decode cc pc = .ok (.ifCond .ge off, 3)) (ht : (pc : Int) + off = (tgt : Int)) (kt : 0 ≤ x → Wx E G cells slots tgt lv stk μ) (kf : ¬ 0 ≤ x → Wx E G cells slots (pc + 3) lv stk μ) : Wx E G cells slots pc lv (.int x :: stk) μ := fun H locs ls hM hS hl => lv_if_ge C.hx C.hb hd ht (fun q => kt q H locs ls hM hS hl) (fun q => kf q H locs ls hM hS hl)
theorem x_if_gt (C : Cx E G z cc own ws rm n9) {x : Int32} {off : Int} {tgt : Nat} (hd : decode cc pc = .ok (.ifCond .gt off, 3)) (ht : (pc : Int) + off = (tgt : Int)) (kt : 0 < x → Wx E G cells slots tgt lv stk μ) (kf : ¬ 0 < x → Wx E G cells slots (pc + 3) lv stk μ) : Wx E G cells slots pc lv (.int x :: stk) μ := fun H locs ls hM hS hl => lv_if_gt C.hx C.hb hd ht (fun q => kt q H locs ls hM hS hl) (fun q => kf q H locs ls hM hS hl)
theorem x_if_le (C : Cx E G z cc own ws rm n9) {x : Int32} {off : Int} {tgt : Nat} (hd : decode cc pc = .ok (.ifCond .le off, 3)) (ht : (pc : Int) + off = (tgt : Int)) (kt : x ≤ 0 → Wx E G cells slots tgt lv stk μ) (kf : ¬ x ≤ 0 → Wx E G cells slots (pc + 3) lv stk μ) : Wx E G cells slots pc lv (.int x :: stk) μ := fun H locs ls hM hS hl => lv_if_le C.hx C.hb hd ht (fun q => kt q H locs ls hM hS hl) (fun q => kf q H locs ls hM hS hl)
theorem x_icmp_eq (C : Cx E G z cc own ws rm n9) {x y : Int32} {off : Int} {tgt : Nat} (hd : decode cc pc = .ok (.if_icmp .eq off, 3)) (ht : (pc : Int) + off = (tgt : Int)) (kt : x = y → Wx E G cells slots tgt lv stk μ) (kf : ¬ x = y → Wx E G cells slots (pc + 3) lv stk μ) : Wx E G cells slots pc lv (.int y :: .int x :: stk) μ := fun H locs ls hM hS hl => lv_icmp_eq C.hx C.hb hd ht (fun q => kt q H locs ls hM hS hl) (fun q => kf q H locs ls hM hS hl)
theorem x_icmp_ne (C : Cx E G z cc own ws rm n9) {x y : Int32} {off : Int} {tgt : Nat} (hd : decode cc pc = .ok (.if_icmp .ne off, 3)) (ht : (pc : Int) + off = (tgt : Int)) (kt : ¬ x = y → Wx E G cells slots tgt lv stk μ) (kf : x = y → Wx E G cells slots (pc + 3) lv stk μ) : Wx E G cells slots pc lv (.int y :: .int x :: stk) μ := fun H locs ls hM hS hl => lv_icmp_ne C.hx C.hb hd ht (fun q => kt q H locs ls hM hS hl) (fun q => kf q H locs ls hM hS hl)
theorem x_icmp_lt (C : Cx E G z cc own ws rm n9) {x y : Int32} {off : Int} {tgt : Nat} (hd : decode cc pc = .ok (.if_icmp .lt off, 3)) (ht : (pc : Int) + off = (tgt : Int)) (kt : x < y → Wx E G cells slots tgt lv stk μ) (kf : ¬ x < y → Wx E G cells slots (pc + 3) lv stk μ) : Wx E G cells slots pc lv (.int y :: .int x :: stk) μ := fun H locs ls hM hS hl => lv_icmp_lt C.hx C.hb hd ht (fun q => kt q H locs ls hM hS hl) (fun q => kf q H locs ls hM hS hl)
theorem x_icmp_ge (C : Cx E G z cc own ws rm n9) {x y : Int32} {off : Int} {tgt : Nat} (hd : decode cc pc = .ok (.if_icmp .ge off, 3)) (ht : (pc : Int) + off = (tgt : Int)) (kt : y ≤ x → Wx E G cells slots tgt lv stk μ) (kf : ¬ y ≤ x → Wx E G cells slots (pc + 3) lv stk μ) : Wx E G cells slots pc lv (.int y :: .int x :: stk) μ := fun H locs ls hM hS hl => lv_icmp_ge C.hx C.hb hd ht (fun q => kt q H locs ls hM hS hl) (fun q => kf q H locs ls hM hS hl)
theorem x_icmp_gt (C : Cx E G z cc own ws rm n9) {x y : Int32} {off : Int} {tgt : Nat} (hd : decode cc pc = .ok (.if_icmp .gt off, 3)) (ht : (pc : Int) + off = (tgt : Int)) (kt : y < x → Wx E G cells slots tgt lv stk μ) (kf : ¬ y < x → Wx E G cells slots (pc + 3) lv stk μ) : Wx E G cells slots pc lv (.int y :: .int x :: stk) μ := fun H locs ls hM hS hl => lv_icmp_gt C.hx C.hb hd ht (fun q => kt q H locs ls hM hS hl) (fun q => kf q H locs ls hM hS hl)
theorem x_icmp_le (C : Cx E G z cc own ws rm n9) {x y : Int32} {off : Int} {tgt : Nat} (hd : decode cc pc = .ok (.if_icmp .le off, 3)) (ht : (pc : Int) + off = (tgt : Int)) (kt : x ≤ y → Wx E G cells slots tgt lv stk μ) (kf : ¬ x ≤ y → Wx E G cells slots (pc + 3) lv stk μ) : Wx E G cells slots pc lv (.int y :: .int x :: stk) μ := fun H locs ls hM hS hl => lv_icmp_le C.hx C.hb hd ht (fun q => kt q H locs ls hM hS hl) (fun q => kf q H locs ls hM hS hl)
theorem x_goto (C : Cx E G z cc own ws rm n9) {off : Int} {tgt : Nat} (hd : decode cc pc = .ok (.goto off, 3)) (ht : (pc : Int) + off = (tgt : Int)) (kk : Wx E G cells slots tgt lv stk μ) : Wx E G cells slots pc lv stk μ := fun H locs ls hM hS hl => lv_goto C.hx C.hb hd ht (kk H locs ls hM hS hl)
theorem x_lcmp (C : Cx E G z cc own ws rm n9) {x y : Int64} {v : Int32} (hd : decode cc pc = .ok (.lcmp, 1)) (hv : lg_cmp x y = v) (kk : Wx E G cells slots (pc + 1) lv (.int v :: stk) μ) : Wx E G cells slots pc lv (.long y :: .long x :: stk) μ := fun H locs ls hM hS hl => W.lcmp C.hx C.hb hd (by rw [hv]; exact kk H locs ls hM hS hl)
theorem x_tabIn (C : Cx E G z cc own ws rm n9) {dflt lo hi : Int} {offs : Array Int} {len : Nat} {x : Int32} {off : Int} {tgt : Nat} (hd : decode cc pc = .ok (.tableswitch dflt lo hi offs, len)) (h1 : ¬ x.toInt < lo) (h2 : ¬ hi < x.toInt) (ho : offs[(x.toInt - lo).toNat]? = some off) (ht : (pc : Int) + off = (tgt : Int)) (kk : Wx E G cells slots tgt lv stk μ) : Wx E G cells slots pc lv (.int x :: stk) μ := fun H locs ls hM hS hl => lv_tableIn C.hx C.hb hd h1 h2 ho ht (kk H locs ls hM hS hl)
theorem x_tabOut (C : Cx E G z cc own ws rm n9) {dflt lo hi : Int} {offs : Array Int} {len : Nat} {x : Int32} {tgt : Nat} (hd : decode cc pc = .ok (.tableswitch dflt lo hi offs, len)) (h : x.toInt < lo ∨ hi < x.toInt) (ht : (pc : Int) + dflt = (tgt : Int)) (kk : Wx E G cells slots tgt lv stk μ) : Wx E G cells slots pc lv (.int x :: stk) μ := fun H locs ls hM hS hl => lv_tableOut C.hx C.hb hd h ht (kk H locs ls hM hS hl)
/-- an index in range -/
def ix (i : Int32) (j n : Nat) : Prop := vp_in i n ∧ i.toNatClampNeg = j
theorem ix_nI {j n : Nat} (h : j < n) (hn : n < 2 ^ 31) : ix (nI j) j n := ⟨vp_in_nI h hn, nI_clamp (by omega)⟩
theorem x_get (C : Cx E G z cc own ws rm n9) {a r ci index N : Nat} {fs : List Value} {Cn ref : String} {T : u_T} {v : Value} (hd : decode cc pc = .ok (.getfield index, 3)) (hin : ∀ w ∈ u_ws Cn T N, w ∈ ws) (hc : vwCl[ci]? = some (Cn, T, N)) (ha : μ a = some (r, .inr (ci, fs))) (k : Nat) (hk : k < N) (hw : Cond.fieldLink own index ref (T k).2.1 (T k).2.2.1 ∈ ws) (hs : (T k).1 = ref) (hv : fs[k]? = some v) (kk : Wx E G cells slots (pc + 3) lv (v :: stk) μ) : Wx E G cells slots pc lv (.ref a :: stk) μ := fun H locs ls hM hS hl => by
  obtain ⟨ws0, k0, g1, g2, g3, -⟩ := hM.get ha
  exact va_get C.hx C.hb C.hts hin C.hown C.hK g1 k0 g3 hc k hk (C.hts _ hw) (fun _ h9 => by rw [← hs]; exact h9) hv hd (kk H locs ls hM hS hl)
/-- the same, of a field that a class above declares -/
theorem x_getU (C : Cx E G z cc own ws rm n9) {a r ci index N : Nat} {fs : List Value} {Cn ref : String} {T : u_T} {v : Value} (hd : decode cc pc = .ok (.getfield index, 3)) (hin : ∀ w ∈ u_ws Cn T N, w ∈ ws) (hc : vwCl[ci]? = some (Cn, T, N)) (ha : μ a = some (r, .inr (ci, fs))) (k : Nat) (hk : k < N) (hw : Cond.fieldLink own index ref (T k).2.1 (T k).2.2.1 ∈ ws) (hs : Cond.sameField ref (T k).1 (T k).2.1 (T k).2.2.1 ∈ ws) (hv : fs[k]? = some v) (kk : Wx E G cells slots (pc + 3) lv (v :: stk) μ) : Wx E G cells slots pc lv (.ref a :: stk) μ := fun H locs ls hM hS hl => by
  obtain ⟨ws0, k0, g1, g2, g3, -⟩ := hM.get ha
  exact va_get C.hx C.hb C.hts hin C.hown C.hK g1 k0 g3 hc k hk (C.hts _ hw) (u_same (C.hts _ hs)) hv hd (kk H locs ls hM hS hl)
theorem x_put (C : Cx E G z cc own ws rm n9) {a r ci index N : Nat} {fs fs' : List Value} {Cn ref : String} {T : u_T} {v : Value} {ty : FieldType} (hd : decode cc pc = .ok (.putfield index, 3)) (hin : ∀ w ∈ u_ws Cn T N, w ∈ ws) (hc : vwCl[ci]? = some (Cn, T, N)) (ty0 : Nat → FieldType) (hty : ∀ k, k < N → parseFieldDescriptor (T k).2.2.1 = some (ty0 k)) (hnm : ∀ a, a < N → ∀ b, b < N → a ≠ b → (T a).2.1 ≠ (T b).2.1) (ha : μ a = some (r, .inr (ci, fs))) (k : Nat) (hk : k < N) (hw : Cond.fieldLink own index ref (T k).2.1 (T k).2.2.1 ∈ ws) (hs : (T k).1 = ref) (hfin : (T k).2.2.2 = false) (hty1 : ty0 k = ty) (hn : narrow ty v = v) (hfit : fits ty v = true) (hl9 : k < fs.length) (hfs : fs.set k v = fs') (kk : Wx E G cells slots (pc + 3) lv stk (mU μ a r (.inr (ci, fs')))) : Wx E G cells slots pc lv (v :: .ref a :: stk) μ := fun H locs ls hM hS hl => by
  obtain ⟨ws0, k0, g1, g2, g3, g4⟩ := hM.get ha
  subst hfs
  exact va_put C.hx C.hb C.hts hin ty0 hty hnm C.hown C.hK g1 g2 hS k0 g3 hc k hk (C.hts _ hw) (fun _ h9 => by rw [← hs]; exact h9) hfin (by rw [hty k hk, hty1]) hn hfit hl9 hd (fun H1 locs1 p1 p2 p3 => kk H1 locs1 ls (g4 _ _ p1 p2) p3 hl)
theorem x_putU (C : Cx E G z cc own ws rm n9) {a r ci index N : Nat} {fs fs' : List Value} {Cn ref : String} {T : u_T} {v : Value} {ty : FieldType} (hd : decode cc pc = .ok (.putfield index, 3)) (hin : ∀ w ∈ u_ws Cn T N, w ∈ ws) (hc : vwCl[ci]? = some (Cn, T, N)) (ty0 : Nat → FieldType) (hty : ∀ k, k < N → parseFieldDescriptor (T k).2.2.1 = some (ty0 k)) (hnm : ∀ a, a < N → ∀ b, b < N → a ≠ b → (T a).2.1 ≠ (T b).2.1) (ha : μ a = some (r, .inr (ci, fs))) (k : Nat) (hk : k < N) (hw : Cond.fieldLink own index ref (T k).2.1 (T k).2.2.1 ∈ ws) (hs : Cond.sameField ref (T k).1 (T k).2.1 (T k).2.2.1 ∈ ws) (hfin : (T k).2.2.2 = false) (hty1 : ty0 k = ty) (hn : narrow ty v = v) (hfit : fits ty v = true) (hl9 : k < fs.length) (hfs : fs.set k v = fs') (kk : Wx E G cells slots (pc + 3) lv stk (mU μ a r (.inr (ci, fs')))) : Wx E G cells slots pc lv (v :: .ref a :: stk) μ := fun H locs ls hM hS hl => by
  obtain ⟨ws0, k0, g1, g2, g3, g4⟩ := hM.get ha
  subst hfs
  exact va_put C.hx C.hb C.hts hin ty0 hty hnm C.hown C.hK g1 g2 hS k0 g3 hc k hk (C.hts _ hw) (u_same (C.hts _ hs)) hfin (by rw [hty k hk, hty1]) hn hfit hl9 hd (fun H1 locs1 p1 p2 p3 => kk H1 locs1 ls (g4 _ _ p1 p2) p3 hl)
theorem x_putF (C : Cx E G z cc own ws rm n9) {a r ci index N : Nat} {fs fs' : List Value} {Cn ref : String} {T : u_T} {v : Value} {ty : FieldType} (hd : decode cc pc = .ok (.putfield index, 3)) (hI : (kxT E).name = "<init>") (hin : ∀ w ∈ u_ws Cn T N, w ∈ ws) (hc : vwCl[ci]? = some (Cn, T, N)) (ty0 : Nat → FieldType) (hty : ∀ k, k < N → parseFieldDescriptor (T k).2.2.1 = some (ty0 k)) (hnm : ∀ a, a < N → ∀ b, b < N → a ≠ b → (T a).2.1 ≠ (T b).2.1) (ha : μ a = some (r, .inr (ci, fs))) (k : Nat) (hk : k < N) (hw : Cond.fieldLink own index ref (T k).2.1 (T k).2.2.1 ∈ ws) (hs : (T k).1 = ref) (hfin : (T k).2.2.2 = true) (hdc : (T k).1 = own) (hty1 : ty0 k = ty) (hn : narrow ty v = v) (hfit : fits ty v = true) (hl9 : k < fs.length) (hfs : fs.set k v = fs') (kk : Wx E G cells slots (pc + 3) lv stk (mU μ a r (.inr (ci, fs')))) : Wx E G cells slots pc lv (v :: .ref a :: stk) μ := fun H locs ls hM hS hl => by
  obtain ⟨ws0, k0, g1, g2, g3, g4⟩ := hM.get ha
  subst hfs
  exact va_putF C.hx C.hb C.hts hin ty0 hty hnm C.hown C.hK g1 g2 hS k0 g3 hc k hk (C.hts _ hw) (fun _ h9 => by rw [← hs]; exact h9) hfin hI hdc (by rw [hty k hk, hty1]) hn hfit hl9 hd (fun H1 locs1 p1 p2 p3 => kk H1 locs1 ls (g4 _ _ p1 p2) p3 hl)
theorem x_alen (C : Cx E G z cc own ws rm n9) {a r : Nat} {e : va_E} (hd : decode cc pc = .ok (.arraylength, 1)) (ha : μ a = some (r, e)) {n : Nat} (he : (∃ f, e = eI G n f) ∨ (∃ f, e = eZ G n f) ∨ (∃ f, e = eO G n f) ∨ (∃ f, e = eJ G n f)) (kk : Wx E G cells slots (pc + 1) lv (.int (nI n) :: stk) μ) : Wx E G cells slots pc lv (.ref a :: stk) μ := fun H locs ls hM hS hl => by
  obtain ⟨ws0, k0, g1, g2, g3, -⟩ := hM.get ha
  rcases he with ⟨f, rfl⟩ | ⟨f, rfl⟩ | ⟨f, rfl⟩ | ⟨f, rfl⟩
  · exact va_alen C.hx C.hb C.hK g1 k0 0 g3 rfl rfl hd (kk H locs ls hM hS hl)
  · exact va_alen C.hx C.hb C.hK g1 k0 1 g3 rfl rfl hd (kk H locs ls hM hS hl)
  · exact va_alen C.hx C.hb C.hK g1 k0 2 g3 rfl rfl hd (kk H locs ls hM hS hl)
  · exact va_alen C.hx C.hb C.hK g1 k0 3 g3 rfl rfl hd (kk H locs ls hM hS hl)
theorem x_iald (C : Cx E G z cc own ws rm n9) {a r n j : Nat} {f : Nat → Int32} {i v : Int32} (hd : decode cc pc = .ok (.iaload, 1)) (ha : μ a = some (r, eI G n f)) (hi : ix i j n) (hv : f j = v) (kk : Wx E G cells slots (pc + 1) lv (.int v :: stk) μ) : Wx E G cells slots pc lv (.int i :: .ref a :: stk) μ := fun H locs ls hM hS hl => by
  obtain ⟨ws0, k0, g1, g2, g3, -⟩ := hM.get ha
  exact va_iald C.hx C.hb C.hK g1 k0 0 g3 rfl hi.1 hd (by rw [hi.2, hv]; exact kk H locs ls hM hS hl)
theorem x_zald (C : Cx E G z cc own ws rm n9) {a r n j : Nat} {f : Nat → Int32} {i v : Int32} (hd : decode cc pc = .ok (.baload, 1)) (ha : μ a = some (r, eZ G n f)) (hi : ix i j n) (hv : f j = v) (kk : Wx E G cells slots (pc + 1) lv (.int v :: stk) μ) : Wx E G cells slots pc lv (.int i :: .ref a :: stk) μ := fun H locs ls hM hS hl => by
  obtain ⟨ws0, k0, g1, g2, g3, -⟩ := hM.get ha
  exact va_zald C.hx C.hb C.hK g1 k0 1 g3 rfl hi.1 hd (by rw [hi.2, hv]; exact kk H locs ls hM hS hl)
theorem x_lald (C : Cx E G z cc own ws rm n9) {a r n j : Nat} {f : Nat → Int64} {i : Int32} {v : Int64} (hd : decode cc pc = .ok (.laload, 1)) (ha : μ a = some (r, eJ G n f)) (hi : ix i j n) (hv : f j = v) (kk : Wx E G cells slots (pc + 1) lv (.long v :: stk) μ) : Wx E G cells slots pc lv (.int i :: .ref a :: stk) μ := fun H locs ls hM hS hl => by
  obtain ⟨ws0, k0, g1, g2, g3, -⟩ := hM.get ha
  exact va_lald C.hx C.hb C.hK g1 k0 3 g3 rfl hi.1 hd (by rw [hi.2, hv]; exact kk H locs ls hM hS hl)
theorem x_aald (C : Cx E G z cc own ws rm n9) {a r n j : Nat} {f : Nat → Option Nat} {i : Int32} {v : Value} (hd : decode cc pc = .ok (.aaload, 1)) (ha : μ a = some (r, eO G n f)) (hi : ix i j n) (hv : va_rf (f j) = v) (kk : Wx E G cells slots (pc + 1) lv (v :: stk) μ) : Wx E G cells slots pc lv (.int i :: .ref a :: stk) μ := fun H locs ls hM hS hl => by
  obtain ⟨ws0, k0, g1, g2, g3, -⟩ := hM.get ha
  exact va_aldq C.hx C.hb C.hK g1 k0 2 g3 rfl hi.1 hd (by rw [hi.2, hv]; exact kk H locs ls hM hS hl)
theorem x_iast (C : Cx E G z cc own ws rm n9) {a r n j : Nat} {f f' : Nat → Int32} {i x : Int32} (hd : decode cc pc = .ok (.iastore, 1)) (ha : μ a = some (r, eI G n f)) (hi : ix i j n) (hf : upd f j x = f') (kk : Wx E G cells slots (pc + 1) lv stk (mU μ a r (eI G n f'))) : Wx E G cells slots pc lv (.int x :: .int i :: .ref a :: stk) μ := fun H locs ls hM hS hl => by
  obtain ⟨ws0, k0, g1, g2, g3, g4⟩ := hM.get ha
  exact va_iast C.hx C.hb C.hK g1 g2 hS k0 0 g3 rfl hi.1 hd (fun H1 locs1 p1 p2 p3 => kk H1 locs1 ls (by rw [hi.2, hf] at p1 p2; exact g4 _ _ p1 p2) p3 hl)
theorem x_zast (C : Cx E G z cc own ws rm n9) {a r n j : Nat} {f f' : Nat → Int32} {i x : Int32} (hd : decode cc pc = .ok (.bastore, 1)) (ha : μ a = some (r, eZ G n f)) (hi : ix i j n) (hx : vp_nar .boolean x = x) (hf : upd f j x = f') (kk : Wx E G cells slots (pc + 1) lv stk (mU μ a r (eZ G n f'))) : Wx E G cells slots pc lv (.int x :: .int i :: .ref a :: stk) μ := fun H locs ls hM hS hl => by
  obtain ⟨ws0, k0, g1, g2, g3, g4⟩ := hM.get ha
  exact va_zast C.hx C.hb C.hK g1 g2 hS k0 1 g3 rfl hi.1 hd (fun H1 locs1 p1 p2 p3 => kk H1 locs1 ls (by rw [hi.2, hx, hf] at p1 p2; exact g4 _ _ p1 p2) p3 hl)
theorem x_last (C : Cx E G z cc own ws rm n9) {a r n j : Nat} {f f' : Nat → Int64} {i : Int32} {x : Int64} (hd : decode cc pc = .ok (.lastore, 1)) (ha : μ a = some (r, eJ G n f)) (hi : ix i j n) (hf : vp_updL f j x = f') (kk : Wx E G cells slots (pc + 1) lv stk (mU μ a r (eJ G n f'))) : Wx E G cells slots pc lv (.long x :: .int i :: .ref a :: stk) μ := fun H locs ls hM hS hl => by
  obtain ⟨ws0, k0, g1, g2, g3, g4⟩ := hM.get ha
  exact va_last C.hx C.hb C.hK g1 g2 hS k0 3 g3 rfl hi.1 hd (fun H1 locs1 p1 p2 p3 => kk H1 locs1 ls (by rw [hi.2, hf] at p1 p2; exact g4 _ _ p1 p2) p3 hl)
theorem x_aast (C : Cx E G z cc own ws rm n9) {a r n j v rv ci N : Nat} {f f' : Nat → Option Nat} {i : Int32} {vs : List Value} {Cn : String} {T : u_T} (hd : decode cc pc = .ok (.aastore, 1)) (ha : μ a = some (r, eO G n f)) (hi : ix i j n) (hv : μ v = some (rv, .inr (ci, vs))) (hc : vwCl[ci]? = some (Cn, T, N)) (hca : Cond.castable Cn "java/lang/Object" ∈ NWs) (hf : va_up f j (some v) = f') (kk : Wx E G cells slots (pc + 1) lv stk (mU μ a r (eO G n f'))) : Wx E G cells slots pc lv (.ref v :: .int i :: .ref a :: stk) μ := fun H locs ls hM hS hl => by
  obtain ⟨ws0, k0, g1, g2, g3, g4⟩ := hM.get ha
  obtain ⟨wsv, kv, v1, v2, v3, -⟩ := hM.get hv
  exact va_astqM C.hx C.hb C.hK g1 g2 hS k0 2 g3 rfl (va_rAny C.hK v1 v3 hc (vb_asgC (C.hN.1 _ hca))) hi.1 hd (fun H1 locs1 p1 p2 p3 => kk H1 locs1 ls (by rw [hi.2, hf] at p1 p2; exact g4 _ _ p1 p2) p3 hl)
theorem x_aastN (C : Cx E G z cc own ws rm n9) {a r n j : Nat} {f f' : Nat → Option Nat} {i : Int32} (hd : decode cc pc = .ok (.aastore, 1)) (ha : μ a = some (r, eO G n f)) (hi : ix i j n) (hf : va_up f j none = f') (kk : Wx E G cells slots (pc + 1) lv stk (mU μ a r (eO G n f'))) : Wx E G cells slots pc lv (.null :: .int i :: .ref a :: stk) μ := fun H locs ls hM hS hl => by
  obtain ⟨ws0, k0, g1, g2, g3, g4⟩ := hM.get ha
  exact va_astqN C.hx C.hb C.hK g1 g2 hS k0 2 g3 rfl hi.1 hd (fun H1 locs1 p1 p2 p3 => kk H1 locs1 ls (by rw [hi.2, hf] at p1 p2; exact g4 _ _ p1 p2) p3 hl)
theorem x_cast (C : Cx E G z cc own ws rm n9) {a ci index N : Nat} {Cn : String} {T : u_T} (hd : decode cc pc = .ok (.checkcast index, 3)) (hc : vwCl[ci]? = some (Cn, T, N)) (ha : ∃ r fs, μ a = some (r, .inr (ci, fs))) (hw : Cond.classLink own index Cn ∈ ws) (kk : Wx E G cells slots (pc + 3) lv (.ref a :: stk) μ) : Wx E G cells slots pc lv (.ref a :: stk) μ := fun H locs ls hM hS hl => by
  obtain ⟨r, fs, ha⟩ := ha
  obtain ⟨ws0, k0, g1, g2, g3, -⟩ := hM.get ha
  exact va_castS C.hx C.hb C.hown (C.hts _ hw) (C.hK.1 ci _ hc).2 (va_recv C.hK g1 hc g3) hd (kk H locs ls hM hS hl)
theorem x_objInit (C : Cx E G z cc own ws rm n9) {a index : Nat} (hd : decode cc pc = .ok (.invokespecial index, 3)) (w1 : Cond.methodLink own index Lib.objectInit ∈ ws) (w2 : Cond.instanceMethod Lib.objectInit ∈ ws) (w3 : Cond.code Lib.objectInit ⟨#[0xb1]⟩ 1 none ∈ ws) (hf : 1 ≤ rm.frames) (hlo : (stk.map fun v => v.category).sum + 12 ≤ rm.locals) (kk : Wx E G cells slots (pc + 3) lv stk μ) : Wx E G cells slots pc lv (.ref a :: stk) μ := fun H locs ls hM hS hl =>
  W.objInit C.hx C.hb C.hown (C.hts _ w1) (C.hts _ w2) (C.hts _ w3) rfl hl.1 rfl hd (by rw [C.hR]; exact hf) (by rw [C.hR]; show 2 * 0 + _ + 12 ≤ _; omega) (kk H locs ls hM hS hl)
theorem x_new (C : Cx E G z cc own ws rm n9) {ci index N cc9 ss9 : Nat} {fs : List Value} {Cn : String} {T : u_T} (rl : Nat) (hd : decode cc pc = .ok (.new index, 3)) (hin : ∀ w ∈ u_ws Cn T N, w ∈ ws) (hc : vwCl[ci]? = some (Cn, T, N)) (ty0 : Nat → FieldType) (hty : ∀ k, k < N → parseFieldDescriptor (T k).2.2.1 = some (ty0 k)) (w1 : Cond.classLink own index Cn ∈ ws) (w2 : Cond.instantiable Cn N ∈ ws) (w3 : Cond.initialized Cn ∈ ws) (hfs : ∀ j, j < N → defaultValue (ty0 j) = vp_V fs j) (h1 : cells + 1 = cc9) (h2 : slots + N = ss9) (h3 : cc9 ≤ rm.cells) (h4 : ss9 ≤ rm.slots) (kk : ∀ q, μ q = none → Wx E G cc9 ss9 (pc + 3) lv (.ref q :: stk) (mU μ q rl (.inr (ci, fs)))) : Wx E G cells slots pc lv stk μ := fun H locs ls hM hS hl => by
  obtain ⟨ws0, g1, g2, g4⟩ := hM.push
  subst h1; subst h2
  exact va_new C.hx C.hb C.hts hin ty0 hty C.hown (C.hts _ w1) (C.hts _ w2) (C.hts _ w3) C.hK g1 g2 hS C.hA hc hfs (by rw [C.hR]; exact h3) (by rw [C.hR]; exact h4) hd (fun q H1 p1 p2 p3 => kk q (g4 q rl _ _ p1 p2).1 H1 locs ls (g4 q rl _ _ p1 p2).2 p3 hl)
theorem arr_same {U : State} {c1 c2 : ClassId} {ty : FieldType} (h1 : va_RA U c1 ty) (h2 : va_RA U c2 ty) : c1 = c2 := by
  cases ty with
  | object C =>
    obtain ⟨-, -, -, -, -, a1⟩ := h1
    obtain ⟨-, -, -, -, -, a2⟩ := h2
    exact Option.some.inj (a1.symm.trans a2)
  | _ =>
    have e1 : U.vm.findClass _ = some c1 := h1
    have e2 : U.vm.findClass _ = some c2 := h2
    exact Option.some.inj (e1.symm.trans e2)

theorem x_newI (C : Cx E G z cc own ws rm n9) {N9 cc9 ss9 : Nat} {n : Int32} (rl : Nat) (hd : decode cc pc = .ok (.newarray .int, 2)) (w1 : Cond.arrayClass .int ∈ ws) (hn : ¬ n < 0) (hN : n.toNatClampNeg = N9) (hb9 : N9 ≤ 4096) (h1 : cells + 1 = cc9) (h2 : slots + N9 = ss9) (h3 : cc9 ≤ rm.cells) (h4 : ss9 ≤ rm.slots) (kk : ∀ q, μ q = none → Wx E G cc9 ss9 (pc + 2) lv (.ref q :: stk) (mU μ q rl (eI G N9 (fun _ => 0)))) : Wx E G cells slots pc lv (.int n :: stk) μ := fun H locs ls hM hS hl => by
  obtain ⟨ws0, g1, g2, g4⟩ := hM.push
  subst h1; subst h2
  refine va_newa (atype := .int) (ty := .int) (a0 := (N9, .inl (fun _ => 0))) C.hx C.hb (C.hts _ w1) rfl C.hK g1 g2 hS C.hA (fun cA => rfl) hn hN (by show N9 * 4 ≤ _; omega) (by rw [C.hR]; exact h3) (by rw [C.hR]; exact h4) hd (fun q cA H1 pk p1 p2 p3 => ?_)
  have hcA : cA = G.2.1 := arr_same (pk.2 4 (cA, .int) rfl).2 (C.hK.2 0 _ rfl).2
  subst hcA
  exact kk q (g4 q rl _ _ p1 p2).1 H1 locs ls (g4 q rl _ _ p1 p2).2 p3 hl
theorem x_newZ (C : Cx E G z cc own ws rm n9) {N9 cc9 ss9 : Nat} {n : Int32} (rl : Nat) (hd : decode cc pc = .ok (.newarray .boolean, 2)) (w1 : Cond.arrayClass .boolean ∈ ws) (hn : ¬ n < 0) (hN : n.toNatClampNeg = N9) (hb9 : N9 ≤ 4096) (h1 : cells + 1 = cc9) (h2 : slots + N9 = ss9) (h3 : cc9 ≤ rm.cells) (h4 : ss9 ≤ rm.slots) (kk : ∀ q, μ q = none → Wx E G cc9 ss9 (pc + 2) lv (.ref q :: stk) (mU μ q rl (eZ G N9 (fun _ => 0)))) : Wx E G cells slots pc lv (.int n :: stk) μ := fun H locs ls hM hS hl => by
  obtain ⟨ws0, g1, g2, g4⟩ := hM.push
  subst h1; subst h2
  refine va_newa (atype := .boolean) (ty := .boolean) (a0 := (N9, .inl (fun _ => 0))) C.hx C.hb (C.hts _ w1) rfl C.hK g1 g2 hS C.hA (fun cA => rfl) hn hN (by show N9 * 1 ≤ _; omega) (by rw [C.hR]; exact h3) (by rw [C.hR]; exact h4) hd (fun q cA H1 pk p1 p2 p3 => ?_)
  have hcA : cA = G.2.2.1 := arr_same (pk.2 4 (cA, .boolean) rfl).2 (C.hK.2 1 _ rfl).2
  subst hcA
  exact kk q (g4 q rl _ _ p1 p2).1 H1 locs ls (g4 q rl _ _ p1 p2).2 p3 hl
theorem x_newJ (C : Cx E G z cc own ws rm n9) {N9 cc9 ss9 : Nat} {n : Int32} (rl : Nat) (hd : decode cc pc = .ok (.newarray .long, 2)) (w1 : Cond.arrayClass .long ∈ ws) (hn : ¬ n < 0) (hN : n.toNatClampNeg = N9) (hb9 : N9 ≤ 4096) (h1 : cells + 1 = cc9) (h2 : slots + N9 = ss9) (h3 : cc9 ≤ rm.cells) (h4 : ss9 ≤ rm.slots) (kk : ∀ q, μ q = none → Wx E G cc9 ss9 (pc + 2) lv (.ref q :: stk) (mU μ q rl (eJ G N9 (fun _ => 0)))) : Wx E G cells slots pc lv (.int n :: stk) μ := fun H locs ls hM hS hl => by
  obtain ⟨ws0, g1, g2, g4⟩ := hM.push
  subst h1; subst h2
  refine va_newa (atype := .long) (ty := .long) (a0 := (N9, .inr (.inl (fun _ => 0)))) C.hx C.hb (C.hts _ w1) rfl C.hK g1 g2 hS C.hA (fun cA => rfl) hn hN (by show N9 * 8 ≤ _; omega) (by rw [C.hR]; exact h3) (by rw [C.hR]; exact h4) hd (fun q cA H1 pk p1 p2 p3 => ?_)
  have hcA : cA = G.2.2.2.2 := arr_same (pk.2 4 (cA, .long) rfl).2 (C.hK.2 3 _ rfl).2
  subst hcA
  exact kk q (g4 q rl _ _ p1 p2).1 H1 locs ls (g4 q rl _ _ p1 p2).2 p3 hl
theorem x_newO (C : Cx E G z cc own ws rm n9) {N9 cc9 ss9 index : Nat} {n : Int32} (rl : Nat) (hd : decode cc pc = .ok (.anewarray index, 3)) (w1 : Cond.classLink own index "java/lang/Object" ∈ ws) (hn : ¬ n < 0) (hN : n.toNatClampNeg = N9) (hb9 : N9 ≤ 4096) (h1 : cells + 1 = cc9) (h2 : slots + N9 = ss9) (h3 : cc9 ≤ rm.cells) (h4 : ss9 ≤ rm.slots) (kk : ∀ q, μ q = none → Wx E G cc9 ss9 (pc + 3) lv (.ref q :: stk) (mU μ q rl (eO G N9 (fun _ => none)))) : Wx E G cells slots pc lv (.int n :: stk) μ := fun H locs ls hM hS hl => by
  obtain ⟨ws0, g1, g2, g4⟩ := hM.push
  subst h1; subst h2
  refine va_newq C.hx C.hb C.hown (C.hts _ w1) C.hN.2.2 C.hK g1 g2 hS C.hA hn hN (by omega) (by rw [C.hR]; exact h3) (by rw [C.hR]; exact h4) hd (fun q cA H1 pk p1 p2 p3 => ?_)
  have hcA : cA = G.2.2.2.1 := arr_same (pk.2 4 (cA, .object "java/lang/Object") rfl).2 (C.hK.2 2 _ rfl).2
  subst hcA
  exact kk q (g4 q rl _ _ p1 p2).1 H1 locs ls (g4 q rl _ _ p1 p2).2 p3 hl
theorem x_alenS (C : Cx E G z cc own ws rm n9) (hd : decode cc pc = .ok (.arraylength, 1)) (kk : Wx E G cells slots (pc + 1) lv (.int 0 :: stk) μ) : Wx E G cells slots pc lv (.ref z :: stk) μ := fun H locs ls hM hS hl => va_tlen C.hx C.hb C.hZ.2.1 hS (v := 0) rfl hd (kk H locs ls hM hS hl)
theorem x_getsZ (C : Cx E G z cc own ws rm n9) {index : Nat} (hd : decode cc pc = .ok (.getstatic index, 3)) (hw : Cond.fieldLink own index "java/util/ArrayList" "DEFAULTCAPACITY_EMPTY_ELEMENTDATA" "[Ljava/lang/Object;" ∈ ws) (kk : Wx E G cells slots (pc + 3) lv (.ref z :: stk) μ) : Wx E G cells slots pc lv stk μ := fun H locs ls hM hS hl => va_gets C.hx C.hb C.hZ.1 hS C.hown (C.hts _ hw) (fun _ h => h) hd (kk H locs ls hM hS hl)
theorem x_acmp_eq (C : Cx E G z cc own ws rm n9) {x y : Nat} {off : Int} {tgt : Nat} (hd : decode cc pc = .ok (.if_acmp .eq off, 3)) (ht : (pc : Int) + off = (tgt : Int)) (kt : x = y → Wx E G cells slots tgt lv stk μ) (kf : ¬ x = y → Wx E G cells slots (pc + 3) lv stk μ) : Wx E G cells slots pc lv (.ref y :: .ref x :: stk) μ := fun H locs ls hM hS hl => lv_acmp_eq (rx := some x) (ry := some y) C.hx C.hb hd ht (fun q => kt (Option.some.inj q) H locs ls hM hS hl) (fun q => kf (fun w => q (by rw [w])) H locs ls hM hS hl)
/-- what is thrown at pc goes on: the class's name, the memory unchanged since the start -/
def Xx (E : EE) (G : GG) (cells slots pc : Nat) (lv : List (Nat × Value)) (stk : List Value) (En : String) (μ : Mm) : Prop :=
  ∀ (H : Heap) (locs : List Loc) (ls : Array Slot) (ce : Cell) (q : Addr), Hm G (kxD E) μ H → va_S (kxD E) (kxS E).heap H locs → lv_has ls (kxC E).maxLocals lv → H[q]? = some ce → ce.vm = .none → (kxS E).vm.findClass En = some ce.cls → vx_W (kxP E) (kxL E) (kxE E) (kxR E) (kxS E) (kxM E) (kxA E) (kxB E) (kxT E) (kxC E) H locs cells slots (kxQ E) (F0 (kxM E) pc ls stk) q
theorem x_pre (C : Cx E G z cc own ws rm n9) {H : Heap} {locs : List Loc} (hM : Hm G (kxD E) μ H) (hS : va_S (kxD E) (kxS E).heap H locs) (U : State) (hU : U.heap = H) (hW : (kxS E).WarmedH U.vm) : Wd G z μ H.size U := by
  refine ⟨by rw [hU], by rw [hU]; exact hM.weak (fun _ _ _ => trivial), va_K.moved hW.alike C.hK, ?_, Nws.warm hW C.hN⟩
  rw [hU]
  refine Zs.moved hW.alike (Zs.narrow (Zs.kept C.hZ hS.2.1) (fun q hq => ?_))
  rcases hq with hq | hq
  · exact hM.inA hq
  · exact C.hA q (Nat.le_trans hS.1 hq)
theorem x_after (C : Cx E G z cc own ws rm n9) {rest st0 : List Value} {a : Array Value} {mc ms : Nat} {post : Option Value → Mm → Prop} {px : String → Prop} {H : Heap} {locs : List Loc} {ls : Array Slot} (hM : Hm G (kxD E) μ H) (hS : va_S (kxD E) (kxS E).heap H locs) (hl : lv_has ls (kxC E).maxLocals lv)
    (hr : vx_Run (kxP E) (kxL E) (kxE E) (kxR E) (kxS E) (kxM E) (kxA E) (kxB E) (kxT E) (kxC E) H locs cells slots mc ms (F0 (kxM E) pc ls st0) rest (cQ G μ H.size post a) (xQ G μ H.size px) (Ax μ H.size))
    (kx : ∀ En, px En → Xx E G (cells + mc) (slots + ms) pc lv rest En μ)
    (kk : ∀ (v : Option Value) (μ' : Mm), post v μ' → Wx E G (cells + mc) (slots + ms) (pc + 3) lv (v.toList ++ rest) μ') :
    W (kxP E) (kxL E) (kxE E) (kxR E) (kxS E) (kxM E) (kxA E) (kxB E) (kxT E) (kxC E) H locs cells slots (kxQ E) (F0 (kxM E) pc ls st0) := by
  have hAA : ∀ q, Ax μ H.size q → kxD E q := fun q hq => by
    rcases hq with hq | hq
    · exact hM.inA hq
    · exact C.hA q (Nat.le_trans hS.1 hq)
  intro T hT X
  rcases hr T hT X with ⟨v, st₀, t, T', L, h0, X', hL, e1, e2, ⟨⟨v', μ', hv, hp, hb⟩, hF⟩, st⟩ | ⟨q, st₀, t, T', L, En, ce, h0, X', hL, e1, e2, ⟨⟨hp, hb⟩, hF⟩, hce, hcv, hcl, st⟩
  · cases hv
    obtain ⟨k1, k2, k3⟩ := vx_keep h0 e1 hS (fun q _ hq => hAA q hq) hAA hL hF
    obtain ⟨t2, a1, b1⟩ := kk v μ' hp T'.heap (locs ++ L) ls (by rw [e1]; exact hb.weak (fun q _ hq => hAA q hq)) k3 hl T' rfl X'
    exact ⟨t2, st t2 a1, b1⟩
  · obtain ⟨k1, k2, k3⟩ := vx_keep h0 e1 hS (fun q _ hq => hAA q hq) hAA hL hF
    obtain ⟨t2, a1, b1⟩ := kx En hp T'.heap (locs ++ L) ls ce q (by rw [e1]; exact hb.weak (fun q _ hq => hAA q hq)) k3 hl (by rw [e1]; exact hce) hcv hcl T' rfl X'
    exact ⟨t2, st.trans a1, b1⟩
theorem x_fix (C : Cx E G z cc own ws rm n9) : CallFix (kxP E) (kxM E) (kxC E) cc n9 (kxS E) (kxA E) ws own := ⟨C.hx, C.hb, C.ml, C.hown, C.hts⟩
section Calls
variable {y : MethodName} {bytes : ByteArray} {maxL n index : Nat} {ret : Option FieldType} {wy wy' : List Cond} {ry : Room} {post : Option Value → Mm → Prop} {px : String → Prop} {As rest : List Value}
/-- a call of a method of the receiver's own class -/
theorem x_callV (C : Cx E G z cc own ws rm n9) {b ci N cc9 ss9 : Nat} {Cn : String} {T : u_T} (hd : decode cc pc = .ok (.invokevirtual index, 3)) (hM0 : Ct (kxL E) y wy ry G z (.ref b :: As) μ post px) (hG : GoodIn ws (wsV own index Cn y wy)) (hwy : wy = Cond.code y bytes maxL ret :: wy') (hy : y.cls = Cn ∧ y.cls ≠ "java/lang/invoke/MethodHandle" ∧ y.cls ≠ "java/lang/invoke/VarHandle" ∧ (parseMethodDescriptor y.desc).map (fun d => d.parameters.length) = some n) (hroom : ry.frames + 1 ≤ rm.frames ∧ 8 + (maxL + 11) + ry.locals ≤ rm.locals) (hc : vwCl[ci]? = some (Cn, T, N)) (hb : ∃ r fs, μ b = some (r, .inr (ci, fs))) (hn : As.length = n) (hstk : stk = As.reverse ++ .ref b :: rest) (h8 : (rest.map fun v => v.category).sum ≤ 8) (h1 : cells + ry.cells = cc9) (h2 : slots + ry.slots = ss9) (hf : cc9 ≤ rm.cells ∧ ss9 ≤ rm.slots) (kx : ∀ En, px En → Xx E G cc9 ss9 pc lv rest En μ) (kk : ∀ (v : Option Value) (μ' : Mm), post v μ' → Wx E G cc9 ss9 (pc + 3) lv (v.toList ++ rest) μ') : Wx E G cells slots pc lv stk μ := fun H locs ls hM hS hl => by
  subst h1; subst h2; subst hstk
  obtain ⟨r, fs, hb⟩ := hb
  obtain ⟨ws0, k0, g1, g2, g3, -⟩ := hM.get hb
  exact x_after C hM hS hl (vx_runV (x_fix C) (hM0 H.size) (by rw [C.hR]; exact cwV n C.hts hG hwy rfl rfl hy hroom) ⟨Wd_blind, va_recv C.hK g1 hc g3, fun U hU hW => ⟨rfl, x_pre C hM hS U hU hW⟩⟩ rfl hn (hl.1.trans C.ml) rfl (lv_room h8) hd (by rw [C.hR]; exact hf)) kx kk
theorem x_callS (C : Cx E G z cc own ws rm n9) {cc9 ss9 : Nat} (hd : decode cc pc = .ok (.invokestatic index, 3)) (hM0 : Ct (kxL E) y wy ry G z As μ post px) (hG : GoodIn ws (va_wsS own index y wy)) (hwy : wy = Cond.code y bytes maxL ret :: wy') (hy : y.cls ≠ "java/lang/invoke/MethodHandle" ∧ y.cls ≠ "java/lang/invoke/VarHandle" ∧ (parseMethodDescriptor y.desc).map (fun d => d.parameters.length) = some n) (hroom : ry.frames + 1 ≤ rm.frames ∧ 8 + (maxL + 11) + ry.locals ≤ rm.locals) (hn : As.length = n) (hstk : stk = As.reverse ++ rest) (h8 : (rest.map fun v => v.category).sum ≤ 8) (h1 : cells + ry.cells = cc9) (h2 : slots + ry.slots = ss9) (hf : cc9 ≤ rm.cells ∧ ss9 ≤ rm.slots) (kx : ∀ En, px En → Xx E G cc9 ss9 pc lv rest En μ) (kk : ∀ (v : Option Value) (μ' : Mm), post v μ' → Wx E G cc9 ss9 (pc + 3) lv (v.toList ++ rest) μ') : Wx E G cells slots pc lv stk μ := fun H locs ls hM hS hl => by
  subst h1; subst h2; subst hstk
  exact x_after C hM hS hl (vx_runS (x_fix C) (hM0 H.size) (by rw [C.hR]; exact va_cwS n C.hts hG hwy rfl rfl hy hroom) ⟨Wd_blind, fun U hU hW => ⟨rfl, x_pre C hM hS U hU hW⟩⟩ rfl hn (hl.1.trans C.ml) rfl (lv_room h8) hd (by rw [C.hR]; exact hf)) kx kk
theorem x_callSN (C : Cx E G z cc own ws rm n9) {cc9 ss9 : Nat} {host : String} (hd : decode cc pc = .ok (.invokestatic index, 3)) (hM0 : Ct (kxL E) y wy ry G z As μ post px) (hG : GoodIn ws wy) (hwy : wy = Cond.code y bytes maxL ret :: wy') (hw : Cond.methodLinkNest own index y host ∈ NWs) (w1 : Cond.static y ∈ ws) (w2 : Cond.initialized y.cls ∈ ws) (hy : y.cls ≠ "java/lang/invoke/MethodHandle" ∧ y.cls ≠ "java/lang/invoke/VarHandle" ∧ (parseMethodDescriptor y.desc).map (fun d => d.parameters.length) = some n) (hroom : ry.frames + 1 ≤ rm.frames ∧ 8 + (maxL + 11) + ry.locals ≤ rm.locals) (hn : As.length = n) (hstk : stk = As.reverse ++ rest) (h8 : (rest.map fun v => v.category).sum ≤ 8) (h1 : cells + ry.cells = cc9) (h2 : slots + ry.slots = ss9) (hf : cc9 ≤ rm.cells ∧ ss9 ≤ rm.slots) (kx : ∀ En, px En → Xx E G cc9 ss9 pc lv rest En μ) (kk : ∀ (v : Option Value) (μ' : Mm), post v μ' → Wx E G cc9 ss9 (pc + 3) lv (v.toList ++ rest) μ') : Wx E G cells slots pc lv stk μ := fun H locs ls hM hS hl => by
  subst h1; subst h2; subst hstk
  exact x_after C hM hS hl (vx_runSN (x_fix C) (hM0 H.size) (by rw [C.hR]; exact ⟨va_cnB n C.hts hG hwy rfl rfl (C.hN.1 _ hw) (C.hts _ w2) hy hroom, C.hts _ w1, trivial⟩) ⟨Wd_blind, fun U hU hW => ⟨rfl, x_pre C hM hS U hU hW⟩⟩ rfl hn (hl.1.trans C.ml) rfl (lv_room h8) hd (by rw [C.hR]; exact hf)) kx kk
theorem x_callI (C : Cx E G z cc own ws rm n9) {b cc9 ss9 : Nat} (hd : decode cc pc = .ok (.invokespecial index, 3)) (hM0 : Ct (kxL E) y wy ry G z (.ref b :: As) μ post px) (hG : GoodIn ws wy) (hwy : wy = Cond.code y bytes maxL none :: wy') (w1 : Cond.methodLink own index y ∈ ws) (w2 : Cond.initialized y.cls ∈ ws) (w3 : Cond.instanceMethod y ∈ ws) (hy1 : y.name = "<init>") (hy : y.cls ≠ "java/lang/invoke/MethodHandle" ∧ y.cls ≠ "java/lang/invoke/VarHandle" ∧ (parseMethodDescriptor y.desc).map (fun d => d.parameters.length) = some n) (hroom : ry.frames + 1 ≤ rm.frames ∧ 8 + (maxL + 11) + ry.locals ≤ rm.locals) (hn : As.length = n) (hstk : stk = As.reverse ++ .ref b :: rest) (h8 : (rest.map fun v => v.category).sum ≤ 8) (h1 : cells + ry.cells = cc9) (h2 : slots + ry.slots = ss9) (hf : cc9 ≤ rm.cells ∧ ss9 ≤ rm.slots) (kx : ∀ En, px En → Xx E G cc9 ss9 pc lv rest En μ) (kk : ∀ (v : Option Value) (μ' : Mm), post v μ' → Wx E G cc9 ss9 (pc + 3) lv (v.toList ++ rest) μ') : Wx E G cells slots pc lv stk μ := fun H locs ls hM hS hl => by
  subst h1; subst h2; subst hstk
  exact x_after C hM hS hl (vx_runI (x_fix C) (hM0 H.size) (by rw [C.hR]; exact cwI n C.hts hG hwy rfl rfl (C.hts _ w2) (C.hts _ w1) (C.hts _ w3) hy1 hy hroom) ⟨Wd_blind, fun U hU hW => ⟨rfl, x_pre C hM hS U hU hW⟩⟩ rfl hn (hl.1.trans C.ml) rfl (lv_room h8) hd (by rw [C.hR]; exact hf)) kx kk
theorem x_callIN (C : Cx E G z cc own ws rm n9) {b cc9 ss9 : Nat} {host : String} (hd : decode cc pc = .ok (.invokespecial index, 3)) (hM0 : Ct (kxL E) y wy ry G z (.ref b :: As) μ post px) (hG : GoodIn ws wy) (hwy : wy = Cond.code y bytes maxL none :: wy') (hw : Cond.methodLinkNest own index y host ∈ NWs) (w2 : Cond.initialized y.cls ∈ ws) (w3 : Cond.instanceMethod y ∈ ws) (hy1 : y.name = "<init>") (hy : y.cls ≠ "java/lang/invoke/MethodHandle" ∧ y.cls ≠ "java/lang/invoke/VarHandle" ∧ (parseMethodDescriptor y.desc).map (fun d => d.parameters.length) = some n) (hroom : ry.frames + 1 ≤ rm.frames ∧ 8 + (maxL + 11) + ry.locals ≤ rm.locals) (hn : As.length = n) (hstk : stk = As.reverse ++ .ref b :: rest) (h8 : (rest.map fun v => v.category).sum ≤ 8) (h1 : cells + ry.cells = cc9) (h2 : slots + ry.slots = ss9) (hf : cc9 ≤ rm.cells ∧ ss9 ≤ rm.slots) (kx : ∀ En, px En → Xx E G cc9 ss9 pc lv rest En μ) (kk : ∀ (v : Option Value) (μ' : Mm), post v μ' → Wx E G cc9 ss9 (pc + 3) lv (v.toList ++ rest) μ') : Wx E G cells slots pc lv stk μ := fun H locs ls hM hS hl => by
  subst h1; subst h2; subst hstk
  exact x_after C hM hS hl (vx_runIN (x_fix C) (hM0 H.size) (by rw [C.hR]; exact ⟨va_cnB n C.hts hG hwy rfl rfl (C.hN.1 _ hw) (C.hts _ w2) hy hroom, hy1, C.hts _ w3⟩) ⟨Wd_blind, fun U hU hW => ⟨rfl, x_pre C hM hS U hU hW⟩⟩ rfl hn (hl.1.trans C.ml) rfl (lv_room h8) hd (by rw [C.hR]; exact hf)) kx kk
end Calls
section Ends
variable {ret : Option FieldType} {mc ms : Nat} {μ0 : Mm} {post : Option Value → Mm → Prop} {px : String → Prop}
theorem x_end {v : Option Value} {H : Heap} {locs : List Loc} (R : Rr E G ret mc ms μ0 post px) (hM : Hm G (kxD E) μ H) (hS : va_S (kxD E) (kxS E).heap H locs) (hp : post v μ) : (∀ t : State, t.heap = H → (kxS E).WarmedH t.vm → cQ G μ0 (kxS E).heap.size post (kxA E) (kxS E) (.returned v) t) ∧ ∀ q ∈ locs, Ax μ0 (kxS E).heap.size q.base := by
  obtain ⟨-, hA, -⟩ := R
  rw [← hA]
  refine ⟨fun t ht _ => ⟨⟨v, μ, rfl, hp, by rw [ht, ← hA]; exact hM⟩, ?_⟩, hS.2.2⟩
  rw [← hA]
  exact hS.F ht
theorem x_iret (C : Cx E G z cc own ws rm n9) (R : Rr E G (some .int) mc ms μ0 post px) {v : Int32} (hd : decode cc pc = .ok (.ireturn, 1)) (h1 : cells ≤ mc) (h2 : slots ≤ ms) (hp : post (some (.int v)) μ) : Wx E G cells slots pc lv [.int v] μ := fun H locs ls hM hS hl => by
  have hlocks := C.hlk
  obtain ⟨q1, q2⟩ := x_end R hM hS hp
  obtain ⟨r1, r2, r3⟩ := R
  rw [r3]
  exact W.widen h1 h2 (vx_ret (W.iret C.hx C.hb r1 q1 q2 hd hlocks))
theorem x_zret (C : Cx E G z cc own ws rm n9) {ty : FieldType} (R : Rr E G (some ty) mc ms μ0 post px) {v : Int32} (hd : decode cc pc = .ok (.ireturn, 1)) (hn : narrow ty (.int v) = .int v) (h1 : cells ≤ mc) (h2 : slots ≤ ms) (hp : post (some (.int v)) μ) : Wx E G cells slots pc lv [.int v] μ := fun H locs ls hM hS hl => by
  have hlocks := C.hlk
  obtain ⟨q1, q2⟩ := x_end R hM hS hp
  obtain ⟨r1, r2, r3⟩ := R
  rw [r3]
  exact W.widen h1 h2 (vx_ret (W.zret C.hx C.hb r1 hn q1 q2 hd hlocks))
theorem x_lret (C : Cx E G z cc own ws rm n9) (R : Rr E G (some .long) mc ms μ0 post px) {v : Int64} (hd : decode cc pc = .ok (.lreturn, 1)) (h1 : cells ≤ mc) (h2 : slots ≤ ms) (hp : post (some (.long v)) μ) : Wx E G cells slots pc lv [.long v] μ := fun H locs ls hM hS hl => by
  have hlocks := C.hlk
  obtain ⟨q1, q2⟩ := x_end R hM hS hp
  obtain ⟨r1, r2, r3⟩ := R
  rw [r3]
  exact W.widen h1 h2 (vx_ret (W.lret C.hx C.hb r1 q1 q2 hd hlocks))
theorem x_vret (C : Cx E G z cc own ws rm n9) (R : Rr E G none mc ms μ0 post px) (hd : decode cc pc = .ok (.return_, 1)) (h1 : cells ≤ mc) (h2 : slots ≤ ms) (hp : post none μ) : Wx E G cells slots pc lv [] μ := fun H locs ls hM hS hl => by
  have hlocks := C.hlk
  obtain ⟨q1, q2⟩ := x_end R hM hS hp
  obtain ⟨r1, r2, r3⟩ := R
  rw [r3]
  exact W.widen h1 h2 (vx_ret (W.vret C.hx C.hb r1 q1 q2 hd hlocks))
theorem x_aret (C : Cx E G z cc own ws rm n9) {rt : FieldType} (R : Rr E G (some rt) mc ms μ0 post px) {a : Nat} (hd : decode cc pc = .ok (.areturn, 1)) (hrt : (∃ n, rt = .object n) ∨ ∃ t, rt = .array t) (h1 : cells ≤ mc) (h2 : slots ≤ ms) (hp : post (some (.ref a)) μ) : Wx E G cells slots pc lv [.ref a] μ := fun H locs ls hM hS hl => by
  have hlocks := C.hlk
  obtain ⟨q1, q2⟩ := x_end R hM hS hp
  obtain ⟨r1, r2, r3⟩ := R
  rw [r3]
  exact W.widen h1 h2 (vx_ret (W.aret C.hx C.hb r1 hrt (Or.inr ⟨a, rfl⟩) q1 q2 hd hlocks))
/-- a callee's exception goes on to the caller -/
theorem x_out (C : Cx E G z cc own ws rm n9) (R : Rr E G ret mc ms μ0 post px) (hT : ∀ x ∈ (kxC E).exceptionTable.toList, False) {En : String} (hx : px En) (h1 : cells ≤ mc) (h2 : slots ≤ ms) : Xx E G cells slots pc lv stk En μ0 := fun H locs ls ce q hM hS hl hce hcv hcl => by
  obtain ⟨-, hA, r3⟩ := R
  rw [r3]
  rw [hA] at hM hS
  exact vx_out (fun x hx => (hT x hx).elim) C.hlk hce hcv hcl (fun t ht _ => ⟨⟨hx, by rw [ht]; exact hM⟩, hS.F ht⟩) hS.2.2 h1 h2
theorem x_throw (C : Cx E G z cc own ws rm n9) (R : Rr E G ret mc ms μ0 post px) (hT : ∀ x ∈ (kxC E).exceptionTable.toList, False) {En : String} {names : List String} {ik ic : Nat} (d0 : decode cc pc = .ok (.new ik, 3)) (d3 : decode cc (pc + 3) = .ok (.dup, 1)) (d4 : decode cc (pc + 4) = .ok (.invokespecial ic, 3)) (d7 : decode cc (pc + 7) = .ok (.athrow, 1)) (hcls : Bundle.fit En = true) (hnames : ∀ n ∈ names, Bundle.fit n = true) (w1 : Cond.classLink own ik En ∈ ws) (w2 : Cond.initialized En ∈ ws) (w3 : ∀ w ∈ (vx_at0 own ic En names).filter goodWord, w ∈ ws) (w4 : ∀ w ∈ (vx_at0 own ic En names).filter (fun w => !goodWord w), w ∈ NWs) (hg : ∀ w ∈ Cond.classLink own ik En :: Cond.initialized En :: vx_at0 own ic En names, vx_ot w = true) (hf : names.length + 3 < rm.frames) (hlo : (stk.map fun v => v.category).sum + (13 * (names.length + 1) + 42) ≤ rm.locals) (hc9 : cells + 1 ≤ rm.cells) (hs9 : slots + 6 ≤ rm.slots) (hx : px En) (h1 : cells + 1 ≤ mc) (h2 : slots + 6 ≤ ms) : Wx E G cells slots pc lv stk μ0 := fun H locs ls hM hS hl => by
  obtain ⟨-, hA, r3⟩ := R
  have hZ := C.hZ
  rw [r3]
  rw [hA] at hM hS hZ
  exact vx_throw0 C.hx C.hb C.st C.hown hcls hnames (C.hts _ w1) (C.hts _ w2) (vx_hat (B := NWs) (fun w hw => C.hts w (w3 w hw)) w4 (fun w hw => nwk_use (List.all_eq_true.mp NWs_k w hw) (C.hN.1 w hw))) hg hZ.2.2.1 hZ.2.2.2 hS hl.1 d0 d3 d4 d7 (fun x hx => (hT x hx).elim) (by rw [C.hR]; exact hf) (by rw [C.hR]; exact hlo) (by rw [C.hR]; exact hc9) (by rw [C.hR]; exact hs9) C.hlk
    (fun t hvm hz hk => ⟨⟨hx, hM.grow hk⟩, ⟨Nat.le_trans hS.1 hz, fun q h1 h2 => by rw [hk q (Nat.lt_of_lt_of_le h1 hS.1)]; exact hS.2.1 q h1 h2⟩⟩) hS.2.2 h1 h2
end Ends
end XR

/-- a method's contract out of the walk of its body -/
theorem ct_of {l : Launch} {y : MethodName} {ws ws' : List Cond} {rm : Room} {G : GG} {z : Nat} {vs : List Value} {μ : Mm} {post : Option Value → Mm → Prop} {px : String → Prop} {cc : ByteArray} {maxL : Nat} {ret : Option FieldType} {own : String} (hy : plainName y.cls = true) (hw : ws = Cond.code y cc maxL ret :: ws') (hown : y.cls = own) (hst : l.stackTraces = false) (hlen : (lg_sl vs).length ≤ maxL)
    (body : ∀ E : EE, kxL E = l → (kxT E).name = y.name → Cx E G z cc own ws rm maxL → Rr E G ret rm.cells rm.slots μ post px → (∀ x ∈ (kxC E).exceptionTable.toList, False) → Wx E G 0 0 0 (lv_args 0 vs) [] μ) : Ct l y ws rm G z vs μ post px := by
  intro sz
  refine vx_ofW hy hw ?_
  intro p e s m args below meth c s₁ B hml hT hv
  obtain ⟨rfl, hsz, hM, hK, hZ, hN⟩ := hv
  subst hsz
  subst hml
  have hM1 : Hm G (Ax μ s.heap.size) μ s.heap := hM.weak (fun q hq _ => Or.inl hq)
  have hown' : s.vm.findClass own = some m.cls := by rw [← hown]; exact findClass_of_methodNamed B.named
  have h0 := body ((p, l, e, (headSpec ws rm).room, s, m, vs.toArray, below, meth, c), Ax μ s.heap.size, vx_MQ below (cQ G μ s.heap.size post) (xQ G μ s.heap.size px) vs.toArray s rm.cells rm.slots (Ax μ s.heap.size)) rfl (name_of_methodNamed B.named B.method).1
    ⟨B.exec, B.bytes, hown', atoms_spec (ws := ws) B.pre, B.notSynchronized, hK, fun q hq => Or.inr hq, rfl, hZ, hN, hst, rfl⟩ ⟨B.returns, rfl, rfl⟩ hT
  rw [lg_entry_eq]
  have hl := lv_entry vs hlen
  exact h0 s.heap [] _ hM1 va_S.rf hl

