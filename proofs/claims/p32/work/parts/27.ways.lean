abbrev rm_X7_init : Room := { frames := 1, cells := 2, slots := 128, locals := 20 }
set_option maxHeartbeats 4000000 in
set_option maxRecDepth 100000 in
theorem c_X7_init (l : Launch) (hst : l.stackTraces = false) (G : GG) (z : Nat) (μ : Mm) (a : Nat) (hO : OB μ a 4 8 [.null, .null]) : Ct l yX7_init wsX7_init rm_X7_init G z [.ref a] μ (rV (fun μ' => (∃ S T, WaysR G μ' a S T) ∧ Fr 4 7 μ μ')) (nX) := by
  refine ct_of (cc := cX7_init) (maxL := 1) (ret := none) (own := RX7) (by decide) rfl rfl hst (Nat.le_of_ble_eq_true rfl) ?_
  intro E hLl hnm C R hT
  have in_X7 : ∀ w ∈ u_ws RX7 TX7 2, w ∈ wsX7_init := by decide +kernel
  have hFr : Fr 4 7 μ μ := Fr.rf
  refine x_eq (lv' := [(0, .ref a)]) rfl rfl ?_
  refine x_aload_n C dX7_init_0 rfl 0 rfl ?_
  refine x_objInit C dX7_init_1 (by decide +kernel) (by decide +kernel) (by decide +kernel) (Nat.le_of_ble_eq_true rfl) (Nat.le_of_ble_eq_true rfl) ?_
  refine x_aload_n C dX7_init_4 rfl 0 rfl ?_
  refine z_bipush C dX7_init_5 (by decide) ?_
  refine z_newI (N9 := 64) (cc9 := 1) (ss9 := 64) C 5 dX7_init_7 (by decide +kernel) rfl (by decide) rfl rfl (Nat.le_of_ble_eq_true rfl) (Nat.le_of_ble_eq_true rfl) (fun a1 μ2 hq3 hA4 hF5 => ?_)
  have hF6 : Fr 0 0 μ μ2 := hF5 _ _
  have hO := (hF5 0 0).ob hO (Or.inr (Nat.zero_le _))
  have hFr : Fr 4 7 μ μ2 := hFr.tr (hF5 4 7)
  refine z_putF (ci := 8) (Cn := RX7) (T := TX7) (N := 2) (ref := "CairnCipher$Ways") (fs' := [.ref a1, .null]) C dX7_init_9 hnm in_X7 rfl tyX7 tyX7_ok nmX7 hO 0 (by decide) (by decide +kernel) rfl rfl rfl rfl rfl rfl (Nat.le_of_ble_eq_true rfl) rfl (fun μ7 hOw hF8 => ?_)
  have hA4 := hF8.ai hA4
  have hFr : Fr 4 7 μ μ7 := hFr.tr hF8
  have hO := hOw
  refine x_aload_n C dX7_init_12 rfl 0 rfl ?_
  refine z_bipush C dX7_init_13 (by decide) ?_
  refine z_newZ (N9 := 64) (cc9 := 2) (ss9 := 128) C 6 dX7_init_15 (by decide +kernel) rfl (by decide) rfl rfl (Nat.le_of_ble_eq_true rfl) (Nat.le_of_ble_eq_true rfl) (fun a9 μ10 hq11 hA12 hF13 => ?_)
  have hF14 : Fr 0 0 μ7 μ10 := hF13 _ _
  have hO := (hF13 0 0).ob hO (Or.inr (Nat.zero_le _))
  have hA4 := (hF13 0 0).ai hA4 (Or.inr (Nat.zero_le _))
  have hFr : Fr 4 7 μ μ10 := hFr.tr (hF13 4 7)
  refine z_putF (ci := 8) (Cn := RX7) (T := TX7) (N := 2) (ref := "CairnCipher$Ways") (fs' := [.ref a1, .ref a9]) C dX7_init_17 hnm in_X7 rfl tyX7 tyX7_ok nmX7 hO 1 (by decide) (by decide +kernel) rfl rfl rfl rfl rfl rfl (Nat.le_of_ble_eq_true rfl) rfl (fun μ15 hOw hF16 => ?_)
  have hA4 := hF16.ai hA4
  have hA12 := hF16.az hA12
  have hFr : Fr 4 7 μ μ15 := hFr.tr hF16
  have hO := hOw
  exact x_vret C R dX7_init_20 (Nat.le_of_ble_eq_true rfl) (Nat.le_of_ble_eq_true rfl) (⟨rfl, ⟨_, _, _, _, hO, hA4, hA12, fun j hj => by (show (0 : Int) ≤ 0 ∧ (0 : Int) ≤ 1000000; omega), fun j hj => Or.inl rfl⟩, hFr⟩)
abbrev rm_X7_sumKeptOf : Room := { frames := 1, cells := 0, slots := 0, locals := 20 }
set_option maxHeartbeats 4000000 in
set_option maxRecDepth 100000 in
theorem c_X7_sumKeptOf (l : Launch) (hst : l.stackTraces = false) (G : GG) (z : Nat) (μ : Mm) (a : Nat) (S T : Nat → Int) (p : Int) (hW9 : WaysR G μ a S T) (hp : -2147483648 ≤ p ∧ p < 2147483648) : Ct l yX7_sumKeptOf wsX7_sumKeptOf rm_X7_sumKeptOf G z [.ref a, .int (zI p)] μ (rP μ (fun r9 => (0 ≤ p ∧ p < 64 ∧ r9 = S p.toNat) ∨ (¬ (0 ≤ p ∧ p < 64) ∧ r9 = 1000000))) (nX) := by
  refine ct_of (cc := cX7_sumKeptOf) (maxL := 2) (ret := (some .int)) (own := RX7) (by decide) rfl rfl hst (Nat.le_of_ble_eq_true rfl) ?_
  intro E hLl hnm C R hT
  have in_X7 : ∀ w ∈ u_ws RX7 TX7 2, w ∈ wsX7_sumKeptOf := by decide +kernel
  have hW8 := hW9
  obtain ⟨s, t, hO, hS, hT, hSr, hTr⟩ := hW9
  refine x_eq (lv' := [(0, .ref a), (1, .int (zI p))]) rfl rfl ?_
  refine x_iload_n C dX7_sumKeptOf_0 rfl 1 rfl ?_
  refine x_callS (n := 1) (cc9 := 0) (ss9 := 0) (rest := []) C dX7_sumKeptOf_1 (c_X3_isPlace (kxL E) C.st G z μ p (by omega)) gX7_sumKeptOf_X3_isPlace rfl (by decide +kernel) ⟨(Nat.le_of_ble_eq_true rfl), (Nat.le_of_ble_eq_true rfl)⟩ rfl rfl (Nat.le_of_ble_eq_true rfl) rfl rfl ⟨(Nat.le_of_ble_eq_true rfl), (Nat.le_of_ble_eq_true rfl)⟩ nX_no (fun v1 μ2 hv3 => ?_)
  obtain ⟨r4, hw7, h5, hm6⟩ := hv3
  subst hw7
  rw [hm6]
  refine x_stk (stk' := [.int (zI r4)]) rfl ?_
  refine z_if_eq (tgt := 16) C dX7_sumKeptOf_4 (by decide) (rg_of (by omega) (by omega)) (fun c_8 => ?_) (fun c_8 => ?_)
  · refine z_ldc (w := (1000000)) (v := (1000000)) C dX7_sumKeptOf_16 (by decide +kernel) (by decide) ?_
    exact x_iret C R dX7_sumKeptOf_18 (Nat.le_of_ble_eq_true rfl) (Nat.le_of_ble_eq_true rfl) (⟨_, rfl, by omega, rfl⟩)
  · refine x_aload_n C dX7_sumKeptOf_7 rfl 0 rfl ?_
    refine x_get (ci := 8) (Cn := RX7) (T := TX7) (N := 2) (ref := "CairnCipher$Ways") C dX7_sumKeptOf_8 in_X7 rfl hO 0 (by decide) (by decide +kernel) rfl rfl ?_
    refine x_iload_n C dX7_sumKeptOf_11 rfl 1 rfl ?_
    refine z_iald (j := p.toNat) C dX7_sumKeptOf_12 hS (by omega) (by omega) (by decide) ?_
    have q_9 := hSr p.toNat (by omega)
    refine x_goto (tgt := 18) C dX7_sumKeptOf_13 (by decide) ?_
    exact x_iret C R dX7_sumKeptOf_18 (Nat.le_of_ble_eq_true rfl) (Nat.le_of_ble_eq_true rfl) (⟨_, rfl, by omega, rfl⟩)
abbrev rm_X7_sumFrom : Room := { frames := 2, cells := 0, slots := 0, locals := 41 }
set_option maxHeartbeats 4000000 in
set_option maxRecDepth 100000 in
theorem c_X7_sumFrom (l : Launch) (hst : l.stackTraces = false) (G : GG) (z : Nat) (μ : Mm) (a : Nat) (S T : Nat → Int) (p : Int) (hW9 : WaysR G μ a S T) (hp : 0 ≤ p ∧ p < 64) : Ct l yX7_sumFrom wsX7_sumFrom rm_X7_sumFrom G z [.ref a, .int (zI p)] μ (rP μ (fun r9 => (S p.toNat < 1000000 ∧ r9 = S p.toNat) ∨ (¬ S p.toNat < 1000000 ∧ r9 = -1))) (nX) := by
  refine ct_of (cc := cX7_sumFrom) (maxL := 3) (ret := (some .int)) (own := RX7) (by decide) rfl rfl hst (Nat.le_of_ble_eq_true rfl) ?_
  intro E hLl hnm C R hT
  have hW8 := hW9
  obtain ⟨s, t, hO, hS, hT, hSr, hTr⟩ := hW9
  refine x_eq (lv' := [(0, .ref a), (1, .int (zI p))]) rfl rfl ?_
  refine x_aload_n C dX7_sumFrom_0 rfl 0 rfl ?_
  refine x_iload_n C dX7_sumFrom_1 rfl 1 rfl ?_
  refine x_callV (n := 1) (ci := 8) (Cn := RX7) (T := TX7) (N := 2) (cc9 := 0) (ss9 := 0) (rest := []) C dX7_sumFrom_2 (c_X7_sumKeptOf (kxL E) C.st G z μ _ _ _ p hW8 (by omega)) gX7_sumFrom_X7_sumKeptOf rfl (by decide +kernel) ⟨(Nat.le_of_ble_eq_true rfl), (Nat.le_of_ble_eq_true rfl)⟩ rfl ⟨_, _, hO⟩ rfl rfl (Nat.le_of_ble_eq_true rfl) rfl rfl ⟨(Nat.le_of_ble_eq_true rfl), (Nat.le_of_ble_eq_true rfl)⟩ nX_no (fun v1 μ2 hv3 => ?_)
  obtain ⟨r4, hw7, h5, hm6⟩ := hv3
  subst hw7
  rw [hm6]
  have hs8 := hSr p.toNat (by omega)
  refine x_stk (stk' := [.int (zI r4)]) rfl ?_
  refine x_istore_n (lv' := [(2, .int (zI r4)), (0, .ref a), (1, .int (zI p))]) C dX7_sumFrom_5 rfl (by decide) rfl ?_
  refine x_iload_n C dX7_sumFrom_6 rfl 0 rfl ?_
  refine z_ldc (w := (1000000)) (v := (1000000)) C dX7_sumFrom_7 (by decide +kernel) (by decide) ?_
  refine z_icmp_ge (tgt := 16) C dX7_sumFrom_9 (by decide) (rg_of (by omega) (by omega)) (rg_of (by omega) (by omega)) (fun c_8 => ?_) (fun c_8 => ?_)
  · refine z_iconst C dX7_sumFrom_16 ?_
    exact x_iret C R dX7_sumFrom_17 (Nat.le_of_ble_eq_true rfl) (Nat.le_of_ble_eq_true rfl) (⟨_, rfl, by omega, rfl⟩)
  · refine x_iload_n C dX7_sumFrom_12 rfl 0 rfl ?_
    refine x_goto (tgt := 17) C dX7_sumFrom_13 (by decide) ?_
    exact x_iret C R dX7_sumFrom_17 (Nat.le_of_ble_eq_true rfl) (Nat.le_of_ble_eq_true rfl) (⟨_, rfl, by omega, rfl⟩)
abbrev rm_X7_sumOver : Room := { frames := 2, cells := 0, slots := 0, locals := 43 }
set_option maxHeartbeats 4000000 in
set_option maxRecDepth 100000 in
theorem c_X7_sumOver (l : Launch) (hst : l.stackTraces = false) (G : GG) (z : Nat) (μ : Mm) (a : Nat) (S T : Nat → Int) (ld : Nat) (H Z : Nat → Int) (p nb : Int) (hW9 : WaysR G μ a S T) (hL : LandR G μ ld H Z) (hp : 0 ≤ p ∧ p < 64) (hnb : -2147483648 ≤ nb ∧ nb < 2147483648) : Ct l yX7_sumOver wsX7_sumOver rm_X7_sumOver G z [.ref a, .int (zI p), .int (zI nb), .ref ld] μ (rP μ (fun r9 => r9 = so H Z S p nb)) (nX) := by
  refine ct_of (cc := cX7_sumOver) (maxL := 4) (ret := (some .int)) (own := RX7) (by decide) rfl rfl hst (Nat.le_of_ble_eq_true rfl) ?_
  intro E hLl hnm C R hT
  have hW8 := hW9
  obtain ⟨s, t, hO, hS, hT, hSr, hTr⟩ := hW9
  have hHr := hL.hr
  have hZr := hL.zr
  refine x_eq (lv' := [(0, .ref a), (1, .int (zI p)), (2, .int (zI nb)), (3, .ref ld)]) rfl rfl ?_
  refine x_aload_n C dX7_sumOver_0 rfl 3 rfl ?_
  refine x_iload_n C dX7_sumOver_1 rfl 2 rfl ?_
  refine x_callV (n := 1) (ci := 4) (Cn := RX3) (T := TX3) (N := 2) (cc9 := 0) (ss9 := 0) (rest := []) C dX7_sumOver_2 (c_X3_canEnter (kxL E) C.st G z μ _ _ _ nb hL (by omega)) gX7_sumOver_X3_canEnter rfl (by decide +kernel) ⟨(Nat.le_of_ble_eq_true rfl), (Nat.le_of_ble_eq_true rfl)⟩ rfl hL.ob rfl rfl (Nat.le_of_ble_eq_true rfl) rfl rfl ⟨(Nat.le_of_ble_eq_true rfl), (Nat.le_of_ble_eq_true rfl)⟩ nX_no (fun v1 μ2 hv3 => ?_)
  obtain ⟨r4, hw7, h5, hm6⟩ := hv3
  subst hw7
  rw [hm6]
  refine x_stk (stk' := [.int (zI r4)]) rfl ?_
  refine z_if_ne (tgt := 11) C dX7_sumOver_5 (by decide) (rg_of (by omega) (by omega)) (fun c_8 => ?_) (fun c_8 => ?_)
  · refine z_ldc (w := (1000000)) (v := (1000000)) C dX7_sumOver_11 (by decide +kernel) (by decide) ?_
    refine x_aload_n C dX7_sumOver_13 rfl 3 rfl ?_
    refine x_iload_n C dX7_sumOver_14 rfl 1 rfl ?_
    refine x_iload_n C dX7_sumOver_15 rfl 2 rfl ?_
    refine x_callV (n := 2) (ci := 4) (Cn := RX3) (T := TX3) (N := 2) (cc9 := 0) (ss9 := 0) (rest := [.int (zI 1000000)]) C dX7_sumOver_16 (c_X3_stepCost (kxL E) C.st G z μ _ _ _ p nb hL (by omega) (by omega)) gX7_sumOver_X3_stepCost rfl (by decide +kernel) ⟨(Nat.le_of_ble_eq_true rfl), (Nat.le_of_ble_eq_true rfl)⟩ rfl hL.ob rfl rfl (Nat.le_of_ble_eq_true rfl) rfl rfl ⟨(Nat.le_of_ble_eq_true rfl), (Nat.le_of_ble_eq_true rfl)⟩ nX_no (fun v9 μ10 hv11 => ?_)
    obtain ⟨r12, hw15, h13, hm14⟩ := hv11
    subst hw15
    rw [hm14]
    have hc9 := h13
    have hc8 := hHr p.toNat (by omega)
    have hc7 := hHr nb.toNat (by omega)
    have hc6 := iabs_rg (x := H p.toNat - H nb.toNat) (n := 9) (by omega)
    refine x_stk (stk' := [.int (zI r12), .int (zI 1000000)]) rfl ?_
    refine x_aload_n C dX7_sumOver_19 rfl 0 rfl ?_
    refine x_iload_n C dX7_sumOver_20 rfl 2 rfl ?_
    refine x_callV (n := 1) (ci := 8) (Cn := RX7) (T := TX7) (N := 2) (cc9 := 0) (ss9 := 0) (rest := [.int (zI r12), .int (zI 1000000)]) C dX7_sumOver_21 (c_X7_sumKeptOf (kxL E) C.st G z μ _ _ _ nb hW8 (by omega)) gX7_sumOver_X7_sumKeptOf rfl (by decide +kernel) ⟨(Nat.le_of_ble_eq_true rfl), (Nat.le_of_ble_eq_true rfl)⟩ rfl ⟨_, _, hO⟩ rfl rfl (Nat.le_of_ble_eq_true rfl) rfl rfl ⟨(Nat.le_of_ble_eq_true rfl), (Nat.le_of_ble_eq_true rfl)⟩ nX_no (fun v16 μ17 hv18 => ?_)
    obtain ⟨r19, hw22, h20, hm21⟩ := hv18
    subst hw22
    rw [hm21]
    have hs8 := hSr nb.toNat (by omega)
    have hc5 := h20
    refine x_stk (stk' := [.int (zI r19), .int (zI r12), .int (zI 1000000)]) rfl ?_
    refine z_iadd C dX7_sumOver_24 rfl ?_
    obtain ⟨r23, h24⟩ : ∃ q : Int, (if 1000000 ≤ r12 + r19 then 1000000 else r12 + r19) = q := ⟨_, rfl⟩
    refine z_min (v := r23) C dX7_sumOver_25 (by decide +kernel) (by decide +kernel) (by decide +kernel) (by decide +kernel) (Nat.le_of_ble_eq_true rfl) (Nat.le_of_ble_eq_true rfl) (rg_of (by omega) (by omega)) (rg_of (by omega) (by omega)) h24 (Nat.le_of_ble_eq_true rfl) (Nat.le_of_ble_eq_true rfl) ?_
    have h25 := ite_or h24
    exact x_iret C R dX7_sumOver_28 (Nat.le_of_ble_eq_true rfl) (Nat.le_of_ble_eq_true rfl) (⟨_, rfl, by unfold so; rw [if_pos (by omega)]; split <;> omega, rfl⟩)
  · refine z_ldc (w := (1000000)) (v := (1000000)) C dX7_sumOver_8 (by decide +kernel) (by decide) ?_
    exact x_iret C R dX7_sumOver_10 (Nat.le_of_ble_eq_true rfl) (Nat.le_of_ble_eq_true rfl) (⟨_, rfl, by unfold so; rw [if_neg (by omega)], rfl⟩)
abbrev rm_X7_bestStepFrom : Room := { frames := 3, cells := 0, slots := 0, locals := 66 }
set_option maxHeartbeats 4000000 in
set_option maxRecDepth 100000 in
theorem c_X7_bestStepFrom (l : Launch) (hst : l.stackTraces = false) (G : GG) (z : Nat) (μ : Mm) (a : Nat) (S T : Nat → Int) (ld : Nat) (H Z : Nat → Int) (p : Int) (hW9 : WaysR G μ a S T) (hL : LandR G μ ld H Z) (hp : 0 ≤ p ∧ p < 64) : Ct l yX7_bestStepFrom wsX7_bestStepFrom rm_X7_bestStepFrom G z [.ref a, .int (zI p), .ref ld] μ (rP μ (fun r9 => r9 = bb H Z S p 4)) (nX) := by
  refine ct_of (cc := cX7_bestStepFrom) (maxL := 8) (ret := (some .int)) (own := RX7) (by decide) rfl rfl hst (Nat.le_of_ble_eq_true rfl) ?_
  intro E hLl hnm C R hT
  have hW8 := hW9
  obtain ⟨s, t, hO, hS, hT, hSr, hTr⟩ := hW9
  have hHr := hL.hr
  have hZr := hL.zr
  refine x_eq (lv' := [(0, .ref a), (1, .int (zI p)), (2, .ref ld)]) rfl rfl ?_
  refine z_iconst C dX7_bestStepFrom_0 ?_
  refine x_istore_n (lv' := [(3, .int (zI (-1))), (0, .ref a), (1, .int (zI p)), (2, .ref ld)]) C dX7_bestStepFrom_1 rfl (by decide) rfl ?_
  refine z_ldc (w := (1000000)) (v := (1000000)) C dX7_bestStepFrom_2 (by decide +kernel) (by decide) ?_
  refine x_istore (lv' := [(4, .int (zI 1000000)), (3, .int (zI (-1))), (0, .ref a), (1, .int (zI p)), (2, .ref ld)]) C dX7_bestStepFrom_4 (by decide) rfl ?_
  refine z_iconst C dX7_bestStepFrom_6 ?_
  refine x_istore (lv' := [(5, .int (zI 0)), (4, .int (zI 1000000)), (3, .int (zI (-1))), (0, .ref a), (1, .int (zI p)), (2, .ref ld)]) C dX7_bestStepFrom_7 (by decide) rfl ?_
  have L9 : ∀ (M9 : Nat) (k : Nat) (kz : Int) (hkz : kz = (k : Int)) (b9 : Int) (l9 : Int) (hk : k ≤ 4) (hb9 : b9 = bb H Z S p k) (hl9 : l9 = bl H Z S p k) (hr9 : 0 ≤ l9 ∧ l9 ≤ 1000000) (hM9 : 4 - k = M9), Wx E G 0 0 9 [(5, .int (zI kz)), (4, .int (zI l9)), (3, .int (zI b9)), (0, .ref a), (1, .int (zI p)), (2, .ref ld)] [] μ := by
    intro M9
    induction M9 using Nat.strongRecOn with
    | ind M9 ih9 =>
      intro k kz hkz b9 l9 hk hb9 hl9 hr9 hM9
      subst hkz
      refine x_iload C dX7_bestStepFrom_9 0 rfl ?_
      refine z_iconst C dX7_bestStepFrom_11 ?_
      refine z_icmp_ge (tgt := 53) C dX7_bestStepFrom_12 (by decide) (rg_of (by omega) (by omega)) (rg_of (by omega) (by omega)) (fun c_1 => ?_) (fun c_1 => ?_)
      · refine x_iload_n C dX7_bestStepFrom_53 rfl 2 rfl ?_
        exact x_iret C R dX7_bestStepFrom_54 (Nat.le_of_ble_eq_true rfl) (Nat.le_of_ble_eq_true rfl) (⟨_, rfl, by (rw [hb9, show k = 4 by omega]), rfl⟩)
      · refine x_iload_n C dX7_bestStepFrom_15 rfl 4 rfl ?_
        refine x_iload C dX7_bestStepFrom_16 0 rfl ?_
        refine x_callS (n := 2) (cc9 := 0) (ss9 := 0) (rest := []) C dX7_bestStepFrom_18 (c_X3_neighbour (kxL E) C.st G z μ p (k : Int) (by omega) (by omega)) gX7_bestStepFrom_X3_neighbour rfl (by decide +kernel) ⟨(Nat.le_of_ble_eq_true rfl), (Nat.le_of_ble_eq_true rfl)⟩ rfl rfl (Nat.le_of_ble_eq_true rfl) rfl rfl ⟨(Nat.le_of_ble_eq_true rfl), (Nat.le_of_ble_eq_true rfl)⟩ nX_no (fun v2 μ3 hv4 => ?_)
        obtain ⟨r5, hw8, h6, hm7⟩ := hv4
        subst hw8
        rw [hm7]
        have hn9 := h6
        have hn8 := nbr_rg hp (k : Int)
        refine x_stk (stk' := [.int (zI r5)]) rfl ?_
        refine x_istore (lv' := [(6, .int (zI r5)), (5, .int (zI (k : Int))), (4, .int (zI l9)), (3, .int (zI b9)), (0, .ref a), (1, .int (zI p)), (2, .ref ld)]) C dX7_bestStepFrom_21 (by decide) rfl ?_
        refine x_aload_n C dX7_bestStepFrom_23 rfl 4 rfl ?_
        refine x_iload_n C dX7_bestStepFrom_24 rfl 5 rfl ?_
        refine x_iload C dX7_bestStepFrom_25 0 rfl ?_
        refine x_aload_n C dX7_bestStepFrom_27 rfl 6 rfl ?_
        refine x_callV (n := 3) (ci := 8) (Cn := RX7) (T := TX7) (N := 2) (cc9 := 0) (ss9 := 0) (rest := []) C dX7_bestStepFrom_28 (c_X7_sumOver (kxL E) C.st G z μ _ _ _ _ _ _ p r5 hW8 hL (by omega) (by omega)) gX7_bestStepFrom_X7_sumOver rfl (by decide +kernel) ⟨(Nat.le_of_ble_eq_true rfl), (Nat.le_of_ble_eq_true rfl)⟩ rfl ⟨_, _, hO⟩ rfl rfl (Nat.le_of_ble_eq_true rfl) rfl rfl ⟨(Nat.le_of_ble_eq_true rfl), (Nat.le_of_ble_eq_true rfl)⟩ nX_no (fun v9 μ10 hv11 => ?_)
        obtain ⟨r12, hw15, h13, hm14⟩ := hv11
        subst hw15
        rw [hm14]
        rw [hn9] at h13
        have ho9 := h13
        have ho8 := so_le H Z S p (nbr p (k : Int))
        have ho7 := so_pos (H := H) (Z := Z) (p := p) (nb := nbr p (k : Int)) (fun j hj => (hSr j hj).1)
        refine x_stk (stk' := [.int (zI r12)]) rfl ?_
        refine x_istore (lv' := [(7, .int (zI r12)), (6, .int (zI r5)), (5, .int (zI (k : Int))), (4, .int (zI l9)), (3, .int (zI b9)), (0, .ref a), (1, .int (zI p)), (2, .ref ld)]) C dX7_bestStepFrom_31 (by decide) rfl ?_
        refine x_iload C dX7_bestStepFrom_33 0 rfl ?_
        refine x_iload C dX7_bestStepFrom_35 3 rfl ?_
        refine z_icmp_ge (tgt := 47) C dX7_bestStepFrom_37 (by decide) (rg_of (by omega) (by omega)) (rg_of (by omega) (by omega)) (fun c_16 => ?_) (fun c_16 => ?_)
        · refine z_iinc (lv' := [(5, .int (zI ((k : Int) + 1))), (7, .int (zI r12)), (6, .int (zI r5)), (4, .int (zI l9)), (3, .int (zI b9)), (0, .ref a), (1, .int (zI p)), (2, .ref ld)]) C dX7_bestStepFrom_47 2 rfl rfl (by decide) rfl ?_
          refine x_goto (tgt := 9) C dX7_bestStepFrom_50 (by decide) ?_
          refine x_sub (lv' := [(5, .int (zI ((k : Int) + 1))), (4, .int (zI l9)), (3, .int (zI b9)), (0, .ref a), (1, .int (zI p)), (2, .ref ld)]) [0, 3, 4, 5, 6, 7] rfl ?_
          exact ih9 _ (by omega) (k + 1) _ (by omega) _ _ (by omega) (by rw [show bb H Z S p (k + 1) = (if so H Z S p (nbr p (k : Int)) < bl H Z S p k then nbr p (k : Int) else bb H Z S p k) from rfl]; split <;> omega) (by rw [show bl H Z S p (k + 1) = (if so H Z S p (nbr p (k : Int)) < bl H Z S p k then so H Z S p (nbr p (k : Int)) else bl H Z S p k) from rfl]; split <;> omega) (by omega) rfl
        · refine x_iload C dX7_bestStepFrom_40 0 rfl ?_
          refine x_istore (lv' := [(4, .int (zI r12)), (7, .int (zI r12)), (6, .int (zI r5)), (5, .int (zI (k : Int))), (3, .int (zI b9)), (0, .ref a), (1, .int (zI p)), (2, .ref ld)]) C dX7_bestStepFrom_42 (by decide) rfl ?_
          refine x_iload C dX7_bestStepFrom_44 2 rfl ?_
          refine x_istore_n (lv' := [(3, .int (zI r5)), (4, .int (zI r12)), (7, .int (zI r12)), (6, .int (zI r5)), (5, .int (zI (k : Int))), (0, .ref a), (1, .int (zI p)), (2, .ref ld)]) C dX7_bestStepFrom_46 rfl (by decide) rfl ?_
          refine z_iinc (lv' := [(5, .int (zI ((k : Int) + 1))), (3, .int (zI r5)), (4, .int (zI r12)), (7, .int (zI r12)), (6, .int (zI r5)), (0, .ref a), (1, .int (zI p)), (2, .ref ld)]) C dX7_bestStepFrom_47 4 rfl rfl (by decide) rfl ?_
          refine x_goto (tgt := 9) C dX7_bestStepFrom_50 (by decide) ?_
          refine x_sub (lv' := [(5, .int (zI ((k : Int) + 1))), (4, .int (zI r12)), (3, .int (zI r5)), (0, .ref a), (1, .int (zI p)), (2, .ref ld)]) [0, 2, 1, 5, 6, 7] rfl ?_
          exact ih9 _ (by omega) (k + 1) _ (by omega) _ _ (by omega) (by rw [show bb H Z S p (k + 1) = (if so H Z S p (nbr p (k : Int)) < bl H Z S p k then nbr p (k : Int) else bb H Z S p k) from rfl]; split <;> omega) (by rw [show bl H Z S p (k + 1) = (if so H Z S p (nbr p (k : Int)) < bl H Z S p k then so H Z S p (nbr p (k : Int)) else bl H Z S p k) from rfl]; split <;> omega) (by omega) rfl
  exact L9 _ (0) _ (by omega) _ _ (by omega) rfl rfl (by omega) rfl
abbrev rm_X7_startAt : Room := { frames := 0, cells := 0, slots := 0, locals := 0 }
set_option maxHeartbeats 4000000 in
set_option maxRecDepth 100000 in
theorem c_X7_startAt (l : Launch) (hst : l.stackTraces = false) (G : GG) (z : Nat) (μ : Mm) (a : Nat) (S T : Nat → Int) (g : Nat) (hW9 : WaysR G μ a S T) (hg : g < 64) : Ct l yX7_startAt wsX7_startAt rm_X7_startAt G z [.ref a, .int (zI (g : Int))] μ (rV (fun μ' => (∃ S' T', WaysR G μ' a S' T' ∧ (∀ p, p < 64 → S' p = if p = g then 0 else 1000000) ∧ ∀ p, p < 64 → T' p = 0) ∧ Fr 4 7 μ μ')) (nX) := by
  refine ct_of (cc := cX7_startAt) (maxL := 3) (ret := none) (own := RX7) (by decide) rfl rfl hst (Nat.le_of_ble_eq_true rfl) ?_
  intro E hLl hnm C R hT
  have in_X7 : ∀ w ∈ u_ws RX7 TX7 2, w ∈ wsX7_startAt := by decide +kernel
  obtain ⟨s, t, hO, hS, hT, hSr, hTr⟩ := hW9
  have hFr : Fr 4 7 μ μ := Fr.rf
  refine x_eq (lv' := [(0, .ref a), (1, .int (zI (g : Int)))]) rfl rfl ?_
  refine z_iconst C dX7_startAt_0 ?_
  refine x_istore_n (lv' := [(2, .int (zI 0)), (0, .ref a), (1, .int (zI (g : Int)))]) C dX7_startAt_1 rfl (by decide) rfl ?_
  have L2 : ∀ (M9 : Nat) (μk : Mm) (k : Nat) (kz : Int) (hkz : kz = (k : Int)) (Sk : Nat → Int) (Tk : Nat → Int) (hO : OB μk a 4 8 [.ref s, .ref t]) (hS : AI G μk s 5 64 Sk) (hT : AZ G μk t 6 64 Tk) (hFr : Fr 4 7 μ μk) (hk : k ≤ 64) (hA : ∀ p, p < k → Sk p = if p = g then 0 else 1000000) (hB : ∀ p, p < k → Tk p = 0) (hM9 : 64 - k = M9), Wx E G 0 0 2 [(2, .int (zI kz)), (0, .ref a), (1, .int (zI (g : Int)))] [] μk := by
    intro M9
    induction M9 using Nat.strongRecOn with
    | ind M9 ih2 =>
      intro μk k kz hkz Sk Tk hO hS hT hFr hk hA hB hM9
      subst hkz
      refine x_iload_n C dX7_startAt_2 rfl 0 rfl ?_
      refine z_bipush C dX7_startAt_3 (by decide) ?_
      refine z_icmp_ge (tgt := 38) C dX7_startAt_5 (by decide) (rg_of (by omega) (by omega)) (rg_of (by omega) (by omega)) (fun c_1 => ?_) (fun c_1 => ?_)
      · exact x_vret C R dX7_startAt_38 (Nat.le_of_ble_eq_true rfl) (Nat.le_of_ble_eq_true rfl) (⟨rfl, ⟨Sk, Tk, ⟨s, t, hO, hS, hT, fun j hj => by (rw [hA j (by omega)]; split <;> omega), fun j hj => Or.inl (hB j (by omega))⟩, fun j hj => hA j (by omega), fun j hj => hB j (by omega)⟩, hFr⟩)
      · refine x_aload_n C dX7_startAt_8 rfl 1 rfl ?_
        refine x_get (ci := 8) (Cn := RX7) (T := TX7) (N := 2) (ref := "CairnCipher$Ways") C dX7_startAt_9 in_X7 rfl hO 0 (by decide) (by decide +kernel) rfl rfl ?_
        refine x_iload_n C dX7_startAt_12 rfl 0 rfl ?_
        refine x_iload_n C dX7_startAt_13 rfl 0 rfl ?_
        refine x_iload_n C dX7_startAt_14 rfl 2 rfl ?_
        refine z_icmp_ne (tgt := 22) C dX7_startAt_15 (by decide) (rg_of (by omega) (by omega)) (rg_of (by omega) (by omega)) (fun c_2 => ?_) (fun c_2 => ?_)
        · refine z_ldc (w := (1000000)) (v := (1000000)) C dX7_startAt_22 (by decide +kernel) (by decide) ?_
          refine z_iast (j := k) C dX7_startAt_24 hS (by omega) (by omega) (by decide) (fun μ3 hSw hF4 => ?_)
          have hO := hF4.ob hO
          have hT := hF4.az hT
          have hFr : Fr 4 7 μ μ3 := hFr.tr hF4
          have hS := hSw
          refine x_aload_n C dX7_startAt_25 rfl 1 rfl ?_
          refine x_get (ci := 8) (Cn := RX7) (T := TX7) (N := 2) (ref := "CairnCipher$Ways") C dX7_startAt_26 in_X7 rfl hO 1 (by decide) (by decide +kernel) rfl rfl ?_
          refine x_iload_n C dX7_startAt_29 rfl 0 rfl ?_
          refine z_iconst C dX7_startAt_30 ?_
          refine z_zast (j := k) C dX7_startAt_31 hT (by omega) (by omega) (by decide) (by omega) (fun μ5 hTw hF6 => ?_)
          have hO := hF6.ob hO
          have hS := hF6.ai hS
          have hFr : Fr 4 7 μ μ5 := hFr.tr hF6
          have hT := hTw
          refine z_iinc (lv' := [(2, .int (zI ((k : Int) + 1))), (0, .ref a), (1, .int (zI (g : Int)))]) C dX7_startAt_32 0 rfl rfl (by decide) rfl ?_
          refine x_goto (tgt := 2) C dX7_startAt_35 (by decide) ?_
          exact ih2 _ (by omega) _ (k + 1) _ (by omega) _ _ hO hS hT hFr (by omega) (fun j hj => by (by_cases e : j = k); subst e; rw [wr_at]; split <;> omega; rw [wr_ne e]; exact hA j (by omega)) (fun j hj => by (by_cases e : j = k); subst e; rw [wr_at]; rw [wr_ne e]; exact hB j (by omega)) rfl
        · refine z_iconst C dX7_startAt_18 ?_
          refine x_goto (tgt := 24) C dX7_startAt_19 (by decide) ?_
          refine z_iast (j := k) C dX7_startAt_24 hS (by omega) (by omega) (by decide) (fun μ7 hSw hF8 => ?_)
          have hO := hF8.ob hO
          have hT := hF8.az hT
          have hFr : Fr 4 7 μ μ7 := hFr.tr hF8
          have hS := hSw
          refine x_aload_n C dX7_startAt_25 rfl 1 rfl ?_
          refine x_get (ci := 8) (Cn := RX7) (T := TX7) (N := 2) (ref := "CairnCipher$Ways") C dX7_startAt_26 in_X7 rfl hO 1 (by decide) (by decide +kernel) rfl rfl ?_
          refine x_iload_n C dX7_startAt_29 rfl 0 rfl ?_
          refine z_iconst C dX7_startAt_30 ?_
          refine z_zast (j := k) C dX7_startAt_31 hT (by omega) (by omega) (by decide) (by omega) (fun μ9 hTw hF10 => ?_)
          have hO := hF10.ob hO
          have hS := hF10.ai hS
          have hFr : Fr 4 7 μ μ9 := hFr.tr hF10
          have hT := hTw
          refine z_iinc (lv' := [(2, .int (zI ((k : Int) + 1))), (0, .ref a), (1, .int (zI (g : Int)))]) C dX7_startAt_32 0 rfl rfl (by decide) rfl ?_
          refine x_goto (tgt := 2) C dX7_startAt_35 (by decide) ?_
          exact ih2 _ (by omega) _ (k + 1) _ (by omega) _ _ hO hS hT hFr (by omega) (fun j hj => by (by_cases e : j = k); subst e; rw [wr_at]; split <;> omega; rw [wr_ne e]; exact hA j (by omega)) (fun j hj => by (by_cases e : j = k); subst e; rw [wr_at]; rw [wr_ne e]; exact hB j (by omega)) rfl
  exact L2 _ _ (0) _ (by omega) _ _ hO hS hT hFr (by omega) (fun j hj => absurd hj (Nat.not_lt_zero j)) (fun j hj => absurd hj (Nat.not_lt_zero j)) rfl
abbrev rm_X7_nearestUnsettled : Room := { frames := 0, cells := 0, slots := 0, locals := 0 }
set_option maxHeartbeats 4000000 in
set_option maxRecDepth 100000 in
theorem c_X7_nearestUnsettled (l : Launch) (hst : l.stackTraces = false) (G : GG) (z : Nat) (μ : Mm) (a : Nat) (S T : Nat → Int) (hW9 : WaysR G μ a S T) : Ct l yX7_nearestUnsettled wsX7_nearestUnsettled rm_X7_nearestUnsettled G z [.ref a] μ (rP μ (fun r9 => r9 = nn S T 64)) (nX) := by
  refine ct_of (cc := cX7_nearestUnsettled) (maxL := 4) (ret := (some .int)) (own := RX7) (by decide) rfl rfl hst (Nat.le_of_ble_eq_true rfl) ?_
  intro E hLl hnm C R hT
  have in_X7 : ∀ w ∈ u_ws RX7 TX7 2, w ∈ wsX7_nearestUnsettled := by decide +kernel
  have hW8 := hW9
  obtain ⟨s, t, hO, hS, hT, hSr, hTr⟩ := hW9
  refine x_eq (lv' := [(0, .ref a)]) rfl rfl ?_
  refine z_iconst C dX7_nearestUnsettled_0 ?_
  refine x_istore_n (lv' := [(1, .int (zI (-1))), (0, .ref a)]) C dX7_nearestUnsettled_1 rfl (by decide) rfl ?_
  refine z_ldc (w := (1000000)) (v := (1000000)) C dX7_nearestUnsettled_2 (by decide +kernel) (by decide) ?_
  refine x_istore_n (lv' := [(2, .int (zI 1000000)), (1, .int (zI (-1))), (0, .ref a)]) C dX7_nearestUnsettled_4 rfl (by decide) rfl ?_
  refine z_iconst C dX7_nearestUnsettled_5 ?_
  refine x_istore_n (lv' := [(3, .int (zI 0)), (2, .int (zI 1000000)), (1, .int (zI (-1))), (0, .ref a)]) C dX7_nearestUnsettled_6 rfl (by decide) rfl ?_
  have L7 : ∀ (M9 : Nat) (k : Nat) (kz : Int) (hkz : kz = (k : Int)) (u9 : Int) (l9 : Int) (hk : k ≤ 64) (hu9 : u9 = nn S T k) (hl9 : l9 = nl S T k) (hr9 : 0 ≤ l9 ∧ l9 ≤ 1000000) (hM9 : 64 - k = M9), Wx E G 0 0 7 [(3, .int (zI kz)), (2, .int (zI l9)), (1, .int (zI u9)), (0, .ref a)] [] μ := by
    intro M9
    induction M9 using Nat.strongRecOn with
    | ind M9 ih7 =>
      intro k kz hkz u9 l9 hk hu9 hl9 hr9 hM9
      subst hkz
      refine x_iload_n C dX7_nearestUnsettled_7 rfl 0 rfl ?_
      refine z_bipush C dX7_nearestUnsettled_8 (by decide) ?_
      refine z_icmp_ge (tgt := 47) C dX7_nearestUnsettled_10 (by decide) (rg_of (by omega) (by omega)) (rg_of (by omega) (by omega)) (fun c_1 => ?_) (fun c_1 => ?_)
      · refine x_iload_n C dX7_nearestUnsettled_47 rfl 2 rfl ?_
        exact x_iret C R dX7_nearestUnsettled_48 (Nat.le_of_ble_eq_true rfl) (Nat.le_of_ble_eq_true rfl) (⟨_, rfl, by (rw [hu9, show k = 64 by omega]), rfl⟩)
      · refine x_aload_n C dX7_nearestUnsettled_13 rfl 3 rfl ?_
        refine x_get (ci := 8) (Cn := RX7) (T := TX7) (N := 2) (ref := "CairnCipher$Ways") C dX7_nearestUnsettled_14 in_X7 rfl hO 1 (by decide) (by decide +kernel) rfl rfl ?_
        refine x_iload_n C dX7_nearestUnsettled_17 rfl 0 rfl ?_
        refine z_zald (j := k) C dX7_nearestUnsettled_18 hT (by omega) (by omega) (by decide) ?_
        have q_2 := hTr k (by omega)
        refine z_if_ne (tgt := 41) C dX7_nearestUnsettled_19 (by decide) (rg_of (by omega) (by omega)) (fun c_3 => ?_) (fun c_3 => ?_)
        · refine z_iinc (lv' := [(3, .int (zI ((k : Int) + 1))), (2, .int (zI l9)), (1, .int (zI u9)), (0, .ref a)]) C dX7_nearestUnsettled_41 0 rfl rfl (by decide) rfl ?_
          refine x_goto (tgt := 7) C dX7_nearestUnsettled_44 (by decide) ?_
          exact ih7 _ (by omega) (k + 1) _ (by omega) _ _ (by omega) (by rw [show nn S T (k + 1) = (if T k = 0 ∧ S k < nl S T k then (k : Int) else nn S T k) from rfl]; split <;> omega) (by rw [show nl S T (k + 1) = (if T k = 0 ∧ S k < nl S T k then S k else nl S T k) from rfl]; split <;> omega) (by omega) rfl
        · refine x_aload_n C dX7_nearestUnsettled_22 rfl 3 rfl ?_
          refine x_get (ci := 8) (Cn := RX7) (T := TX7) (N := 2) (ref := "CairnCipher$Ways") C dX7_nearestUnsettled_23 in_X7 rfl hO 0 (by decide) (by decide +kernel) rfl rfl ?_
          refine x_iload_n C dX7_nearestUnsettled_26 rfl 0 rfl ?_
          refine z_iald (j := k) C dX7_nearestUnsettled_27 hS (by omega) (by omega) (by decide) ?_
          have q_4 := hSr k (by omega)
          refine x_iload_n C dX7_nearestUnsettled_28 rfl 1 rfl ?_
          refine z_icmp_ge (tgt := 41) C dX7_nearestUnsettled_29 (by decide) (rg_of (by omega) (by omega)) (rg_of (by omega) (by omega)) (fun c_5 => ?_) (fun c_5 => ?_)
          · refine z_iinc (lv' := [(3, .int (zI ((k : Int) + 1))), (2, .int (zI l9)), (1, .int (zI u9)), (0, .ref a)]) C dX7_nearestUnsettled_41 0 rfl rfl (by decide) rfl ?_
            refine x_goto (tgt := 7) C dX7_nearestUnsettled_44 (by decide) ?_
            exact ih7 _ (by omega) (k + 1) _ (by omega) _ _ (by omega) (by rw [show nn S T (k + 1) = (if T k = 0 ∧ S k < nl S T k then (k : Int) else nn S T k) from rfl]; split <;> omega) (by rw [show nl S T (k + 1) = (if T k = 0 ∧ S k < nl S T k then S k else nl S T k) from rfl]; split <;> omega) (by omega) rfl
          · refine x_aload_n C dX7_nearestUnsettled_32 rfl 3 rfl ?_
            refine x_get (ci := 8) (Cn := RX7) (T := TX7) (N := 2) (ref := "CairnCipher$Ways") C dX7_nearestUnsettled_33 in_X7 rfl hO 0 (by decide) (by decide +kernel) rfl rfl ?_
            refine x_iload_n C dX7_nearestUnsettled_36 rfl 0 rfl ?_
            refine z_iald (j := k) C dX7_nearestUnsettled_37 hS (by omega) (by omega) (by decide) ?_
            have q_6 := hSr k (by omega)
            refine x_istore_n (lv' := [(2, .int (zI (S k))), (3, .int (zI (k : Int))), (1, .int (zI u9)), (0, .ref a)]) C dX7_nearestUnsettled_38 rfl (by decide) rfl ?_
            refine x_iload_n C dX7_nearestUnsettled_39 rfl 1 rfl ?_
            refine x_istore_n (lv' := [(1, .int (zI (k : Int))), (2, .int (zI (S k))), (3, .int (zI (k : Int))), (0, .ref a)]) C dX7_nearestUnsettled_40 rfl (by decide) rfl ?_
            refine z_iinc (lv' := [(3, .int (zI ((k : Int) + 1))), (1, .int (zI (k : Int))), (2, .int (zI (S k))), (0, .ref a)]) C dX7_nearestUnsettled_41 2 rfl rfl (by decide) rfl ?_
            refine x_goto (tgt := 7) C dX7_nearestUnsettled_44 (by decide) ?_
            refine x_sub (lv' := [(3, .int (zI ((k : Int) + 1))), (2, .int (zI (S k))), (1, .int (zI (k : Int))), (0, .ref a)]) [0, 2, 1, 3] rfl ?_
            exact ih7 _ (by omega) (k + 1) _ (by omega) _ _ (by omega) (by rw [show nn S T (k + 1) = (if T k = 0 ∧ S k < nl S T k then (k : Int) else nn S T k) from rfl]; split <;> omega) (by rw [show nl S T (k + 1) = (if T k = 0 ∧ S k < nl S T k then S k else nl S T k) from rfl]; split <;> omega) (by omega) rfl
  exact L7 _ (0) _ (by omega) _ _ (by omega) rfl rfl (by omega) rfl
abbrev rm_X7_reachNeighboursOf : Room := { frames := 3, cells := 0, slots := 0, locals := 66 }
set_option maxHeartbeats 4000000 in
set_option maxRecDepth 100000 in
theorem c_X7_reachNeighboursOf (l : Launch) (hst : l.stackTraces = false) (G : GG) (z : Nat) (μ : Mm) (a : Nat) (S T : Nat → Int) (ld : Nat) (H Z : Nat → Int) (u : Nat) (hW9 : WaysR G μ a S T) (hL : LandR G μ ld H Z) (hu : u < 64) : Ct l yX7_reachNeighboursOf wsX7_reachNeighboursOf rm_X7_reachNeighboursOf G z [.ref a, .int (zI (u : Int)), .ref ld] μ (rV (fun μ' => WaysR G μ' a (rch H Z S (u : Int) 4) T ∧ Fr 4 7 μ μ')) (nX) := by
  refine ct_of (cc := cX7_reachNeighboursOf) (maxL := 5) (ret := none) (own := RX7) (by decide) rfl rfl hst (Nat.le_of_ble_eq_true rfl) ?_
  intro E hLl hnm C R hT
  have in_X7 : ∀ w ∈ u_ws RX7 TX7 2, w ∈ wsX7_reachNeighboursOf := by decide +kernel
  obtain ⟨s, t, hO, hS, hT, hSr, hTr⟩ := hW9
  have hHr := hL.hr
  have hFr : Fr 4 7 μ μ := Fr.rf
  refine x_eq (lv' := [(0, .ref a), (1, .int (zI (u : Int))), (2, .ref ld)]) rfl rfl ?_
  refine z_iconst C dX7_reachNeighboursOf_0 ?_
  refine x_istore_n (lv' := [(3, .int (zI 0)), (0, .ref a), (1, .int (zI (u : Int))), (2, .ref ld)]) C dX7_reachNeighboursOf_1 rfl (by decide) rfl ?_
  have L2 : ∀ (M9 : Nat) (μk : Mm) (k : Nat) (kz : Int) (hkz : kz = (k : Int)) (hO : OB μk a 4 8 [.ref s, .ref t]) (hS : AI G μk s 5 64 (rch H Z S (u : Int) k)) (hT : AZ G μk t 6 64 T) (hL : LandR G μk ld H Z) (hFr : Fr 4 7 μ μk) (hk : k ≤ 4) (hM9 : 4 - k = M9), Wx E G 0 0 2 [(3, .int (zI kz)), (0, .ref a), (1, .int (zI (u : Int))), (2, .ref ld)] [] μk := by
    intro M9
    induction M9 using Nat.strongRecOn with
    | ind M9 ih2 =>
      intro μk k kz hkz hO hS hT hL hFr hk hM9
      subst hkz
      have hSk := rch_rg (H := H) (Z := Z) (S := S) (u := (u : Int)) (by omega) hSr k
      refine x_iload_n C dX7_reachNeighboursOf_2 rfl 0 rfl ?_
      refine z_iconst C dX7_reachNeighboursOf_3 ?_
      refine z_icmp_ge (tgt := 53) C dX7_reachNeighboursOf_4 (by decide) (rg_of (by omega) (by omega)) (rg_of (by omega) (by omega)) (fun c_1 => ?_) (fun c_1 => ?_)
      · exact x_vret C R dX7_reachNeighboursOf_53 (Nat.le_of_ble_eq_true rfl) (Nat.le_of_ble_eq_true rfl) (⟨rfl, by (rw [show (4 : Nat) = k by omega]; exact ⟨s, t, hO, hS, hT, hSk, hTr⟩), hFr⟩)
      · refine x_iload_n C dX7_reachNeighboursOf_7 rfl 2 rfl ?_
        refine x_iload_n C dX7_reachNeighboursOf_8 rfl 0 rfl ?_
        refine x_callS (n := 2) (cc9 := 0) (ss9 := 0) (rest := []) C dX7_reachNeighboursOf_9 (c_X3_neighbour (kxL E) C.st G z μk (u : Int) (k : Int) (by omega) (by omega)) gX7_reachNeighboursOf_X3_neighbour rfl (by decide +kernel) ⟨(Nat.le_of_ble_eq_true rfl), (Nat.le_of_ble_eq_true rfl)⟩ rfl rfl (Nat.le_of_ble_eq_true rfl) rfl rfl ⟨(Nat.le_of_ble_eq_true rfl), (Nat.le_of_ble_eq_true rfl)⟩ nX_no (fun v2 μ3 hv4 => ?_)
        obtain ⟨r5, hw8, h6, hm7⟩ := hv4
        subst hw8
        rw [hm7]
        have hn9 : r5 = nbr (u : Int) (k : Int) := h6
        have hn8 := nbr_rg (p := (u : Int)) (by omega) (k : Int)
        refine x_stk (stk' := [.int (zI r5)]) rfl ?_
        refine x_istore (lv' := [(4, .int (zI r5)), (3, .int (zI (k : Int))), (0, .ref a), (1, .int (zI (u : Int))), (2, .ref ld)]) C dX7_reachNeighboursOf_12 (by decide) rfl ?_
        refine x_iload C dX7_reachNeighboursOf_14 0 rfl ?_
        refine x_callS (n := 1) (cc9 := 0) (ss9 := 0) (rest := []) C dX7_reachNeighboursOf_16 (c_X3_isPlace (kxL E) C.st G z μk r5 (by omega)) gX7_reachNeighboursOf_X3_isPlace rfl (by decide +kernel) ⟨(Nat.le_of_ble_eq_true rfl), (Nat.le_of_ble_eq_true rfl)⟩ rfl rfl (Nat.le_of_ble_eq_true rfl) rfl rfl ⟨(Nat.le_of_ble_eq_true rfl), (Nat.le_of_ble_eq_true rfl)⟩ nX_no (fun v9 μ10 hv11 => ?_)
        obtain ⟨r12, hw15, h13, hm14⟩ := hv11
        subst hw15
        rw [hm14]
        refine x_stk (stk' := [.int (zI r12)]) rfl ?_
        refine z_if_eq (tgt := 47) C dX7_reachNeighboursOf_19 (by decide) (rg_of (by omega) (by omega)) (fun c_16 => ?_) (fun c_16 => ?_)
        · refine z_iinc (lv' := [(3, .int (zI ((k : Int) + 1))), (4, .int (zI r5)), (0, .ref a), (1, .int (zI (u : Int))), (2, .ref ld)]) C dX7_reachNeighboursOf_47 1 rfl rfl (by decide) rfl ?_
          refine x_goto (tgt := 2) C dX7_reachNeighboursOf_50 (by decide) ?_
          refine x_sub (lv' := [(3, .int (zI ((k : Int) + 1))), (0, .ref a), (1, .int (zI (u : Int))), (2, .ref ld)]) [0, 2, 3, 4] rfl ?_
          have hS : AI G μk s 5 64 (rch H Z S (u : Int) (k + 1)) := by (rw [rch_no (by omega)]; exact hS)
          exact ih2 _ (by omega) _ (k + 1) _ (by omega) hO hS hT hL hFr (by omega) rfl
        · refine x_aload_n C dX7_reachNeighboursOf_22 rfl 2 rfl ?_
          refine x_get (ci := 8) (Cn := RX7) (T := TX7) (N := 2) (ref := "CairnCipher$Ways") C dX7_reachNeighboursOf_23 in_X7 rfl hO 0 (by decide) (by decide +kernel) rfl rfl ?_
          refine x_iload C dX7_reachNeighboursOf_26 0 rfl ?_
          refine x_aload_n C dX7_reachNeighboursOf_28 rfl 2 rfl ?_
          refine x_get (ci := 8) (Cn := RX7) (T := TX7) (N := 2) (ref := "CairnCipher$Ways") C dX7_reachNeighboursOf_29 in_X7 rfl hO 0 (by decide) (by decide +kernel) rfl rfl ?_
          refine x_iload C dX7_reachNeighboursOf_32 0 rfl ?_
          refine z_iald (j := r5.toNat) C dX7_reachNeighboursOf_34 hS (by omega) (by omega) (by decide) ?_
          have q_17 := hSk r5.toNat (by omega)
          refine x_aload_n C dX7_reachNeighboursOf_35 rfl 2 rfl ?_
          refine x_iload C dX7_reachNeighboursOf_36 0 rfl ?_
          refine x_iload_n C dX7_reachNeighboursOf_38 rfl 3 rfl ?_
          refine x_aload_n C dX7_reachNeighboursOf_39 rfl 4 rfl ?_
          refine x_callV (n := 3) (ci := 8) (Cn := RX7) (T := TX7) (N := 2) (cc9 := 0) (ss9 := 0) (rest := [.int (zI ((rch H Z S (u : Int) k) r5.toNat)), .int (zI r5), .ref s]) C dX7_reachNeighboursOf_40 (c_X7_sumOver (kxL E) C.st G z μk _ _ _ _ _ _ r5 (u : Int) ⟨s, t, hO, hS, hT, hSk, hTr⟩ hL (by omega) (by omega)) gX7_reachNeighboursOf_X7_sumOver rfl (by decide +kernel) ⟨(Nat.le_of_ble_eq_true rfl), (Nat.le_of_ble_eq_true rfl)⟩ rfl ⟨_, _, hO⟩ rfl rfl (Nat.le_of_ble_eq_true rfl) rfl rfl ⟨(Nat.le_of_ble_eq_true rfl), (Nat.le_of_ble_eq_true rfl)⟩ nX_no (fun v18 μ19 hv20 => ?_)
          obtain ⟨r21, hw24, h22, hm23⟩ := hv20
          subst hw24
          rw [hm23]
          have ho9 := h22
          have ho8 := so_le H Z (rch H Z S (u : Int) k) r5 (u : Int)
          have ho7 := so_pos (H := H) (Z := Z) (S := rch H Z S (u : Int) k) (p := r5) (nb := (u : Int)) (fun j hj => (hSk j hj).1)
          refine x_stk (stk' := [.int (zI r21), .int (zI ((rch H Z S (u : Int) k) r5.toNat)), .int (zI r5), .ref s]) rfl ?_
          obtain ⟨r25, h26⟩ : ∃ q : Int, (if (rch H Z S (u : Int) k) r5.toNat ≤ r21 then (rch H Z S (u : Int) k) r5.toNat else r21) = q := ⟨_, rfl⟩
          refine z_min (v := r25) C dX7_reachNeighboursOf_43 (by decide +kernel) (by decide +kernel) (by decide +kernel) (by decide +kernel) (Nat.le_of_ble_eq_true rfl) (Nat.le_of_ble_eq_true rfl) (rg_of (by omega) (by omega)) (rg_of (by omega) (by omega)) h26 (Nat.le_of_ble_eq_true rfl) (Nat.le_of_ble_eq_true rfl) ?_
          have h27 := ite_or h26
          refine z_iast (j := r5.toNat) C dX7_reachNeighboursOf_46 hS (by omega) (by omega) (by decide) (fun μ28 hSw hF29 => ?_)
          have hO := hF29.ob hO
          have hT := hF29.az hT
          have hL : LandR G μ28 ld H Z := hF29.land hL
          have hFr : Fr 4 7 μ μ28 := hFr.tr hF29
          have hS := hSw
          refine z_iinc (lv' := [(3, .int (zI ((k : Int) + 1))), (4, .int (zI r5)), (0, .ref a), (1, .int (zI (u : Int))), (2, .ref ld)]) C dX7_reachNeighboursOf_47 1 rfl rfl (by decide) rfl ?_
          refine x_goto (tgt := 2) C dX7_reachNeighboursOf_50 (by decide) ?_
          refine x_sub (lv' := [(3, .int (zI ((k : Int) + 1))), (0, .ref a), (1, .int (zI (u : Int))), (2, .ref ld)]) [0, 2, 3, 4] rfl ?_
          have hS : AI G μ28 s 5 64 (rch H Z S (u : Int) (k + 1)) := by (rw [rch_yes (v := r25) (by omega) (by rw [← hn9]; omega), ← hn9]; exact hS)
          exact ih2 _ (by omega) _ (k + 1) _ (by omega) hO hS hT hL hFr (by omega) rfl
  exact L2 _ _ (0) _ (by omega) hO hS hT hL hFr (by omega) rfl
abbrev rm_X7_measureNearestFirst : Room := { frames := 4, cells := 0, slots := 0, locals := 90 }
set_option maxHeartbeats 4000000 in
set_option maxRecDepth 100000 in
theorem c_X7_measureNearestFirst (l : Launch) (hst : l.stackTraces = false) (G : GG) (z : Nat) (μ : Mm) (a : Nat) (S T : Nat → Int) (ld : Nat) (H Z : Nat → Int) (g : Nat) (hW9 : WaysR G μ a S T) (hL : LandR G μ ld H Z) (hg : g < 64) : Ct l yX7_measureNearestFirst wsX7_measureNearestFirst rm_X7_measureNearestFirst G z [.ref a, .int (zI (g : Int)), .ref ld] μ (rV (fun μ' => (∃ S' T', WaysR G μ' a S' T' ∧ WF H Z g S') ∧ Fr 4 7 μ μ')) (nX) := by
  refine ct_of (cc := cX7_measureNearestFirst) (maxL := 5) (ret := none) (own := RX7) (by decide) rfl rfl hst (Nat.le_of_ble_eq_true rfl) ?_
  intro E hLl hnm C R hT
  have in_X7 : ∀ w ∈ u_ws RX7 TX7 2, w ∈ wsX7_measureNearestFirst := by decide +kernel
  have hHr := hL.hr
  have hZr := hL.zr
  have hFr : Fr 4 7 μ μ := Fr.rf
  refine x_eq (lv' := [(0, .ref a), (1, .int (zI (g : Int))), (2, .ref ld)]) rfl rfl ?_
  refine x_aload_n C dX7_measureNearestFirst_0 rfl 0 rfl ?_
  refine x_iload_n C dX7_measureNearestFirst_1 rfl 1 rfl ?_
  refine x_callV (n := 1) (ci := 8) (Cn := RX7) (T := TX7) (N := 2) (cc9 := 0) (ss9 := 0) (rest := []) C dX7_measureNearestFirst_2 (c_X7_startAt (kxL E) C.st G z μ _ _ _ g hW9 (by omega)) gX7_measureNearestFirst_X7_startAt rfl (by decide +kernel) ⟨(Nat.le_of_ble_eq_true rfl), (Nat.le_of_ble_eq_true rfl)⟩ rfl hW9.ob rfl rfl (Nat.le_of_ble_eq_true rfl) rfl rfl ⟨(Nat.le_of_ble_eq_true rfl), (Nat.le_of_ble_eq_true rfl)⟩ nX_no (fun v1 μ2 hv3 => ?_)
  obtain ⟨hw7, h5⟩ := hv3
  subst hw7
  obtain ⟨⟨S9, T9, hW9, hS9, hT9⟩, hF9⟩ := h5
  have hF8 := hF9
  have hL : LandR G μ2 ld H Z := hF8.land hL
  have hFr : Fr 4 7 μ μ2 := hFr.tr hF8
  obtain ⟨D, hD⟩ := WF_ex H Z hg
  have hI9 := WI_0 (H := H) (Z := Z) S9 hS9 hg
  refine x_stk (stk' := []) rfl ?_
  refine z_iconst C dX7_measureNearestFirst_5 ?_
  refine x_istore_n (lv' := [(3, .int (zI 0)), (0, .ref a), (1, .int (zI (g : Int))), (2, .ref ld)]) C dX7_measureNearestFirst_6 rfl (by decide) rfl ?_
  have L7 : ∀ (M9 : Nat) (μk : Mm) (k : Nat) (kz : Int) (hkz : kz = (k : Int)) (Sk : Nat → Int) (Tk : Nat → Int) (hL : LandR G μk ld H Z) (hW9 : WaysR G μk a Sk Tk) (hFr : Fr 4 7 μ μk) (hk : k ≤ 64) (hI : WI H Z g Sk) (hJ : DJ H Z D Sk Tk) (hc : sm Tk 64 = (k : Int)) (hM9 : 64 - k = M9), Wx E G 0 0 7 [(3, .int (zI kz)), (0, .ref a), (1, .int (zI (g : Int))), (2, .ref ld)] [] μk := by
    intro M9
    induction M9 using Nat.strongRecOn with
    | ind M9 ih7 =>
      intro μk k kz hkz Sk Tk hL hW9 hFr hk hI hJ hc hM9
      subst hkz
      refine x_iload_n C dX7_measureNearestFirst_7 rfl 0 rfl ?_
      refine z_bipush C dX7_measureNearestFirst_8 (by decide) ?_
      refine z_icmp_ge (tgt := 58) C dX7_measureNearestFirst_10 (by decide) (rg_of (by omega) (by omega)) (rg_of (by omega) (by omega)) (fun c_9 => ?_) (fun c_9 => ?_)
      · exact x_vret C R dX7_measureNearestFirst_58 (Nat.le_of_ble_eq_true rfl) (Nat.le_of_ble_eq_true rfl) (⟨rfl, ⟨Sk, Tk, hW9, by (obtain ⟨s8, t8, g1, g2, g3, g4, g5⟩ := hW9; exact DJ_end hD hI g5 hJ (fun j hj ht => by (have := sm_all g5 (by omega) j hj; omega)))⟩, hFr⟩)
      · refine x_aload_n C dX7_measureNearestFirst_13 rfl 1 rfl ?_
        refine x_callV (n := 0) (ci := 8) (Cn := RX7) (T := TX7) (N := 2) (cc9 := 0) (ss9 := 0) (rest := []) C dX7_measureNearestFirst_14 (c_X7_nearestUnsettled (kxL E) C.st G z μk _ _ _ hW9) gX7_measureNearestFirst_X7_nearestUnsettled rfl (by decide +kernel) ⟨(Nat.le_of_ble_eq_true rfl), (Nat.le_of_ble_eq_true rfl)⟩ rfl hW9.ob rfl rfl (Nat.le_of_ble_eq_true rfl) rfl rfl ⟨(Nat.le_of_ble_eq_true rfl), (Nat.le_of_ble_eq_true rfl)⟩ nX_no (fun v10 μ11 hv12 => ?_)
        obtain ⟨r13, hw16, h14, hm15⟩ := hv12
        subst hw16
        rw [hm15]
        have hn9 := h14
        have hn8 := nn_at (S := Sk) (T := Tk) 64
        rw [← hn9] at hn8
        have hn7 : -1 ≤ r13 ∧ r13 < 64 := by rcases hn8 with ⟨h1, -⟩ | ⟨u, h1, h2, -⟩ <;> omega
        refine x_stk (stk' := [.int (zI r13)]) rfl ?_
        refine x_istore (lv' := [(4, .int (zI r13)), (3, .int (zI (k : Int))), (0, .ref a), (1, .int (zI (g : Int))), (2, .ref ld)]) C dX7_measureNearestFirst_17 (by decide) rfl ?_
        refine x_iload C dX7_measureNearestFirst_19 0 rfl ?_
        refine x_callS (n := 1) (cc9 := 0) (ss9 := 0) (rest := []) C dX7_measureNearestFirst_21 (c_X3_isPlace (kxL E) C.st G z μk r13 (by omega)) gX7_measureNearestFirst_X3_isPlace rfl (by decide +kernel) ⟨(Nat.le_of_ble_eq_true rfl), (Nat.le_of_ble_eq_true rfl)⟩ rfl rfl (Nat.le_of_ble_eq_true rfl) rfl rfl ⟨(Nat.le_of_ble_eq_true rfl), (Nat.le_of_ble_eq_true rfl)⟩ nX_no (fun v17 μ18 hv19 => ?_)
        obtain ⟨r20, hw23, h21, hm22⟩ := hv19
        subst hw23
        rw [hm22]
        refine x_stk (stk' := [.int (zI r20)]) rfl ?_
        refine z_if_ne (tgt := 28) C dX7_measureNearestFirst_24 (by decide) (rg_of (by omega) (by omega)) (fun c_24 => ?_) (fun c_24 => ?_)
        · obtain ⟨s, t, hO, hS, hT, hSr, hTr⟩ := hW9
          obtain ⟨u, hu4, hx9, h0u, h1u, -, h2u⟩ : ∃ u : Nat, u < 64 ∧ r13 = (u : Int) ∧ Tk u = 0 ∧ Sk u < 1000000 ∧ nl Sk Tk 64 = Sk u ∧ ∀ j, j < 64 → Tk j = 0 → Sk u ≤ Sk j := by (rcases hn8 with ⟨h1, -⟩ | h1; exfalso; omega; exact h1)
          have hTr' : ∀ j, j < 64 → wr Tk u 1 j = 0 ∨ wr Tk u 1 j = 1 := fun j hj => by (have := hTr j hj; unfold wr; split <;> omega)
          have hZ9 := hZr u hu4
          clear hn8
          refine x_aload_n C dX7_measureNearestFirst_28 rfl 2 rfl ?_
          refine x_get (ci := 8) (Cn := RX7) (T := TX7) (N := 2) (ref := "CairnCipher$Ways") C dX7_measureNearestFirst_29 in_X7 rfl hO 1 (by decide) (by decide +kernel) rfl rfl ?_
          refine x_iload C dX7_measureNearestFirst_32 0 rfl ?_
          refine z_iconst C dX7_measureNearestFirst_34 ?_
          refine z_zast (j := r13.toNat) C dX7_measureNearestFirst_35 hT (by omega) (by omega) (by decide) (by omega) (fun μ25 hTw hF26 => ?_)
          have hL : LandR G μ25 ld H Z := hF26.land hL
          have hO := hF26.ob hO
          have hS := hF26.ai hS
          have hFr : Fr 4 7 μ μ25 := hFr.tr hF26
          have hT := hTw
          refine x_aload_n C dX7_measureNearestFirst_36 rfl 4 rfl ?_
          refine x_iload C dX7_measureNearestFirst_37 0 rfl ?_
          refine x_callV (n := 1) (ci := 4) (Cn := RX3) (T := TX3) (N := 2) (cc9 := 0) (ss9 := 0) (rest := []) C dX7_measureNearestFirst_39 (c_X3_canEnter (kxL E) C.st G z μ25 _ _ _ r13 hL (by omega)) gX7_measureNearestFirst_X3_canEnter rfl (by decide +kernel) ⟨(Nat.le_of_ble_eq_true rfl), (Nat.le_of_ble_eq_true rfl)⟩ rfl hL.ob rfl rfl (Nat.le_of_ble_eq_true rfl) rfl rfl ⟨(Nat.le_of_ble_eq_true rfl), (Nat.le_of_ble_eq_true rfl)⟩ nX_no (fun v27 μ28 hv29 => ?_)
          obtain ⟨r30, hw33, h31, hm32⟩ := hv29
          subst hw33
          rw [hm32]
          have he9 := h31
          rw [hx9, Int.toNat_natCast] at he9
          refine x_stk (stk' := [.int (zI r30)]) rfl ?_
          refine z_if_eq (tgt := 52) C dX7_measureNearestFirst_42 (by decide) (rg_of (by omega) (by omega)) (fun c_34 => ?_) (fun c_34 => ?_)
          · have hst9 := DJ_step (S' := Sk) hD hI hTr hJ hu4 h0u h1u h2u (Or.inr ⟨by omega, rfl⟩)
            have hW9 : WaysR G μ25 a Sk (wr Tk u 1) := ⟨s, t, hO, hS, by (rw [hx9, Int.toNat_natCast] at hT; exact hT), hSr, hTr'⟩
            refine z_iinc (lv' := [(3, .int (zI ((k : Int) + 1))), (4, .int (zI r13)), (0, .ref a), (1, .int (zI (g : Int))), (2, .ref ld)]) C dX7_measureNearestFirst_52 1 rfl rfl (by decide) rfl ?_
            refine x_goto (tgt := 7) C dX7_measureNearestFirst_55 (by decide) ?_
            refine x_sub (lv' := [(3, .int (zI ((k : Int) + 1))), (0, .ref a), (1, .int (zI (g : Int))), (2, .ref ld)]) [0, 2, 3, 4] rfl ?_
            exact ih7 _ (by omega) _ (k + 1) _ (by omega) _ _ hL hW9 hFr (by omega) hst9.1 hst9.2 (by rw [sm_wr hu4, h0u]; omega) rfl
          · have hT : AZ G μ25 t 6 64 (wr Tk u 1) := by (rw [hx9, Int.toNat_natCast] at hT; exact hT)
            refine x_aload_n C dX7_measureNearestFirst_45 rfl 2 rfl ?_
            refine x_iload C dX7_measureNearestFirst_46 0 rfl ?_
            refine x_aload_n C dX7_measureNearestFirst_48 rfl 4 rfl ?_
            refine x_stk (stk' := [.ref ld, .int (zI (u : Int)), .ref a]) (by rw [hx9]) ?_
            refine x_callV (n := 2) (ci := 8) (Cn := RX7) (T := TX7) (N := 2) (cc9 := 0) (ss9 := 0) (rest := []) C dX7_measureNearestFirst_49 (c_X7_reachNeighboursOf (kxL E) C.st G z μ25 _ _ _ _ _ _ u ⟨s, t, hO, hS, hT, hSr, hTr'⟩ hL (by omega)) gX7_measureNearestFirst_X7_reachNeighboursOf rfl (by decide +kernel) ⟨(Nat.le_of_ble_eq_true rfl), (Nat.le_of_ble_eq_true rfl)⟩ rfl ⟨_, _, hO⟩ rfl rfl (Nat.le_of_ble_eq_true rfl) rfl rfl ⟨(Nat.le_of_ble_eq_true rfl), (Nat.le_of_ble_eq_true rfl)⟩ nX_no (fun v35 μ36 hv37 => ?_)
            obtain ⟨hw41, h39⟩ := hv37
            subst hw41
            obtain ⟨hW9, hF9⟩ := h39
            have hF42 := hF9
            have hL : LandR G μ36 ld H Z := hF42.land hL
            have hFr : Fr 4 7 μ μ36 := hFr.tr hF42
            refine x_stk (stk' := []) rfl ?_
            have hst9 := DJ_step hD hI hTr hJ hu4 h0u h1u h2u (Or.inl ⟨by omega, rfl⟩)
            refine z_iinc (lv' := [(3, .int (zI ((k : Int) + 1))), (4, .int (zI r13)), (0, .ref a), (1, .int (zI (g : Int))), (2, .ref ld)]) C dX7_measureNearestFirst_52 1 rfl rfl (by decide) rfl ?_
            refine x_goto (tgt := 7) C dX7_measureNearestFirst_55 (by decide) ?_
            refine x_sub (lv' := [(3, .int (zI ((k : Int) + 1))), (0, .ref a), (1, .int (zI (g : Int))), (2, .ref ld)]) [0, 2, 3, 4] rfl ?_
            exact ih7 _ (by omega) _ (k + 1) _ (by omega) _ _ hL hW9 hFr (by omega) hst9.1 hst9.2 (by rw [sm_wr hu4, h0u]; omega) rfl
        · exact x_vret C R dX7_measureNearestFirst_27 (Nat.le_of_ble_eq_true rfl) (Nat.le_of_ble_eq_true rfl) (⟨rfl, ⟨Sk, Tk, hW9, by (obtain ⟨s8, t8, g1, g2, g3, g4, g5⟩ := hW9; refine DJ_end hD hI g5 hJ (fun j hj ht => ?_); rcases hn8 with ⟨h1, h2, h3⟩ | ⟨u, h1, h2, -⟩; exact h3 j hj ht; exfalso; omega)⟩, hFr⟩)
  exact L7 _ _ (0) _ (by omega) _ _ hL hW9 hFr (by omega) hI9 ⟨fun u hu ht => by (rw [hT9 u hu] at ht; omega), fun u p d hu _ _ ht _ => by (rw [hT9 u hu] at ht; omega)⟩ (by rw [sm_cong (Q := fun _ => 0) hT9]; rfl) rfl
abbrev rm_X7_betterAll : Room := { frames := 4, cells := 0, slots := 0, locals := 93 }
set_option maxHeartbeats 4000000 in
set_option maxRecDepth 100000 in
theorem c_X7_betterAll (l : Launch) (hst : l.stackTraces = false) (G : GG) (z : Nat) (μ : Mm) (a : Nat) (S T : Nat → Int) (ld : Nat) (H Z : Nat → Int) (g : Nat) (D : Nat → Int) (hW9 : WaysR G μ a S T) (hL : LandR G μ ld H Z) (hg : g < 64) (hD : WF H Z g D) (hI : WI H Z g S) : Ct l yX7_betterAll wsX7_betterAll rm_X7_betterAll G z [.ref a, .ref ld] μ (rS (fun r9 μ' => (∃ S', WaysR G μ' a S' T ∧ WI H Z g S' ∧ (∀ k, RND D S k → RND D S' (k + 1)) ∧ (r9 = 1 ∨ (r9 = 0 ∧ WF H Z g S'))) ∧ Fr 4 7 μ μ')) (nX) := by
  refine ct_of (cc := cX7_betterAll) (maxL := 5) (ret := (some .boolean)) (own := RX7) (by decide) rfl rfl hst (Nat.le_of_ble_eq_true rfl) ?_
  intro E hLl hnm C R hT
  have in_X7 : ∀ w ∈ u_ws RX7 TX7 2, w ∈ wsX7_betterAll := by decide +kernel
  obtain ⟨s, t, hO, hS, hT, hSr, hTr⟩ := hW9
  have hHr := hL.hr
  have hSr0 := hSr
  have hFr : Fr 4 7 μ μ := Fr.rf
  refine x_eq (lv' := [(0, .ref a), (1, .ref ld)]) rfl rfl ?_
  refine z_iconst C dX7_betterAll_0 ?_
  refine x_istore_n (lv' := [(2, .int (zI 0)), (0, .ref a), (1, .ref ld)]) C dX7_betterAll_1 rfl (by decide) rfl ?_
  refine z_iconst C dX7_betterAll_2 ?_
  refine x_istore_n (lv' := [(3, .int (zI 0)), (2, .int (zI 0)), (0, .ref a), (1, .ref ld)]) C dX7_betterAll_3 rfl (by decide) rfl ?_
  have L4 : ∀ (M9 : Nat) (μk : Mm) (k : Nat) (kz : Int) (hkz : kz = (k : Int)) (f9 : Int) (Sk : Nat → Int) (hO : OB μk a 4 8 [.ref s, .ref t]) (hS : AI G μk s 5 64 Sk) (hT : AZ G μk t 6 64 T) (hL : LandR G μk ld H Z) (hFr : Fr 4 7 μ μk) (hk : k ≤ 64) (hIk : WI H Z g Sk) (hle : ∀ j, j < 64 → Sk j ≤ S j) (hrd : ∀ K, RND D S K → ∀ j, j < k → rk D (D j) 64 ≤ K + 1 → Sk j ≤ D j) (hf : f9 = 1 ∨ (f9 = 0 ∧ (∀ j, j < 64 → Sk j = S j) ∧ ∀ j, j < k → j ≠ g → Sk j ≤ bl H Z Sk (j : Int) 4)) (hM9 : 64 - k = M9), Wx E G 0 0 4 [(3, .int (zI kz)), (2, .int (zI f9)), (0, .ref a), (1, .ref ld)] [] μk := by
    intro M9
    induction M9 using Nat.strongRecOn with
    | ind M9 ih4 =>
      intro μk k kz hkz f9 Sk hO hS hT hL hFr hk hIk hle hrd hf hM9
      subst hkz
      have hSk := hIk.2.1
      have hbk := ba_at (H := H) (Z := Z) (S := Sk) (p := (k : Int)) 4
      refine x_iload_n C dX7_betterAll_4 rfl 0 rfl ?_
      refine z_bipush C dX7_betterAll_5 (by decide) ?_
      refine z_icmp_ge (tgt := 51) C dX7_betterAll_7 (by decide) (rg_of (by omega) (by omega)) (rg_of (by omega) (by omega)) (fun c_1 => ?_) (fun c_1 => ?_)
      · refine x_iload_n C dX7_betterAll_51 rfl 1 rfl ?_
        exact x_zret C R dX7_betterAll_52 (nar_z (by omega)) (Nat.le_of_ble_eq_true rfl) (Nat.le_of_ble_eq_true rfl) (⟨_, rfl, ⟨Sk, ⟨s, t, hO, hS, hT, hSk, hTr⟩, hIk, fun K hK j hj hr => hrd K hK j (by omega) hr, by (rcases hf with h1 | ⟨h1, h2, h3⟩; exact Or.inl h1; exact Or.inr ⟨h1, WF_of hIk (fun j hj hne => h3 j (by omega) hne)⟩)⟩, hFr⟩)
      · refine x_aload_n C dX7_betterAll_10 rfl 2 rfl ?_
        refine x_iload_n C dX7_betterAll_11 rfl 0 rfl ?_
        refine x_aload_n C dX7_betterAll_12 rfl 2 rfl ?_
        refine x_iload_n C dX7_betterAll_13 rfl 0 rfl ?_
        refine x_aload_n C dX7_betterAll_14 rfl 3 rfl ?_
        refine x_callV (n := 2) (ci := 8) (Cn := RX7) (T := TX7) (N := 2) (cc9 := 0) (ss9 := 0) (rest := [.int (zI (k : Int)), .ref a]) C dX7_betterAll_15 (c_X7_bestStepFrom (kxL E) C.st G z μk _ _ _ _ _ _ (k : Int) ⟨s, t, hO, hS, hT, hSk, hTr⟩ hL (by omega)) gX7_betterAll_X7_bestStepFrom rfl (by decide +kernel) ⟨(Nat.le_of_ble_eq_true rfl), (Nat.le_of_ble_eq_true rfl)⟩ rfl ⟨_, _, hO⟩ rfl rfl (Nat.le_of_ble_eq_true rfl) rfl rfl ⟨(Nat.le_of_ble_eq_true rfl), (Nat.le_of_ble_eq_true rfl)⟩ nX_no (fun v2 μ3 hv4 => ?_)
        obtain ⟨r5, hw8, h6, hm7⟩ := hv4
        subst hw8
        rw [hm7]
        have hb8 := h6
        have hb7 : -1 ≤ r5 ∧ r5 < 64 := by (rcases hbk with ⟨h1, h2⟩ | ⟨d, h1, h2, h3, h4⟩; omega; have := nbr_rg (p := (k : Int)) (by omega) (d : Int); omega)
        refine x_stk (stk' := [.int (zI r5), .int (zI (k : Int)), .ref a]) rfl ?_
        refine x_aload_n C dX7_betterAll_18 rfl 3 rfl ?_
        refine x_callV (n := 3) (ci := 8) (Cn := RX7) (T := TX7) (N := 2) (cc9 := 0) (ss9 := 0) (rest := []) C dX7_betterAll_19 (c_X7_sumOver (kxL E) C.st G z μk _ _ _ _ _ _ (k : Int) r5 ⟨s, t, hO, hS, hT, hSk, hTr⟩ hL (by omega) (by omega)) gX7_betterAll_X7_sumOver rfl (by decide +kernel) ⟨(Nat.le_of_ble_eq_true rfl), (Nat.le_of_ble_eq_true rfl)⟩ rfl ⟨_, _, hO⟩ rfl rfl (Nat.le_of_ble_eq_true rfl) rfl rfl ⟨(Nat.le_of_ble_eq_true rfl), (Nat.le_of_ble_eq_true rfl)⟩ nX_no (fun v9 μ10 hv11 => ?_)
        obtain ⟨r12, hw15, h13, hm14⟩ := hv11
        subst hw15
        rw [hm14]
        have hv9 : r12 = bl H Z Sk (k : Int) 4 := by (rw [h13, hb8]; rcases hbk with ⟨h1, h2⟩ | ⟨d, h1, h2, h3, h4⟩; rw [h1, h2]; unfold so; rw [if_neg (by omega)]; rw [h2, h4])
        have hv8 := bl_le H Z Sk (k : Int) 4
        have hv7 : 0 ≤ r12 := by (rcases hbk with ⟨h1, h2⟩ | ⟨d, h1, h2, h3, h4⟩; omega; have := so_pos (H := H) (Z := Z) (S := Sk) (p := (k : Int)) (nb := nbr (k : Int) (d : Int)) (fun j hj => (hSk j hj).1); omega)
        have hgz := hIk.1
        refine x_stk (stk' := [.int (zI r12)]) rfl ?_
        refine x_istore (lv' := [(4, .int (zI r12)), (3, .int (zI (k : Int))), (2, .int (zI f9)), (0, .ref a), (1, .ref ld)]) C dX7_betterAll_22 (by decide) rfl ?_
        refine x_iload C dX7_betterAll_24 0 rfl ?_
        refine x_aload_n C dX7_betterAll_26 rfl 3 rfl ?_
        refine x_get (ci := 8) (Cn := RX7) (T := TX7) (N := 2) (ref := "CairnCipher$Ways") C dX7_betterAll_27 in_X7 rfl hO 0 (by decide) (by decide +kernel) rfl rfl ?_
        refine x_iload_n C dX7_betterAll_30 rfl 1 rfl ?_
        refine z_iald (j := k) C dX7_betterAll_31 hS (by omega) (by omega) (by decide) ?_
        have q_16 := hSk k (by omega)
        refine z_icmp_ge (tgt := 45) C dX7_betterAll_32 (by decide) (rg_of (by omega) (by omega)) (rg_of (by omega) (by omega)) (fun c_17 => ?_) (fun c_17 => ?_)
        · refine z_iinc (lv' := [(3, .int (zI ((k : Int) + 1))), (4, .int (zI r12)), (2, .int (zI f9)), (0, .ref a), (1, .ref ld)]) C dX7_betterAll_45 1 rfl rfl (by decide) rfl ?_
          refine x_goto (tgt := 4) C dX7_betterAll_48 (by decide) ?_
          refine x_sub (lv' := [(3, .int (zI ((k : Int) + 1))), (2, .int (zI f9)), (0, .ref a), (1, .ref ld)]) [0, 2, 3, 4] rfl ?_
          exact ih4 _ (by omega) _ (k + 1) _ (by omega) _ _ hO hS hT hL hFr (by omega) hIk hle (fun K hK j hj hr => by (by_cases e : j = k); subst e; by_cases e2 : j = g; subst e2; rw [hgz, hD.1.1]; exact Int.le_refl _; have := RND_at hD hIk (k := K) (p := j) (fun p hp h => by have h1 := hK p hp h; have h2 := hle p hp; omega) (by omega) hr e2; omega; exact hrd K hK j (by omega) hr) (by rcases hf with h1 | ⟨h1, h2, h3⟩; exact Or.inl h1; exact Or.inr ⟨h1, h2, fun j hj hne => by (by_cases e : j = k); subst e; omega; exact h3 j (by omega) hne⟩) rfl
        · refine x_aload_n C dX7_betterAll_35 rfl 3 rfl ?_
          refine x_get (ci := 8) (Cn := RX7) (T := TX7) (N := 2) (ref := "CairnCipher$Ways") C dX7_betterAll_36 in_X7 rfl hO 0 (by decide) (by decide +kernel) rfl rfl ?_
          refine x_iload_n C dX7_betterAll_39 rfl 1 rfl ?_
          refine x_iload C dX7_betterAll_40 0 rfl ?_
          refine z_iast (j := k) C dX7_betterAll_42 hS (by omega) (by omega) (by decide) (fun μ18 hSw hF19 => ?_)
          have hO := hF19.ob hO
          have hT := hF19.az hT
          have hL : LandR G μ18 ld H Z := hF19.land hL
          have hFr : Fr 4 7 μ μ18 := hFr.tr hF19
          have hS := hSw
          refine z_iconst C dX7_betterAll_43 ?_
          refine x_istore_n (lv' := [(2, .int (zI 1)), (4, .int (zI r12)), (3, .int (zI (k : Int))), (0, .ref a), (1, .ref ld)]) C dX7_betterAll_44 rfl (by decide) rfl ?_
          refine z_iinc (lv' := [(3, .int (zI ((k : Int) + 1))), (2, .int (zI 1)), (4, .int (zI r12)), (0, .ref a), (1, .ref ld)]) C dX7_betterAll_45 2 rfl rfl (by decide) rfl ?_
          refine x_goto (tgt := 4) C dX7_betterAll_48 (by decide) ?_
          refine x_sub (lv' := [(3, .int (zI ((k : Int) + 1))), (2, .int (zI 1)), (0, .ref a), (1, .ref ld)]) [0, 1, 3, 4] rfl ?_
          have hkg : k ≠ g := fun e => by (subst e; have h8 := hIk.1; rcases hbk with ⟨h1, h2⟩ | ⟨d, h1, h2, h3, h4⟩; omega; have := so_pos (H := H) (Z := Z) (S := Sk) (p := (k : Int)) (nb := nbr (k : Int) (d : Int)) (fun j hj => (hSk j hj).1); omega)
          exact ih4 _ (by omega) _ (k + 1) _ (by omega) _ _ hO hS hT hL hFr (by omega) (WI_up hIk (by omega) (by omega) (by omega) hkg) (fun j hj => by (by_cases e : j = k); subst e; rw [wr_at]; have := hle j hj; omega; rw [wr_ne e]; exact hle j hj) (fun K hK j hj hr => by (by_cases e : j = k); subst e; rw [wr_at]; have := RND_at hD hIk (k := K) (p := j) (fun p hp h => by have h1 := hK p hp h; have h2 := hle p hp; omega) (by omega) hr hkg; omega; rw [wr_ne e]; exact hrd K hK j (by omega) hr) (Or.inl rfl) rfl
  exact L4 _ _ (0) _ (by omega) _ _ hO hS hT hL hFr (by omega) hI (fun j hj => Int.le_refl _) (fun K _ j hj => absurd hj (Nat.not_lt_zero j)) (Or.inr ⟨rfl, fun j hj => rfl, fun j hj => absurd hj (Nat.not_lt_zero j)⟩) rfl
abbrev rm_X7_measureInRounds : Room := { frames := 5, cells := 0, slots := 0, locals := 117 }
set_option maxHeartbeats 4000000 in
set_option maxRecDepth 100000 in
theorem c_X7_measureInRounds (l : Launch) (hst : l.stackTraces = false) (G : GG) (z : Nat) (μ : Mm) (a : Nat) (S T : Nat → Int) (ld : Nat) (H Z : Nat → Int) (g : Nat) (hW9 : WaysR G μ a S T) (hL : LandR G μ ld H Z) (hg : g < 64) : Ct l yX7_measureInRounds wsX7_measureInRounds rm_X7_measureInRounds G z [.ref a, .int (zI (g : Int)), .ref ld] μ (rV (fun μ' => (∃ S' T', WaysR G μ' a S' T' ∧ WF H Z g S') ∧ Fr 4 7 μ μ')) (nX) := by
  refine ct_of (cc := cX7_measureInRounds) (maxL := 5) (ret := none) (own := RX7) (by decide) rfl rfl hst (Nat.le_of_ble_eq_true rfl) ?_
  intro E hLl hnm C R hT
  have hHr := hL.hr
  have hFr : Fr 4 7 μ μ := Fr.rf
  refine x_eq (lv' := [(0, .ref a), (1, .int (zI (g : Int))), (2, .ref ld)]) rfl rfl ?_
  refine x_aload_n C dX7_measureInRounds_0 rfl 0 rfl ?_
  refine x_iload_n C dX7_measureInRounds_1 rfl 1 rfl ?_
  refine x_callV (n := 1) (ci := 8) (Cn := RX7) (T := TX7) (N := 2) (cc9 := 0) (ss9 := 0) (rest := []) C dX7_measureInRounds_2 (c_X7_startAt (kxL E) C.st G z μ _ _ _ g hW9 (by omega)) gX7_measureInRounds_X7_startAt rfl (by decide +kernel) ⟨(Nat.le_of_ble_eq_true rfl), (Nat.le_of_ble_eq_true rfl)⟩ rfl hW9.ob rfl rfl (Nat.le_of_ble_eq_true rfl) rfl rfl ⟨(Nat.le_of_ble_eq_true rfl), (Nat.le_of_ble_eq_true rfl)⟩ nX_no (fun v1 μ2 hv3 => ?_)
  obtain ⟨hw7, h5⟩ := hv3
  subst hw7
  obtain ⟨⟨S9, T9, hW9, hS9, hT9⟩, hF9⟩ := h5
  have hF8 := hF9
  have hL : LandR G μ2 ld H Z := hF8.land hL
  have hFr : Fr 4 7 μ μ2 := hFr.tr hF8
  obtain ⟨D, hD⟩ := WF_ex H Z hg
  have hI9 := WI_0 (H := H) (Z := Z) S9 hS9 hg
  refine x_stk (stk' := []) rfl ?_
  refine z_iconst C dX7_measureInRounds_5 ?_
  refine x_istore_n (lv' := [(3, .int (zI 1)), (0, .ref a), (1, .int (zI (g : Int))), (2, .ref ld)]) C dX7_measureInRounds_6 rfl (by decide) rfl ?_
  refine z_iconst C dX7_measureInRounds_7 ?_
  refine x_istore (lv' := [(4, .int (zI 0)), (3, .int (zI 1)), (0, .ref a), (1, .int (zI (g : Int))), (2, .ref ld)]) C dX7_measureInRounds_8 (by decide) rfl ?_
  have L10 : ∀ (M9 : Nat) (μk : Mm) (k : Nat) (kz : Int) (hkz : kz = (k : Int)) (f9 : Int) (Sk : Nat → Int) (hL : LandR G μk ld H Z) (hW9 : WaysR G μk a Sk T9) (hFr : Fr 4 7 μ μk) (hk : k ≤ 64) (hI : WI H Z g Sk) (hR9 : RND D Sk k) (hf : f9 = 1 ∨ (f9 = 0 ∧ WF H Z g Sk)) (hM9 : 64 - k = M9), Wx E G 0 0 10 [(4, .int (zI kz)), (3, .int (zI f9)), (0, .ref a), (1, .int (zI (g : Int))), (2, .ref ld)] [] μk := by
    intro M9
    induction M9 using Nat.strongRecOn with
    | ind M9 ih10 =>
      intro μk k kz hkz f9 Sk hL hW9 hFr hk hI hR9 hf hM9
      subst hkz
      refine x_iload C dX7_measureInRounds_10 0 rfl ?_
      refine z_bipush C dX7_measureInRounds_12 (by decide) ?_
      refine z_icmp_ge (tgt := 33) C dX7_measureInRounds_14 (by decide) (rg_of (by omega) (by omega)) (rg_of (by omega) (by omega)) (fun c_9 => ?_) (fun c_9 => ?_)
      · exact x_vret C R dX7_measureInRounds_33 (Nat.le_of_ble_eq_true rfl) (Nat.le_of_ble_eq_true rfl) (⟨rfl, ⟨Sk, T9, hW9, by (rcases hf with h1 | ⟨h1, h2⟩; exact RND_end hD hI hR9 (by omega); exact h2)⟩, hFr⟩)
      · refine x_iload_n C dX7_measureInRounds_17 rfl 1 rfl ?_
        refine z_if_eq (tgt := 33) C dX7_measureInRounds_18 (by decide) (rg_of (by omega) (by omega)) (fun c_10 => ?_) (fun c_10 => ?_)
        · exact x_vret C R dX7_measureInRounds_33 (Nat.le_of_ble_eq_true rfl) (Nat.le_of_ble_eq_true rfl) (⟨rfl, ⟨Sk, T9, hW9, by (rcases hf with h1 | ⟨h1, h2⟩; exact RND_end hD hI hR9 (by omega); exact h2)⟩, hFr⟩)
        · refine x_aload_n C dX7_measureInRounds_21 rfl 2 rfl ?_
          refine x_aload_n C dX7_measureInRounds_22 rfl 4 rfl ?_
          refine x_callV (n := 1) (ci := 8) (Cn := RX7) (T := TX7) (N := 2) (cc9 := 0) (ss9 := 0) (rest := []) C dX7_measureInRounds_23 (c_X7_betterAll (kxL E) C.st G z μk _ _ _ _ _ _ g D hW9 hL hg hD hI) gX7_measureInRounds_X7_betterAll rfl (by decide +kernel) ⟨(Nat.le_of_ble_eq_true rfl), (Nat.le_of_ble_eq_true rfl)⟩ rfl hW9.ob rfl rfl (Nat.le_of_ble_eq_true rfl) rfl rfl ⟨(Nat.le_of_ble_eq_true rfl), (Nat.le_of_ble_eq_true rfl)⟩ nX_no (fun v11 μ12 hv13 => ?_)
          obtain ⟨r14, hw17, h15⟩ := hv13
          subst hw17
          obtain ⟨⟨S8, hW9, hI8, hR8, hb8⟩, hF9⟩ := h15
          have hF18 := hF9
          have hL : LandR G μ12 ld H Z := hF18.land hL
          have hFr : Fr 4 7 μ μ12 := hFr.tr hF18
          refine x_stk (stk' := [.int (zI r14)]) rfl ?_
          refine x_istore_n (lv' := [(3, .int (zI r14)), (4, .int (zI (k : Int))), (0, .ref a), (1, .int (zI (g : Int))), (2, .ref ld)]) C dX7_measureInRounds_26 rfl (by decide) rfl ?_
          refine z_iinc (lv' := [(4, .int (zI ((k : Int) + 1))), (3, .int (zI r14)), (0, .ref a), (1, .int (zI (g : Int))), (2, .ref ld)]) C dX7_measureInRounds_27 1 rfl rfl (by decide) rfl ?_
          refine x_goto (tgt := 10) C dX7_measureInRounds_30 (by decide) ?_
          exact ih10 _ (by omega) _ (k + 1) _ (by omega) _ _ hL hW9 hFr (by omega) hI8 (hR8 k hR9) hb8 rfl
  exact L10 _ _ (0) _ (by omega) _ _ hL hW9 hFr (by omega) hI9 (RND_0 hD hI9 hg) (Or.inl rfl) rfl
