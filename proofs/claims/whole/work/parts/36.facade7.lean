abbrev rm_X8_beginStep : Room := { frames := 4, cells := 0, slots := 0, locals := 93 }
set_option maxHeartbeats 4000000 in
set_option maxRecDepth 100000 in
theorem c_X8_beginStep (l : Launch) (hst : l.stackTraces = false) (G : GG) (z : Nat) (μ : Mm) (a w r : Nat) (σ : SS) (ld wy sp sl wl wp ch dr : Nat) (nv nw : Int) (S T : Nat → Int) (pc pl go st le so sc : Int) (Wr To : Nat → Int) (hO : OB μ a 0 9 [.ref ld, .ref wy, .ref sp, .ref sl, .ref wl, .ref wp, .ref ch, .ref dr, .int (zI nv), .int (zI nw)]) (hL : LandR G μ ld (σ 0) (σ 1)) (hY : WaysR G μ wy S T) (hWa : WalkerR G μ w r pc pl go st le so sc Wr To) (hr0 : 2000 ≤ r) : Ct l yX8_beginStep wsX8_beginStep rm_X8_beginStep G z [.ref a, .ref w] μ (rV (fun μ' => (∃ go' st' le', WalkerR G μ' w r pc pl go' st' le' so sc Wr To ∧ ((bb (σ 0) (σ 1) S pl 4 = -1 ∧ go' = -1 ∧ st' = st ∧ le' = le) ∨ (bb (σ 0) (σ 1) S pl 4 ≠ -1 ∧ go' = go ∧ st' = bb (σ 0) (σ 1) S pl 4 ∧ le' = (1 + iabs (σ 0 pl.toNat - σ 0 (bb (σ 0) (σ 1) S pl 4).toNat)) * pc))) ∧ Fr r (r + 3) μ μ')) (nX) := by
  refine ct_of (cc := cX8_beginStep) (maxL := 3) (ret := none) (own := RX8) (by decide) rfl rfl hst (Nat.le_of_ble_eq_true rfl) ?_
  intro E hLl hnm C R hT
  have in_X8 : ∀ w ∈ u_ws RX8 TX8 10, w ∈ wsX8_beginStep := by decide +kernel
  have hWb := hWa.rg
  have hbb := bb_rg (H := σ 0) (Z := σ 1) (S := S) (p := pl) (by omega) 4
  have hHr := hL.hr
  have hFr : Fr r (r + 3) μ μ := Fr.rf
  refine x_eq (lv' := [(0, .ref a), (1, .ref w)]) rfl rfl ?_
  refine x_aload_n C dX8_beginStep_0 rfl 0 rfl ?_
  refine x_get (ci := 9) (Cn := RX8) (T := TX8) (N := 10) (ref := "CairnCipher") C dX8_beginStep_1 in_X8 rfl hO 1 (by decide) (by decide +kernel) rfl rfl ?_
  refine x_aload_n C dX8_beginStep_4 rfl 1 rfl ?_
  refine x_callV (n := 0) (ci := 7) (Cn := RX6) (T := TX6) (N := 9) (cc9 := 0) (ss9 := 0) (rest := [.ref wy]) C dX8_beginStep_5 (c_X6_standsAt (kxL E) C.st G z μ _ _ _ _ _ _ _ _ _ _ _  hWa ) gX8_beginStep_X6_standsAt rfl (by decide +kernel) ⟨(Nat.le_of_ble_eq_true rfl), (Nat.le_of_ble_eq_true rfl)⟩ rfl hWa.ob rfl rfl (Nat.le_of_ble_eq_true rfl) rfl rfl ⟨(Nat.le_of_ble_eq_true rfl), (Nat.le_of_ble_eq_true rfl)⟩ nX_no (fun v1 μ2 hv3 => ?_)
  obtain ⟨r4, hw7, h5, hm6⟩ := hv3
  subst hw7
  rw [hm6]
  have hp9 := h5
  refine x_stk (stk' := [.int (zI r4), .ref wy]) rfl ?_
  refine x_aload_n C dX8_beginStep_8 rfl 0 rfl ?_
  refine x_get (ci := 9) (Cn := RX8) (T := TX8) (N := 10) (ref := "CairnCipher") C dX8_beginStep_9 in_X8 rfl hO 0 (by decide) (by decide +kernel) rfl rfl ?_
  refine x_callV (n := 2) (ci := 8) (Cn := RX7) (T := TX7) (N := 2) (cc9 := 0) (ss9 := 0) (rest := []) C dX8_beginStep_12 (c_X7_bestStepFrom (kxL E) C.st G z μ _ _ _ _ _ _ r4 hY hL (by omega)) gX8_beginStep_X7_bestStepFrom rfl (by decide +kernel) ⟨(Nat.le_of_ble_eq_true rfl), (Nat.le_of_ble_eq_true rfl)⟩ rfl hY.ob rfl rfl (Nat.le_of_ble_eq_true rfl) rfl rfl ⟨(Nat.le_of_ble_eq_true rfl), (Nat.le_of_ble_eq_true rfl)⟩ nX_no (fun v8 μ9 hv10 => ?_)
  obtain ⟨r11, hw14, h12, hm13⟩ := hv10
  subst hw14
  rw [hm13]
  rw [hp9] at h12
  have hb9 := h12
  refine x_stk (stk' := [.int (zI r11)]) rfl ?_
  refine x_istore_n (lv' := [(2, .int (zI r11)), (0, .ref a), (1, .ref w)]) C dX8_beginStep_15 rfl (by decide) rfl ?_
  refine x_iload_n C dX8_beginStep_16 rfl 0 rfl ?_
  refine z_iconst C dX8_beginStep_17 ?_
  refine z_icmp_ne (tgt := 28) C dX8_beginStep_18 (by decide) (rg_of (by omega) (by omega)) (rg_of (by omega) (by omega)) (fun c_15 => ?_) (fun c_15 => ?_)
  · refine x_aload_n C dX8_beginStep_28 rfl 2 rfl ?_
    refine x_iload_n C dX8_beginStep_29 rfl 0 rfl ?_
    refine x_aload_n C dX8_beginStep_30 rfl 1 rfl ?_
    refine x_get (ci := 9) (Cn := RX8) (T := TX8) (N := 10) (ref := "CairnCipher") C dX8_beginStep_31 in_X8 rfl hO 0 (by decide) (by decide +kernel) rfl rfl ?_
    refine x_aload_n C dX8_beginStep_34 rfl 2 rfl ?_
    refine x_callV (n := 0) (ci := 7) (Cn := RX6) (T := TX6) (N := 9) (cc9 := 0) (ss9 := 0) (rest := [.ref ld, .int (zI r11), .ref w]) C dX8_beginStep_35 (c_X6_standsAt (kxL E) C.st G z μ _ _ _ _ _ _ _ _ _ _ _  hWa ) gX8_beginStep_X6_standsAt rfl (by decide +kernel) ⟨(Nat.le_of_ble_eq_true rfl), (Nat.le_of_ble_eq_true rfl)⟩ rfl hWa.ob rfl rfl (Nat.le_of_ble_eq_true rfl) rfl rfl ⟨(Nat.le_of_ble_eq_true rfl), (Nat.le_of_ble_eq_true rfl)⟩ nX_no (fun v16 μ17 hv18 => ?_)
    obtain ⟨r19, hw22, h20, hm21⟩ := hv18
    subst hw22
    rw [hm21]
    have hq9 := h20
    refine x_stk (stk' := [.int (zI r19), .ref ld, .int (zI r11), .ref w]) rfl ?_
    refine x_iload_n C dX8_beginStep_38 rfl 0 rfl ?_
    refine x_callV (n := 2) (ci := 4) (Cn := RX3) (T := TX3) (N := 2) (cc9 := 0) (ss9 := 0) (rest := [.int (zI r11), .ref w]) C dX8_beginStep_39 (c_X3_stepCost (kxL E) C.st G z μ _ _ _ r19 r11 hL (by omega) (by omega)) gX8_beginStep_X3_stepCost rfl (by decide +kernel) ⟨(Nat.le_of_ble_eq_true rfl), (Nat.le_of_ble_eq_true rfl)⟩ rfl hL.ob rfl rfl (Nat.le_of_ble_eq_true rfl) rfl rfl ⟨(Nat.le_of_ble_eq_true rfl), (Nat.le_of_ble_eq_true rfl)⟩ nX_no (fun v23 μ24 hv25 => ?_)
    obtain ⟨r26, hw29, h27, hm28⟩ := hv25
    subst hw29
    rw [hm28]
    have hc9 := h27
    have hh1 := hHr pl.toNat (by omega)
    have hh2 := hHr (bb (σ 0) (σ 1) S pl 4).toNat (by omega)
    rw [hq9, hb9] at hc9
    have hh3 := iabs_rg (x := σ 0 pl.toNat - σ 0 (bb (σ 0) (σ 1) S pl 4).toNat) (n := 9) (by omega)
    refine x_stk (stk' := [.int (zI r26), .int (zI r11), .ref w]) rfl ?_
    refine x_callV (n := 2) (ci := 7) (Cn := RX6) (T := TX6) (N := 9) (cc9 := 0) (ss9 := 0) (rest := []) C dX8_beginStep_42 (c_X6_begin (kxL E) C.st G z μ _ _ _ _ _ _ _ _ _ _ _ r11 r26 hWa (by omega) (by omega)) gX8_beginStep_X6_begin rfl (by decide +kernel) ⟨(Nat.le_of_ble_eq_true rfl), (Nat.le_of_ble_eq_true rfl)⟩ rfl hWa.ob rfl rfl (Nat.le_of_ble_eq_true rfl) rfl rfl ⟨(Nat.le_of_ble_eq_true rfl), (Nat.le_of_ble_eq_true rfl)⟩ nX_no (fun v30 μ31 hv32 => ?_)
    obtain ⟨hw36, h34⟩ := hv32
    subst hw36
    obtain ⟨hWa, hF9⟩ := h34
    have hF37 := hF9
    have hO := hF37.ob hO
    have hL : LandR G μ31 ld (σ 0) (σ 1) := hF37.land hL
    have hY : WaysR G μ31 wy S T := hF37.ways hY
    have hFr : Fr r (r + 3) μ μ31 := hFr.tr hF37
    refine x_stk (stk' := []) rfl ?_
    exact x_vret C R dX8_beginStep_45 (Nat.le_of_ble_eq_true rfl) (Nat.le_of_ble_eq_true rfl) (⟨rfl, ⟨_, _, _, hWa, Or.inr ⟨by omega, rfl, hb9, by rw [hc9]⟩⟩, hFr⟩)
  · refine x_aload_n C dX8_beginStep_21 rfl 2 rfl ?_
    refine x_callV (n := 0) (ci := 7) (Cn := RX6) (T := TX6) (N := 9) (cc9 := 0) (ss9 := 0) (rest := []) C dX8_beginStep_22 (c_X6_giveUp (kxL E) C.st G z μ _ _ _ _ _ _ _ _ _ _ _  hWa ) gX8_beginStep_X6_giveUp rfl (by decide +kernel) ⟨(Nat.le_of_ble_eq_true rfl), (Nat.le_of_ble_eq_true rfl)⟩ rfl hWa.ob rfl rfl (Nat.le_of_ble_eq_true rfl) rfl rfl ⟨(Nat.le_of_ble_eq_true rfl), (Nat.le_of_ble_eq_true rfl)⟩ nX_no (fun v38 μ39 hv40 => ?_)
    obtain ⟨hw44, h42⟩ := hv40
    subst hw44
    obtain ⟨hWa, hF9⟩ := h42
    have hF45 := hF9
    have hO := hF45.ob hO
    have hL : LandR G μ39 ld (σ 0) (σ 1) := hF45.land hL
    have hY : WaysR G μ39 wy S T := hF45.ways hY
    have hFr : Fr r (r + 3) μ μ39 := hFr.tr hF45
    refine x_stk (stk' := []) rfl ?_
    exact x_goto (tgt := 45) C dX8_beginStep_25 (by decide) (x_vret C R dX8_beginStep_45 (Nat.le_of_ble_eq_true rfl) (Nat.le_of_ble_eq_true rfl) (⟨rfl, ⟨_, _, _, hWa, Or.inl ⟨by omega, rfl, rfl, rfl⟩⟩, hFr⟩))
