abbrev rm_X8_beginStep : Room := { frames := 4, cells := 0, slots := 0, locals := 93 }
set_option maxHeartbeats 4000000 in
set_option maxRecDepth 100000 in
theorem c_X8_beginStep (l : Launch) (hst : l.stackTraces = false) (G : GG) (z : Nat) (μ : Mm) (a w r : Nat) (σ : SS) (ld wy sp sl wl wp ch dr : Nat) (nv nw : Int) (S T : Nat → Int) (pc pl go st le so sc : Int) (Wr To : Nat → Int) (hO : OB μ a 0 9 [.ref ld, .ref wy, .ref sp, .ref sl, .ref wl, .ref wp, .ref ch, .ref dr, .int (zI nv), .int (zI nw)]) (hL : LandR G μ ld (σ 0) (σ 1)) (hY : WaysR G μ wy S T) (hWa : WalkerR G μ w r pc pl go st le so sc Wr To) (hr0 : 2000 ≤ r) : Ct l yX8_beginStep wsX8_beginStep rm_X8_beginStep G z [.ref a, .ref w] μ (rV (fun μ' => (∃ go' st' le', WalkerR G μ' w r pc pl go' st' le' so sc Wr To ∧ ((bb (σ 0) (σ 1) S pl 4 = -1 ∧ go' = -1 ∧ st' = st ∧ le' = le) ∨ (bb (σ 0) (σ 1) S pl 4 ≠ -1 ∧ go' = go ∧ st' = bb (σ 0) (σ 1) S pl 4 ∧ le' = (1 + iabs (σ 0 pl.toNat - σ 0 (bb (σ 0) (σ 1) S pl 4).toNat)) * pc ∧ 1 ≤ le'))) ∧ Fr r (r + 3) μ μ')) (nX) := by
  refine ct_of (cc := cX8_beginStep) (maxL := 3) (ret := none) (own := RX8) (by decide) rfl rfl hst (Nat.le_of_ble_eq_true rfl) ?_
  intro E hLl hnm C R hT
  have in_X8 : ∀ w ∈ u_ws RX8 TX8 10, w ∈ wsX8_beginStep := by decide +kernel
  have hWb := hWa.rg
  have hbb := bb_rg (H := σ 0) (Z := σ 1) (S := S) (p := pl) (by omega) 4
  have hHr := hL.hr
  have hFr : Fr r (r + 3) μ μ := Fr.rf
  refine x_eq (lv' := [(0, .ref a), (1, .ref w)]) rfl rfl ?_
  refine x_aload_n C dX8_beginStep_0 rfl 0 rfl ?_
  refine x_get (ci := 9) (Cn := RX8) (T := TX8) (N := 10) (ref := "CairnCipher") C dX8_beginStep_1 in_X8 rfl hO 1 (by decide) (by decide +kernel) rfl rfl ?_
  refine x_aload_n C dX8_beginStep_4 rfl 1 rfl ?_
  refine x_callV (n := 0) (ci := 7) (Cn := RX6) (T := TX6) (N := 9) (cc9 := 0) (ss9 := 0) (rest := [.ref wy]) C dX8_beginStep_5 (c_X6_standsAt (kxL E) C.st G z μ _ _ _ _ _ _ _ _ _ _ _  hWa ) gX8_beginStep_X6_standsAt rfl (by decide +kernel) ⟨(Nat.le_of_ble_eq_true rfl), (Nat.le_of_ble_eq_true rfl)⟩ rfl hWa.ob rfl rfl (Nat.le_of_ble_eq_true rfl) rfl rfl ⟨(Nat.le_of_ble_eq_true rfl), (Nat.le_of_ble_eq_true rfl)⟩ nX_no (fun v1 μ2 hv3 => ?_)
  obtain ⟨r4, hw7, h5, hm6⟩ := hv3
  subst hw7
  rw [hm6]
  have hp9 := h5
  refine x_stk (stk' := [.int (zI r4), .ref wy]) rfl ?_
  refine x_aload_n C dX8_beginStep_8 rfl 0 rfl ?_
  refine x_get (ci := 9) (Cn := RX8) (T := TX8) (N := 10) (ref := "CairnCipher") C dX8_beginStep_9 in_X8 rfl hO 0 (by decide) (by decide +kernel) rfl rfl ?_
  refine x_callV (n := 2) (ci := 8) (Cn := RX7) (T := TX7) (N := 2) (cc9 := 0) (ss9 := 0) (rest := []) C dX8_beginStep_12 (c_X7_bestStepFrom (kxL E) C.st G z μ _ _ _ _ _ _ r4 hY hL (by omega)) gX8_beginStep_X7_bestStepFrom rfl (by decide +kernel) ⟨(Nat.le_of_ble_eq_true rfl), (Nat.le_of_ble_eq_true rfl)⟩ rfl hY.ob rfl rfl (Nat.le_of_ble_eq_true rfl) rfl rfl ⟨(Nat.le_of_ble_eq_true rfl), (Nat.le_of_ble_eq_true rfl)⟩ nX_no (fun v8 μ9 hv10 => ?_)
  obtain ⟨r11, hw14, h12, hm13⟩ := hv10
  subst hw14
  rw [hm13]
  rw [hp9] at h12
  have hb9 := h12
  refine x_stk (stk' := [.int (zI r11)]) rfl ?_
  refine x_istore_n (lv' := [(2, .int (zI r11)), (0, .ref a), (1, .ref w)]) C dX8_beginStep_15 rfl (by decide) rfl ?_
  refine x_iload_n C dX8_beginStep_16 rfl 0 rfl ?_
  refine z_iconst C dX8_beginStep_17 ?_
  refine z_icmp_ne (tgt := 28) C dX8_beginStep_18 (by decide) (rg_of (by omega) (by omega)) (rg_of (by omega) (by omega)) (fun c_15 => ?_) (fun c_15 => ?_)
  · refine x_aload_n C dX8_beginStep_28 rfl 2 rfl ?_
    refine x_iload_n C dX8_beginStep_29 rfl 0 rfl ?_
    refine x_aload_n C dX8_beginStep_30 rfl 1 rfl ?_
    refine x_get (ci := 9) (Cn := RX8) (T := TX8) (N := 10) (ref := "CairnCipher") C dX8_beginStep_31 in_X8 rfl hO 0 (by decide) (by decide +kernel) rfl rfl ?_
    refine x_aload_n C dX8_beginStep_34 rfl 2 rfl ?_
    refine x_callV (n := 0) (ci := 7) (Cn := RX6) (T := TX6) (N := 9) (cc9 := 0) (ss9 := 0) (rest := [.ref ld, .int (zI r11), .ref w]) C dX8_beginStep_35 (c_X6_standsAt (kxL E) C.st G z μ _ _ _ _ _ _ _ _ _ _ _  hWa ) gX8_beginStep_X6_standsAt rfl (by decide +kernel) ⟨(Nat.le_of_ble_eq_true rfl), (Nat.le_of_ble_eq_true rfl)⟩ rfl hWa.ob rfl rfl (Nat.le_of_ble_eq_true rfl) rfl rfl ⟨(Nat.le_of_ble_eq_true rfl), (Nat.le_of_ble_eq_true rfl)⟩ nX_no (fun v16 μ17 hv18 => ?_)
    obtain ⟨r19, hw22, h20, hm21⟩ := hv18
    subst hw22
    rw [hm21]
    have hq9 := h20
    refine x_stk (stk' := [.int (zI r19), .ref ld, .int (zI r11), .ref w]) rfl ?_
    refine x_iload_n C dX8_beginStep_38 rfl 0 rfl ?_
    refine x_callV (n := 2) (ci := 4) (Cn := RX3) (T := TX3) (N := 2) (cc9 := 0) (ss9 := 0) (rest := [.int (zI r11), .ref w]) C dX8_beginStep_39 (c_X3_stepCost (kxL E) C.st G z μ _ _ _ r19 r11 hL (by omega) (by omega)) gX8_beginStep_X3_stepCost rfl (by decide +kernel) ⟨(Nat.le_of_ble_eq_true rfl), (Nat.le_of_ble_eq_true rfl)⟩ rfl hL.ob rfl rfl (Nat.le_of_ble_eq_true rfl) rfl rfl ⟨(Nat.le_of_ble_eq_true rfl), (Nat.le_of_ble_eq_true rfl)⟩ nX_no (fun v23 μ24 hv25 => ?_)
    obtain ⟨r26, hw29, h27, hm28⟩ := hv25
    subst hw29
    rw [hm28]
    have hc9 := h27
    have hh1 := hHr pl.toNat (by omega)
    have hh2 := hHr (bb (σ 0) (σ 1) S pl 4).toNat (by omega)
    rw [hq9, hb9] at hc9
    have hh3 := iabs_rg (x := σ 0 pl.toNat - σ 0 (bb (σ 0) (σ 1) S pl 4).toNat) (n := 9) (by omega)
    refine x_stk (stk' := [.int (zI r26), .int (zI r11), .ref w]) rfl ?_
    refine x_callV (n := 2) (ci := 7) (Cn := RX6) (T := TX6) (N := 9) (cc9 := 0) (ss9 := 0) (rest := []) C dX8_beginStep_42 (c_X6_begin (kxL E) C.st G z μ _ _ _ _ _ _ _ _ _ _ _ r11 r26 hWa (by omega) (by omega)) gX8_beginStep_X6_begin rfl (by decide +kernel) ⟨(Nat.le_of_ble_eq_true rfl), (Nat.le_of_ble_eq_true rfl)⟩ rfl hWa.ob rfl rfl (Nat.le_of_ble_eq_true rfl) rfl rfl ⟨(Nat.le_of_ble_eq_true rfl), (Nat.le_of_ble_eq_true rfl)⟩ nX_no (fun v30 μ31 hv32 => ?_)
    obtain ⟨hw36, h34⟩ := hv32
    subst hw36
    obtain ⟨hWa, hF9⟩ := h34
    have hF37 := hF9
    have hO := hF37.ob hO
    have hL : LandR G μ31 ld (σ 0) (σ 1) := hF37.land hL
    have hY : WaysR G μ31 wy S T := hF37.ways hY
    have hFr : Fr r (r + 3) μ μ31 := hFr.tr hF37
    refine x_stk (stk' := []) rfl ?_
    exact x_vret C R dX8_beginStep_45 (Nat.le_of_ble_eq_true rfl) (Nat.le_of_ble_eq_true rfl) (⟨rfl, ⟨_, _, _, hWa, Or.inr ⟨by omega, rfl, hb9, by rw [hc9], (by have := mul_rg (c := r26) (p := pc) (by omega) (by omega); omega)⟩⟩, hFr⟩)
  · refine x_aload_n C dX8_beginStep_21 rfl 2 rfl ?_
    refine x_callV (n := 0) (ci := 7) (Cn := RX6) (T := TX6) (N := 9) (cc9 := 0) (ss9 := 0) (rest := []) C dX8_beginStep_22 (c_X6_giveUp (kxL E) C.st G z μ _ _ _ _ _ _ _ _ _ _ _  hWa ) gX8_beginStep_X6_giveUp rfl (by decide +kernel) ⟨(Nat.le_of_ble_eq_true rfl), (Nat.le_of_ble_eq_true rfl)⟩ rfl hWa.ob rfl rfl (Nat.le_of_ble_eq_true rfl) rfl rfl ⟨(Nat.le_of_ble_eq_true rfl), (Nat.le_of_ble_eq_true rfl)⟩ nX_no (fun v38 μ39 hv40 => ?_)
    obtain ⟨hw44, h42⟩ := hv40
    subst hw44
    obtain ⟨hWa, hF9⟩ := h42
    have hF45 := hF9
    have hO := hF45.ob hO
    have hL : LandR G μ39 ld (σ 0) (σ 1) := hF45.land hL
    have hY : WaysR G μ39 wy S T := hF45.ways hY
    have hFr : Fr r (r + 3) μ μ39 := hFr.tr hF45
    refine x_stk (stk' := []) rfl ?_
    exact x_goto (tgt := 45) C dX8_beginStep_25 (by decide) (x_vret C R dX8_beginStep_45 (Nat.le_of_ble_eq_true rfl) (Nat.le_of_ble_eq_true rfl) (⟨rfl, ⟨_, _, _, hWa, Or.inl ⟨by omega, rfl, rfl, rfl⟩⟩, hFr⟩))
abbrev rm_X8_comesToGoal : Room := { frames := 5, cells := 0, slots := 0, locals := 115 }
set_option maxHeartbeats 4000000 in
set_option maxRecDepth 100000 in
theorem c_X8_comesToGoal (l : Launch) (hst : l.stackTraces = false) (G : GG) (z : Nat) (μ : Mm) (a w r : Nat) (σ : SS) (ld wy sp sl wl wp ch dr : Nat) (nv nw : Int) (S T : Nat → Int) (pc pl go st le so sc : Int) (Wr To : Nat → Int) (m : Int) (hO : OB μ a 0 9 [.ref ld, .ref wy, .ref sp, .ref sl, .ref wl, .ref wp, .ref ch, .ref dr, .int (zI nv), .int (zI nw)]) (hL : LandR G μ ld (σ 0) (σ 1)) (hY : WaysR G μ wy S T) (hWa : WalkerR G μ w r pc pl go st le so sc Wr To) (hr0 : 2000 ≤ r) (hm : 1 ≤ m ∧ m ≤ 60) (hle0 : st = -1 ∨ 1 ≤ le) : Ct l yX8_comesToGoal wsX8_comesToGoal rm_X8_comesToGoal G z [.ref a, .ref w, .int (zI m)] μ (rS (fun r9 μ' => ((∃ pl' go' st' le' S' T', WalkerR G μ' w r pc pl' go' st' le' so sc Wr To ∧ WaysR G μ' wy S' T' ∧ wi σ pc m.toNat (pl, go, st, le) = ((pl', go', st', le'), r9) ∧ (r9 = 0 ∨ r9 = 1)) ∧ ∃ μm, Fr 4 7 μ μm ∧ Fr r (r + 3) μm μ'))) (nX) := by
  refine ct_of (cc := cX8_comesToGoal) (maxL := 5) (ret := (some .boolean)) (own := RX8) (by decide) rfl rfl hst (Nat.le_of_ble_eq_true rfl) ?_
  intro E hLl hnm C R hT
  have in_X8 : ∀ w ∈ u_ws RX8 TX8 10, w ∈ wsX8_comesToGoal := by decide +kernel
  have hF2 : F2 r (r + 3) μ μ := F2.rf
  refine x_eq (lv' := [(0, .ref a), (1, .ref w), (2, .int (zI m))]) rfl rfl ?_
  refine z_iconst C dX8_comesToGoal_0 ?_
  refine x_istore_n (lv' := [(3, .int (zI 0)), (0, .ref a), (1, .ref w), (2, .int (zI m))]) C dX8_comesToGoal_1 rfl (by decide) rfl ?_
  refine z_iconst C dX8_comesToGoal_2 ?_
  refine x_istore (lv' := [(4, .int (zI 0)), (3, .int (zI 0)), (0, .ref a), (1, .ref w), (2, .int (zI m))]) C dX8_comesToGoal_3 (by decide) rfl ?_
  have L5 : ∀ (M9 : Nat) (μk : Mm) (k : Nat) (kz : Int) (hkz : kz = (k : Int)) (f9 : Int) (plk : Int) (gok : Int) (stk9 : Int) (lek : Int) (Sk : Nat → Int) (Tk : Nat → Int) (hO : OB μk a 0 9 [.ref ld, .ref wy, .ref sp, .ref sl, .ref wl, .ref wp, .ref ch, .ref dr, .int (zI nv), .int (zI nw)]) (hL : LandR G μk ld (σ 0) (σ 1)) (hY : WaysR G μk wy Sk Tk) (hWa : WalkerR G μk w r pc plk gok stk9 lek so sc Wr To) (hF2 : F2 r (r + 3) μ μk) (hk : (k : Int) ≤ m) (hwi : wi σ pc k (pl, go, st, le) = ((plk, gok, stk9, lek), 0)) (hle : stk9 = -1 ∨ 1 ≤ lek) (hf : f9 = 0 ∨ (f9 = 1 ∧ (gok = -1 ∨ WF (σ 0) (σ 1) gok.toNat Sk))) (hM9 : m.toNat - k = M9), Wx E G 0 0 5 [(4, .int (zI kz)), (3, .int (zI f9)), (0, .ref a), (1, .ref w), (2, .int (zI m))] [] μk := by
    intro M9
    induction M9 using Nat.strongRecOn with
    | ind M9 ih5 =>
      intro μk k kz hkz f9 plk gok stk9 lek Sk Tk hO hL hY hWa hF2 hk hwi hle hf hM9
      subst hkz
      have hWb := hWa.rg
      refine x_iload C dX8_comesToGoal_5 0 rfl ?_
      refine x_iload_n C dX8_comesToGoal_7 rfl 4 rfl ?_
      refine z_icmp_ge (tgt := 66) C dX8_comesToGoal_8 (by decide) (rg_of (by omega) (by omega)) (rg_of (by omega) (by omega)) (fun c_1 => ?_) (fun c_1 => ?_)
      · refine z_iconst C dX8_comesToGoal_66 ?_
        exact x_zret C R dX8_comesToGoal_67 (nar_z (by omega)) (Nat.le_of_ble_eq_true rfl) (Nat.le_of_ble_eq_true rfl) (⟨_, rfl, ⟨plk, gok, stk9, lek, _, _, hWa, hY, by (by_cases e : m.toNat = k; rw [e]; exact hwi; have e1 : gok = -1 := (by omega); have e2 : stk9 = -1 := (by omega); rw [e1, e2] at hwi; rw [e1, e2]; have := wi_rest hwi (m.toNat - k); rw [show k + (m.toNat - k) = m.toNat by omega] at this; exact this), Or.inl rfl⟩, hF2.mid⟩)
      · refine x_aload_n C dX8_comesToGoal_11 rfl 3 rfl ?_
        refine x_callV (n := 0) (ci := 7) (Cn := RX6) (T := TX6) (N := 9) (cc9 := 0) (ss9 := 0) (rest := []) C dX8_comesToGoal_12 (c_X6_isResting (kxL E) C.st G z μk _ _ _ _ _ _ _ _ _ _ _  hWa ) gX8_comesToGoal_X6_isResting rfl (by decide +kernel) ⟨(Nat.le_of_ble_eq_true rfl), (Nat.le_of_ble_eq_true rfl)⟩ rfl hWa.ob rfl rfl (Nat.le_of_ble_eq_true rfl) rfl rfl ⟨(Nat.le_of_ble_eq_true rfl), (Nat.le_of_ble_eq_true rfl)⟩ nX_no (fun v2 μ3 hv4 => ?_)
        obtain ⟨r5, hw8, h6, hm7⟩ := hv4
        subst hw8
        rw [hm7]
        have hre := h6
        refine x_stk (stk' := [.int (zI r5)]) rfl ?_
        refine z_if_ne (tgt := 66) C dX8_comesToGoal_15 (by decide) (rg_of (by omega) (by omega)) (fun c_9 => ?_) (fun c_9 => ?_)
        · refine z_iconst C dX8_comesToGoal_66 ?_
          exact x_zret C R dX8_comesToGoal_67 (nar_z (by omega)) (Nat.le_of_ble_eq_true rfl) (Nat.le_of_ble_eq_true rfl) (⟨_, rfl, ⟨plk, gok, stk9, lek, _, _, hWa, hY, by (by_cases e : m.toNat = k; rw [e]; exact hwi; have e1 : gok = -1 := (by omega); have e2 : stk9 = -1 := (by omega); rw [e1, e2] at hwi; rw [e1, e2]; have := wi_rest hwi (m.toNat - k); rw [show k + (m.toNat - k) = m.toNat by omega] at this; exact this), Or.inl rfl⟩, hF2.mid⟩)
        · refine x_aload_n C dX8_comesToGoal_18 rfl 3 rfl ?_
          refine x_callV (n := 0) (ci := 7) (Cn := RX6) (T := TX6) (N := 9) (cc9 := 0) (ss9 := 0) (rest := []) C dX8_comesToGoal_19 (c_X6_hasStep (kxL E) C.st G z μk _ _ _ _ _ _ _ _ _ _ _  hWa ) gX8_comesToGoal_X6_hasStep rfl (by decide +kernel) ⟨(Nat.le_of_ble_eq_true rfl), (Nat.le_of_ble_eq_true rfl)⟩ rfl hWa.ob rfl rfl (Nat.le_of_ble_eq_true rfl) rfl rfl ⟨(Nat.le_of_ble_eq_true rfl), (Nat.le_of_ble_eq_true rfl)⟩ nX_no (fun v10 μ11 hv12 => ?_)
          obtain ⟨r13, hw16, h14, hm15⟩ := hv12
          subst hw16
          rw [hm15]
          have hst9 := h14
          refine x_stk (stk' := [.int (zI r13)]) rfl ?_
          refine z_if_ne (tgt := 51) C dX8_comesToGoal_22 (by decide) (rg_of (by omega) (by omega)) (fun c_17 => ?_) (fun c_17 => ?_)
          · have hwb : wb σ pc (plk, gok, stk9, lek) = (plk, gok, stk9, lek) := wb_step (by omega)
            refine x_aload_n C dX8_comesToGoal_51 rfl 3 rfl ?_
            refine x_callV (n := 0) (ci := 7) (Cn := RX6) (T := TX6) (N := 9) (cc9 := 0) (ss9 := 0) (rest := []) C dX8_comesToGoal_52 (c_X6_spendMinute (kxL E) C.st G z μk _ _ _ _ _ _ _ _ _ _ _  hWa (by omega)) gX8_comesToGoal_X6_spendMinute rfl (by decide +kernel) ⟨(Nat.le_of_ble_eq_true rfl), (Nat.le_of_ble_eq_true rfl)⟩ rfl hWa.ob rfl rfl (Nat.le_of_ble_eq_true rfl) rfl rfl ⟨(Nat.le_of_ble_eq_true rfl), (Nat.le_of_ble_eq_true rfl)⟩ nX_no (fun v18 μ19 hv20 => ?_)
            obtain ⟨r21, hw24, h22⟩ := hv20
            subst hw24
            obtain ⟨⟨pl9, go9, st9, le9, hWa, hsp9⟩, hF9⟩ := h22
            have hF25 := hF9
            have hO := hF25.ob hO
            have hL : LandR G μ19 ld (σ 0) (σ 1) := hF25.land hL
            have hY : WaysR G μ19 wy Sk Tk := hF25.ways hY
            have hF2 : F2 r (r + 3) μ μ19 := hF2.step hF25
            have hwm := wm_of hsp9
            have hwn := wi_next hwi hwb hwm
            have hwd := hWa.rg
            refine x_stk (stk' := [.int (zI r21)]) rfl ?_
            refine z_if_eq (tgt := 60) C dX8_comesToGoal_55 (by decide) (rg_of (by omega) (by omega)) (fun c_26 => ?_) (fun c_26 => ?_)
            · refine z_iinc (lv' := [(4, .int (zI ((k : Int) + 1))), (3, .int (zI f9)), (0, .ref a), (1, .ref w), (2, .int (zI m))]) C dX8_comesToGoal_60 0 rfl rfl (by decide) rfl ?_
              refine x_goto (tgt := 5) C dX8_comesToGoal_63 (by decide) ?_
              exact ih5 _ (by omega) _ (k + 1) _ (by omega) _ _ _ _ _ _ _ hO hL hY hWa hF2 (by omega) (by rw [hwn, show (0 : Int) + r21 = 0 by omega]) (by omega) (by rcases hf with h1 | ⟨h1, h2⟩; exact Or.inl h1; refine Or.inr ⟨h1, ?_⟩; by_cases e : go9 = -1; exact Or.inl e; rw [show go9 = gok by omega]; rcases h2 with h2 | h2; exfalso; omega; exact Or.inr h2) rfl
            · refine z_iconst C dX8_comesToGoal_58 ?_
              exact x_zret C R dX8_comesToGoal_59 (nar_z (by omega)) (Nat.le_of_ble_eq_true rfl) (Nat.le_of_ble_eq_true rfl) (⟨_, rfl, ⟨pl9, go9, st9, le9, _, _, hWa, hY, by (have e1 : go9 = -1 := (by omega); have e2 : st9 = -1 := (by omega); rw [e1, e2, show (0 : Int) + r21 = 1 by omega] at hwn; rw [e1, e2]; have := wi_rest hwn (m.toNat - (k + 1)); rw [show k + 1 + (m.toNat - (k + 1)) = m.toNat by omega] at this; exact this), Or.inr rfl⟩, hF2.mid⟩)
          · refine x_iload_n C dX8_comesToGoal_25 rfl 1 rfl ?_
            refine z_if_ne (tgt := 46) C dX8_comesToGoal_26 (by decide) (rg_of (by omega) (by omega)) (fun c_27 => ?_) (fun c_27 => ?_)
            · have hWF : WF (σ 0) (σ 1) gok.toNat Sk := by (rcases hf with h1 | ⟨h1, h2 | h2⟩; exfalso; omega; exfalso; omega; exact h2)
              refine x_aload_n C dX8_comesToGoal_46 rfl 2 rfl ?_
              refine x_aload_n C dX8_comesToGoal_47 rfl 3 rfl ?_
              refine x_callV (n := 1) (ci := 9) (Cn := RX8) (T := TX8) (N := 10) (cc9 := 0) (ss9 := 0) (rest := []) C dX8_comesToGoal_48 (c_X8_beginStep (kxL E) C.st G z μk _ _ _ _ _ _ _ _ _ _ _ _ _ _ _ _ _ _ _ _ _ _ _ _ _ hO hL hY hWa (by omega)) gX8_comesToGoal_X8_beginStep rfl (by decide +kernel) ⟨(Nat.le_of_ble_eq_true rfl), (Nat.le_of_ble_eq_true rfl)⟩ rfl ⟨_, _, hO⟩ rfl rfl (Nat.le_of_ble_eq_true rfl) rfl rfl ⟨(Nat.le_of_ble_eq_true rfl), (Nat.le_of_ble_eq_true rfl)⟩ nX_no (fun v28 μ29 hv30 => ?_)
              obtain ⟨hw34, h32⟩ := hv30
              subst hw34
              obtain ⟨⟨go8, st8, le8, hWa, hbg⟩, hF9⟩ := h32
              have hF35 := hF9
              have hO := hF35.ob hO
              have hL : LandR G μ29 ld (σ 0) (σ 1) := hF35.land hL
              have hY : WaysR G μ29 wy Sk Tk := hF35.ways hY
              have hF2 : F2 r (r + 3) μ μ29 := hF2.step hF35
              have hwb : wb σ pc (plk, gok, stk9, lek) = (plk, go8, st8, le8) := by (rw [show stk9 = -1 by omega]; exact wb_begin (by omega) hWF (by rcases hbg with ⟨a1, a2, a3, a4⟩ | ⟨a1, a2, a3, a4, a5⟩; exact Or.inl ⟨a1, a2, by omega, a4⟩; exact Or.inr ⟨a1, a2, a3, a4⟩))
              have hwc := hWa.rg
              refine x_stk (stk' := []) rfl ?_
              refine x_aload_n C dX8_comesToGoal_51 rfl 3 rfl ?_
              refine x_callV (n := 0) (ci := 7) (Cn := RX6) (T := TX6) (N := 9) (cc9 := 0) (ss9 := 0) (rest := []) C dX8_comesToGoal_52 (c_X6_spendMinute (kxL E) C.st G z μ29 _ _ _ _ _ _ _ _ _ _ _  hWa (by omega)) gX8_comesToGoal_X6_spendMinute rfl (by decide +kernel) ⟨(Nat.le_of_ble_eq_true rfl), (Nat.le_of_ble_eq_true rfl)⟩ rfl hWa.ob rfl rfl (Nat.le_of_ble_eq_true rfl) rfl rfl ⟨(Nat.le_of_ble_eq_true rfl), (Nat.le_of_ble_eq_true rfl)⟩ nX_no (fun v36 μ37 hv38 => ?_)
              obtain ⟨r39, hw42, h40⟩ := hv38
              subst hw42
              obtain ⟨⟨pl9, go9, st9, le9, hWa, hsp9⟩, hF9⟩ := h40
              have hF43 := hF9
              have hO := hF43.ob hO
              have hL : LandR G μ37 ld (σ 0) (σ 1) := hF43.land hL
              have hY : WaysR G μ37 wy Sk Tk := hF43.ways hY
              have hF2 : F2 r (r + 3) μ μ37 := hF2.step hF43
              have hwm := wm_of hsp9
              have hwn := wi_next hwi hwb hwm
              have hwd := hWa.rg
              refine x_stk (stk' := [.int (zI r39)]) rfl ?_
              refine z_if_eq (tgt := 60) C dX8_comesToGoal_55 (by decide) (rg_of (by omega) (by omega)) (fun c_44 => ?_) (fun c_44 => ?_)
              · refine z_iinc (lv' := [(4, .int (zI ((k : Int) + 1))), (3, .int (zI f9)), (0, .ref a), (1, .ref w), (2, .int (zI m))]) C dX8_comesToGoal_60 0 rfl rfl (by decide) rfl ?_
                refine x_goto (tgt := 5) C dX8_comesToGoal_63 (by decide) ?_
                exact ih5 _ (by omega) _ (k + 1) _ (by omega) _ _ _ _ _ _ _ hO hL hY hWa hF2 (by omega) (by rw [hwn, show (0 : Int) + r39 = 0 by omega]) (by omega) (by refine Or.inr ⟨by omega, ?_⟩; by_cases e : go9 = -1; exact Or.inl e; rw [show go9 = gok by omega]; exact Or.inr hWF) rfl
              · refine z_iconst C dX8_comesToGoal_58 ?_
                exact x_zret C R dX8_comesToGoal_59 (nar_z (by omega)) (Nat.le_of_ble_eq_true rfl) (Nat.le_of_ble_eq_true rfl) (⟨_, rfl, ⟨pl9, go9, st9, le9, _, _, hWa, hY, by (have e1 : go9 = -1 := (by omega); have e2 : st9 = -1 := (by omega); rw [e1, e2, show (0 : Int) + r39 = 1 by omega] at hwn; rw [e1, e2]; have := wi_rest hwn (m.toNat - (k + 1)); rw [show k + 1 + (m.toNat - (k + 1)) = m.toNat by omega] at this; exact this), Or.inr rfl⟩, hF2.mid⟩)
            · refine x_aload_n C dX8_comesToGoal_29 rfl 2 rfl ?_
              refine x_get (ci := 9) (Cn := RX8) (T := TX8) (N := 10) (ref := "CairnCipher") C dX8_comesToGoal_30 in_X8 rfl hO 1 (by decide) (by decide +kernel) rfl rfl ?_
              refine x_aload_n C dX8_comesToGoal_33 rfl 3 rfl ?_
              refine x_callV (n := 0) (ci := 7) (Cn := RX6) (T := TX6) (N := 9) (cc9 := 0) (ss9 := 0) (rest := [.ref wy]) C dX8_comesToGoal_34 (c_X6_aimsAt (kxL E) C.st G z μk _ _ _ _ _ _ _ _ _ _ _  hWa ) gX8_comesToGoal_X6_aimsAt rfl (by decide +kernel) ⟨(Nat.le_of_ble_eq_true rfl), (Nat.le_of_ble_eq_true rfl)⟩ rfl hWa.ob rfl rfl (Nat.le_of_ble_eq_true rfl) rfl rfl ⟨(Nat.le_of_ble_eq_true rfl), (Nat.le_of_ble_eq_true rfl)⟩ nX_no (fun v45 μ46 hv47 => ?_)
              obtain ⟨r48, hw51, h49, hm50⟩ := hv47
              subst hw51
              rw [hm50]
              have hai := h49
              refine x_stk (stk' := [.int (zI r48), .ref wy]) rfl ?_
              refine x_aload_n C dX8_comesToGoal_37 rfl 2 rfl ?_
              refine x_get (ci := 9) (Cn := RX8) (T := TX8) (N := 10) (ref := "CairnCipher") C dX8_comesToGoal_38 in_X8 rfl hO 0 (by decide) (by decide +kernel) rfl rfl ?_
              obtain ⟨g9, hg9⟩ : ∃ g9 : Nat, gok = (g9 : Int) := ⟨gok.toNat, by omega⟩
              refine x_stk (stk' := [.ref ld, .int (zI (g9 : Int)), .ref wy]) (by rw [hai, hg9]) ?_
              refine x_callV (n := 2) (ci := 8) (Cn := RX7) (T := TX7) (N := 2) (cc9 := 0) (ss9 := 0) (rest := []) C dX8_comesToGoal_41 (c_X7_measureNearestFirst (kxL E) C.st G z μk _ _ _ _ _ _ g9 hY hL (by omega)) gX8_comesToGoal_X7_measureNearestFirst rfl (by decide +kernel) ⟨(Nat.le_of_ble_eq_true rfl), (Nat.le_of_ble_eq_true rfl)⟩ rfl hY.ob rfl rfl (Nat.le_of_ble_eq_true rfl) rfl rfl ⟨(Nat.le_of_ble_eq_true rfl), (Nat.le_of_ble_eq_true rfl)⟩ nX_no (fun v52 μ53 hv54 => ?_)
              obtain ⟨hw58, h56⟩ := hv54
              subst hw58
              obtain ⟨⟨S9, T9, hY, hD9⟩, hF9⟩ := h56
              have hF59 := hF9
              have hO := hF59.ob hO
              have hL : LandR G μ53 ld (σ 0) (σ 1) := hF59.land hL
              have hWa : WalkerR G μ53 w r pc plk gok stk9 lek so sc Wr To := hF59.walker hWa
              have hF2 : F2 r (r + 3) μ μ53 := hF2.step hF59
              refine x_stk (stk' := []) rfl ?_
              refine z_iconst C dX8_comesToGoal_44 ?_
              refine x_istore_n (lv' := [(3, .int (zI 1)), (4, .int (zI (k : Int))), (0, .ref a), (1, .ref w), (2, .int (zI m))]) C dX8_comesToGoal_45 rfl (by decide) rfl ?_
              have hWF : WF (σ 0) (σ 1) gok.toNat S9 := by (rw [hg9, Int.toNat_natCast]; exact hD9)
              refine x_aload_n C dX8_comesToGoal_46 rfl 2 rfl ?_
              refine x_aload_n C dX8_comesToGoal_47 rfl 3 rfl ?_
              refine x_callV (n := 1) (ci := 9) (Cn := RX8) (T := TX8) (N := 10) (cc9 := 0) (ss9 := 0) (rest := []) C dX8_comesToGoal_48 (c_X8_beginStep (kxL E) C.st G z μ53 _ _ _ _ _ _ _ _ _ _ _ _ _ _ _ _ _ _ _ _ _ _ _ _ _ hO hL hY hWa (by omega)) gX8_comesToGoal_X8_beginStep rfl (by decide +kernel) ⟨(Nat.le_of_ble_eq_true rfl), (Nat.le_of_ble_eq_true rfl)⟩ rfl ⟨_, _, hO⟩ rfl rfl (Nat.le_of_ble_eq_true rfl) rfl rfl ⟨(Nat.le_of_ble_eq_true rfl), (Nat.le_of_ble_eq_true rfl)⟩ nX_no (fun v60 μ61 hv62 => ?_)
              obtain ⟨hw66, h64⟩ := hv62
              subst hw66
              obtain ⟨⟨go8, st8, le8, hWa, hbg⟩, hF9⟩ := h64
              have hF67 := hF9
              have hO := hF67.ob hO
              have hL : LandR G μ61 ld (σ 0) (σ 1) := hF67.land hL
              have hF2 : F2 r (r + 3) μ μ61 := hF2.step hF67
              have hY : WaysR G μ61 wy S9 T9 := hF67.ways hY
              have hwb : wb σ pc (plk, gok, stk9, lek) = (plk, go8, st8, le8) := by (rw [show stk9 = -1 by omega]; exact wb_begin (by omega) hWF (by rcases hbg with ⟨a1, a2, a3, a4⟩ | ⟨a1, a2, a3, a4, a5⟩; exact Or.inl ⟨a1, a2, by omega, a4⟩; exact Or.inr ⟨a1, a2, a3, a4⟩))
              have hwc := hWa.rg
              refine x_stk (stk' := []) rfl ?_
              refine x_aload_n C dX8_comesToGoal_51 rfl 3 rfl ?_
              refine x_callV (n := 0) (ci := 7) (Cn := RX6) (T := TX6) (N := 9) (cc9 := 0) (ss9 := 0) (rest := []) C dX8_comesToGoal_52 (c_X6_spendMinute (kxL E) C.st G z μ61 _ _ _ _ _ _ _ _ _ _ _  hWa (by omega)) gX8_comesToGoal_X6_spendMinute rfl (by decide +kernel) ⟨(Nat.le_of_ble_eq_true rfl), (Nat.le_of_ble_eq_true rfl)⟩ rfl hWa.ob rfl rfl (Nat.le_of_ble_eq_true rfl) rfl rfl ⟨(Nat.le_of_ble_eq_true rfl), (Nat.le_of_ble_eq_true rfl)⟩ nX_no (fun v68 μ69 hv70 => ?_)
              obtain ⟨r71, hw74, h72⟩ := hv70
              subst hw74
              obtain ⟨⟨pl9, go9, st9, le9, hWa, hsp9⟩, hF9⟩ := h72
              have hF75 := hF9
              have hO := hF75.ob hO
              have hL : LandR G μ69 ld (σ 0) (σ 1) := hF75.land hL
              have hF2 : F2 r (r + 3) μ μ69 := hF2.step hF75
              have hY : WaysR G μ69 wy S9 T9 := hF75.ways hY
              have hwm := wm_of hsp9
              have hwn := wi_next hwi hwb hwm
              have hwd := hWa.rg
              refine x_stk (stk' := [.int (zI r71)]) rfl ?_
              refine z_if_eq (tgt := 60) C dX8_comesToGoal_55 (by decide) (rg_of (by omega) (by omega)) (fun c_76 => ?_) (fun c_76 => ?_)
              · refine z_iinc (lv' := [(4, .int (zI ((k : Int) + 1))), (3, .int (zI 1)), (0, .ref a), (1, .ref w), (2, .int (zI m))]) C dX8_comesToGoal_60 1 rfl rfl (by decide) rfl ?_
                refine x_goto (tgt := 5) C dX8_comesToGoal_63 (by decide) ?_
                exact ih5 _ (by omega) _ (k + 1) _ (by omega) _ _ _ _ _ _ _ hO hL hY hWa hF2 (by omega) (by rw [hwn, show (0 : Int) + r71 = 0 by omega]) (by omega) (by refine Or.inr ⟨by omega, ?_⟩; by_cases e : go9 = -1; exact Or.inl e; rw [show go9 = gok by omega]; exact Or.inr hWF) rfl
              · refine z_iconst C dX8_comesToGoal_58 ?_
                exact x_zret C R dX8_comesToGoal_59 (nar_z (by omega)) (Nat.le_of_ble_eq_true rfl) (Nat.le_of_ble_eq_true rfl) (⟨_, rfl, ⟨pl9, go9, st9, le9, _, _, hWa, hY, by (have e1 : go9 = -1 := (by omega); have e2 : st9 = -1 := (by omega); rw [e1, e2, show (0 : Int) + r71 = 1 by omega] at hwn; rw [e1, e2]; have := wi_rest hwn (m.toNat - (k + 1)); rw [show k + 1 + (m.toNat - (k + 1)) = m.toNat by omega] at this; exact this), Or.inr rfl⟩, hF2.mid⟩)
  exact L5 _ _ (0) _ (by omega) _ _ _ _ _ _ _ hO hL hY hWa hF2 (by omega) rfl (by omega) (Or.inl rfl) rfl
