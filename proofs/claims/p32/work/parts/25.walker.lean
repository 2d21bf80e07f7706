abbrev rm_X6_standsAt : Room := { frames := 0, cells := 0, slots := 0, locals := 0 }
set_option maxHeartbeats 4000000 in
set_option maxRecDepth 100000 in
theorem c_X6_standsAt (l : Launch) (hst : l.stackTraces = false) (G : GG) (z : Nat) (μ : Mm) (a r : Nat) (pc pl go st le so sc : Int) (Wr To : Nat → Int) (hW9 : WalkerR G μ a r pc pl go st le so sc Wr To) : Ct l yX6_standsAt wsX6_standsAt rm_X6_standsAt G z [.ref a] μ (rP μ (fun r9 => r9 = pl)) (nX) := by
  refine ct_of (cc := cX6_standsAt) (maxL := 1) (ret := (some .int)) (own := RX6) (by decide) rfl rfl hst (Nat.le_of_ble_eq_true rfl) ?_
  intro E hLl hnm C R hT
  have in_X6 : ∀ w ∈ u_ws RX6 TX6 9, w ∈ wsX6_standsAt := by decide +kernel
  have hW8 := hW9
  obtain ⟨wa, ta, hO, hA, hB, wk1, wk2, wk3, wk4, wk5, wk6, wk7, hAr, hBr⟩ := hW9
  refine x_eq (lv' := [(0, .ref a)]) rfl rfl ?_
  refine x_aload_n C dX6_standsAt_0 rfl 0 rfl ?_
  refine x_get (ci := 7) (Cn := RX6) (T := TX6) (N := 9) (ref := "CairnCipher$Walker") C dX6_standsAt_1 in_X6 rfl hO 3 (by decide) (by decide +kernel) rfl rfl ?_
  exact x_iret C R dX6_standsAt_4 (Nat.le_of_ble_eq_true rfl) (Nat.le_of_ble_eq_true rfl) (⟨_, rfl, rfl, rfl⟩)
abbrev rm_X6_aimsAt : Room := { frames := 0, cells := 0, slots := 0, locals := 0 }
set_option maxHeartbeats 4000000 in
set_option maxRecDepth 100000 in
theorem c_X6_aimsAt (l : Launch) (hst : l.stackTraces = false) (G : GG) (z : Nat) (μ : Mm) (a r : Nat) (pc pl go st le so sc : Int) (Wr To : Nat → Int) (hW9 : WalkerR G μ a r pc pl go st le so sc Wr To) : Ct l yX6_aimsAt wsX6_aimsAt rm_X6_aimsAt G z [.ref a] μ (rP μ (fun r9 => r9 = go)) (nX) := by
  refine ct_of (cc := cX6_aimsAt) (maxL := 1) (ret := (some .int)) (own := RX6) (by decide) rfl rfl hst (Nat.le_of_ble_eq_true rfl) ?_
  intro E hLl hnm C R hT
  have in_X6 : ∀ w ∈ u_ws RX6 TX6 9, w ∈ wsX6_aimsAt := by decide +kernel
  have hW8 := hW9
  obtain ⟨wa, ta, hO, hA, hB, wk1, wk2, wk3, wk4, wk5, wk6, wk7, hAr, hBr⟩ := hW9
  refine x_eq (lv' := [(0, .ref a)]) rfl rfl ?_
  refine x_aload_n C dX6_aimsAt_0 rfl 0 rfl ?_
  refine x_get (ci := 7) (Cn := RX6) (T := TX6) (N := 9) (ref := "CairnCipher$Walker") C dX6_aimsAt_1 in_X6 rfl hO 4 (by decide) (by decide +kernel) rfl rfl ?_
  exact x_iret C R dX6_aimsAt_4 (Nat.le_of_ble_eq_true rfl) (Nat.le_of_ble_eq_true rfl) (⟨_, rfl, rfl, rfl⟩)
abbrev rm_X6_solvedCount : Room := { frames := 0, cells := 0, slots := 0, locals := 0 }
set_option maxHeartbeats 4000000 in
set_option maxRecDepth 100000 in
theorem c_X6_solvedCount (l : Launch) (hst : l.stackTraces = false) (G : GG) (z : Nat) (μ : Mm) (a r : Nat) (pc pl go st le so sc : Int) (Wr To : Nat → Int) (hW9 : WalkerR G μ a r pc pl go st le so sc Wr To) : Ct l yX6_solvedCount wsX6_solvedCount rm_X6_solvedCount G z [.ref a] μ (rP μ (fun r9 => r9 = so)) (nX) := by
  refine ct_of (cc := cX6_solvedCount) (maxL := 1) (ret := (some .int)) (own := RX6) (by decide) rfl rfl hst (Nat.le_of_ble_eq_true rfl) ?_
  intro E hLl hnm C R hT
  have in_X6 : ∀ w ∈ u_ws RX6 TX6 9, w ∈ wsX6_solvedCount := by decide +kernel
  have hW8 := hW9
  obtain ⟨wa, ta, hO, hA, hB, wk1, wk2, wk3, wk4, wk5, wk6, wk7, hAr, hBr⟩ := hW9
  refine x_eq (lv' := [(0, .ref a)]) rfl rfl ?_
  refine x_aload_n C dX6_solvedCount_0 rfl 0 rfl ?_
  refine x_get (ci := 7) (Cn := RX6) (T := TX6) (N := 9) (ref := "CairnCipher$Walker") C dX6_solvedCount_1 in_X6 rfl hO 7 (by decide) (by decide +kernel) rfl rfl ?_
  exact x_iret C R dX6_solvedCount_4 (Nat.le_of_ble_eq_true rfl) (Nat.le_of_ble_eq_true rfl) (⟨_, rfl, rfl, rfl⟩)
abbrev rm_X6_keptScore : Room := { frames := 0, cells := 0, slots := 0, locals := 0 }
set_option maxHeartbeats 4000000 in
set_option maxRecDepth 100000 in
theorem c_X6_keptScore (l : Launch) (hst : l.stackTraces = false) (G : GG) (z : Nat) (μ : Mm) (a r : Nat) (pc pl go st le so sc : Int) (Wr To : Nat → Int) (hW9 : WalkerR G μ a r pc pl go st le so sc Wr To) : Ct l yX6_keptScore wsX6_keptScore rm_X6_keptScore G z [.ref a] μ (rP μ (fun r9 => r9 = sc)) (nX) := by
  refine ct_of (cc := cX6_keptScore) (maxL := 1) (ret := (some .int)) (own := RX6) (by decide) rfl rfl hst (Nat.le_of_ble_eq_true rfl) ?_
  intro E hLl hnm C R hT
  have in_X6 : ∀ w ∈ u_ws RX6 TX6 9, w ∈ wsX6_keptScore := by decide +kernel
  have hW8 := hW9
  obtain ⟨wa, ta, hO, hA, hB, wk1, wk2, wk3, wk4, wk5, wk6, wk7, hAr, hBr⟩ := hW9
  refine x_eq (lv' := [(0, .ref a)]) rfl rfl ?_
  refine x_aload_n C dX6_keptScore_0 rfl 0 rfl ?_
  refine x_get (ci := 7) (Cn := RX6) (T := TX6) (N := 9) (ref := "CairnCipher$Walker") C dX6_keptScore_1 in_X6 rfl hO 8 (by decide) (by decide +kernel) rfl rfl ?_
  exact x_iret C R dX6_keptScore_4 (Nat.le_of_ble_eq_true rfl) (Nat.le_of_ble_eq_true rfl) (⟨_, rfl, rfl, rfl⟩)
abbrev rm_X6_hasStep : Room := { frames := 0, cells := 0, slots := 0, locals := 0 }
set_option maxHeartbeats 4000000 in
set_option maxRecDepth 100000 in
theorem c_X6_hasStep (l : Launch) (hst : l.stackTraces = false) (G : GG) (z : Nat) (μ : Mm) (a r : Nat) (pc pl go st le so sc : Int) (Wr To : Nat → Int) (hW9 : WalkerR G μ a r pc pl go st le so sc Wr To) : Ct l yX6_hasStep wsX6_hasStep rm_X6_hasStep G z [.ref a] μ (rP μ (fun r9 => (r9 = 1 ∧ st ≠ -1) ∨ (r9 = 0 ∧ st = -1))) (nX) := by
  refine ct_of (cc := cX6_hasStep) (maxL := 1) (ret := (some .boolean)) (own := RX6) (by decide) rfl rfl hst (Nat.le_of_ble_eq_true rfl) ?_
  intro E hLl hnm C R hT
  have in_X6 : ∀ w ∈ u_ws RX6 TX6 9, w ∈ wsX6_hasStep := by decide +kernel
  have hW8 := hW9
  obtain ⟨wa, ta, hO, hA, hB, wk1, wk2, wk3, wk4, wk5, wk6, wk7, hAr, hBr⟩ := hW9
  refine x_eq (lv' := [(0, .ref a)]) rfl rfl ?_
  refine x_aload_n C dX6_hasStep_0 rfl 0 rfl ?_
  refine x_get (ci := 7) (Cn := RX6) (T := TX6) (N := 9) (ref := "CairnCipher$Walker") C dX6_hasStep_1 in_X6 rfl hO 5 (by decide) (by decide +kernel) rfl rfl ?_
  refine z_iconst C dX6_hasStep_4 ?_
  refine z_icmp_eq (tgt := 12) C dX6_hasStep_5 (by decide) (rg_of (by omega) (by omega)) (rg_of (by omega) (by omega)) (fun c_1 => ?_) (fun c_1 => ?_)
  · refine z_iconst C dX6_hasStep_12 ?_
    exact x_zret C R dX6_hasStep_13 (nar_z (by omega)) (Nat.le_of_ble_eq_true rfl) (Nat.le_of_ble_eq_true rfl) (⟨_, rfl, by omega, rfl⟩)
  · refine z_iconst C dX6_hasStep_8 ?_
    refine x_goto (tgt := 13) C dX6_hasStep_9 (by decide) ?_
    exact x_zret C R dX6_hasStep_13 (nar_z (by omega)) (Nat.le_of_ble_eq_true rfl) (Nat.le_of_ble_eq_true rfl) (⟨_, rfl, by omega, rfl⟩)
abbrev rm_X6_isResting : Room := { frames := 1, cells := 0, slots := 0, locals := 20 }
set_option maxHeartbeats 4000000 in
set_option maxRecDepth 100000 in
theorem c_X6_isResting (l : Launch) (hst : l.stackTraces = false) (G : GG) (z : Nat) (μ : Mm) (a r : Nat) (pc pl go st le so sc : Int) (Wr To : Nat → Int) (hW9 : WalkerR G μ a r pc pl go st le so sc Wr To) : Ct l yX6_isResting wsX6_isResting rm_X6_isResting G z [.ref a] μ (rP μ (fun r9 => (r9 = 1 ∧ go = -1 ∧ st = -1) ∨ (r9 = 0 ∧ ¬ (go = -1 ∧ st = -1)))) (nX) := by
  refine ct_of (cc := cX6_isResting) (maxL := 1) (ret := (some .boolean)) (own := RX6) (by decide) rfl rfl hst (Nat.le_of_ble_eq_true rfl) ?_
  intro E hLl hnm C R hT
  have in_X6 : ∀ w ∈ u_ws RX6 TX6 9, w ∈ wsX6_isResting := by decide +kernel
  have hW8 := hW9
  obtain ⟨wa, ta, hO, hA, hB, wk1, wk2, wk3, wk4, wk5, wk6, wk7, hAr, hBr⟩ := hW9
  refine x_eq (lv' := [(0, .ref a)]) rfl rfl ?_
  refine x_aload_n C dX6_isResting_0 rfl 0 rfl ?_
  refine x_get (ci := 7) (Cn := RX6) (T := TX6) (N := 9) (ref := "CairnCipher$Walker") C dX6_isResting_1 in_X6 rfl hO 4 (by decide) (by decide +kernel) rfl rfl ?_
  refine z_iconst C dX6_isResting_4 ?_
  refine z_icmp_ne (tgt := 19) C dX6_isResting_5 (by decide) (rg_of (by omega) (by omega)) (rg_of (by omega) (by omega)) (fun c_1 => ?_) (fun c_1 => ?_)
  · refine z_iconst C dX6_isResting_19 ?_
    exact x_zret C R dX6_isResting_20 (nar_z (by omega)) (Nat.le_of_ble_eq_true rfl) (Nat.le_of_ble_eq_true rfl) (⟨_, rfl, by omega, rfl⟩)
  · refine x_aload_n C dX6_isResting_8 rfl 0 rfl ?_
    refine x_callV (n := 0) (ci := 7) (Cn := RX6) (T := TX6) (N := 9) (cc9 := 0) (ss9 := 0) (rest := []) C dX6_isResting_9 (c_X6_hasStep (kxL E) C.st G z μ _ _ _ _ _ _ _ _ _ _ _  hW8 ) gX6_isResting_X6_hasStep rfl (by decide +kernel) ⟨(Nat.le_of_ble_eq_true rfl), (Nat.le_of_ble_eq_true rfl)⟩ rfl ⟨_, _, hO⟩ rfl rfl (Nat.le_of_ble_eq_true rfl) rfl rfl ⟨(Nat.le_of_ble_eq_true rfl), (Nat.le_of_ble_eq_true rfl)⟩ nX_no (fun v2 μ3 hv4 => ?_)
    obtain ⟨r5, hw8, h6, hm7⟩ := hv4
    subst hw8
    rw [hm7]
    refine x_stk (stk' := [.int (zI r5)]) rfl ?_
    refine z_if_ne (tgt := 19) C dX6_isResting_12 (by decide) (rg_of (by omega) (by omega)) (fun c_9 => ?_) (fun c_9 => ?_)
    · refine z_iconst C dX6_isResting_19 ?_
      exact x_zret C R dX6_isResting_20 (nar_z (by omega)) (Nat.le_of_ble_eq_true rfl) (Nat.le_of_ble_eq_true rfl) (⟨_, rfl, by omega, rfl⟩)
    · refine z_iconst C dX6_isResting_15 ?_
      refine x_goto (tgt := 20) C dX6_isResting_16 (by decide) ?_
      exact x_zret C R dX6_isResting_20 (nar_z (by omega)) (Nat.le_of_ble_eq_true rfl) (Nat.le_of_ble_eq_true rfl) (⟨_, rfl, by omega, rfl⟩)
abbrev rm_X6_aimAt : Room := { frames := 1, cells := 0, slots := 0, locals := 20 }
set_option maxHeartbeats 4000000 in
set_option maxRecDepth 100000 in
theorem c_X6_aimAt (l : Launch) (hst : l.stackTraces = false) (G : GG) (z : Nat) (μ : Mm) (a r : Nat) (pc pl go st le so sc : Int) (Wr To : Nat → Int) (g9 : Int) (hW9 : WalkerR G μ a r pc pl go st le so sc Wr To) (hg : 0 ≤ g9 ∧ g9 < 64) : Ct l yX6_aimAt wsX6_aimAt rm_X6_aimAt G z [.ref a, .int (zI g9)] μ (rV (fun μ' => (∃ go', WalkerR G μ' a r pc pl go' st le so sc Wr To ∧ ((st = -1 ∧ g9 = pl ∧ go' = -1) ∨ (¬ (st = -1 ∧ g9 = pl) ∧ go' = g9))) ∧ Fr r (r + 3) μ μ')) (nX) := by
  refine ct_of (cc := cX6_aimAt) (maxL := 2) (ret := none) (own := RX6) (by decide) rfl rfl hst (Nat.le_of_ble_eq_true rfl) ?_
  intro E hLl hnm C R hT
  have in_X6 : ∀ w ∈ u_ws RX6 TX6 9, w ∈ wsX6_aimAt := by decide +kernel
  have hW8 := hW9
  obtain ⟨wa, ta, hO, hA, hB, wk1, wk2, wk3, wk4, wk5, wk6, wk7, hAr, hBr⟩ := hW9
  have hFr : Fr r (r + 3) μ μ := Fr.rf
  refine x_eq (lv' := [(0, .ref a), (1, .int (zI g9))]) rfl rfl ?_
  refine x_aload_n C dX6_aimAt_0 rfl 0 rfl ?_
  refine x_aload_n C dX6_aimAt_1 rfl 0 rfl ?_
  refine x_callV (n := 0) (ci := 7) (Cn := RX6) (T := TX6) (N := 9) (cc9 := 0) (ss9 := 0) (rest := [.ref a]) C dX6_aimAt_2 (c_X6_hasStep (kxL E) C.st G z μ _ _ _ _ _ _ _ _ _ _ _  hW8 ) gX6_aimAt_X6_hasStep rfl (by decide +kernel) ⟨(Nat.le_of_ble_eq_true rfl), (Nat.le_of_ble_eq_true rfl)⟩ rfl ⟨_, _, hO⟩ rfl rfl (Nat.le_of_ble_eq_true rfl) rfl rfl ⟨(Nat.le_of_ble_eq_true rfl), (Nat.le_of_ble_eq_true rfl)⟩ nX_no (fun v1 μ2 hv3 => ?_)
  obtain ⟨r4, hw7, h5, hm6⟩ := hv3
  subst hw7
  rw [hm6]
  have hs9 := h5
  refine x_stk (stk' := [.int (zI r4), .ref a]) rfl ?_
  refine z_if_ne (tgt := 20) C dX6_aimAt_5 (by decide) (rg_of (by omega) (by omega)) (fun c_8 => ?_) (fun c_8 => ?_)
  · refine x_iload_n C dX6_aimAt_20 rfl 1 rfl ?_
    refine z_put (ci := 7) (Cn := RX6) (T := TX6) (N := 9) (ref := "CairnCipher$Walker") (fs' := [.int (zI pc), .ref wa, .ref ta, .int (zI pl), .int (zI g9), .int (zI st), .int (zI le), .int (zI so), .int (zI sc)]) C dX6_aimAt_21 in_X6 rfl tyX6 tyX6_ok nmX6 hO 4 (by decide) (by decide +kernel) rfl rfl rfl rfl rfl (Nat.le_of_ble_eq_true rfl) rfl (fun μ9 hOw hF10 => ?_)
    have hA := hF10.ai hA
    have hB := hF10.az hB
    have hFr : Fr r (r + 3) μ μ9 := hFr.tr hF10
    have hO := hOw
    exact x_vret C R dX6_aimAt_24 (Nat.le_of_ble_eq_true rfl) (Nat.le_of_ble_eq_true rfl) (⟨rfl, ⟨_, ⟨wa, ta, hO, hA, hB, wk1, wk2, by omega, wk4, wk5, wk6, wk7, hAr, hBr⟩, by omega⟩, hFr⟩)
  · refine x_iload_n C dX6_aimAt_8 rfl 1 rfl ?_
    refine x_aload_n C dX6_aimAt_9 rfl 0 rfl ?_
    refine x_get (ci := 7) (Cn := RX6) (T := TX6) (N := 9) (ref := "CairnCipher$Walker") C dX6_aimAt_10 in_X6 rfl hO 3 (by decide) (by decide +kernel) rfl rfl ?_
    refine z_icmp_ne (tgt := 20) C dX6_aimAt_13 (by decide) (rg_of (by omega) (by omega)) (rg_of (by omega) (by omega)) (fun c_11 => ?_) (fun c_11 => ?_)
    · refine x_iload_n C dX6_aimAt_20 rfl 1 rfl ?_
      refine z_put (ci := 7) (Cn := RX6) (T := TX6) (N := 9) (ref := "CairnCipher$Walker") (fs' := [.int (zI pc), .ref wa, .ref ta, .int (zI pl), .int (zI g9), .int (zI st), .int (zI le), .int (zI so), .int (zI sc)]) C dX6_aimAt_21 in_X6 rfl tyX6 tyX6_ok nmX6 hO 4 (by decide) (by decide +kernel) rfl rfl rfl rfl rfl (Nat.le_of_ble_eq_true rfl) rfl (fun μ12 hOw hF13 => ?_)
      have hA := hF13.ai hA
      have hB := hF13.az hB
      have hFr : Fr r (r + 3) μ μ12 := hFr.tr hF13
      have hO := hOw
      exact x_vret C R dX6_aimAt_24 (Nat.le_of_ble_eq_true rfl) (Nat.le_of_ble_eq_true rfl) (⟨rfl, ⟨_, ⟨wa, ta, hO, hA, hB, wk1, wk2, by omega, wk4, wk5, wk6, wk7, hAr, hBr⟩, by omega⟩, hFr⟩)
    · refine z_iconst C dX6_aimAt_16 ?_
      refine x_goto (tgt := 21) C dX6_aimAt_17 (by decide) ?_
      refine z_put (ci := 7) (Cn := RX6) (T := TX6) (N := 9) (ref := "CairnCipher$Walker") (fs' := [.int (zI pc), .ref wa, .ref ta, .int (zI pl), .int (zI (-1)), .int (zI st), .int (zI le), .int (zI so), .int (zI sc)]) C dX6_aimAt_21 in_X6 rfl tyX6 tyX6_ok nmX6 hO 4 (by decide) (by decide +kernel) rfl rfl rfl rfl rfl (Nat.le_of_ble_eq_true rfl) rfl (fun μ14 hOw hF15 => ?_)
      have hA := hF15.ai hA
      have hB := hF15.az hB
      have hFr : Fr r (r + 3) μ μ14 := hFr.tr hF15
      have hO := hOw
      exact x_vret C R dX6_aimAt_24 (Nat.le_of_ble_eq_true rfl) (Nat.le_of_ble_eq_true rfl) (⟨rfl, ⟨_, ⟨wa, ta, hO, hA, hB, wk1, wk2, by omega, wk4, wk5, wk6, wk7, hAr, hBr⟩, by omega⟩, hFr⟩)
abbrev rm_X6_giveUp : Room := { frames := 0, cells := 0, slots := 0, locals := 0 }
set_option maxHeartbeats 4000000 in
set_option maxRecDepth 100000 in
theorem c_X6_giveUp (l : Launch) (hst : l.stackTraces = false) (G : GG) (z : Nat) (μ : Mm) (a r : Nat) (pc pl go st le so sc : Int) (Wr To : Nat → Int) (hW9 : WalkerR G μ a r pc pl go st le so sc Wr To) : Ct l yX6_giveUp wsX6_giveUp rm_X6_giveUp G z [.ref a] μ (rV (fun μ' => WalkerR G μ' a r pc pl (-1) st le so sc Wr To ∧ Fr r (r + 3) μ μ')) (nX) := by
  refine ct_of (cc := cX6_giveUp) (maxL := 1) (ret := none) (own := RX6) (by decide) rfl rfl hst (Nat.le_of_ble_eq_true rfl) ?_
  intro E hLl hnm C R hT
  have in_X6 : ∀ w ∈ u_ws RX6 TX6 9, w ∈ wsX6_giveUp := by decide +kernel
  obtain ⟨wa, ta, hO, hA, hB, wk1, wk2, wk3, wk4, wk5, wk6, wk7, hAr, hBr⟩ := hW9
  have hFr : Fr r (r + 3) μ μ := Fr.rf
  refine x_eq (lv' := [(0, .ref a)]) rfl rfl ?_
  refine x_aload_n C dX6_giveUp_0 rfl 0 rfl ?_
  refine z_iconst C dX6_giveUp_1 ?_
  refine z_put (ci := 7) (Cn := RX6) (T := TX6) (N := 9) (ref := "CairnCipher$Walker") (fs' := [.int (zI pc), .ref wa, .ref ta, .int (zI pl), .int (zI (-1)), .int (zI st), .int (zI le), .int (zI so), .int (zI sc)]) C dX6_giveUp_2 in_X6 rfl tyX6 tyX6_ok nmX6 hO 4 (by decide) (by decide +kernel) rfl rfl rfl rfl rfl (Nat.le_of_ble_eq_true rfl) rfl (fun μ1 hOw hF2 => ?_)
  have hA := hF2.ai hA
  have hB := hF2.az hB
  have hFr : Fr r (r + 3) μ μ1 := hFr.tr hF2
  have hO := hOw
  exact x_vret C R dX6_giveUp_5 (Nat.le_of_ble_eq_true rfl) (Nat.le_of_ble_eq_true rfl) (⟨rfl, ⟨wa, ta, hO, hA, hB, wk1, wk2, by omega, wk4, wk5, wk6, wk7, hAr, hBr⟩, hFr⟩)
abbrev rm_X6_begin : Room := { frames := 0, cells := 0, slots := 0, locals := 0 }
set_option maxHeartbeats 4000000 in
set_option maxRecDepth 100000 in
theorem c_X6_begin (l : Launch) (hst : l.stackTraces = false) (G : GG) (z : Nat) (μ : Mm) (a r : Nat) (pc pl go st le so sc : Int) (Wr To : Nat → Int) (nx co : Int) (hW9 : WalkerR G μ a r pc pl go st le so sc Wr To) (hnx : 0 ≤ nx ∧ nx < 64) (hco : 1 ≤ co ∧ co ≤ 10) : Ct l yX6_begin wsX6_begin rm_X6_begin G z [.ref a, .int (zI nx), .int (zI co)] μ (rV (fun μ' => WalkerR G μ' a r pc pl go nx (co * pc) so sc Wr To ∧ Fr r (r + 3) μ μ')) (nX) := by
  refine ct_of (cc := cX6_begin) (maxL := 3) (ret := none) (own := RX6) (by decide) rfl rfl hst (Nat.le_of_ble_eq_true rfl) ?_
  intro E hLl hnm C R hT
  have in_X6 : ∀ w ∈ u_ws RX6 TX6 9, w ∈ wsX6_begin := by decide +kernel
  obtain ⟨wa, ta, hO, hA, hB, wk1, wk2, wk3, wk4, wk5, wk6, wk7, hAr, hBr⟩ := hW9
  have hFr : Fr r (r + 3) μ μ := Fr.rf
  refine x_eq (lv' := [(0, .ref a), (1, .int (zI nx)), (2, .int (zI co))]) rfl rfl ?_
  refine x_aload_n C dX6_begin_0 rfl 0 rfl ?_
  refine x_iload_n C dX6_begin_1 rfl 1 rfl ?_
  refine z_put (ci := 7) (Cn := RX6) (T := TX6) (N := 9) (ref := "CairnCipher$Walker") (fs' := [.int (zI pc), .ref wa, .ref ta, .int (zI pl), .int (zI go), .int (zI nx), .int (zI le), .int (zI so), .int (zI sc)]) C dX6_begin_2 in_X6 rfl tyX6 tyX6_ok nmX6 hO 5 (by decide) (by decide +kernel) rfl rfl rfl rfl rfl (Nat.le_of_ble_eq_true rfl) rfl (fun μ1 hOw hF2 => ?_)
  have hA := hF2.ai hA
  have hB := hF2.az hB
  have hFr : Fr r (r + 3) μ μ1 := hFr.tr hF2
  have hO := hOw
  refine x_aload_n C dX6_begin_5 rfl 0 rfl ?_
  refine x_iload_n C dX6_begin_6 rfl 2 rfl ?_
  refine x_aload_n C dX6_begin_7 rfl 0 rfl ?_
  refine x_get (ci := 7) (Cn := RX6) (T := TX6) (N := 9) (ref := "CairnCipher$Walker") C dX6_begin_8 in_X6 rfl hO 0 (by decide) (by decide +kernel) rfl rfl ?_
  refine z_imul C dX6_begin_11 rfl ?_
  refine z_put (ci := 7) (Cn := RX6) (T := TX6) (N := 9) (ref := "CairnCipher$Walker") (fs' := [.int (zI pc), .ref wa, .ref ta, .int (zI pl), .int (zI go), .int (zI nx), .int (zI (co * pc)), .int (zI so), .int (zI sc)]) C dX6_begin_12 in_X6 rfl tyX6 tyX6_ok nmX6 hO 6 (by decide) (by decide +kernel) rfl rfl rfl rfl rfl (Nat.le_of_ble_eq_true rfl) rfl (fun μ3 hOw hF4 => ?_)
  have hA := hF4.ai hA
  have hB := hF4.az hB
  have hFr : Fr r (r + 3) μ μ3 := hFr.tr hF4
  have hO := hOw
  exact x_vret C R dX6_begin_15 (Nat.le_of_ble_eq_true rfl) (Nat.le_of_ble_eq_true rfl) (⟨rfl, ⟨wa, ta, hO, hA, hB, wk1, wk2, wk3, by omega, by (have := mul_rg hco wk1; omega), wk6, wk7, hAr, hBr⟩, hFr⟩)
abbrev rm_X6_spendMinute : Room := { frames := 1, cells := 0, slots := 0, locals := 20 }
set_option maxHeartbeats 4000000 in
set_option maxRecDepth 100000 in
theorem c_X6_spendMinute (l : Launch) (hst : l.stackTraces = false) (G : GG) (z : Nat) (μ : Mm) (a r : Nat) (pc pl go st le so sc : Int) (Wr To : Nat → Int) (hW9 : WalkerR G μ a r pc pl go st le so sc Wr To) (hle : st = -1 ∨ 1 ≤ le) : Ct l yX6_spendMinute wsX6_spendMinute rm_X6_spendMinute G z [.ref a] μ (rS (fun r9 μ' => (∃ pl' go' st' le', WalkerR G μ' a r pc pl' go' st' le' so sc Wr To ∧ ((st = -1 ∧ r9 = 0 ∧ pl' = pl ∧ go' = go ∧ st' = st ∧ le' = le) ∨ (st ≠ -1 ∧ 1 < le ∧ r9 = 0 ∧ pl' = pl ∧ go' = go ∧ st' = st ∧ le' = le - 1) ∨ (st ≠ -1 ∧ ¬ 1 < le ∧ st ≠ go ∧ r9 = 0 ∧ pl' = st ∧ go' = go ∧ st' = -1 ∧ le' = le - 1) ∨ (st ≠ -1 ∧ ¬ 1 < le ∧ st = go ∧ r9 = 1 ∧ pl' = st ∧ go' = -1 ∧ st' = -1 ∧ le' = le - 1))) ∧ Fr r (r + 3) μ μ')) (nX) := by
  refine ct_of (cc := cX6_spendMinute) (maxL := 1) (ret := (some .boolean)) (own := RX6) (by decide) rfl rfl hst (Nat.le_of_ble_eq_true rfl) ?_
  intro E hLl hnm C R hT
  have in_X6 : ∀ w ∈ u_ws RX6 TX6 9, w ∈ wsX6_spendMinute := by decide +kernel
  have hW8 := hW9
  obtain ⟨wa, ta, hO, hA, hB, wk1, wk2, wk3, wk4, wk5, wk6, wk7, hAr, hBr⟩ := hW9
  have hFr : Fr r (r + 3) μ μ := Fr.rf
  refine x_eq (lv' := [(0, .ref a)]) rfl rfl ?_
  refine x_aload_n C dX6_spendMinute_0 rfl 0 rfl ?_
  refine x_callV (n := 0) (ci := 7) (Cn := RX6) (T := TX6) (N := 9) (cc9 := 0) (ss9 := 0) (rest := []) C dX6_spendMinute_1 (c_X6_hasStep (kxL E) C.st G z μ _ _ _ _ _ _ _ _ _ _ _  hW8 ) gX6_spendMinute_X6_hasStep rfl (by decide +kernel) ⟨(Nat.le_of_ble_eq_true rfl), (Nat.le_of_ble_eq_true rfl)⟩ rfl ⟨_, _, hO⟩ rfl rfl (Nat.le_of_ble_eq_true rfl) rfl rfl ⟨(Nat.le_of_ble_eq_true rfl), (Nat.le_of_ble_eq_true rfl)⟩ nX_no (fun v1 μ2 hv3 => ?_)
  obtain ⟨r4, hw7, h5, hm6⟩ := hv3
  subst hw7
  rw [hm6]
  refine x_stk (stk' := [.int (zI r4)]) rfl ?_
  refine z_if_ne (tgt := 9) C dX6_spendMinute_4 (by decide) (rg_of (by omega) (by omega)) (fun c_8 => ?_) (fun c_8 => ?_)
  · refine x_aload_n C dX6_spendMinute_9 rfl 0 rfl ?_
    refine x_dup C dX6_spendMinute_10 rfl ?_
    refine x_get (ci := 7) (Cn := RX6) (T := TX6) (N := 9) (ref := "CairnCipher$Walker") C dX6_spendMinute_11 in_X6 rfl hO 6 (by decide) (by decide +kernel) rfl rfl ?_
    refine z_iconst C dX6_spendMinute_14 ?_
    refine z_isub C dX6_spendMinute_15 rfl ?_
    refine z_put (ci := 7) (Cn := RX6) (T := TX6) (N := 9) (ref := "CairnCipher$Walker") (fs' := [.int (zI pc), .ref wa, .ref ta, .int (zI pl), .int (zI go), .int (zI st), .int (zI (le - 1)), .int (zI so), .int (zI sc)]) C dX6_spendMinute_16 in_X6 rfl tyX6 tyX6_ok nmX6 hO 6 (by decide) (by decide +kernel) rfl rfl rfl rfl rfl (Nat.le_of_ble_eq_true rfl) rfl (fun μ9 hOw hF10 => ?_)
    have hA := hF10.ai hA
    have hB := hF10.az hB
    have hFr : Fr r (r + 3) μ μ9 := hFr.tr hF10
    have hO := hOw
    refine x_aload_n C dX6_spendMinute_19 rfl 0 rfl ?_
    refine x_get (ci := 7) (Cn := RX6) (T := TX6) (N := 9) (ref := "CairnCipher$Walker") C dX6_spendMinute_20 in_X6 rfl hO 6 (by decide) (by decide +kernel) rfl rfl ?_
    refine z_if_le (tgt := 28) C dX6_spendMinute_23 (by decide) (rg_of (by omega) (by omega)) (fun c_11 => ?_) (fun c_11 => ?_)
    · refine x_aload_n C dX6_spendMinute_28 rfl 0 rfl ?_
      refine x_aload_n C dX6_spendMinute_29 rfl 0 rfl ?_
      refine x_get (ci := 7) (Cn := RX6) (T := TX6) (N := 9) (ref := "CairnCipher$Walker") C dX6_spendMinute_30 in_X6 rfl hO 5 (by decide) (by decide +kernel) rfl rfl ?_
      refine z_put (ci := 7) (Cn := RX6) (T := TX6) (N := 9) (ref := "CairnCipher$Walker") (fs' := [.int (zI pc), .ref wa, .ref ta, .int (zI st), .int (zI go), .int (zI st), .int (zI (le - 1)), .int (zI so), .int (zI sc)]) C dX6_spendMinute_33 in_X6 rfl tyX6 tyX6_ok nmX6 hO 3 (by decide) (by decide +kernel) rfl rfl rfl rfl rfl (Nat.le_of_ble_eq_true rfl) rfl (fun μ12 hOw hF13 => ?_)
      have hA := hF13.ai hA
      have hB := hF13.az hB
      have hFr : Fr r (r + 3) μ μ12 := hFr.tr hF13
      have hO := hOw
      refine x_aload_n C dX6_spendMinute_36 rfl 0 rfl ?_
      refine z_iconst C dX6_spendMinute_37 ?_
      refine z_put (ci := 7) (Cn := RX6) (T := TX6) (N := 9) (ref := "CairnCipher$Walker") (fs' := [.int (zI pc), .ref wa, .ref ta, .int (zI st), .int (zI go), .int (zI (-1)), .int (zI (le - 1)), .int (zI so), .int (zI sc)]) C dX6_spendMinute_38 in_X6 rfl tyX6 tyX6_ok nmX6 hO 5 (by decide) (by decide +kernel) rfl rfl rfl rfl rfl (Nat.le_of_ble_eq_true rfl) rfl (fun μ14 hOw hF15 => ?_)
      have hA := hF15.ai hA
      have hB := hF15.az hB
      have hFr : Fr r (r + 3) μ μ14 := hFr.tr hF15
      have hO := hOw
      refine x_aload_n C dX6_spendMinute_41 rfl 0 rfl ?_
      refine x_get (ci := 7) (Cn := RX6) (T := TX6) (N := 9) (ref := "CairnCipher$Walker") C dX6_spendMinute_42 in_X6 rfl hO 3 (by decide) (by decide +kernel) rfl rfl ?_
      refine x_aload_n C dX6_spendMinute_45 rfl 0 rfl ?_
      refine x_get (ci := 7) (Cn := RX6) (T := TX6) (N := 9) (ref := "CairnCipher$Walker") C dX6_spendMinute_46 in_X6 rfl hO 4 (by decide) (by decide +kernel) rfl rfl ?_
      refine z_icmp_eq (tgt := 54) C dX6_spendMinute_49 (by decide) (rg_of (by omega) (by omega)) (rg_of (by omega) (by omega)) (fun c_16 => ?_) (fun c_16 => ?_)
      · refine x_aload_n C dX6_spendMinute_54 rfl 0 rfl ?_
        refine z_iconst C dX6_spendMinute_55 ?_
        refine z_put (ci := 7) (Cn := RX6) (T := TX6) (N := 9) (ref := "CairnCipher$Walker") (fs' := [.int (zI pc), .ref wa, .ref ta, .int (zI st), .int (zI (-1)), .int (zI (-1)), .int (zI (le - 1)), .int (zI so), .int (zI sc)]) C dX6_spendMinute_56 in_X6 rfl tyX6 tyX6_ok nmX6 hO 4 (by decide) (by decide +kernel) rfl rfl rfl rfl rfl (Nat.le_of_ble_eq_true rfl) rfl (fun μ17 hOw hF18 => ?_)
        have hA := hF18.ai hA
        have hB := hF18.az hB
        have hFr : Fr r (r + 3) μ μ17 := hFr.tr hF18
        have hO := hOw
        refine z_iconst C dX6_spendMinute_59 ?_
        exact x_zret C R dX6_spendMinute_60 (nar_z (by omega)) (Nat.le_of_ble_eq_true rfl) (Nat.le_of_ble_eq_true rfl) (⟨_, rfl, ⟨_, _, _, _, ⟨wa, ta, hO, hA, hB, wk1, by omega, by omega, by omega, by omega, wk6, wk7, hAr, hBr⟩, by omega⟩, hFr⟩)
      · refine z_iconst C dX6_spendMinute_52 ?_
        exact x_zret C R dX6_spendMinute_53 (nar_z (by omega)) (Nat.le_of_ble_eq_true rfl) (Nat.le_of_ble_eq_true rfl) (⟨_, rfl, ⟨_, _, _, _, ⟨wa, ta, hO, hA, hB, wk1, by omega, by omega, by omega, by omega, wk6, wk7, hAr, hBr⟩, by omega⟩, hFr⟩)
    · refine z_iconst C dX6_spendMinute_26 ?_
      exact x_zret C R dX6_spendMinute_27 (nar_z (by omega)) (Nat.le_of_ble_eq_true rfl) (Nat.le_of_ble_eq_true rfl) (⟨_, rfl, ⟨_, _, _, _, ⟨wa, ta, hO, hA, hB, wk1, by omega, by omega, by omega, by omega, wk6, wk7, hAr, hBr⟩, by omega⟩, hFr⟩)
  · refine z_iconst C dX6_spendMinute_7 ?_
    exact x_zret C R dX6_spendMinute_8 (nar_z (by omega)) (Nat.le_of_ble_eq_true rfl) (Nat.le_of_ble_eq_true rfl) (⟨_, rfl, ⟨_, _, _, _, ⟨wa, ta, hO, hA, hB, wk1, by omega, by omega, by omega, by omega, wk6, wk7, hAr, hBr⟩, by omega⟩, hFr⟩)
abbrev rm_X6_hasSolved : Room := { frames := 0, cells := 0, slots := 0, locals := 0 }
set_option maxHeartbeats 4000000 in
set_option maxRecDepth 100000 in
theorem c_X6_hasSolved (l : Launch) (hst : l.stackTraces = false) (G : GG) (z : Nat) (μ : Mm) (a r : Nat) (pc pl go st le so sc : Int) (Wr To : Nat → Int) (s9 : Int) (hW9 : WalkerR G μ a r pc pl go st le so sc Wr To) (hs : -2147483648 ≤ s9 ∧ s9 < 2147483648) : Ct l yX6_hasSolved wsX6_hasSolved rm_X6_hasSolved G z [.ref a, .int (zI s9)] μ (rP μ (fun r9 => (r9 = 1 ∧ s9 < so) ∨ (r9 = 0 ∧ ¬ s9 < so))) (nX) := by
  refine ct_of (cc := cX6_hasSolved) (maxL := 2) (ret := (some .boolean)) (own := RX6) (by decide) rfl rfl hst (Nat.le_of_ble_eq_true rfl) ?_
  intro E hLl hnm C R hT
  have in_X6 : ∀ w ∈ u_ws RX6 TX6 9, w ∈ wsX6_hasSolved := by decide +kernel
  have hW8 := hW9
  obtain ⟨wa, ta, hO, hA, hB, wk1, wk2, wk3, wk4, wk5, wk6, wk7, hAr, hBr⟩ := hW9
  refine x_eq (lv' := [(0, .ref a), (1, .int (zI s9))]) rfl rfl ?_
  refine x_iload_n C dX6_hasSolved_0 rfl 1 rfl ?_
  refine x_aload_n C dX6_hasSolved_1 rfl 0 rfl ?_
  refine x_get (ci := 7) (Cn := RX6) (T := TX6) (N := 9) (ref := "CairnCipher$Walker") C dX6_hasSolved_2 in_X6 rfl hO 7 (by decide) (by decide +kernel) rfl rfl ?_
  refine z_icmp_ge (tgt := 12) C dX6_hasSolved_5 (by decide) (rg_of (by omega) (by omega)) (rg_of (by omega) (by omega)) (fun c_1 => ?_) (fun c_1 => ?_)
  · refine z_iconst C dX6_hasSolved_12 ?_
    exact x_zret C R dX6_hasSolved_13 (nar_z (by omega)) (Nat.le_of_ble_eq_true rfl) (Nat.le_of_ble_eq_true rfl) (⟨_, rfl, by omega, rfl⟩)
  · refine z_iconst C dX6_hasSolved_8 ?_
    refine x_goto (tgt := 13) C dX6_hasSolved_9 (by decide) ?_
    exact x_zret C R dX6_hasSolved_13 (nar_z (by omega)) (Nat.le_of_ble_eq_true rfl) (Nat.le_of_ble_eq_true rfl) (⟨_, rfl, by omega, rfl⟩)
abbrev rm_X6_wasTold : Room := { frames := 0, cells := 0, slots := 0, locals := 0 }
set_option maxHeartbeats 4000000 in
set_option maxRecDepth 100000 in
theorem c_X6_wasTold (l : Launch) (hst : l.stackTraces = false) (G : GG) (z : Nat) (μ : Mm) (a r : Nat) (pc pl go st le so sc : Int) (Wr To : Nat → Int) (s9 : Int) (hW9 : WalkerR G μ a r pc pl go st le so sc Wr To) (hs : 0 ≤ s9 ∧ s9 < 6) : Ct l yX6_wasTold wsX6_wasTold rm_X6_wasTold G z [.ref a, .int (zI s9)] μ (rP μ (fun r9 => r9 = To s9.toNat)) (nX) := by
  refine ct_of (cc := cX6_wasTold) (maxL := 2) (ret := (some .boolean)) (own := RX6) (by decide) rfl rfl hst (Nat.le_of_ble_eq_true rfl) ?_
  intro E hLl hnm C R hT
  have in_X6 : ∀ w ∈ u_ws RX6 TX6 9, w ∈ wsX6_wasTold := by decide +kernel
  have hW8 := hW9
  obtain ⟨wa, ta, hO, hA, hB, wk1, wk2, wk3, wk4, wk5, wk6, wk7, hAr, hBr⟩ := hW9
  refine x_eq (lv' := [(0, .ref a), (1, .int (zI s9))]) rfl rfl ?_
  refine x_iload_n C dX6_wasTold_0 rfl 1 rfl ?_
  refine z_if_lt (tgt := 26) C dX6_wasTold_1 (by decide) (rg_of (by omega) (by omega)) (fun c_1 => ?_) (fun c_1 => ?_)
  · refine z_iconst C dX6_wasTold_26 ?_
    exact x_zret C R dX6_wasTold_27 (nar_z (by omega)) (Nat.le_of_ble_eq_true rfl) (Nat.le_of_ble_eq_true rfl) (by first | exact ⟨_, rfl, by omega, rfl⟩ | (exfalso; omega))
  · refine x_iload_n C dX6_wasTold_4 rfl 1 rfl ?_
    refine x_aload_n C dX6_wasTold_5 rfl 0 rfl ?_
    refine x_get (ci := 7) (Cn := RX6) (T := TX6) (N := 9) (ref := "CairnCipher$Walker") C dX6_wasTold_6 in_X6 rfl hO 2 (by decide) (by decide +kernel) rfl rfl ?_
    refine z_alenZ C dX6_wasTold_9 hB rfl ?_
    refine z_icmp_ge (tgt := 26) C dX6_wasTold_10 (by decide) (rg_of (by omega) (by omega)) (rg_of (by omega) (by omega)) (fun c_2 => ?_) (fun c_2 => ?_)
    · refine z_iconst C dX6_wasTold_26 ?_
      exact x_zret C R dX6_wasTold_27 (nar_z (by omega)) (Nat.le_of_ble_eq_true rfl) (Nat.le_of_ble_eq_true rfl) (by first | exact ⟨_, rfl, by omega, rfl⟩ | (exfalso; omega))
    · refine x_aload_n C dX6_wasTold_13 rfl 0 rfl ?_
      refine x_get (ci := 7) (Cn := RX6) (T := TX6) (N := 9) (ref := "CairnCipher$Walker") C dX6_wasTold_14 in_X6 rfl hO 2 (by decide) (by decide +kernel) rfl rfl ?_
      refine x_iload_n C dX6_wasTold_17 rfl 1 rfl ?_
      refine z_zald (j := s9.toNat) C dX6_wasTold_18 hB (by omega) (by omega) (by decide) ?_
      have q_3 := hBr s9.toNat (by omega)
      refine z_if_eq (tgt := 26) C dX6_wasTold_19 (by decide) (rg_of (by omega) (by omega)) (fun c_4 => ?_) (fun c_4 => ?_)
      · refine z_iconst C dX6_wasTold_26 ?_
        exact x_zret C R dX6_wasTold_27 (nar_z (by omega)) (Nat.le_of_ble_eq_true rfl) (Nat.le_of_ble_eq_true rfl) (by first | exact ⟨_, rfl, by omega, rfl⟩ | (exfalso; omega))
      · refine z_iconst C dX6_wasTold_22 ?_
        refine x_goto (tgt := 27) C dX6_wasTold_23 (by decide) ?_
        exact x_zret C R dX6_wasTold_27 (nar_z (by omega)) (Nat.le_of_ble_eq_true rfl) (Nat.le_of_ble_eq_true rfl) (by first | exact ⟨_, rfl, by omega, rfl⟩ | (exfalso; omega))
abbrev rm_X6_pointsOf : Room := { frames := 2, cells := 0, slots := 0, locals := 43 }
set_option maxHeartbeats 4000000 in
set_option maxRecDepth 100000 in
theorem c_X6_pointsOf (l : Launch) (hst : l.stackTraces = false) (G : GG) (z : Nat) (μ : Mm) (a r : Nat) (pc pl go st le so sc : Int) (Wr To : Nat → Int) (s9 : Int) (hW9 : WalkerR G μ a r pc pl go st le so sc Wr To) (hs : 0 ≤ s9 ∧ s9 < 6) : Ct l yX6_pointsOf wsX6_pointsOf rm_X6_pointsOf G z [.ref a, .int (zI s9)] μ (rP μ (fun r9 => r9 = pts (Wr s9.toNat) (To s9.toNat))) (nX) := by
  refine ct_of (cc := cX6_pointsOf) (maxL := 3) (ret := (some .int)) (own := RX6) (by decide) rfl rfl hst (Nat.le_of_ble_eq_true rfl) ?_
  intro E hLl hnm C R hT
  have in_X6 : ∀ w ∈ u_ws RX6 TX6 9, w ∈ wsX6_pointsOf := by decide +kernel
  have hW8 := hW9
  obtain ⟨wa, ta, hO, hA, hB, wk1, wk2, wk3, wk4, wk5, wk6, wk7, hAr, hBr⟩ := hW9
  refine x_eq (lv' := [(0, .ref a), (1, .int (zI s9))]) rfl rfl ?_
  refine x_iload_n C dX6_pointsOf_0 rfl 1 rfl ?_
  refine z_if_lt (tgt := 22) C dX6_pointsOf_1 (by decide) (rg_of (by omega) (by omega)) (fun c_1 => ?_) (fun c_1 => ?_)
  · exfalso; omega
  · refine x_iload_n C dX6_pointsOf_4 rfl 1 rfl ?_
    refine x_aload_n C dX6_pointsOf_5 rfl 0 rfl ?_
    refine x_get (ci := 7) (Cn := RX6) (T := TX6) (N := 9) (ref := "CairnCipher$Walker") C dX6_pointsOf_6 in_X6 rfl hO 1 (by decide) (by decide +kernel) rfl rfl ?_
    refine z_alenI C dX6_pointsOf_9 hA rfl ?_
    refine z_icmp_ge (tgt := 22) C dX6_pointsOf_10 (by decide) (rg_of (by omega) (by omega)) (rg_of (by omega) (by omega)) (fun c_2 => ?_) (fun c_2 => ?_)
    · exfalso; omega
    · refine x_aload_n C dX6_pointsOf_13 rfl 0 rfl ?_
      refine x_get (ci := 7) (Cn := RX6) (T := TX6) (N := 9) (ref := "CairnCipher$Walker") C dX6_pointsOf_14 in_X6 rfl hO 1 (by decide) (by decide +kernel) rfl rfl ?_
      refine x_iload_n C dX6_pointsOf_17 rfl 1 rfl ?_
      refine z_iald (j := s9.toNat) C dX6_pointsOf_18 hA (by omega) (by omega) (by decide) ?_
      have q_3 := hAr s9.toNat (by omega)
      refine x_goto (tgt := 23) C dX6_pointsOf_19 (by decide) ?_
      refine x_istore_n (lv' := [(2, .int (zI (Wr s9.toNat))), (0, .ref a), (1, .int (zI s9))]) C dX6_pointsOf_23 rfl (by decide) rfl ?_
      refine x_iload_n C dX6_pointsOf_24 rfl 0 rfl ?_
      refine x_aload_n C dX6_pointsOf_25 rfl 1 rfl ?_
      refine x_iload_n C dX6_pointsOf_26 rfl 2 rfl ?_
      refine x_callV (n := 1) (ci := 7) (Cn := RX6) (T := TX6) (N := 9) (cc9 := 0) (ss9 := 0) (rest := [.int (zI (Wr s9.toNat))]) C dX6_pointsOf_27 (c_X6_wasTold (kxL E) C.st G z μ _ _ _ _ _ _ _ _ _ _ _ s9 hW8 (by omega)) gX6_pointsOf_X6_wasTold rfl (by decide +kernel) ⟨(Nat.le_of_ble_eq_true rfl), (Nat.le_of_ble_eq_true rfl)⟩ rfl ⟨_, _, hO⟩ rfl rfl (Nat.le_of_ble_eq_true rfl) rfl rfl ⟨(Nat.le_of_ble_eq_true rfl), (Nat.le_of_ble_eq_true rfl)⟩ nX_no (fun v4 μ5 hv6 => ?_)
      obtain ⟨r7, hw10, h8, hm9⟩ := hv6
      subst hw10
      rw [hm9]
      have hb9 := hBr s9.toNat (by omega)
      refine x_stk (stk' := [.int (zI r7), .int (zI (Wr s9.toNat))]) rfl ?_
      refine x_callSN (n := 2) (host := "CairnCipher") (cc9 := 0) (ss9 := 0) (rest := []) C dX6_pointsOf_30 (c_X8_pointsFor (kxL E) C.st G z μ (Wr s9.toNat) r7 (by omega) (by omega)) gX6_pointsOf_X8_pointsFor_n49 rfl (by decide +kernel) (by decide +kernel) (by decide +kernel) (by decide +kernel) ⟨(Nat.le_of_ble_eq_true rfl), (Nat.le_of_ble_eq_true rfl)⟩ rfl rfl (Nat.le_of_ble_eq_true rfl) rfl rfl ⟨(Nat.le_of_ble_eq_true rfl), (Nat.le_of_ble_eq_true rfl)⟩ nX_no (fun v11 μ12 hv13 => ?_)
      obtain ⟨r14, hw17, h15, hm16⟩ := hv13
      subst hw17
      rw [hm16]
      refine x_stk (stk' := [.int (zI r14)]) rfl ?_
      exact x_iret C R dX6_pointsOf_33 (Nat.le_of_ble_eq_true rfl) (Nat.le_of_ble_eq_true rfl) (⟨_, rfl, by simp only [*], rfl⟩)
abbrev rm_X6_solve : Room := { frames := 3, cells := 0, slots := 0, locals := 65 }
set_option maxHeartbeats 4000000 in
set_option maxRecDepth 100000 in
theorem c_X6_solve (l : Launch) (hst : l.stackTraces = false) (G : GG) (z : Nat) (μ : Mm) (a r : Nat) (pc pl go st le so sc : Int) (Wr To : Nat → Int) (s9 : Int) (hW9 : WalkerR G μ a r pc pl go st le so sc Wr To) (hs : 0 ≤ s9 ∧ s9 < 6) (hso : so < 6) : Ct l yX6_solve wsX6_solve rm_X6_solve G z [.ref a, .int (zI s9)] μ (rV (fun μ' => WalkerR G μ' a r pc pl go st le (so + 1) (sc + pts (Wr s9.toNat) (To s9.toNat)) Wr To ∧ Fr r (r + 3) μ μ')) (nX) := by
  refine ct_of (cc := cX6_solve) (maxL := 2) (ret := none) (own := RX6) (by decide) rfl rfl hst (Nat.le_of_ble_eq_true rfl) ?_
  intro E hLl hnm C R hT
  have in_X6 : ∀ w ∈ u_ws RX6 TX6 9, w ∈ wsX6_solve := by decide +kernel
  obtain ⟨wa, ta, hO, hA, hB, wk1, wk2, wk3, wk4, wk5, wk6, wk7, hAr, hBr⟩ := hW9
  have hFr : Fr r (r + 3) μ μ := Fr.rf
  refine x_eq (lv' := [(0, .ref a), (1, .int (zI s9))]) rfl rfl ?_
  refine x_aload_n C dX6_solve_0 rfl 0 rfl ?_
  refine x_dup C dX6_solve_1 rfl ?_
  refine x_get (ci := 7) (Cn := RX6) (T := TX6) (N := 9) (ref := "CairnCipher$Walker") C dX6_solve_2 in_X6 rfl hO 7 (by decide) (by decide +kernel) rfl rfl ?_
  refine z_iconst C dX6_solve_5 ?_
  refine z_iadd C dX6_solve_6 rfl ?_
  refine z_put (ci := 7) (Cn := RX6) (T := TX6) (N := 9) (ref := "CairnCipher$Walker") (fs' := [.int (zI pc), .ref wa, .ref ta, .int (zI pl), .int (zI go), .int (zI st), .int (zI le), .int (zI (so + 1)), .int (zI sc)]) C dX6_solve_7 in_X6 rfl tyX6 tyX6_ok nmX6 hO 7 (by decide) (by decide +kernel) rfl rfl rfl rfl rfl (Nat.le_of_ble_eq_true rfl) rfl (fun μ1 hOw hF2 => ?_)
  have hA := hF2.ai hA
  have hB := hF2.az hB
  have hFr : Fr r (r + 3) μ μ1 := hFr.tr hF2
  have hO := hOw
  refine x_aload_n C dX6_solve_10 rfl 0 rfl ?_
  refine x_dup C dX6_solve_11 rfl ?_
  refine x_get (ci := 7) (Cn := RX6) (T := TX6) (N := 9) (ref := "CairnCipher$Walker") C dX6_solve_12 in_X6 rfl hO 8 (by decide) (by decide +kernel) rfl rfl ?_
  refine x_aload_n C dX6_solve_15 rfl 0 rfl ?_
  refine x_iload_n C dX6_solve_16 rfl 1 rfl ?_
  refine x_callV (n := 1) (ci := 7) (Cn := RX6) (T := TX6) (N := 9) (cc9 := 0) (ss9 := 0) (rest := [.int (zI sc), .ref a]) C dX6_solve_17 (c_X6_pointsOf (kxL E) C.st G z μ1 _ _ pc pl go st le (so + 1) sc Wr To s9 ⟨wa, ta, hO, hA, hB, wk1, wk2, wk3, wk4, wk5, by omega, by omega, hAr, hBr⟩ (by omega)) gX6_solve_X6_pointsOf rfl (by decide +kernel) ⟨(Nat.le_of_ble_eq_true rfl), (Nat.le_of_ble_eq_true rfl)⟩ rfl ⟨_, _, hO⟩ rfl rfl (Nat.le_of_ble_eq_true rfl) rfl rfl ⟨(Nat.le_of_ble_eq_true rfl), (Nat.le_of_ble_eq_true rfl)⟩ nX_no (fun v3 μ4 hv5 => ?_)
  obtain ⟨r6, hw9, h7, hm8⟩ := hv5
  subst hw9
  rw [hm8]
  have hp9 := pts_rg (t := To s9.toNat) (hAr s9.toNat (by omega))
  refine x_stk (stk' := [.int (zI r6), .int (zI sc), .ref a]) rfl ?_
  refine z_iadd C dX6_solve_20 rfl ?_
  refine z_put (ci := 7) (Cn := RX6) (T := TX6) (N := 9) (ref := "CairnCipher$Walker") (fs' := [.int (zI pc), .ref wa, .ref ta, .int (zI pl), .int (zI go), .int (zI st), .int (zI le), .int (zI (so + 1)), .int (zI (sc + r6))]) C dX6_solve_21 in_X6 rfl tyX6 tyX6_ok nmX6 hO 8 (by decide) (by decide +kernel) rfl rfl rfl rfl rfl (Nat.le_of_ble_eq_true rfl) rfl (fun μ10 hOw hF11 => ?_)
  have hA := hF11.ai hA
  have hB := hF11.az hB
  have hFr : Fr r (r + 3) μ μ10 := hFr.tr hF11
  have hO := hOw
  exact x_vret C R dX6_solve_24 (Nat.le_of_ble_eq_true rfl) (Nat.le_of_ble_eq_true rfl) (⟨rfl, ⟨wa, ta, by simp only [*] at hO; exact hO, hA, hB, wk1, wk2, wk3, wk4, wk5, by omega, by omega, hAr, hBr⟩, hFr⟩)
abbrev rm_X6_countWrong : Room := { frames := 0, cells := 0, slots := 0, locals := 0 }
set_option maxHeartbeats 4000000 in
set_option maxRecDepth 100000 in
theorem c_X6_countWrong (l : Launch) (hst : l.stackTraces = false) (G : GG) (z : Nat) (μ : Mm) (a r : Nat) (pc pl go st le so sc : Int) (Wr To : Nat → Int) (s9 : Int) (hW9 : WalkerR G μ a r pc pl go st le so sc Wr To) (hs : 0 ≤ s9 ∧ s9 < 6) (hwr : Wr s9.toNat < 1000) : Ct l yX6_countWrong wsX6_countWrong rm_X6_countWrong G z [.ref a, .int (zI s9)] μ (rV (fun μ' => WalkerR G μ' a r pc pl go st le so sc (va_up Wr s9.toNat (Wr s9.toNat + 1)) To ∧ Fr r (r + 3) μ μ')) (nX) := by
  refine ct_of (cc := cX6_countWrong) (maxL := 2) (ret := none) (own := RX6) (by decide) rfl rfl hst (Nat.le_of_ble_eq_true rfl) ?_
  intro E hLl hnm C R hT
  have in_X6 : ∀ w ∈ u_ws RX6 TX6 9, w ∈ wsX6_countWrong := by decide +kernel
  obtain ⟨wa, ta, hO, hA, hB, wk1, wk2, wk3, wk4, wk5, wk6, wk7, hAr, hBr⟩ := hW9
  have hFr : Fr r (r + 3) μ μ := Fr.rf
  refine x_eq (lv' := [(0, .ref a), (1, .int (zI s9))]) rfl rfl ?_
  refine x_iload_n C dX6_countWrong_0 rfl 1 rfl ?_
  refine z_if_lt (tgt := 23) C dX6_countWrong_1 (by decide) (rg_of (by omega) (by omega)) (fun c_1 => ?_) (fun c_1 => ?_)
  · exact x_vret C R dX6_countWrong_23 (Nat.le_of_ble_eq_true rfl) (Nat.le_of_ble_eq_true rfl) (by first | exact ⟨rfl, ⟨wa, ta, hO, hA, hB, wk1, wk2, wk3, wk4, wk5, wk6, wk7, fun j hj => by (have := hAr j hj; unfold va_up; split <;> rename_i q; have := hAr s9.toNat (by omega); omega; omega), hBr⟩, hFr⟩ | (exfalso; omega))
  · refine x_iload_n C dX6_countWrong_4 rfl 1 rfl ?_
    refine x_aload_n C dX6_countWrong_5 rfl 0 rfl ?_
    refine x_get (ci := 7) (Cn := RX6) (T := TX6) (N := 9) (ref := "CairnCipher$Walker") C dX6_countWrong_6 in_X6 rfl hO 1 (by decide) (by decide +kernel) rfl rfl ?_
    refine z_alenI C dX6_countWrong_9 hA rfl ?_
    refine z_icmp_ge (tgt := 23) C dX6_countWrong_10 (by decide) (rg_of (by omega) (by omega)) (rg_of (by omega) (by omega)) (fun c_2 => ?_) (fun c_2 => ?_)
    · exact x_vret C R dX6_countWrong_23 (Nat.le_of_ble_eq_true rfl) (Nat.le_of_ble_eq_true rfl) (by first | exact ⟨rfl, ⟨wa, ta, hO, hA, hB, wk1, wk2, wk3, wk4, wk5, wk6, wk7, fun j hj => by (have := hAr j hj; unfold va_up; split <;> rename_i q; have := hAr s9.toNat (by omega); omega; omega), hBr⟩, hFr⟩ | (exfalso; omega))
    · refine x_aload_n C dX6_countWrong_13 rfl 0 rfl ?_
      refine x_get (ci := 7) (Cn := RX6) (T := TX6) (N := 9) (ref := "CairnCipher$Walker") C dX6_countWrong_14 in_X6 rfl hO 1 (by decide) (by decide +kernel) rfl rfl ?_
      refine x_iload_n C dX6_countWrong_17 rfl 1 rfl ?_
      refine x_dup2 C dX6_countWrong_18 rfl rfl ?_
      refine z_iald (j := s9.toNat) C dX6_countWrong_19 hA (by omega) (by omega) (by decide) ?_
      have q_3 := hAr s9.toNat (by omega)
      refine z_iconst C dX6_countWrong_20 ?_
      refine z_iadd C dX6_countWrong_21 rfl ?_
      refine z_iast (j := s9.toNat) C dX6_countWrong_22 hA (by omega) (by omega) (by decide) (fun μ4 hAw hF5 => ?_)
      have hO := hF5.ob hO
      have hB := hF5.az hB
      have hFr : Fr r (r + 3) μ μ4 := hFr.tr hF5
      have hA := hAw
      exact x_vret C R dX6_countWrong_23 (Nat.le_of_ble_eq_true rfl) (Nat.le_of_ble_eq_true rfl) (by first | exact ⟨rfl, ⟨wa, ta, hO, hA, hB, wk1, wk2, wk3, wk4, wk5, wk6, wk7, fun j hj => by (have := hAr j hj; unfold va_up; split <;> rename_i q; have := hAr s9.toNat (by omega); omega; omega), hBr⟩, hFr⟩ | (exfalso; omega))
abbrev rm_X6_hear : Room := { frames := 0, cells := 0, slots := 0, locals := 0 }
set_option maxHeartbeats 4000000 in
set_option maxRecDepth 100000 in
theorem c_X6_hear (l : Launch) (hst : l.stackTraces = false) (G : GG) (z : Nat) (μ : Mm) (a r : Nat) (pc pl go st le so sc : Int) (Wr To : Nat → Int) (s9 : Int) (hW9 : WalkerR G μ a r pc pl go st le so sc Wr To) (hs : 0 ≤ s9 ∧ s9 < 6) : Ct l yX6_hear wsX6_hear rm_X6_hear G z [.ref a, .int (zI s9)] μ (rV (fun μ' => WalkerR G μ' a r pc pl go st le so sc Wr (va_up To s9.toNat 1) ∧ Fr r (r + 3) μ μ')) (nX) := by
  refine ct_of (cc := cX6_hear) (maxL := 2) (ret := none) (own := RX6) (by decide) rfl rfl hst (Nat.le_of_ble_eq_true rfl) ?_
  intro E hLl hnm C R hT
  have in_X6 : ∀ w ∈ u_ws RX6 TX6 9, w ∈ wsX6_hear := by decide +kernel
  obtain ⟨wa, ta, hO, hA, hB, wk1, wk2, wk3, wk4, wk5, wk6, wk7, hAr, hBr⟩ := hW9
  have hFr : Fr r (r + 3) μ μ := Fr.rf
  refine x_eq (lv' := [(0, .ref a), (1, .int (zI s9))]) rfl rfl ?_
  refine x_iload_n C dX6_hear_0 rfl 1 rfl ?_
  refine z_if_lt (tgt := 20) C dX6_hear_1 (by decide) (rg_of (by omega) (by omega)) (fun c_1 => ?_) (fun c_1 => ?_)
  · exact x_vret C R dX6_hear_20 (Nat.le_of_ble_eq_true rfl) (Nat.le_of_ble_eq_true rfl) (by first | exact ⟨rfl, ⟨wa, ta, hO, hA, hB, wk1, wk2, wk3, wk4, wk5, wk6, wk7, hAr, fun j hj => by (have := hBr j hj; unfold va_up; split <;> simp [*])⟩, hFr⟩ | (exfalso; omega))
  · refine x_iload_n C dX6_hear_4 rfl 1 rfl ?_
    refine x_aload_n C dX6_hear_5 rfl 0 rfl ?_
    refine x_get (ci := 7) (Cn := RX6) (T := TX6) (N := 9) (ref := "CairnCipher$Walker") C dX6_hear_6 in_X6 rfl hO 2 (by decide) (by decide +kernel) rfl rfl ?_
    refine z_alenZ C dX6_hear_9 hB rfl ?_
    refine z_icmp_ge (tgt := 20) C dX6_hear_10 (by decide) (rg_of (by omega) (by omega)) (rg_of (by omega) (by omega)) (fun c_2 => ?_) (fun c_2 => ?_)
    · exact x_vret C R dX6_hear_20 (Nat.le_of_ble_eq_true rfl) (Nat.le_of_ble_eq_true rfl) (by first | exact ⟨rfl, ⟨wa, ta, hO, hA, hB, wk1, wk2, wk3, wk4, wk5, wk6, wk7, hAr, fun j hj => by (have := hBr j hj; unfold va_up; split <;> simp [*])⟩, hFr⟩ | (exfalso; omega))
    · refine x_aload_n C dX6_hear_13 rfl 0 rfl ?_
      refine x_get (ci := 7) (Cn := RX6) (T := TX6) (N := 9) (ref := "CairnCipher$Walker") C dX6_hear_14 in_X6 rfl hO 2 (by decide) (by decide +kernel) rfl rfl ?_
      refine x_iload_n C dX6_hear_17 rfl 1 rfl ?_
      refine z_iconst C dX6_hear_18 ?_
      refine z_zast (j := s9.toNat) C dX6_hear_19 hB (by omega) (by omega) (by decide) (by omega) (fun μ3 hBw hF4 => ?_)
      have hO := hF4.ob hO
      have hA := hF4.ai hA
      have hFr : Fr r (r + 3) μ μ3 := hFr.tr hF4
      have hB := hBw
      exact x_vret C R dX6_hear_20 (Nat.le_of_ble_eq_true rfl) (Nat.le_of_ble_eq_true rfl) (by first | exact ⟨rfl, ⟨wa, ta, hO, hA, hB, wk1, wk2, wk3, wk4, wk5, wk6, wk7, hAr, fun j hj => by (have := hBr j hj; unfold va_up; split <;> simp [*])⟩, hFr⟩ | (exfalso; omega))
abbrev rm_X6_init : Room := { frames := 1, cells := 2, slots := 12, locals := 20 }
set_option maxHeartbeats 4000000 in
set_option maxRecDepth 100000 in
theorem c_X6_init (l : Launch) (hst : l.stackTraces = false) (G : GG) (z : Nat) (μ : Mm) (a r : Nat) (p pc : Int) (hO : OB μ a r 7 [.int (zI 0), .null, .null, .int (zI 0), .int (zI 0), .int (zI 0), .int (zI 0), .int (zI 0), .int (zI 0)]) (hp : 0 ≤ p ∧ p < 64) (hpc : 1 ≤ pc ∧ pc ≤ 5) : Ct l yX6_init wsX6_init rm_X6_init G z [.ref a, .int (zI p), .int (zI pc)] μ (rV (fun μ' => WalkerR G μ' a r pc p (-1) (-1) 0 0 0 (fun _ => 0) (fun _ => 0) ∧ Fr r (r + 3) μ μ')) (nX) := by
  refine ct_of (cc := cX6_init) (maxL := 3) (ret := none) (own := RX6) (by decide) rfl rfl hst (Nat.le_of_ble_eq_true rfl) ?_
  intro E hLl hnm C R hT
  have in_X6 : ∀ w ∈ u_ws RX6 TX6 9, w ∈ wsX6_init := by decide +kernel
  have hFr : Fr r (r + 3) μ μ := Fr.rf
  refine x_eq (lv' := [(0, .ref a), (1, .int (zI p)), (2, .int (zI pc))]) rfl rfl ?_
  refine x_aload_n C dX6_init_0 rfl 0 rfl ?_
  refine x_objInit C dX6_init_1 (by decide +kernel) (by decide +kernel) (by decide +kernel) (Nat.le_of_ble_eq_true rfl) (Nat.le_of_ble_eq_true rfl) ?_
  refine x_aload_n C dX6_init_4 rfl 0 rfl ?_
  refine z_bipush C dX6_init_5 (by decide) ?_
  refine z_newI (N9 := 6) (cc9 := 1) (ss9 := 6) C (r + 1) dX6_init_7 (by decide +kernel) rfl (by decide) rfl rfl (Nat.le_of_ble_eq_true rfl) (Nat.le_of_ble_eq_true rfl) (fun a1 μ2 hq3 hA4 hF5 => ?_)
  have hF6 : Fr 0 0 μ μ2 := hF5 _ _
  have hO := (hF5 0 0).ob hO (Or.inr (Nat.zero_le _))
  have hFr : Fr r (r + 3) μ μ2 := hFr.tr (hF5 r (r + 3))
  refine z_putF (ci := 7) (Cn := RX6) (T := TX6) (N := 9) (ref := "CairnCipher$Walker") (fs' := [.int (zI 0), .ref a1, .null, .int (zI 0), .int (zI 0), .int (zI 0), .int (zI 0), .int (zI 0), .int (zI 0)]) C dX6_init_9 hnm in_X6 rfl tyX6 tyX6_ok nmX6 hO 1 (by decide) (by decide +kernel) rfl rfl rfl rfl rfl rfl (Nat.le_of_ble_eq_true rfl) rfl (fun μ7 hOw hF8 => ?_)
  have hA4 := hF8.ai hA4
  have hFr : Fr r (r + 3) μ μ7 := hFr.tr hF8
  have hO := hOw
  refine x_aload_n C dX6_init_12 rfl 0 rfl ?_
  refine z_bipush C dX6_init_13 (by decide) ?_
  refine z_newZ (N9 := 6) (cc9 := 2) (ss9 := 12) C (r + 2) dX6_init_15 (by decide +kernel) rfl (by decide) rfl rfl (Nat.le_of_ble_eq_true rfl) (Nat.le_of_ble_eq_true rfl) (fun a9 μ10 hq11 hA12 hF13 => ?_)
  have hF14 : Fr 0 0 μ7 μ10 := hF13 _ _
  have hO := (hF13 0 0).ob hO (Or.inr (Nat.zero_le _))
  have hA4 := (hF13 0 0).ai hA4 (Or.inr (Nat.zero_le _))
  have hFr : Fr r (r + 3) μ μ10 := hFr.tr (hF13 r (r + 3))
  refine z_putF (ci := 7) (Cn := RX6) (T := TX6) (N := 9) (ref := "CairnCipher$Walker") (fs' := [.int (zI 0), .ref a1, .ref a9, .int (zI 0), .int (zI 0), .int (zI 0), .int (zI 0), .int (zI 0), .int (zI 0)]) C dX6_init_17 hnm in_X6 rfl tyX6 tyX6_ok nmX6 hO 2 (by decide) (by decide +kernel) rfl rfl rfl rfl rfl rfl (Nat.le_of_ble_eq_true rfl) rfl (fun μ15 hOw hF16 => ?_)
  have hA4 := hF16.ai hA4
  have hA12 := hF16.az hA12
  have hFr : Fr r (r + 3) μ μ15 := hFr.tr hF16
  have hO := hOw
  refine x_aload_n C dX6_init_20 rfl 0 rfl ?_
  refine z_iconst C dX6_init_21 ?_
  refine z_put (ci := 7) (Cn := RX6) (T := TX6) (N := 9) (ref := "CairnCipher$Walker") (fs' := [.int (zI 0), .ref a1, .ref a9, .int (zI 0), .int (zI (-1)), .int (zI 0), .int (zI 0), .int (zI 0), .int (zI 0)]) C dX6_init_22 in_X6 rfl tyX6 tyX6_ok nmX6 hO 4 (by decide) (by decide +kernel) rfl rfl rfl rfl rfl (Nat.le_of_ble_eq_true rfl) rfl (fun μ17 hOw hF18 => ?_)
  have hA4 := hF18.ai hA4
  have hA12 := hF18.az hA12
  have hFr : Fr r (r + 3) μ μ17 := hFr.tr hF18
  have hO := hOw
  refine x_aload_n C dX6_init_25 rfl 0 rfl ?_
  refine z_iconst C dX6_init_26 ?_
  refine z_put (ci := 7) (Cn := RX6) (T := TX6) (N := 9) (ref := "CairnCipher$Walker") (fs' := [.int (zI 0), .ref a1, .ref a9, .int (zI 0), .int (zI (-1)), .int (zI (-1)), .int (zI 0), .int (zI 0), .int (zI 0)]) C dX6_init_27 in_X6 rfl tyX6 tyX6_ok nmX6 hO 5 (by decide) (by decide +kernel) rfl rfl rfl rfl rfl (Nat.le_of_ble_eq_true rfl) rfl (fun μ19 hOw hF20 => ?_)
  have hA4 := hF20.ai hA4
  have hA12 := hF20.az hA12
  have hFr : Fr r (r + 3) μ μ19 := hFr.tr hF20
  have hO := hOw
  refine x_aload_n C dX6_init_30 rfl 0 rfl ?_
  refine z_iconst C dX6_init_31 ?_
  refine z_put (ci := 7) (Cn := RX6) (T := TX6) (N := 9) (ref := "CairnCipher$Walker") (fs' := [.int (zI 0), .ref a1, .ref a9, .int (zI 0), .int (zI (-1)), .int (zI (-1)), .int (zI 0), .int (zI 0), .int (zI 0)]) C dX6_init_32 in_X6 rfl tyX6 tyX6_ok nmX6 hO 6 (by decide) (by decide +kernel) rfl rfl rfl rfl rfl (Nat.le_of_ble_eq_true rfl) rfl (fun μ21 hOw hF22 => ?_)
  have hA4 := hF22.ai hA4
  have hA12 := hF22.az hA12
  have hFr : Fr r (r + 3) μ μ21 := hFr.tr hF22
  have hO := hOw
  refine x_aload_n C dX6_init_35 rfl 0 rfl ?_
  refine z_iconst C dX6_init_36 ?_
  refine z_put (ci := 7) (Cn := RX6) (T := TX6) (N := 9) (ref := "CairnCipher$Walker") (fs' := [.int (zI 0), .ref a1, .ref a9, .int (zI 0), .int (zI (-1)), .int (zI (-1)), .int (zI 0), .int (zI 0), .int (zI 0)]) C dX6_init_37 in_X6 rfl tyX6 tyX6_ok nmX6 hO 7 (by decide) (by decide +kernel) rfl rfl rfl rfl rfl (Nat.le_of_ble_eq_true rfl) rfl (fun μ23 hOw hF24 => ?_)
  have hA4 := hF24.ai hA4
  have hA12 := hF24.az hA12
  have hFr : Fr r (r + 3) μ μ23 := hFr.tr hF24
  have hO := hOw
  refine x_aload_n C dX6_init_40 rfl 0 rfl ?_
  refine z_iconst C dX6_init_41 ?_
  refine z_put (ci := 7) (Cn := RX6) (T := TX6) (N := 9) (ref := "CairnCipher$Walker") (fs' := [.int (zI 0), .ref a1, .ref a9, .int (zI 0), .int (zI (-1)), .int (zI (-1)), .int (zI 0), .int (zI 0), .int (zI 0)]) C dX6_init_42 in_X6 rfl tyX6 tyX6_ok nmX6 hO 8 (by decide) (by decide +kernel) rfl rfl rfl rfl rfl (Nat.le_of_ble_eq_true rfl) rfl (fun μ25 hOw hF26 => ?_)
  have hA4 := hF26.ai hA4
  have hA12 := hF26.az hA12
  have hFr : Fr r (r + 3) μ μ25 := hFr.tr hF26
  have hO := hOw
  refine x_aload_n C dX6_init_45 rfl 0 rfl ?_
  refine x_iload_n C dX6_init_46 rfl 1 rfl ?_
  refine z_put (ci := 7) (Cn := RX6) (T := TX6) (N := 9) (ref := "CairnCipher$Walker") (fs' := [.int (zI 0), .ref a1, .ref a9, .int (zI p), .int (zI (-1)), .int (zI (-1)), .int (zI 0), .int (zI 0), .int (zI 0)]) C dX6_init_47 in_X6 rfl tyX6 tyX6_ok nmX6 hO 3 (by decide) (by decide +kernel) rfl rfl rfl rfl rfl (Nat.le_of_ble_eq_true rfl) rfl (fun μ27 hOw hF28 => ?_)
  have hA4 := hF28.ai hA4
  have hA12 := hF28.az hA12
  have hFr : Fr r (r + 3) μ μ27 := hFr.tr hF28
  have hO := hOw
  refine x_aload_n C dX6_init_50 rfl 0 rfl ?_
  refine x_iload_n C dX6_init_51 rfl 2 rfl ?_
  refine z_putF (ci := 7) (Cn := RX6) (T := TX6) (N := 9) (ref := "CairnCipher$Walker") (fs' := [.int (zI pc), .ref a1, .ref a9, .int (zI p), .int (zI (-1)), .int (zI (-1)), .int (zI 0), .int (zI 0), .int (zI 0)]) C dX6_init_52 hnm in_X6 rfl tyX6 tyX6_ok nmX6 hO 0 (by decide) (by decide +kernel) rfl rfl rfl rfl rfl rfl (Nat.le_of_ble_eq_true rfl) rfl (fun μ29 hOw hF30 => ?_)
  have hA4 := hF30.ai hA4
  have hA12 := hF30.az hA12
  have hFr : Fr r (r + 3) μ μ29 := hFr.tr hF30
  have hO := hOw
  exact x_vret C R dX6_init_55 (Nat.le_of_ble_eq_true rfl) (Nat.le_of_ble_eq_true rfl) (⟨rfl, ⟨_, _, hO, hA4, hA12, hpc, hp, by omega, by omega, by omega, by omega, by omega, fun j hj => by (show (0 : Int) ≤ 0 ∧ (0 : Int) ≤ 1000; omega), fun j hj => Or.inl rfl⟩, hFr⟩)
abbrev rm_X0_codeOf : Room := { frames := 0, cells := 0, slots := 0, locals := 0 }
set_option maxHeartbeats 4000000 in
set_option maxRecDepth 100000 in
theorem c_X0_codeOf (l : Launch) (hst : l.stackTraces = false) (G : GG) (z : Nat) (μ : Mm) (w s9 : Int)  : Ct l yX0_codeOf wsX0_codeOf rm_X0_codeOf G z [.int (zI w), .int (zI s9)] μ (rP μ (fun r9 => r9 = (w * 6 + s9) * 3)) (nX) := by
  refine ct_of (cc := cX0_codeOf) (maxL := 2) (ret := (some .int)) (own := RX0) (by decide) rfl rfl hst (Nat.le_of_ble_eq_true rfl) ?_
  intro E hLl hnm C R hT
  refine x_eq (lv' := [(0, .int (zI w)), (1, .int (zI s9))]) rfl rfl ?_
  refine x_iload_n C dX0_codeOf_0 rfl 0 rfl ?_
  refine z_bipush C dX0_codeOf_1 (by decide) ?_
  refine z_imul C dX0_codeOf_3 rfl ?_
  refine x_iload_n C dX0_codeOf_4 rfl 1 rfl ?_
  refine z_iadd C dX0_codeOf_5 rfl ?_
  refine z_iconst C dX0_codeOf_6 ?_
  refine z_imul C dX0_codeOf_7 rfl ?_
  exact x_iret C R dX0_codeOf_8 (Nat.le_of_ble_eq_true rfl) (Nat.le_of_ble_eq_true rfl) (⟨_, rfl, rfl, rfl⟩)
abbrev rm_X0_init : Room := { frames := 1, cells := 1, slots := 512, locals := 20 }
set_option maxHeartbeats 4000000 in
set_option maxRecDepth 100000 in
theorem c_X0_init (l : Launch) (hst : l.stackTraces = false) (G : GG) (z : Nat) (μ : Mm) (a : Nat) (hO : OB μ a 14 1 [.null, .int (zI 0)]) : Ct l yX0_init wsX0_init rm_X0_init G z [.ref a] μ (rV (fun μ' => ChronR G μ' a 0 (fun _ => 0) ∧ Fr 14 16 μ μ')) (nX) := by
  refine ct_of (cc := cX0_init) (maxL := 1) (ret := none) (own := RX0) (by decide) rfl rfl hst (Nat.le_of_ble_eq_true rfl) ?_
  intro E hLl hnm C R hT
  have in_X0 : ∀ w ∈ u_ws RX0 TX0 2, w ∈ wsX0_init := by decide +kernel
  have hFr : Fr 14 16 μ μ := Fr.rf
  refine x_eq (lv' := [(0, .ref a)]) rfl rfl ?_
  refine x_aload_n C dX0_init_0 rfl 0 rfl ?_
  refine x_objInit C dX0_init_1 (by decide +kernel) (by decide +kernel) (by decide +kernel) (Nat.le_of_ble_eq_true rfl) (Nat.le_of_ble_eq_true rfl) ?_
  refine x_aload_n C dX0_init_4 rfl 0 rfl ?_
  refine z_sipush C dX0_init_5 (by decide) ?_
  refine z_newI (N9 := 512) (cc9 := 1) (ss9 := 512) C 15 dX0_init_8 (by decide +kernel) rfl (by decide) rfl rfl (Nat.le_of_ble_eq_true rfl) (Nat.le_of_ble_eq_true rfl) (fun a1 μ2 hq3 hA4 hF5 => ?_)
  have hF6 : Fr 0 0 μ μ2 := hF5 _ _
  have hO := (hF5 0 0).ob hO (Or.inr (Nat.zero_le _))
  have hFr : Fr 14 16 μ μ2 := hFr.tr (hF5 14 16)
  refine z_putF (ci := 1) (Cn := RX0) (T := TX0) (N := 2) (ref := "CairnCipher$Chronicle") (fs' := [.ref a1, .int (zI 0)]) C dX0_init_10 hnm in_X0 rfl tyX0 tyX0_ok nmX0 hO 0 (by decide) (by decide +kernel) rfl rfl rfl rfl rfl rfl (Nat.le_of_ble_eq_true rfl) rfl (fun μ7 hOw hF8 => ?_)
  have hA4 := hF8.ai hA4
  have hFr : Fr 14 16 μ μ7 := hFr.tr hF8
  have hO := hOw
  refine x_aload_n C dX0_init_13 rfl 0 rfl ?_
  refine z_iconst C dX0_init_14 ?_
  refine z_put (ci := 1) (Cn := RX0) (T := TX0) (N := 2) (ref := "CairnCipher$Chronicle") (fs' := [.ref a1, .int (zI 0)]) C dX0_init_15 in_X0 rfl tyX0 tyX0_ok nmX0 hO 1 (by decide) (by decide +kernel) rfl rfl rfl rfl rfl (Nat.le_of_ble_eq_true rfl) rfl (fun μ9 hOw hF10 => ?_)
  have hA4 := hF10.ai hA4
  have hFr : Fr 14 16 μ μ9 := hFr.tr hF10
  have hO := hOw
  exact x_vret C R dX0_init_18 (Nat.le_of_ble_eq_true rfl) (Nat.le_of_ble_eq_true rfl) (⟨rfl, ⟨_, hO, hA4, by omega, fun j hj => by (show (0 : Int) ≤ 0 ∧ (0 : Int) < 200; omega)⟩, hFr⟩)
abbrev rm_X0_write : Room := { frames := 1, cells := 0, slots := 0, locals := 21 }
set_option maxHeartbeats 4000000 in
set_option maxRecDepth 100000 in
theorem c_X0_write (l : Launch) (hst : l.stackTraces = false) (G : GG) (z : Nat) (μ : Mm) (a n : Nat) (En : Nat → Int) (k w s9 : Int) (hC9 : ChronR G μ a n En) (hn5 : n < 512) (hk : 0 ≤ k ∧ k < 3) (hw : 0 ≤ w ∧ w < 6) (hs : 0 ≤ s9 ∧ s9 < 6) : Ct l yX0_write wsX0_write rm_X0_write G z [.ref a, .int (zI k), .int (zI w), .int (zI s9)] μ (rV (fun μ' => ChronR G μ' a (n + 1) (wr En n ((w * 6 + s9) * 3 + k)) ∧ Fr 14 16 μ μ')) (nX) := by
  refine ct_of (cc := cX0_write) (maxL := 4) (ret := none) (own := RX0) (by decide) rfl rfl hst (Nat.le_of_ble_eq_true rfl) ?_
  intro E hLl hnm C R hT
  have in_X0 : ∀ w ∈ u_ws RX0 TX0 2, w ∈ wsX0_write := by decide +kernel
  obtain ⟨e, hO, hA, hn, hr⟩ := hC9
  have hFr : Fr 14 16 μ μ := Fr.rf
  refine x_eq (lv' := [(0, .ref a), (1, .int (zI k)), (2, .int (zI w)), (3, .int (zI s9))]) rfl rfl ?_
  refine x_aload_n C dX0_write_0 rfl 0 rfl ?_
  refine x_get (ci := 1) (Cn := RX0) (T := TX0) (N := 2) (ref := "CairnCipher$Chronicle") C dX0_write_1 in_X0 rfl hO 1 (by decide) (by decide +kernel) rfl rfl ?_
  refine z_if_lt (tgt := 45) C dX0_write_4 (by decide) (rg_of (by omega) (by omega)) (fun c_1 => ?_) (fun c_1 => ?_)
  · exact x_vret C R dX0_write_45 (Nat.le_of_ble_eq_true rfl) (Nat.le_of_ble_eq_true rfl) (by first | exact ⟨rfl, ⟨e, hO, by rw [← hc9]; exact hA, by omega, fun j hj => by (have := hr j hj; unfold wr; split <;> omega)⟩, hFr⟩ | (exfalso; omega))
  · refine x_aload_n C dX0_write_7 rfl 0 rfl ?_
    refine x_get (ci := 1) (Cn := RX0) (T := TX0) (N := 2) (ref := "CairnCipher$Chronicle") C dX0_write_8 in_X0 rfl hO 1 (by decide) (by decide +kernel) rfl rfl ?_
    refine x_aload_n C dX0_write_11 rfl 0 rfl ?_
    refine x_get (ci := 1) (Cn := RX0) (T := TX0) (N := 2) (ref := "CairnCipher$Chronicle") C dX0_write_12 in_X0 rfl hO 0 (by decide) (by decide +kernel) rfl rfl ?_
    refine z_alenI C dX0_write_15 hA rfl ?_
    refine z_icmp_ge (tgt := 45) C dX0_write_16 (by decide) (rg_of (by omega) (by omega)) (rg_of (by omega) (by omega)) (fun c_2 => ?_) (fun c_2 => ?_)
    · exact x_vret C R dX0_write_45 (Nat.le_of_ble_eq_true rfl) (Nat.le_of_ble_eq_true rfl) (by first | exact ⟨rfl, ⟨e, hO, by rw [← hc9]; exact hA, by omega, fun j hj => by (have := hr j hj; unfold wr; split <;> omega)⟩, hFr⟩ | (exfalso; omega))
    · refine x_aload_n C dX0_write_19 rfl 0 rfl ?_
      refine x_get (ci := 1) (Cn := RX0) (T := TX0) (N := 2) (ref := "CairnCipher$Chronicle") C dX0_write_20 in_X0 rfl hO 0 (by decide) (by decide +kernel) rfl rfl ?_
      refine x_aload_n C dX0_write_23 rfl 0 rfl ?_
      refine x_get (ci := 1) (Cn := RX0) (T := TX0) (N := 2) (ref := "CairnCipher$Chronicle") C dX0_write_24 in_X0 rfl hO 1 (by decide) (by decide +kernel) rfl rfl ?_
      refine x_iload_n C dX0_write_27 rfl 2 rfl ?_
      refine x_iload_n C dX0_write_28 rfl 3 rfl ?_
      refine x_callS (n := 2) (cc9 := 0) (ss9 := 0) (rest := [.int (zI (n : Int)), .ref e]) C dX0_write_29 (c_X0_codeOf (kxL E) C.st G z μ w s9 ) gX0_write_X0_codeOf rfl (by decide +kernel) ⟨(Nat.le_of_ble_eq_true rfl), (Nat.le_of_ble_eq_true rfl)⟩ rfl rfl (Nat.le_of_ble_eq_true rfl) rfl rfl ⟨(Nat.le_of_ble_eq_true rfl), (Nat.le_of_ble_eq_true rfl)⟩ nX_no (fun v3 μ4 hv5 => ?_)
      obtain ⟨r6, hw9, h7, hm8⟩ := hv5
      subst hw9
      rw [hm8]
      have hc9 := h7
      refine x_stk (stk' := [.int (zI r6), .int (zI (n : Int)), .ref e]) rfl ?_
      refine x_iload_n C dX0_write_32 rfl 1 rfl ?_
      refine z_iadd C dX0_write_33 rfl ?_
      refine z_iast (j := n) C dX0_write_34 hA (by omega) (by omega) (by decide) (fun μ10 hAw hF11 => ?_)
      have hO := hF11.ob hO
      have hFr : Fr 14 16 μ μ10 := hFr.tr hF11
      have hA := hAw
      refine x_aload_n C dX0_write_35 rfl 0 rfl ?_
      refine x_dup C dX0_write_36 rfl ?_
      refine x_get (ci := 1) (Cn := RX0) (T := TX0) (N := 2) (ref := "CairnCipher$Chronicle") C dX0_write_37 in_X0 rfl hO 1 (by decide) (by decide +kernel) rfl rfl ?_
      refine z_iconst C dX0_write_40 ?_
      refine z_iadd C dX0_write_41 rfl ?_
      refine z_put (ci := 1) (Cn := RX0) (T := TX0) (N := 2) (ref := "CairnCipher$Chronicle") (fs' := [.ref e, .int (zI ((n : Int) + 1))]) C dX0_write_42 in_X0 rfl tyX0 tyX0_ok nmX0 hO 1 (by decide) (by decide +kernel) rfl rfl rfl rfl rfl (Nat.le_of_ble_eq_true rfl) rfl (fun μ12 hOw hF13 => ?_)
      have hA := hF13.ai hA
      have hFr : Fr 14 16 μ μ12 := hFr.tr hF13
      have hO := hOw
      exact x_vret C R dX0_write_45 (Nat.le_of_ble_eq_true rfl) (Nat.le_of_ble_eq_true rfl) (by first | exact ⟨rfl, ⟨e, hO, by rw [← hc9]; exact hA, by omega, fun j hj => by (have := hr j hj; unfold wr; split <;> omega)⟩, hFr⟩ | (exfalso; omega))
abbrev rm_X0_pointsFound : Room := { frames := 2, cells := 0, slots := 0, locals := 43 }
set_option maxHeartbeats 4000000 in
set_option maxRecDepth 100000 in
theorem c_X0_pointsFound (l : Launch) (hst : l.stackTraces = false) (G : GG) (z : Nat) (μ : Mm) (a n : Nat) (En : Nat → Int) (w s9 : Int) (hC9 : ChronR G μ a n En) (hw : 0 ≤ w ∧ w < 6) (hs : 0 ≤ s9 ∧ s9 < 6) : Ct l yX0_pointsFound wsX0_pointsFound rm_X0_pointsFound G z [.ref a, .int (zI w), .int (zI s9)] μ (rP μ (fun r9 => PFO En ((w * 6 + s9) * 3) n r9)) (nX) := by
  refine ct_of (cc := cX0_pointsFound) (maxL := 8) (ret := (some .int)) (own := RX0) (by decide) rfl rfl hst (Nat.le_of_ble_eq_true rfl) ?_
  intro E hLl hnm C R hT
  have in_X0 : ∀ w ∈ u_ws RX0 TX0 2, w ∈ wsX0_pointsFound := by decide +kernel
  have hC8 := hC9
  obtain ⟨e, hO, hA, hn, hr⟩ := hC9
  refine x_eq (lv' := [(0, .ref a), (1, .int (zI w)), (2, .int (zI s9))]) rfl rfl ?_
  refine x_iload_n C dX0_pointsFound_0 rfl 1 rfl ?_
  refine x_iload_n C dX0_pointsFound_1 rfl 2 rfl ?_
  refine x_callS (n := 2) (cc9 := 0) (ss9 := 0) (rest := []) C dX0_pointsFound_2 (c_X0_codeOf (kxL E) C.st G z μ w s9 ) gX0_pointsFound_X0_codeOf rfl (by decide +kernel) ⟨(Nat.le_of_ble_eq_true rfl), (Nat.le_of_ble_eq_true rfl)⟩ rfl rfl (Nat.le_of_ble_eq_true rfl) rfl rfl ⟨(Nat.le_of_ble_eq_true rfl), (Nat.le_of_ble_eq_true rfl)⟩ nX_no (fun v1 μ2 hv3 => ?_)
  obtain ⟨r4, hw7, h5, hm6⟩ := hv3
  subst hw7
  rw [hm6]
  have hc9 : r4 = (w * 6 + s9) * 3 := h5
  refine x_stk (stk' := [.int (zI r4)]) rfl ?_
  refine x_istore_n (lv' := [(3, .int (zI r4)), (0, .ref a), (1, .int (zI w)), (2, .int (zI s9))]) C dX0_pointsFound_5 rfl (by decide) rfl ?_
  refine z_iconst C dX0_pointsFound_6 ?_
  refine x_istore (lv' := [(4, .int (zI 0)), (3, .int (zI r4)), (0, .ref a), (1, .int (zI w)), (2, .int (zI s9))]) C dX0_pointsFound_7 (by decide) rfl ?_
  refine z_iconst C dX0_pointsFound_9 ?_
  refine x_istore (lv' := [(5, .int (zI 0)), (4, .int (zI 0)), (3, .int (zI r4)), (0, .ref a), (1, .int (zI w)), (2, .int (zI s9))]) C dX0_pointsFound_10 (by decide) rfl ?_
  refine z_iconst C dX0_pointsFound_12 ?_
  refine x_istore (lv' := [(6, .int (zI 0)), (5, .int (zI 0)), (4, .int (zI 0)), (3, .int (zI r4)), (0, .ref a), (1, .int (zI w)), (2, .int (zI s9))]) C dX0_pointsFound_13 (by decide) rfl ?_
  have L15 : ∀ (M9 : Nat) (k : Nat) (kz : Int) (hkz : kz = (k : Int)) (cw : Int) (ct : Int) (hk : k ≤ n) (hcw : cw = cnw En r4 k) (hct : ct = cnt En r4 k) (hno : ∀ j, j < k → En j ≠ r4) (hM9 : n - k = M9), Wx E G 0 0 15 [(6, .int (zI kz)), (5, .int (zI ct)), (4, .int (zI cw)), (3, .int (zI r4)), (0, .ref a), (1, .int (zI w)), (2, .int (zI s9))] [] μ := by
    intro M9
    induction M9 using Nat.strongRecOn with
    | ind M9 ih15 =>
      intro k kz hkz cw ct hk hcw hct hno hM9
      subst hkz
      have hcw8 := cnw_rg En r4 k
      have hct8 := cnt_rg En r4 k
      refine x_iload C dX0_pointsFound_15 0 rfl ?_
      refine x_aload_n C dX0_pointsFound_17 rfl 4 rfl ?_
      refine x_get (ci := 1) (Cn := RX0) (T := TX0) (N := 2) (ref := "CairnCipher$Chronicle") C dX0_pointsFound_18 in_X0 rfl hO 1 (by decide) (by decide +kernel) rfl rfl ?_
      refine z_icmp_ge (tgt := 91) C dX0_pointsFound_21 (by decide) (rg_of (by omega) (by omega)) (rg_of (by omega) (by omega)) (fun c_8 => ?_) (fun c_8 => ?_)
      · refine z_iconst C dX0_pointsFound_91 ?_
        exact x_iret C R dX0_pointsFound_92 (Nat.le_of_ble_eq_true rfl) (Nat.le_of_ble_eq_true rfl) (⟨_, rfl, by rw [← hc9]; exact Or.inr ⟨fun j hj => hno j (by omega), rfl⟩, rfl⟩)
      · refine x_iload C dX0_pointsFound_24 0 rfl ?_
        refine x_aload_n C dX0_pointsFound_26 rfl 4 rfl ?_
        refine x_get (ci := 1) (Cn := RX0) (T := TX0) (N := 2) (ref := "CairnCipher$Chronicle") C dX0_pointsFound_27 in_X0 rfl hO 0 (by decide) (by decide +kernel) rfl rfl ?_
        refine z_alenI C dX0_pointsFound_30 hA rfl ?_
        refine z_icmp_ge (tgt := 91) C dX0_pointsFound_31 (by decide) (rg_of (by omega) (by omega)) (rg_of (by omega) (by omega)) (fun c_9 => ?_) (fun c_9 => ?_)
        · refine z_iconst C dX0_pointsFound_91 ?_
          exact x_iret C R dX0_pointsFound_92 (Nat.le_of_ble_eq_true rfl) (Nat.le_of_ble_eq_true rfl) (⟨_, rfl, by rw [← hc9]; exact Or.inr ⟨fun j hj => hno j (by omega), rfl⟩, rfl⟩)
        · refine x_aload_n C dX0_pointsFound_34 rfl 4 rfl ?_
          refine x_get (ci := 1) (Cn := RX0) (T := TX0) (N := 2) (ref := "CairnCipher$Chronicle") C dX0_pointsFound_35 in_X0 rfl hO 0 (by decide) (by decide +kernel) rfl rfl ?_
          refine x_iload C dX0_pointsFound_38 0 rfl ?_
          refine z_iald (j := k) C dX0_pointsFound_40 hA (by omega) (by omega) (by decide) ?_
          have q_10 := hr k (by omega)
          refine x_iload_n C dX0_pointsFound_41 rfl 3 rfl ?_
          refine z_isub C dX0_pointsFound_42 rfl ?_
          refine x_istore (lv' := [(7, .int (zI ((En k) - r4))), (6, .int (zI (k : Int))), (5, .int (zI ct)), (4, .int (zI cw)), (3, .int (zI r4)), (0, .ref a), (1, .int (zI w)), (2, .int (zI s9))]) C dX0_pointsFound_43 (by decide) rfl ?_
          refine x_iload C dX0_pointsFound_45 0 rfl ?_
          refine z_if_ne (tgt := 58) C dX0_pointsFound_47 (by decide) (rg_of (by omega) (by omega)) (fun c_11 => ?_) (fun c_11 => ?_)
          · refine x_iload C dX0_pointsFound_58 0 rfl ?_
            refine z_iconst C dX0_pointsFound_60 ?_
            refine z_icmp_ne (tgt := 67) C dX0_pointsFound_61 (by decide) (rg_of (by omega) (by omega)) (rg_of (by omega) (by omega)) (fun c_12 => ?_) (fun c_12 => ?_)
            · refine x_iload C dX0_pointsFound_67 2 rfl ?_
              refine z_if_ne (tgt := 78) C dX0_pointsFound_69 (by decide) (rg_of (by omega) (by omega)) (fun c_13 => ?_) (fun c_13 => ?_)
              · refine z_iconst C dX0_pointsFound_78 ?_
                refine x_goto (tgt := 83) C dX0_pointsFound_79 (by decide) ?_
                refine x_istore (lv' := [(5, .int (zI 1)), (7, .int (zI ((En k) - r4))), (6, .int (zI (k : Int))), (4, .int (zI cw)), (3, .int (zI r4)), (0, .ref a), (1, .int (zI w)), (2, .int (zI s9))]) C dX0_pointsFound_83 (by decide) rfl ?_
                refine z_iinc (lv' := [(6, .int (zI ((k : Int) + 1))), (5, .int (zI 1)), (7, .int (zI ((En k) - r4))), (4, .int (zI cw)), (3, .int (zI r4)), (0, .ref a), (1, .int (zI w)), (2, .int (zI s9))]) C dX0_pointsFound_85 2 rfl rfl (by decide) rfl ?_
                refine x_goto (tgt := 15) C dX0_pointsFound_88 (by decide) ?_
                refine x_sub (lv' := [(6, .int (zI ((k : Int) + 1))), (5, .int (zI 1)), (4, .int (zI cw)), (3, .int (zI r4)), (0, .ref a), (1, .int (zI w)), (2, .int (zI s9))]) [0, 1, 3, 4, 5, 6, 7] rfl ?_
                exact ih15 _ (by omega) (k + 1) _ (by omega) _ _ (by omega) (by rw [show cnw En r4 (k + 1) = cnw En r4 k + (if En k - r4 = 1 then 1 else 0) from rfl]; split <;> omega) (by rw [show cnt En r4 (k + 1) = (if cnt En r4 k = 0 then (if En k - r4 = 2 then 1 else 0) else 1) from rfl]; split <;> (try split) <;> omega) (fun j hj => by (by_cases e : j = k); subst e; omega; exact hno j (by omega)) rfl
              · refine x_iload C dX0_pointsFound_72 0 rfl ?_
                refine z_iconst C dX0_pointsFound_74 ?_
                refine z_icmp_ne (tgt := 82) C dX0_pointsFound_75 (by decide) (rg_of (by omega) (by omega)) (rg_of (by omega) (by omega)) (fun c_14 => ?_) (fun c_14 => ?_)
                · refine z_iconst C dX0_pointsFound_82 ?_
                  refine x_istore (lv' := [(5, .int (zI 0)), (7, .int (zI ((En k) - r4))), (6, .int (zI (k : Int))), (4, .int (zI cw)), (3, .int (zI r4)), (0, .ref a), (1, .int (zI w)), (2, .int (zI s9))]) C dX0_pointsFound_83 (by decide) rfl ?_
                  refine z_iinc (lv' := [(6, .int (zI ((k : Int) + 1))), (5, .int (zI 0)), (7, .int (zI ((En k) - r4))), (4, .int (zI cw)), (3, .int (zI r4)), (0, .ref a), (1, .int (zI w)), (2, .int (zI s9))]) C dX0_pointsFound_85 2 rfl rfl (by decide) rfl ?_
                  refine x_goto (tgt := 15) C dX0_pointsFound_88 (by decide) ?_
                  refine x_sub (lv' := [(6, .int (zI ((k : Int) + 1))), (5, .int (zI 0)), (4, .int (zI cw)), (3, .int (zI r4)), (0, .ref a), (1, .int (zI w)), (2, .int (zI s9))]) [0, 1, 3, 4, 5, 6, 7] rfl ?_
                  exact ih15 _ (by omega) (k + 1) _ (by omega) _ _ (by omega) (by rw [show cnw En r4 (k + 1) = cnw En r4 k + (if En k - r4 = 1 then 1 else 0) from rfl]; split <;> omega) (by rw [show cnt En r4 (k + 1) = (if cnt En r4 k = 0 then (if En k - r4 = 2 then 1 else 0) else 1) from rfl]; split <;> (try split) <;> omega) (fun j hj => by (by_cases e : j = k); subst e; omega; exact hno j (by omega)) rfl
                · refine z_iconst C dX0_pointsFound_78 ?_
                  refine x_goto (tgt := 83) C dX0_pointsFound_79 (by decide) ?_
                  refine x_istore (lv' := [(5, .int (zI 1)), (7, .int (zI ((En k) - r4))), (6, .int (zI (k : Int))), (4, .int (zI cw)), (3, .int (zI r4)), (0, .ref a), (1, .int (zI w)), (2, .int (zI s9))]) C dX0_pointsFound_83 (by decide) rfl ?_
                  refine z_iinc (lv' := [(6, .int (zI ((k : Int) + 1))), (5, .int (zI 1)), (7, .int (zI ((En k) - r4))), (4, .int (zI cw)), (3, .int (zI r4)), (0, .ref a), (1, .int (zI w)), (2, .int (zI s9))]) C dX0_pointsFound_85 2 rfl rfl (by decide) rfl ?_
                  refine x_goto (tgt := 15) C dX0_pointsFound_88 (by decide) ?_
                  refine x_sub (lv' := [(6, .int (zI ((k : Int) + 1))), (5, .int (zI 1)), (4, .int (zI cw)), (3, .int (zI r4)), (0, .ref a), (1, .int (zI w)), (2, .int (zI s9))]) [0, 1, 3, 4, 5, 6, 7] rfl ?_
                  exact ih15 _ (by omega) (k + 1) _ (by omega) _ _ (by omega) (by rw [show cnw En r4 (k + 1) = cnw En r4 k + (if En k - r4 = 1 then 1 else 0) from rfl]; split <;> omega) (by rw [show cnt En r4 (k + 1) = (if cnt En r4 k = 0 then (if En k - r4 = 2 then 1 else 0) else 1) from rfl]; split <;> (try split) <;> omega) (fun j hj => by (by_cases e : j = k); subst e; omega; exact hno j (by omega)) rfl
            · refine z_iinc (lv' := [(4, .int (zI (cw + 1))), (7, .int (zI ((En k) - r4))), (6, .int (zI (k : Int))), (5, .int (zI ct)), (3, .int (zI r4)), (0, .ref a), (1, .int (zI w)), (2, .int (zI s9))]) C dX0_pointsFound_64 3 rfl rfl (by decide) rfl ?_
              refine x_iload C dX0_pointsFound_67 3 rfl ?_
              refine z_if_ne (tgt := 78) C dX0_pointsFound_69 (by decide) (rg_of (by omega) (by omega)) (fun c_15 => ?_) (fun c_15 => ?_)
              · refine z_iconst C dX0_pointsFound_78 ?_
                refine x_goto (tgt := 83) C dX0_pointsFound_79 (by decide) ?_
                refine x_istore (lv' := [(5, .int (zI 1)), (4, .int (zI (cw + 1))), (7, .int (zI ((En k) - r4))), (6, .int (zI (k : Int))), (3, .int (zI r4)), (0, .ref a), (1, .int (zI w)), (2, .int (zI s9))]) C dX0_pointsFound_83 (by decide) rfl ?_
                refine z_iinc (lv' := [(6, .int (zI ((k : Int) + 1))), (5, .int (zI 1)), (4, .int (zI (cw + 1))), (7, .int (zI ((En k) - r4))), (3, .int (zI r4)), (0, .ref a), (1, .int (zI w)), (2, .int (zI s9))]) C dX0_pointsFound_85 3 rfl rfl (by decide) rfl ?_
                refine x_goto (tgt := 15) C dX0_pointsFound_88 (by decide) ?_
                refine x_sub (lv' := [(6, .int (zI ((k : Int) + 1))), (5, .int (zI 1)), (4, .int (zI (cw + 1))), (3, .int (zI r4)), (0, .ref a), (1, .int (zI w)), (2, .int (zI s9))]) [0, 1, 2, 4, 5, 6, 7] rfl ?_
                exact ih15 _ (by omega) (k + 1) _ (by omega) _ _ (by omega) (by rw [show cnw En r4 (k + 1) = cnw En r4 k + (if En k - r4 = 1 then 1 else 0) from rfl]; split <;> omega) (by rw [show cnt En r4 (k + 1) = (if cnt En r4 k = 0 then (if En k - r4 = 2 then 1 else 0) else 1) from rfl]; split <;> (try split) <;> omega) (fun j hj => by (by_cases e : j = k); subst e; omega; exact hno j (by omega)) rfl
              · refine x_iload C dX0_pointsFound_72 1 rfl ?_
                refine z_iconst C dX0_pointsFound_74 ?_
                refine z_icmp_ne (tgt := 82) C dX0_pointsFound_75 (by decide) (rg_of (by omega) (by omega)) (rg_of (by omega) (by omega)) (fun c_16 => ?_) (fun c_16 => ?_)
                · refine z_iconst C dX0_pointsFound_82 ?_
                  refine x_istore (lv' := [(5, .int (zI 0)), (4, .int (zI (cw + 1))), (7, .int (zI ((En k) - r4))), (6, .int (zI (k : Int))), (3, .int (zI r4)), (0, .ref a), (1, .int (zI w)), (2, .int (zI s9))]) C dX0_pointsFound_83 (by decide) rfl ?_
                  refine z_iinc (lv' := [(6, .int (zI ((k : Int) + 1))), (5, .int (zI 0)), (4, .int (zI (cw + 1))), (7, .int (zI ((En k) - r4))), (3, .int (zI r4)), (0, .ref a), (1, .int (zI w)), (2, .int (zI s9))]) C dX0_pointsFound_85 3 rfl rfl (by decide) rfl ?_
                  refine x_goto (tgt := 15) C dX0_pointsFound_88 (by decide) ?_
                  refine x_sub (lv' := [(6, .int (zI ((k : Int) + 1))), (5, .int (zI 0)), (4, .int (zI (cw + 1))), (3, .int (zI r4)), (0, .ref a), (1, .int (zI w)), (2, .int (zI s9))]) [0, 1, 2, 4, 5, 6, 7] rfl ?_
                  exact ih15 _ (by omega) (k + 1) _ (by omega) _ _ (by omega) (by rw [show cnw En r4 (k + 1) = cnw En r4 k + (if En k - r4 = 1 then 1 else 0) from rfl]; split <;> omega) (by rw [show cnt En r4 (k + 1) = (if cnt En r4 k = 0 then (if En k - r4 = 2 then 1 else 0) else 1) from rfl]; split <;> (try split) <;> omega) (fun j hj => by (by_cases e : j = k); subst e; omega; exact hno j (by omega)) rfl
                · refine z_iconst C dX0_pointsFound_78 ?_
                  refine x_goto (tgt := 83) C dX0_pointsFound_79 (by decide) ?_
                  refine x_istore (lv' := [(5, .int (zI 1)), (4, .int (zI (cw + 1))), (7, .int (zI ((En k) - r4))), (6, .int (zI (k : Int))), (3, .int (zI r4)), (0, .ref a), (1, .int (zI w)), (2, .int (zI s9))]) C dX0_pointsFound_83 (by decide) rfl ?_
                  refine z_iinc (lv' := [(6, .int (zI ((k : Int) + 1))), (5, .int (zI 1)), (4, .int (zI (cw + 1))), (7, .int (zI ((En k) - r4))), (3, .int (zI r4)), (0, .ref a), (1, .int (zI w)), (2, .int (zI s9))]) C dX0_pointsFound_85 3 rfl rfl (by decide) rfl ?_
                  refine x_goto (tgt := 15) C dX0_pointsFound_88 (by decide) ?_
                  refine x_sub (lv' := [(6, .int (zI ((k : Int) + 1))), (5, .int (zI 1)), (4, .int (zI (cw + 1))), (3, .int (zI r4)), (0, .ref a), (1, .int (zI w)), (2, .int (zI s9))]) [0, 1, 2, 4, 5, 6, 7] rfl ?_
                  exact ih15 _ (by omega) (k + 1) _ (by omega) _ _ (by omega) (by rw [show cnw En r4 (k + 1) = cnw En r4 k + (if En k - r4 = 1 then 1 else 0) from rfl]; split <;> omega) (by rw [show cnt En r4 (k + 1) = (if cnt En r4 k = 0 then (if En k - r4 = 2 then 1 else 0) else 1) from rfl]; split <;> (try split) <;> omega) (fun j hj => by (by_cases e : j = k); subst e; omega; exact hno j (by omega)) rfl
          · refine x_iload C dX0_pointsFound_50 3 rfl ?_
            refine x_iload C dX0_pointsFound_52 2 rfl ?_
            refine x_callSN (n := 2) (host := "CairnCipher") (cc9 := 0) (ss9 := 0) (rest := []) C dX0_pointsFound_54 (c_X8_pointsFor (kxL E) C.st G z μ cw ct (by omega) (by omega)) gX0_pointsFound_X8_pointsFor_n26 rfl (by decide +kernel) (by decide +kernel) (by decide +kernel) (by decide +kernel) ⟨(Nat.le_of_ble_eq_true rfl), (Nat.le_of_ble_eq_true rfl)⟩ rfl rfl (Nat.le_of_ble_eq_true rfl) rfl rfl ⟨(Nat.le_of_ble_eq_true rfl), (Nat.le_of_ble_eq_true rfl)⟩ nX_no (fun v17 μ18 hv19 => ?_)
            obtain ⟨r20, hw23, h21, hm22⟩ := hv19
            subst hw23
            rw [hm22]
            have hp9 := h21
            refine x_stk (stk' := [.int (zI r20)]) rfl ?_
            exact x_iret C R dX0_pointsFound_57 (Nat.le_of_ble_eq_true rfl) (Nat.le_of_ble_eq_true rfl) (⟨_, rfl, by rw [← hc9]; exact Or.inl ⟨k, by omega, by omega, hno, by rw [hp9, hcw, hct]⟩, rfl⟩)
  exact L15 _ (0) _ (by omega) _ _ (by omega) rfl rfl (fun j hj => absurd hj (Nat.not_lt_zero j)) rfl
abbrev rm_X0_scoreOf : Room := { frames := 3, cells := 0, slots := 0, locals := 70 }
set_option maxHeartbeats 4000000 in
set_option maxRecDepth 100000 in
theorem c_X0_scoreOf (l : Launch) (hst : l.stackTraces = false) (G : GG) (z : Nat) (μ : Mm) (a n : Nat) (En : Nat → Int) (w : Int) (hC9 : ChronR G μ a n En) (hw : 0 ≤ w ∧ w < 6) : Ct l yX0_scoreOf wsX0_scoreOf rm_X0_scoreOf G z [.ref a, .int (zI w)] μ (rP μ (fun r9 => ∃ P : Nat → Int, (∀ s9, s9 < 6 → PFO En ((w * 6 + (s9 : Nat)) * 3) n (P s9)) ∧ r9 = P 0 + P 1 + P 2 + P 3 + P 4 + P 5)) (nX) := by
  refine ct_of (cc := cX0_scoreOf) (maxL := 4) (ret := (some .int)) (own := RX0) (by decide) rfl rfl hst (Nat.le_of_ble_eq_true rfl) ?_
  intro E hLl hnm C R hT
  have hC8 := hC9
  obtain ⟨e, hO, hA, hn, hr⟩ := hC9
  refine x_eq (lv' := [(0, .ref a), (1, .int (zI w))]) rfl rfl ?_
  refine z_iconst C dX0_scoreOf_0 ?_
  refine x_istore_n (lv' := [(2, .int (zI 0)), (0, .ref a), (1, .int (zI w))]) C dX0_scoreOf_1 rfl (by decide) rfl ?_
  refine z_iconst C dX0_scoreOf_2 ?_
  refine x_istore_n (lv' := [(3, .int (zI 0)), (2, .int (zI 0)), (0, .ref a), (1, .int (zI w))]) C dX0_scoreOf_3 rfl (by decide) rfl ?_
  have L4 : ∀ (M9 : Nat) (k : Nat) (kz : Int) (hkz : kz = (k : Int)) (s : Int) (P : Nat → Int) (hk : k ≤ 6) (hP : ∀ s9, s9 < k → PFO En ((w * 6 + (s9 : Nat)) * 3) n (P s9)) (hs : s = sm P k) (hsr : 0 ≤ s ∧ s ≤ 100 * k) (hM9 : 6 - k = M9), Wx E G 0 0 4 [(3, .int (zI kz)), (2, .int (zI s)), (0, .ref a), (1, .int (zI w))] [] μ := by
    intro M9
    induction M9 using Nat.strongRecOn with
    | ind M9 ih4 =>
      intro k kz hkz s P hk hP hs hsr hM9
      subst hkz
      refine x_iload_n C dX0_scoreOf_4 rfl 0 rfl ?_
      refine z_bipush C dX0_scoreOf_5 (by decide) ?_
      refine z_icmp_ge (tgt := 25) C dX0_scoreOf_7 (by decide) (rg_of (by omega) (by omega)) (rg_of (by omega) (by omega)) (fun c_1 => ?_) (fun c_1 => ?_)
      · refine x_iload_n C dX0_scoreOf_25 rfl 1 rfl ?_
        exact x_iret C R dX0_scoreOf_26 (Nat.le_of_ble_eq_true rfl) (Nat.le_of_ble_eq_true rfl) (⟨_, rfl, ⟨P, fun s9 h => hP s9 (by omega), by (rw [hs, show k = 6 by omega]; simp [sm])⟩, rfl⟩)
      · refine x_iload_n C dX0_scoreOf_10 rfl 1 rfl ?_
        refine x_aload_n C dX0_scoreOf_11 rfl 2 rfl ?_
        refine x_iload_n C dX0_scoreOf_12 rfl 3 rfl ?_
        refine x_iload_n C dX0_scoreOf_13 rfl 0 rfl ?_
        refine x_callV (n := 2) (ci := 1) (Cn := RX0) (T := TX0) (N := 2) (cc9 := 0) (ss9 := 0) (rest := [.int (zI s)]) C dX0_scoreOf_14 (c_X0_pointsFound (kxL E) C.st G z μ _ _ _ w (k : Int) hC8 (by omega) (by omega)) gX0_scoreOf_X0_pointsFound rfl (by decide +kernel) ⟨(Nat.le_of_ble_eq_true rfl), (Nat.le_of_ble_eq_true rfl)⟩ rfl ⟨_, _, hO⟩ rfl rfl (Nat.le_of_ble_eq_true rfl) rfl rfl ⟨(Nat.le_of_ble_eq_true rfl), (Nat.le_of_ble_eq_true rfl)⟩ nX_no (fun v2 μ3 hv4 => ?_)
        obtain ⟨r5, hw8, h6, hm7⟩ := hv4
        subst hw8
        rw [hm7]
        have hp9 := h6
        have hp8 := hp9.rg hn
        refine x_stk (stk' := [.int (zI r5), .int (zI s)]) rfl ?_
        refine z_iadd C dX0_scoreOf_17 rfl ?_
        refine x_istore_n (lv' := [(2, .int (zI (s + r5))), (3, .int (zI (k : Int))), (0, .ref a), (1, .int (zI w))]) C dX0_scoreOf_18 rfl (by decide) rfl ?_
        refine z_iinc (lv' := [(3, .int (zI ((k : Int) + 1))), (2, .int (zI (s + r5))), (0, .ref a), (1, .int (zI w))]) C dX0_scoreOf_19 1 rfl rfl (by decide) rfl ?_
        refine x_goto (tgt := 4) C dX0_scoreOf_22 (by decide) ?_
        exact ih4 _ (by omega) (k + 1) _ (by omega) _ (va_up P k r5) (by omega) (fun j hj => by (by_cases e : j = k); subst e; rw [va_up_self]; exact hp9; rw [va_up_ne _ _ e]; exact hP j (by omega)) (by rw [show sm (va_up P k r5) (k + 1) = sm (va_up P k r5) k + va_up P k r5 k from rfl, va_up_self, sm_up, hs]) (by omega) rfl
  exact L4 _ (0) _ (by omega) _ (fun _ => 0) (by omega) (fun j hj => absurd hj (Nat.not_lt_zero j)) rfl (by omega) rfl
