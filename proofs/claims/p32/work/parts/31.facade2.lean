abbrev rm_X8_close : Room := { frames := 7, cells := 1, slots := 6, locals := 109 }
set_option maxHeartbeats 4000000 in
set_option maxRecDepth 100000 in
theorem c_X8_close (l : Launch) (hst : l.stackTraces = false) (G : GG) (z : Nat) (μ : Mm) (a : Nat) (σ : SS) (n : Nat) (p : Int) (hC9 : RepC G z μ a σ n) (hI : Iv σ n) (hp : -2147483648 ≤ p ∧ p < 2147483648) : Ct l yX8_close wsX8_close rm_X8_close G z [.ref a, .int (zI p)] μ (rS (fun r9 μ' => (t_p p = 0 ∧ r9 = 1 - σ 1 p.toNat ∧ RepC G z μ' a (n_close σ p) n) ∧ Fr 0 2999 μ μ')) (fun En => (En = "java/lang/IndexOutOfBoundsException" ∧ t_p p = 1)) := by
  refine ct_of (cc := cX8_close) (maxL := 2) (ret := (some .boolean)) (own := RX8) (by decide) rfl rfl hst (Nat.le_of_ble_eq_true rfl) ?_
  intro E hLl hnm C R hT
  have in_X8 : ∀ w ∈ u_ws RX8 TX8 10, w ∈ wsX8_close := by decide +kernel
  have hC8 := hC9
  obtain ⟨ld, wy, sp, sl, wl, wp, ch, dr, nS, nW, nD, nL, nV, nC, xs, ys, so, sc, En, S, T, hnC, hX9⟩ := hC9
  have hX8 := hX9
  obtain ⟨hO, hL, hY, hSp, hSl, hWl, hWp, hCh, hDr, hSt, hWk, ⟨n7, n12, n6, n11, n18, n7r, n12r, n18r⟩, hIc⟩ := hX9
  have hnL := hSp.le
  have hnD := hDr.le
  have hFr : Fr 0 2999 μ μ := Fr.rf
  refine x_eq (lv' := [(0, .ref a), (1, .int (zI p))]) rfl rfl ?_
  refine x_iload_n C dX8_close_0 rfl 1 rfl ?_
  refine x_callS (n := 1) (cc9 := 1) (ss9 := 6) (rest := []) C dX8_close_1 (c_X8_requirePlace (kxL E) C.st G z μ p (by omega)) gX8_close_X8_requirePlace rfl (by decide +kernel) ⟨(Nat.le_of_ble_eq_true rfl), (Nat.le_of_ble_eq_true rfl)⟩ rfl rfl (Nat.le_of_ble_eq_true rfl) rfl rfl ⟨(Nat.le_of_ble_eq_true rfl), (Nat.le_of_ble_eq_true rfl)⟩ (fun En hEn => x_out C R hT (⟨hEn.1, by unfold t_p; rw [if_neg hEn.2]⟩) (Nat.le_of_ble_eq_true rfl) (Nat.le_of_ble_eq_true rfl)) (fun v1 μ2 hv3 => ?_)
  obtain ⟨hw7, h5, hm6⟩ := hv3
  subst hw7
  rw [hm6]
  refine x_stk (stk' := []) rfl ?_
  refine x_aload_n C dX8_close_4 rfl 0 rfl ?_
  refine x_get (ci := 9) (Cn := RX8) (T := TX8) (N := 10) (ref := "CairnCipher") C dX8_close_5 in_X8 rfl hO 0 (by decide) (by decide +kernel) rfl rfl ?_
  refine x_iload_n C dX8_close_8 rfl 1 rfl ?_
  have hzz := hL.zr p.toNat (by omega)
  refine x_callV (n := 1) (ci := 4) (Cn := RX3) (T := TX3) (N := 2) (cc9 := 1) (ss9 := 6) (rest := []) C dX8_close_9 (c_X3_turnGate (kxL E) C.st G z μ _ _ _ p hL (by omega)) gX8_close_X3_turnGate rfl (by decide +kernel) ⟨(Nat.le_of_ble_eq_true rfl), (Nat.le_of_ble_eq_true rfl)⟩ rfl hL.ob rfl rfl (Nat.le_of_ble_eq_true rfl) rfl rfl ⟨(Nat.le_of_ble_eq_true rfl), (Nat.le_of_ble_eq_true rfl)⟩ nX_no (fun v8 μ9 hv10 => ?_)
  obtain ⟨r11, hw14, h12⟩ := hv10
  subst hw14
  obtain ⟨hr9, hL, hF9⟩ := h12
  have hF15 := hF9
  have hO := hF15.ob hO
  have hY : WaysR G μ9 wy S T := hF15.ways hY
  have hSp : TextR G μ9 sp 7 nL (lw σ 0) := hF15.text hSp
  have hSl : ListR G z μ9 sl 9 nS xs := hF15.list hSl
  have hWl : ListR G z μ9 wl 11 nW ys := hF15.list hWl
  have hWp := hF15.ai hWp
  have hCh : ChronR G μ9 ch nC En := hF15.chron hCh
  have hDr : HintsR G z μ9 dr (100 + 100 * nS) nD (dq σ 0) (σ 0) := (by first | exact hF15.hints hDr | exact hF15.hintsN hDr)
  have hSt : StF G z μ9 xs 0 nS σ (σ 0) (σ 8) (σ 9) := hF15.stf hSt
  have hWk : WkF G μ9 ys 0 nW σ so sc := hF15.wkf hWk
  have hFr : Fr 0 2999 μ μ9 := hFr.tr hF15
  refine x_stk (stk' := [.int (zI r11)]) rfl ?_
  exact x_zret C R dX8_close_12 (nar_z (by omega)) (Nat.le_of_ble_eq_true rfl) (Nat.le_of_ble_eq_true rfl) (⟨_, rfl, ⟨by unfold t_p; rw [if_pos (by omega)], hr9, ⟨ld, wy, sp, sl, wl, wp, ch, dr, nS, nW, nD, nL, nV, nC, xs, ys, so, sc, En, S, T, hnC, hO, hL, hY, hSp, hSl, hWl, hWp, hCh, hDr, hSt, hWk, ⟨n7, n12, n6, n11, n18, n7r, n12r, n18r⟩, hIc⟩⟩, hFr⟩)
abbrev rm_X8_clearDraft : Room := { frames := 2, cells := 0, slots := 0, locals := 43 }
set_option maxHeartbeats 4000000 in
set_option maxRecDepth 100000 in
theorem c_X8_clearDraft (l : Launch) (hst : l.stackTraces = false) (G : GG) (z : Nat) (μ : Mm) (a : Nat) (σ : SS) (n : Nat) (hC9 : RepC G z μ a σ n) (hI : Iv σ n) : Ct l yX8_clearDraft wsX8_clearDraft rm_X8_clearDraft G z [.ref a] μ (rS (fun r9 μ' => (r9 = σ 6 0 ∧ RepC G z μ' a (n_clearDraft σ) n) ∧ Fr 0 2999 μ μ')) (nX) := by
  refine ct_of (cc := cX8_clearDraft) (maxL := 2) (ret := (some .int)) (own := RX8) (by decide) rfl rfl hst (Nat.le_of_ble_eq_true rfl) ?_
  intro E hLl hnm C R hT
  have in_X8 : ∀ w ∈ u_ws RX8 TX8 10, w ∈ wsX8_clearDraft := by decide +kernel
  have hC8 := hC9
  obtain ⟨ld, wy, sp, sl, wl, wp, ch, dr, nS, nW, nD, nL, nV, nC, xs, ys, so, sc, En, S, T, hnC, hX9⟩ := hC9
  have hX8 := hX9
  obtain ⟨hO, hL, hY, hSp, hSl, hWl, hWp, hCh, hDr, hSt, hWk, ⟨n7, n12, n6, n11, n18, n7r, n12r, n18r⟩, hIc⟩ := hX9
  have hnL := hSp.le
  have hnD := hDr.le
  have hFr : Fr 0 2999 μ μ := Fr.rf
  refine x_eq (lv' := [(0, .ref a)]) rfl rfl ?_
  refine x_aload_n C dX8_clearDraft_0 rfl 0 rfl ?_
  refine x_get (ci := 9) (Cn := RX8) (T := TX8) (N := 10) (ref := "CairnCipher") C dX8_clearDraft_1 in_X8 rfl hO 7 (by decide) (by decide +kernel) rfl rfl ?_
  refine x_callV (n := 0) (ci := 3) (Cn := RX2) (T := TX2) (N := 1) (cc9 := 0) (ss9 := 0) (rest := []) C dX8_clearDraft_4 (c_X2_count (kxL E) C.st G z μ _ _ _ _ _ hDr ) gX8_clearDraft_X2_count rfl (by decide +kernel) ⟨(Nat.le_of_ble_eq_true rfl), (Nat.le_of_ble_eq_true rfl)⟩ rfl hDr.ob rfl rfl (Nat.le_of_ble_eq_true rfl) rfl rfl ⟨(Nat.le_of_ble_eq_true rfl), (Nat.le_of_ble_eq_true rfl)⟩ nX_no (fun v1 μ2 hv3 => ?_)
  obtain ⟨r4, hw7, h5, hm6⟩ := hv3
  subst hw7
  rw [hm6]
  have hb9 := h5
  refine x_stk (stk' := [.int (zI r4)]) rfl ?_
  refine x_istore_n (lv' := [(1, .int (zI r4)), (0, .ref a)]) C dX8_clearDraft_7 rfl (by decide) rfl ?_
  refine x_aload_n C dX8_clearDraft_8 rfl 1 rfl ?_
  refine x_get (ci := 9) (Cn := RX8) (T := TX8) (N := 10) (ref := "CairnCipher") C dX8_clearDraft_9 in_X8 rfl hO 7 (by decide) (by decide +kernel) rfl rfl ?_
  refine x_callV (n := 0) (ci := 3) (Cn := RX2) (T := TX2) (N := 1) (cc9 := 0) (ss9 := 0) (rest := []) C dX8_clearDraft_12 (c_X2_empty (kxL E) C.st G z μ _ _ _ _ _ hDr ) gX8_clearDraft_X2_empty rfl (by decide +kernel) ⟨(Nat.le_of_ble_eq_true rfl), (Nat.le_of_ble_eq_true rfl)⟩ rfl hDr.ob rfl rfl (Nat.le_of_ble_eq_true rfl) rfl rfl ⟨(Nat.le_of_ble_eq_true rfl), (Nat.le_of_ble_eq_true rfl)⟩ nX_no (fun v8 μ9 hv10 => ?_)
  obtain ⟨hw14, h12⟩ := hv10
  subst hw14
  obtain ⟨hH9, hF9⟩ := h12
  have hF15 := hF9
  have hO := hF15.ob hO
  have hL : LandR G μ9 ld (σ 0) (σ 1) := hF15.land hL
  have hY : WaysR G μ9 wy S T := hF15.ways hY
  have hSp : TextR G μ9 sp 7 nL (lw σ 0) := hF15.text hSp
  have hSl : ListR G z μ9 sl 9 nS xs := hF15.list hSl
  have hWl : ListR G z μ9 wl 11 nW ys := hF15.list hWl
  have hWp := hF15.ai hWp
  have hCh : ChronR G μ9 ch nC En := hF15.chron hCh
  have hSt : StF G z μ9 xs 0 nS σ (σ 0) (σ 8) (σ 9) := hF15.stf hSt
  have hWk : WkF G μ9 ys 0 nW σ so sc := hF15.wkf hWk
  have hFr : Fr 0 2999 μ μ9 := hFr.tr hF15
  refine x_stk (stk' := []) rfl ?_
  refine x_iload_n C dX8_clearDraft_15 rfl 0 rfl ?_
  exact x_iret C R dX8_clearDraft_16 (Nat.le_of_ble_eq_true rfl) (Nat.le_of_ble_eq_true rfl) (⟨_, rfl, ⟨by omega, ⟨ld, wy, sp, sl, wl, wp, ch, dr, nS, nW, 0, nL, nV, nC, xs, ys, so, sc, En, S, T, hnC, hO, hL, hY, hSp, hSl, hWl, hWp, hCh, hH9 _ _, hSt.cg (σ' := n_clearDraft σ) (fun k _ => by (show wr (σ 6) 0 0 (k + 1) = _; exact wr_ne (by omega))) (fun k _ => rfl) (fun k _ j _ i => rfl) (fun k _ j _ => rfl), hWk, ⟨n7, n12, rfl, n11, n18, n7r, n12r, n18r⟩, hIc⟩⟩, hFr⟩)
abbrev rm_X8_clearSpelled : Room := { frames := 1, cells := 0, slots := 0, locals := 20 }
set_option maxHeartbeats 4000000 in
set_option maxRecDepth 100000 in
theorem c_X8_clearSpelled (l : Launch) (hst : l.stackTraces = false) (G : GG) (z : Nat) (μ : Mm) (a : Nat) (σ : SS) (n : Nat) (hC9 : RepC G z μ a σ n) (hI : Iv σ n) : Ct l yX8_clearSpelled wsX8_clearSpelled rm_X8_clearSpelled G z [.ref a] μ (rS (fun r9 μ' => (r9 = σ 11 0 ∧ RepC G z μ' a (n_clearSpelled σ) n) ∧ Fr 0 2999 μ μ')) (nX) := by
  refine ct_of (cc := cX8_clearSpelled) (maxL := 2) (ret := (some .int)) (own := RX8) (by decide) rfl rfl hst (Nat.le_of_ble_eq_true rfl) ?_
  intro E hLl hnm C R hT
  have in_X8 : ∀ w ∈ u_ws RX8 TX8 10, w ∈ wsX8_clearSpelled := by decide +kernel
  have hC8 := hC9
  obtain ⟨ld, wy, sp, sl, wl, wp, ch, dr, nS, nW, nD, nL, nV, nC, xs, ys, so, sc, En, S, T, hnC, hX9⟩ := hC9
  have hX8 := hX9
  obtain ⟨hO, hL, hY, hSp, hSl, hWl, hWp, hCh, hDr, hSt, hWk, ⟨n7, n12, n6, n11, n18, n7r, n12r, n18r⟩, hIc⟩ := hX9
  have hnL := hSp.le
  have hnD := hDr.le
  have hFr : Fr 0 2999 μ μ := Fr.rf
  refine x_eq (lv' := [(0, .ref a)]) rfl rfl ?_
  refine x_aload_n C dX8_clearSpelled_0 rfl 0 rfl ?_
  refine x_get (ci := 9) (Cn := RX8) (T := TX8) (N := 10) (ref := "CairnCipher") C dX8_clearSpelled_1 in_X8 rfl hO 2 (by decide) (by decide +kernel) rfl rfl ?_
  refine x_callV (n := 0) (ci := 6) (Cn := RX5) (T := TX5) (N := 2) (cc9 := 0) (ss9 := 0) (rest := []) C dX8_clearSpelled_4 (c_X5_count (kxL E) C.st G z μ _ _ _ _ hSp ) gX8_clearSpelled_X5_count rfl (by decide +kernel) ⟨(Nat.le_of_ble_eq_true rfl), (Nat.le_of_ble_eq_true rfl)⟩ rfl hSp.ob rfl rfl (Nat.le_of_ble_eq_true rfl) rfl rfl ⟨(Nat.le_of_ble_eq_true rfl), (Nat.le_of_ble_eq_true rfl)⟩ nX_no (fun v1 μ2 hv3 => ?_)
  obtain ⟨r4, hw7, h5, hm6⟩ := hv3
  subst hw7
  rw [hm6]
  have hb9 := h5
  refine x_stk (stk' := [.int (zI r4)]) rfl ?_
  refine x_istore_n (lv' := [(1, .int (zI r4)), (0, .ref a)]) C dX8_clearSpelled_7 rfl (by decide) rfl ?_
  refine x_aload_n C dX8_clearSpelled_8 rfl 1 rfl ?_
  refine x_get (ci := 9) (Cn := RX8) (T := TX8) (N := 10) (ref := "CairnCipher") C dX8_clearSpelled_9 in_X8 rfl hO 2 (by decide) (by decide +kernel) rfl rfl ?_
  refine x_callV (n := 0) (ci := 6) (Cn := RX5) (T := TX5) (N := 2) (cc9 := 0) (ss9 := 0) (rest := []) C dX8_clearSpelled_12 (c_X5_empty (kxL E) C.st G z μ _ _ _ _ hSp ) gX8_clearSpelled_X5_empty rfl (by decide +kernel) ⟨(Nat.le_of_ble_eq_true rfl), (Nat.le_of_ble_eq_true rfl)⟩ rfl hSp.ob rfl rfl (Nat.le_of_ble_eq_true rfl) rfl rfl ⟨(Nat.le_of_ble_eq_true rfl), (Nat.le_of_ble_eq_true rfl)⟩ nX_no (fun v8 μ9 hv10 => ?_)
  obtain ⟨hw14, h12⟩ := hv10
  subst hw14
  obtain ⟨hSp, hF9⟩ := h12
  have hF15 := hF9
  have hO := hF15.ob hO
  have hL : LandR G μ9 ld (σ 0) (σ 1) := hF15.land hL
  have hY : WaysR G μ9 wy S T := hF15.ways hY
  have hSl : ListR G z μ9 sl 9 nS xs := hF15.list hSl
  have hWl : ListR G z μ9 wl 11 nW ys := hF15.list hWl
  have hWp := hF15.ai hWp
  have hCh : ChronR G μ9 ch nC En := hF15.chron hCh
  have hDr : HintsR G z μ9 dr (100 + 100 * nS) nD (dq σ 0) (σ 0) := (by first | exact hF15.hints hDr | exact hF15.hintsN hDr)
  have hSt : StF G z μ9 xs 0 nS σ (σ 0) (σ 8) (σ 9) := hF15.stf hSt
  have hWk : WkF G μ9 ys 0 nW σ so sc := hF15.wkf hWk
  have hFr : Fr 0 2999 μ μ9 := hFr.tr hF15
  refine x_stk (stk' := []) rfl ?_
  refine x_iload_n C dX8_clearSpelled_15 rfl 0 rfl ?_
  exact x_iret C R dX8_clearSpelled_16 (Nat.le_of_ble_eq_true rfl) (Nat.le_of_ble_eq_true rfl) (⟨_, rfl, ⟨by omega, ⟨ld, wy, sp, sl, wl, wp, ch, dr, nS, nW, nD, 0, nV, nC, xs, ys, so, sc, En, S, T, hnC, hO, hL, hY, hSp, hSl, hWl, hWp, hCh, hDr, hSt.cg (σ' := n_clearSpelled σ) (fun k _ => rfl) (fun k _ => by (show wr (σ 11) 0 0 (k + 1) = _; exact wr_ne (by omega))) (fun k _ j _ i => rfl) (fun k _ j _ => rfl), hWk, ⟨n7, n12, n6, rfl, n18, n7r, n12r, n18r⟩, hIc⟩⟩, hFr⟩)
abbrev rm_X8_spell : Room := { frames := 6, cells := 1, slots := 6, locals := 89 }
set_option maxHeartbeats 4000000 in
set_option maxRecDepth 100000 in
theorem c_X8_spell (l : Launch) (hst : l.stackTraces = false) (G : GG) (z : Nat) (μ : Mm) (a : Nat) (σ : SS) (n : Nat) (c : Int) (hC9 : RepC G z μ a σ n) (hI : Iv σ n) (hl : -2147483648 ≤ c ∧ c < 2147483648) : Ct l yX8_spell wsX8_spell rm_X8_spell G z [.ref a, .int (zI c)] μ (rS (fun r9 μ' => (t_spell σ c = 0 ∧ r9 = b_spell σ c ∧ RepC G z μ' a (n_spell σ c) n) ∧ Fr 0 2999 μ μ')) (fun En => (En = "java/lang/IndexOutOfBoundsException" ∧ t_spell σ c = 1) ∨ (En = "java/lang/IllegalStateException" ∧ t_spell σ c = 2)) := by
  refine ct_of (cc := cX8_spell) (maxL := 2) (ret := (some .int)) (own := RX8) (by decide) rfl rfl hst (Nat.le_of_ble_eq_true rfl) ?_
  intro E hLl hnm C R hT
  have in_X8 : ∀ w ∈ u_ws RX8 TX8 10, w ∈ wsX8_spell := by decide +kernel
  have hC8 := hC9
  obtain ⟨ld, wy, sp, sl, wl, wp, ch, dr, nS, nW, nD, nL, nV, nC, xs, ys, so, sc, En, S, T, hnC, hX9⟩ := hC9
  have hX8 := hX9
  obtain ⟨hO, hL, hY, hSp, hSl, hWl, hWp, hCh, hDr, hSt, hWk, ⟨n7, n12, n6, n11, n18, n7r, n12r, n18r⟩, hIc⟩ := hX9
  have hnL := hSp.le
  have hnD := hDr.le
  have hFr : Fr 0 2999 μ μ := Fr.rf
  refine x_eq (lv' := [(0, .ref a), (1, .int (zI c))]) rfl rfl ?_
  refine x_iload_n C dX8_spell_0 rfl 1 rfl ?_
  refine z_if_lt (tgt := 10) C dX8_spell_1 (by decide) (rg_of (by omega) (by omega)) (fun c_1 => ?_) (fun c_1 => ?_)
  · exact x_throw (En := "java/lang/IndexOutOfBoundsException") (names := ["java/lang/RuntimeException", "java/lang/Exception"]) C R hT dX8_spell_10 dX8_spell_13 dX8_spell_14 dX8_spell_17 (by decide +kernel) (by decide +kernel) (by decide +kernel) (by decide +kernel) (by decide +kernel) (by decide +kernel) (by decide +kernel) (Nat.le_of_ble_eq_true rfl) (Nat.le_of_ble_eq_true rfl) (Nat.le_of_ble_eq_true rfl) (Nat.le_of_ble_eq_true rfl) (Or.inl ⟨rfl, by (unfold t_spell; (repeat split) <;> omega)⟩) (Nat.le_of_ble_eq_true rfl) (Nat.le_of_ble_eq_true rfl)
  · refine x_iload_n C dX8_spell_4 rfl 1 rfl ?_
    refine z_bipush C dX8_spell_5 (by decide) ?_
    refine z_icmp_lt (tgt := 18) C dX8_spell_7 (by decide) (rg_of (by omega) (by omega)) (rg_of (by omega) (by omega)) (fun c_2 => ?_) (fun c_2 => ?_)
    · refine x_aload_n C dX8_spell_18 rfl 0 rfl ?_
      refine x_get (ci := 9) (Cn := RX8) (T := TX8) (N := 10) (ref := "CairnCipher") C dX8_spell_19 in_X8 rfl hO 2 (by decide) (by decide +kernel) rfl rfl ?_
      refine x_callV (n := 0) (ci := 6) (Cn := RX5) (T := TX5) (N := 2) (cc9 := 0) (ss9 := 0) (rest := []) C dX8_spell_22 (c_X5_count (kxL E) C.st G z μ _ _ _ _ hSp ) gX8_spell_X5_count rfl (by decide +kernel) ⟨(Nat.le_of_ble_eq_true rfl), (Nat.le_of_ble_eq_true rfl)⟩ rfl hSp.ob rfl rfl (Nat.le_of_ble_eq_true rfl) rfl rfl ⟨(Nat.le_of_ble_eq_true rfl), (Nat.le_of_ble_eq_true rfl)⟩ nX_no (fun v3 μ4 hv5 => ?_)
      obtain ⟨r6, hw9, h7, hm8⟩ := hv5
      subst hw9
      rw [hm8]
      refine x_stk (stk' := [.int (zI r6)]) rfl ?_
      refine z_iconst C dX8_spell_25 ?_
      refine z_icmp_lt (tgt := 37) C dX8_spell_26 (by decide) (rg_of (by omega) (by omega)) (rg_of (by omega) (by omega)) (fun c_10 => ?_) (fun c_10 => ?_)
      · have e11 : (σ 11 0).toNat = nL := by omega
        have elw : wr (lw σ 0) nL c = lw (n_spell σ c) 0 := by (funext j; show wr (lw σ 0) nL c j = wr (σ 10) (σ 11 0).toNat c (0 + j); rw [e11, Nat.zero_add]; unfold wr lw; rw [Nat.mul_zero, Nat.zero_add])
        refine x_aload_n C dX8_spell_37 rfl 0 rfl ?_
        refine x_get (ci := 9) (Cn := RX8) (T := TX8) (N := 10) (ref := "CairnCipher") C dX8_spell_38 in_X8 rfl hO 2 (by decide) (by decide +kernel) rfl rfl ?_
        refine x_iload_n C dX8_spell_41 rfl 1 rfl ?_
        refine x_callV (n := 1) (ci := 6) (Cn := RX5) (T := TX5) (N := 2) (cc9 := 0) (ss9 := 0) (rest := []) C dX8_spell_42 (c_X5_append (kxL E) C.st G z μ _ _ _ _ c hSp (by omega) (by omega)) gX8_spell_X5_append rfl (by decide +kernel) ⟨(Nat.le_of_ble_eq_true rfl), (Nat.le_of_ble_eq_true rfl)⟩ rfl hSp.ob rfl rfl (Nat.le_of_ble_eq_true rfl) rfl rfl ⟨(Nat.le_of_ble_eq_true rfl), (Nat.le_of_ble_eq_true rfl)⟩ nX_no (fun v11 μ12 hv13 => ?_)
        obtain ⟨hw17, h15⟩ := hv13
        subst hw17
        obtain ⟨hSp, hF9⟩ := h15
        have hF18 := hF9
        have hO := hF18.ob hO
        have hL : LandR G μ12 ld (σ 0) (σ 1) := hF18.land hL
        have hY : WaysR G μ12 wy S T := hF18.ways hY
        have hSl : ListR G z μ12 sl 9 nS xs := hF18.list hSl
        have hWl : ListR G z μ12 wl 11 nW ys := hF18.list hWl
        have hWp := hF18.ai hWp
        have hCh : ChronR G μ12 ch nC En := hF18.chron hCh
        have hDr : HintsR G z μ12 dr (100 + 100 * nS) nD (dq σ 0) (σ 0) := (by first | exact hF18.hints hDr | exact hF18.hintsN hDr)
        have hSt : StF G z μ12 xs 0 nS σ (σ 0) (σ 8) (σ 9) := hF18.stf hSt
        have hWk : WkF G μ12 ys 0 nW σ so sc := hF18.wkf hWk
        have hFr : Fr 0 2999 μ μ12 := hFr.tr hF18
        refine x_stk (stk' := []) rfl ?_
        refine x_aload_n C dX8_spell_45 rfl 0 rfl ?_
        refine x_get (ci := 9) (Cn := RX8) (T := TX8) (N := 10) (ref := "CairnCipher") C dX8_spell_46 in_X8 rfl hO 2 (by decide) (by decide +kernel) rfl rfl ?_
        refine x_callV (n := 0) (ci := 6) (Cn := RX5) (T := TX5) (N := 2) (cc9 := 0) (ss9 := 0) (rest := []) C dX8_spell_49 (c_X5_charCount (kxL E) C.st G z μ12 _ _ _ _ hSp ) gX8_spell_X5_charCount rfl (by decide +kernel) ⟨(Nat.le_of_ble_eq_true rfl), (Nat.le_of_ble_eq_true rfl)⟩ rfl hSp.ob rfl rfl (Nat.le_of_ble_eq_true rfl) rfl rfl ⟨(Nat.le_of_ble_eq_true rfl), (Nat.le_of_ble_eq_true rfl)⟩ nX_no (fun v19 μ20 hv21 => ?_)
        obtain ⟨r22, hw25, h23, hm24⟩ := hv21
        subst hw25
        rw [hm24]
        have hb9 := h23
        refine x_stk (stk' := [.int (zI r22)]) rfl ?_
        exact x_iret C R dX8_spell_52 (Nat.le_of_ble_eq_true rfl) (Nat.le_of_ble_eq_true rfl) (⟨_, rfl, ⟨by (unfold t_spell; (repeat split) <;> omega), by (unfold b_spell; rw [hb9, e11]; congr 1; rw [elw]; funext j; show wr (σ 10) (σ 11 0).toNat c (0 + j) = _; rw [e11, Nat.zero_add]), ⟨ld, wy, sp, sl, wl, wp, ch, dr, nS, nW, nD, nL + 1, nV, nC, xs, ys, so, sc, En, S, T, hnC, hO, hL, hY, by (rw [← elw]; exact hSp), hSl, hWl, hWp, hCh, hDr, hSt.cg (σ' := n_spell σ c) (fun k _ => rfl) (fun k _ => by (show wr (σ 11) 0 (σ 11 0 + 1) (k + 1) = _; exact wr_ne (by omega))) (fun k _ j _ i => rfl) (fun k _ j hj => by (show wr (σ 10) (σ 11 0).toNat c (5 * (k + 1) + j) = _; exact wr_ne (by omega))), hWk, ⟨n7, n12, n6, by (show wr (σ 11) 0 (σ 11 0 + 1) 0 = _; rw [wr_at, n11]; rfl), n18, n7r, n12r, n18r⟩, hIc⟩⟩, hFr⟩)
      · exact x_throw (En := "java/lang/IllegalStateException") (names := ["java/lang/RuntimeException", "java/lang/Exception"]) C R hT dX8_spell_29 dX8_spell_32 dX8_spell_33 dX8_spell_36 (by decide +kernel) (by decide +kernel) (by decide +kernel) (by decide +kernel) (by decide +kernel) (by decide +kernel) (by decide +kernel) (Nat.le_of_ble_eq_true rfl) (Nat.le_of_ble_eq_true rfl) (Nat.le_of_ble_eq_true rfl) (Nat.le_of_ble_eq_true rfl) (Or.inr ⟨rfl, by (unfold t_spell; (repeat split) <;> omega)⟩) (Nat.le_of_ble_eq_true rfl) (Nat.le_of_ble_eq_true rfl)
    · exact x_throw (En := "java/lang/IndexOutOfBoundsException") (names := ["java/lang/RuntimeException", "java/lang/Exception"]) C R hT dX8_spell_10 dX8_spell_13 dX8_spell_14 dX8_spell_17 (by decide +kernel) (by decide +kernel) (by decide +kernel) (by decide +kernel) (by decide +kernel) (by decide +kernel) (by decide +kernel) (Nat.le_of_ble_eq_true rfl) (Nat.le_of_ble_eq_true rfl) (Nat.le_of_ble_eq_true rfl) (Nat.le_of_ble_eq_true rfl) (Or.inl ⟨rfl, by (unfold t_spell; (repeat split) <;> omega)⟩) (Nat.le_of_ble_eq_true rfl) (Nat.le_of_ble_eq_true rfl)
abbrev rm_X8_addWarden : Room := { frames := 7, cells := 2, slots := 12, locals := 109 }
set_option maxHeartbeats 4000000 in
set_option maxRecDepth 100000 in
theorem c_X8_addWarden (l : Launch) (hst : l.stackTraces = false) (G : GG) (z : Nat) (μ : Mm) (a : Nat) (σ : SS) (n : Nat) (p : Int) (hC9 : RepC G z μ a σ n) (hI : Iv σ n) (hp : -2147483648 ≤ p ∧ p < 2147483648) : Ct l yX8_addWarden wsX8_addWarden rm_X8_addWarden G z [.ref a, .int (zI p)] μ (rS (fun r9 μ' => (t_addWarden σ p = 0 ∧ r9 = σ 18 0 ∧ RepC G z μ' a (n_addWarden σ p) n) ∧ Fr 0 2999 μ μ')) (fun En => (En = "java/lang/IndexOutOfBoundsException" ∧ t_addWarden σ p = 1) ∨ (En = "java/lang/IllegalStateException" ∧ t_addWarden σ p = 2)) := by
  refine ct_of (cc := cX8_addWarden) (maxL := 2) (ret := (some .int)) (own := RX8) (by decide) rfl rfl hst (Nat.le_of_ble_eq_true rfl) ?_
  intro E hLl hnm C R hT
  have in_X8 : ∀ w ∈ u_ws RX8 TX8 10, w ∈ wsX8_addWarden := by decide +kernel
  have hC8 := hC9
  obtain ⟨ld, wy, sp, sl, wl, wp, ch, dr, nS, nW, nD, nL, nV, nC, xs, ys, so, sc, En, S, T, hnC, hX9⟩ := hC9
  have hX8 := hX9
  obtain ⟨hO, hL, hY, hSp, hSl, hWl, hWp, hCh, hDr, hSt, hWk, ⟨n7, n12, n6, n11, n18, n7r, n12r, n18r⟩, hIc⟩ := hX9
  have hnL := hSp.le
  have hnD := hDr.le
  have hpr : ∀ j, j < 4 → True := fun _ _ => trivial
  have hFr : Fr 0 2999 μ μ := Fr.rf
  refine x_eq (lv' := [(0, .ref a), (1, .int (zI p))]) rfl rfl ?_
  refine x_iload_n C dX8_addWarden_0 rfl 1 rfl ?_
  refine x_callS (n := 1) (cc9 := 1) (ss9 := 6) (rest := []) C dX8_addWarden_1 (c_X8_requirePlace (kxL E) C.st G z μ p (by omega)) gX8_addWarden_X8_requirePlace rfl (by decide +kernel) ⟨(Nat.le_of_ble_eq_true rfl), (Nat.le_of_ble_eq_true rfl)⟩ rfl rfl (Nat.le_of_ble_eq_true rfl) rfl rfl ⟨(Nat.le_of_ble_eq_true rfl), (Nat.le_of_ble_eq_true rfl)⟩ (fun En hEn => x_out C R hT (Or.inl ⟨hEn.1, by unfold t_addWarden; rw [if_neg hEn.2]⟩) (Nat.le_of_ble_eq_true rfl) (Nat.le_of_ble_eq_true rfl)) (fun v1 μ2 hv3 => ?_)
  obtain ⟨hw7, h5, hm6⟩ := hv3
  subst hw7
  rw [hm6]
  refine x_stk (stk' := []) rfl ?_
  refine x_aload_n C dX8_addWarden_4 rfl 0 rfl ?_
  refine x_get (ci := 9) (Cn := RX8) (T := TX8) (N := 10) (ref := "CairnCipher") C dX8_addWarden_5 in_X8 rfl hO 8 (by decide) (by decide +kernel) rfl rfl ?_
  refine z_if_lt (tgt := 23) C dX8_addWarden_8 (by decide) (rg_of (by omega) (by omega)) (fun c_8 => ?_) (fun c_8 => ?_)
  · exact x_throw (En := "java/lang/IllegalStateException") (names := ["java/lang/RuntimeException", "java/lang/Exception"]) C R hT dX8_addWarden_23 dX8_addWarden_26 dX8_addWarden_27 dX8_addWarden_30 (by decide +kernel) (by decide +kernel) (by decide +kernel) (by decide +kernel) (by decide +kernel) (by decide +kernel) (by decide +kernel) (Nat.le_of_ble_eq_true rfl) (Nat.le_of_ble_eq_true rfl) (Nat.le_of_ble_eq_true rfl) (Nat.le_of_ble_eq_true rfl) (Or.inr ⟨rfl, by (unfold t_addWarden; (repeat split) <;> omega)⟩) (Nat.le_of_ble_eq_true rfl) (Nat.le_of_ble_eq_true rfl)
  · refine x_aload_n C dX8_addWarden_11 rfl 0 rfl ?_
    refine x_get (ci := 9) (Cn := RX8) (T := TX8) (N := 10) (ref := "CairnCipher") C dX8_addWarden_12 in_X8 rfl hO 8 (by decide) (by decide +kernel) rfl rfl ?_
    refine x_aload_n C dX8_addWarden_15 rfl 0 rfl ?_
    refine x_get (ci := 9) (Cn := RX8) (T := TX8) (N := 10) (ref := "CairnCipher") C dX8_addWarden_16 in_X8 rfl hO 5 (by decide) (by decide +kernel) rfl rfl ?_
    refine z_alenI C dX8_addWarden_19 hWp rfl ?_
    refine z_icmp_lt (tgt := 31) C dX8_addWarden_20 (by decide) (rg_of (by omega) (by omega)) (rg_of (by omega) (by omega)) (fun c_9 => ?_) (fun c_9 => ?_)
    · have e18 : (σ 18 0).toNat = nV := by omega
      refine x_aload_n C dX8_addWarden_31 rfl 0 rfl ?_
      refine x_get (ci := 9) (Cn := RX8) (T := TX8) (N := 10) (ref := "CairnCipher") C dX8_addWarden_32 in_X8 rfl hO 5 (by decide) (by decide +kernel) rfl rfl ?_
      refine x_aload_n C dX8_addWarden_35 rfl 0 rfl ?_
      refine x_get (ci := 9) (Cn := RX8) (T := TX8) (N := 10) (ref := "CairnCipher") C dX8_addWarden_36 in_X8 rfl hO 8 (by decide) (by decide +kernel) rfl rfl ?_
      refine x_iload_n C dX8_addWarden_39 rfl 1 rfl ?_
      refine z_iast (j := nV) C dX8_addWarden_40 hWp (by omega) (by omega) (by decide) (fun μ10 hWpw hF11 => ?_)
      have hO := hF11.ob hO
      have hL : LandR G μ10 ld (σ 0) (σ 1) := hF11.land hL
      have hY : WaysR G μ10 wy S T := hF11.ways hY
      have hSp : TextR G μ10 sp 7 nL (lw σ 0) := hF11.text hSp
      have hSl : ListR G z μ10 sl 9 nS xs := hF11.list hSl
      have hWl : ListR G z μ10 wl 11 nW ys := hF11.list hWl
      have hCh : ChronR G μ10 ch nC En := hF11.chron hCh
      have hDr : HintsR G z μ10 dr (100 + 100 * nS) nD (dq σ 0) (σ 0) := (by first | exact hF11.hints hDr | exact hF11.hintsN hDr)
      have hSt : StF G z μ10 xs 0 nS σ (σ 0) (σ 8) (σ 9) := hF11.stf hSt
      have hWk : WkF G μ10 ys 0 nW σ so sc := hF11.wkf hWk
      have hFr : Fr 0 2999 μ μ10 := hFr.tr hF11
      have hWp := hWpw
      refine x_aload_n C dX8_addWarden_41 rfl 0 rfl ?_
      refine x_dup C dX8_addWarden_42 rfl ?_
      refine x_get (ci := 9) (Cn := RX8) (T := TX8) (N := 10) (ref := "CairnCipher") C dX8_addWarden_43 in_X8 rfl hO 8 (by decide) (by decide +kernel) rfl rfl ?_
      refine z_iconst C dX8_addWarden_46 ?_
      refine z_iadd C dX8_addWarden_47 rfl ?_
      refine z_put (ci := 9) (Cn := RX8) (T := TX8) (N := 10) (ref := "CairnCipher") (fs' := [.ref ld, .ref wy, .ref sp, .ref sl, .ref wl, .ref wp, .ref ch, .ref dr, .int (zI ((nV : Int) + 1)), .int (zI (σ 23 0))]) C dX8_addWarden_48 in_X8 rfl tyX8 tyX8_ok nmX8 hO 8 (by decide) (by decide +kernel) rfl rfl rfl rfl rfl (Nat.le_of_ble_eq_true rfl) rfl (fun μ12 hOw hF13 => ?_)
      have hL : LandR G μ12 ld (σ 0) (σ 1) := hF13.land hL
      have hY : WaysR G μ12 wy S T := hF13.ways hY
      have hSp : TextR G μ12 sp 7 nL (lw σ 0) := hF13.text hSp
      have hSl : ListR G z μ12 sl 9 nS xs := hF13.list hSl
      have hWl : ListR G z μ12 wl 11 nW ys := hF13.list hWl
      have hWp := hF13.ai hWp
      have hCh : ChronR G μ12 ch nC En := hF13.chron hCh
      have hDr : HintsR G z μ12 dr (100 + 100 * nS) nD (dq σ 0) (σ 0) := (by first | exact hF13.hints hDr | exact hF13.hintsN hDr)
      have hSt : StF G z μ12 xs 0 nS σ (σ 0) (σ 8) (σ 9) := hF13.stf hSt
      have hWk : WkF G μ12 ys 0 nW σ so sc := hF13.wkf hWk
      have hFr : Fr 0 2999 μ μ12 := hFr.tr hF13
      have hO := hOw
      refine x_aload_n C dX8_addWarden_51 rfl 0 rfl ?_
      refine x_get (ci := 9) (Cn := RX8) (T := TX8) (N := 10) (ref := "CairnCipher") C dX8_addWarden_52 in_X8 rfl hO 8 (by decide) (by decide +kernel) rfl rfl ?_
      refine z_iconst C dX8_addWarden_55 ?_
      refine z_isub C dX8_addWarden_56 rfl ?_
      exact x_iret C R dX8_addWarden_57 (Nat.le_of_ble_eq_true rfl) (Nat.le_of_ble_eq_true rfl) (⟨_, rfl, ⟨by (unfold t_addWarden; (repeat split) <;> omega), by omega, ⟨ld, wy, sp, sl, wl, wp, ch, dr, nS, nW, nD, nL, nV + 1, nC, xs, ys, so, sc, En, S, T, hnC, by (rw [show (((nV + 1 : Nat)) : Int) = (nV : Int) + 1 by omega]; exact hO), hL, hY, hSp, hSl, hWl, by (show AI G _ wp 13 4 (wr (σ 19) (σ 18 0).toNat p); rw [e18]; exact hWp), hCh, hDr, hSt, hWk, ⟨n7, n12, n6, n11, by (show wr (σ 18) 0 (σ 18 0 + 1) 0 = _; rw [wr_at, n18]; rfl), n7r, n12r, by omega⟩, hIc⟩⟩, hFr⟩)
    · exact x_throw (En := "java/lang/IllegalStateException") (names := ["java/lang/RuntimeException", "java/lang/Exception"]) C R hT dX8_addWarden_23 dX8_addWarden_26 dX8_addWarden_27 dX8_addWarden_30 (by decide +kernel) (by decide +kernel) (by decide +kernel) (by decide +kernel) (by decide +kernel) (by decide +kernel) (by decide +kernel) (Nat.le_of_ble_eq_true rfl) (Nat.le_of_ble_eq_true rfl) (Nat.le_of_ble_eq_true rfl) (Nat.le_of_ble_eq_true rfl) (Or.inr ⟨rfl, by (unfold t_addWarden; (repeat split) <;> omega)⟩) (Nat.le_of_ble_eq_true rfl) (Nat.le_of_ble_eq_true rfl)
abbrev rm_X8_way : Room := { frames := 7, cells := 2, slots := 12, locals := 114 }
set_option maxHeartbeats 4000000 in
set_option maxRecDepth 100000 in
theorem c_X8_way (l : Launch) (hst : l.stackTraces = false) (G : GG) (z : Nat) (μ : Mm) (a : Nat) (σ : SS) (n : Nat) (p q : Int) (hC9 : RepC G z μ a σ n) (hI : Iv σ n) (hp : -2147483648 ≤ p ∧ p < 2147483648) (hq : -2147483648 ≤ q ∧ q < 2147483648) : Ct l yX8_way wsX8_way rm_X8_way G z [.ref a, .int (zI p), .int (zI q)] μ (rS (fun r9 μ' => (t_pp p q = 0 ∧ r9 = b_way σ p q ∧ RepC G z μ' a (σ) n) ∧ Fr 0 2999 μ μ')) (fun En => (En = "java/lang/IndexOutOfBoundsException" ∧ t_pp p q = 1)) := by
  refine ct_of (cc := cX8_way) (maxL := 3) (ret := (some .int)) (own := RX8) (by decide) rfl rfl hst (Nat.le_of_ble_eq_true rfl) ?_
  intro E hLl hnm C R hT
  have in_X8 : ∀ w ∈ u_ws RX8 TX8 10, w ∈ wsX8_way := by decide +kernel
  have hC8 := hC9
  obtain ⟨ld, wy, sp, sl, wl, wp, ch, dr, nS, nW, nD, nL, nV, nC, xs, ys, so, sc, En, S, T, hnC, hX9⟩ := hC9
  have hX8 := hX9
  obtain ⟨hO, hL, hY, hSp, hSl, hWl, hWp, hCh, hDr, hSt, hWk, ⟨n7, n12, n6, n11, n18, n7r, n12r, n18r⟩, hIc⟩ := hX9
  have hnL := hSp.le
  have hnD := hDr.le
  have hFr : Fr 0 2999 μ μ := Fr.rf
  refine x_eq (lv' := [(0, .ref a), (1, .int (zI p)), (2, .int (zI q))]) rfl rfl ?_
  refine x_iload_n C dX8_way_0 rfl 1 rfl ?_
  refine x_callS (n := 1) (cc9 := 1) (ss9 := 6) (rest := []) C dX8_way_1 (c_X8_requirePlace (kxL E) C.st G z μ p (by omega)) gX8_way_X8_requirePlace rfl (by decide +kernel) ⟨(Nat.le_of_ble_eq_true rfl), (Nat.le_of_ble_eq_true rfl)⟩ rfl rfl (Nat.le_of_ble_eq_true rfl) rfl rfl ⟨(Nat.le_of_ble_eq_true rfl), (Nat.le_of_ble_eq_true rfl)⟩ (fun En hEn => x_out C R hT (⟨hEn.1, by unfold t_pp; rw [if_neg (fun w => hEn.2 w.1)]⟩) (Nat.le_of_ble_eq_true rfl) (Nat.le_of_ble_eq_true rfl)) (fun v1 μ2 hv3 => ?_)
  obtain ⟨hw7, h5, hm6⟩ := hv3
  subst hw7
  rw [hm6]
  refine x_stk (stk' := []) rfl ?_
  refine x_iload_n C dX8_way_4 rfl 2 rfl ?_
  refine x_callS (n := 1) (cc9 := 2) (ss9 := 12) (rest := []) C dX8_way_5 (c_X8_requirePlace (kxL E) C.st G z μ q (by omega)) gX8_way_X8_requirePlace rfl (by decide +kernel) ⟨(Nat.le_of_ble_eq_true rfl), (Nat.le_of_ble_eq_true rfl)⟩ rfl rfl (Nat.le_of_ble_eq_true rfl) rfl rfl ⟨(Nat.le_of_ble_eq_true rfl), (Nat.le_of_ble_eq_true rfl)⟩ (fun En hEn => x_out C R hT (⟨hEn.1, by unfold t_pp; rw [if_neg (fun w => hEn.2 w.2)]⟩) (Nat.le_of_ble_eq_true rfl) (Nat.le_of_ble_eq_true rfl)) (fun v8 μ9 hv10 => ?_)
  obtain ⟨hw14, h12, hm13⟩ := hv10
  subst hw14
  rw [hm13]
  refine x_stk (stk' := []) rfl ?_
  refine x_aload_n C dX8_way_8 rfl 0 rfl ?_
  refine x_get (ci := 9) (Cn := RX8) (T := TX8) (N := 10) (ref := "CairnCipher") C dX8_way_9 in_X8 rfl hO 1 (by decide) (by decide +kernel) rfl rfl ?_
  refine x_iload_n C dX8_way_12 rfl 2 rfl ?_
  refine x_aload_n C dX8_way_13 rfl 0 rfl ?_
  refine x_get (ci := 9) (Cn := RX8) (T := TX8) (N := 10) (ref := "CairnCipher") C dX8_way_14 in_X8 rfl hO 0 (by decide) (by decide +kernel) rfl rfl ?_
  obtain ⟨g9, hg9⟩ : ∃ g9 : Nat, q = (g9 : Int) := ⟨q.toNat, by omega⟩
  refine x_stk (stk' := [.ref ld, .int (zI (g9 : Int)), .ref wy]) (by rw [hg9]) ?_
  refine x_callV (n := 2) (ci := 8) (Cn := RX7) (T := TX7) (N := 2) (cc9 := 2) (ss9 := 12) (rest := []) C dX8_way_17 (c_X7_measureNearestFirst (kxL E) C.st G z μ _ _ _ _ _ _ g9 hY hL (by omega)) gX8_way_X7_measureNearestFirst rfl (by decide +kernel) ⟨(Nat.le_of_ble_eq_true rfl), (Nat.le_of_ble_eq_true rfl)⟩ rfl hY.ob rfl rfl (Nat.le_of_ble_eq_true rfl) rfl rfl ⟨(Nat.le_of_ble_eq_true rfl), (Nat.le_of_ble_eq_true rfl)⟩ nX_no (fun v15 μ16 hv17 => ?_)
  obtain ⟨hw21, h19⟩ := hv17
  subst hw21
  obtain ⟨⟨S9, T9, hW9, hD9⟩, hF9⟩ := h19
  have hF22 := hF9
  have hO := hF22.ob hO
  have hL : LandR G μ16 ld (σ 0) (σ 1) := hF22.land hL
  have hSp : TextR G μ16 sp 7 nL (lw σ 0) := hF22.text hSp
  have hSl : ListR G z μ16 sl 9 nS xs := hF22.list hSl
  have hWl : ListR G z μ16 wl 11 nW ys := hF22.list hWl
  have hWp := hF22.ai hWp
  have hCh : ChronR G μ16 ch nC En := hF22.chron hCh
  have hDr : HintsR G z μ16 dr (100 + 100 * nS) nD (dq σ 0) (σ 0) := (by first | exact hF22.hints hDr | exact hF22.hintsN hDr)
  have hSt : StF G z μ16 xs 0 nS σ (σ 0) (σ 8) (σ 9) := hF22.stf hSt
  have hWk : WkF G μ16 ys 0 nW σ so sc := hF22.wkf hWk
  have hFr : Fr 0 2999 μ μ16 := hFr.tr hF22
  have hD8 := dD_eq (σ := σ) (by omega) hD9 (p := p.toNat) (by omega)
  refine x_stk (stk' := []) rfl ?_
  refine x_aload_n C dX8_way_20 rfl 0 rfl ?_
  refine x_get (ci := 9) (Cn := RX8) (T := TX8) (N := 10) (ref := "CairnCipher") C dX8_way_21 in_X8 rfl hO 1 (by decide) (by decide +kernel) rfl rfl ?_
  refine x_iload_n C dX8_way_24 rfl 1 rfl ?_
  refine x_callV (n := 1) (ci := 8) (Cn := RX7) (T := TX7) (N := 2) (cc9 := 2) (ss9 := 12) (rest := []) C dX8_way_25 (c_X7_sumFrom (kxL E) C.st G z μ16 _ _ _ p hW9 (by omega)) gX8_way_X7_sumFrom rfl (by decide +kernel) ⟨(Nat.le_of_ble_eq_true rfl), (Nat.le_of_ble_eq_true rfl)⟩ rfl hW9.ob rfl rfl (Nat.le_of_ble_eq_true rfl) rfl rfl ⟨(Nat.le_of_ble_eq_true rfl), (Nat.le_of_ble_eq_true rfl)⟩ nX_no (fun v23 μ24 hv25 => ?_)
  obtain ⟨r26, hw29, h27, hm28⟩ := hv25
  subst hw29
  rw [hm28]
  have hb9 := h27
  refine x_stk (stk' := [.int (zI r26)]) rfl ?_
  exact x_iret C R dX8_way_28 (Nat.le_of_ble_eq_true rfl) (Nat.le_of_ble_eq_true rfl) (⟨_, rfl, ⟨by unfold t_pp; rw [if_pos (by omega)], by (unfold b_way; rw [hg9, Int.toNat_natCast, ← hD8]; split <;> omega), ⟨ld, wy, sp, sl, wl, wp, ch, dr, nS, nW, nD, nL, nV, nC, xs, ys, so, sc, En, S9, T9, hnC, hO, hL, hW9, hSp, hSl, hWl, hWp, hCh, hDr, hSt, hWk, ⟨n7, n12, n6, n11, n18, n7r, n12r, n18r⟩, hIc⟩⟩, hFr⟩)
abbrev rm_X8_wayByRounds : Room := { frames := 7, cells := 2, slots := 12, locals := 141 }
set_option maxHeartbeats 4000000 in
set_option maxRecDepth 100000 in
theorem c_X8_wayByRounds (l : Launch) (hst : l.stackTraces = false) (G : GG) (z : Nat) (μ : Mm) (a : Nat) (σ : SS) (n : Nat) (p q : Int) (hC9 : RepC G z μ a σ n) (hI : Iv σ n) (hp : -2147483648 ≤ p ∧ p < 2147483648) (hq : -2147483648 ≤ q ∧ q < 2147483648) : Ct l yX8_wayByRounds wsX8_wayByRounds rm_X8_wayByRounds G z [.ref a, .int (zI p), .int (zI q)] μ (rS (fun r9 μ' => (t_pp p q = 0 ∧ r9 = b_way σ p q ∧ RepC G z μ' a (σ) n) ∧ Fr 0 2999 μ μ')) (fun En => (En = "java/lang/IndexOutOfBoundsException" ∧ t_pp p q = 1)) := by
  refine ct_of (cc := cX8_wayByRounds) (maxL := 3) (ret := (some .int)) (own := RX8) (by decide) rfl rfl hst (Nat.le_of_ble_eq_true rfl) ?_
  intro E hLl hnm C R hT
  have in_X8 : ∀ w ∈ u_ws RX8 TX8 10, w ∈ wsX8_wayByRounds := by decide +kernel
  have hC8 := hC9
  obtain ⟨ld, wy, sp, sl, wl, wp, ch, dr, nS, nW, nD, nL, nV, nC, xs, ys, so, sc, En, S, T, hnC, hX9⟩ := hC9
  have hX8 := hX9
  obtain ⟨hO, hL, hY, hSp, hSl, hWl, hWp, hCh, hDr, hSt, hWk, ⟨n7, n12, n6, n11, n18, n7r, n12r, n18r⟩, hIc⟩ := hX9
  have hnL := hSp.le
  have hnD := hDr.le
  have hFr : Fr 0 2999 μ μ := Fr.rf
  refine x_eq (lv' := [(0, .ref a), (1, .int (zI p)), (2, .int (zI q))]) rfl rfl ?_
  refine x_iload_n C dX8_wayByRounds_0 rfl 1 rfl ?_
  refine x_callS (n := 1) (cc9 := 1) (ss9 := 6) (rest := []) C dX8_wayByRounds_1 (c_X8_requirePlace (kxL E) C.st G z μ p (by omega)) gX8_wayByRounds_X8_requirePlace rfl (by decide +kernel) ⟨(Nat.le_of_ble_eq_true rfl), (Nat.le_of_ble_eq_true rfl)⟩ rfl rfl (Nat.le_of_ble_eq_true rfl) rfl rfl ⟨(Nat.le_of_ble_eq_true rfl), (Nat.le_of_ble_eq_true rfl)⟩ (fun En hEn => x_out C R hT (⟨hEn.1, by unfold t_pp; rw [if_neg (fun w => hEn.2 w.1)]⟩) (Nat.le_of_ble_eq_true rfl) (Nat.le_of_ble_eq_true rfl)) (fun v1 μ2 hv3 => ?_)
  obtain ⟨hw7, h5, hm6⟩ := hv3
  subst hw7
  rw [hm6]
  refine x_stk (stk' := []) rfl ?_
  refine x_iload_n C dX8_wayByRounds_4 rfl 2 rfl ?_
  refine x_callS (n := 1) (cc9 := 2) (ss9 := 12) (rest := []) C dX8_wayByRounds_5 (c_X8_requirePlace (kxL E) C.st G z μ q (by omega)) gX8_wayByRounds_X8_requirePlace rfl (by decide +kernel) ⟨(Nat.le_of_ble_eq_true rfl), (Nat.le_of_ble_eq_true rfl)⟩ rfl rfl (Nat.le_of_ble_eq_true rfl) rfl rfl ⟨(Nat.le_of_ble_eq_true rfl), (Nat.le_of_ble_eq_true rfl)⟩ (fun En hEn => x_out C R hT (⟨hEn.1, by unfold t_pp; rw [if_neg (fun w => hEn.2 w.2)]⟩) (Nat.le_of_ble_eq_true rfl) (Nat.le_of_ble_eq_true rfl)) (fun v8 μ9 hv10 => ?_)
  obtain ⟨hw14, h12, hm13⟩ := hv10
  subst hw14
  rw [hm13]
  refine x_stk (stk' := []) rfl ?_
  refine x_aload_n C dX8_wayByRounds_8 rfl 0 rfl ?_
  refine x_get (ci := 9) (Cn := RX8) (T := TX8) (N := 10) (ref := "CairnCipher") C dX8_wayByRounds_9 in_X8 rfl hO 1 (by decide) (by decide +kernel) rfl rfl ?_
  refine x_iload_n C dX8_wayByRounds_12 rfl 2 rfl ?_
  refine x_aload_n C dX8_wayByRounds_13 rfl 0 rfl ?_
  refine x_get (ci := 9) (Cn := RX8) (T := TX8) (N := 10) (ref := "CairnCipher") C dX8_wayByRounds_14 in_X8 rfl hO 0 (by decide) (by decide +kernel) rfl rfl ?_
  obtain ⟨g9, hg9⟩ : ∃ g9 : Nat, q = (g9 : Int) := ⟨q.toNat, by omega⟩
  refine x_stk (stk' := [.ref ld, .int (zI (g9 : Int)), .ref wy]) (by rw [hg9]) ?_
  refine x_callV (n := 2) (ci := 8) (Cn := RX7) (T := TX7) (N := 2) (cc9 := 2) (ss9 := 12) (rest := []) C dX8_wayByRounds_17 (c_X7_measureInRounds (kxL E) C.st G z μ _ _ _ _ _ _ g9 hY hL (by omega)) gX8_wayByRounds_X7_measureInRounds rfl (by decide +kernel) ⟨(Nat.le_of_ble_eq_true rfl), (Nat.le_of_ble_eq_true rfl)⟩ rfl hY.ob rfl rfl (Nat.le_of_ble_eq_true rfl) rfl rfl ⟨(Nat.le_of_ble_eq_true rfl), (Nat.le_of_ble_eq_true rfl)⟩ nX_no (fun v15 μ16 hv17 => ?_)
  obtain ⟨hw21, h19⟩ := hv17
  subst hw21
  obtain ⟨⟨S9, T9, hW9, hD9⟩, hF9⟩ := h19
  have hF22 := hF9
  have hO := hF22.ob hO
  have hL : LandR G μ16 ld (σ 0) (σ 1) := hF22.land hL
  have hSp : TextR G μ16 sp 7 nL (lw σ 0) := hF22.text hSp
  have hSl : ListR G z μ16 sl 9 nS xs := hF22.list hSl
  have hWl : ListR G z μ16 wl 11 nW ys := hF22.list hWl
  have hWp := hF22.ai hWp
  have hCh : ChronR G μ16 ch nC En := hF22.chron hCh
  have hDr : HintsR G z μ16 dr (100 + 100 * nS) nD (dq σ 0) (σ 0) := (by first | exact hF22.hints hDr | exact hF22.hintsN hDr)
  have hSt : StF G z μ16 xs 0 nS σ (σ 0) (σ 8) (σ 9) := hF22.stf hSt
  have hWk : WkF G μ16 ys 0 nW σ so sc := hF22.wkf hWk
  have hFr : Fr 0 2999 μ μ16 := hFr.tr hF22
  have hD8 := dD_eq (σ := σ) (by omega) hD9 (p := p.toNat) (by omega)
  refine x_stk (stk' := []) rfl ?_
  refine x_aload_n C dX8_wayByRounds_20 rfl 0 rfl ?_
  refine x_get (ci := 9) (Cn := RX8) (T := TX8) (N := 10) (ref := "CairnCipher") C dX8_wayByRounds_21 in_X8 rfl hO 1 (by decide) (by decide +kernel) rfl rfl ?_
  refine x_iload_n C dX8_wayByRounds_24 rfl 1 rfl ?_
  refine x_callV (n := 1) (ci := 8) (Cn := RX7) (T := TX7) (N := 2) (cc9 := 2) (ss9 := 12) (rest := []) C dX8_wayByRounds_25 (c_X7_sumFrom (kxL E) C.st G z μ16 _ _ _ p hW9 (by omega)) gX8_wayByRounds_X7_sumFrom rfl (by decide +kernel) ⟨(Nat.le_of_ble_eq_true rfl), (Nat.le_of_ble_eq_true rfl)⟩ rfl hW9.ob rfl rfl (Nat.le_of_ble_eq_true rfl) rfl rfl ⟨(Nat.le_of_ble_eq_true rfl), (Nat.le_of_ble_eq_true rfl)⟩ nX_no (fun v23 μ24 hv25 => ?_)
  obtain ⟨r26, hw29, h27, hm28⟩ := hv25
  subst hw29
  rw [hm28]
  have hb9 := h27
  refine x_stk (stk' := [.int (zI r26)]) rfl ?_
  exact x_iret C R dX8_wayByRounds_28 (Nat.le_of_ble_eq_true rfl) (Nat.le_of_ble_eq_true rfl) (⟨_, rfl, ⟨by unfold t_pp; rw [if_pos (by omega)], by (unfold b_way; rw [hg9, Int.toNat_natCast, ← hD8]; split <;> omega), ⟨ld, wy, sp, sl, wl, wp, ch, dr, nS, nW, nD, nL, nV, nC, xs, ys, so, sc, En, S9, T9, hnC, hO, hL, hW9, hSp, hSl, hWl, hWp, hCh, hDr, hSt, hWk, ⟨n7, n12, n6, n11, n18, n7r, n12r, n18r⟩, hIc⟩⟩, hFr⟩)
