abbrev rm_X8_stage : Room := { frames := 7, cells := 6, slots := 25, locals := 150 }
set_option maxHeartbeats 4000000 in
set_option maxRecDepth 100000 in
theorem c_X8_stage (l : Launch) (hst : l.stackTraces = false) (G : GG) (z : Nat) (μ : Mm) (a : Nat) (σ : SS) (n : Nat) (hC9 : RepC G z μ a σ n) (hI : Iv σ n) (hJ : Jv σ) : Ct l yX8_stage wsX8_stage rm_X8_stage G z [.ref a] μ (rS (fun r9 μ' => (t_stage σ = 0 ∧ r9 = σ 7 0 ∧ RepC G z μ' a (n_stage σ) n) ∧ Fr 0 2999 μ μ')) (fun En => (En = "java/lang/IllegalStateException" ∧ t_stage σ = 1)) := by
  refine ct_of (cc := cX8_stage) (maxL := 1) (ret := (some .int)) (own := RX8) (by decide) rfl rfl hst (Nat.le_of_ble_eq_true rfl) ?_
  intro E hLl hnm C R hT
  have in_X2 : ∀ w ∈ u_ws RX2 TX2 1, w ∈ wsX8_stage := by decide +kernel
  have in_X4 : ∀ w ∈ u_ws RX4 TX4 4, w ∈ wsX8_stage := by decide +kernel
  have in_X8 : ∀ w ∈ u_ws RX8 TX8 10, w ∈ wsX8_stage := by decide +kernel
  have hC8 := hC9
  obtain ⟨ld, wy, sp, sl, wl, wp, ch, dr, nS, nW, nD, nL, nV, nC, xs, ys, so, sc, En, S, T, hnC, hX9⟩ := hC9
  have hX8 := hX9
  obtain ⟨hO, hL, hY, hSp, hSl, hWl, hWp, hCh, hDr, hSt, hWk, ⟨n7, n12, n6, n11, n18, n7r, n12r, n18r⟩, hIc⟩ := hX9
  have hnL := hSp.le
  have hnD := hDr.le
  have ehn : hn σ 0 = nD := by (unfold hn; omega)
  have e7 : (σ 7 0).toNat = nS := by omega
  have hFr : Fr 0 2999 μ μ := Fr.rf
  refine x_eq (lv' := [(0, .ref a)]) rfl rfl ?_
  refine x_aload_n C dX8_stage_0 rfl 0 rfl ?_
  refine x_get (ci := 9) (Cn := RX8) (T := TX8) (N := 10) (ref := "CairnCipher") C dX8_stage_1 in_X8 rfl hO 7 (by decide) (by decide +kernel) rfl rfl ?_
  refine x_callV (n := 0) (ci := 3) (Cn := RX2) (T := TX2) (N := 1) (cc9 := 0) (ss9 := 0) (rest := []) C dX8_stage_4 (c_X2_keptPlace (kxL E) C.st G z μ _ _ _ _ _ hDr ) gX8_stage_X2_keptPlace rfl (by decide +kernel) ⟨(Nat.le_of_ble_eq_true rfl), (Nat.le_of_ble_eq_true rfl)⟩ rfl hDr.ob rfl rfl (Nat.le_of_ble_eq_true rfl) rfl rfl ⟨(Nat.le_of_ble_eq_true rfl), (Nat.le_of_ble_eq_true rfl)⟩ nX_no (fun v1 μ2 hv3 => ?_)
  obtain ⟨r4, hw7, h5, hm6⟩ := hv3
  subst hw7
  rw [hm6]
  rw [← ehn] at h5
  have hk8 := h5.rg
  have hk9 : r4 = uq (fitb σ 0 (-1)) := h5.one (UQ_uq _)
  refine x_stk (stk' := [.int (zI r4)]) rfl ?_
  refine z_iconst C dX8_stage_7 ?_
  refine z_icmp_eq (tgt := 43) C dX8_stage_8 (by decide) (rg_of (by omega) (by omega)) (rg_of (by omega) (by omega)) (fun c_8 => ?_) (fun c_8 => ?_)
  · exact x_throw (En := "java/lang/IllegalStateException") (names := ["java/lang/RuntimeException", "java/lang/Exception"]) C R hT dX8_stage_43 dX8_stage_46 dX8_stage_47 dX8_stage_50 (by decide +kernel) (by decide +kernel) (by decide +kernel) (by decide +kernel) (by decide +kernel) (by decide +kernel) (by decide +kernel) (Nat.le_of_ble_eq_true rfl) (Nat.le_of_ble_eq_true rfl) (Nat.le_of_ble_eq_true rfl) (Nat.le_of_ble_eq_true rfl) (⟨rfl, by (unfold t_stage; rw [if_neg (fun w => by (first | (exact w.1 (by omega)) | (have h77 := w.2.2.1; omega) | (have h77 := w.2.2.2; omega) | (rcases hnl9 with ⟨a1, j, x, a2, a3, a4⟩ | ⟨a1, -⟩; exact w.2.1 j a2 (uq_m1.mp (fun e => a4 ((a3.one (UQ_uq _)).trans e))); omega)))])⟩) (Nat.le_of_ble_eq_true rfl) (Nat.le_of_ble_eq_true rfl)
  · refine x_aload_n C dX8_stage_11 rfl 0 rfl ?_
    refine x_get (ci := 9) (Cn := RX8) (T := TX8) (N := 10) (ref := "CairnCipher") C dX8_stage_12 in_X8 rfl hO 7 (by decide) (by decide +kernel) rfl rfl ?_
    refine x_callV (n := 0) (ci := 3) (Cn := RX2) (T := TX2) (N := 1) (cc9 := 0) (ss9 := 0) (rest := []) C dX8_stage_15 (c_X2_hasNeedlessHint (kxL E) C.st G z μ _ _ _ _ _ hDr ) gX8_stage_X2_hasNeedlessHint rfl (by decide +kernel) ⟨(Nat.le_of_ble_eq_true rfl), (Nat.le_of_ble_eq_true rfl)⟩ rfl hDr.ob rfl rfl (Nat.le_of_ble_eq_true rfl) rfl rfl ⟨(Nat.le_of_ble_eq_true rfl), (Nat.le_of_ble_eq_true rfl)⟩ nX_no (fun v9 μ10 hv11 => ?_)
    obtain ⟨r12, hw15, h13, hm14⟩ := hv11
    subst hw15
    rw [hm14]
    rw [← ehn] at h13
    have hnl9 := h13
    refine x_stk (stk' := [.int (zI r12)]) rfl ?_
    refine z_if_ne (tgt := 43) C dX8_stage_18 (by decide) (rg_of (by omega) (by omega)) (fun c_16 => ?_) (fun c_16 => ?_)
    · exact x_throw (En := "java/lang/IllegalStateException") (names := ["java/lang/RuntimeException", "java/lang/Exception"]) C R hT dX8_stage_43 dX8_stage_46 dX8_stage_47 dX8_stage_50 (by decide +kernel) (by decide +kernel) (by decide +kernel) (by decide +kernel) (by decide +kernel) (by decide +kernel) (by decide +kernel) (Nat.le_of_ble_eq_true rfl) (Nat.le_of_ble_eq_true rfl) (Nat.le_of_ble_eq_true rfl) (Nat.le_of_ble_eq_true rfl) (⟨rfl, by (unfold t_stage; rw [if_neg (fun w => by (first | (exact w.1 (by omega)) | (have h77 := w.2.2.1; omega) | (have h77 := w.2.2.2; omega) | (rcases hnl9 with ⟨a1, j, x, a2, a3, a4⟩ | ⟨a1, -⟩; exact w.2.1 j a2 (uq_m1.mp (fun e => a4 ((a3.one (UQ_uq _)).trans e))); omega)))])⟩) (Nat.le_of_ble_eq_true rfl) (Nat.le_of_ble_eq_true rfl)
    · refine x_aload_n C dX8_stage_21 rfl 0 rfl ?_
      refine x_get (ci := 9) (Cn := RX8) (T := TX8) (N := 10) (ref := "CairnCipher") C dX8_stage_22 in_X8 rfl hO 2 (by decide) (by decide +kernel) rfl rfl ?_
      refine x_callV (n := 0) (ci := 6) (Cn := RX5) (T := TX5) (N := 2) (cc9 := 0) (ss9 := 0) (rest := []) C dX8_stage_25 (c_X5_count (kxL E) C.st G z μ _ _ _ _ hSp ) gX8_stage_X5_count rfl (by decide +kernel) ⟨(Nat.le_of_ble_eq_true rfl), (Nat.le_of_ble_eq_true rfl)⟩ rfl hSp.ob rfl rfl (Nat.le_of_ble_eq_true rfl) rfl rfl ⟨(Nat.le_of_ble_eq_true rfl), (Nat.le_of_ble_eq_true rfl)⟩ nX_no (fun v17 μ18 hv19 => ?_)
      obtain ⟨r20, hw23, h21, hm22⟩ := hv19
      subst hw23
      rw [hm22]
      have hc9 := h21
      refine x_stk (stk' := [.int (zI r20)]) rfl ?_
      refine z_if_eq (tgt := 43) C dX8_stage_28 (by decide) (rg_of (by omega) (by omega)) (fun c_24 => ?_) (fun c_24 => ?_)
      · exact x_throw (En := "java/lang/IllegalStateException") (names := ["java/lang/RuntimeException", "java/lang/Exception"]) C R hT dX8_stage_43 dX8_stage_46 dX8_stage_47 dX8_stage_50 (by decide +kernel) (by decide +kernel) (by decide +kernel) (by decide +kernel) (by decide +kernel) (by decide +kernel) (by decide +kernel) (Nat.le_of_ble_eq_true rfl) (Nat.le_of_ble_eq_true rfl) (Nat.le_of_ble_eq_true rfl) (Nat.le_of_ble_eq_true rfl) (⟨rfl, by (unfold t_stage; rw [if_neg (fun w => by (first | (exact w.1 (by omega)) | (have h77 := w.2.2.1; omega) | (have h77 := w.2.2.2; omega) | (rcases hnl9 with ⟨a1, j, x, a2, a3, a4⟩ | ⟨a1, -⟩; exact w.2.1 j a2 (uq_m1.mp (fun e => a4 ((a3.one (UQ_uq _)).trans e))); omega)))])⟩) (Nat.le_of_ble_eq_true rfl) (Nat.le_of_ble_eq_true rfl)
      · refine x_aload_n C dX8_stage_31 rfl 0 rfl ?_
        refine x_get (ci := 9) (Cn := RX8) (T := TX8) (N := 10) (ref := "CairnCipher") C dX8_stage_32 in_X8 rfl hO 3 (by decide) (by decide +kernel) rfl rfl ?_
        refine x_callV (n := 0) (ci := 0) (Cn := RJx4a65c) (T := TJx4a65c) (N := 3) (cc9 := 0) (ss9 := 0) (rest := []) C dX8_stage_35 (c_Jx4a65c_size_8abf5 (kxL E) C.st G z μ _ _ _ _ hSl) gX8_stage_Jx4a65c_size_8abf5 rfl (by decide +kernel) ⟨(Nat.le_of_ble_eq_true rfl), (Nat.le_of_ble_eq_true rfl)⟩ rfl hSl.ob rfl rfl (Nat.le_of_ble_eq_true rfl) rfl rfl ⟨(Nat.le_of_ble_eq_true rfl), (Nat.le_of_ble_eq_true rfl)⟩ nX_no (fun v25 μ26 hv27 => ?_)
        obtain ⟨r28, hw31, h29, hm30⟩ := hv27
        subst hw31
        rw [hm30]
        refine x_stk (stk' := [.int (zI r28)]) rfl ?_
        refine z_bipush C dX8_stage_38 (by decide) ?_
        refine z_icmp_lt (tgt := 51) C dX8_stage_40 (by decide) (rg_of (by omega) (by omega)) (rg_of (by omega) (by omega)) (fun c_32 => ?_) (fun c_32 => ?_)
        · refine x_aload_n C dX8_stage_51 rfl 0 rfl ?_
          refine x_get (ci := 9) (Cn := RX8) (T := TX8) (N := 10) (ref := "CairnCipher") C dX8_stage_52 in_X8 rfl hO 3 (by decide) (by decide +kernel) rfl rfl ?_
          refine z_new (ci := 5) (Cn := RX4) (T := TX4) (N := 4) (cc9 := 1) (ss9 := 4) (fs := [.null, .null, .int (zI 0), .int (zI 0)]) C (100 + 100 * nS + 50) dX8_stage_55 in_X4 rfl tyX4 tyX4_ok (by decide +kernel) (by decide +kernel) (by decide +kernel) (fun j hj => by rcases (show j = 0 ∨ j = 1 ∨ j = 2 ∨ j = 3 by omega) with rfl | rfl | rfl | rfl <;> rfl) rfl rfl (Nat.le_of_ble_eq_true rfl) (Nat.le_of_ble_eq_true rfl) (fun a33 μ34 hq35 hO36 hF37 => ?_)
          have hF38 : Fr 0 0 μ μ34 := hF37 _ _
          have hO := (hF37 0 0).ob hO (Or.inr (Nat.zero_le _))
          have hL : LandR G μ34 ld (σ 0) (σ 1) := (hF37 0 0).land hL
          have hY : WaysR G μ34 wy S T := (hF37 0 0).ways hY
          have hSp : TextR G μ34 sp 7 nL (lw σ 0) := (hF37 0 0).text hSp
          have hSl : ListR G z μ34 sl 9 nS xs := (hF37 0 0).list hSl
          have hWl : ListR G z μ34 wl 11 nW ys := (hF37 0 0).list hWl
          have hWp := (hF37 0 0).ai hWp (Or.inr (Nat.zero_le _))
          have hCh : ChronR G μ34 ch nC En := (hF37 0 0).chron hCh
          have hDr : HintsR G z μ34 dr (100 + 100 * nS) nD (dq σ 0) (σ 0) := (by first | exact (hF37 0 0).hints hDr | exact (hF37 0 0).hintsN hDr)
          have hSt : StF G z μ34 xs 0 nS σ (σ 0) (σ 8) (σ 9) := (hF37 0 0).stf hSt
          have hWk : WkF G μ34 ys 0 nW σ so sc := (hF37 0 0).wkf hWk
          have hFr : Fr 0 2999 μ μ34 := hFr.tr (hF37 0 2999)
          refine x_dup C dX8_stage_58 rfl ?_
          refine x_aload_n C dX8_stage_59 rfl 0 rfl ?_
          refine x_get (ci := 9) (Cn := RX8) (T := TX8) (N := 10) (ref := "CairnCipher") C dX8_stage_60 in_X8 rfl hO 7 (by decide) (by decide +kernel) rfl rfl ?_
          refine x_aload_n C dX8_stage_63 rfl 0 rfl ?_
          refine x_get (ci := 9) (Cn := RX8) (T := TX8) (N := 10) (ref := "CairnCipher") C dX8_stage_64 in_X8 rfl hO 2 (by decide) (by decide +kernel) rfl rfl ?_
          refine x_callV (n := 0) (ci := 6) (Cn := RX5) (T := TX5) (N := 2) (cc9 := 3) (ss9 := 11) (rest := [.ref dr, .ref a33, .ref a33, .ref sl]) C dX8_stage_67 (c_X5_copy (kxL E) C.st G z μ34 sp 7 nL (lw σ 0) (100 + 100 * nS + 51) hSp (by omega)) gX8_stage_X5_copy rfl (by decide +kernel) ⟨(Nat.le_of_ble_eq_true rfl), (Nat.le_of_ble_eq_true rfl)⟩ rfl hSp.ob rfl rfl (Nat.le_of_ble_eq_true rfl) rfl rfl ⟨(Nat.le_of_ble_eq_true rfl), (Nat.le_of_ble_eq_true rfl)⟩ nX_no (fun v39 μ40 hv41 => ?_)
          obtain ⟨r42, hw45, h43⟩ := hv41
          subst hw45
          obtain ⟨⟨W9, hT9, hw9⟩, hF9⟩ := h43
          have hF46 := hF9
          have hO := hF46.ob hO
          have hL : LandR G μ40 ld (σ 0) (σ 1) := hF46.land hL
          have hY : WaysR G μ40 wy S T := hF46.ways hY
          have hSp : TextR G μ40 sp 7 nL (lw σ 0) := hF46.text hSp
          have hSl : ListR G z μ40 sl 9 nS xs := hF46.list hSl
          have hWl : ListR G z μ40 wl 11 nW ys := hF46.list hWl
          have hWp := hF46.ai hWp
          have hCh : ChronR G μ40 ch nC En := hF46.chron hCh
          have hDr : HintsR G z μ40 dr (100 + 100 * nS) nD (dq σ 0) (σ 0) := (by first | exact hF46.hints hDr | exact hF46.hintsN hDr)
          have hSt : StF G z μ40 xs 0 nS σ (σ 0) (σ 8) (σ 9) := hF46.stf hSt
          have hWk : WkF G μ40 ys 0 nW σ so sc := hF46.wkf hWk
          have hO36 := hF46.ob hO36
          have hFr : Fr 0 2999 μ μ40 := hFr.tr hF46
          refine x_stk (stk' := [.ref r42, .ref dr, .ref a33, .ref a33, .ref sl]) rfl ?_
          refine x_callI (n := 2) (cc9 := 3) (ss9 := 11) (rest := [.ref a33, .ref sl]) C dX8_stage_70 (c_X4_init (kxL E) C.st G z μ40 a33 (100 + 100 * nS) nD (dq σ 0) (σ 0) dr r42 nL W9 hO36 hDr hT9) gX8_stage_X4_init rfl (by decide +kernel) (by decide +kernel) (by decide +kernel) rfl (by decide +kernel) ⟨(Nat.le_of_ble_eq_true rfl), (Nat.le_of_ble_eq_true rfl)⟩ rfl rfl (Nat.le_of_ble_eq_true rfl) rfl rfl ⟨(Nat.le_of_ble_eq_true rfl), (Nat.le_of_ble_eq_true rfl)⟩ nX_no (fun v47 μ48 hv49 => ?_)
          obtain ⟨hw53, h51⟩ := hv49
          subst hw53
          obtain ⟨⟨p9, hS9⟩, hF9⟩ := h51
          have hF54 := hF9
          have hO := hF54.ob hO
          have hL : LandR G μ48 ld (σ 0) (σ 1) := hF54.land hL
          have hY : WaysR G μ48 wy S T := hF54.ways hY
          have hSp : TextR G μ48 sp 7 nL (lw σ 0) := hF54.text hSp
          have hSl : ListR G z μ48 sl 9 nS xs := hF54.list hSl
          have hWl : ListR G z μ48 wl 11 nW ys := hF54.list hWl
          have hWp := hF54.ai hWp
          have hCh : ChronR G μ48 ch nC En := hF54.chron hCh
          have hSt : StF G z μ48 xs 0 nS σ (σ 0) (σ 8) (σ 9) := hF54.stf hSt
          have hWk : WkF G μ48 ys 0 nW σ so sc := hF54.wkf hWk
          have hFr : Fr 0 2999 μ μ48 := hFr.tr hF54
          refine x_stk (stk' := [.ref a33, .ref sl]) rfl ?_
          refine x_callV (n := 1) (ci := 0) (Cn := RJx4a65c) (T := TJx4a65c) (N := 3) (cc9 := 4) (ss9 := 21) (rest := []) C dX8_stage_73 (c_Jx4a65c_add_9ea2d (kxL E) C.st G z μ48 sl 9 nS a33 5 xs RX4 TX4 4 hSl (by omega) (by (obtain ⟨h8, w8, hO9, -⟩ := hS9; exact ⟨_, _, hO9, by omega⟩)) rfl (by decide +kernel)) gX8_stage_Jx4a65c_add_9ea2d rfl (by decide +kernel) ⟨(Nat.le_of_ble_eq_true rfl), (Nat.le_of_ble_eq_true rfl)⟩ rfl hSl.ob rfl rfl (Nat.le_of_ble_eq_true rfl) rfl rfl ⟨(Nat.le_of_ble_eq_true rfl), (Nat.le_of_ble_eq_true rfl)⟩ nX_no (fun v55 μ56 hv57 => ?_)
          obtain ⟨r58, hw61, h59⟩ := hv57
          subst hw61
          obtain ⟨hLq, hF9⟩ := h59
          have hF62 := hF9
          have hO := hF62.ob hO
          have hL : LandR G μ56 ld (σ 0) (σ 1) := hF62.land hL
          have hY : WaysR G μ56 wy S T := hF62.ways hY
          have hSp : TextR G μ56 sp 7 nL (lw σ 0) := hF62.text hSp
          have hWl : ListR G z μ56 wl 11 nW ys := hF62.list hWl
          have hWp := hF62.ai hWp
          have hCh : ChronR G μ56 ch nC En := hF62.chron hCh
          have hSt : StF G z μ56 xs 0 nS σ (σ 0) (σ 8) (σ 9) := hF62.stf hSt
          have hWk : WkF G μ56 ys 0 nW σ so sc := hF62.wkf hWk
          have hS9 : StageR G z μ56 a33 (100 + 100 * nS) nD (dq σ 0) (σ 0) nL W9 p9 0 := hF62.stage hS9
          have hFr : Fr 0 2999 μ μ56 := hFr.tr hF62
          have hSl : ListR G z μ56 sl 9 (nS + 1) (apn xs nS a33) := hLq _ (fun j hj => apn_ne (by omega)) apn_at
          refine x_stk (stk' := [.int (zI r58)]) rfl ?_
          refine x_pop C dX8_stage_76 rfl ?_
          refine x_aload_n C dX8_stage_77 rfl 0 rfl ?_
          refine z_new (ci := 3) (Cn := RX2) (T := TX2) (N := 1) (cc9 := 5) (ss9 := 22) (fs := [.null]) C (100 + 100 * (nS + 1)) dX8_stage_78 in_X2 rfl tyX2 tyX2_ok (by decide +kernel) (by decide +kernel) (by decide +kernel) (fun j hj => by rcases (show j = 0 by omega) with rfl <;> rfl) rfl rfl (Nat.le_of_ble_eq_true rfl) (Nat.le_of_ble_eq_true rfl) (fun a63 μ64 hq65 hO66 hF67 => ?_)
          have hF68 : Fr 0 0 μ56 μ64 := hF67 _ _
          have hO := (hF67 0 0).ob hO (Or.inr (Nat.zero_le _))
          have hL : LandR G μ64 ld (σ 0) (σ 1) := (hF67 0 0).land hL
          have hY : WaysR G μ64 wy S T := (hF67 0 0).ways hY
          have hSp : TextR G μ64 sp 7 nL (lw σ 0) := (hF67 0 0).text hSp
          have hWl : ListR G z μ64 wl 11 nW ys := (hF67 0 0).list hWl
          have hWp := (hF67 0 0).ai hWp (Or.inr (Nat.zero_le _))
          have hCh : ChronR G μ64 ch nC En := (hF67 0 0).chron hCh
          have hSt : StF G z μ64 xs 0 nS σ (σ 0) (σ 8) (σ 9) := (hF67 0 0).stf hSt
          have hWk : WkF G μ64 ys 0 nW σ so sc := (hF67 0 0).wkf hWk
          have hS9 : StageR G z μ64 a33 (100 + 100 * nS) nD (dq σ 0) (σ 0) nL W9 p9 0 := (hF67 0 0).stage hS9
          have hSl : ListR G z μ64 sl 9 (nS + 1) (apn xs nS a33) := (hF67 0 0).list hSl
          have hFr : Fr 0 2999 μ μ64 := hFr.tr (hF67 0 2999)
          refine x_dup C dX8_stage_81 rfl ?_
          refine x_callIN (n := 0) (host := "CairnCipher") (cc9 := 6) (ss9 := 25) (rest := [.ref a63, .ref a]) C dX8_stage_82 (c_X2_init (kxL E) C.st G z μ64 a63 (100 + 100 * (nS + 1)) (dq (n_stage σ) 0) (σ 0) hO66) gX8_stage_X2_init_n53 rfl (by decide +kernel) (by decide +kernel) (by decide +kernel) rfl (by decide +kernel) ⟨(Nat.le_of_ble_eq_true rfl), (Nat.le_of_ble_eq_true rfl)⟩ rfl rfl (Nat.le_of_ble_eq_true rfl) rfl rfl ⟨(Nat.le_of_ble_eq_true rfl), (Nat.le_of_ble_eq_true rfl)⟩ nX_no (fun v69 μ70 hv71 => ?_)
          obtain ⟨hw75, h73⟩ := hv71
          subst hw75
          obtain ⟨hH9, hF9⟩ := h73
          have hF76 := hF9
          have hO := hF76.ob hO
          have hL : LandR G μ70 ld (σ 0) (σ 1) := hF76.land hL
          have hY : WaysR G μ70 wy S T := hF76.ways hY
          have hSp : TextR G μ70 sp 7 nL (lw σ 0) := hF76.text hSp
          have hWl : ListR G z μ70 wl 11 nW ys := hF76.list hWl
          have hWp := hF76.ai hWp
          have hCh : ChronR G μ70 ch nC En := hF76.chron hCh
          have hSt : StF G z μ70 xs 0 nS σ (σ 0) (σ 8) (σ 9) := hF76.stf hSt
          have hWk : WkF G μ70 ys 0 nW σ so sc := hF76.wkf hWk
          have hS9 : StageR G z μ70 a33 (100 + 100 * nS) nD (dq σ 0) (σ 0) nL W9 p9 0 := hF76.stage hS9
          have hSl : ListR G z μ70 sl 9 (nS + 1) (apn xs nS a33) := hF76.list hSl
          have hFr : Fr 0 2999 μ μ70 := hFr.tr hF76
          refine x_stk (stk' := [.ref a63, .ref a]) rfl ?_
          refine z_put (ci := 9) (Cn := RX8) (T := TX8) (N := 10) (ref := "CairnCipher") (fs' := [.ref ld, .ref wy, .ref sp, .ref sl, .ref wl, .ref wp, .ref ch, .ref a63, .int (zI (nV : Int)), .int (zI (σ 23 0))]) C dX8_stage_85 in_X8 rfl tyX8 tyX8_ok nmX8 hO 7 (by decide) (by decide +kernel) rfl rfl rfl rfl rfl (Nat.le_of_ble_eq_true rfl) rfl (fun μ77 hOw hF78 => ?_)
          have hL : LandR G μ77 ld (σ 0) (σ 1) := hF78.land hL
          have hY : WaysR G μ77 wy S T := hF78.ways hY
          have hSp : TextR G μ77 sp 7 nL (lw σ 0) := hF78.text hSp
          have hWl : ListR G z μ77 wl 11 nW ys := hF78.list hWl
          have hWp := hF78.ai hWp
          have hCh : ChronR G μ77 ch nC En := hF78.chron hCh
          have hSt : StF G z μ77 xs 0 nS σ (σ 0) (σ 8) (σ 9) := hF78.stf hSt
          have hWk : WkF G μ77 ys 0 nW σ so sc := hF78.wkf hWk
          have hS9 : StageR G z μ77 a33 (100 + 100 * nS) nD (dq σ 0) (σ 0) nL W9 p9 0 := hF78.stage hS9
          have hSl : ListR G z μ77 sl 9 (nS + 1) (apn xs nS a33) := hF78.list hSl
          have hH9 : HintsR G z μ77 a63 (100 + 100 * (nS + 1)) 0 (dq (n_stage σ) 0) (σ 0) := hF78.hints hH9
          have hFr : Fr 0 2999 μ μ77 := hFr.tr hF78
          have hO := hOw
          refine x_aload_n C dX8_stage_88 rfl 0 rfl ?_
          refine x_get (ci := 9) (Cn := RX8) (T := TX8) (N := 10) (ref := "CairnCipher") C dX8_stage_89 in_X8 rfl hO 3 (by decide) (by decide +kernel) rfl rfl ?_
          refine x_callV (n := 0) (ci := 0) (Cn := RJx4a65c) (T := TJx4a65c) (N := 3) (cc9 := 6) (ss9 := 25) (rest := []) C dX8_stage_92 (c_Jx4a65c_size_8abf5 (kxL E) C.st G z μ77 _ _ _ _ hSl) gX8_stage_Jx4a65c_size_8abf5 rfl (by decide +kernel) ⟨(Nat.le_of_ble_eq_true rfl), (Nat.le_of_ble_eq_true rfl)⟩ rfl hSl.ob rfl rfl (Nat.le_of_ble_eq_true rfl) rfl rfl ⟨(Nat.le_of_ble_eq_true rfl), (Nat.le_of_ble_eq_true rfl)⟩ nX_no (fun v79 μ80 hv81 => ?_)
          obtain ⟨r82, hw85, h83, hm84⟩ := hv81
          subst hw85
          rw [hm84]
          refine x_stk (stk' := [.int (zI r82)]) rfl ?_
          refine z_iconst C dX8_stage_95 ?_
          refine z_isub C dX8_stage_96 rfl ?_
          exact x_iret C R dX8_stage_97 (Nat.le_of_ble_eq_true rfl) (Nat.le_of_ble_eq_true rfl) (⟨_, rfl, ⟨by (unfold t_stage; rw [if_pos ⟨by omega, fun k hk e => (by (rcases hnl9 with ⟨a1, -⟩ | ⟨a1, a2⟩; omega; exact absurd ((a2 k hk).one (UQ_uq _)) (fun q => uq_m1.mpr e q.symm))), by omega, by omega⟩]), by omega, ⟨ld, wy, sp, sl, wl, wp, ch, a63, nS + 1, nW, 0, nL, nV, nC, apn xs nS a33, ys, so, sc, En, S, T, hnC, hO, hL, hY, hSp.cong lw_stage0, hSl, hWl, hWp, hCh, hH9, hSt.add (σ' := n_stage σ) (P' := n_stage σ 8) hnD hS9 (fun k hk => by (show wr (wr (σ 6) ((σ 7 0).toNat + 1) (σ 6 0)) 0 0 (k + 1) = _; rw [wr_ne (by omega), wr_ne (by omega)])) (fun k hk => by (show wr (σ 11) ((σ 7 0).toNat + 1) (σ 11 0) (k + 1) = _; exact wr_ne (by omega))) (fun k hk j hj i => dq_stage2 n7 hk (by (have h77 := (hI 6 (by decide) (k + 1) (by show k + 1 < 7; omega)).2; change _ ≤ (5 : Int) at h77; omega)) i) (fun k hk j hj => by (show cp5 (σ 10) ((σ 7 0).toNat + 1) (5 * (k + 1) + j) = _; exact cp5_out (by (have h77 := (hI 11 (by decide) (k + 1) (by show k + 1 < 7; omega)).2; change _ ≤ (5 : Int) at h77; omega)))) (by (show wr (σ 8) (σ 7 0).toNat (uq (fitb σ 0 (-1))) nS = _; rw [e7, wr_at]; obtain ⟨_, _, _, _, _, hU⟩ := hS9; rw [← ehn] at hU; exact (hU.one (UQ_uq _)).symm)) (hJ.2.2.2 nS (by omega) (by omega)) (by (show (wr (wr (σ 6) ((σ 7 0).toNat + 1) (σ 6 0)) 0 0 (nS + 1)).toNat = _; rw [wr_ne (by omega), e7, wr_at]; omega)) (by (show (wr (σ 11) ((σ 7 0).toNat + 1) (σ 11 0) (nS + 1)).toNat = _; rw [e7, wr_at]; omega)) (fun j hj i => dq_stage n7 hj i) (fun j hj => by (rw [hw9 j hj, lw_stage n7 (by omega)])) (fun k hk => by (show wr (σ 8) (σ 7 0).toNat _ k = _; exact wr_ne (by omega))), hWk, ⟨by (show wr (σ 7) 0 (σ 7 0 + 1) 0 = _; rw [wr_at, n7]; rfl), n12, rfl, by (show wr (σ 11) ((σ 7 0).toNat + 1) (σ 11 0) 0 = _; rw [wr_ne (by omega)]; exact n11), n18, by omega, n12r, n18r⟩, hIc.more (by (show _ ≤ wr (σ 7) 0 (σ 7 0 + 1) 0; rw [wr_at]; omega)) (Int.le_refl _) rfl rfl rfl⟩⟩, hFr⟩)
        · exact x_throw (En := "java/lang/IllegalStateException") (names := ["java/lang/RuntimeException", "java/lang/Exception"]) C R hT dX8_stage_43 dX8_stage_46 dX8_stage_47 dX8_stage_50 (by decide +kernel) (by decide +kernel) (by decide +kernel) (by decide +kernel) (by decide +kernel) (by decide +kernel) (by decide +kernel) (Nat.le_of_ble_eq_true rfl) (Nat.le_of_ble_eq_true rfl) (Nat.le_of_ble_eq_true rfl) (Nat.le_of_ble_eq_true rfl) (⟨rfl, by (unfold t_stage; rw [if_neg (fun w => by (first | (exact w.1 (by omega)) | (have h77 := w.2.2.1; omega) | (have h77 := w.2.2.2; omega) | (rcases hnl9 with ⟨a1, j, x, a2, a3, a4⟩ | ⟨a1, -⟩; exact w.2.1 j a2 (uq_m1.mp (fun e => a4 ((a3.one (UQ_uq _)).trans e))); omega)))])⟩) (Nat.le_of_ble_eq_true rfl) (Nat.le_of_ble_eq_true rfl)
