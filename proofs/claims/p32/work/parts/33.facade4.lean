abbrev rm_X8_fits : Room := { frames := 7, cells := 1, slots := 6, locals := 110 }
set_option maxHeartbeats 4000000 in
set_option maxRecDepth 100000 in
theorem c_X8_fits (l : Launch) (hst : l.stackTraces = false) (G : GG) (z : Nat) (μ : Mm) (a : Nat) (σ : SS) (n : Nat) (k : Int) (hC9 : RepC G z μ a σ n) (hI : Iv σ n) (hk : -2147483648 ≤ k ∧ k < 2147483648) : Ct l yX8_fits wsX8_fits rm_X8_fits G z [.ref a, .int (zI k)] μ (rP μ (fun r9 => t_st σ k = 0 ∧ r9 = b_fits σ (k.toNat + 1))) (fun En => (En = "java/lang/IndexOutOfBoundsException" ∧ t_st σ k = 1)) := by
  refine ct_of (cc := cX8_fits) (maxL := 2) (ret := (some .int)) (own := RX8) (by decide) rfl rfl hst (Nat.le_of_ble_eq_true rfl) ?_
  intro E hLl hnm C R hT
  have hC8 := hC9
  obtain ⟨ld, wy, sp, sl, wl, wp, ch, dr, nS, nW, nD, nL, nV, nC, xs, ys, so, sc, En, S, T, hnC, hX9⟩ := hC9
  have hX8 := hX9
  obtain ⟨hO, hL, hY, hSp, hSl, hWl, hWp, hCh, hDr, hSt, hWk, ⟨n7, n12, n6, n11, n18, n7r, n12r, n18r⟩, hIc⟩ := hX9
  have hnL := hSp.le
  have hnD := hDr.le
  refine x_eq (lv' := [(0, .ref a), (1, .int (zI k))]) rfl rfl ?_
  refine x_aload_n C dX8_fits_0 rfl 0 rfl ?_
  refine x_iload_n C dX8_fits_1 rfl 1 rfl ?_
  refine x_callV (n := 1) (ci := 9) (Cn := RX8) (T := TX8) (N := 10) (cc9 := 1) (ss9 := 6) (rest := []) C dX8_fits_2 (c_X8_requireStage (kxL E) C.st G z μ _ _ _ _ _ _ _ _ _ _ _ _ _ _ _ _ _ _ _ _ _ _ _ k hX8 (by omega)) gX8_fits_X8_requireStage rfl (by decide +kernel) ⟨(Nat.le_of_ble_eq_true rfl), (Nat.le_of_ble_eq_true rfl)⟩ rfl ⟨_, _, hO⟩ rfl rfl (Nat.le_of_ble_eq_true rfl) rfl rfl ⟨(Nat.le_of_ble_eq_true rfl), (Nat.le_of_ble_eq_true rfl)⟩ (fun En hEn => x_out C R hT (⟨hEn.1, by unfold t_st; rw [if_neg hEn.2]⟩) (Nat.le_of_ble_eq_true rfl) (Nat.le_of_ble_eq_true rfl)) (fun v1 μ2 hv3 => ?_)
  obtain ⟨r4, hw7, h5, hm6⟩ := hv3
  subst hw7
  rw [hm6]
  obtain ⟨i9, hi9, hi8, hr9⟩ := h5
  have hts : t_st σ k = 0 := by unfold t_st; rw [if_pos (by omega)]
  obtain ⟨W9, hW9, hSg⟩ := hSt i9 (by omega) hi8
  rw [← hr9] at hSg
  refine x_stk (stk' := [.ref r4]) rfl ?_
  refine x_callV (n := 0) (ci := 5) (Cn := RX4) (T := TX4) (N := 4) (cc9 := 1) (ss9 := 6) (rest := []) C dX8_fits_5 (c_X4_hints (kxL E) C.st G z μ _ _ _ _ _ _ _ _ _  hSg ) gX8_fits_X4_hints rfl (by decide +kernel) ⟨(Nat.le_of_ble_eq_true rfl), (Nat.le_of_ble_eq_true rfl)⟩ rfl hSg.ob rfl rfl (Nat.le_of_ble_eq_true rfl) rfl rfl ⟨(Nat.le_of_ble_eq_true rfl), (Nat.le_of_ble_eq_true rfl)⟩ nX_no (fun v8 μ9 hv10 => ?_)
  obtain ⟨r11, hw14, h12, hm13⟩ := hv10
  subst hw14
  rw [hm13]
  have hHg := h12
  refine x_stk (stk' := [.ref r11]) rfl ?_
  refine x_callV (n := 0) (ci := 3) (Cn := RX2) (T := TX2) (N := 1) (cc9 := 1) (ss9 := 6) (rest := []) C dX8_fits_8 (c_X2_keptPlaces (kxL E) C.st G z μ _ _ _ _ _ hHg ) gX8_fits_X2_keptPlaces rfl (by decide +kernel) ⟨(Nat.le_of_ble_eq_true rfl), (Nat.le_of_ble_eq_true rfl)⟩ rfl hHg.ob rfl rfl (Nat.le_of_ble_eq_true rfl) rfl rfl ⟨(Nat.le_of_ble_eq_true rfl), (Nat.le_of_ble_eq_true rfl)⟩ nX_no (fun v15 μ16 hv17 => ?_)
  obtain ⟨r18, hw21, h19, hm20⟩ := hv17
  subst hw21
  rw [hm20]
  have hk9 := h19
  refine x_stk (stk' := [.long r18]) rfl ?_
  obtain ⟨m9, hm9, hK9b⟩ := bt_of r18
  refine x_stk (stk' := [.long (lN m9)]) (by rw [hK9b]) ?_
  refine x_callS (n := 1) (cc9 := 1) (ss9 := 6) (rest := []) C dX8_fits_11 (c_J13_bitCount_95d88 (kxL E) C.st G z μ m9 hm9) gX8_fits_J13_bitCount_95d88 rfl (by decide +kernel) ⟨(Nat.le_of_ble_eq_true rfl), (Nat.le_of_ble_eq_true rfl)⟩ rfl rfl (Nat.le_of_ble_eq_true rfl) rfl rfl ⟨(Nat.le_of_ble_eq_true rfl), (Nat.le_of_ble_eq_true rfl)⟩ nX_no (fun v22 μ23 hv24 => ?_)
  obtain ⟨r25, hw28, h26, hm27⟩ := hv24
  subst hw28
  rw [hm27]
  have hb9 := h26
  refine x_stk (stk' := [.int (zI r25)]) rfl ?_
  exact x_iret C R dX8_fits_14 (Nat.le_of_ble_eq_true rfl) (Nat.le_of_ble_eq_true rfl) (⟨_, rfl, ⟨hts, by (rw [hi9, Int.toNat_natCast, hb9]; exact ctb_kb hK9b hk9)⟩, rfl⟩)
abbrev rm_X8_hint : Room := { frames := 7, cells := 3, slots := 21, locals := 131 }
set_option maxHeartbeats 4000000 in
set_option maxRecDepth 100000 in
theorem c_X8_hint (l : Launch) (hst : l.stackTraces = false) (G : GG) (z : Nat) (μ : Mm) (a : Nat) (σ : SS) (n : Nat) (k v m d : Int) (hC9 : RepC G z μ a σ n) (hI : Iv σ n) (hk : -2147483648 ≤ k ∧ k < 2147483648) (hv : -2147483648 ≤ v ∧ v < 2147483648) (hm : -2147483648 ≤ m ∧ m < 2147483648) (hd : d = 0 ∨ d = 1) : Ct l yX8_hint wsX8_hint rm_X8_hint G z [.ref a, .int (zI k), .int (zI v), .int (zI m), .int (zI d)] μ (rS (fun r9 μ' => (t_hint σ k v m = 0 ∧ r9 = b_fits (n_hint σ k v m d) 0 ∧ RepC G z μ' a (n_hint σ k v m d) n) ∧ Fr 0 2999 μ μ')) (fun En => (En = "java/lang/IndexOutOfBoundsException" ∧ t_hint σ k v m = 1) ∨ (En = "java/lang/IllegalArgumentException" ∧ t_hint σ k v m = 2) ∨ (En = "java/lang/IllegalStateException" ∧ t_hint σ k v m = 3)) := by
  refine ct_of (cc := cX8_hint) (maxL := 5) (ret := (some .int)) (own := RX8) (by decide) rfl rfl hst (Nat.le_of_ble_eq_true rfl) ?_
  intro E hLl hnm C R hT
  have in_X1 : ∀ w ∈ u_ws RX1 TX1 5, w ∈ wsX8_hint := by decide +kernel
  have in_X8 : ∀ w ∈ u_ws RX8 TX8 10, w ∈ wsX8_hint := by decide +kernel
  have hC8 := hC9
  obtain ⟨ld, wy, sp, sl, wl, wp, ch, dr, nS, nW, nD, nL, nV, nC, xs, ys, so, sc, En, S, T, hnC, hX9⟩ := hC9
  have hX8 := hX9
  obtain ⟨hO, hL, hY, hSp, hSl, hWl, hWp, hCh, hDr, hSt, hWk, ⟨n7, n12, n6, n11, n18, n7r, n12r, n18r⟩, hIc⟩ := hX9
  have hnL := hSp.le
  have hnD := hDr.le
  have hFr : Fr 0 2999 μ μ := Fr.rf
  refine x_eq (lv' := [(0, .ref a), (1, .int (zI k)), (2, .int (zI v)), (3, .int (zI m)), (4, .int (zI d))]) rfl rfl ?_
  refine x_iload_n C dX8_hint_0 rfl 3 rfl ?_
  refine x_callS (n := 1) (cc9 := 1) (ss9 := 6) (rest := []) C dX8_hint_1 (c_X8_requirePlace (kxL E) C.st G z μ m (by omega)) gX8_hint_X8_requirePlace rfl (by decide +kernel) ⟨(Nat.le_of_ble_eq_true rfl), (Nat.le_of_ble_eq_true rfl)⟩ rfl rfl (Nat.le_of_ble_eq_true rfl) rfl rfl ⟨(Nat.le_of_ble_eq_true rfl), (Nat.le_of_ble_eq_true rfl)⟩ (fun En hEn => x_out C R hT (Or.inl ⟨hEn.1, by unfold t_hint; rw [if_neg hEn.2]⟩) (Nat.le_of_ble_eq_true rfl) (Nat.le_of_ble_eq_true rfl)) (fun v1 μ2 hv3 => ?_)
  obtain ⟨hw7, h5, hm6⟩ := hv3
  subst hw7
  rw [hm6]
  refine x_stk (stk' := []) rfl ?_
  refine x_iload_n C dX8_hint_4 rfl 1 rfl ?_
  refine z_if_lt (tgt := 23) C dX8_hint_5 (by decide) (rg_of (by omega) (by omega)) (fun c_8 => ?_) (fun c_8 => ?_)
  · exact x_throw (En := "java/lang/IllegalArgumentException") (names := ["java/lang/RuntimeException", "java/lang/Exception"]) C R hT dX8_hint_23 dX8_hint_26 dX8_hint_27 dX8_hint_30 (by decide +kernel) (by decide +kernel) (by decide +kernel) (by decide +kernel) (by decide +kernel) (by decide +kernel) (by decide +kernel) (Nat.le_of_ble_eq_true rfl) (Nat.le_of_ble_eq_true rfl) (Nat.le_of_ble_eq_true rfl) (Nat.le_of_ble_eq_true rfl) (Or.inr (Or.inl ⟨rfl, by (unfold t_hint; (repeat split) <;> omega)⟩)) (Nat.le_of_ble_eq_true rfl) (Nat.le_of_ble_eq_true rfl)
  · refine x_iload_n C dX8_hint_8 rfl 1 rfl ?_
    refine z_iconst C dX8_hint_9 ?_
    refine z_icmp_gt (tgt := 23) C dX8_hint_10 (by decide) (rg_of (by omega) (by omega)) (rg_of (by omega) (by omega)) (fun c_9 => ?_) (fun c_9 => ?_)
    · exact x_throw (En := "java/lang/IllegalArgumentException") (names := ["java/lang/RuntimeException", "java/lang/Exception"]) C R hT dX8_hint_23 dX8_hint_26 dX8_hint_27 dX8_hint_30 (by decide +kernel) (by decide +kernel) (by decide +kernel) (by decide +kernel) (by decide +kernel) (by decide +kernel) (by decide +kernel) (Nat.le_of_ble_eq_true rfl) (Nat.le_of_ble_eq_true rfl) (Nat.le_of_ble_eq_true rfl) (Nat.le_of_ble_eq_true rfl) (Or.inr (Or.inl ⟨rfl, by (unfold t_hint; (repeat split) <;> omega)⟩)) (Nat.le_of_ble_eq_true rfl) (Nat.le_of_ble_eq_true rfl)
    · refine x_iload_n C dX8_hint_13 rfl 2 rfl ?_
      refine z_if_lt (tgt := 23) C dX8_hint_14 (by decide) (rg_of (by omega) (by omega)) (fun c_10 => ?_) (fun c_10 => ?_)
      · exact x_throw (En := "java/lang/IllegalArgumentException") (names := ["java/lang/RuntimeException", "java/lang/Exception"]) C R hT dX8_hint_23 dX8_hint_26 dX8_hint_27 dX8_hint_30 (by decide +kernel) (by decide +kernel) (by decide +kernel) (by decide +kernel) (by decide +kernel) (by decide +kernel) (by decide +kernel) (Nat.le_of_ble_eq_true rfl) (Nat.le_of_ble_eq_true rfl) (Nat.le_of_ble_eq_true rfl) (Nat.le_of_ble_eq_true rfl) (Or.inr (Or.inl ⟨rfl, by (unfold t_hint; (repeat split) <;> omega)⟩)) (Nat.le_of_ble_eq_true rfl) (Nat.le_of_ble_eq_true rfl)
      · refine x_iload_n C dX8_hint_17 rfl 2 rfl ?_
        refine z_bipush C dX8_hint_18 (by decide) ?_
        refine z_icmp_le (tgt := 31) C dX8_hint_20 (by decide) (rg_of (by omega) (by omega)) (rg_of (by omega) (by omega)) (fun c_11 => ?_) (fun c_11 => ?_)
        · refine x_aload_n C dX8_hint_31 rfl 0 rfl ?_
          refine x_get (ci := 9) (Cn := RX8) (T := TX8) (N := 10) (ref := "CairnCipher") C dX8_hint_32 in_X8 rfl hO 7 (by decide) (by decide +kernel) rfl rfl ?_
          refine x_callV (n := 0) (ci := 3) (Cn := RX2) (T := TX2) (N := 1) (cc9 := 1) (ss9 := 6) (rest := []) C dX8_hint_35 (c_X2_count (kxL E) C.st G z μ _ _ _ _ _ hDr ) gX8_hint_X2_count rfl (by decide +kernel) ⟨(Nat.le_of_ble_eq_true rfl), (Nat.le_of_ble_eq_true rfl)⟩ rfl hDr.ob rfl rfl (Nat.le_of_ble_eq_true rfl) rfl rfl ⟨(Nat.le_of_ble_eq_true rfl), (Nat.le_of_ble_eq_true rfl)⟩ nX_no (fun v12 μ13 hv14 => ?_)
          obtain ⟨r15, hw18, h16, hm17⟩ := hv14
          subst hw18
          rw [hm17]
          refine x_stk (stk' := [.int (zI r15)]) rfl ?_
          refine z_iconst C dX8_hint_38 ?_
          refine z_icmp_lt (tgt := 50) C dX8_hint_39 (by decide) (rg_of (by omega) (by omega)) (rg_of (by omega) (by omega)) (fun c_19 => ?_) (fun c_19 => ?_)
          · refine x_aload_n C dX8_hint_50 rfl 0 rfl ?_
            refine x_get (ci := 9) (Cn := RX8) (T := TX8) (N := 10) (ref := "CairnCipher") C dX8_hint_51 in_X8 rfl hO 7 (by decide) (by decide +kernel) rfl rfl ?_
            refine z_new (ci := 2) (Cn := RX1) (T := TX1) (N := 5) (cc9 := 2) (ss9 := 11) (fs := [.int (zI 0), .int (zI 0), .int (zI 0), .int (zI 0), .long 0]) C (100 + 100 * nS + 10 + nD) dX8_hint_54 in_X1 rfl tyX1 tyX1_ok (by decide +kernel) (by decide +kernel) (by decide +kernel) (fun j hj => by rcases (show j = 0 ∨ j = 1 ∨ j = 2 ∨ j = 3 ∨ j = 4 by omega) with rfl | rfl | rfl | rfl | rfl <;> rfl) rfl rfl (Nat.le_of_ble_eq_true rfl) (Nat.le_of_ble_eq_true rfl) (fun a20 μ21 hq22 hO23 hF24 => ?_)
            have hF25 : Fr 0 0 μ μ21 := hF24 _ _
            have hO := (hF24 0 0).ob hO (Or.inr (Nat.zero_le _))
            have hL : LandR G μ21 ld (σ 0) (σ 1) := (hF24 0 0).land hL
            have hY : WaysR G μ21 wy S T := (hF24 0 0).ways hY
            have hSp : TextR G μ21 sp 7 nL (lw σ 0) := (hF24 0 0).text hSp
            have hSl : ListR G z μ21 sl 9 nS xs := (hF24 0 0).list hSl
            have hWl : ListR G z μ21 wl 11 nW ys := (hF24 0 0).list hWl
            have hWp := (hF24 0 0).ai hWp (Or.inr (Nat.zero_le _))
            have hCh : ChronR G μ21 ch nC En := (hF24 0 0).chron hCh
            have hDr : HintsR G z μ21 dr (100 + 100 * nS) nD (dq σ 0) (σ 0) := (by first | exact (hF24 0 0).hints hDr | exact (hF24 0 0).hintsN hDr)
            have hSt : StF G z μ21 xs 0 nS σ (σ 0) (σ 8) (σ 9) := (hF24 0 0).stf hSt
            have hWk : WkF G μ21 ys 0 nW σ so sc := (hF24 0 0).wkf hWk
            have hFr : Fr 0 2999 μ μ21 := hFr.tr (hF24 0 2999)
            refine x_dup C dX8_hint_57 rfl ?_
            refine x_iload_n C dX8_hint_58 rfl 1 rfl ?_
            refine x_iload_n C dX8_hint_59 rfl 2 rfl ?_
            refine x_iload_n C dX8_hint_60 rfl 3 rfl ?_
            refine x_iload C dX8_hint_61 4 rfl ?_
            refine x_callI (n := 4) (cc9 := 2) (ss9 := 11) (rest := [.ref a20, .ref dr]) C dX8_hint_63 (c_X1_init (kxL E) C.st G z μ21 a20 (100 + 100 * nS + 10 + nD) (q4 k v m d) hO23 (by (show 0 ≤ k ∧ k ≤ 4; omega)) (by (show 0 ≤ v ∧ v ≤ 14; omega)) (by (show 0 ≤ m ∧ m < 64; omega)) hd) gX8_hint_X1_init rfl (by decide +kernel) (by decide +kernel) (by decide +kernel) rfl (by decide +kernel) ⟨(Nat.le_of_ble_eq_true rfl), (Nat.le_of_ble_eq_true rfl)⟩ rfl rfl (Nat.le_of_ble_eq_true rfl) rfl rfl ⟨(Nat.le_of_ble_eq_true rfl), (Nat.le_of_ble_eq_true rfl)⟩ nX_no (fun v26 μ27 hv28 => ?_)
            obtain ⟨hw32, h30⟩ := hv28
            subst hw32
            obtain ⟨hK9, hF9⟩ := h30
            have hF33 := hF9
            have hO := hF33.ob hO
            have hL : LandR G μ27 ld (σ 0) (σ 1) := hF33.land hL
            have hY : WaysR G μ27 wy S T := hF33.ways hY
            have hSp : TextR G μ27 sp 7 nL (lw σ 0) := hF33.text hSp
            have hSl : ListR G z μ27 sl 9 nS xs := hF33.list hSl
            have hWl : ListR G z μ27 wl 11 nW ys := hF33.list hWl
            have hWp := hF33.ai hWp
            have hCh : ChronR G μ27 ch nC En := hF33.chron hCh
            have hDr : HintsR G z μ27 dr (100 + 100 * nS) nD (dq σ 0) (σ 0) := (by first | exact hF33.hints hDr | exact hF33.hintsN hDr)
            have hSt : StF G z μ27 xs 0 nS σ (σ 0) (σ 8) (σ 9) := hF33.stf hSt
            have hWk : WkF G μ27 ys 0 nW σ so sc := hF33.wkf hWk
            have hFr : Fr 0 2999 μ μ27 := hFr.tr hF33
            refine x_stk (stk' := [.ref a20, .ref dr]) rfl ?_
            refine x_aload_n C dX8_hint_66 rfl 0 rfl ?_
            refine x_get (ci := 9) (Cn := RX8) (T := TX8) (N := 10) (ref := "CairnCipher") C dX8_hint_67 in_X8 rfl hO 0 (by decide) (by decide +kernel) rfl rfl ?_
            refine x_callV (n := 2) (ci := 3) (Cn := RX2) (T := TX2) (N := 1) (cc9 := 3) (ss9 := 21) (rest := []) C dX8_hint_70 (c_X2_add (kxL E) C.st G z μ27 dr (100 + 100 * nS) nD (dq σ 0) (σ 0) a20 ld (σ 1) (q4 k v m d) hDr (by omega) hK9 hL (by omega)) gX8_hint_X2_add rfl (by decide +kernel) ⟨(Nat.le_of_ble_eq_true rfl), (Nat.le_of_ble_eq_true rfl)⟩ rfl hDr.ob rfl rfl (Nat.le_of_ble_eq_true rfl) rfl rfl ⟨(Nat.le_of_ble_eq_true rfl), (Nat.le_of_ble_eq_true rfl)⟩ nX_no (fun v34 μ35 hv36 => ?_)
            obtain ⟨hw40, h38⟩ := hv36
            subst hw40
            obtain ⟨hH9, hF9⟩ := h38
            have hF41 := hF9
            have hO := hF41.ob hO
            have hL : LandR G μ35 ld (σ 0) (σ 1) := hF41.land hL
            have hY : WaysR G μ35 wy S T := hF41.ways hY
            have hSp : TextR G μ35 sp 7 nL (lw σ 0) := hF41.text hSp
            have hSl : ListR G z μ35 sl 9 nS xs := hF41.list hSl
            have hWl : ListR G z μ35 wl 11 nW ys := hF41.list hWl
            have hWp := hF41.ai hWp
            have hCh : ChronR G μ35 ch nC En := hF41.chron hCh
            have hSt : StF G z μ35 xs 0 nS σ (σ 0) (σ 8) (σ 9) := hF41.stf hSt
            have hWk : WkF G μ35 ys 0 nW σ so sc := hF41.wkf hWk
            have hFr : Fr 0 2999 μ μ35 := hFr.tr hF41
            have hDr : HintsR G z μ35 dr (100 + 100 * nS) (nD + 1) (dq (n_hint σ k v m d) 0) (σ 0) := hH9 _ (dq_hint n6).1 (dq_hint n6).2
            refine x_stk (stk' := []) rfl ?_
            refine x_aload_n C dX8_hint_73 rfl 0 rfl ?_
            refine x_get (ci := 9) (Cn := RX8) (T := TX8) (N := 10) (ref := "CairnCipher") C dX8_hint_74 in_X8 rfl hO 7 (by decide) (by decide +kernel) rfl rfl ?_
            refine x_callV (n := 0) (ci := 3) (Cn := RX2) (T := TX2) (N := 1) (cc9 := 3) (ss9 := 21) (rest := []) C dX8_hint_77 (c_X2_keptPlaces (kxL E) C.st G z μ35 _ _ _ _ _ hDr ) gX8_hint_X2_keptPlaces rfl (by decide +kernel) ⟨(Nat.le_of_ble_eq_true rfl), (Nat.le_of_ble_eq_true rfl)⟩ rfl hDr.ob rfl rfl (Nat.le_of_ble_eq_true rfl) rfl rfl ⟨(Nat.le_of_ble_eq_true rfl), (Nat.le_of_ble_eq_true rfl)⟩ nX_no (fun v42 μ43 hv44 => ?_)
            obtain ⟨r45, hw48, h46, hm47⟩ := hv44
            subst hw48
            rw [hm47]
            have hk9 := h46
            refine x_stk (stk' := [.long r45]) rfl ?_
            obtain ⟨m9, hm9, hK9b⟩ := bt_of r45
            refine x_stk (stk' := [.long (lN m9)]) (by rw [hK9b]) ?_
            refine x_callS (n := 1) (cc9 := 3) (ss9 := 21) (rest := []) C dX8_hint_80 (c_J13_bitCount_95d88 (kxL E) C.st G z μ35 m9 hm9) gX8_hint_J13_bitCount_95d88 rfl (by decide +kernel) ⟨(Nat.le_of_ble_eq_true rfl), (Nat.le_of_ble_eq_true rfl)⟩ rfl rfl (Nat.le_of_ble_eq_true rfl) rfl rfl ⟨(Nat.le_of_ble_eq_true rfl), (Nat.le_of_ble_eq_true rfl)⟩ nX_no (fun v49 μ50 hv51 => ?_)
            obtain ⟨r52, hw55, h53, hm54⟩ := hv51
            subst hw55
            rw [hm54]
            have hb9 := h53
            refine x_stk (stk' := [.int (zI r52)]) rfl ?_
            exact x_iret C R dX8_hint_83 (Nat.le_of_ble_eq_true rfl) (Nat.le_of_ble_eq_true rfl) (⟨_, rfl, ⟨by (unfold t_hint; (repeat split) <;> omega), by (unfold b_fits fitb; rw [hn_hint n6, hb9]; exact ctb_kb hK9b hk9), ⟨ld, wy, sp, sl, wl, wp, ch, dr, nS, nW, nD + 1, nL, nV, nC, xs, ys, so, sc, En, S, T, hnC, hO, hL, hY, hSp, hSl, hWl, hWp, hCh, hDr, hSt.cg (σ' := n_hint σ k v m d) (fun k9 _ => by (show wr (σ 6) 0 (σ 6 0 + 1) (k9 + 1) = _; exact wr_ne (by omega))) (fun k9 _ => rfl) (fun k9 _ j hj i => congrFun (dq_hint2 n6 (by omega)) i) (fun k9 _ j hj => rfl), hWk, ⟨n7, n12, by (show wr (σ 6) 0 (σ 6 0 + 1) 0 = _; rw [wr_at, n6]; rfl), n11, n18, n7r, n12r, n18r⟩, hIc⟩⟩, hFr⟩)
          · exact x_throw (En := "java/lang/IllegalStateException") (names := ["java/lang/RuntimeException", "java/lang/Exception"]) C R hT dX8_hint_42 dX8_hint_45 dX8_hint_46 dX8_hint_49 (by decide +kernel) (by decide +kernel) (by decide +kernel) (by decide +kernel) (by decide +kernel) (by decide +kernel) (by decide +kernel) (Nat.le_of_ble_eq_true rfl) (Nat.le_of_ble_eq_true rfl) (Nat.le_of_ble_eq_true rfl) (Nat.le_of_ble_eq_true rfl) (Or.inr (Or.inr ⟨rfl, by (unfold t_hint; (repeat split) <;> omega)⟩)) (Nat.le_of_ble_eq_true rfl) (Nat.le_of_ble_eq_true rfl)
        · exact x_throw (En := "java/lang/IllegalArgumentException") (names := ["java/lang/RuntimeException", "java/lang/Exception"]) C R hT dX8_hint_23 dX8_hint_26 dX8_hint_27 dX8_hint_30 (by decide +kernel) (by decide +kernel) (by decide +kernel) (by decide +kernel) (by decide +kernel) (by decide +kernel) (by decide +kernel) (Nat.le_of_ble_eq_true rfl) (Nat.le_of_ble_eq_true rfl) (Nat.le_of_ble_eq_true rfl) (Nat.le_of_ble_eq_true rfl) (Or.inr (Or.inl ⟨rfl, by (unfold t_hint; (repeat split) <;> omega)⟩)) (Nat.le_of_ble_eq_true rfl) (Nat.le_of_ble_eq_true rfl)
abbrev rm_X8_setHeight : Room := { frames := 7, cells := 2, slots := 12, locals := 151 }
set_option maxHeartbeats 4000000 in
set_option maxRecDepth 100000 in
theorem c_X8_setHeight (l : Launch) (hst : l.stackTraces = false) (G : GG) (z : Nat) (μ : Mm) (a : Nat) (σ : SS) (n : Nat) (p h : Int) (hC9 : RepC G z μ a σ n) (hI : Iv σ n) (hp : -2147483648 ≤ p ∧ p < 2147483648) (hh : -2147483648 ≤ h ∧ h < 2147483648) : Ct l yX8_setHeight wsX8_setHeight rm_X8_setHeight G z [.ref a, .int (zI p), .int (zI h)] μ (rS (fun r9 μ' => (t_setHeight p h = 0 ∧ r9 = b_setHeight σ p.toNat h (σ 7 0).toNat ∧ RepC G z μ' a (n_setHeight σ p.toNat h) n) ∧ Fr 0 2999 μ μ')) (fun En => (En = "java/lang/IndexOutOfBoundsException" ∧ t_setHeight p h = 1) ∨ (En = "java/lang/IllegalArgumentException" ∧ t_setHeight p h = 2)) := by
  refine ct_of (cc := cX8_setHeight) (maxL := 5) (ret := (some .int)) (own := RX8) (by decide) rfl rfl hst (Nat.le_of_ble_eq_true rfl) ?_
  intro E hLl hnm C R hT
  have in_X8 : ∀ w ∈ u_ws RX8 TX8 10, w ∈ wsX8_setHeight := by decide +kernel
  have hC8 := hC9
  obtain ⟨ld, wy, sp, sl, wl, wp, ch, dr, nS, nW, nD, nL, nV, nC, xs, ys, so, sc, En, S, T, hnC, hX9⟩ := hC9
  have hX8 := hX9
  obtain ⟨hO, hL, hY, hSp, hSl, hWl, hWp, hCh, hDr, hSt, hWk, ⟨n7, n12, n6, n11, n18, n7r, n12r, n18r⟩, hIc⟩ := hX9
  have hnL := hSp.le
  have hnD := hDr.le
  have hFr : Fr 0 2999 μ μ := Fr.rf
  refine x_eq (lv' := [(0, .ref a), (1, .int (zI p)), (2, .int (zI h))]) rfl rfl ?_
  refine x_iload_n C dX8_setHeight_0 rfl 1 rfl ?_
  refine x_callS (n := 1) (cc9 := 1) (ss9 := 6) (rest := []) C dX8_setHeight_1 (c_X8_requirePlace (kxL E) C.st G z μ p (by omega)) gX8_setHeight_X8_requirePlace rfl (by decide +kernel) ⟨(Nat.le_of_ble_eq_true rfl), (Nat.le_of_ble_eq_true rfl)⟩ rfl rfl (Nat.le_of_ble_eq_true rfl) rfl rfl ⟨(Nat.le_of_ble_eq_true rfl), (Nat.le_of_ble_eq_true rfl)⟩ (fun En hEn => x_out C R hT (Or.inl ⟨hEn.1, by unfold t_setHeight; rw [if_neg hEn.2]⟩) (Nat.le_of_ble_eq_true rfl) (Nat.le_of_ble_eq_true rfl)) (fun v1 μ2 hv3 => ?_)
  obtain ⟨hw7, h5, hm6⟩ := hv3
  subst hw7
  rw [hm6]
  refine x_stk (stk' := []) rfl ?_
  obtain ⟨p9, rfl⟩ : ∃ p9 : Nat, p = (p9 : Int) := ⟨p.toNat, by omega⟩
  refine x_iload_n C dX8_setHeight_4 rfl 2 rfl ?_
  refine z_if_lt (tgt := 14) C dX8_setHeight_5 (by decide) (rg_of (by omega) (by omega)) (fun c_8 => ?_) (fun c_8 => ?_)
  · exact x_throw (En := "java/lang/IllegalArgumentException") (names := ["java/lang/RuntimeException", "java/lang/Exception"]) C R hT dX8_setHeight_14 dX8_setHeight_17 dX8_setHeight_18 dX8_setHeight_21 (by decide +kernel) (by decide +kernel) (by decide +kernel) (by decide +kernel) (by decide +kernel) (by decide +kernel) (by decide +kernel) (Nat.le_of_ble_eq_true rfl) (Nat.le_of_ble_eq_true rfl) (Nat.le_of_ble_eq_true rfl) (Nat.le_of_ble_eq_true rfl) (Or.inr ⟨rfl, by (unfold t_setHeight; (repeat split) <;> omega)⟩) (Nat.le_of_ble_eq_true rfl) (Nat.le_of_ble_eq_true rfl)
  · refine x_iload_n C dX8_setHeight_8 rfl 2 rfl ?_
    refine z_bipush C dX8_setHeight_9 (by decide) ?_
    refine z_icmp_le (tgt := 22) C dX8_setHeight_11 (by decide) (rg_of (by omega) (by omega)) (rg_of (by omega) (by omega)) (fun c_9 => ?_) (fun c_9 => ?_)
    · refine x_aload_n C dX8_setHeight_22 rfl 0 rfl ?_
      refine x_get (ci := 9) (Cn := RX8) (T := TX8) (N := 10) (ref := "CairnCipher") C dX8_setHeight_23 in_X8 rfl hO 0 (by decide) (by decide +kernel) rfl rfl ?_
      refine x_iload_n C dX8_setHeight_26 rfl 1 rfl ?_
      refine x_iload_n C dX8_setHeight_27 rfl 2 rfl ?_
      refine x_callV (n := 2) (ci := 4) (Cn := RX3) (T := TX3) (N := 2) (cc9 := 1) (ss9 := 6) (rest := []) C dX8_setHeight_28 (c_X3_shape (kxL E) C.st G z μ _ _ _ (p9 : Int) h hL (by omega) (by omega)) gX8_setHeight_X3_shape rfl (by decide +kernel) ⟨(Nat.le_of_ble_eq_true rfl), (Nat.le_of_ble_eq_true rfl)⟩ rfl hL.ob rfl rfl (Nat.le_of_ble_eq_true rfl) rfl rfl ⟨(Nat.le_of_ble_eq_true rfl), (Nat.le_of_ble_eq_true rfl)⟩ nX_no (fun v10 μ11 hv12 => ?_)
      obtain ⟨hw16, h14⟩ := hv12
      subst hw16
      obtain ⟨hL, hF9⟩ := h14
      have hF17 := hF9
      have hO := hF17.ob hO
      have hY : WaysR G μ11 wy S T := hF17.ways hY
      have hSp : TextR G μ11 sp 7 nL (lw σ 0) := hF17.text hSp
      have hSl : ListR G z μ11 sl 9 nS xs := hF17.list hSl
      have hWl : ListR G z μ11 wl 11 nW ys := hF17.list hWl
      have hWp := hF17.ai hWp
      have hCh : ChronR G μ11 ch nC En := hF17.chron hCh
      have hDr : HintsR G z μ11 dr (100 + 100 * nS) nD (dq σ 0) (σ 0) := (by first | exact hF17.hints hDr | exact hF17.hintsN hDr)
      have hSt : StF G z μ11 xs 0 nS σ (σ 0) (σ 8) (σ 9) := hF17.stf hSt
      have hWk : WkF G μ11 ys 0 nW σ so sc := hF17.wkf hWk
      have hFr : Fr 0 2999 μ μ11 := hFr.tr hF17
      rw [Int.toNat_natCast] at hL
      refine x_stk (stk' := []) rfl ?_
      refine x_aload_n C dX8_setHeight_31 rfl 0 rfl ?_
      refine x_get (ci := 9) (Cn := RX8) (T := TX8) (N := 10) (ref := "CairnCipher") C dX8_setHeight_32 in_X8 rfl hO 7 (by decide) (by decide +kernel) rfl rfl ?_
      refine x_iload_n C dX8_setHeight_35 rfl 1 rfl ?_
      refine x_iload_n C dX8_setHeight_36 rfl 2 rfl ?_
      refine x_callV (n := 2) (ci := 3) (Cn := RX2) (T := TX2) (N := 1) (cc9 := 1) (ss9 := 6) (rest := []) C dX8_setHeight_37 (c_X2_lookAgainAt (kxL E) C.st G z μ11 _ _ _ _ _ p9 h hDr (by omega) (by omega)) gX8_setHeight_X2_lookAgainAt rfl (by decide +kernel) ⟨(Nat.le_of_ble_eq_true rfl), (Nat.le_of_ble_eq_true rfl)⟩ rfl hDr.ob rfl rfl (Nat.le_of_ble_eq_true rfl) rfl rfl ⟨(Nat.le_of_ble_eq_true rfl), (Nat.le_of_ble_eq_true rfl)⟩ nX_no (fun v18 μ19 hv20 => ?_)
      obtain ⟨hw24, h22⟩ := hv20
      subst hw24
      obtain ⟨hDr, hF9⟩ := h22
      have hF25 := hF9
      have hO := hF25.ob hO
      have hY : WaysR G μ19 wy S T := hF25.ways hY
      have hSp : TextR G μ19 sp 7 nL (lw σ 0) := hF25.text hSp
      have hSl : ListR G z μ19 sl 9 nS xs := hF25.list hSl
      have hWl : ListR G z μ19 wl 11 nW ys := hF25.list hWl
      have hWp := hF25.ai hWp
      have hCh : ChronR G μ19 ch nC En := hF25.chron hCh
      have hSt : StF G z μ19 xs 0 nS σ (σ 0) (σ 8) (σ 9) := hF25.stf hSt
      have hWk : WkF G μ19 ys 0 nW σ so sc := hF25.wkf hWk
      have hL : LandR G μ19 ld (wr (σ 0) p9 h) (σ 1) := hF25.land hL
      have hFr : Fr 0 2999 μ μ19 := hFr.tr hF25
      refine x_stk (stk' := []) rfl ?_
      refine z_iconst C dX8_setHeight_40 ?_
      refine x_istore_n (lv' := [(3, .int (zI 0)), (0, .ref a), (1, .int (zI (p9 : Int))), (2, .int (zI h))]) C dX8_setHeight_41 rfl (by decide) rfl ?_
      refine z_iconst C dX8_setHeight_42 ?_
      refine x_istore (lv' := [(4, .int (zI 0)), (3, .int (zI 0)), (0, .ref a), (1, .int (zI (p9 : Int))), (2, .int (zI h))]) C dX8_setHeight_43 (by decide) rfl ?_
      have L45 : ∀ (M9 : Nat) (μk : Mm) (k : Nat) (kz : Int) (hkz : kz = (k : Int)) (mv : Int) (hO : OB μk a 0 9 [.ref ld, .ref wy, .ref sp, .ref sl, .ref wl, .ref wp, .ref ch, .ref dr, .int (zI (nV : Int)), .int (zI (σ 23 0))]) (hY : WaysR G μk wy S T) (hSp : TextR G μk sp 7 nL (lw σ 0)) (hSl : ListR G z μk sl 9 nS xs) (hWl : ListR G z μk wl 11 nW ys) (hWp : AI G μk wp 13 4 (σ 19)) (hCh : ChronR G μk ch nC En) (hWk : WkF G μk ys 0 nW σ so sc) (hL : LandR G μk ld (wr (σ 0) p9 h) (σ 1)) (hDr : HintsR G z μk dr (100 + 100 * nS) nD (dq σ 0) (wr (σ 0) p9 h)) (hSa : StF G z μk xs 0 k σ (wr (σ 0) p9 h) (pl9 σ p9 h nS) (mv9 σ p9 h nS)) (hSb : StF G z μk xs k nS σ (σ 0) (σ 8) (σ 9)) (hFr : Fr 0 2999 μ μk) (hk : k ≤ nS) (hmv : mv = b_setHeight σ p9 h k) (hM9 : nS - k = M9), Wx E G 1 6 45 [(4, .int (zI kz)), (3, .int (zI mv)), (0, .ref a), (1, .int (zI (p9 : Int))), (2, .int (zI h))] [] μk := by
        intro M9
        induction M9 using Nat.strongRecOn with
        | ind M9 ih45 =>
          intro μk k kz hkz mv hO hY hSp hSl hWl hWp hCh hWk hL hDr hSa hSb hFr hk hmv hM9
          subst hkz
          have hbr := b_setHeight_rg σ p9 h k
          refine x_iload C dX8_setHeight_45 0 rfl ?_
          refine x_aload_n C dX8_setHeight_47 rfl 2 rfl ?_
          refine x_get (ci := 9) (Cn := RX8) (T := TX8) (N := 10) (ref := "CairnCipher") C dX8_setHeight_48 in_X8 rfl hO 3 (by decide) (by decide +kernel) rfl rfl ?_
          refine x_callV (n := 0) (ci := 0) (Cn := RJx4a65c) (T := TJx4a65c) (N := 3) (cc9 := 1) (ss9 := 6) (rest := [.int (zI (k : Int))]) C dX8_setHeight_51 (c_Jx4a65c_size_8abf5 (kxL E) C.st G z μk _ _ _ _ hSl) gX8_setHeight_Jx4a65c_size_8abf5 rfl (by decide +kernel) ⟨(Nat.le_of_ble_eq_true rfl), (Nat.le_of_ble_eq_true rfl)⟩ rfl hSl.ob rfl rfl (Nat.le_of_ble_eq_true rfl) rfl rfl ⟨(Nat.le_of_ble_eq_true rfl), (Nat.le_of_ble_eq_true rfl)⟩ nX_no (fun v26 μ27 hv28 => ?_)
          obtain ⟨r29, hw32, h30, hm31⟩ := hv28
          subst hw32
          rw [hm31]
          refine x_stk (stk' := [.int (zI r29), .int (zI (k : Int))]) rfl ?_
          refine z_icmp_ge (tgt := 86) C dX8_setHeight_54 (by decide) (rg_of (by omega) (by omega)) (rg_of (by omega) (by omega)) (fun c_33 => ?_) (fun c_33 => ?_)
          · refine x_iload_n C dX8_setHeight_86 rfl 1 rfl ?_
            exact x_iret C R dX8_setHeight_87 (Nat.le_of_ble_eq_true rfl) (Nat.le_of_ble_eq_true rfl) (⟨_, rfl, ⟨by (unfold t_setHeight; rw [if_pos (by omega), if_pos (by omega)]), by (rw [Int.toNat_natCast, hmv, n7, Int.toNat_natCast, show k = nS by omega]), by (rw [Int.toNat_natCast]; exact ⟨ld, wy, sp, sl, wl, wp, ch, dr, nS, nW, nD, nL, nV, nC, xs, ys, so, sc, En, S, T, hnC, hO, hL, hY, hSp, hSl, hWl, hWp, hCh, hDr, (by (show StF G z _ xs 0 nS σ (wr (σ 0) p9 h) (pl9 σ p9 h (σ 7 0).toNat) (mv9 σ p9 h (σ 7 0).toNat); rw [n7, Int.toNat_natCast]; exact fun j h1 h2 => hSa j h1 (by omega))), hWk, ⟨n7, n12, n6, n11, n18, n7r, n12r, n18r⟩, hIc⟩)⟩, hFr⟩)
          · refine x_aload_n C dX8_setHeight_57 rfl 2 rfl ?_
            refine x_get (ci := 9) (Cn := RX8) (T := TX8) (N := 10) (ref := "CairnCipher") C dX8_setHeight_58 in_X8 rfl hO 3 (by decide) (by decide +kernel) rfl rfl ?_
            refine x_iload C dX8_setHeight_61 0 rfl ?_
            refine x_callV (n := 1) (ci := 0) (Cn := RJx4a65c) (T := TJx4a65c) (N := 3) (cc9 := 1) (ss9 := 6) (rest := []) C dX8_setHeight_63 (c_Jx4a65c_get_915e3 (kxL E) C.st G z μk _ _ _ _ k hSl (by omega)) gX8_setHeight_Jx4a65c_get_915e3 rfl (by decide +kernel) ⟨(Nat.le_of_ble_eq_true rfl), (Nat.le_of_ble_eq_true rfl)⟩ rfl hSl.ob rfl rfl (Nat.le_of_ble_eq_true rfl) rfl rfl ⟨(Nat.le_of_ble_eq_true rfl), (Nat.le_of_ble_eq_true rfl)⟩ nX_no (fun v34 μ35 hv36 => ?_)
            obtain ⟨r37, hw40, h38, hm39⟩ := hv36
            subst hw40
            rw [hm39]
            obtain ⟨W8, hW8, hSg⟩ := hSb k (by omega) (by omega)
            rw [← h38] at hSg
            refine x_stk (stk' := [.ref r37]) rfl ?_
            refine x_cast (ci := 5) (Cn := RX4) (T := TX4) (N := 4) C dX8_setHeight_66 rfl hSg.ob (by decide +kernel) ?_
            refine x_iload_n C dX8_setHeight_69 rfl 3 rfl ?_
            refine x_iload_n C dX8_setHeight_70 rfl 4 rfl ?_
            refine x_callV (n := 2) (ci := 5) (Cn := RX4) (T := TX4) (N := 4) (cc9 := 1) (ss9 := 6) (rest := []) C dX8_setHeight_71 (c_X4_follow (kxL E) C.st G z μk _ _ _ _ _ _ _ _ _ p9 h hSg (by omega) (by omega)) gX8_setHeight_X4_follow rfl (by decide +kernel) ⟨(Nat.le_of_ble_eq_true rfl), (Nat.le_of_ble_eq_true rfl)⟩ rfl hSg.ob rfl rfl (Nat.le_of_ble_eq_true rfl) rfl rfl ⟨(Nat.le_of_ble_eq_true rfl), (Nat.le_of_ble_eq_true rfl)⟩ nX_no (fun v41 μ42 hv43 => ?_)
            obtain ⟨r44, hw47, h45⟩ := hv43
            subst hw47
            obtain ⟨⟨p8, m8, hS8, hu8⟩, hF9⟩ := h45
            have hF48 := hF9
            have hO := hF48.ob hO
            have hY : WaysR G μ42 wy S T := hF48.ways hY
            have hSp : TextR G μ42 sp 7 nL (lw σ 0) := hF48.text hSp
            have hSl : ListR G z μ42 sl 9 nS xs := hF48.list hSl
            have hWl : ListR G z μ42 wl 11 nW ys := hF48.list hWl
            have hWp := hF48.ai hWp
            have hCh : ChronR G μ42 ch nC En := hF48.chron hCh
            have hWk : WkF G μ42 ys 0 nW σ so sc := hF48.wkf hWk
            have hL : LandR G μ42 ld (wr (σ 0) p9 h) (σ 1) := hF48.land hL
            have hDr : HintsR G z μ42 dr (100 + 100 * nS) nD (dq σ 0) (wr (σ 0) p9 h) := hF48.hints hDr
            have hSa : StF G z μ42 xs 0 k σ (wr (σ 0) p9 h) (pl9 σ p9 h nS) (mv9 σ p9 h nS) := hF48.stf hSa
            have hFr : Fr 0 2999 μ μ42 := hFr.tr hF48
            have hSb := hF9.stf (fun j h1 h2 => hSb j (by omega) h2 : StF G z _ xs (k + 1) nS σ (σ 0) (σ 8) (σ 9))
            have hU8 : p8 = npl σ p9 h k := by (obtain ⟨_, _, _, _, _, hU⟩ := hS8; exact hU.one (UQ_uq _))
            rw [h38] at hS8
            have hSa : StF G z μ42 xs 0 (k + 1) σ (wr (σ 0) p9 h) (pl9 σ p9 h nS) (mv9 σ p9 h nS) := fun j h1 h2 => by (by_cases e : j = k; subst e; exact ⟨W8, hW8, by (rw [show pl9 σ p9 h nS j = p8 by (unfold pl9; rw [if_pos (by omega)]; omega), show mv9 σ p9 h nS j = m8 by (unfold mv9; split <;> omega)]; exact hS8)⟩; exact hSa j h1 (by omega))
            refine x_stk (stk' := [.int (zI r44)]) rfl ?_
            refine z_if_eq (tgt := 80) C dX8_setHeight_74 (by decide) (rg_of (by omega) (by omega)) (fun c_49 => ?_) (fun c_49 => ?_)
            · refine z_iinc (lv' := [(4, .int (zI ((k : Int) + 1))), (3, .int (zI mv)), (0, .ref a), (1, .int (zI (p9 : Int))), (2, .int (zI h))]) C dX8_setHeight_80 0 rfl rfl (by decide) rfl ?_
              refine x_goto (tgt := 45) C dX8_setHeight_83 (by decide) ?_
              exact ih45 _ (by omega) _ (k + 1) _ (by omega) _ hO hY hSp hSl hWl hWp hCh hWk hL hDr hSa hSb hFr (by omega) (by rw [show b_setHeight σ p9 h (k + 1) = b_setHeight σ p9 h k + (if npl σ p9 h k ≠ σ 8 k then 1 else 0) from rfl]; split <;> omega) rfl
            · refine z_iinc (lv' := [(3, .int (zI (mv + 1))), (4, .int (zI (k : Int))), (0, .ref a), (1, .int (zI (p9 : Int))), (2, .int (zI h))]) C dX8_setHeight_77 1 rfl rfl (by decide) rfl ?_
              refine z_iinc (lv' := [(4, .int (zI ((k : Int) + 1))), (3, .int (zI (mv + 1))), (0, .ref a), (1, .int (zI (p9 : Int))), (2, .int (zI h))]) C dX8_setHeight_80 1 rfl rfl (by decide) rfl ?_
              refine x_goto (tgt := 45) C dX8_setHeight_83 (by decide) ?_
              exact ih45 _ (by omega) _ (k + 1) _ (by omega) _ hO hY hSp hSl hWl hWp hCh hWk hL hDr hSa hSb hFr (by omega) (by rw [show b_setHeight σ p9 h (k + 1) = b_setHeight σ p9 h k + (if npl σ p9 h k ≠ σ 8 k then 1 else 0) from rfl]; split <;> omega) rfl
      have hSa : StF G z μ19 xs 0 0 σ (wr (σ 0) p9 h) (pl9 σ p9 h nS) (mv9 σ p9 h nS) := fun j _ hj => absurd hj (Nat.not_lt_zero j)
      have hSb := hSt
      exact L45 _ _ (0) _ (by omega) _ hO hY hSp hSl hWl hWp hCh hWk hL hDr hSa hSb hFr (by omega) rfl rfl
    · exact x_throw (En := "java/lang/IllegalArgumentException") (names := ["java/lang/RuntimeException", "java/lang/Exception"]) C R hT dX8_setHeight_14 dX8_setHeight_17 dX8_setHeight_18 dX8_setHeight_21 (by decide +kernel) (by decide +kernel) (by decide +kernel) (by decide +kernel) (by decide +kernel) (by decide +kernel) (by decide +kernel) (Nat.le_of_ble_eq_true rfl) (Nat.le_of_ble_eq_true rfl) (Nat.le_of_ble_eq_true rfl) (Nat.le_of_ble_eq_true rfl) (Or.inr ⟨rfl, by (unfold t_setHeight; (repeat split) <;> omega)⟩) (Nat.le_of_ble_eq_true rfl) (Nat.le_of_ble_eq_true rfl)
abbrev rm_X8_addWalker : Room := { frames := 7, cells := 5, slots := 50, locals := 109 }
set_option maxHeartbeats 4000000 in
set_option maxRecDepth 100000 in
theorem c_X8_addWalker (l : Launch) (hst : l.stackTraces = false) (G : GG) (z : Nat) (μ : Mm) (a : Nat) (σ : SS) (n : Nat) (p c : Int) (hC9 : RepC G z μ a σ n) (hI : Iv σ n) (hJ : Jv σ) (hp : -2147483648 ≤ p ∧ p < 2147483648) (hc : -2147483648 ≤ c ∧ c < 2147483648) : Ct l yX8_addWalker wsX8_addWalker rm_X8_addWalker G z [.ref a, .int (zI p), .int (zI c)] μ (rS (fun r9 μ' => (t_addWalker σ p c = 0 ∧ r9 = σ 12 0 ∧ RepC G z μ' a (n_addWalker σ p c) n) ∧ Fr 0 2999 μ μ')) (fun En => (En = "java/lang/IndexOutOfBoundsException" ∧ t_addWalker σ p c = 1) ∨ (En = "java/lang/IllegalArgumentException" ∧ t_addWalker σ p c = 2) ∨ (En = "java/lang/IllegalStateException" ∧ t_addWalker σ p c = 3)) := by
  refine ct_of (cc := cX8_addWalker) (maxL := 3) (ret := (some .int)) (own := RX8) (by decide) rfl rfl hst (Nat.le_of_ble_eq_true rfl) ?_
  intro E hLl hnm C R hT
  have in_X6 : ∀ w ∈ u_ws RX6 TX6 9, w ∈ wsX8_addWalker := by decide +kernel
  have in_X8 : ∀ w ∈ u_ws RX8 TX8 10, w ∈ wsX8_addWalker := by decide +kernel
  have hC8 := hC9
  obtain ⟨ld, wy, sp, sl, wl, wp, ch, dr, nS, nW, nD, nL, nV, nC, xs, ys, so, sc, En, S, T, hnC, hX9⟩ := hC9
  have hX8 := hX9
  obtain ⟨hO, hL, hY, hSp, hSl, hWl, hWp, hCh, hDr, hSt, hWk, ⟨n7, n12, n6, n11, n18, n7r, n12r, n18r⟩, hIc⟩ := hX9
  have hnL := hSp.le
  have hnD := hDr.le
  have hFr : Fr 0 2999 μ μ := Fr.rf
  refine x_eq (lv' := [(0, .ref a), (1, .int (zI p)), (2, .int (zI c))]) rfl rfl ?_
  refine x_iload_n C dX8_addWalker_0 rfl 1 rfl ?_
  refine x_callS (n := 1) (cc9 := 1) (ss9 := 6) (rest := []) C dX8_addWalker_1 (c_X8_requirePlace (kxL E) C.st G z μ p (by omega)) gX8_addWalker_X8_requirePlace rfl (by decide +kernel) ⟨(Nat.le_of_ble_eq_true rfl), (Nat.le_of_ble_eq_true rfl)⟩ rfl rfl (Nat.le_of_ble_eq_true rfl) rfl rfl ⟨(Nat.le_of_ble_eq_true rfl), (Nat.le_of_ble_eq_true rfl)⟩ (fun En hEn => x_out C R hT (Or.inl ⟨hEn.1, by unfold t_addWalker; rw [if_neg hEn.2]⟩) (Nat.le_of_ble_eq_true rfl) (Nat.le_of_ble_eq_true rfl)) (fun v1 μ2 hv3 => ?_)
  obtain ⟨hw7, h5, hm6⟩ := hv3
  subst hw7
  rw [hm6]
  refine x_stk (stk' := []) rfl ?_
  refine x_iload_n C dX8_addWalker_4 rfl 2 rfl ?_
  refine z_iconst C dX8_addWalker_5 ?_
  refine z_icmp_lt (tgt := 14) C dX8_addWalker_6 (by decide) (rg_of (by omega) (by omega)) (rg_of (by omega) (by omega)) (fun c_8 => ?_) (fun c_8 => ?_)
  · exact x_throw (En := "java/lang/IllegalArgumentException") (names := ["java/lang/RuntimeException", "java/lang/Exception"]) C R hT dX8_addWalker_14 dX8_addWalker_17 dX8_addWalker_18 dX8_addWalker_21 (by decide +kernel) (by decide +kernel) (by decide +kernel) (by decide +kernel) (by decide +kernel) (by decide +kernel) (by decide +kernel) (Nat.le_of_ble_eq_true rfl) (Nat.le_of_ble_eq_true rfl) (Nat.le_of_ble_eq_true rfl) (Nat.le_of_ble_eq_true rfl) (Or.inr (Or.inl ⟨rfl, by (unfold t_addWalker; (repeat split) <;> omega)⟩)) (Nat.le_of_ble_eq_true rfl) (Nat.le_of_ble_eq_true rfl)
  · refine x_iload_n C dX8_addWalker_9 rfl 2 rfl ?_
    refine z_iconst C dX8_addWalker_10 ?_
    refine z_icmp_le (tgt := 22) C dX8_addWalker_11 (by decide) (rg_of (by omega) (by omega)) (rg_of (by omega) (by omega)) (fun c_9 => ?_) (fun c_9 => ?_)
    · refine x_aload_n C dX8_addWalker_22 rfl 0 rfl ?_
      refine x_get (ci := 9) (Cn := RX8) (T := TX8) (N := 10) (ref := "CairnCipher") C dX8_addWalker_23 in_X8 rfl hO 4 (by decide) (by decide +kernel) rfl rfl ?_
      refine x_callV (n := 0) (ci := 0) (Cn := RJx4a65c) (T := TJx4a65c) (N := 3) (cc9 := 1) (ss9 := 6) (rest := []) C dX8_addWalker_26 (c_Jx4a65c_size_8abf5 (kxL E) C.st G z μ _ _ _ _ hWl) gX8_addWalker_Jx4a65c_size_8abf5 rfl (by decide +kernel) ⟨(Nat.le_of_ble_eq_true rfl), (Nat.le_of_ble_eq_true rfl)⟩ rfl hWl.ob rfl rfl (Nat.le_of_ble_eq_true rfl) rfl rfl ⟨(Nat.le_of_ble_eq_true rfl), (Nat.le_of_ble_eq_true rfl)⟩ nX_no (fun v10 μ11 hv12 => ?_)
      obtain ⟨r13, hw16, h14, hm15⟩ := hv12
      subst hw16
      rw [hm15]
      refine x_stk (stk' := [.int (zI r13)]) rfl ?_
      refine z_bipush C dX8_addWalker_29 (by decide) ?_
      refine z_icmp_lt (tgt := 42) C dX8_addWalker_31 (by decide) (rg_of (by omega) (by omega)) (rg_of (by omega) (by omega)) (fun c_17 => ?_) (fun c_17 => ?_)
      · have e12 : (σ 12 0).toNat = nW := by omega
        have hJw := hJ.2.1 nW (by omega) (by omega)
        have hIw := hIc nW (by omega)
        refine x_aload_n C dX8_addWalker_42 rfl 0 rfl ?_
        refine x_get (ci := 9) (Cn := RX8) (T := TX8) (N := 10) (ref := "CairnCipher") C dX8_addWalker_43 in_X8 rfl hO 4 (by decide) (by decide +kernel) rfl rfl ?_
        refine z_new (ci := 7) (Cn := RX6) (T := TX6) (N := 9) (cc9 := 2) (ss9 := 15) (fs := [.int (zI 0), .null, .null, .int (zI 0), .int (zI 0), .int (zI 0), .int (zI 0), .int (zI 0), .int (zI 0)]) C (2000 + 10 * nW) dX8_addWalker_46 in_X6 rfl tyX6 tyX6_ok (by decide +kernel) (by decide +kernel) (by decide +kernel) (fun j hj => by rcases (show j = 0 ∨ j = 1 ∨ j = 2 ∨ j = 3 ∨ j = 4 ∨ j = 5 ∨ j = 6 ∨ j = 7 ∨ j = 8 by omega) with rfl | rfl | rfl | rfl | rfl | rfl | rfl | rfl | rfl <;> rfl) rfl rfl (Nat.le_of_ble_eq_true rfl) (Nat.le_of_ble_eq_true rfl) (fun a18 μ19 hq20 hO21 hF22 => ?_)
        have hF23 : Fr 0 0 μ μ19 := hF22 _ _
        have hO := (hF22 0 0).ob hO (Or.inr (Nat.zero_le _))
        have hL : LandR G μ19 ld (σ 0) (σ 1) := (hF22 0 0).land hL
        have hY : WaysR G μ19 wy S T := (hF22 0 0).ways hY
        have hSp : TextR G μ19 sp 7 nL (lw σ 0) := (hF22 0 0).text hSp
        have hSl : ListR G z μ19 sl 9 nS xs := (hF22 0 0).list hSl
        have hWl : ListR G z μ19 wl 11 nW ys := (hF22 0 0).list hWl
        have hWp := (hF22 0 0).ai hWp (Or.inr (Nat.zero_le _))
        have hCh : ChronR G μ19 ch nC En := (hF22 0 0).chron hCh
        have hDr : HintsR G z μ19 dr (100 + 100 * nS) nD (dq σ 0) (σ 0) := (by first | exact (hF22 0 0).hints hDr | exact (hF22 0 0).hintsN hDr)
        have hSt : StF G z μ19 xs 0 nS σ (σ 0) (σ 8) (σ 9) := (hF22 0 0).stf hSt
        have hWk : WkF G μ19 ys 0 nW σ so sc := (hF22 0 0).wkf hWk
        have hFr : Fr 0 2999 μ μ19 := hFr.tr (hF22 0 2999)
        refine x_dup C dX8_addWalker_49 rfl ?_
        refine x_iload_n C dX8_addWalker_50 rfl 1 rfl ?_
        refine x_iload_n C dX8_addWalker_51 rfl 2 rfl ?_
        refine x_callI (n := 2) (cc9 := 4) (ss9 := 27) (rest := [.ref a18, .ref wl]) C dX8_addWalker_52 (c_X6_init (kxL E) C.st G z μ19 a18 (2000 + 10 * nW) p c hO21 (by omega) (by omega)) gX8_addWalker_X6_init rfl (by decide +kernel) (by decide +kernel) (by decide +kernel) rfl (by decide +kernel) ⟨(Nat.le_of_ble_eq_true rfl), (Nat.le_of_ble_eq_true rfl)⟩ rfl rfl (Nat.le_of_ble_eq_true rfl) rfl rfl ⟨(Nat.le_of_ble_eq_true rfl), (Nat.le_of_ble_eq_true rfl)⟩ nX_no (fun v24 μ25 hv26 => ?_)
        obtain ⟨hw30, h28⟩ := hv26
        subst hw30
        obtain ⟨hWn, hF9⟩ := h28
        have hF31 := hF9
        have hO := hF31.ob hO
        have hL : LandR G μ25 ld (σ 0) (σ 1) := hF31.land hL
        have hY : WaysR G μ25 wy S T := hF31.ways hY
        have hSp : TextR G μ25 sp 7 nL (lw σ 0) := hF31.text hSp
        have hSl : ListR G z μ25 sl 9 nS xs := hF31.list hSl
        have hWl : ListR G z μ25 wl 11 nW ys := hF31.list hWl
        have hWp := hF31.ai hWp
        have hCh : ChronR G μ25 ch nC En := hF31.chron hCh
        have hDr : HintsR G z μ25 dr (100 + 100 * nS) nD (dq σ 0) (σ 0) := (by first | exact hF31.hints hDr | exact hF31.hintsN hDr)
        have hSt : StF G z μ25 xs 0 nS σ (σ 0) (σ 8) (σ 9) := hF31.stf hSt
        have hWk : WkF G μ25 ys 0 nW σ so sc := hF31.wkf hWk
        have hFr : Fr 0 2999 μ μ25 := hFr.tr hF31
        refine x_stk (stk' := [.ref a18, .ref wl]) rfl ?_
        refine x_callV (n := 1) (ci := 0) (Cn := RJx4a65c) (T := TJx4a65c) (N := 3) (cc9 := 5) (ss9 := 37) (rest := []) C dX8_addWalker_55 (c_Jx4a65c_add_9ea2d (kxL E) C.st G z μ25 wl 11 nW a18 7 ys RX6 TX6 9 hWl (by omega) (by (obtain ⟨wa, ta, hO9, -⟩ := hWn; exact ⟨_, _, hO9, by omega⟩)) rfl (by decide +kernel)) gX8_addWalker_Jx4a65c_add_9ea2d rfl (by decide +kernel) ⟨(Nat.le_of_ble_eq_true rfl), (Nat.le_of_ble_eq_true rfl)⟩ rfl hWl.ob rfl rfl (Nat.le_of_ble_eq_true rfl) rfl rfl ⟨(Nat.le_of_ble_eq_true rfl), (Nat.le_of_ble_eq_true rfl)⟩ nX_no (fun v32 μ33 hv34 => ?_)
        obtain ⟨r35, hw38, h36⟩ := hv34
        subst hw38
        obtain ⟨hLq, hF9⟩ := h36
        have hF39 := hF9
        have hO := hF39.ob hO
        have hL : LandR G μ33 ld (σ 0) (σ 1) := hF39.land hL
        have hY : WaysR G μ33 wy S T := hF39.ways hY
        have hSp : TextR G μ33 sp 7 nL (lw σ 0) := hF39.text hSp
        have hSl : ListR G z μ33 sl 9 nS xs := hF39.list hSl
        have hWp := hF39.ai hWp
        have hCh : ChronR G μ33 ch nC En := hF39.chron hCh
        have hDr : HintsR G z μ33 dr (100 + 100 * nS) nD (dq σ 0) (σ 0) := (by first | exact hF39.hints hDr | exact hF39.hintsN hDr)
        have hSt : StF G z μ33 xs 0 nS σ (σ 0) (σ 8) (σ 9) := hF39.stf hSt
        have hWk : WkF G μ33 ys 0 nW σ so sc := hF39.wkf hWk
        have hWn : WalkerR G μ33 a18 (2000 + 10 * nW) c p (-1) (-1) 0 0 0 (fun _ => 0) (fun _ => 0) := hF39.walker hWn
        have hFr : Fr 0 2999 μ μ33 := hFr.tr hF39
        have hWl : ListR G z μ33 wl 11 (nW + 1) (apn ys nW a18) := hLq _ (fun j hj => apn_ne (by omega)) apn_at
        refine x_stk (stk' := [.int (zI r35)]) rfl ?_
        refine x_pop C dX8_addWalker_58 rfl ?_
        refine x_aload_n C dX8_addWalker_59 rfl 0 rfl ?_
        refine x_get (ci := 9) (Cn := RX8) (T := TX8) (N := 10) (ref := "CairnCipher") C dX8_addWalker_60 in_X8 rfl hO 4 (by decide) (by decide +kernel) rfl rfl ?_
        refine x_callV (n := 0) (ci := 0) (Cn := RJx4a65c) (T := TJx4a65c) (N := 3) (cc9 := 5) (ss9 := 37) (rest := []) C dX8_addWalker_63 (c_Jx4a65c_size_8abf5 (kxL E) C.st G z μ33 _ _ _ _ hWl) gX8_addWalker_Jx4a65c_size_8abf5 rfl (by decide +kernel) ⟨(Nat.le_of_ble_eq_true rfl), (Nat.le_of_ble_eq_true rfl)⟩ rfl hWl.ob rfl rfl (Nat.le_of_ble_eq_true rfl) rfl rfl ⟨(Nat.le_of_ble_eq_true rfl), (Nat.le_of_ble_eq_true rfl)⟩ nX_no (fun v40 μ41 hv42 => ?_)
        obtain ⟨r43, hw46, h44, hm45⟩ := hv42
        subst hw46
        rw [hm45]
        refine x_stk (stk' := [.int (zI r43)]) rfl ?_
        refine z_iconst C dX8_addWalker_66 ?_
        refine z_isub C dX8_addWalker_67 rfl ?_
        exact x_iret C R dX8_addWalker_68 (Nat.le_of_ble_eq_true rfl) (Nat.le_of_ble_eq_true rfl) (⟨_, rfl, ⟨by (unfold t_addWalker; (repeat split) <;> omega), by omega, ⟨ld, wy, sp, sl, wl, wp, ch, dr, nS, nW + 1, nD, nL, nV, nC, xs, apn ys nW a18, so, sc, En, S, T, hnC, hO, hL, hY, hSp, hSl, hWl, hWp, hCh, hDr, hSt, hWk.add (σ' := n_addWalker σ p c) hWn (by (show wr (σ 13) _ c nW = _; rw [e12, wr_at])) (by (show wr (σ 14) _ p nW = _; rw [e12, wr_at])) (by (show wr (σ 15) _ (-1) nW = _; rw [e12, wr_at])) (by (show wr (σ 16) _ (-1) nW = _; rw [e12, wr_at])) hJw.1 (hIw.2.2.1 (by omega)).1 (hIw.2.2.1 (by omega)).2 (fun s hs => ⟨(hJw.2 s hs).2.2, (hJw.2 s hs).2.1⟩) (fun v hv => ⟨by (show wr (σ 13) _ c v = _; exact wr_ne (by omega)), by (show wr (σ 14) _ p v = _; exact wr_ne (by omega)), by (show wr (σ 15) _ (-1) v = _; exact wr_ne (by omega)), by (show wr (σ 16) _ (-1) v = _; exact wr_ne (by omega)), rfl⟩) rfl rfl (fun v hv => apn_ne (by omega)) apn_at, ⟨n7, by (show wr (σ 12) 0 (σ 12 0 + 1) 0 = _; rw [wr_at, n12]; rfl), n6, n11, n18, n7r, by omega, n18r⟩, hIc.more (Int.le_refl _) (by (show _ ≤ wr (σ 12) 0 (σ 12 0 + 1) 0; rw [wr_at]; omega)) rfl rfl rfl⟩⟩, hFr⟩)
      · exact x_throw (En := "java/lang/IllegalStateException") (names := ["java/lang/RuntimeException", "java/lang/Exception"]) C R hT dX8_addWalker_34 dX8_addWalker_37 dX8_addWalker_38 dX8_addWalker_41 (by decide +kernel) (by decide +kernel) (by decide +kernel) (by decide +kernel) (by decide +kernel) (by decide +kernel) (by decide +kernel) (Nat.le_of_ble_eq_true rfl) (Nat.le_of_ble_eq_true rfl) (Nat.le_of_ble_eq_true rfl) (Nat.le_of_ble_eq_true rfl) (Or.inr (Or.inr ⟨rfl, by (unfold t_addWalker; (repeat split) <;> omega)⟩)) (Nat.le_of_ble_eq_true rfl) (Nat.le_of_ble_eq_true rfl)
    · exact x_throw (En := "java/lang/IllegalArgumentException") (names := ["java/lang/RuntimeException", "java/lang/Exception"]) C R hT dX8_addWalker_14 dX8_addWalker_17 dX8_addWalker_18 dX8_addWalker_21 (by decide +kernel) (by decide +kernel) (by decide +kernel) (by decide +kernel) (by decide +kernel) (by decide +kernel) (by decide +kernel) (Nat.le_of_ble_eq_true rfl) (Nat.le_of_ble_eq_true rfl) (Nat.le_of_ble_eq_true rfl) (Nat.le_of_ble_eq_true rfl) (Or.inr (Or.inl ⟨rfl, by (unfold t_addWalker; (repeat split) <;> omega)⟩)) (Nat.le_of_ble_eq_true rfl) (Nat.le_of_ble_eq_true rfl)
