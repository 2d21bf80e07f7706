abbrev rm_X8_answer : Room := { frames := 7, cells := 3, slots := 18, locals := 110 }
set_option maxHeartbeats 4000000 in
set_option maxRecDepth 100000 in
theorem c_X8_answer (l : Launch) (hst : l.stackTraces = false) (G : GG) (z : Nat) (μ : Mm) (a : Nat) (σ : SS) (n : Nat) (w s : Int) (hC9 : RepC G z μ a σ n) (hI : Iv σ n) (hn5 : n < 512) (hw : -2147483648 ≤ w ∧ w < 2147483648) (hs : -2147483648 ≤ s ∧ s < 2147483648) : Ct l yX8_answer wsX8_answer rm_X8_answer G z [.ref a, .int (zI w), .int (zI s)] μ (rS (fun r9 μ' => (t_answer σ w s = 0 ∧ r9 = isWd σ s.toNat ∧ RepC G z μ' a (n_answer σ w s) (n + 1)) ∧ Fr 0 2999 μ μ')) (fun En => (En = "java/lang/IndexOutOfBoundsException" ∧ t_answer σ w s = 1) ∨ (En = "java/lang/IllegalStateException" ∧ t_answer σ w s = 2)) := by
  refine ct_of (cc := cX8_answer) (maxL := 6) (ret := (some .boolean)) (own := RX8) (by decide) rfl rfl hst (Nat.le_of_ble_eq_true rfl) ?_
  intro E hLl hnm C R hT
  have in_X8 : ∀ w ∈ u_ws RX8 TX8 10, w ∈ wsX8_answer := by decide +kernel
  have hC8 := hC9
  obtain ⟨ld, wy, sp, sl, wl, wp, ch, dr, nS, nW, nD, nL, nV, nC, xs, ys, so, sc, En, S, T, hnC, hX9⟩ := hC9
  have hX8 := hX9
  obtain ⟨hO, hL, hY, hSp, hSl, hWl, hWp, hCh, hDr, hSt, hWk, ⟨n7, n12, n6, n11, n18, n7r, n12r, n18r⟩, hIc⟩ := hX9
  have hnL := hSp.le
  have hnD := hDr.le
  have hFr : Fr 0 2999 μ μ := Fr.rf
  refine x_eq (lv' := [(0, .ref a), (1, .int (zI w)), (2, .int (zI s))]) rfl rfl ?_
  refine x_aload_n C dX8_answer_0 rfl 0 rfl ?_
  refine x_iload_n C dX8_answer_1 rfl 1 rfl ?_
  refine x_callV (n := 1) (ci := 9) (Cn := RX8) (T := TX8) (N := 10) (cc9 := 1) (ss9 := 6) (rest := []) C dX8_answer_2 (c_X8_requireWalker (kxL E) C.st G z μ _ _ _ _ _ _ _ _ _ _ _ _ _ _ _ _ _ _ _ _ _ _ _ w hX8 (by omega)) gX8_answer_X8_requireWalker rfl (by decide +kernel) ⟨(Nat.le_of_ble_eq_true rfl), (Nat.le_of_ble_eq_true rfl)⟩ rfl ⟨_, _, hO⟩ rfl rfl (Nat.le_of_ble_eq_true rfl) rfl rfl ⟨(Nat.le_of_ble_eq_true rfl), (Nat.le_of_ble_eq_true rfl)⟩ (fun En hEn => x_out C R hT (Or.inl ⟨hEn.1, by unfold t_answer; rw [if_neg (fun q => hEn.2 q.1)]⟩) (Nat.le_of_ble_eq_true rfl) (Nat.le_of_ble_eq_true rfl)) (fun v1 μ2 hv3 => ?_)
  obtain ⟨r4, hw7, h5, hm6⟩ := hv3
  subst hw7
  rw [hm6]
  obtain ⟨i9, hi9, hi8, hr9⟩ := h5
  have hWa := hWk i9 (by omega) hi8
  rw [← hr9] at hWa
  have hWab := hWa.rg
  refine x_stk (stk' := [.ref r4]) rfl ?_
  refine x_astore_n (lv' := [(3, .ref r4), (0, .ref a), (1, .int (zI w)), (2, .int (zI s))]) C dX8_answer_5 rfl (by decide) rfl ?_
  refine x_aload_n C dX8_answer_6 rfl 1 rfl ?_
  refine x_iload_n C dX8_answer_7 rfl 3 rfl ?_
  refine x_callV (n := 1) (ci := 9) (Cn := RX8) (T := TX8) (N := 10) (cc9 := 2) (ss9 := 12) (rest := []) C dX8_answer_8 (c_X8_requireStage (kxL E) C.st G z μ _ _ _ _ _ _ _ _ _ _ _ _ _ _ _ _ _ _ _ _ _ _ _ s hX8 (by omega)) gX8_answer_X8_requireStage rfl (by decide +kernel) ⟨(Nat.le_of_ble_eq_true rfl), (Nat.le_of_ble_eq_true rfl)⟩ rfl ⟨_, _, hO⟩ rfl rfl (Nat.le_of_ble_eq_true rfl) rfl rfl ⟨(Nat.le_of_ble_eq_true rfl), (Nat.le_of_ble_eq_true rfl)⟩ (fun En hEn => x_out C R hT (Or.inl ⟨hEn.1, by unfold t_answer; rw [if_neg (fun q => hEn.2 q.2)]⟩) (Nat.le_of_ble_eq_true rfl) (Nat.le_of_ble_eq_true rfl)) (fun v8 μ9 hv10 => ?_)
  obtain ⟨r11, hw14, h12, hm13⟩ := hv10
  subst hw14
  rw [hm13]
  obtain ⟨j9, hj9, hj8, hrj⟩ := h12
  have ew : w.toNat = i9 := by omega
  have es : s.toNat = j9 := by omega
  have hb1 := hIc.bit (w := i9) (by omega) (s := j9) (by omega)
  have hso := hIc.so (w := i9) (by omega) n7 n7r
  have hn512 : nC < 512 := by omega
  obtain ⟨W9, hW9, hSg⟩ := hSt j9 (by omega) hj8
  rw [← hrj] at hSg
  have hwr9 : σ 22 (6 * i9 + s.toNat) < 1000 := by (have h77 := (hI 22 (by decide) (6 * i9 + s.toNat) (by show 6 * i9 + s.toNat < 36; omega)).2; change _ ≤ (n : Int) at h77; omega)
  have h110 := (hI 11 (by decide) (j9 + 1) (by show j9 + 1 < 7; omega)).1
  have hp8 : -1 ≤ σ 8 j9 ∧ σ 8 j9 ≤ 63 := hI 8 (by decide) j9 (by show j9 < 6; omega)
  refine x_stk (stk' := [.ref r11]) rfl ?_
  refine x_astore (lv' := [(4, .ref r11), (3, .ref r4), (0, .ref a), (1, .int (zI w)), (2, .int (zI s))]) C dX8_answer_11 (by decide) rfl ?_
  refine x_aload_n C dX8_answer_13 rfl 1 rfl ?_
  refine x_callV (n := 0) (ci := 7) (Cn := RX6) (T := TX6) (N := 9) (cc9 := 2) (ss9 := 12) (rest := []) C dX8_answer_14 (c_X6_isResting (kxL E) C.st G z μ _ _ _ _ _ _ _ _ _ _ _  hWa ) gX8_answer_X6_isResting rfl (by decide +kernel) ⟨(Nat.le_of_ble_eq_true rfl), (Nat.le_of_ble_eq_true rfl)⟩ rfl hWa.ob rfl rfl (Nat.le_of_ble_eq_true rfl) rfl rfl ⟨(Nat.le_of_ble_eq_true rfl), (Nat.le_of_ble_eq_true rfl)⟩ nX_no (fun v15 μ16 hv17 => ?_)
  obtain ⟨r18, hw21, h19, hm20⟩ := hv17
  subst hw21
  rw [hm20]
  have hx1 := h19
  refine x_stk (stk' := [.int (zI r18)]) rfl ?_
  refine z_if_eq (tgt := 40) C dX8_answer_17 (by decide) (rg_of (by omega) (by omega)) (fun c_22 => ?_) (fun c_22 => ?_)
  · exact x_throw (En := "java/lang/IllegalStateException") (names := ["java/lang/RuntimeException", "java/lang/Exception"]) C R hT dX8_answer_40 dX8_answer_43 dX8_answer_44 dX8_answer_47 (by decide +kernel) (by decide +kernel) (by decide +kernel) (by decide +kernel) (by decide +kernel) (by decide +kernel) (by decide +kernel) (Nat.le_of_ble_eq_true rfl) (Nat.le_of_ble_eq_true rfl) (Nat.le_of_ble_eq_true rfl) (Nat.le_of_ble_eq_true rfl) (Or.inr ⟨rfl, by (unfold t_answer; rw [ew, es, if_pos (by omega), if_neg (fun q => by (have q1 := q.1; have q2 := q.2.1; have q3 := q.2.2; omega))])⟩) (Nat.le_of_ble_eq_true rfl) (Nat.le_of_ble_eq_true rfl)
  · refine x_aload_n C dX8_answer_20 rfl 1 rfl ?_
    refine x_callV (n := 0) (ci := 7) (Cn := RX6) (T := TX6) (N := 9) (cc9 := 2) (ss9 := 12) (rest := []) C dX8_answer_21 (c_X6_standsAt (kxL E) C.st G z μ _ _ _ _ _ _ _ _ _ _ _  hWa ) gX8_answer_X6_standsAt rfl (by decide +kernel) ⟨(Nat.le_of_ble_eq_true rfl), (Nat.le_of_ble_eq_true rfl)⟩ rfl hWa.ob rfl rfl (Nat.le_of_ble_eq_true rfl) rfl rfl ⟨(Nat.le_of_ble_eq_true rfl), (Nat.le_of_ble_eq_true rfl)⟩ nX_no (fun v23 μ24 hv25 => ?_)
    obtain ⟨r26, hw29, h27, hm28⟩ := hv25
    subst hw29
    rw [hm28]
    have hx2 := h27
    refine x_stk (stk' := [.int (zI r26)]) rfl ?_
    refine x_aload C dX8_answer_24 0 rfl ?_
    refine x_callV (n := 0) (ci := 5) (Cn := RX4) (T := TX4) (N := 4) (cc9 := 2) (ss9 := 12) (rest := [.int (zI r26)]) C dX8_answer_26 (c_X4_standsAt (kxL E) C.st G z μ _ _ _ _ _ _ _ _ _  hSg ) gX8_answer_X4_standsAt rfl (by decide +kernel) ⟨(Nat.le_of_ble_eq_true rfl), (Nat.le_of_ble_eq_true rfl)⟩ rfl hSg.ob rfl rfl (Nat.le_of_ble_eq_true rfl) rfl rfl ⟨(Nat.le_of_ble_eq_true rfl), (Nat.le_of_ble_eq_true rfl)⟩ nX_no (fun v30 μ31 hv32 => ?_)
    obtain ⟨r33, hw36, h34, hm35⟩ := hv32
    subst hw36
    rw [hm35]
    have hx3 := h34
    refine x_stk (stk' := [.int (zI r33), .int (zI r26)]) rfl ?_
    refine z_icmp_ne (tgt := 40) C dX8_answer_29 (by decide) (rg_of (by omega) (by omega)) (rg_of (by omega) (by omega)) (fun c_37 => ?_) (fun c_37 => ?_)
    · exact x_throw (En := "java/lang/IllegalStateException") (names := ["java/lang/RuntimeException", "java/lang/Exception"]) C R hT dX8_answer_40 dX8_answer_43 dX8_answer_44 dX8_answer_47 (by decide +kernel) (by decide +kernel) (by decide +kernel) (by decide +kernel) (by decide +kernel) (by decide +kernel) (by decide +kernel) (Nat.le_of_ble_eq_true rfl) (Nat.le_of_ble_eq_true rfl) (Nat.le_of_ble_eq_true rfl) (Nat.le_of_ble_eq_true rfl) (Or.inr ⟨rfl, by (unfold t_answer; rw [ew, es, if_pos (by omega), if_neg (fun q => by (have q1 := q.1; have q2 := q.2.1; have q3 := q.2.2; omega))])⟩) (Nat.le_of_ble_eq_true rfl) (Nat.le_of_ble_eq_true rfl)
    · refine x_aload_n C dX8_answer_32 rfl 1 rfl ?_
      refine x_callV (n := 0) (ci := 7) (Cn := RX6) (T := TX6) (N := 9) (cc9 := 2) (ss9 := 12) (rest := []) C dX8_answer_33 (c_X6_solvedCount (kxL E) C.st G z μ _ _ _ _ _ _ _ _ _ _ _  hWa ) gX8_answer_X6_solvedCount rfl (by decide +kernel) ⟨(Nat.le_of_ble_eq_true rfl), (Nat.le_of_ble_eq_true rfl)⟩ rfl hWa.ob rfl rfl (Nat.le_of_ble_eq_true rfl) rfl rfl ⟨(Nat.le_of_ble_eq_true rfl), (Nat.le_of_ble_eq_true rfl)⟩ nX_no (fun v38 μ39 hv40 => ?_)
      obtain ⟨r41, hw44, h42, hm43⟩ := hv40
      subst hw44
      rw [hm43]
      have hx4 := h42
      refine x_stk (stk' := [.int (zI r41)]) rfl ?_
      refine x_iload_n C dX8_answer_36 rfl 4 rfl ?_
      refine z_icmp_eq (tgt := 48) C dX8_answer_37 (by decide) (rg_of (by omega) (by omega)) (rg_of (by omega) (by omega)) (fun c_45 => ?_) (fun c_45 => ?_)
      · refine x_aload_n C dX8_answer_48 rfl 2 rfl ?_
        refine x_get (ci := 9) (Cn := RX8) (T := TX8) (N := 10) (ref := "CairnCipher") C dX8_answer_49 in_X8 rfl hO 2 (by decide) (by decide +kernel) rfl rfl ?_
        refine x_aload C dX8_answer_52 0 rfl ?_
        refine x_callV (n := 0) (ci := 5) (Cn := RX4) (T := TX4) (N := 4) (cc9 := 2) (ss9 := 12) (rest := [.ref sp]) C dX8_answer_54 (c_X4_word (kxL E) C.st G z μ _ _ _ _ _ _ _ _ _  hSg ) gX8_answer_X4_word rfl (by decide +kernel) ⟨(Nat.le_of_ble_eq_true rfl), (Nat.le_of_ble_eq_true rfl)⟩ rfl hSg.ob rfl rfl (Nat.le_of_ble_eq_true rfl) rfl rfl ⟨(Nat.le_of_ble_eq_true rfl), (Nat.le_of_ble_eq_true rfl)⟩ nX_no (fun v46 μ47 hv48 => ?_)
        obtain ⟨r49, hw52, h50, hm51⟩ := hv48
        subst hw52
        rw [hm51]
        have hTw := h50
        refine x_stk (stk' := [.ref r49, .ref sp]) rfl ?_
        refine x_callV (n := 1) (ci := 6) (Cn := RX5) (T := TX5) (N := 2) (cc9 := 2) (ss9 := 12) (rest := []) C dX8_answer_57 (c_X5_isSameAs (kxL E) C.st G z μ _ _ _ _ _ _ _ _ hSp hTw) gX8_answer_X5_isSameAs rfl (by decide +kernel) ⟨(Nat.le_of_ble_eq_true rfl), (Nat.le_of_ble_eq_true rfl)⟩ rfl hSp.ob rfl rfl (Nat.le_of_ble_eq_true rfl) rfl rfl ⟨(Nat.le_of_ble_eq_true rfl), (Nat.le_of_ble_eq_true rfl)⟩ nX_no (fun v53 μ54 hv55 => ?_)
        obtain ⟨r56, hw59, h57, hm58⟩ := hv55
        subst hw59
        rw [hm58]
        have hwd := isWd_of n11 h110 hW9 h57
        have hwd8 := isWd_rg σ j9
        refine x_stk (stk' := [.int (zI r56)]) rfl ?_
        refine x_istore (lv' := [(5, .int (zI r56)), (4, .ref r11), (3, .ref r4), (0, .ref a), (1, .int (zI w)), (2, .int (zI s))]) C dX8_answer_60 (by decide) rfl ?_
        refine x_iload C dX8_answer_62 0 rfl ?_
        refine z_if_eq (tgt := 75) C dX8_answer_64 (by decide) (rg_of (by omega) (by omega)) (fun c_60 => ?_) (fun c_60 => ?_)
        · refine x_aload_n C dX8_answer_75 rfl 2 rfl ?_
          refine x_iload_n C dX8_answer_76 rfl 5 rfl ?_
          refine x_callV (n := 1) (ci := 7) (Cn := RX6) (T := TX6) (N := 9) (cc9 := 2) (ss9 := 12) (rest := []) C dX8_answer_77 (c_X6_countWrong (kxL E) C.st G z μ _ _ _ _ _ _ _ _ _ _ _ s hWa (by omega) hwr9) gX8_answer_X6_countWrong rfl (by decide +kernel) ⟨(Nat.le_of_ble_eq_true rfl), (Nat.le_of_ble_eq_true rfl)⟩ rfl hWa.ob rfl rfl (Nat.le_of_ble_eq_true rfl) rfl rfl ⟨(Nat.le_of_ble_eq_true rfl), (Nat.le_of_ble_eq_true rfl)⟩ nX_no (fun v61 μ62 hv63 => ?_)
          obtain ⟨hw67, h65⟩ := hv63
          subst hw67
          obtain ⟨hWn, hF9⟩ := h65
          have hF68 := hF9
          have hO := hF68.ob hO
          have hL : LandR G μ62 ld (σ 0) (σ 1) := hF68.land hL
          have hY : WaysR G μ62 wy S T := hF68.ways hY
          have hSp : TextR G μ62 sp 7 nL (lw σ 0) := hF68.text hSp
          have hSl : ListR G z μ62 sl 9 nS xs := hF68.list hSl
          have hWl : ListR G z μ62 wl 11 nW ys := hF68.list hWl
          have hWp := hF68.ai hWp
          have hCh : ChronR G μ62 ch nC En := hF68.chron hCh
          have hDr : HintsR G z μ62 dr (100 + 100 * nS) nD (dq σ 0) (σ 0) := (by first | exact hF68.hints hDr | exact hF68.hintsN hDr)
          have hSt : StF G z μ62 xs 0 nS σ (σ 0) (σ 8) (σ 9) := hF68.stf hSt
          have hFr : Fr 0 2999 μ μ62 := hFr.tr hF68
          have hd0 : isWd σ s.toNat = 0 := by (rw [es]; omega)
          have eto : va_up (fun u => σ 22 (6 * i9 + u)) s.toNat (σ 22 (6 * i9 + s.toNat) + 1) = fun u => (su σ 22 (wr (σ 22) (6 * i9 + j9) (σ 22 (6 * i9 + j9) + 1))) 22 (6 * i9 + u) := by (funext u; show _ = wr (σ 22) (6 * i9 + j9) _ (6 * i9 + u); rw [es]; by_cases e : u = j9; subst e; rw [va_up_self, wr_at]; rw [va_up_ne _ _ e]; exact Eq.symm (wr_ne (by omega)))
          rw [eto, hr9] at hWn
          have hWk : WkF G μ62 ys 0 nW (su σ 22 (wr (σ 22) (6 * i9 + j9) (σ 22 (6 * i9 + j9) + 1))) so sc := hWk.ch (w := i9) hF9 (by omega) hWn (fun v hv hne => ⟨rfl, rfl, rfl, rfl, rfl, rfl, rfl, fun u hu => ⟨by (show wr (σ 22) (6 * i9 + j9) _ (6 * v + u) = _; exact wr_ne (by omega)), rfl⟩⟩)
          refine x_stk (stk' := []) rfl ?_
          refine x_aload_n C dX8_answer_80 rfl 3 rfl ?_
          refine x_get (ci := 9) (Cn := RX8) (T := TX8) (N := 10) (ref := "CairnCipher") C dX8_answer_81 in_X8 rfl hO 6 (by decide) (by decide +kernel) rfl rfl ?_
          refine x_iload C dX8_answer_84 0 rfl ?_
          refine z_if_eq (tgt := 93) C dX8_answer_86 (by decide) (rg_of (by omega) (by omega)) (fun c_69 => ?_) (fun c_69 => ?_)
          · refine z_iconst C dX8_answer_93 ?_
            refine x_iload_n C dX8_answer_94 rfl 4 rfl ?_
            refine x_iload_n C dX8_answer_95 rfl 5 rfl ?_
            refine x_callV (n := 3) (ci := 1) (Cn := RX0) (T := TX0) (N := 2) (cc9 := 2) (ss9 := 12) (rest := []) C dX8_answer_96 (c_X0_write (kxL E) C.st G z μ62 _ _ _ 1 w s hCh hn512 (by omega) (by omega) (by omega)) gX8_answer_X0_write rfl (by decide +kernel) ⟨(Nat.le_of_ble_eq_true rfl), (Nat.le_of_ble_eq_true rfl)⟩ rfl hCh.ob rfl rfl (Nat.le_of_ble_eq_true rfl) rfl rfl ⟨(Nat.le_of_ble_eq_true rfl), (Nat.le_of_ble_eq_true rfl)⟩ nX_no (fun v70 μ71 hv72 => ?_)
            obtain ⟨hw76, h74⟩ := hv72
            subst hw76
            obtain ⟨hCh, hF9⟩ := h74
            have hF77 := hF9
            have hO := hF77.ob hO
            have hL : LandR G μ71 ld (σ 0) (σ 1) := hF77.land hL
            have hY : WaysR G μ71 wy S T := hF77.ways hY
            have hSp : TextR G μ71 sp 7 nL (lw σ 0) := hF77.text hSp
            have hSl : ListR G z μ71 sl 9 nS xs := hF77.list hSl
            have hWl : ListR G z μ71 wl 11 nW ys := hF77.list hWl
            have hWp := hF77.ai hWp
            have hDr : HintsR G z μ71 dr (100 + 100 * nS) nD (dq σ 0) (σ 0) := (by first | exact hF77.hints hDr | exact hF77.hintsN hDr)
            have hSt : StF G z μ71 xs 0 nS σ (σ 0) (σ 8) (σ 9) := hF77.stf hSt
            have hWk : WkF G μ71 ys 0 nW (su σ 22 (wr (σ 22) (6 * i9 + j9) (σ 22 (6 * i9 + j9) + 1))) so sc := hF77.wkf hWk
            have hFr : Fr 0 2999 μ μ71 := hFr.tr hF77
            refine x_stk (stk' := []) rfl ?_
            refine x_iload C dX8_answer_99 0 rfl ?_
            exact x_zret C R dX8_answer_101 (nar_z (by omega)) (Nat.le_of_ble_eq_true rfl) (Nat.le_of_ble_eq_true rfl) (⟨_, rfl, ⟨by (unfold t_answer; rw [ew, es, if_pos (by omega), if_pos ⟨by omega, by omega, by omega⟩]), by omega, by (rw [nans_w hd0 (by (rw [ew, es, hb1, if_neg (by omega)])), ew, es]; exact ⟨ld, wy, sp, sl, wl, wp, ch, dr, nS, nW, nD, nL, nV, nC + 1, xs, ys, so, sc, (wr En nC ((w * 6 + s) * 3 + 1)), S, T, by omega, hO, hL, hY, hSp, hSl, hWl, hWp, hCh, hDr, hSt, hWk, ⟨n7, n12, n6, n11, n18, n7r, n12r, n18r⟩, (by (have h77 := hIc.wrong (w := i9) (s := j9) (by omega) (by omega) (by omega); rw [hi9, hj9]; exact h77))⟩)⟩, hFr⟩)
          · exfalso; omega
        · refine x_aload_n C dX8_answer_67 rfl 2 rfl ?_
          refine x_iload_n C dX8_answer_68 rfl 5 rfl ?_
          refine x_callV (n := 1) (ci := 7) (Cn := RX6) (T := TX6) (N := 9) (cc9 := 2) (ss9 := 12) (rest := []) C dX8_answer_69 (c_X6_solve (kxL E) C.st G z μ _ _ _ _ _ _ _ _ _ _ _ s hWa (by omega) (by omega)) gX8_answer_X6_solve rfl (by decide +kernel) ⟨(Nat.le_of_ble_eq_true rfl), (Nat.le_of_ble_eq_true rfl)⟩ rfl hWa.ob rfl rfl (Nat.le_of_ble_eq_true rfl) rfl rfl ⟨(Nat.le_of_ble_eq_true rfl), (Nat.le_of_ble_eq_true rfl)⟩ nX_no (fun v78 μ79 hv80 => ?_)
          obtain ⟨hw84, h82⟩ := hv80
          subst hw84
          obtain ⟨hWn, hF9⟩ := h82
          have hF85 := hF9
          have hO := hF85.ob hO
          have hL : LandR G μ79 ld (σ 0) (σ 1) := hF85.land hL
          have hY : WaysR G μ79 wy S T := hF85.ways hY
          have hSp : TextR G μ79 sp 7 nL (lw σ 0) := hF85.text hSp
          have hSl : ListR G z μ79 sl 9 nS xs := hF85.list hSl
          have hWl : ListR G z μ79 wl 11 nW ys := hF85.list hWl
          have hWp := hF85.ai hWp
          have hCh : ChronR G μ79 ch nC En := hF85.chron hCh
          have hDr : HintsR G z μ79 dr (100 + 100 * nS) nD (dq σ 0) (σ 0) := (by first | exact hF85.hints hDr | exact hF85.hintsN hDr)
          have hSt : StF G z μ79 xs 0 nS σ (σ 0) (σ 8) (σ 9) := hF85.stf hSt
          have hFr : Fr 0 2999 μ μ79 := hFr.tr hF85
          have hd1 : isWd σ s.toNat = 1 := by (rw [es]; omega)
          rw [hr9, es] at hWn
          have hWk : WkF G μ79 ys 0 nW (su σ 20 (wr (σ 20) (6 * i9 + j9) 1)) (wr so i9 (so i9 + 1)) (wr sc i9 (sc i9 + pts (σ 22 (6 * i9 + j9)) (σ 21 (6 * i9 + j9)))) := hWk.ch (w := i9) hF9 (by omega) (by (rw [wr_at, wr_at]; exact hWn)) (fun v hv hne => ⟨rfl, rfl, rfl, rfl, rfl, wr_ne hne, wr_ne hne, fun u hu => ⟨rfl, rfl⟩⟩)
          refine x_stk (stk' := []) rfl ?_
          refine x_goto (tgt := 80) C dX8_answer_72 (by decide) ?_
          refine x_aload_n C dX8_answer_80 rfl 3 rfl ?_
          refine x_get (ci := 9) (Cn := RX8) (T := TX8) (N := 10) (ref := "CairnCipher") C dX8_answer_81 in_X8 rfl hO 6 (by decide) (by decide +kernel) rfl rfl ?_
          refine x_iload C dX8_answer_84 0 rfl ?_
          refine z_if_eq (tgt := 93) C dX8_answer_86 (by decide) (rg_of (by omega) (by omega)) (fun c_86 => ?_) (fun c_86 => ?_)
          · exfalso; omega
          · refine z_iconst C dX8_answer_89 ?_
            refine x_goto (tgt := 94) C dX8_answer_90 (by decide) ?_
            refine x_iload_n C dX8_answer_94 rfl 4 rfl ?_
            refine x_iload_n C dX8_answer_95 rfl 5 rfl ?_
            refine x_callV (n := 3) (ci := 1) (Cn := RX0) (T := TX0) (N := 2) (cc9 := 2) (ss9 := 12) (rest := []) C dX8_answer_96 (c_X0_write (kxL E) C.st G z μ79 _ _ _ 0 w s hCh hn512 (by omega) (by omega) (by omega)) gX8_answer_X0_write rfl (by decide +kernel) ⟨(Nat.le_of_ble_eq_true rfl), (Nat.le_of_ble_eq_true rfl)⟩ rfl hCh.ob rfl rfl (Nat.le_of_ble_eq_true rfl) rfl rfl ⟨(Nat.le_of_ble_eq_true rfl), (Nat.le_of_ble_eq_true rfl)⟩ nX_no (fun v87 μ88 hv89 => ?_)
            obtain ⟨hw93, h91⟩ := hv89
            subst hw93
            obtain ⟨hCh, hF9⟩ := h91
            have hF94 := hF9
            have hO := hF94.ob hO
            have hL : LandR G μ88 ld (σ 0) (σ 1) := hF94.land hL
            have hY : WaysR G μ88 wy S T := hF94.ways hY
            have hSp : TextR G μ88 sp 7 nL (lw σ 0) := hF94.text hSp
            have hSl : ListR G z μ88 sl 9 nS xs := hF94.list hSl
            have hWl : ListR G z μ88 wl 11 nW ys := hF94.list hWl
            have hWp := hF94.ai hWp
            have hDr : HintsR G z μ88 dr (100 + 100 * nS) nD (dq σ 0) (σ 0) := (by first | exact hF94.hints hDr | exact hF94.hintsN hDr)
            have hSt : StF G z μ88 xs 0 nS σ (σ 0) (σ 8) (σ 9) := hF94.stf hSt
            have hWk : WkF G μ88 ys 0 nW (su σ 20 (wr (σ 20) (6 * i9 + j9) 1)) (wr so i9 (so i9 + 1)) (wr sc i9 (sc i9 + pts (σ 22 (6 * i9 + j9)) (σ 21 (6 * i9 + j9)))) := hF94.wkf hWk
            have hFr : Fr 0 2999 μ μ88 := hFr.tr hF94
            refine x_stk (stk' := []) rfl ?_
            refine x_iload C dX8_answer_99 0 rfl ?_
            exact x_zret C R dX8_answer_101 (nar_z (by omega)) (Nat.le_of_ble_eq_true rfl) (Nat.le_of_ble_eq_true rfl) (⟨_, rfl, ⟨by (unfold t_answer; rw [ew, es, if_pos (by omega), if_pos ⟨by omega, by omega, by omega⟩]), by omega, by (rw [nans_r hd1, ew, es]; exact ⟨ld, wy, sp, sl, wl, wp, ch, dr, nS, nW, nD, nL, nV, nC + 1, xs, ys, wr so i9 (so i9 + 1), wr sc i9 (sc i9 + pts (σ 22 (6 * i9 + j9)) (σ 21 (6 * i9 + j9))), (wr En nC ((w * 6 + s) * 3 + 0)), S, T, by omega, hO, hL, hY, hSp, hSl, hWl, hWp, hCh, hDr, hSt, hWk, ⟨n7, n12, n6, n11, n18, n7r, n12r, n18r⟩, (by (have h77 := hIc.right (w := i9) (s := j9) (by omega) (by omega) (by omega) (by omega) (by omega); rw [hi9, hj9]; exact h77))⟩)⟩, hFr⟩)
      · exact x_throw (En := "java/lang/IllegalStateException") (names := ["java/lang/RuntimeException", "java/lang/Exception"]) C R hT dX8_answer_40 dX8_answer_43 dX8_answer_44 dX8_answer_47 (by decide +kernel) (by decide +kernel) (by decide +kernel) (by decide +kernel) (by decide +kernel) (by decide +kernel) (by decide +kernel) (Nat.le_of_ble_eq_true rfl) (Nat.le_of_ble_eq_true rfl) (Nat.le_of_ble_eq_true rfl) (Nat.le_of_ble_eq_true rfl) (Or.inr ⟨rfl, by (unfold t_answer; rw [ew, es, if_pos (by omega), if_neg (fun q => by (have q1 := q.1; have q2 := q.2.1; have q3 := q.2.2; omega))])⟩) (Nat.le_of_ble_eq_true rfl) (Nat.le_of_ble_eq_true rfl)
