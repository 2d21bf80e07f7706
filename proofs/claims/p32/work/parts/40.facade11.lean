abbrev rm_X8_tell : Room := { frames := 7, cells := 4, slots := 24, locals := 110 }
set_option maxHeartbeats 4000000 in
set_option maxRecDepth 100000 in
theorem c_X8_tell (l : Launch) (hst : l.stackTraces = false) (G : GG) (z : Nat) (μ : Mm) (a : Nat) (σ : SS) (n : Nat) (w o s : Int) (hC9 : RepC G z μ a σ n) (hI : Iv σ n) (hn5 : n < 512) (hw : -2147483648 ≤ w ∧ w < 2147483648) (ho : -2147483648 ≤ o ∧ o < 2147483648) (hs : -2147483648 ≤ s ∧ s < 2147483648) : Ct l yX8_tell wsX8_tell rm_X8_tell G z [.ref a, .int (zI w), .int (zI o), .int (zI s)] μ (rS (fun r9 μ' => (t_tell σ w o s = 0 ∧ r9 = b_tell σ o s ∧ RepC G z μ' a (n_tell σ o s) (n + 1)) ∧ Fr 0 2999 μ μ')) (fun En => (En = "java/lang/IndexOutOfBoundsException" ∧ t_tell σ w o s = 1) ∨ (En = "java/lang/IllegalArgumentException" ∧ t_tell σ w o s = 2) ∨ (En = "java/lang/IllegalStateException" ∧ t_tell σ w o s = 3)) := by
  refine ct_of (cc := cX8_tell) (maxL := 6) (ret := (some .int)) (own := RX8) (by decide) rfl rfl hst (Nat.le_of_ble_eq_true rfl) ?_
  intro E hLl hnm C R hT
  have in_X8 : ∀ w ∈ u_ws RX8 TX8 10, w ∈ wsX8_tell := by decide +kernel
  have hC8 := hC9
  obtain ⟨ld, wy, sp, sl, wl, wp, ch, dr, nS, nW, nD, nL, nV, nC, xs, ys, so, sc, En, S, T, hnC, hX9⟩ := hC9
  have hX8 := hX9
  obtain ⟨hO, hL, hY, hSp, hSl, hWl, hWp, hCh, hDr, hSt, hWk, ⟨n7, n12, n6, n11, n18, n7r, n12r, n18r⟩, hIc⟩ := hX9
  have hnL := hSp.le
  have hnD := hDr.le
  have hFr : Fr 0 2999 μ μ := Fr.rf
  refine x_eq (lv' := [(0, .ref a), (1, .int (zI w)), (2, .int (zI o)), (3, .int (zI s))]) rfl rfl ?_
  refine x_aload_n C dX8_tell_0 rfl 0 rfl ?_
  refine x_iload_n C dX8_tell_1 rfl 1 rfl ?_
  refine x_callV (n := 1) (ci := 9) (Cn := RX8) (T := TX8) (N := 10) (cc9 := 1) (ss9 := 6) (rest := []) C dX8_tell_2 (c_X8_requireWalker (kxL E) C.st G z μ _ _ _ _ _ _ _ _ _ _ _ _ _ _ _ _ _ _ _ _ _ _ _ w hX8 (by omega)) gX8_tell_X8_requireWalker rfl (by decide +kernel) ⟨(Nat.le_of_ble_eq_true rfl), (Nat.le_of_ble_eq_true rfl)⟩ rfl ⟨_, _, hO⟩ rfl rfl (Nat.le_of_ble_eq_true rfl) rfl rfl ⟨(Nat.le_of_ble_eq_true rfl), (Nat.le_of_ble_eq_true rfl)⟩ (fun En hEn => x_out C R hT (Or.inl ⟨hEn.1, by unfold t_tell; rw [if_neg (fun q => hEn.2 q.1)]⟩) (Nat.le_of_ble_eq_true rfl) (Nat.le_of_ble_eq_true rfl)) (fun v1 μ2 hv3 => ?_)
  obtain ⟨r4, hw7, h5, hm6⟩ := hv3
  subst hw7
  rw [hm6]
  obtain ⟨i9, hi9, hi8, hr9⟩ := h5
  have hWa := hWk i9 (by omega) hi8
  rw [← hr9] at hWa
  have hWab := hWa.rg
  refine x_stk (stk' := [.ref r4]) rfl ?_
  refine x_astore (lv' := [(4, .ref r4), (0, .ref a), (1, .int (zI w)), (2, .int (zI o)), (3, .int (zI s))]) C dX8_tell_5 (by decide) rfl ?_
  refine x_aload_n C dX8_tell_7 rfl 1 rfl ?_
  refine x_iload_n C dX8_tell_8 rfl 3 rfl ?_
  refine x_callV (n := 1) (ci := 9) (Cn := RX8) (T := TX8) (N := 10) (cc9 := 2) (ss9 := 12) (rest := []) C dX8_tell_9 (c_X8_requireWalker (kxL E) C.st G z μ _ _ _ _ _ _ _ _ _ _ _ _ _ _ _ _ _ _ _ _ _ _ _ o hX8 (by omega)) gX8_tell_X8_requireWalker rfl (by decide +kernel) ⟨(Nat.le_of_ble_eq_true rfl), (Nat.le_of_ble_eq_true rfl)⟩ rfl ⟨_, _, hO⟩ rfl rfl (Nat.le_of_ble_eq_true rfl) rfl rfl ⟨(Nat.le_of_ble_eq_true rfl), (Nat.le_of_ble_eq_true rfl)⟩ (fun En hEn => x_out C R hT (Or.inl ⟨hEn.1, by unfold t_tell; rw [if_neg (fun q => hEn.2 q.2.1)]⟩) (Nat.le_of_ble_eq_true rfl) (Nat.le_of_ble_eq_true rfl)) (fun v8 μ9 hv10 => ?_)
  obtain ⟨r11, hw14, h12, hm13⟩ := hv10
  subst hw14
  rw [hm13]
  obtain ⟨j9, hj9, hj8, hrj⟩ := h12
  have hWo := hWk j9 (by omega) hj8
  rw [← hrj] at hWo
  have hWob := hWo.rg
  refine x_stk (stk' := [.ref r11]) rfl ?_
  refine x_astore (lv' := [(5, .ref r11), (4, .ref r4), (0, .ref a), (1, .int (zI w)), (2, .int (zI o)), (3, .int (zI s))]) C dX8_tell_12 (by decide) rfl ?_
  refine x_aload_n C dX8_tell_14 rfl 2 rfl ?_
  refine x_iload_n C dX8_tell_15 rfl 5 rfl ?_
  refine x_callV (n := 1) (ci := 9) (Cn := RX8) (T := TX8) (N := 10) (cc9 := 3) (ss9 := 18) (rest := []) C dX8_tell_16 (c_X8_requireStage (kxL E) C.st G z μ _ _ _ _ _ _ _ _ _ _ _ _ _ _ _ _ _ _ _ _ _ _ _ s hX8 (by omega)) gX8_tell_X8_requireStage rfl (by decide +kernel) ⟨(Nat.le_of_ble_eq_true rfl), (Nat.le_of_ble_eq_true rfl)⟩ rfl ⟨_, _, hO⟩ rfl rfl (Nat.le_of_ble_eq_true rfl) rfl rfl ⟨(Nat.le_of_ble_eq_true rfl), (Nat.le_of_ble_eq_true rfl)⟩ (fun En hEn => x_out C R hT (Or.inl ⟨hEn.1, by unfold t_tell; rw [if_neg (fun q => hEn.2 q.2.2)]⟩) (Nat.le_of_ble_eq_true rfl) (Nat.le_of_ble_eq_true rfl)) (fun v15 μ16 hv17 => ?_)
  obtain ⟨r18, hw21, h19, hm20⟩ := hv17
  subst hw21
  rw [hm20]
  obtain ⟨s9, hs9, hs8, hrs⟩ := h19
  have ew : w.toNat = i9 := by omega
  have eo : o.toNat = j9 := by omega
  have es : s.toNat = s9 := by omega
  have hb1 := hIc.bit (w := i9) (by omega) (s := s9) (by omega)
  have hb2 := hIc.bit (w := j9) (by omega) (s := s9) (by omega)
  have ht1 : 0 ≤ σ 21 (6 * j9 + s9) ∧ σ 21 (6 * j9 + s9) ≤ 1 := hI 21 (by decide) _ (by show _ < 36; omega)
  have hn512 : nC < 512 := by omega
  refine x_stk (stk' := [.ref r18]) rfl ?_
  refine x_pop C dX8_tell_19 rfl ?_
  refine x_iload_n C dX8_tell_20 rfl 3 rfl ?_
  refine x_iload_n C dX8_tell_21 rfl 4 rfl ?_
  refine z_icmp_ne (tgt := 33) C dX8_tell_22 (by decide) (rg_of (by omega) (by omega)) (rg_of (by omega) (by omega)) (fun c_22 => ?_) (fun c_22 => ?_)
  · refine x_aload C dX8_tell_33 1 rfl ?_
    refine x_iload_n C dX8_tell_35 rfl 5 rfl ?_
    refine x_callV (n := 1) (ci := 7) (Cn := RX6) (T := TX6) (N := 9) (cc9 := 3) (ss9 := 18) (rest := []) C dX8_tell_36 (c_X6_hasSolved (kxL E) C.st G z μ _ _ _ _ _ _ _ _ _ _ _ s hWa (by omega)) gX8_tell_X6_hasSolved rfl (by decide +kernel) ⟨(Nat.le_of_ble_eq_true rfl), (Nat.le_of_ble_eq_true rfl)⟩ rfl hWa.ob rfl rfl (Nat.le_of_ble_eq_true rfl) rfl rfl ⟨(Nat.le_of_ble_eq_true rfl), (Nat.le_of_ble_eq_true rfl)⟩ nX_no (fun v23 μ24 hv25 => ?_)
    obtain ⟨r26, hw29, h27, hm28⟩ := hv25
    subst hw29
    rw [hm28]
    have hx1 := h27
    refine x_stk (stk' := [.int (zI r26)]) rfl ?_
    refine z_if_eq (tgt := 77) C dX8_tell_39 (by decide) (rg_of (by omega) (by omega)) (fun c_30 => ?_) (fun c_30 => ?_)
    · exact x_throw (En := "java/lang/IllegalStateException") (names := ["java/lang/RuntimeException", "java/lang/Exception"]) C R hT dX8_tell_77 dX8_tell_80 dX8_tell_81 dX8_tell_84 (by decide +kernel) (by decide +kernel) (by decide +kernel) (by decide +kernel) (by decide +kernel) (by decide +kernel) (by decide +kernel) (Nat.le_of_ble_eq_true rfl) (Nat.le_of_ble_eq_true rfl) (Nat.le_of_ble_eq_true rfl) (Nat.le_of_ble_eq_true rfl) (Or.inr (Or.inr ⟨rfl, by (unfold t_tell; rw [ew, eo, es, if_pos (by omega), if_neg (by omega), if_neg (fun q => by (have q1 := q.1; have q2 := q.2.1; have q3 := q.2.2.1; have q4 := q.2.2.2; rw [hb1] at q1; rw [hb2] at q3; split at q1 <;> split at q3 <;> omega))])⟩)) (Nat.le_of_ble_eq_true rfl) (Nat.le_of_ble_eq_true rfl)
    · refine x_aload C dX8_tell_42 1 rfl ?_
      refine x_callV (n := 0) (ci := 7) (Cn := RX6) (T := TX6) (N := 9) (cc9 := 3) (ss9 := 18) (rest := []) C dX8_tell_44 (c_X6_standsAt (kxL E) C.st G z μ _ _ _ _ _ _ _ _ _ _ _  hWa ) gX8_tell_X6_standsAt rfl (by decide +kernel) ⟨(Nat.le_of_ble_eq_true rfl), (Nat.le_of_ble_eq_true rfl)⟩ rfl hWa.ob rfl rfl (Nat.le_of_ble_eq_true rfl) rfl rfl ⟨(Nat.le_of_ble_eq_true rfl), (Nat.le_of_ble_eq_true rfl)⟩ nX_no (fun v31 μ32 hv33 => ?_)
      obtain ⟨r34, hw37, h35, hm36⟩ := hv33
      subst hw37
      rw [hm36]
      have hx2 := h35
      refine x_stk (stk' := [.int (zI r34)]) rfl ?_
      refine x_aload C dX8_tell_47 0 rfl ?_
      refine x_callV (n := 0) (ci := 7) (Cn := RX6) (T := TX6) (N := 9) (cc9 := 3) (ss9 := 18) (rest := [.int (zI r34)]) C dX8_tell_49 (c_X6_standsAt (kxL E) C.st G z μ _ _ _ _ _ _ _ _ _ _ _  hWo ) gX8_tell_X6_standsAt rfl (by decide +kernel) ⟨(Nat.le_of_ble_eq_true rfl), (Nat.le_of_ble_eq_true rfl)⟩ rfl hWo.ob rfl rfl (Nat.le_of_ble_eq_true rfl) rfl rfl ⟨(Nat.le_of_ble_eq_true rfl), (Nat.le_of_ble_eq_true rfl)⟩ nX_no (fun v38 μ39 hv40 => ?_)
      obtain ⟨r41, hw44, h42, hm43⟩ := hv40
      subst hw44
      rw [hm43]
      have hx3 := h42
      refine x_stk (stk' := [.int (zI r41), .int (zI r34)]) rfl ?_
      refine x_callS (n := 2) (cc9 := 3) (ss9 := 18) (rest := []) C dX8_tell_52 (c_X3_distance (kxL E) C.st G z μ r34 r41 (by omega) (by omega)) gX8_tell_X3_distance rfl (by decide +kernel) ⟨(Nat.le_of_ble_eq_true rfl), (Nat.le_of_ble_eq_true rfl)⟩ rfl rfl (Nat.le_of_ble_eq_true rfl) rfl rfl ⟨(Nat.le_of_ble_eq_true rfl), (Nat.le_of_ble_eq_true rfl)⟩ nX_no (fun v45 μ46 hv47 => ?_)
      obtain ⟨r48, hw51, h49, hm50⟩ := hv47
      subst hw51
      rw [hm50]
      rw [hx2, hx3] at h49
      have hx4 := h49
      have hx5 := dst_rg (p := σ 14 i9) (q := σ 14 j9) (by omega) (by omega)
      refine x_stk (stk' := [.int (zI r48)]) rfl ?_
      refine z_iconst C dX8_tell_55 ?_
      refine z_icmp_gt (tgt := 77) C dX8_tell_56 (by decide) (rg_of (by omega) (by omega)) (rg_of (by omega) (by omega)) (fun c_52 => ?_) (fun c_52 => ?_)
      · exact x_throw (En := "java/lang/IllegalStateException") (names := ["java/lang/RuntimeException", "java/lang/Exception"]) C R hT dX8_tell_77 dX8_tell_80 dX8_tell_81 dX8_tell_84 (by decide +kernel) (by decide +kernel) (by decide +kernel) (by decide +kernel) (by decide +kernel) (by decide +kernel) (by decide +kernel) (Nat.le_of_ble_eq_true rfl) (Nat.le_of_ble_eq_true rfl) (Nat.le_of_ble_eq_true rfl) (Nat.le_of_ble_eq_true rfl) (Or.inr (Or.inr ⟨rfl, by (unfold t_tell; rw [ew, eo, es, if_pos (by omega), if_neg (by omega), if_neg (fun q => by (have q1 := q.1; have q2 := q.2.1; have q3 := q.2.2.1; have q4 := q.2.2.2; rw [hb1] at q1; rw [hb2] at q3; split at q1 <;> split at q3 <;> omega))])⟩)) (Nat.le_of_ble_eq_true rfl) (Nat.le_of_ble_eq_true rfl)
      · refine x_aload C dX8_tell_59 0 rfl ?_
        refine x_iload_n C dX8_tell_61 rfl 5 rfl ?_
        refine x_callV (n := 1) (ci := 7) (Cn := RX6) (T := TX6) (N := 9) (cc9 := 3) (ss9 := 18) (rest := []) C dX8_tell_62 (c_X6_hasSolved (kxL E) C.st G z μ _ _ _ _ _ _ _ _ _ _ _ s hWo (by omega)) gX8_tell_X6_hasSolved rfl (by decide +kernel) ⟨(Nat.le_of_ble_eq_true rfl), (Nat.le_of_ble_eq_true rfl)⟩ rfl hWo.ob rfl rfl (Nat.le_of_ble_eq_true rfl) rfl rfl ⟨(Nat.le_of_ble_eq_true rfl), (Nat.le_of_ble_eq_true rfl)⟩ nX_no (fun v53 μ54 hv55 => ?_)
        obtain ⟨r56, hw59, h57, hm58⟩ := hv55
        subst hw59
        rw [hm58]
        have hx6 := h57
        refine x_stk (stk' := [.int (zI r56)]) rfl ?_
        refine z_if_ne (tgt := 77) C dX8_tell_65 (by decide) (rg_of (by omega) (by omega)) (fun c_60 => ?_) (fun c_60 => ?_)
        · exact x_throw (En := "java/lang/IllegalStateException") (names := ["java/lang/RuntimeException", "java/lang/Exception"]) C R hT dX8_tell_77 dX8_tell_80 dX8_tell_81 dX8_tell_84 (by decide +kernel) (by decide +kernel) (by decide +kernel) (by decide +kernel) (by decide +kernel) (by decide +kernel) (by decide +kernel) (Nat.le_of_ble_eq_true rfl) (Nat.le_of_ble_eq_true rfl) (Nat.le_of_ble_eq_true rfl) (Nat.le_of_ble_eq_true rfl) (Or.inr (Or.inr ⟨rfl, by (unfold t_tell; rw [ew, eo, es, if_pos (by omega), if_neg (by omega), if_neg (fun q => by (have q1 := q.1; have q2 := q.2.1; have q3 := q.2.2.1; have q4 := q.2.2.2; rw [hb1] at q1; rw [hb2] at q3; split at q1 <;> split at q3 <;> omega))])⟩)) (Nat.le_of_ble_eq_true rfl) (Nat.le_of_ble_eq_true rfl)
        · refine x_aload C dX8_tell_68 0 rfl ?_
          refine x_iload_n C dX8_tell_70 rfl 5 rfl ?_
          refine x_callV (n := 1) (ci := 7) (Cn := RX6) (T := TX6) (N := 9) (cc9 := 3) (ss9 := 18) (rest := []) C dX8_tell_71 (c_X6_wasTold (kxL E) C.st G z μ _ _ _ _ _ _ _ _ _ _ _ s hWo (by omega)) gX8_tell_X6_wasTold rfl (by decide +kernel) ⟨(Nat.le_of_ble_eq_true rfl), (Nat.le_of_ble_eq_true rfl)⟩ rfl hWo.ob rfl rfl (Nat.le_of_ble_eq_true rfl) rfl rfl ⟨(Nat.le_of_ble_eq_true rfl), (Nat.le_of_ble_eq_true rfl)⟩ nX_no (fun v61 μ62 hv63 => ?_)
          obtain ⟨r64, hw67, h65, hm66⟩ := hv63
          subst hw67
          rw [hm66]
          rw [es] at h65
          have hx7 := h65
          refine x_stk (stk' := [.int (zI r64)]) rfl ?_
          refine z_if_eq (tgt := 85) C dX8_tell_74 (by decide) (rg_of (by omega) (by omega)) (fun c_68 => ?_) (fun c_68 => ?_)
          · refine x_aload C dX8_tell_85 0 rfl ?_
            refine x_iload_n C dX8_tell_87 rfl 5 rfl ?_
            refine x_callV (n := 1) (ci := 7) (Cn := RX6) (T := TX6) (N := 9) (cc9 := 3) (ss9 := 18) (rest := []) C dX8_tell_88 (c_X6_hear (kxL E) C.st G z μ _ _ _ _ _ _ _ _ _ _ _ s hWo (by omega)) gX8_tell_X6_hear rfl (by decide +kernel) ⟨(Nat.le_of_ble_eq_true rfl), (Nat.le_of_ble_eq_true rfl)⟩ rfl hWo.ob rfl rfl (Nat.le_of_ble_eq_true rfl) rfl rfl ⟨(Nat.le_of_ble_eq_true rfl), (Nat.le_of_ble_eq_true rfl)⟩ nX_no (fun v69 μ70 hv71 => ?_)
            obtain ⟨hw75, h73⟩ := hv71
            subst hw75
            obtain ⟨hWn, hF9⟩ := h73
            have hF76 := hF9
            have hO := hF76.ob hO
            have hL : LandR G μ70 ld (σ 0) (σ 1) := hF76.land hL
            have hY : WaysR G μ70 wy S T := hF76.ways hY
            have hSp : TextR G μ70 sp 7 nL (lw σ 0) := hF76.text hSp
            have hSl : ListR G z μ70 sl 9 nS xs := hF76.list hSl
            have hWl : ListR G z μ70 wl 11 nW ys := hF76.list hWl
            have hWp := hF76.ai hWp
            have hCh : ChronR G μ70 ch nC En := hF76.chron hCh
            have hDr : HintsR G z μ70 dr (100 + 100 * nS) nD (dq σ 0) (σ 0) := (by first | exact hF76.hints hDr | exact hF76.hintsN hDr)
            have hSt : StF G z μ70 xs 0 nS σ (σ 0) (σ 8) (σ 9) := hF76.stf hSt
            have hFr : Fr 0 2999 μ μ70 := hFr.tr hF76
            have eto : va_up (fun u => σ 21 (6 * j9 + u)) s.toNat 1 = fun u => n_tell σ o s 21 (6 * j9 + u) := by (funext u; show _ = wr (σ 21) (6 * o.toNat + s.toNat) 1 (6 * j9 + u); rw [eo, es]; by_cases e : u = s9; subst e; rw [va_up_self, wr_at]; rw [va_up_ne _ _ e]; exact Eq.symm (wr_ne (by omega)))
            rw [eto, hrj] at hWn
            have hWk : WkF G μ70 ys 0 nW (n_tell σ o s) so sc := hWk.ch (w := j9) hF9 (by omega) hWn (fun v hv hne => ⟨rfl, rfl, rfl, rfl, rfl, rfl, rfl, fun u hu => ⟨rfl, by (show wr (σ 21) (6 * o.toNat + s.toNat) 1 (6 * v + u) = _; exact wr_ne (by omega))⟩⟩)
            have hWo := hWk j9 (by omega) hj8
            rw [← hrj] at hWo
            refine x_stk (stk' := []) rfl ?_
            refine x_aload_n C dX8_tell_91 rfl 2 rfl ?_
            refine x_get (ci := 9) (Cn := RX8) (T := TX8) (N := 10) (ref := "CairnCipher") C dX8_tell_92 in_X8 rfl hO 6 (by decide) (by decide +kernel) rfl rfl ?_
            refine z_iconst C dX8_tell_95 ?_
            refine x_iload_n C dX8_tell_96 rfl 4 rfl ?_
            refine x_iload_n C dX8_tell_97 rfl 5 rfl ?_
            refine x_callV (n := 3) (ci := 1) (Cn := RX0) (T := TX0) (N := 2) (cc9 := 3) (ss9 := 18) (rest := []) C dX8_tell_98 (c_X0_write (kxL E) C.st G z μ70 _ _ _ 2 o s hCh hn512 (by omega) (by omega) (by omega)) gX8_tell_X0_write rfl (by decide +kernel) ⟨(Nat.le_of_ble_eq_true rfl), (Nat.le_of_ble_eq_true rfl)⟩ rfl hCh.ob rfl rfl (Nat.le_of_ble_eq_true rfl) rfl rfl ⟨(Nat.le_of_ble_eq_true rfl), (Nat.le_of_ble_eq_true rfl)⟩ nX_no (fun v77 μ78 hv79 => ?_)
            obtain ⟨hw83, h81⟩ := hv79
            subst hw83
            obtain ⟨hCh, hF9⟩ := h81
            have hF84 := hF9
            have hO := hF84.ob hO
            have hL : LandR G μ78 ld (σ 0) (σ 1) := hF84.land hL
            have hY : WaysR G μ78 wy S T := hF84.ways hY
            have hSp : TextR G μ78 sp 7 nL (lw σ 0) := hF84.text hSp
            have hSl : ListR G z μ78 sl 9 nS xs := hF84.list hSl
            have hWl : ListR G z μ78 wl 11 nW ys := hF84.list hWl
            have hWp := hF84.ai hWp
            have hDr : HintsR G z μ78 dr (100 + 100 * nS) nD (dq σ 0) (σ 0) := (by first | exact hF84.hints hDr | exact hF84.hintsN hDr)
            have hSt : StF G z μ78 xs 0 nS σ (σ 0) (σ 8) (σ 9) := hF84.stf hSt
            have hWk : WkF G μ78 ys 0 nW (n_tell σ o s) so sc := hF84.wkf hWk
            have hWo : WalkerR G μ78 r11 (2000 + 10 * j9) (n_tell σ o s 13 j9) (n_tell σ o s 14 j9) (n_tell σ o s 15 j9) (n_tell σ o s 16 j9) (n_tell σ o s 17 j9) (so j9) (sc j9) (fun u => n_tell σ o s 22 (6 * j9 + u)) (fun u => n_tell σ o s 21 (6 * j9 + u)) := hF84.walker hWo
            have hFr : Fr 0 2999 μ μ78 := hFr.tr hF84
            refine x_stk (stk' := []) rfl ?_
            refine x_aload C dX8_tell_101 0 rfl ?_
            refine x_iload_n C dX8_tell_103 rfl 5 rfl ?_
            refine x_callV (n := 1) (ci := 7) (Cn := RX6) (T := TX6) (N := 9) (cc9 := 3) (ss9 := 18) (rest := []) C dX8_tell_104 (c_X6_pointsOf (kxL E) C.st G z μ78 _ _ _ _ _ _ _ _ _ _ _ s hWo (by omega)) gX8_tell_X6_pointsOf rfl (by decide +kernel) ⟨(Nat.le_of_ble_eq_true rfl), (Nat.le_of_ble_eq_true rfl)⟩ rfl hWo.ob rfl rfl (Nat.le_of_ble_eq_true rfl) rfl rfl ⟨(Nat.le_of_ble_eq_true rfl), (Nat.le_of_ble_eq_true rfl)⟩ nX_no (fun v85 μ86 hv87 => ?_)
            obtain ⟨r88, hw91, h89, hm90⟩ := hv87
            subst hw91
            rw [hm90]
            have hb9 := h89
            refine x_stk (stk' := [.int (zI r88)]) rfl ?_
            exact x_iret C R dX8_tell_107 (Nat.le_of_ble_eq_true rfl) (Nat.le_of_ble_eq_true rfl) (⟨_, rfl, ⟨by (unfold t_tell; rw [ew, eo, es, if_pos (by omega), if_neg (by omega), if_pos ⟨by (rw [hb1, if_pos (by omega)]), by omega, by (rw [hb2, if_neg (by omega)]), by omega⟩]), by (unfold b_tell; rw [hb9, eo, es]; rw [show n_tell σ o s 21 (6 * j9 + s9) = 1 by (show wr (σ 21) (6 * o.toNat + s.toNat) 1 (6 * j9 + s9) = 1; rw [eo, es, wr_at])]; rfl), ⟨ld, wy, sp, sl, wl, wp, ch, dr, nS, nW, nD, nL, nV, nC + 1, xs, ys, so, sc, (wr En nC ((o * 6 + s) * 3 + 2)), S, T, by omega, hO, hL, hY, hSp, hSl, hWl, hWp, hCh, hDr, hSt, hWk, ⟨n7, n12, n6, n11, n18, n7r, n12r, n18r⟩, (by (have h77 := hIc.tell (w := j9) (s := s9) (by omega) (by omega) (by omega); unfold n_tell; rw [eo, es, hj9, hs9]; exact h77))⟩⟩, hFr⟩)
          · exact x_throw (En := "java/lang/IllegalStateException") (names := ["java/lang/RuntimeException", "java/lang/Exception"]) C R hT dX8_tell_77 dX8_tell_80 dX8_tell_81 dX8_tell_84 (by decide +kernel) (by decide +kernel) (by decide +kernel) (by decide +kernel) (by decide +kernel) (by decide +kernel) (by decide +kernel) (Nat.le_of_ble_eq_true rfl) (Nat.le_of_ble_eq_true rfl) (Nat.le_of_ble_eq_true rfl) (Nat.le_of_ble_eq_true rfl) (Or.inr (Or.inr ⟨rfl, by (unfold t_tell; rw [ew, eo, es, if_pos (by omega), if_neg (by omega), if_neg (fun q => by (have q1 := q.1; have q2 := q.2.1; have q3 := q.2.2.1; have q4 := q.2.2.2; rw [hb1] at q1; rw [hb2] at q3; split at q1 <;> split at q3 <;> omega))])⟩)) (Nat.le_of_ble_eq_true rfl) (Nat.le_of_ble_eq_true rfl)
  · exact x_throw (En := "java/lang/IllegalArgumentException") (names := ["java/lang/RuntimeException", "java/lang/Exception"]) C R hT dX8_tell_25 dX8_tell_28 dX8_tell_29 dX8_tell_32 (by decide +kernel) (by decide +kernel) (by decide +kernel) (by decide +kernel) (by decide +kernel) (by decide +kernel) (by decide +kernel) (Nat.le_of_ble_eq_true rfl) (Nat.le_of_ble_eq_true rfl) (Nat.le_of_ble_eq_true rfl) (Nat.le_of_ble_eq_true rfl) (Or.inr (Or.inl ⟨rfl, by (unfold t_tell; rw [if_pos (by omega), if_pos (by omega)])⟩)) (Nat.le_of_ble_eq_true rfl) (Nat.le_of_ble_eq_true rfl)
