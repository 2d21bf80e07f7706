abbrev rm_X8_cipherLength : Room := { frames := 7, cells := 2, slots := 12, locals := 110 }
set_option maxHeartbeats 4000000 in
set_option maxRecDepth 100000 in
theorem c_X8_cipherLength (l : Launch) (hst : l.stackTraces = false) (G : GG) (z : Nat) (μ : Mm) (a : Nat) (σ : SS) (n : Nat) (k : Int) (hC9 : RepC G z μ a σ n) (hI : Iv σ n) (hJ : Jv σ) (hk : -2147483648 ≤ k ∧ k < 2147483648) : Ct l yX8_cipherLength wsX8_cipherLength rm_X8_cipherLength G z [.ref a, .int (zI k)] μ (rP μ (fun r9 => t_cipher σ k = 0 ∧ r9 = clen σ k)) (fun En => (En = "java/lang/IndexOutOfBoundsException" ∧ t_cipher σ k = 1) ∨ (En = "java/util/NoSuchElementException" ∧ t_cipher σ k = 2)) := by
  refine ct_of (cc := cX8_cipherLength) (maxL := 5) (ret := (some .int)) (own := RX8) (by decide) rfl rfl hst (Nat.le_of_ble_eq_true rfl) ?_
  intro E hLl hnm C R hT
  have hC8 := hC9
  obtain ⟨ld, wy, sp, sl, wl, wp, ch, dr, nS, nW, nD, nL, nV, nC, xs, ys, so, sc, En, S, T, hnC, hX9⟩ := hC9
  have hX8 := hX9
  obtain ⟨hO, hL, hY, hSp, hSl, hWl, hWp, hCh, hDr, hSt, hWk, ⟨n7, n12, n6, n11, n18, n7r, n12r, n18r⟩, hIc⟩ := hX9
  have hnL := hSp.le
  have hnD := hDr.le
  refine x_eq (lv' := [(0, .ref a), (1, .int (zI k))]) rfl rfl ?_
  refine x_aload_n C dX8_cipherLength_0 rfl 0 rfl ?_
  refine x_iload_n C dX8_cipherLength_1 rfl 1 rfl ?_
  refine x_callV (n := 1) (ci := 9) (Cn := RX8) (T := TX8) (N := 10) (cc9 := 1) (ss9 := 6) (rest := []) C dX8_cipherLength_2 (c_X8_requireStage (kxL E) C.st G z μ _ _ _ _ _ _ _ _ _ _ _ _ _ _ _ _ _ _ _ _ _ _ _ k hX8 (by omega)) gX8_cipherLength_X8_requireStage rfl (by decide +kernel) ⟨(Nat.le_of_ble_eq_true rfl), (Nat.le_of_ble_eq_true rfl)⟩ rfl ⟨_, _, hO⟩ rfl rfl (Nat.le_of_ble_eq_true rfl) rfl rfl ⟨(Nat.le_of_ble_eq_true rfl), (Nat.le_of_ble_eq_true rfl)⟩ (fun En hEn => x_out C R hT (Or.inl ⟨hEn.1, by (unfold t_cipher; rw [if_neg hEn.2])⟩) (Nat.le_of_ble_eq_true rfl) (Nat.le_of_ble_eq_true rfl)) (fun v1 μ2 hv3 => ?_)
  obtain ⟨r4, hw7, h5, hm6⟩ := hv3
  subst hw7
  rw [hm6]
  obtain ⟨i9, hi9, hi8, hr9⟩ := h5
  have ek : k.toNat = i9 := by omega
  obtain ⟨W9, hW9, hSg⟩ := hSt i9 (by omega) hi8
  rw [← hr9] at hSg
  have hm5 : 1 ≤ ln σ (i9 + 1) ∧ ln σ (i9 + 1) ≤ 5 := by (have := hJ.2.2.1 i9 (by omega); have := (hI 11 (by decide) (i9 + 1) (by show i9 + 1 < 7; omega)).2; change _ ≤ (5 : Int) at this; unfold ln; omega)
  have hp8 : -1 ≤ σ 8 i9 ∧ σ 8 i9 ≤ 63 := hI 8 (by decide) i9 (by show i9 < 6; omega)
  refine x_stk (stk' := [.ref r4]) rfl ?_
  refine x_astore_n (lv' := [(2, .ref r4), (0, .ref a), (1, .int (zI k))]) C dX8_cipherLength_5 rfl (by decide) rfl ?_
  refine x_aload_n C dX8_cipherLength_6 rfl 0 rfl ?_
  refine x_callV (n := 0) (ci := 5) (Cn := RX4) (T := TX4) (N := 4) (cc9 := 1) (ss9 := 6) (rest := []) C dX8_cipherLength_7 (c_X4_standsAt (kxL E) C.st G z μ _ _ _ _ _ _ _ _ _  hSg ) gX8_cipherLength_X4_standsAt rfl (by decide +kernel) ⟨(Nat.le_of_ble_eq_true rfl), (Nat.le_of_ble_eq_true rfl)⟩ rfl hSg.ob rfl rfl (Nat.le_of_ble_eq_true rfl) rfl rfl ⟨(Nat.le_of_ble_eq_true rfl), (Nat.le_of_ble_eq_true rfl)⟩ nX_no (fun v8 μ9 hv10 => ?_)
  obtain ⟨r11, hw14, h12, hm13⟩ := hv10
  subst hw14
  rw [hm13]
  refine x_stk (stk' := [.int (zI r11)]) rfl ?_
  refine z_iconst C dX8_cipherLength_10 ?_
  refine z_icmp_ne (tgt := 22) C dX8_cipherLength_11 (by decide) (rg_of (by omega) (by omega)) (rg_of (by omega) (by omega)) (fun c_15 => ?_) (fun c_15 => ?_)
  · refine z_iconst C dX8_cipherLength_22 ?_
    refine x_istore_n (lv' := [(3, .int (zI 0)), (2, .ref r4), (0, .ref a), (1, .int (zI k))]) C dX8_cipherLength_23 rfl (by decide) rfl ?_
    refine z_iconst C dX8_cipherLength_24 ?_
    refine x_istore (lv' := [(4, .int (zI 0)), (3, .int (zI 0)), (2, .ref r4), (0, .ref a), (1, .int (zI k))]) C dX8_cipherLength_25 (by decide) rfl ?_
    have L27 : ∀ (M9 : Nat) (ii : Nat) (iiz : Int) (hiiz : iiz = (ii : Int)) (s : Int) (hk9 : ii ≤ ln σ (i9 + 1) + 1) (hs : s = csm σ i9 ii) (hM9 : ln σ (i9 + 1) + 1 - ii = M9), Wx E G 1 6 27 [(4, .int (zI iiz)), (3, .int (zI s)), (2, .ref r4), (0, .ref a), (1, .int (zI k))] [] μ := by
      intro M9
      induction M9 using Nat.strongRecOn with
      | ind M9 ih27 =>
        intro ii iiz hiiz s hk9 hs hM9
        subst hiiz
        have hsr := csm_rg σ i9 ii
        refine x_iload C dX8_cipherLength_27 0 rfl ?_
        refine x_aload_n C dX8_cipherLength_29 rfl 2 rfl ?_
        refine x_callV (n := 0) (ci := 5) (Cn := RX4) (T := TX4) (N := 4) (cc9 := 1) (ss9 := 6) (rest := [.int (zI (ii : Int))]) C dX8_cipherLength_30 (c_X4_cipherCount (kxL E) C.st G z μ _ _ _ _ _ _ _ _ _  hSg ) gX8_cipherLength_X4_cipherCount rfl (by decide +kernel) ⟨(Nat.le_of_ble_eq_true rfl), (Nat.le_of_ble_eq_true rfl)⟩ rfl hSg.ob rfl rfl (Nat.le_of_ble_eq_true rfl) rfl rfl ⟨(Nat.le_of_ble_eq_true rfl), (Nat.le_of_ble_eq_true rfl)⟩ nX_no (fun v16 μ17 hv18 => ?_)
        obtain ⟨r19, hw22, h20, hm21⟩ := hv18
        subst hw22
        rw [hm21]
        refine x_stk (stk' := [.int (zI r19), .int (zI (ii : Int))]) rfl ?_
        refine z_icmp_ge (tgt := 54) C dX8_cipherLength_33 (by decide) (rg_of (by omega) (by omega)) (rg_of (by omega) (by omega)) (fun c_23 => ?_) (fun c_23 => ?_)
        · refine x_iload_n C dX8_cipherLength_54 rfl 1 rfl ?_
          exact x_iret C R dX8_cipherLength_55 (Nat.le_of_ble_eq_true rfl) (Nat.le_of_ble_eq_true rfl) (⟨_, rfl, ⟨by (unfold t_cipher; rw [ek]; (repeat split) <;> omega), by (unfold clen; rw [ek, hs, show ii = ln σ (i9 + 1) + 1 by omega])⟩, rfl⟩)
        · refine x_iload_n C dX8_cipherLength_36 rfl 1 rfl ?_
          refine x_aload_n C dX8_cipherLength_37 rfl 2 rfl ?_
          refine x_iload C dX8_cipherLength_38 0 rfl ?_
          refine x_callV (n := 1) (ci := 5) (Cn := RX4) (T := TX4) (N := 4) (cc9 := 1) (ss9 := 6) (rest := [.int (zI s)]) C dX8_cipherLength_40 (c_X4_cipherLetter (kxL E) C.st G z μ _ _ _ _ _ _ _ _ _ (ii : Int) hSg (by omega) (by omega) (by omega)) gX8_cipherLength_X4_cipherLetter rfl (by decide +kernel) ⟨(Nat.le_of_ble_eq_true rfl), (Nat.le_of_ble_eq_true rfl)⟩ rfl hSg.ob rfl rfl (Nat.le_of_ble_eq_true rfl) rfl rfl ⟨(Nat.le_of_ble_eq_true rfl), (Nat.le_of_ble_eq_true rfl)⟩ nX_no (fun v24 μ25 hv26 => ?_)
          obtain ⟨r27, hw30, h28, hm29⟩ := hv26
          subst hw30
          rw [hm29]
          have hl9 : r27 = cl9 σ i9 (ii : Int) := by (rw [h28.1]; exact cil_cong (by omega) (by omega) (by omega) hW9)
          have hl8 := h28.2
          have hcs : csm σ i9 (ii + 1) = csm σ i9 ii + (if cl9 σ i9 (ii : Int) = 26 then 2 else 1) := rfl
          refine x_stk (stk' := [.int (zI r27), .int (zI s)]) rfl ?_
          refine x_callS (n := 1) (cc9 := 1) (ss9 := 6) (rest := [.int (zI s)]) C dX8_cipherLength_43 (c_X8_charsOf (kxL E) C.st G z μ r27 (by omega)) gX8_cipherLength_X8_charsOf rfl (by decide +kernel) ⟨(Nat.le_of_ble_eq_true rfl), (Nat.le_of_ble_eq_true rfl)⟩ rfl rfl (Nat.le_of_ble_eq_true rfl) rfl rfl ⟨(Nat.le_of_ble_eq_true rfl), (Nat.le_of_ble_eq_true rfl)⟩ nX_no (fun v31 μ32 hv33 => ?_)
          obtain ⟨r34, hw37, h35, hm36⟩ := hv33
          subst hw37
          rw [hm36]
          refine x_stk (stk' := [.int (zI r34), .int (zI s)]) rfl ?_
          refine z_iadd C dX8_cipherLength_46 rfl ?_
          refine x_istore_n (lv' := [(3, .int (zI (s + r34))), (4, .int (zI (ii : Int))), (2, .ref r4), (0, .ref a), (1, .int (zI k))]) C dX8_cipherLength_47 rfl (by decide) rfl ?_
          refine z_iinc (lv' := [(4, .int (zI ((ii : Int) + 1))), (3, .int (zI (s + r34))), (2, .ref r4), (0, .ref a), (1, .int (zI k))]) C dX8_cipherLength_48 1 rfl rfl (by decide) rfl ?_
          refine x_goto (tgt := 27) C dX8_cipherLength_51 (by decide) ?_
          exact ih27 _ (by omega) (ii + 1) _ (by omega) _ (by omega) (by rw [hcs]; split <;> omega) rfl
    exact L27 _ (0) _ (by omega) _ (by omega) rfl rfl
  · exact x_throw (En := "java/util/NoSuchElementException") (names := ["java/lang/RuntimeException", "java/lang/Exception"]) C R hT dX8_cipherLength_14 dX8_cipherLength_17 dX8_cipherLength_18 dX8_cipherLength_21 (by decide +kernel) (by decide +kernel) (by decide +kernel) (by decide +kernel) (by decide +kernel) (by decide +kernel) (by decide +kernel) (Nat.le_of_ble_eq_true rfl) (Nat.le_of_ble_eq_true rfl) (Nat.le_of_ble_eq_true rfl) (Nat.le_of_ble_eq_true rfl) (Or.inr ⟨rfl, by (unfold t_cipher; rw [ek]; (repeat split) <;> omega)⟩) (Nat.le_of_ble_eq_true rfl) (Nat.le_of_ble_eq_true rfl)
abbrev rm_X8_cipherAt : Room := { frames := 7, cells := 2, slots := 12, locals := 110 }
set_option maxHeartbeats 4000000 in
set_option maxRecDepth 100000 in
theorem c_X8_cipherAt (l : Launch) (hst : l.stackTraces = false) (G : GG) (z : Nat) (μ : Mm) (a : Nat) (σ : SS) (n : Nat) (k c : Int) (hC9 : RepC G z μ a σ n) (hI : Iv σ n) (hJ : Jv σ) (hk : -2147483648 ≤ k ∧ k < 2147483648) (hc : -2147483648 ≤ c ∧ c < 2147483648) : Ct l yX8_cipherAt wsX8_cipherAt rm_X8_cipherAt G z [.ref a, .int (zI k), .int (zI c)] μ (rP μ (fun r9 => t_cipherAt σ k c = 0 ∧ b_cipherAt σ k c r9)) (fun En => (En = "java/lang/IndexOutOfBoundsException" ∧ t_cipherAt σ k c = 1) ∨ (En = "java/util/NoSuchElementException" ∧ t_cipherAt σ k c = 2)) := by
  refine ct_of (cc := cX8_cipherAt) (maxL := 7) (ret := (some .char)) (own := RX8) (by decide) rfl rfl hst (Nat.le_of_ble_eq_true rfl) ?_
  intro E hLl hnm C R hT
  have hC8 := hC9
  obtain ⟨ld, wy, sp, sl, wl, wp, ch, dr, nS, nW, nD, nL, nV, nC, xs, ys, so, sc, En, S, T, hnC, hX9⟩ := hC9
  have hX8 := hX9
  obtain ⟨hO, hL, hY, hSp, hSl, hWl, hWp, hCh, hDr, hSt, hWk, ⟨n7, n12, n6, n11, n18, n7r, n12r, n18r⟩, hIc⟩ := hX9
  have hnL := hSp.le
  have hnD := hDr.le
  refine x_eq (lv' := [(0, .ref a), (1, .int (zI k)), (2, .int (zI c))]) rfl rfl ?_
  refine x_aload_n C dX8_cipherAt_0 rfl 0 rfl ?_
  refine x_iload_n C dX8_cipherAt_1 rfl 1 rfl ?_
  refine x_callV (n := 1) (ci := 9) (Cn := RX8) (T := TX8) (N := 10) (cc9 := 1) (ss9 := 6) (rest := []) C dX8_cipherAt_2 (c_X8_requireStage (kxL E) C.st G z μ _ _ _ _ _ _ _ _ _ _ _ _ _ _ _ _ _ _ _ _ _ _ _ k hX8 (by omega)) gX8_cipherAt_X8_requireStage rfl (by decide +kernel) ⟨(Nat.le_of_ble_eq_true rfl), (Nat.le_of_ble_eq_true rfl)⟩ rfl ⟨_, _, hO⟩ rfl rfl (Nat.le_of_ble_eq_true rfl) rfl rfl ⟨(Nat.le_of_ble_eq_true rfl), (Nat.le_of_ble_eq_true rfl)⟩ (fun En hEn => x_out C R hT (Or.inl ⟨hEn.1, by (unfold t_cipherAt; rw [if_neg hEn.2])⟩) (Nat.le_of_ble_eq_true rfl) (Nat.le_of_ble_eq_true rfl)) (fun v1 μ2 hv3 => ?_)
  obtain ⟨r4, hw7, h5, hm6⟩ := hv3
  subst hw7
  rw [hm6]
  obtain ⟨i9, hi9, hi8, hr9⟩ := h5
  have ek : k.toNat = i9 := by omega
  obtain ⟨W9, hW9, hSg⟩ := hSt i9 (by omega) hi8
  rw [← hr9] at hSg
  have hm5 : 1 ≤ ln σ (i9 + 1) ∧ ln σ (i9 + 1) ≤ 5 := by (have := hJ.2.2.1 i9 (by omega); have := (hI 11 (by decide) (i9 + 1) (by show i9 + 1 < 7; omega)).2; change _ ≤ (5 : Int) at this; unfold ln; omega)
  have hp8 : -1 ≤ σ 8 i9 ∧ σ 8 i9 ≤ 63 := hI 8 (by decide) i9 (by show i9 < 6; omega)
  refine x_stk (stk' := [.ref r4]) rfl ?_
  refine x_astore_n (lv' := [(3, .ref r4), (0, .ref a), (1, .int (zI k)), (2, .int (zI c))]) C dX8_cipherAt_5 rfl (by decide) rfl ?_
  refine x_aload_n C dX8_cipherAt_6 rfl 0 rfl ?_
  refine x_callV (n := 0) (ci := 5) (Cn := RX4) (T := TX4) (N := 4) (cc9 := 1) (ss9 := 6) (rest := []) C dX8_cipherAt_7 (c_X4_standsAt (kxL E) C.st G z μ _ _ _ _ _ _ _ _ _  hSg ) gX8_cipherAt_X4_standsAt rfl (by decide +kernel) ⟨(Nat.le_of_ble_eq_true rfl), (Nat.le_of_ble_eq_true rfl)⟩ rfl hSg.ob rfl rfl (Nat.le_of_ble_eq_true rfl) rfl rfl ⟨(Nat.le_of_ble_eq_true rfl), (Nat.le_of_ble_eq_true rfl)⟩ nX_no (fun v8 μ9 hv10 => ?_)
  obtain ⟨r11, hw14, h12, hm13⟩ := hv10
  subst hw14
  rw [hm13]
  refine x_stk (stk' := [.int (zI r11)]) rfl ?_
  refine z_iconst C dX8_cipherAt_10 ?_
  refine z_icmp_eq (tgt := 18) C dX8_cipherAt_11 (by decide) (rg_of (by omega) (by omega)) (rg_of (by omega) (by omega)) (fun c_15 => ?_) (fun c_15 => ?_)
  · exact x_throw (En := "java/util/NoSuchElementException") (names := ["java/lang/RuntimeException", "java/lang/Exception"]) C R hT dX8_cipherAt_18 dX8_cipherAt_21 dX8_cipherAt_22 dX8_cipherAt_25 (by decide +kernel) (by decide +kernel) (by decide +kernel) (by decide +kernel) (by decide +kernel) (by decide +kernel) (by decide +kernel) (Nat.le_of_ble_eq_true rfl) (Nat.le_of_ble_eq_true rfl) (Nat.le_of_ble_eq_true rfl) (Nat.le_of_ble_eq_true rfl) (Or.inr ⟨rfl, by (unfold t_cipherAt; rw [ek]; (repeat split) <;> omega)⟩) (Nat.le_of_ble_eq_true rfl) (Nat.le_of_ble_eq_true rfl)
  · refine x_iload_n C dX8_cipherAt_14 rfl 3 rfl ?_
    refine z_if_ge (tgt := 26) C dX8_cipherAt_15 (by decide) (rg_of (by omega) (by omega)) (fun c_16 => ?_) (fun c_16 => ?_)
    · refine x_iload_n C dX8_cipherAt_26 rfl 3 rfl ?_
      refine x_istore (lv' := [(4, .int (zI c)), (3, .ref r4), (0, .ref a), (1, .int (zI k)), (2, .int (zI c))]) C dX8_cipherAt_27 (by decide) rfl ?_
      refine z_iconst C dX8_cipherAt_29 ?_
      refine x_istore (lv' := [(5, .int (zI 0)), (4, .int (zI c)), (3, .ref r4), (0, .ref a), (1, .int (zI k)), (2, .int (zI c))]) C dX8_cipherAt_30 (by decide) rfl ?_
      have L32 : ∀ (M9 : Nat) (ii : Nat) (iiz : Int) (hiiz : iiz = (ii : Int)) (lf : Int) (hk9 : ii ≤ ln σ (i9 + 1) + 1) (hs : lf = c - csm σ i9 ii) (hs0 : 0 ≤ lf) (hM9 : ln σ (i9 + 1) + 1 - ii = M9), Wx E G 1 6 32 [(5, .int (zI iiz)), (4, .int (zI lf)), (3, .ref r4), (0, .ref a), (1, .int (zI k)), (2, .int (zI c))] [] μ := by
        intro M9
        induction M9 using Nat.strongRecOn with
        | ind M9 ih32 =>
          intro ii iiz hiiz lf hk9 hs hs0 hM9
          subst hiiz
          have hsr := csm_rg σ i9 ii
          refine x_iload C dX8_cipherAt_32 0 rfl ?_
          refine x_aload_n C dX8_cipherAt_34 rfl 2 rfl ?_
          refine x_callV (n := 0) (ci := 5) (Cn := RX4) (T := TX4) (N := 4) (cc9 := 1) (ss9 := 6) (rest := [.int (zI (ii : Int))]) C dX8_cipherAt_35 (c_X4_cipherCount (kxL E) C.st G z μ _ _ _ _ _ _ _ _ _  hSg ) gX8_cipherAt_X4_cipherCount rfl (by decide +kernel) ⟨(Nat.le_of_ble_eq_true rfl), (Nat.le_of_ble_eq_true rfl)⟩ rfl hSg.ob rfl rfl (Nat.le_of_ble_eq_true rfl) rfl rfl ⟨(Nat.le_of_ble_eq_true rfl), (Nat.le_of_ble_eq_true rfl)⟩ nX_no (fun v17 μ18 hv19 => ?_)
          obtain ⟨r20, hw23, h21, hm22⟩ := hv19
          subst hw23
          rw [hm22]
          refine x_stk (stk' := [.int (zI r20), .int (zI (ii : Int))]) rfl ?_
          refine z_icmp_ge (tgt := 83) C dX8_cipherAt_38 (by decide) (rg_of (by omega) (by omega)) (rg_of (by omega) (by omega)) (fun c_24 => ?_) (fun c_24 => ?_)
          · exact x_throw (En := "java/util/NoSuchElementException") (names := ["java/lang/RuntimeException", "java/lang/Exception"]) C R hT dX8_cipherAt_83 dX8_cipherAt_86 dX8_cipherAt_87 dX8_cipherAt_90 (by decide +kernel) (by decide +kernel) (by decide +kernel) (by decide +kernel) (by decide +kernel) (by decide +kernel) (by decide +kernel) (Nat.le_of_ble_eq_true rfl) (Nat.le_of_ble_eq_true rfl) (Nat.le_of_ble_eq_true rfl) (Nat.le_of_ble_eq_true rfl) (Or.inr ⟨rfl, by (have hcl : clen σ k = csm σ i9 ii := (by (unfold clen; rw [ek, show ii = ln σ (i9 + 1) + 1 by omega])); unfold t_cipherAt; rw [ek, if_pos (by omega), if_neg (by omega)])⟩) (Nat.le_of_ble_eq_true rfl) (Nat.le_of_ble_eq_true rfl)
          · refine x_aload_n C dX8_cipherAt_41 rfl 2 rfl ?_
            refine x_iload C dX8_cipherAt_42 0 rfl ?_
            refine x_callV (n := 1) (ci := 5) (Cn := RX4) (T := TX4) (N := 4) (cc9 := 1) (ss9 := 6) (rest := []) C dX8_cipherAt_44 (c_X4_cipherLetter (kxL E) C.st G z μ _ _ _ _ _ _ _ _ _ (ii : Int) hSg (by omega) (by omega) (by omega)) gX8_cipherAt_X4_cipherLetter rfl (by decide +kernel) ⟨(Nat.le_of_ble_eq_true rfl), (Nat.le_of_ble_eq_true rfl)⟩ rfl hSg.ob rfl rfl (Nat.le_of_ble_eq_true rfl) rfl rfl ⟨(Nat.le_of_ble_eq_true rfl), (Nat.le_of_ble_eq_true rfl)⟩ nX_no (fun v25 μ26 hv27 => ?_)
            obtain ⟨r28, hw31, h29, hm30⟩ := hv27
            subst hw31
            rw [hm30]
            have hl9 : r28 = cl9 σ i9 (ii : Int) := by (rw [h29.1]; exact cil_cong (by omega) (by omega) (by omega) hW9)
            have hl8 := h29.2
            have hcs : csm σ i9 (ii + 1) = csm σ i9 ii + (if cl9 σ i9 (ii : Int) = 26 then 2 else 1) := rfl
            refine x_stk (stk' := [.int (zI r28)]) rfl ?_
            refine x_istore (lv' := [(6, .int (zI r28)), (5, .int (zI (ii : Int))), (4, .int (zI lf)), (3, .ref r4), (0, .ref a), (1, .int (zI k)), (2, .int (zI c))]) C dX8_cipherAt_47 (by decide) rfl ?_
            refine x_iload C dX8_cipherAt_49 2 rfl ?_
            refine x_iload C dX8_cipherAt_51 0 rfl ?_
            refine x_callS (n := 1) (cc9 := 1) (ss9 := 6) (rest := [.int (zI lf)]) C dX8_cipherAt_53 (c_X8_charsOf (kxL E) C.st G z μ r28 (by omega)) gX8_cipherAt_X8_charsOf rfl (by decide +kernel) ⟨(Nat.le_of_ble_eq_true rfl), (Nat.le_of_ble_eq_true rfl)⟩ rfl rfl (Nat.le_of_ble_eq_true rfl) rfl rfl ⟨(Nat.le_of_ble_eq_true rfl), (Nat.le_of_ble_eq_true rfl)⟩ nX_no (fun v32 μ33 hv34 => ?_)
            obtain ⟨r35, hw38, h36, hm37⟩ := hv34
            subst hw38
            rw [hm37]
            have hz9 := h36
            refine x_stk (stk' := [.int (zI r35), .int (zI lf)]) rfl ?_
            refine z_icmp_ge (tgt := 67) C dX8_cipherAt_56 (by decide) (rg_of (by omega) (by omega)) (rg_of (by omega) (by omega)) (fun c_39 => ?_) (fun c_39 => ?_)
            · refine x_iload C dX8_cipherAt_67 2 rfl ?_
              refine x_iload C dX8_cipherAt_69 0 rfl ?_
              refine x_callS (n := 1) (cc9 := 1) (ss9 := 6) (rest := [.int (zI lf)]) C dX8_cipherAt_71 (c_X8_charsOf (kxL E) C.st G z μ r28 (by omega)) gX8_cipherAt_X8_charsOf rfl (by decide +kernel) ⟨(Nat.le_of_ble_eq_true rfl), (Nat.le_of_ble_eq_true rfl)⟩ rfl rfl (Nat.le_of_ble_eq_true rfl) rfl rfl ⟨(Nat.le_of_ble_eq_true rfl), (Nat.le_of_ble_eq_true rfl)⟩ nX_no (fun v40 μ41 hv42 => ?_)
              obtain ⟨r43, hw46, h44, hm45⟩ := hv42
              subst hw46
              rw [hm45]
              refine x_stk (stk' := [.int (zI r43), .int (zI lf)]) rfl ?_
              refine z_isub C dX8_cipherAt_74 rfl ?_
              refine x_istore (lv' := [(4, .int (zI (lf - r43))), (6, .int (zI r28)), (5, .int (zI (ii : Int))), (3, .ref r4), (0, .ref a), (1, .int (zI k)), (2, .int (zI c))]) C dX8_cipherAt_75 (by decide) rfl ?_
              refine z_iinc (lv' := [(5, .int (zI ((ii : Int) + 1))), (4, .int (zI (lf - r43))), (6, .int (zI r28)), (3, .ref r4), (0, .ref a), (1, .int (zI k)), (2, .int (zI c))]) C dX8_cipherAt_77 2 rfl rfl (by decide) rfl ?_
              refine x_goto (tgt := 32) C dX8_cipherAt_80 (by decide) ?_
              refine x_sub (lv' := [(5, .int (zI ((ii : Int) + 1))), (4, .int (zI (lf - r43))), (3, .ref r4), (0, .ref a), (1, .int (zI k)), (2, .int (zI c))]) [0, 1, 3, 4, 5, 6] rfl ?_
              exact ih32 _ (by omega) (ii + 1) _ (by omega) _ (by omega) (by rw [hcs]; split <;> omega) (by omega) rfl
            · refine x_iload C dX8_cipherAt_59 0 rfl ?_
              refine x_iload C dX8_cipherAt_61 2 rfl ?_
              refine x_callS (n := 2) (cc9 := 1) (ss9 := 6) (rest := []) C dX8_cipherAt_63 (c_X8_charOf (kxL E) C.st G z μ r28 lf (by omega) (by omega)) gX8_cipherAt_X8_charOf rfl (by decide +kernel) ⟨(Nat.le_of_ble_eq_true rfl), (Nat.le_of_ble_eq_true rfl)⟩ rfl rfl (Nat.le_of_ble_eq_true rfl) rfl rfl ⟨(Nat.le_of_ble_eq_true rfl), (Nat.le_of_ble_eq_true rfl)⟩ nX_no (fun v47 μ48 hv49 => ?_)
              obtain ⟨r50, hw53, h51, hm52⟩ := hv49
              subst hw53
              rw [hm52]
              have hx9 := h51
              refine x_stk (stk' := [.int (zI r50)]) rfl ?_
              exact x_zret C R dX8_cipherAt_66 (nar_c (by omega)) (Nat.le_of_ble_eq_true rfl) (Nat.le_of_ble_eq_true rfl) (⟨_, rfl, ⟨by (have hcl : clen σ k = csm σ i9 (ln σ (i9 + 1) + 1) := (by (unfold clen; rw [ek])); have hmo := csm_mono σ i9 (show ii + 1 ≤ ln σ (i9 + 1) + 1 by omega); unfold t_cipherAt; rw [ek, if_pos (by omega), if_pos ⟨by omega, by omega, by (rw [hcs] at hmo; split at hmo <;> omega)⟩]), ⟨ii, by (rw [ek]; omega), by (rw [ek]; omega), by (rw [ek, hcs]; split <;> omega), by (rw [ek]; unfold chr9; split; omega; split <;> omega)⟩⟩, rfl⟩)
      exact L32 _ (0) _ (by omega) _ (by omega) (by (show c = c - 0; omega)) (by omega) rfl
    · exact x_throw (En := "java/util/NoSuchElementException") (names := ["java/lang/RuntimeException", "java/lang/Exception"]) C R hT dX8_cipherAt_18 dX8_cipherAt_21 dX8_cipherAt_22 dX8_cipherAt_25 (by decide +kernel) (by decide +kernel) (by decide +kernel) (by decide +kernel) (by decide +kernel) (by decide +kernel) (by decide +kernel) (Nat.le_of_ble_eq_true rfl) (Nat.le_of_ble_eq_true rfl) (Nat.le_of_ble_eq_true rfl) (Nat.le_of_ble_eq_true rfl) (Or.inr ⟨rfl, by (unfold t_cipherAt; rw [ek]; (repeat split) <;> omega)⟩) (Nat.le_of_ble_eq_true rfl) (Nat.le_of_ble_eq_true rfl)
