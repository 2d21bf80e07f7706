abbrev rm_X8_pass : Room := { frames := 6, cells := 1, slots := 6, locals := 139 }
set_option maxHeartbeats 4000000 in
set_option maxRecDepth 100000 in
theorem c_X8_pass (l : Launch) (hst : l.stackTraces = false) (G : GG) (z : Nat) (μ : Mm) (a : Nat) (σ : SS) (n : Nat) (m : Int) (hC9 : RepC G z μ a σ n) (hI : Iv σ n) (hJ : Jv σ) (hm : -2147483648 ≤ m ∧ m < 2147483648) : Ct l yX8_pass wsX8_pass rm_X8_pass G z [.ref a, .int (zI m)] μ (rS (fun r9 μ' => (t_pass σ m = 0 ∧ r9 = b_pass σ m (σ 12 0).toNat ∧ RepC G z μ' a (n_pass σ m) n) ∧ Fr 0 2999 μ μ')) (fun En => (En = "java/lang/IllegalArgumentException" ∧ t_pass σ m = 1) ∨ (En = "java/lang/IllegalStateException" ∧ t_pass σ m = 2)) := by
  refine ct_of (cc := cX8_pass) (maxL := 4) (ret := (some .int)) (own := RX8) (by decide) rfl rfl hst (Nat.le_of_ble_eq_true rfl) ?_
  intro E hLl hnm C R hT
  have in_X8 : ∀ w ∈ u_ws RX8 TX8 10, w ∈ wsX8_pass := by decide +kernel
  have hC8 := hC9
  obtain ⟨ld, wy, sp, sl, wl, wp, ch, dr, nS, nW, nD, nL, nV, nC, xs, ys, so, sc, En, S, T, hnC, hX9⟩ := hC9
  have hX8 := hX9
  obtain ⟨hO, hL, hY, hSp, hSl, hWl, hWp, hCh, hDr, hSt, hWk, ⟨n7, n12, n6, n11, n18, n7r, n12r, n18r⟩, hIc⟩ := hX9
  have hnL := hSp.le
  have hnD := hDr.le
  have h23 : 0 ≤ σ 23 0 ∧ σ 23 0 ≤ 5000 := hI 23 (by decide) 0 (by decide)
  have hFr : Fr 0 2999 μ μ := Fr.rf
  refine x_eq (lv' := [(0, .ref a), (1, .int (zI m))]) rfl rfl ?_
  refine x_iload_n C dX8_pass_0 rfl 1 rfl ?_
  refine z_iconst C dX8_pass_1 ?_
  refine z_icmp_lt (tgt := 11) C dX8_pass_2 (by decide) (rg_of (by omega) (by omega)) (rg_of (by omega) (by omega)) (fun c_1 => ?_) (fun c_1 => ?_)
  · exact x_throw (En := "java/lang/IllegalArgumentException") (names := ["java/lang/RuntimeException", "java/lang/Exception"]) C R hT dX8_pass_11 dX8_pass_14 dX8_pass_15 dX8_pass_18 (by decide +kernel) (by decide +kernel) (by decide +kernel) (by decide +kernel) (by decide +kernel) (by decide +kernel) (by decide +kernel) (Nat.le_of_ble_eq_true rfl) (Nat.le_of_ble_eq_true rfl) (Nat.le_of_ble_eq_true rfl) (Nat.le_of_ble_eq_true rfl) (Or.inl ⟨rfl, by (unfold t_pass; (repeat split) <;> omega)⟩) (Nat.le_of_ble_eq_true rfl) (Nat.le_of_ble_eq_true rfl)
  · refine x_iload_n C dX8_pass_5 rfl 1 rfl ?_
    refine z_bipush C dX8_pass_6 (by decide) ?_
    refine z_icmp_le (tgt := 19) C dX8_pass_8 (by decide) (rg_of (by omega) (by omega)) (rg_of (by omega) (by omega)) (fun c_2 => ?_) (fun c_2 => ?_)
    · refine x_aload_n C dX8_pass_19 rfl 0 rfl ?_
      refine x_get (ci := 9) (Cn := RX8) (T := TX8) (N := 10) (ref := "CairnCipher") C dX8_pass_20 in_X8 rfl hO 9 (by decide) (by decide +kernel) rfl rfl ?_
      refine x_iload_n C dX8_pass_23 rfl 1 rfl ?_
      refine z_iadd C dX8_pass_24 rfl ?_
      refine z_sipush C dX8_pass_25 (by decide) ?_
      refine z_icmp_le (tgt := 39) C dX8_pass_28 (by decide) (rg_of (by omega) (by omega)) (rg_of (by omega) (by omega)) (fun c_3 => ?_) (fun c_3 => ?_)
      · refine x_aload_n C dX8_pass_39 rfl 0 rfl ?_
        refine x_dup C dX8_pass_40 rfl ?_
        refine x_get (ci := 9) (Cn := RX8) (T := TX8) (N := 10) (ref := "CairnCipher") C dX8_pass_41 in_X8 rfl hO 9 (by decide) (by decide +kernel) rfl rfl ?_
        refine x_iload_n C dX8_pass_44 rfl 1 rfl ?_
        refine z_iadd C dX8_pass_45 rfl ?_
        refine z_put (ci := 9) (Cn := RX8) (T := TX8) (N := 10) (ref := "CairnCipher") (fs' := [.ref ld, .ref wy, .ref sp, .ref sl, .ref wl, .ref wp, .ref ch, .ref dr, .int (zI (nV : Int)), .int (zI ((σ 23 0) + m))]) C dX8_pass_46 in_X8 rfl tyX8 tyX8_ok nmX8 hO 9 (by decide) (by decide +kernel) rfl rfl rfl rfl rfl (Nat.le_of_ble_eq_true rfl) rfl (fun μ4 hOw hF5 => ?_)
        have hL : LandR G μ4 ld (σ 0) (σ 1) := hF5.land hL
        have hY : WaysR G μ4 wy S T := hF5.ways hY
        have hSp : TextR G μ4 sp 7 nL (lw σ 0) := hF5.text hSp
        have hSl : ListR G z μ4 sl 9 nS xs := hF5.list hSl
        have hWl : ListR G z μ4 wl 11 nW ys := hF5.list hWl
        have hWp := hF5.ai hWp
        have hCh : ChronR G μ4 ch nC En := hF5.chron hCh
        have hDr : HintsR G z μ4 dr (100 + 100 * nS) nD (dq σ 0) (σ 0) := (by first | exact hF5.hints hDr | exact hF5.hintsN hDr)
        have hSt : StF G z μ4 xs 0 nS σ (σ 0) (σ 8) (σ 9) := hF5.stf hSt
        have hWk : WkF G μ4 ys 0 nW σ so sc := hF5.wkf hWk
        have hFr : Fr 0 2999 μ μ4 := hFr.tr hF5
        have hO := hOw
        refine z_iconst C dX8_pass_49 ?_
        refine x_istore_n (lv' := [(2, .int (zI 0)), (0, .ref a), (1, .int (zI m))]) C dX8_pass_50 rfl (by decide) rfl ?_
        refine z_iconst C dX8_pass_51 ?_
        refine x_istore_n (lv' := [(3, .int (zI 0)), (2, .int (zI 0)), (0, .ref a), (1, .int (zI m))]) C dX8_pass_52 rfl (by decide) rfl ?_
        have L53 : ∀ (M9 : Nat) (μk : Mm) (k : Nat) (kz : Int) (hkz : kz = (k : Int)) (ar : Int) (Sk : Nat → Int) (Tk : Nat → Int) (hO : OB μk a 0 9 [.ref ld, .ref wy, .ref sp, .ref sl, .ref wl, .ref wp, .ref ch, .ref dr, .int (zI (nV : Int)), .int (zI ((σ 23 0) + m))]) (hL : LandR G μk ld (σ 0) (σ 1)) (hY : WaysR G μk wy Sk Tk) (hSp : TextR G μk sp 7 nL (lw σ 0)) (hSl : ListR G z μk sl 9 nS xs) (hWl : ListR G z μk wl 11 nW ys) (hWp : AI G μk wp 13 4 (σ 19)) (hCh : ChronR G μk ch nC En) (hDr : HintsR G z μk dr (100 + 100 * nS) nD (dq σ 0) (σ 0)) (hSt : StF G z μk xs 0 nS σ (σ 0) (σ 8) (σ 9)) (hWk1 : WkF G μk ys 0 k (n_pass σ m) so sc) (hWk2 : WkF G μk ys k nW σ so sc) (hFr : Fr 0 2999 μ μk) (hk : k ≤ nW) (har : ar = b_pass σ m k) (har2 : 0 ≤ ar ∧ ar ≤ k) (hM9 : nW - k = M9), Wx E G 0 0 53 [(3, .int (zI kz)), (2, .int (zI ar)), (0, .ref a), (1, .int (zI m))] [] μk := by
          intro M9
          induction M9 using Nat.strongRecOn with
          | ind M9 ih53 =>
            intro μk k kz hkz ar Sk Tk hO hL hY hSp hSl hWl hWp hCh hDr hSt hWk1 hWk2 hFr hk har har2 hM9
            subst hkz
            refine x_iload_n C dX8_pass_53 rfl 0 rfl ?_
            refine x_aload_n C dX8_pass_54 rfl 2 rfl ?_
            refine x_get (ci := 9) (Cn := RX8) (T := TX8) (N := 10) (ref := "CairnCipher") C dX8_pass_55 in_X8 rfl hO 4 (by decide) (by decide +kernel) rfl rfl ?_
            refine x_callV (n := 0) (ci := 0) (Cn := RJx4a65c) (T := TJx4a65c) (N := 3) (cc9 := 0) (ss9 := 0) (rest := [.int (zI (k : Int))]) C dX8_pass_58 (c_Jx4a65c_size_8abf5 (kxL E) C.st G z μk _ _ _ _ hWl) gX8_pass_Jx4a65c_size_8abf5 rfl (by decide +kernel) ⟨(Nat.le_of_ble_eq_true rfl), (Nat.le_of_ble_eq_true rfl)⟩ rfl hWl.ob rfl rfl (Nat.le_of_ble_eq_true rfl) rfl rfl ⟨(Nat.le_of_ble_eq_true rfl), (Nat.le_of_ble_eq_true rfl)⟩ nX_no (fun v6 μ7 hv8 => ?_)
            obtain ⟨r9, hw12, h10, hm11⟩ := hv8
            subst hw12
            rw [hm11]
            refine x_stk (stk' := [.int (zI r9), .int (zI (k : Int))]) rfl ?_
            refine z_icmp_ge (tgt := 92) C dX8_pass_61 (by decide) (rg_of (by omega) (by omega)) (rg_of (by omega) (by omega)) (fun c_13 => ?_) (fun c_13 => ?_)
            · refine x_iload_n C dX8_pass_92 rfl 1 rfl ?_
              exact x_iret C R dX8_pass_93 (Nat.le_of_ble_eq_true rfl) (Nat.le_of_ble_eq_true rfl) (⟨_, rfl, ⟨by (unfold t_pass; (repeat split) <;> omega), by (rw [har, n12, Int.toNat_natCast, show k = nW by omega]), ⟨ld, wy, sp, sl, wl, wp, ch, dr, nS, nW, nD, nL, nV, nC, xs, ys, so, sc, En, Sk, Tk, hnC, (by (have e23 : n_pass σ m 23 0 = σ 23 0 + m := (by (show wr (σ 23) 0 (σ 23 0 + m) 0 = _; exact wr_at)); rw [e23]; exact hO)), hL, hY, hSp, hSl, hWl, hWp, hCh, hDr, hSt, (fun j h1 h2 => hWk1 j h1 (by omega)), ⟨n7, n12, n6, n11, n18, n7r, n12r, n18r⟩, hIc⟩⟩, hFr⟩)
            · refine x_aload_n C dX8_pass_64 rfl 2 rfl ?_
              refine x_aload_n C dX8_pass_65 rfl 2 rfl ?_
              refine x_get (ci := 9) (Cn := RX8) (T := TX8) (N := 10) (ref := "CairnCipher") C dX8_pass_66 in_X8 rfl hO 4 (by decide) (by decide +kernel) rfl rfl ?_
              refine x_iload_n C dX8_pass_69 rfl 0 rfl ?_
              refine x_callV (n := 1) (ci := 0) (Cn := RJx4a65c) (T := TJx4a65c) (N := 3) (cc9 := 0) (ss9 := 0) (rest := [.ref a]) C dX8_pass_70 (c_Jx4a65c_get_915e3 (kxL E) C.st G z μk _ _ _ _ k hWl (by omega)) gX8_pass_Jx4a65c_get_915e3 rfl (by decide +kernel) ⟨(Nat.le_of_ble_eq_true rfl), (Nat.le_of_ble_eq_true rfl)⟩ rfl hWl.ob rfl rfl (Nat.le_of_ble_eq_true rfl) rfl rfl ⟨(Nat.le_of_ble_eq_true rfl), (Nat.le_of_ble_eq_true rfl)⟩ nX_no (fun v14 μ15 hv16 => ?_)
              obtain ⟨r17, hw20, h18, hm19⟩ := hv16
              subst hw20
              rw [hm19]
              have hWa := hWk2 k (by omega) (by omega)
              rw [← h18] at hWa
              refine x_stk (stk' := [.ref r17, .ref a]) rfl ?_
              refine x_cast (ci := 7) (Cn := RX6) (T := TX6) (N := 9) C dX8_pass_73 rfl hWa.ob (by decide +kernel) ?_
              refine x_iload_n C dX8_pass_76 rfl 3 rfl ?_
              refine x_callV (n := 2) (ci := 9) (Cn := RX8) (T := TX8) (N := 10) (cc9 := 0) (ss9 := 0) (rest := []) C dX8_pass_77 (c_X8_comesToGoal (kxL E) C.st G z μk _ _ _ _ _ _ _ _ _ _ _ _ _ _ _ _ _ _ _ _ _ _ _ _ _ m hO hL hY hWa (by omega) (by omega) (by have := (hJ.1 k (by omega)).2.2; by_cases e : σ 16 k = -1; exact Or.inl e; exact Or.inr (this e))) gX8_pass_X8_comesToGoal rfl (by decide +kernel) ⟨(Nat.le_of_ble_eq_true rfl), (Nat.le_of_ble_eq_true rfl)⟩ rfl ⟨_, _, hO⟩ rfl rfl (Nat.le_of_ble_eq_true rfl) rfl rfl ⟨(Nat.le_of_ble_eq_true rfl), (Nat.le_of_ble_eq_true rfl)⟩ nX_no (fun v21 μ22 hv23 => ?_)
              obtain ⟨r24, hw27, h25⟩ := hv23
              subst hw27
              obtain ⟨⟨pl9, go9, st9, le9, S9, T9, hWa, hY, hwi9, hr01⟩, μm, hFa, hF9⟩ := h25
              have hF28 := hF9
              have hO := hFa.ob hO
              have hL : LandR G μm ld (σ 0) (σ 1) := hFa.land hL
              have hSp : TextR G μm sp 7 nL (lw σ 0) := hFa.text hSp
              have hSl : ListR G z μm sl 9 nS xs := hFa.list hSl
              have hWl : ListR G z μm wl 11 nW ys := hFa.list hWl
              have hWp := hFa.ai hWp
              have hCh : ChronR G μm ch nC En := hFa.chron hCh
              have hDr : HintsR G z μm dr (100 + 100 * nS) nD (dq σ 0) (σ 0) := (by first | exact hFa.hints hDr | exact hFa.hintsN hDr)
              have hSt : StF G z μm xs 0 nS σ (σ 0) (σ 8) (σ 9) := hFa.stf hSt
              have hWk1 : WkF G μm ys 0 k (n_pass σ m) so sc := hFa.wkf hWk1
              have hFr : Fr 0 2999 μ μm := hFr.tr hFa
              have hO := hF28.ob hO
              have hL : LandR G μ22 ld (σ 0) (σ 1) := hF28.land hL
              have hSp : TextR G μ22 sp 7 nL (lw σ 0) := hF28.text hSp
              have hSl : ListR G z μ22 sl 9 nS xs := hF28.list hSl
              have hWl : ListR G z μ22 wl 11 nW ys := hF28.list hWl
              have hWp := hF28.ai hWp
              have hCh : ChronR G μ22 ch nC En := hF28.chron hCh
              have hDr : HintsR G z μ22 dr (100 + 100 * nS) nD (dq σ 0) (σ 0) := (by first | exact hF28.hints hDr | exact hF28.hintsN hDr)
              have hSt : StF G z μ22 xs 0 nS σ (σ 0) (σ 8) (σ 9) := hF28.stf hSt
              have hWk1 : WkF G μ22 ys 0 k (n_pass σ m) so sc := hF28.wkf hWk1
              have hFr : Fr 0 2999 μ μ22 := hFr.tr hF28
              have hWk2 : WkF G μ22 ys (k + 1) nW σ so sc := hF9.wkf (hFa.wkf (fun j h1 h2 => hWk2 j (by omega) h2 : WkF G _ ys (k + 1) nW σ so sc) (by omega)) (by omega)
              rw [h18] at hWa
              have hWk1 := hWk1.pass (by omega) hWa hwi9
              have hbp : b_pass σ m (k + 1) = b_pass σ m k + r24 := by (rw [show b_pass σ m (k + 1) = b_pass σ m k + (pw σ m k).2 from rfl]; unfold pw; rw [hwi9])
              refine x_stk (stk' := [.int (zI r24)]) rfl ?_
              refine z_if_eq (tgt := 86) C dX8_pass_80 (by decide) (rg_of (by omega) (by omega)) (fun c_29 => ?_) (fun c_29 => ?_)
              · refine z_iinc (lv' := [(3, .int (zI ((k : Int) + 1))), (2, .int (zI ar)), (0, .ref a), (1, .int (zI m))]) C dX8_pass_86 0 rfl rfl (by decide) rfl ?_
                refine x_goto (tgt := 53) C dX8_pass_89 (by decide) ?_
                exact ih53 _ (by omega) _ (k + 1) _ (by omega) _ _ _ hO hL hY hSp hSl hWl hWp hCh hDr hSt hWk1 hWk2 hFr (by omega) (by rw [hbp]; omega) (by omega) rfl
              · refine z_iinc (lv' := [(2, .int (zI (ar + 1))), (3, .int (zI (k : Int))), (0, .ref a), (1, .int (zI m))]) C dX8_pass_83 1 rfl rfl (by decide) rfl ?_
                refine z_iinc (lv' := [(3, .int (zI ((k : Int) + 1))), (2, .int (zI (ar + 1))), (0, .ref a), (1, .int (zI m))]) C dX8_pass_86 1 rfl rfl (by decide) rfl ?_
                refine x_goto (tgt := 53) C dX8_pass_89 (by decide) ?_
                exact ih53 _ (by omega) _ (k + 1) _ (by omega) _ _ _ hO hL hY hSp hSl hWl hWp hCh hDr hSt hWk1 hWk2 hFr (by omega) (by rw [hbp]; omega) (by omega) rfl
        have hWk1 : WkF G μ4 ys 0 0 (n_pass σ m) so sc := fun j _ hj => absurd hj (Nat.not_lt_zero j)
        have hWk2 := hWk
        exact L53 _ _ (0) _ (by omega) _ _ _ hO hL hY hSp hSl hWl hWp hCh hDr hSt hWk1 hWk2 hFr (by omega) rfl (by omega) rfl
      · exact x_throw (En := "java/lang/IllegalStateException") (names := ["java/lang/RuntimeException", "java/lang/Exception"]) C R hT dX8_pass_31 dX8_pass_34 dX8_pass_35 dX8_pass_38 (by decide +kernel) (by decide +kernel) (by decide +kernel) (by decide +kernel) (by decide +kernel) (by decide +kernel) (by decide +kernel) (Nat.le_of_ble_eq_true rfl) (Nat.le_of_ble_eq_true rfl) (Nat.le_of_ble_eq_true rfl) (Nat.le_of_ble_eq_true rfl) (Or.inr ⟨rfl, by (unfold t_pass; (repeat split) <;> omega)⟩) (Nat.le_of_ble_eq_true rfl) (Nat.le_of_ble_eq_true rfl)
    · exact x_throw (En := "java/lang/IllegalArgumentException") (names := ["java/lang/RuntimeException", "java/lang/Exception"]) C R hT dX8_pass_11 dX8_pass_14 dX8_pass_15 dX8_pass_18 (by decide +kernel) (by decide +kernel) (by decide +kernel) (by decide +kernel) (by decide +kernel) (by decide +kernel) (by decide +kernel) (Nat.le_of_ble_eq_true rfl) (Nat.le_of_ble_eq_true rfl) (Nat.le_of_ble_eq_true rfl) (Nat.le_of_ble_eq_true rfl) (Or.inl ⟨rfl, by (unfold t_pass; (repeat split) <;> omega)⟩) (Nat.le_of_ble_eq_true rfl) (Nat.le_of_ble_eq_true rfl)
