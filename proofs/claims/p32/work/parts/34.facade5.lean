abbrev rm_X8_rankOf : Room := { frames := 3, cells := 0, slots := 0, locals := 64 }
set_option maxHeartbeats 4000000 in
set_option maxRecDepth 100000 in
theorem c_X8_rankOf (l : Launch) (hst : l.stackTraces = false) (G : GG) (z : Nat) (μ : Mm) (a : Nat) (σ : SS) (n : Nat) (u v : Int) (hC9 : RepC G z μ a σ n) (hI : Iv σ n) (hu : -2147483648 ≤ u ∧ u < 2147483648) (hv : -2147483648 ≤ v ∧ v < 2147483648) : Ct l yX8_rankOf wsX8_rankOf rm_X8_rankOf G z [.ref a, .int (zI u), .int (zI v)] μ (rP μ (fun r9 => r9 = b_rank σ u v (σ 12 0).toNat)) (nX) := by
  refine ct_of (cc := cX8_rankOf) (maxL := 6) (ret := (some .int)) (own := RX8) (by decide) rfl rfl hst (Nat.le_of_ble_eq_true rfl) ?_
  intro E hLl hnm C R hT
  have in_X8 : ∀ w ∈ u_ws RX8 TX8 10, w ∈ wsX8_rankOf := by decide +kernel
  have hC8 := hC9
  obtain ⟨ld, wy, sp, sl, wl, wp, ch, dr, nS, nW, nD, nL, nV, nC, xs, ys, so, sc, En, S, T, hnC, hX9⟩ := hC9
  have hX8 := hX9
  obtain ⟨hO, hL, hY, hSp, hSl, hWl, hWp, hCh, hDr, hSt, hWk, ⟨n7, n12, n6, n11, n18, n7r, n12r, n18r⟩, hIc⟩ := hX9
  have hnL := hSp.le
  have hnD := hDr.le
  refine x_eq (lv' := [(0, .ref a), (1, .int (zI u)), (2, .int (zI v))]) rfl rfl ?_
  refine z_iconst C dX8_rankOf_0 ?_
  refine x_istore_n (lv' := [(3, .int (zI 0)), (0, .ref a), (1, .int (zI u)), (2, .int (zI v))]) C dX8_rankOf_1 rfl (by decide) rfl ?_
  refine z_iconst C dX8_rankOf_2 ?_
  refine x_istore (lv' := [(4, .int (zI 0)), (3, .int (zI 0)), (0, .ref a), (1, .int (zI u)), (2, .int (zI v))]) C dX8_rankOf_3 (by decide) rfl ?_
  have L5 : ∀ (M9 : Nat) (k : Nat) (kz : Int) (hkz : kz = (k : Int)) (rk : Int) (hk : k ≤ nW) (hrk : rk = b_rank σ u v k) (hM9 : nW - k = M9), Wx E G 0 0 5 [(4, .int (zI kz)), (3, .int (zI rk)), (0, .ref a), (1, .int (zI u)), (2, .int (zI v))] [] μ := by
    intro M9
    induction M9 using Nat.strongRecOn with
    | ind M9 ih5 =>
      intro k kz hkz rk hk hrk hM9
      subst hkz
      have hbr := b_rank_rg σ u v k
      refine x_iload C dX8_rankOf_5 0 rfl ?_
      refine x_aload_n C dX8_rankOf_7 rfl 2 rfl ?_
      refine x_get (ci := 9) (Cn := RX8) (T := TX8) (N := 10) (ref := "CairnCipher") C dX8_rankOf_8 in_X8 rfl hO 4 (by decide) (by decide +kernel) rfl rfl ?_
      refine x_callV (n := 0) (ci := 0) (Cn := RJx4a65c) (T := TJx4a65c) (N := 3) (cc9 := 0) (ss9 := 0) (rest := [.int (zI (k : Int))]) C dX8_rankOf_11 (c_Jx4a65c_size_8abf5 (kxL E) C.st G z μ _ _ _ _ hWl) gX8_rankOf_Jx4a65c_size_8abf5 rfl (by decide +kernel) ⟨(Nat.le_of_ble_eq_true rfl), (Nat.le_of_ble_eq_true rfl)⟩ rfl hWl.ob rfl rfl (Nat.le_of_ble_eq_true rfl) rfl rfl ⟨(Nat.le_of_ble_eq_true rfl), (Nat.le_of_ble_eq_true rfl)⟩ nX_no (fun v1 μ2 hv3 => ?_)
      obtain ⟨r4, hw7, h5, hm6⟩ := hv3
      subst hw7
      rw [hm6]
      refine x_stk (stk' := [.int (zI r4), .int (zI (k : Int))]) rfl ?_
      refine z_icmp_ge (tgt := 61) C dX8_rankOf_14 (by decide) (rg_of (by omega) (by omega)) (rg_of (by omega) (by omega)) (fun c_8 => ?_) (fun c_8 => ?_)
      · refine x_iload_n C dX8_rankOf_61 rfl 1 rfl ?_
        exact x_iret C R dX8_rankOf_62 (Nat.le_of_ble_eq_true rfl) (Nat.le_of_ble_eq_true rfl) (⟨_, rfl, by (rw [hrk, n12, Int.toNat_natCast, show k = nW by omega]), rfl⟩)
      · refine x_aload_n C dX8_rankOf_17 rfl 2 rfl ?_
        refine x_get (ci := 9) (Cn := RX8) (T := TX8) (N := 10) (ref := "CairnCipher") C dX8_rankOf_18 in_X8 rfl hO 4 (by decide) (by decide +kernel) rfl rfl ?_
        refine x_iload C dX8_rankOf_21 0 rfl ?_
        refine x_callV (n := 1) (ci := 0) (Cn := RJx4a65c) (T := TJx4a65c) (N := 3) (cc9 := 0) (ss9 := 0) (rest := []) C dX8_rankOf_23 (c_Jx4a65c_get_915e3 (kxL E) C.st G z μ _ _ _ _ k hWl (by omega)) gX8_rankOf_Jx4a65c_get_915e3 rfl (by decide +kernel) ⟨(Nat.le_of_ble_eq_true rfl), (Nat.le_of_ble_eq_true rfl)⟩ rfl hWl.ob rfl rfl (Nat.le_of_ble_eq_true rfl) rfl rfl ⟨(Nat.le_of_ble_eq_true rfl), (Nat.le_of_ble_eq_true rfl)⟩ nX_no (fun v9 μ10 hv11 => ?_)
        obtain ⟨r12, hw15, h13, hm14⟩ := hv11
        subst hw15
        rw [hm14]
        have hWa := hWk k (by omega) (by omega)
        rw [← h13] at hWa
        have hWb := hWa.rg
        refine x_stk (stk' := [.ref r12]) rfl ?_
        refine x_cast (ci := 7) (Cn := RX6) (T := TX6) (N := 9) C dX8_rankOf_26 rfl hWa.ob (by decide +kernel) ?_
        refine x_callV (n := 0) (ci := 7) (Cn := RX6) (T := TX6) (N := 9) (cc9 := 0) (ss9 := 0) (rest := []) C dX8_rankOf_29 (c_X6_keptScore (kxL E) C.st G z μ _ _ _ _ _ _ _ _ _ _ _  hWa ) gX8_rankOf_X6_keptScore rfl (by decide +kernel) ⟨(Nat.le_of_ble_eq_true rfl), (Nat.le_of_ble_eq_true rfl)⟩ rfl hWa.ob rfl rfl (Nat.le_of_ble_eq_true rfl) rfl rfl ⟨(Nat.le_of_ble_eq_true rfl), (Nat.le_of_ble_eq_true rfl)⟩ nX_no (fun v16 μ17 hv18 => ?_)
        obtain ⟨r19, hw22, h20, hm21⟩ := hv18
        subst hw22
        rw [hm21]
        have hs9 := h20
        have hs8 := hIc.sc (show k < 6 by omega) n7 n7r
        refine x_stk (stk' := [.int (zI r19)]) rfl ?_
        refine x_istore (lv' := [(5, .int (zI r19)), (4, .int (zI (k : Int))), (3, .int (zI rk)), (0, .ref a), (1, .int (zI u)), (2, .int (zI v))]) C dX8_rankOf_32 (by decide) rfl ?_
        refine x_iload C dX8_rankOf_34 0 rfl ?_
        refine x_iload_n C dX8_rankOf_36 rfl 5 rfl ?_
        refine z_icmp_gt (tgt := 52) C dX8_rankOf_37 (by decide) (rg_of (by omega) (by omega)) (rg_of (by omega) (by omega)) (fun c_23 => ?_) (fun c_23 => ?_)
        · refine z_iinc (lv' := [(3, .int (zI (rk + 1))), (5, .int (zI r19)), (4, .int (zI (k : Int))), (0, .ref a), (1, .int (zI u)), (2, .int (zI v))]) C dX8_rankOf_52 2 rfl rfl (by decide) rfl ?_
          refine z_iinc (lv' := [(4, .int (zI ((k : Int) + 1))), (3, .int (zI (rk + 1))), (5, .int (zI r19)), (0, .ref a), (1, .int (zI u)), (2, .int (zI v))]) C dX8_rankOf_55 2 rfl rfl (by decide) rfl ?_
          refine x_goto (tgt := 5) C dX8_rankOf_58 (by decide) ?_
          refine x_sub (lv' := [(4, .int (zI ((k : Int) + 1))), (3, .int (zI (rk + 1))), (0, .ref a), (1, .int (zI u)), (2, .int (zI v))]) [0, 1, 3, 4, 5] rfl ?_
          exact ih5 _ (by omega) (k + 1) _ (by omega) _ (by omega) (by rw [show b_rank σ u v (k + 1) = b_rank σ u v k + (if v < b_score σ k ∨ (b_score σ k = v ∧ (k : Int) < u) then 1 else 0) from rfl]; split <;> omega) rfl
        · refine x_iload C dX8_rankOf_40 0 rfl ?_
          refine x_iload_n C dX8_rankOf_42 rfl 5 rfl ?_
          refine z_icmp_ne (tgt := 55) C dX8_rankOf_43 (by decide) (rg_of (by omega) (by omega)) (rg_of (by omega) (by omega)) (fun c_24 => ?_) (fun c_24 => ?_)
          · refine z_iinc (lv' := [(4, .int (zI ((k : Int) + 1))), (5, .int (zI r19)), (3, .int (zI rk)), (0, .ref a), (1, .int (zI u)), (2, .int (zI v))]) C dX8_rankOf_55 1 rfl rfl (by decide) rfl ?_
            refine x_goto (tgt := 5) C dX8_rankOf_58 (by decide) ?_
            refine x_sub (lv' := [(4, .int (zI ((k : Int) + 1))), (3, .int (zI rk)), (0, .ref a), (1, .int (zI u)), (2, .int (zI v))]) [0, 2, 3, 4, 5] rfl ?_
            exact ih5 _ (by omega) (k + 1) _ (by omega) _ (by omega) (by rw [show b_rank σ u v (k + 1) = b_rank σ u v k + (if v < b_score σ k ∨ (b_score σ k = v ∧ (k : Int) < u) then 1 else 0) from rfl]; split <;> omega) rfl
          · refine x_iload C dX8_rankOf_46 1 rfl ?_
            refine x_iload_n C dX8_rankOf_48 rfl 4 rfl ?_
            refine z_icmp_ge (tgt := 55) C dX8_rankOf_49 (by decide) (rg_of (by omega) (by omega)) (rg_of (by omega) (by omega)) (fun c_25 => ?_) (fun c_25 => ?_)
            · refine z_iinc (lv' := [(4, .int (zI ((k : Int) + 1))), (5, .int (zI r19)), (3, .int (zI rk)), (0, .ref a), (1, .int (zI u)), (2, .int (zI v))]) C dX8_rankOf_55 1 rfl rfl (by decide) rfl ?_
              refine x_goto (tgt := 5) C dX8_rankOf_58 (by decide) ?_
              refine x_sub (lv' := [(4, .int (zI ((k : Int) + 1))), (3, .int (zI rk)), (0, .ref a), (1, .int (zI u)), (2, .int (zI v))]) [0, 2, 3, 4, 5] rfl ?_
              exact ih5 _ (by omega) (k + 1) _ (by omega) _ (by omega) (by rw [show b_rank σ u v (k + 1) = b_rank σ u v k + (if v < b_score σ k ∨ (b_score σ k = v ∧ (k : Int) < u) then 1 else 0) from rfl]; split <;> omega) rfl
            · refine z_iinc (lv' := [(3, .int (zI (rk + 1))), (5, .int (zI r19)), (4, .int (zI (k : Int))), (0, .ref a), (1, .int (zI u)), (2, .int (zI v))]) C dX8_rankOf_52 2 rfl rfl (by decide) rfl ?_
              refine z_iinc (lv' := [(4, .int (zI ((k : Int) + 1))), (3, .int (zI (rk + 1))), (5, .int (zI r19)), (0, .ref a), (1, .int (zI u)), (2, .int (zI v))]) C dX8_rankOf_55 2 rfl rfl (by decide) rfl ?_
              refine x_goto (tgt := 5) C dX8_rankOf_58 (by decide) ?_
              refine x_sub (lv' := [(4, .int (zI ((k : Int) + 1))), (3, .int (zI (rk + 1))), (0, .ref a), (1, .int (zI u)), (2, .int (zI v))]) [0, 1, 3, 4, 5] rfl ?_
              exact ih5 _ (by omega) (k + 1) _ (by omega) _ (by omega) (by rw [show b_rank σ u v (k + 1) = b_rank σ u v k + (if v < b_score σ k ∨ (b_score σ k = v ∧ (k : Int) < u) then 1 else 0) from rfl]; split <;> omega) rfl
  exact L5 _ (0) _ (by omega) _ (by omega) rfl rfl
abbrev rm_X8_walkerAt : Room := { frames := 4, cells := 0, slots := 0, locals := 89 }
set_option maxHeartbeats 4000000 in
set_option maxRecDepth 100000 in
theorem c_X8_walkerAt (l : Launch) (hst : l.stackTraces = false) (G : GG) (z : Nat) (μ : Mm) (a : Nat) (σ : SS) (n : Nat) (c : Int) (hC9 : RepC G z μ a σ n) (hI : Iv σ n) (hc : -2147483648 ≤ c ∧ c < 2147483648) : Ct l yX8_walkerAt wsX8_walkerAt rm_X8_walkerAt G z [.ref a, .int (zI c)] μ (rP μ (fun r9 => b_walkerAt σ c r9)) (nX) := by
  refine ct_of (cc := cX8_walkerAt) (maxL := 3) (ret := (some .int)) (own := RX8) (by decide) rfl rfl hst (Nat.le_of_ble_eq_true rfl) ?_
  intro E hLl hnm C R hT
  have in_X8 : ∀ w ∈ u_ws RX8 TX8 10, w ∈ wsX8_walkerAt := by decide +kernel
  have hC8 := hC9
  obtain ⟨ld, wy, sp, sl, wl, wp, ch, dr, nS, nW, nD, nL, nV, nC, xs, ys, so, sc, En, S, T, hnC, hX9⟩ := hC9
  have hX8 := hX9
  obtain ⟨hO, hL, hY, hSp, hSl, hWl, hWp, hCh, hDr, hSt, hWk, ⟨n7, n12, n6, n11, n18, n7r, n12r, n18r⟩, hIc⟩ := hX9
  have hnL := hSp.le
  have hnD := hDr.le
  refine x_eq (lv' := [(0, .ref a), (1, .int (zI c))]) rfl rfl ?_
  refine z_iconst C dX8_walkerAt_0 ?_
  refine x_istore_n (lv' := [(2, .int (zI 0)), (0, .ref a), (1, .int (zI c))]) C dX8_walkerAt_1 rfl (by decide) rfl ?_
  have L2 : ∀ (M9 : Nat) (k : Nat) (kz : Int) (hkz : kz = (k : Int)) (hk : k ≤ nW) (hno : ∀ v, v < k → rkw σ v ≠ c) (hM9 : nW - k = M9), Wx E G 0 0 2 [(2, .int (zI kz)), (0, .ref a), (1, .int (zI c))] [] μ := by
    intro M9
    induction M9 using Nat.strongRecOn with
    | ind M9 ih2 =>
      intro k kz hkz hk hno hM9
      subst hkz
      refine x_iload_n C dX8_walkerAt_2 rfl 0 rfl ?_
      refine x_aload_n C dX8_walkerAt_3 rfl 1 rfl ?_
      refine x_get (ci := 9) (Cn := RX8) (T := TX8) (N := 10) (ref := "CairnCipher") C dX8_walkerAt_4 in_X8 rfl hO 4 (by decide) (by decide +kernel) rfl rfl ?_
      refine x_callV (n := 0) (ci := 0) (Cn := RJx4a65c) (T := TJx4a65c) (N := 3) (cc9 := 0) (ss9 := 0) (rest := [.int (zI (k : Int))]) C dX8_walkerAt_7 (c_Jx4a65c_size_8abf5 (kxL E) C.st G z μ _ _ _ _ hWl) gX8_walkerAt_Jx4a65c_size_8abf5 rfl (by decide +kernel) ⟨(Nat.le_of_ble_eq_true rfl), (Nat.le_of_ble_eq_true rfl)⟩ rfl hWl.ob rfl rfl (Nat.le_of_ble_eq_true rfl) rfl rfl ⟨(Nat.le_of_ble_eq_true rfl), (Nat.le_of_ble_eq_true rfl)⟩ nX_no (fun v1 μ2 hv3 => ?_)
      obtain ⟨r4, hw7, h5, hm6⟩ := hv3
      subst hw7
      rw [hm6]
      refine x_stk (stk' := [.int (zI r4), .int (zI (k : Int))]) rfl ?_
      refine z_icmp_ge (tgt := 44) C dX8_walkerAt_10 (by decide) (rg_of (by omega) (by omega)) (rg_of (by omega) (by omega)) (fun c_8 => ?_) (fun c_8 => ?_)
      · refine z_iconst C dX8_walkerAt_44 ?_
        exact x_iret C R dX8_walkerAt_45 (Nat.le_of_ble_eq_true rfl) (Nat.le_of_ble_eq_true rfl) (⟨_, rfl, Or.inr ⟨fun w hw => hno w (by omega), rfl⟩, rfl⟩)
      · refine x_aload_n C dX8_walkerAt_13 rfl 1 rfl ?_
        refine x_iload_n C dX8_walkerAt_14 rfl 0 rfl ?_
        refine x_aload_n C dX8_walkerAt_15 rfl 1 rfl ?_
        refine x_get (ci := 9) (Cn := RX8) (T := TX8) (N := 10) (ref := "CairnCipher") C dX8_walkerAt_16 in_X8 rfl hO 4 (by decide) (by decide +kernel) rfl rfl ?_
        refine x_iload_n C dX8_walkerAt_19 rfl 0 rfl ?_
        refine x_callV (n := 1) (ci := 0) (Cn := RJx4a65c) (T := TJx4a65c) (N := 3) (cc9 := 0) (ss9 := 0) (rest := [.int (zI (k : Int)), .ref a]) C dX8_walkerAt_20 (c_Jx4a65c_get_915e3 (kxL E) C.st G z μ _ _ _ _ k hWl (by omega)) gX8_walkerAt_Jx4a65c_get_915e3 rfl (by decide +kernel) ⟨(Nat.le_of_ble_eq_true rfl), (Nat.le_of_ble_eq_true rfl)⟩ rfl hWl.ob rfl rfl (Nat.le_of_ble_eq_true rfl) rfl rfl ⟨(Nat.le_of_ble_eq_true rfl), (Nat.le_of_ble_eq_true rfl)⟩ nX_no (fun v9 μ10 hv11 => ?_)
        obtain ⟨r12, hw15, h13, hm14⟩ := hv11
        subst hw15
        rw [hm14]
        have hWa := hWk k (by omega) (by omega)
        rw [← h13] at hWa
        have hWb := hWa.rg
        refine x_stk (stk' := [.ref r12, .int (zI (k : Int)), .ref a]) rfl ?_
        refine x_cast (ci := 7) (Cn := RX6) (T := TX6) (N := 9) C dX8_walkerAt_23 rfl hWa.ob (by decide +kernel) ?_
        refine x_callV (n := 0) (ci := 7) (Cn := RX6) (T := TX6) (N := 9) (cc9 := 0) (ss9 := 0) (rest := [.int (zI (k : Int)), .ref a]) C dX8_walkerAt_26 (c_X6_keptScore (kxL E) C.st G z μ _ _ _ _ _ _ _ _ _ _ _  hWa ) gX8_walkerAt_X6_keptScore rfl (by decide +kernel) ⟨(Nat.le_of_ble_eq_true rfl), (Nat.le_of_ble_eq_true rfl)⟩ rfl hWa.ob rfl rfl (Nat.le_of_ble_eq_true rfl) rfl rfl ⟨(Nat.le_of_ble_eq_true rfl), (Nat.le_of_ble_eq_true rfl)⟩ nX_no (fun v16 μ17 hv18 => ?_)
        obtain ⟨r19, hw22, h20, hm21⟩ := hv18
        subst hw22
        rw [hm21]
        have hs9 := h20
        have hs8 := hIc.sc (show k < 6 by omega) n7 n7r
        refine x_stk (stk' := [.int (zI r19), .int (zI (k : Int)), .ref a]) rfl ?_
        refine x_callV (n := 2) (ci := 9) (Cn := RX8) (T := TX8) (N := 10) (cc9 := 0) (ss9 := 0) (rest := []) C dX8_walkerAt_29 (c_X8_rankOf (kxL E) C.st G z μ _ _ _ (k : Int) r19 hC8 hI (by omega) (by omega)) gX8_walkerAt_X8_rankOf rfl (by decide +kernel) ⟨(Nat.le_of_ble_eq_true rfl), (Nat.le_of_ble_eq_true rfl)⟩ rfl ⟨_, _, hO⟩ rfl rfl (Nat.le_of_ble_eq_true rfl) rfl rfl ⟨(Nat.le_of_ble_eq_true rfl), (Nat.le_of_ble_eq_true rfl)⟩ nX_no (fun v23 μ24 hv25 => ?_)
        obtain ⟨r26, hw29, h27, hm28⟩ := hv25
        subst hw29
        rw [hm28]
        have hr9 : r26 = rkw σ k := by (rw [h27]; unfold rkw; rw [hs9, hs8])
        have hr8 := b_rank_rg σ (k : Int) (b_score σ k) (σ 12 0).toNat
        have hr7 : rkw σ k = b_rank σ (k : Int) (b_score σ k) (σ 12 0).toNat := rfl
        refine x_stk (stk' := [.int (zI r26)]) rfl ?_
        refine x_iload_n C dX8_walkerAt_32 rfl 2 rfl ?_
        refine z_icmp_ne (tgt := 38) C dX8_walkerAt_33 (by decide) (rg_of (by omega) (by omega)) (rg_of (by omega) (by omega)) (fun c_30 => ?_) (fun c_30 => ?_)
        · refine z_iinc (lv' := [(2, .int (zI ((k : Int) + 1))), (0, .ref a), (1, .int (zI c))]) C dX8_walkerAt_38 0 rfl rfl (by decide) rfl ?_
          refine x_goto (tgt := 2) C dX8_walkerAt_41 (by decide) ?_
          exact ih2 _ (by omega) (k + 1) _ (by omega) (by omega) (fun v hv => by (by_cases e : v = k); subst e; omega; exact hno v (by omega)) rfl
        · refine x_iload_n C dX8_walkerAt_36 rfl 0 rfl ?_
          exact x_iret C R dX8_walkerAt_37 (Nat.le_of_ble_eq_true rfl) (Nat.le_of_ble_eq_true rfl) (⟨_, rfl, Or.inl ⟨k, by omega, rfl, by omega, hno⟩, rfl⟩)
  exact L2 _ (0) _ (by omega) (by omega) (fun v hv => absurd hv (Nat.not_lt_zero v)) rfl
abbrev rm_X8_sees : Room := { frames := 6, cells := 1, slots := 6, locals := 89 }
set_option maxHeartbeats 4000000 in
set_option maxRecDepth 100000 in
theorem c_X8_sees (l : Launch) (hst : l.stackTraces = false) (G : GG) (z : Nat) (μ : Mm) (a : Nat) (σ : SS) (n : Nat) (w : Int) (hC9 : RepC G z μ a σ n) (hI : Iv σ n) (hw : -2147483648 ≤ w ∧ w < 2147483648) : Ct l yX8_sees wsX8_sees rm_X8_sees G z [.ref a, .int (zI w)] μ (rP μ (fun r9 => t_sees σ w = 0 ∧ r9 = seeN σ (σ 19 w.toNat) (σ 12 0).toNat)) (fun En => (En = "java/lang/IndexOutOfBoundsException" ∧ t_sees σ w = 1)) := by
  refine ct_of (cc := cX8_sees) (maxL := 4) (ret := (some .int)) (own := RX8) (by decide) rfl rfl hst (Nat.le_of_ble_eq_true rfl) ?_
  intro E hLl hnm C R hT
  have in_X8 : ∀ w ∈ u_ws RX8 TX8 10, w ∈ wsX8_sees := by decide +kernel
  have hC8 := hC9
  obtain ⟨ld, wy, sp, sl, wl, wp, ch, dr, nS, nW, nD, nL, nV, nC, xs, ys, so, sc, En, S, T, hnC, hX9⟩ := hC9
  have hX8 := hX9
  obtain ⟨hO, hL, hY, hSp, hSl, hWl, hWp, hCh, hDr, hSt, hWk, ⟨n7, n12, n6, n11, n18, n7r, n12r, n18r⟩, hIc⟩ := hX9
  have hnL := hSp.le
  have hnD := hDr.le
  have hpr : ∀ j, j < 4 → 0 ≤ σ 19 j ∧ σ 19 j ≤ 63 := fun j hj => hI 19 (by decide) j hj
  refine x_eq (lv' := [(0, .ref a), (1, .int (zI w))]) rfl rfl ?_
  refine x_iload_n C dX8_sees_0 rfl 1 rfl ?_
  refine z_if_lt (tgt := 21) C dX8_sees_1 (by decide) (rg_of (by omega) (by omega)) (fun c_1 => ?_) (fun c_1 => ?_)
  · exact x_throw (En := "java/lang/IndexOutOfBoundsException") (names := ["java/lang/RuntimeException", "java/lang/Exception"]) C R hT dX8_sees_21 dX8_sees_24 dX8_sees_25 dX8_sees_28 (by decide +kernel) (by decide +kernel) (by decide +kernel) (by decide +kernel) (by decide +kernel) (by decide +kernel) (by decide +kernel) (Nat.le_of_ble_eq_true rfl) (Nat.le_of_ble_eq_true rfl) (Nat.le_of_ble_eq_true rfl) (Nat.le_of_ble_eq_true rfl) (⟨rfl, by (unfold t_sees; (repeat split) <;> omega)⟩) (Nat.le_of_ble_eq_true rfl) (Nat.le_of_ble_eq_true rfl)
  · refine x_iload_n C dX8_sees_4 rfl 1 rfl ?_
    refine x_aload_n C dX8_sees_5 rfl 0 rfl ?_
    refine x_get (ci := 9) (Cn := RX8) (T := TX8) (N := 10) (ref := "CairnCipher") C dX8_sees_6 in_X8 rfl hO 8 (by decide) (by decide +kernel) rfl rfl ?_
    refine z_icmp_ge (tgt := 21) C dX8_sees_9 (by decide) (rg_of (by omega) (by omega)) (rg_of (by omega) (by omega)) (fun c_2 => ?_) (fun c_2 => ?_)
    · exact x_throw (En := "java/lang/IndexOutOfBoundsException") (names := ["java/lang/RuntimeException", "java/lang/Exception"]) C R hT dX8_sees_21 dX8_sees_24 dX8_sees_25 dX8_sees_28 (by decide +kernel) (by decide +kernel) (by decide +kernel) (by decide +kernel) (by decide +kernel) (by decide +kernel) (by decide +kernel) (Nat.le_of_ble_eq_true rfl) (Nat.le_of_ble_eq_true rfl) (Nat.le_of_ble_eq_true rfl) (Nat.le_of_ble_eq_true rfl) (⟨rfl, by (unfold t_sees; (repeat split) <;> omega)⟩) (Nat.le_of_ble_eq_true rfl) (Nat.le_of_ble_eq_true rfl)
    · refine x_iload_n C dX8_sees_12 rfl 1 rfl ?_
      refine x_aload_n C dX8_sees_13 rfl 0 rfl ?_
      refine x_get (ci := 9) (Cn := RX8) (T := TX8) (N := 10) (ref := "CairnCipher") C dX8_sees_14 in_X8 rfl hO 5 (by decide) (by decide +kernel) rfl rfl ?_
      refine z_alenI C dX8_sees_17 hWp rfl ?_
      refine z_icmp_lt (tgt := 29) C dX8_sees_18 (by decide) (rg_of (by omega) (by omega)) (rg_of (by omega) (by omega)) (fun c_3 => ?_) (fun c_3 => ?_)
      · refine z_iconst C dX8_sees_29 ?_
        refine x_istore_n (lv' := [(2, .int (zI 0)), (0, .ref a), (1, .int (zI w))]) C dX8_sees_30 rfl (by decide) rfl ?_
        refine z_iconst C dX8_sees_31 ?_
        refine x_istore_n (lv' := [(3, .int (zI 0)), (2, .int (zI 0)), (0, .ref a), (1, .int (zI w))]) C dX8_sees_32 rfl (by decide) rfl ?_
        have L33 : ∀ (M9 : Nat) (k : Nat) (kz : Int) (hkz : kz = (k : Int)) (s : Int) (hk : k ≤ nW) (hs : s = seeN σ (σ 19 w.toNat) k) (hM9 : nW - k = M9), Wx E G 0 0 33 [(3, .int (zI kz)), (2, .int (zI s)), (0, .ref a), (1, .int (zI w))] [] μ := by
          intro M9
          induction M9 using Nat.strongRecOn with
          | ind M9 ih33 =>
            intro k kz hkz s hk hs hM9
            subst hkz
            have hsr := seeN_rg σ (σ 19 w.toNat) k
            have hp2 := p2_6 k (by omega)
            have hpw := hpr w.toNat (by omega)
            refine x_iload_n C dX8_sees_33 rfl 0 rfl ?_
            refine x_aload_n C dX8_sees_34 rfl 2 rfl ?_
            refine x_get (ci := 9) (Cn := RX8) (T := TX8) (N := 10) (ref := "CairnCipher") C dX8_sees_35 in_X8 rfl hO 4 (by decide) (by decide +kernel) rfl rfl ?_
            refine x_callV (n := 0) (ci := 0) (Cn := RJx4a65c) (T := TJx4a65c) (N := 3) (cc9 := 0) (ss9 := 0) (rest := [.int (zI (k : Int))]) C dX8_sees_38 (c_Jx4a65c_size_8abf5 (kxL E) C.st G z μ _ _ _ _ hWl) gX8_sees_Jx4a65c_size_8abf5 rfl (by decide +kernel) ⟨(Nat.le_of_ble_eq_true rfl), (Nat.le_of_ble_eq_true rfl)⟩ rfl hWl.ob rfl rfl (Nat.le_of_ble_eq_true rfl) rfl rfl ⟨(Nat.le_of_ble_eq_true rfl), (Nat.le_of_ble_eq_true rfl)⟩ nX_no (fun v4 μ5 hv6 => ?_)
            obtain ⟨r7, hw10, h8, hm9⟩ := hv6
            subst hw10
            rw [hm9]
            refine x_stk (stk' := [.int (zI r7), .int (zI (k : Int))]) rfl ?_
            refine z_icmp_ge (tgt := 83) C dX8_sees_41 (by decide) (rg_of (by omega) (by omega)) (rg_of (by omega) (by omega)) (fun c_11 => ?_) (fun c_11 => ?_)
            · refine x_iload_n C dX8_sees_83 rfl 1 rfl ?_
              exact x_iret C R dX8_sees_84 (Nat.le_of_ble_eq_true rfl) (Nat.le_of_ble_eq_true rfl) (⟨_, rfl, ⟨by (unfold t_sees; (repeat split) <;> omega), by (rw [hs, n12, Int.toNat_natCast, show k = nW by omega])⟩, rfl⟩)
            · refine x_aload_n C dX8_sees_44 rfl 2 rfl ?_
              refine x_get (ci := 9) (Cn := RX8) (T := TX8) (N := 10) (ref := "CairnCipher") C dX8_sees_45 in_X8 rfl hO 5 (by decide) (by decide +kernel) rfl rfl ?_
              refine x_iload_n C dX8_sees_48 rfl 3 rfl ?_
              refine z_iald (j := w.toNat) C dX8_sees_49 hWp (by omega) (by omega) (by decide) ?_
              have q_12 := hpr w.toNat (by omega)
              refine x_aload_n C dX8_sees_50 rfl 2 rfl ?_
              refine x_get (ci := 9) (Cn := RX8) (T := TX8) (N := 10) (ref := "CairnCipher") C dX8_sees_51 in_X8 rfl hO 4 (by decide) (by decide +kernel) rfl rfl ?_
              refine x_iload_n C dX8_sees_54 rfl 0 rfl ?_
              refine x_callV (n := 1) (ci := 0) (Cn := RJx4a65c) (T := TJx4a65c) (N := 3) (cc9 := 0) (ss9 := 0) (rest := [.int (zI ((σ 19) w.toNat))]) C dX8_sees_55 (c_Jx4a65c_get_915e3 (kxL E) C.st G z μ _ _ _ _ k hWl (by omega)) gX8_sees_Jx4a65c_get_915e3 rfl (by decide +kernel) ⟨(Nat.le_of_ble_eq_true rfl), (Nat.le_of_ble_eq_true rfl)⟩ rfl hWl.ob rfl rfl (Nat.le_of_ble_eq_true rfl) rfl rfl ⟨(Nat.le_of_ble_eq_true rfl), (Nat.le_of_ble_eq_true rfl)⟩ nX_no (fun v13 μ14 hv15 => ?_)
              obtain ⟨r16, hw19, h17, hm18⟩ := hv15
              subst hw19
              rw [hm18]
              have hWa := hWk k (by omega) (by omega)
              rw [← h17] at hWa
              have hWb := hWa.rg
              refine x_stk (stk' := [.ref r16, .int (zI ((σ 19) w.toNat))]) rfl ?_
              refine x_cast (ci := 7) (Cn := RX6) (T := TX6) (N := 9) C dX8_sees_58 rfl hWa.ob (by decide +kernel) ?_
              refine x_callV (n := 0) (ci := 7) (Cn := RX6) (T := TX6) (N := 9) (cc9 := 0) (ss9 := 0) (rest := [.int (zI ((σ 19) w.toNat))]) C dX8_sees_61 (c_X6_standsAt (kxL E) C.st G z μ _ _ _ _ _ _ _ _ _ _ _  hWa ) gX8_sees_X6_standsAt rfl (by decide +kernel) ⟨(Nat.le_of_ble_eq_true rfl), (Nat.le_of_ble_eq_true rfl)⟩ rfl hWa.ob rfl rfl (Nat.le_of_ble_eq_true rfl) rfl rfl ⟨(Nat.le_of_ble_eq_true rfl), (Nat.le_of_ble_eq_true rfl)⟩ nX_no (fun v20 μ21 hv22 => ?_)
              obtain ⟨r23, hw26, h24, hm25⟩ := hv22
              subst hw26
              rw [hm25]
              have hs9 := h24
              refine x_stk (stk' := [.int (zI r23), .int (zI ((σ 19) w.toNat))]) rfl ?_
              refine x_callS (n := 2) (cc9 := 0) (ss9 := 0) (rest := []) C dX8_sees_64 (c_X3_distance (kxL E) C.st G z μ ((σ 19) w.toNat) r23 (by omega) (by omega)) gX8_sees_X3_distance rfl (by decide +kernel) ⟨(Nat.le_of_ble_eq_true rfl), (Nat.le_of_ble_eq_true rfl)⟩ rfl rfl (Nat.le_of_ble_eq_true rfl) rfl rfl ⟨(Nat.le_of_ble_eq_true rfl), (Nat.le_of_ble_eq_true rfl)⟩ nX_no (fun v27 μ28 hv29 => ?_)
              obtain ⟨r30, hw33, h31, hm32⟩ := hv29
              subst hw33
              rw [hm32]
              rw [hs9] at h31
              have hd9 := h31
              have hd8 := dst_rg (p := σ 19 w.toNat) (q := σ 14 k) (by omega) (by omega)
              refine x_stk (stk' := [.int (zI r30)]) rfl ?_
              refine z_iconst C dX8_sees_67 ?_
              refine z_icmp_gt (tgt := 77) C dX8_sees_68 (by decide) (rg_of (by omega) (by omega)) (rg_of (by omega) (by omega)) (fun c_34 => ?_) (fun c_34 => ?_)
              · refine z_iinc (lv' := [(3, .int (zI ((k : Int) + 1))), (2, .int (zI s)), (0, .ref a), (1, .int (zI w))]) C dX8_sees_77 0 rfl rfl (by decide) rfl ?_
                refine x_goto (tgt := 33) C dX8_sees_80 (by decide) ?_
                exact ih33 _ (by omega) (k + 1) _ (by omega) _ (by omega) (by rw [show seeN σ (σ 19 w.toNat) (k + 1) = seeN σ (σ 19 w.toNat) k + (if dst (σ 19 w.toNat) (σ 14 k) ≤ 3 then p2 k else 0) from rfl]; split <;> omega) rfl
              · refine x_iload_n C dX8_sees_71 rfl 1 rfl ?_
                refine z_iconst C dX8_sees_72 ?_
                refine x_iload_n C dX8_sees_73 rfl 0 rfl ?_
                refine x_ishl C dX8_sees_74 rfl ?_
                refine x_ior (v := zI (s + p2 k)) C dX8_sees_75 (ior_z (by omega) (by omega)) ?_
                refine x_istore_n (lv' := [(2, .int (zI (s + p2 k))), (3, .int (zI (k : Int))), (0, .ref a), (1, .int (zI w))]) C dX8_sees_76 rfl (by decide) rfl ?_
                refine z_iinc (lv' := [(3, .int (zI ((k : Int) + 1))), (2, .int (zI (s + p2 k))), (0, .ref a), (1, .int (zI w))]) C dX8_sees_77 1 rfl rfl (by decide) rfl ?_
                refine x_goto (tgt := 33) C dX8_sees_80 (by decide) ?_
                exact ih33 _ (by omega) (k + 1) _ (by omega) _ (by omega) (by rw [show seeN σ (σ 19 w.toNat) (k + 1) = seeN σ (σ 19 w.toNat) k + (if dst (σ 19 w.toNat) (σ 14 k) ≤ 3 then p2 k else 0) from rfl]; split <;> omega) rfl
        exact L33 _ (0) _ (by omega) _ (by omega) rfl rfl
      · exact x_throw (En := "java/lang/IndexOutOfBoundsException") (names := ["java/lang/RuntimeException", "java/lang/Exception"]) C R hT dX8_sees_21 dX8_sees_24 dX8_sees_25 dX8_sees_28 (by decide +kernel) (by decide +kernel) (by decide +kernel) (by decide +kernel) (by decide +kernel) (by decide +kernel) (by decide +kernel) (Nat.le_of_ble_eq_true rfl) (Nat.le_of_ble_eq_true rfl) (Nat.le_of_ble_eq_true rfl) (Nat.le_of_ble_eq_true rfl) (⟨rfl, by (unfold t_sees; (repeat split) <;> omega)⟩) (Nat.le_of_ble_eq_true rfl) (Nat.le_of_ble_eq_true rfl)
