abbrev rm_X3_init : Room := { frames := 1, cells := 2, slots := 128, locals := 20 }
set_option maxHeartbeats 4000000 in
set_option maxRecDepth 100000 in
theorem c_X3_init (l : Launch) (hst : l.stackTraces = false) (G : GG) (z : Nat) (μ : Mm) (a : Nat) (hO : OB μ a 1 4 [.null, .null]) : Ct l yX3_init wsX3_init rm_X3_init G z [.ref a] μ (rV (fun μ' => LandR G μ' a (fun _ => 0) (fun _ => 0) ∧ Fr 1 4 μ μ')) (nX) := by
  refine ct_of (cc := cX3_init) (maxL := 1) (ret := none) (own := RX3) (by decide) rfl rfl hst (Nat.le_of_ble_eq_true rfl) ?_
  intro E hLl hnm C R hT
  have in_X3 : ∀ w ∈ u_ws RX3 TX3 2, w ∈ wsX3_init := by decide +kernel
  have hFr : Fr 1 4 μ μ := Fr.rf
  refine x_eq (lv' := [(0, .ref a)]) rfl rfl ?_
  refine x_aload_n C dX3_init_0 rfl 0 rfl ?_
  refine x_objInit C dX3_init_1 (by decide +kernel) (by decide +kernel) (by decide +kernel) (Nat.le_of_ble_eq_true rfl) (Nat.le_of_ble_eq_true rfl) ?_
  refine x_aload_n C dX3_init_4 rfl 0 rfl ?_
  refine z_bipush C dX3_init_5 (by decide) ?_
  refine z_newI (N9 := 64) (cc9 := 1) (ss9 := 64) C 2 dX3_init_7 (by decide +kernel) rfl (by decide) rfl rfl (Nat.le_of_ble_eq_true rfl) (Nat.le_of_ble_eq_true rfl) (fun a1 μ2 hq3 hA4 hF5 => ?_)
  have hF6 : Fr 0 0 μ μ2 := hF5 _ _
  have hO := (hF5 0 0).ob hO (Or.inr (Nat.zero_le _))
  have hFr : Fr 1 4 μ μ2 := hFr.tr (hF5 1 4)
  refine z_putF (ci := 4) (Cn := RX3) (T := TX3) (N := 2) (ref := "CairnCipher$Land") (fs' := [.ref a1, .null]) C dX3_init_9 hnm in_X3 rfl tyX3 tyX3_ok nmX3 hO 0 (by decide) (by decide +kernel) rfl rfl rfl rfl rfl rfl (Nat.le_of_ble_eq_true rfl) rfl (fun μ7 hOw hF8 => ?_)
  have hA4 := hF8.ai hA4
  have hFr : Fr 1 4 μ μ7 := hFr.tr hF8
  have hO := hOw
  refine x_aload_n C dX3_init_12 rfl 0 rfl ?_
  refine z_bipush C dX3_init_13 (by decide) ?_
  refine z_newZ (N9 := 64) (cc9 := 2) (ss9 := 128) C 3 dX3_init_15 (by decide +kernel) rfl (by decide) rfl rfl (Nat.le_of_ble_eq_true rfl) (Nat.le_of_ble_eq_true rfl) (fun a9 μ10 hq11 hA12 hF13 => ?_)
  have hF14 : Fr 0 0 μ7 μ10 := hF13 _ _
  have hO := (hF13 0 0).ob hO (Or.inr (Nat.zero_le _))
  have hA4 := (hF13 0 0).ai hA4 (Or.inr (Nat.zero_le _))
  have hFr : Fr 1 4 μ μ10 := hFr.tr (hF13 1 4)
  refine z_putF (ci := 4) (Cn := RX3) (T := TX3) (N := 2) (ref := "CairnCipher$Land") (fs' := [.ref a1, .ref a9]) C dX3_init_17 hnm in_X3 rfl tyX3 tyX3_ok nmX3 hO 1 (by decide) (by decide +kernel) rfl rfl rfl rfl rfl rfl (Nat.le_of_ble_eq_true rfl) rfl (fun μ15 hOw hF16 => ?_)
  have hA4 := hF16.ai hA4
  have hA12 := hF16.az hA12
  have hFr : Fr 1 4 μ μ15 := hFr.tr hF16
  have hO := hOw
  exact x_vret C R dX3_init_20 (Nat.le_of_ble_eq_true rfl) (Nat.le_of_ble_eq_true rfl) (⟨rfl, ⟨_, _, hO, hA4, hA12, fun j hj => by (show (0 : Int) ≤ 0 ∧ (0 : Int) ≤ 9; omega), fun j hj => Or.inl rfl⟩, hFr⟩)
abbrev rm_X8_init : Room := { frames := 5, cells := 15, slots := 795, locals := 100 }
set_option maxHeartbeats 4000000 in
set_option maxRecDepth 100000 in
theorem c_X8_init (l : Launch) (hst : l.stackTraces = false) (G : GG) (z : Nat) (μ : Mm) (a : Nat) (hO : OB μ a 0 9 [.null, .null, .null, .null, .null, .null, .null, .null, .int (zI 0), .int (zI 0)]) : Ct l yX8_init wsX8_init rm_X8_init G z [.ref a] μ (rV (fun μ' => RepC G z μ' a s0 0 ∧ Fr 0 2999 μ μ')) (nX) := by
  refine ct_of (cc := cX8_init) (maxL := 1) (ret := none) (own := RX8) (by decide) rfl rfl hst (Nat.le_of_ble_eq_true rfl) ?_
  intro E hLl hnm C R hT
  have in_Jx4a65c : ∀ w ∈ u_ws RJx4a65c TJx4a65c 3, w ∈ wsX8_init := by decide +kernel
  have in_X0 : ∀ w ∈ u_ws RX0 TX0 2, w ∈ wsX8_init := by decide +kernel
  have in_X2 : ∀ w ∈ u_ws RX2 TX2 1, w ∈ wsX8_init := by decide +kernel
  have in_X3 : ∀ w ∈ u_ws RX3 TX3 2, w ∈ wsX8_init := by decide +kernel
  have in_X5 : ∀ w ∈ u_ws RX5 TX5 2, w ∈ wsX8_init := by decide +kernel
  have in_X7 : ∀ w ∈ u_ws RX7 TX7 2, w ∈ wsX8_init := by decide +kernel
  have in_X8 : ∀ w ∈ u_ws RX8 TX8 10, w ∈ wsX8_init := by decide +kernel
  have hFr : Fr 0 2999 μ μ := Fr.rf
  refine x_eq (lv' := [(0, .ref a)]) rfl rfl ?_
  refine x_aload_n C dX8_init_0 rfl 0 rfl ?_
  refine x_objInit C dX8_init_1 (by decide +kernel) (by decide +kernel) (by decide +kernel) (Nat.le_of_ble_eq_true rfl) (Nat.le_of_ble_eq_true rfl) ?_
  refine x_aload_n C dX8_init_4 rfl 0 rfl ?_
  refine z_new (ci := 4) (Cn := RX3) (T := TX3) (N := 2) (cc9 := 1) (ss9 := 2) (fs := [.null, .null]) C 1 dX8_init_5 in_X3 rfl tyX3 tyX3_ok (by decide +kernel) (by decide +kernel) (by decide +kernel) (fun j hj => by rcases (show j = 0 ∨ j = 1 by omega) with rfl | rfl <;> rfl) rfl rfl (Nat.le_of_ble_eq_true rfl) (Nat.le_of_ble_eq_true rfl) (fun a1 μ2 hq3 hO4 hF5 => ?_)
  have hF6 : Fr 0 0 μ μ2 := hF5 _ _
  have hO := (hF5 0 0).ob hO (Or.inr (Nat.zero_le _))
  have hFr : Fr 0 2999 μ μ2 := hFr.tr (hF5 0 2999)
  refine x_dup C dX8_init_8 rfl ?_
  refine x_callIN (n := 0) (host := "CairnCipher") (cc9 := 3) (ss9 := 130) (rest := [.ref a1, .ref a]) C dX8_init_9 (c_X3_init (kxL E) C.st G z μ2 a1 hO4) gX8_init_X3_init_n11 rfl (by decide +kernel) (by decide +kernel) (by decide +kernel) rfl (by decide +kernel) ⟨(Nat.le_of_ble_eq_true rfl), (Nat.le_of_ble_eq_true rfl)⟩ rfl rfl (Nat.le_of_ble_eq_true rfl) rfl rfl ⟨(Nat.le_of_ble_eq_true rfl), (Nat.le_of_ble_eq_true rfl)⟩ nX_no (fun v7 μ8 hv9 => ?_)
  obtain ⟨hw13, h11⟩ := hv9
  subst hw13
  obtain ⟨hL, hF9⟩ := h11
  have hF14 := hF9
  have hO := hF14.ob hO
  have hFr : Fr 0 2999 μ μ8 := hFr.tr hF14
  refine x_stk (stk' := [.ref a1, .ref a]) rfl ?_
  refine z_putF (ci := 9) (Cn := RX8) (T := TX8) (N := 10) (ref := "CairnCipher") (fs' := [.ref a1, .null, .null, .null, .null, .null, .null, .null, .int (zI 0), .int (zI 0)]) C dX8_init_12 hnm in_X8 rfl tyX8 tyX8_ok nmX8 hO 0 (by decide) (by decide +kernel) rfl rfl rfl rfl rfl rfl (Nat.le_of_ble_eq_true rfl) rfl (fun μ15 hOw hF16 => ?_)
  have hL : LandR G μ15 a1 (fun _ => 0) (fun _ => 0) := hF16.land hL
  have hFr : Fr 0 2999 μ μ15 := hFr.tr hF16
  have hO := hOw
  refine x_aload_n C dX8_init_15 rfl 0 rfl ?_
  refine z_new (ci := 8) (Cn := RX7) (T := TX7) (N := 2) (cc9 := 4) (ss9 := 132) (fs := [.null, .null]) C 4 dX8_init_16 in_X7 rfl tyX7 tyX7_ok (by decide +kernel) (by decide +kernel) (by decide +kernel) (fun j hj => by rcases (show j = 0 ∨ j = 1 by omega) with rfl | rfl <;> rfl) rfl rfl (Nat.le_of_ble_eq_true rfl) (Nat.le_of_ble_eq_true rfl) (fun a17 μ18 hq19 hO20 hF21 => ?_)
  have hF22 : Fr 0 0 μ15 μ18 := hF21 _ _
  have hO := (hF21 0 0).ob hO (Or.inr (Nat.zero_le _))
  have hL : LandR G μ18 a1 (fun _ => 0) (fun _ => 0) := (hF21 0 0).land hL
  have hFr : Fr 0 2999 μ μ18 := hFr.tr (hF21 0 2999)
  refine x_dup C dX8_init_19 rfl ?_
  refine x_callIN (n := 0) (host := "CairnCipher") (cc9 := 6) (ss9 := 260) (rest := [.ref a17, .ref a]) C dX8_init_20 (c_X7_init (kxL E) C.st G z μ18 a17 hO20) gX8_init_X7_init_n18 rfl (by decide +kernel) (by decide +kernel) (by decide +kernel) rfl (by decide +kernel) ⟨(Nat.le_of_ble_eq_true rfl), (Nat.le_of_ble_eq_true rfl)⟩ rfl rfl (Nat.le_of_ble_eq_true rfl) rfl rfl ⟨(Nat.le_of_ble_eq_true rfl), (Nat.le_of_ble_eq_true rfl)⟩ nX_no (fun v23 μ24 hv25 => ?_)
  obtain ⟨hw29, h27⟩ := hv25
  subst hw29
  obtain ⟨⟨S9, T9, hY⟩, hF9⟩ := h27
  have hF30 := hF9
  have hO := hF30.ob hO
  have hL : LandR G μ24 a1 (fun _ => 0) (fun _ => 0) := hF30.land hL
  have hFr : Fr 0 2999 μ μ24 := hFr.tr hF30
  refine x_stk (stk' := [.ref a17, .ref a]) rfl ?_
  refine z_putF (ci := 9) (Cn := RX8) (T := TX8) (N := 10) (ref := "CairnCipher") (fs' := [.ref a1, .ref a17, .null, .null, .null, .null, .null, .null, .int (zI 0), .int (zI 0)]) C dX8_init_23 hnm in_X8 rfl tyX8 tyX8_ok nmX8 hO 1 (by decide) (by decide +kernel) rfl rfl rfl rfl rfl rfl (Nat.le_of_ble_eq_true rfl) rfl (fun μ31 hOw hF32 => ?_)
  have hL : LandR G μ31 a1 (fun _ => 0) (fun _ => 0) := hF32.land hL
  have hY : WaysR G μ31 a17 S9 T9 := hF32.ways hY
  have hFr : Fr 0 2999 μ μ31 := hFr.tr hF32
  have hO := hOw
  refine x_aload_n C dX8_init_26 rfl 0 rfl ?_
  refine z_new (ci := 6) (Cn := RX5) (T := TX5) (N := 2) (cc9 := 7) (ss9 := 262) (fs := [.null, .int (zI 0)]) C 7 dX8_init_27 in_X5 rfl tyX5 tyX5_ok (by decide +kernel) (by decide +kernel) (by decide +kernel) (fun j hj => by rcases (show j = 0 ∨ j = 1 by omega) with rfl | rfl <;> rfl) rfl rfl (Nat.le_of_ble_eq_true rfl) (Nat.le_of_ble_eq_true rfl) (fun a33 μ34 hq35 hO36 hF37 => ?_)
  have hF38 : Fr 0 0 μ31 μ34 := hF37 _ _
  have hO := (hF37 0 0).ob hO (Or.inr (Nat.zero_le _))
  have hL : LandR G μ34 a1 (fun _ => 0) (fun _ => 0) := (hF37 0 0).land hL
  have hY : WaysR G μ34 a17 S9 T9 := (hF37 0 0).ways hY
  have hFr : Fr 0 2999 μ μ34 := hFr.tr (hF37 0 2999)
  refine x_dup C dX8_init_30 rfl ?_
  refine x_callIN (n := 0) (host := "CairnCipher") (cc9 := 8) (ss9 := 267) (rest := [.ref a33, .ref a]) C dX8_init_31 (c_X5_init (kxL E) C.st G z μ34 a33 7 hO36) gX8_init_X5_init_n25 rfl (by decide +kernel) (by decide +kernel) (by decide +kernel) rfl (by decide +kernel) ⟨(Nat.le_of_ble_eq_true rfl), (Nat.le_of_ble_eq_true rfl)⟩ rfl rfl (Nat.le_of_ble_eq_true rfl) rfl rfl ⟨(Nat.le_of_ble_eq_true rfl), (Nat.le_of_ble_eq_true rfl)⟩ nX_no (fun v39 μ40 hv41 => ?_)
  obtain ⟨hw45, h43⟩ := hv41
  subst hw45
  obtain ⟨hSp, hF9⟩ := h43
  have hF46 := hF9
  have hO := hF46.ob hO
  have hL : LandR G μ40 a1 (fun _ => 0) (fun _ => 0) := hF46.land hL
  have hY : WaysR G μ40 a17 S9 T9 := hF46.ways hY
  have hFr : Fr 0 2999 μ μ40 := hFr.tr hF46
  refine x_stk (stk' := [.ref a33, .ref a]) rfl ?_
  refine z_putF (ci := 9) (Cn := RX8) (T := TX8) (N := 10) (ref := "CairnCipher") (fs' := [.ref a1, .ref a17, .ref a33, .null, .null, .null, .null, .null, .int (zI 0), .int (zI 0)]) C dX8_init_34 hnm in_X8 rfl tyX8 tyX8_ok nmX8 hO 2 (by decide) (by decide +kernel) rfl rfl rfl rfl rfl rfl (Nat.le_of_ble_eq_true rfl) rfl (fun μ47 hOw hF48 => ?_)
  have hL : LandR G μ47 a1 (fun _ => 0) (fun _ => 0) := hF48.land hL
  have hY : WaysR G μ47 a17 S9 T9 := hF48.ways hY
  have hSp : TextR G μ47 a33 7 0 (fun _ => 0) := hF48.text hSp
  have hFr : Fr 0 2999 μ μ47 := hFr.tr hF48
  have hO := hOw
  refine x_aload_n C dX8_init_37 rfl 0 rfl ?_
  refine z_new (ci := 0) (Cn := RJx4a65c) (T := TJx4a65c) (N := 3) (cc9 := 9) (ss9 := 270) (fs := [.int (zI 0), .null, .int (zI 0)]) C 9 dX8_init_38 in_Jx4a65c rfl tyJx4a65c tyJx4a65c_ok (by decide +kernel) (by decide +kernel) (by decide +kernel) (fun j hj => by rcases (show j = 0 ∨ j = 1 ∨ j = 2 by omega) with rfl | rfl | rfl <;> rfl) rfl rfl (Nat.le_of_ble_eq_true rfl) (Nat.le_of_ble_eq_true rfl) (fun a49 μ50 hq51 hO52 hF53 => ?_)
  have hF54 : Fr 0 0 μ47 μ50 := hF53 _ _
  have hO := (hF53 0 0).ob hO (Or.inr (Nat.zero_le _))
  have hL : LandR G μ50 a1 (fun _ => 0) (fun _ => 0) := (hF53 0 0).land hL
  have hY : WaysR G μ50 a17 S9 T9 := (hF53 0 0).ways hY
  have hSp : TextR G μ50 a33 7 0 (fun _ => 0) := (hF53 0 0).text hSp
  have hFr : Fr 0 2999 μ μ50 := hFr.tr (hF53 0 2999)
  refine x_dup C dX8_init_41 rfl ?_
  refine x_callI (n := 0) (cc9 := 9) (ss9 := 270) (rest := [.ref a49, .ref a]) C dX8_init_42 (c_Jx4a65c_init_da8c8 (kxL E) C.st G z μ50 a49 9 hO52) gX8_init_Jx4a65c_init_da8c8 rfl (by decide +kernel) (by decide +kernel) (by decide +kernel) rfl (by decide +kernel) ⟨(Nat.le_of_ble_eq_true rfl), (Nat.le_of_ble_eq_true rfl)⟩ rfl rfl (Nat.le_of_ble_eq_true rfl) rfl rfl ⟨(Nat.le_of_ble_eq_true rfl), (Nat.le_of_ble_eq_true rfl)⟩ nX_no (fun v55 μ56 hv57 => ?_)
  obtain ⟨hw61, h59⟩ := hv57
  subst hw61
  obtain ⟨hSl, hF9⟩ := h59
  have hF62 := hF9
  have hO := hF62.ob hO
  have hL : LandR G μ56 a1 (fun _ => 0) (fun _ => 0) := hF62.land hL
  have hY : WaysR G μ56 a17 S9 T9 := hF62.ways hY
  have hSp : TextR G μ56 a33 7 0 (fun _ => 0) := hF62.text hSp
  have hFr : Fr 0 2999 μ μ56 := hFr.tr hF62
  refine x_stk (stk' := [.ref a49, .ref a]) rfl ?_
  refine z_putF (ci := 9) (Cn := RX8) (T := TX8) (N := 10) (ref := "CairnCipher") (fs' := [.ref a1, .ref a17, .ref a33, .ref a49, .null, .null, .null, .null, .int (zI 0), .int (zI 0)]) C dX8_init_45 hnm in_X8 rfl tyX8 tyX8_ok nmX8 hO 3 (by decide) (by decide +kernel) rfl rfl rfl rfl rfl rfl (Nat.le_of_ble_eq_true rfl) rfl (fun μ63 hOw hF64 => ?_)
  have hL : LandR G μ63 a1 (fun _ => 0) (fun _ => 0) := hF64.land hL
  have hY : WaysR G μ63 a17 S9 T9 := hF64.ways hY
  have hSp : TextR G μ63 a33 7 0 (fun _ => 0) := hF64.text hSp
  have hSl : ∀ xs, ListR G z μ63 a49 9 0 xs := (fun xs => hF64.list (hSl xs))
  have hFr : Fr 0 2999 μ μ63 := hFr.tr hF64
  have hO := hOw
  refine x_aload_n C dX8_init_48 rfl 0 rfl ?_
  refine z_new (ci := 0) (Cn := RJx4a65c) (T := TJx4a65c) (N := 3) (cc9 := 10) (ss9 := 273) (fs := [.int (zI 0), .null, .int (zI 0)]) C 11 dX8_init_49 in_Jx4a65c rfl tyJx4a65c tyJx4a65c_ok (by decide +kernel) (by decide +kernel) (by decide +kernel) (fun j hj => by rcases (show j = 0 ∨ j = 1 ∨ j = 2 by omega) with rfl | rfl | rfl <;> rfl) rfl rfl (Nat.le_of_ble_eq_true rfl) (Nat.le_of_ble_eq_true rfl) (fun a65 μ66 hq67 hO68 hF69 => ?_)
  have hF70 : Fr 0 0 μ63 μ66 := hF69 _ _
  have hO := (hF69 0 0).ob hO (Or.inr (Nat.zero_le _))
  have hL : LandR G μ66 a1 (fun _ => 0) (fun _ => 0) := (hF69 0 0).land hL
  have hY : WaysR G μ66 a17 S9 T9 := (hF69 0 0).ways hY
  have hSp : TextR G μ66 a33 7 0 (fun _ => 0) := (hF69 0 0).text hSp
  have hSl : ∀ xs, ListR G z μ66 a49 9 0 xs := (fun xs => (hF69 0 0).list (hSl xs))
  have hFr : Fr 0 2999 μ μ66 := hFr.tr (hF69 0 2999)
  refine x_dup C dX8_init_52 rfl ?_
  refine x_callI (n := 0) (cc9 := 10) (ss9 := 273) (rest := [.ref a65, .ref a]) C dX8_init_53 (c_Jx4a65c_init_da8c8 (kxL E) C.st G z μ66 a65 11 hO68) gX8_init_Jx4a65c_init_da8c8 rfl (by decide +kernel) (by decide +kernel) (by decide +kernel) rfl (by decide +kernel) ⟨(Nat.le_of_ble_eq_true rfl), (Nat.le_of_ble_eq_true rfl)⟩ rfl rfl (Nat.le_of_ble_eq_true rfl) rfl rfl ⟨(Nat.le_of_ble_eq_true rfl), (Nat.le_of_ble_eq_true rfl)⟩ nX_no (fun v71 μ72 hv73 => ?_)
  obtain ⟨hw77, h75⟩ := hv73
  subst hw77
  obtain ⟨hWl, hF9⟩ := h75
  have hF78 := hF9
  have hO := hF78.ob hO
  have hL : LandR G μ72 a1 (fun _ => 0) (fun _ => 0) := hF78.land hL
  have hY : WaysR G μ72 a17 S9 T9 := hF78.ways hY
  have hSp : TextR G μ72 a33 7 0 (fun _ => 0) := hF78.text hSp
  have hSl : ∀ xs, ListR G z μ72 a49 9 0 xs := (fun xs => hF78.list (hSl xs))
  have hFr : Fr 0 2999 μ μ72 := hFr.tr hF78
  refine x_stk (stk' := [.ref a65, .ref a]) rfl ?_
  refine z_putF (ci := 9) (Cn := RX8) (T := TX8) (N := 10) (ref := "CairnCipher") (fs' := [.ref a1, .ref a17, .ref a33, .ref a49, .ref a65, .null, .null, .null, .int (zI 0), .int (zI 0)]) C dX8_init_56 hnm in_X8 rfl tyX8 tyX8_ok nmX8 hO 4 (by decide) (by decide +kernel) rfl rfl rfl rfl rfl rfl (Nat.le_of_ble_eq_true rfl) rfl (fun μ79 hOw hF80 => ?_)
  have hL : LandR G μ79 a1 (fun _ => 0) (fun _ => 0) := hF80.land hL
  have hY : WaysR G μ79 a17 S9 T9 := hF80.ways hY
  have hSp : TextR G μ79 a33 7 0 (fun _ => 0) := hF80.text hSp
  have hSl : ∀ xs, ListR G z μ79 a49 9 0 xs := (fun xs => hF80.list (hSl xs))
  have hWl : ∀ xs, ListR G z μ79 a65 11 0 xs := (fun xs => hF80.list (hWl xs))
  have hFr : Fr 0 2999 μ μ79 := hFr.tr hF80
  have hO := hOw
  refine x_aload_n C dX8_init_59 rfl 0 rfl ?_
  refine z_iconst C dX8_init_60 ?_
  refine z_newI (N9 := 4) (cc9 := 11) (ss9 := 277) C 13 dX8_init_61 (by decide +kernel) rfl (by decide) rfl rfl (Nat.le_of_ble_eq_true rfl) (Nat.le_of_ble_eq_true rfl) (fun a81 μ82 hq83 hA84 hF85 => ?_)
  have hF86 : Fr 0 0 μ79 μ82 := hF85 _ _
  have hO := (hF85 0 0).ob hO (Or.inr (Nat.zero_le _))
  have hL : LandR G μ82 a1 (fun _ => 0) (fun _ => 0) := (hF85 0 0).land hL
  have hY : WaysR G μ82 a17 S9 T9 := (hF85 0 0).ways hY
  have hSp : TextR G μ82 a33 7 0 (fun _ => 0) := (hF85 0 0).text hSp
  have hSl : ∀ xs, ListR G z μ82 a49 9 0 xs := (fun xs => (hF85 0 0).list (hSl xs))
  have hWl : ∀ xs, ListR G z μ82 a65 11 0 xs := (fun xs => (hF85 0 0).list (hWl xs))
  have hFr : Fr 0 2999 μ μ82 := hFr.tr (hF85 0 2999)
  refine z_putF (ci := 9) (Cn := RX8) (T := TX8) (N := 10) (ref := "CairnCipher") (fs' := [.ref a1, .ref a17, .ref a33, .ref a49, .ref a65, .ref a81, .null, .null, .int (zI 0), .int (zI 0)]) C dX8_init_63 hnm in_X8 rfl tyX8 tyX8_ok nmX8 hO 5 (by decide) (by decide +kernel) rfl rfl rfl rfl rfl rfl (Nat.le_of_ble_eq_true rfl) rfl (fun μ87 hOw hF88 => ?_)
  have hL : LandR G μ87 a1 (fun _ => 0) (fun _ => 0) := hF88.land hL
  have hY : WaysR G μ87 a17 S9 T9 := hF88.ways hY
  have hSp : TextR G μ87 a33 7 0 (fun _ => 0) := hF88.text hSp
  have hSl : ∀ xs, ListR G z μ87 a49 9 0 xs := (fun xs => hF88.list (hSl xs))
  have hWl : ∀ xs, ListR G z μ87 a65 11 0 xs := (fun xs => hF88.list (hWl xs))
  have hA84 := hF88.ai hA84
  have hFr : Fr 0 2999 μ μ87 := hFr.tr hF88
  have hO := hOw
  refine x_aload_n C dX8_init_66 rfl 0 rfl ?_
  refine z_new (ci := 1) (Cn := RX0) (T := TX0) (N := 2) (cc9 := 12) (ss9 := 279) (fs := [.null, .int (zI 0)]) C 14 dX8_init_67 in_X0 rfl tyX0 tyX0_ok (by decide +kernel) (by decide +kernel) (by decide +kernel) (fun j hj => by rcases (show j = 0 ∨ j = 1 by omega) with rfl | rfl <;> rfl) rfl rfl (Nat.le_of_ble_eq_true rfl) (Nat.le_of_ble_eq_true rfl) (fun a89 μ90 hq91 hO92 hF93 => ?_)
  have hF94 : Fr 0 0 μ87 μ90 := hF93 _ _
  have hO := (hF93 0 0).ob hO (Or.inr (Nat.zero_le _))
  have hL : LandR G μ90 a1 (fun _ => 0) (fun _ => 0) := (hF93 0 0).land hL
  have hY : WaysR G μ90 a17 S9 T9 := (hF93 0 0).ways hY
  have hSp : TextR G μ90 a33 7 0 (fun _ => 0) := (hF93 0 0).text hSp
  have hSl : ∀ xs, ListR G z μ90 a49 9 0 xs := (fun xs => (hF93 0 0).list (hSl xs))
  have hWl : ∀ xs, ListR G z μ90 a65 11 0 xs := (fun xs => (hF93 0 0).list (hWl xs))
  have hA84 := (hF93 0 0).ai hA84 (Or.inr (Nat.zero_le _))
  have hFr : Fr 0 2999 μ μ90 := hFr.tr (hF93 0 2999)
  refine x_dup C dX8_init_70 rfl ?_
  refine x_callIN (n := 0) (host := "CairnCipher") (cc9 := 13) (ss9 := 791) (rest := [.ref a89, .ref a]) C dX8_init_71 (c_X0_init (kxL E) C.st G z μ90 a89 hO92) gX8_init_X0_init_n46 rfl (by decide +kernel) (by decide +kernel) (by decide +kernel) rfl (by decide +kernel) ⟨(Nat.le_of_ble_eq_true rfl), (Nat.le_of_ble_eq_true rfl)⟩ rfl rfl (Nat.le_of_ble_eq_true rfl) rfl rfl ⟨(Nat.le_of_ble_eq_true rfl), (Nat.le_of_ble_eq_true rfl)⟩ nX_no (fun v95 μ96 hv97 => ?_)
  obtain ⟨hw101, h99⟩ := hv97
  subst hw101
  obtain ⟨hCh, hF9⟩ := h99
  have hF102 := hF9
  have hO := hF102.ob hO
  have hL : LandR G μ96 a1 (fun _ => 0) (fun _ => 0) := hF102.land hL
  have hY : WaysR G μ96 a17 S9 T9 := hF102.ways hY
  have hSp : TextR G μ96 a33 7 0 (fun _ => 0) := hF102.text hSp
  have hSl : ∀ xs, ListR G z μ96 a49 9 0 xs := (fun xs => hF102.list (hSl xs))
  have hWl : ∀ xs, ListR G z μ96 a65 11 0 xs := (fun xs => hF102.list (hWl xs))
  have hA84 := hF102.ai hA84
  have hFr : Fr 0 2999 μ μ96 := hFr.tr hF102
  refine x_stk (stk' := [.ref a89, .ref a]) rfl ?_
  refine z_putF (ci := 9) (Cn := RX8) (T := TX8) (N := 10) (ref := "CairnCipher") (fs' := [.ref a1, .ref a17, .ref a33, .ref a49, .ref a65, .ref a81, .ref a89, .null, .int (zI 0), .int (zI 0)]) C dX8_init_74 hnm in_X8 rfl tyX8 tyX8_ok nmX8 hO 6 (by decide) (by decide +kernel) rfl rfl rfl rfl rfl rfl (Nat.le_of_ble_eq_true rfl) rfl (fun μ103 hOw hF104 => ?_)
  have hL : LandR G μ103 a1 (fun _ => 0) (fun _ => 0) := hF104.land hL
  have hY : WaysR G μ103 a17 S9 T9 := hF104.ways hY
  have hSp : TextR G μ103 a33 7 0 (fun _ => 0) := hF104.text hSp
  have hSl : ∀ xs, ListR G z μ103 a49 9 0 xs := (fun xs => hF104.list (hSl xs))
  have hWl : ∀ xs, ListR G z μ103 a65 11 0 xs := (fun xs => hF104.list (hWl xs))
  have hA84 := hF104.ai hA84
  have hCh : ChronR G μ103 a89 0 (fun _ => 0) := hF104.chron hCh
  have hFr : Fr 0 2999 μ μ103 := hFr.tr hF104
  have hO := hOw
  refine x_aload_n C dX8_init_77 rfl 0 rfl ?_
  refine z_new (ci := 3) (Cn := RX2) (T := TX2) (N := 1) (cc9 := 14) (ss9 := 792) (fs := [.null]) C 100 dX8_init_78 in_X2 rfl tyX2 tyX2_ok (by decide +kernel) (by decide +kernel) (by decide +kernel) (fun j hj => by rcases (show j = 0 by omega) with rfl <;> rfl) rfl rfl (Nat.le_of_ble_eq_true rfl) (Nat.le_of_ble_eq_true rfl) (fun a105 μ106 hq107 hO108 hF109 => ?_)
  have hF110 : Fr 0 0 μ103 μ106 := hF109 _ _
  have hO := (hF109 0 0).ob hO (Or.inr (Nat.zero_le _))
  have hL : LandR G μ106 a1 (fun _ => 0) (fun _ => 0) := (hF109 0 0).land hL
  have hY : WaysR G μ106 a17 S9 T9 := (hF109 0 0).ways hY
  have hSp : TextR G μ106 a33 7 0 (fun _ => 0) := (hF109 0 0).text hSp
  have hSl : ∀ xs, ListR G z μ106 a49 9 0 xs := (fun xs => (hF109 0 0).list (hSl xs))
  have hWl : ∀ xs, ListR G z μ106 a65 11 0 xs := (fun xs => (hF109 0 0).list (hWl xs))
  have hA84 := (hF109 0 0).ai hA84 (Or.inr (Nat.zero_le _))
  have hCh : ChronR G μ106 a89 0 (fun _ => 0) := (hF109 0 0).chron hCh
  have hFr : Fr 0 2999 μ μ106 := hFr.tr (hF109 0 2999)
  refine x_dup C dX8_init_81 rfl ?_
  refine x_callIN (n := 0) (host := "CairnCipher") (cc9 := 15) (ss9 := 795) (rest := [.ref a105, .ref a]) C dX8_init_82 (c_X2_init (kxL E) C.st G z μ106 a105 100 (fun _ _ => 0) (fun _ => 0) hO108) gX8_init_X2_init_n53 rfl (by decide +kernel) (by decide +kernel) (by decide +kernel) rfl (by decide +kernel) ⟨(Nat.le_of_ble_eq_true rfl), (Nat.le_of_ble_eq_true rfl)⟩ rfl rfl (Nat.le_of_ble_eq_true rfl) rfl rfl ⟨(Nat.le_of_ble_eq_true rfl), (Nat.le_of_ble_eq_true rfl)⟩ nX_no (fun v111 μ112 hv113 => ?_)
  obtain ⟨hw117, h115⟩ := hv113
  subst hw117
  obtain ⟨hDr, hF9⟩ := h115
  have hF118 := hF9
  have hO := hF118.ob hO
  have hL : LandR G μ112 a1 (fun _ => 0) (fun _ => 0) := hF118.land hL
  have hY : WaysR G μ112 a17 S9 T9 := hF118.ways hY
  have hSp : TextR G μ112 a33 7 0 (fun _ => 0) := hF118.text hSp
  have hSl : ∀ xs, ListR G z μ112 a49 9 0 xs := (fun xs => hF118.list (hSl xs))
  have hWl : ∀ xs, ListR G z μ112 a65 11 0 xs := (fun xs => hF118.list (hWl xs))
  have hA84 := hF118.ai hA84
  have hCh : ChronR G μ112 a89 0 (fun _ => 0) := hF118.chron hCh
  have hFr : Fr 0 2999 μ μ112 := hFr.tr hF118
  refine x_stk (stk' := [.ref a105, .ref a]) rfl ?_
  refine z_put (ci := 9) (Cn := RX8) (T := TX8) (N := 10) (ref := "CairnCipher") (fs' := [.ref a1, .ref a17, .ref a33, .ref a49, .ref a65, .ref a81, .ref a89, .ref a105, .int (zI 0), .int (zI 0)]) C dX8_init_85 in_X8 rfl tyX8 tyX8_ok nmX8 hO 7 (by decide) (by decide +kernel) rfl rfl rfl rfl rfl (Nat.le_of_ble_eq_true rfl) rfl (fun μ119 hOw hF120 => ?_)
  have hL : LandR G μ119 a1 (fun _ => 0) (fun _ => 0) := hF120.land hL
  have hY : WaysR G μ119 a17 S9 T9 := hF120.ways hY
  have hSp : TextR G μ119 a33 7 0 (fun _ => 0) := hF120.text hSp
  have hSl : ∀ xs, ListR G z μ119 a49 9 0 xs := (fun xs => hF120.list (hSl xs))
  have hWl : ∀ xs, ListR G z μ119 a65 11 0 xs := (fun xs => hF120.list (hWl xs))
  have hA84 := hF120.ai hA84
  have hCh : ChronR G μ119 a89 0 (fun _ => 0) := hF120.chron hCh
  have hDr : HintsR G z μ119 a105 100 0 (fun _ _ => 0) (fun _ => 0) := hF120.hints hDr
  have hFr : Fr 0 2999 μ μ119 := hFr.tr hF120
  have hO := hOw
  refine x_aload_n C dX8_init_88 rfl 0 rfl ?_
  refine z_iconst C dX8_init_89 ?_
  refine z_put (ci := 9) (Cn := RX8) (T := TX8) (N := 10) (ref := "CairnCipher") (fs' := [.ref a1, .ref a17, .ref a33, .ref a49, .ref a65, .ref a81, .ref a89, .ref a105, .int (zI 0), .int (zI 0)]) C dX8_init_90 in_X8 rfl tyX8 tyX8_ok nmX8 hO 8 (by decide) (by decide +kernel) rfl rfl rfl rfl rfl (Nat.le_of_ble_eq_true rfl) rfl (fun μ121 hOw hF122 => ?_)
  have hL : LandR G μ121 a1 (fun _ => 0) (fun _ => 0) := hF122.land hL
  have hY : WaysR G μ121 a17 S9 T9 := hF122.ways hY
  have hSp : TextR G μ121 a33 7 0 (fun _ => 0) := hF122.text hSp
  have hSl : ∀ xs, ListR G z μ121 a49 9 0 xs := (fun xs => hF122.list (hSl xs))
  have hWl : ∀ xs, ListR G z μ121 a65 11 0 xs := (fun xs => hF122.list (hWl xs))
  have hA84 := hF122.ai hA84
  have hCh : ChronR G μ121 a89 0 (fun _ => 0) := hF122.chron hCh
  have hDr : HintsR G z μ121 a105 100 0 (fun _ _ => 0) (fun _ => 0) := hF122.hints hDr
  have hFr : Fr 0 2999 μ μ121 := hFr.tr hF122
  have hO := hOw
  refine x_aload_n C dX8_init_93 rfl 0 rfl ?_
  refine z_iconst C dX8_init_94 ?_
  refine z_put (ci := 9) (Cn := RX8) (T := TX8) (N := 10) (ref := "CairnCipher") (fs' := [.ref a1, .ref a17, .ref a33, .ref a49, .ref a65, .ref a81, .ref a89, .ref a105, .int (zI 0), .int (zI 0)]) C dX8_init_95 in_X8 rfl tyX8 tyX8_ok nmX8 hO 9 (by decide) (by decide +kernel) rfl rfl rfl rfl rfl (Nat.le_of_ble_eq_true rfl) rfl (fun μ123 hOw hF124 => ?_)
  have hL : LandR G μ123 a1 (fun _ => 0) (fun _ => 0) := hF124.land hL
  have hY : WaysR G μ123 a17 S9 T9 := hF124.ways hY
  have hSp : TextR G μ123 a33 7 0 (fun _ => 0) := hF124.text hSp
  have hSl : ∀ xs, ListR G z μ123 a49 9 0 xs := (fun xs => hF124.list (hSl xs))
  have hWl : ∀ xs, ListR G z μ123 a65 11 0 xs := (fun xs => hF124.list (hWl xs))
  have hA84 := hF124.ai hA84
  have hCh : ChronR G μ123 a89 0 (fun _ => 0) := hF124.chron hCh
  have hDr : HintsR G z μ123 a105 100 0 (fun _ _ => 0) (fun _ => 0) := hF124.hints hDr
  have hFr : Fr 0 2999 μ μ123 := hFr.tr hF124
  have hO := hOw
  exact x_vret C R dX8_init_98 (Nat.le_of_ble_eq_true rfl) (Nat.le_of_ble_eq_true rfl) (⟨rfl, ⟨_, _, _, _, _, _, _, _, 0, 0, 0, 0, 0, 0, fun _ => 0, fun _ => 0, fun _ => 0, fun _ => 0, fun _ => 0, _, _, Nat.le_refl _, hO, hL, hY, hSp, hSl _, hWl _, hA84, hCh, hDr.cong (fun j hj => absurd hj (Nat.not_lt_zero j)) (fun _ _ => rfl), fun k _ hk => absurd hk (Nat.not_lt_zero k), fun w _ hw => absurd hw (Nat.not_lt_zero w), ⟨rfl, rfl, rfl, rfl, rfl, by omega, by omega, by omega⟩, Ic_0⟩, hFr⟩)
