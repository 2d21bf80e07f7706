abbrev rm_X9_init : Room := { frames := 1, cells := 22, slots := 547, locals := 20 }
set_option maxHeartbeats 4000000 in
set_option maxRecDepth 100000 in
theorem c_X9_init (l : Launch) (hst : l.stackTraces = false) (G : GG) (z : Nat) (μ : Mm) (m : Nat) (hO : OB μ m 3000 10 [.null, .null, .null, .null, .null, .null, .null, .int (zI 0), .null, .null, .null, .null, .int (zI 0), .null, .null, .null, .null, .null, .int (zI 0), .null, .null, .null, .null, .int (zI 0), .int (zI 0), .int (zI 0), .null, .int (zI 0), .null]) : Ct l yX9_init wsX9_init rm_X9_init G z [.ref m] μ (rV (fun μ' => RepM G μ' m s0 0 ∧ Fr 3000 3030 μ μ')) (nX) := by
  refine ct_of (cc := cX9_init) (maxL := 1) (ret := none) (own := RX9) (by decide) rfl rfl hst (Nat.le_of_ble_eq_true rfl) ?_
  intro E hLl hnm C R hT
  have in_X9 : ∀ w ∈ u_ws RX9 TX9 29, w ∈ wsX9_init := by decide +kernel
  have hFr : Fr 3000 3030 μ μ := Fr.rf
  refine x_eq (lv' := [(0, .ref m)]) rfl rfl ?_
  refine x_aload_n C dX9_init_0 rfl 0 rfl ?_
  refine x_objInit C dX9_init_1 (by decide +kernel) (by decide +kernel) (by decide +kernel) (Nat.le_of_ble_eq_true rfl) (Nat.le_of_ble_eq_true rfl) ?_
  refine x_aload_n C dX9_init_4 rfl 0 rfl ?_
  refine z_bipush C dX9_init_5 (by decide) ?_
  refine z_newI (N9 := 64) (cc9 := 1) (ss9 := 64) C 3001 dX9_init_7 (by decide +kernel) rfl (by decide) rfl rfl (Nat.le_of_ble_eq_true rfl) (Nat.le_of_ble_eq_true rfl) (fun a1 μ2 hq3 hA4 hF5 => ?_)
  have hF6 : Fr 0 0 μ μ2 := hF5 _ _
  have hO := (hF5 0 0).ob hO (Or.inr (Nat.zero_le _))
  have hFr : Fr 3000 3030 μ μ2 := hFr.tr (hF5 3000 3030)
  refine z_putF (ci := 10) (Cn := RX9) (T := TX9) (N := 29) (ref := "CairnCipherModel") (fs' := [.ref a1, .null, .null, .null, .null, .null, .null, .int (zI 0), .null, .null, .null, .null, .int (zI 0), .null, .null, .null, .null, .null, .int (zI 0), .null, .null, .null, .null, .int (zI 0), .int (zI 0), .int (zI 0), .null, .int (zI 0), .null]) C dX9_init_9 hnm in_X9 rfl tyX9 tyX9_ok nmX9 hO 0 (by decide) (by decide +kernel) rfl rfl rfl rfl rfl rfl (Nat.le_of_ble_eq_true rfl) rfl (fun μ7 hOw hF8 => ?_)
  have hA4 := hF8.ai hA4
  have hFr : Fr 3000 3030 μ μ7 := hFr.tr hF8
  have hO := hOw
  refine x_aload_n C dX9_init_12 rfl 0 rfl ?_
  refine z_bipush C dX9_init_13 (by decide) ?_
  refine z_newZ (N9 := 64) (cc9 := 2) (ss9 := 128) C 3002 dX9_init_15 (by decide +kernel) rfl (by decide) rfl rfl (Nat.le_of_ble_eq_true rfl) (Nat.le_of_ble_eq_true rfl) (fun a9 μ10 hq11 hA12 hF13 => ?_)
  have hF14 : Fr 0 0 μ7 μ10 := hF13 _ _
  have hO := (hF13 0 0).ob hO (Or.inr (Nat.zero_le _))
  have hA4 := (hF13 0 0).ai hA4 (Or.inr (Nat.zero_le _))
  have hFr : Fr 3000 3030 μ μ10 := hFr.tr (hF13 3000 3030)
  refine z_putF (ci := 10) (Cn := RX9) (T := TX9) (N := 29) (ref := "CairnCipherModel") (fs' := [.ref a1, .ref a9, .null, .null, .null, .null, .null, .int (zI 0), .null, .null, .null, .null, .int (zI 0), .null, .null, .null, .null, .null, .int (zI 0), .null, .null, .null, .null, .int (zI 0), .int (zI 0), .int (zI 0), .null, .int (zI 0), .null]) C dX9_init_17 hnm in_X9 rfl tyX9 tyX9_ok nmX9 hO 1 (by decide) (by decide +kernel) rfl rfl rfl rfl rfl rfl (Nat.le_of_ble_eq_true rfl) rfl (fun μ15 hOw hF16 => ?_)
  have hA4 := hF16.ai hA4
  have hA12 := hF16.az hA12
  have hFr : Fr 3000 3030 μ μ15 := hFr.tr hF16
  have hO := hOw
  refine x_aload_n C dX9_init_20 rfl 0 rfl ?_
  refine z_bipush C dX9_init_21 (by decide) ?_
  refine z_newI (N9 := 35) (cc9 := 3) (ss9 := 163) C 3003 dX9_init_23 (by decide +kernel) rfl (by decide) rfl rfl (Nat.le_of_ble_eq_true rfl) (Nat.le_of_ble_eq_true rfl) (fun a17 μ18 hq19 hA20 hF21 => ?_)
  have hF22 : Fr 0 0 μ15 μ18 := hF21 _ _
  have hO := (hF21 0 0).ob hO (Or.inr (Nat.zero_le _))
  have hA4 := (hF21 0 0).ai hA4 (Or.inr (Nat.zero_le _))
  have hA12 := (hF21 0 0).az hA12 (Or.inr (Nat.zero_le _))
  have hFr : Fr 3000 3030 μ μ18 := hFr.tr (hF21 3000 3030)
  refine z_putF (ci := 10) (Cn := RX9) (T := TX9) (N := 29) (ref := "CairnCipherModel") (fs' := [.ref a1, .ref a9, .ref a17, .null, .null, .null, .null, .int (zI 0), .null, .null, .null, .null, .int (zI 0), .null, .null, .null, .null, .null, .int (zI 0), .null, .null, .null, .null, .int (zI 0), .int (zI 0), .int (zI 0), .null, .int (zI 0), .null]) C dX9_init_25 hnm in_X9 rfl tyX9 tyX9_ok nmX9 hO 2 (by decide) (by decide +kernel) rfl rfl rfl rfl rfl rfl (Nat.le_of_ble_eq_true rfl) rfl (fun μ23 hOw hF24 => ?_)
  have hA4 := hF24.ai hA4
  have hA12 := hF24.az hA12
  have hA20 := hF24.ai hA20
  have hFr : Fr 3000 3030 μ μ23 := hFr.tr hF24
  have hO := hOw
  refine x_aload_n C dX9_init_28 rfl 0 rfl ?_
  refine z_bipush C dX9_init_29 (by decide) ?_
  refine z_newI (N9 := 35) (cc9 := 4) (ss9 := 198) C 3004 dX9_init_31 (by decide +kernel) rfl (by decide) rfl rfl (Nat.le_of_ble_eq_true rfl) (Nat.le_of_ble_eq_true rfl) (fun a25 μ26 hq27 hA28 hF29 => ?_)
  have hF30 : Fr 0 0 μ23 μ26 := hF29 _ _
  have hO := (hF29 0 0).ob hO (Or.inr (Nat.zero_le _))
  have hA4 := (hF29 0 0).ai hA4 (Or.inr (Nat.zero_le _))
  have hA12 := (hF29 0 0).az hA12 (Or.inr (Nat.zero_le _))
  have hA20 := (hF29 0 0).ai hA20 (Or.inr (Nat.zero_le _))
  have hFr : Fr 3000 3030 μ μ26 := hFr.tr (hF29 3000 3030)
  refine z_putF (ci := 10) (Cn := RX9) (T := TX9) (N := 29) (ref := "CairnCipherModel") (fs' := [.ref a1, .ref a9, .ref a17, .ref a25, .null, .null, .null, .int (zI 0), .null, .null, .null, .null, .int (zI 0), .null, .null, .null, .null, .null, .int (zI 0), .null, .null, .null, .null, .int (zI 0), .int (zI 0), .int (zI 0), .null, .int (zI 0), .null]) C dX9_init_33 hnm in_X9 rfl tyX9 tyX9_ok nmX9 hO 3 (by decide) (by decide +kernel) rfl rfl rfl rfl rfl rfl (Nat.le_of_ble_eq_true rfl) rfl (fun μ31 hOw hF32 => ?_)
  have hA4 := hF32.ai hA4
  have hA12 := hF32.az hA12
  have hA20 := hF32.ai hA20
  have hA28 := hF32.ai hA28
  have hFr : Fr 3000 3030 μ μ31 := hFr.tr hF32
  have hO := hOw
  refine x_aload_n C dX9_init_36 rfl 0 rfl ?_
  refine z_bipush C dX9_init_37 (by decide) ?_
  refine z_newI (N9 := 35) (cc9 := 5) (ss9 := 233) C 3005 dX9_init_39 (by decide +kernel) rfl (by decide) rfl rfl (Nat.le_of_ble_eq_true rfl) (Nat.le_of_ble_eq_true rfl) (fun a33 μ34 hq35 hA36 hF37 => ?_)
  have hF38 : Fr 0 0 μ31 μ34 := hF37 _ _
  have hO := (hF37 0 0).ob hO (Or.inr (Nat.zero_le _))
  have hA4 := (hF37 0 0).ai hA4 (Or.inr (Nat.zero_le _))
  have hA12 := (hF37 0 0).az hA12 (Or.inr (Nat.zero_le _))
  have hA20 := (hF37 0 0).ai hA20 (Or.inr (Nat.zero_le _))
  have hA28 := (hF37 0 0).ai hA28 (Or.inr (Nat.zero_le _))
  have hFr : Fr 3000 3030 μ μ34 := hFr.tr (hF37 3000 3030)
  refine z_putF (ci := 10) (Cn := RX9) (T := TX9) (N := 29) (ref := "CairnCipherModel") (fs' := [.ref a1, .ref a9, .ref a17, .ref a25, .ref a33, .null, .null, .int (zI 0), .null, .null, .null, .null, .int (zI 0), .null, .null, .null, .null, .null, .int (zI 0), .null, .null, .null, .null, .int (zI 0), .int (zI 0), .int (zI 0), .null, .int (zI 0), .null]) C dX9_init_41 hnm in_X9 rfl tyX9 tyX9_ok nmX9 hO 4 (by decide) (by decide +kernel) rfl rfl rfl rfl rfl rfl (Nat.le_of_ble_eq_true rfl) rfl (fun μ39 hOw hF40 => ?_)
  have hA4 := hF40.ai hA4
  have hA12 := hF40.az hA12
  have hA20 := hF40.ai hA20
  have hA28 := hF40.ai hA28
  have hA36 := hF40.ai hA36
  have hFr : Fr 3000 3030 μ μ39 := hFr.tr hF40
  have hO := hOw
  refine x_aload_n C dX9_init_44 rfl 0 rfl ?_
  refine z_bipush C dX9_init_45 (by decide) ?_
  refine z_newZ (N9 := 35) (cc9 := 6) (ss9 := 268) C 3006 dX9_init_47 (by decide +kernel) rfl (by decide) rfl rfl (Nat.le_of_ble_eq_true rfl) (Nat.le_of_ble_eq_true rfl) (fun a41 μ42 hq43 hA44 hF45 => ?_)
  have hF46 : Fr 0 0 μ39 μ42 := hF45 _ _
  have hO := (hF45 0 0).ob hO (Or.inr (Nat.zero_le _))
  have hA4 := (hF45 0 0).ai hA4 (Or.inr (Nat.zero_le _))
  have hA12 := (hF45 0 0).az hA12 (Or.inr (Nat.zero_le _))
  have hA20 := (hF45 0 0).ai hA20 (Or.inr (Nat.zero_le _))
  have hA28 := (hF45 0 0).ai hA28 (Or.inr (Nat.zero_le _))
  have hA36 := (hF45 0 0).ai hA36 (Or.inr (Nat.zero_le _))
  have hFr : Fr 3000 3030 μ μ42 := hFr.tr (hF45 3000 3030)
  refine z_putF (ci := 10) (Cn := RX9) (T := TX9) (N := 29) (ref := "CairnCipherModel") (fs' := [.ref a1, .ref a9, .ref a17, .ref a25, .ref a33, .ref a41, .null, .int (zI 0), .null, .null, .null, .null, .int (zI 0), .null, .null, .null, .null, .null, .int (zI 0), .null, .null, .null, .null, .int (zI 0), .int (zI 0), .int (zI 0), .null, .int (zI 0), .null]) C dX9_init_49 hnm in_X9 rfl tyX9 tyX9_ok nmX9 hO 5 (by decide) (by decide +kernel) rfl rfl rfl rfl rfl rfl (Nat.le_of_ble_eq_true rfl) rfl (fun μ47 hOw hF48 => ?_)
  have hA4 := hF48.ai hA4
  have hA12 := hF48.az hA12
  have hA20 := hF48.ai hA20
  have hA28 := hF48.ai hA28
  have hA36 := hF48.ai hA36
  have hA44 := hF48.az hA44
  have hFr : Fr 3000 3030 μ μ47 := hFr.tr hF48
  have hO := hOw
  refine x_aload_n C dX9_init_52 rfl 0 rfl ?_
  refine z_bipush C dX9_init_53 (by decide) ?_
  refine z_newI (N9 := 7) (cc9 := 7) (ss9 := 275) C 3007 dX9_init_55 (by decide +kernel) rfl (by decide) rfl rfl (Nat.le_of_ble_eq_true rfl) (Nat.le_of_ble_eq_true rfl) (fun a49 μ50 hq51 hA52 hF53 => ?_)
  have hF54 : Fr 0 0 μ47 μ50 := hF53 _ _
  have hO := (hF53 0 0).ob hO (Or.inr (Nat.zero_le _))
  have hA4 := (hF53 0 0).ai hA4 (Or.inr (Nat.zero_le _))
  have hA12 := (hF53 0 0).az hA12 (Or.inr (Nat.zero_le _))
  have hA20 := (hF53 0 0).ai hA20 (Or.inr (Nat.zero_le _))
  have hA28 := (hF53 0 0).ai hA28 (Or.inr (Nat.zero_le _))
  have hA36 := (hF53 0 0).ai hA36 (Or.inr (Nat.zero_le _))
  have hA44 := (hF53 0 0).az hA44 (Or.inr (Nat.zero_le _))
  have hFr : Fr 3000 3030 μ μ50 := hFr.tr (hF53 3000 3030)
  refine z_putF (ci := 10) (Cn := RX9) (T := TX9) (N := 29) (ref := "CairnCipherModel") (fs' := [.ref a1, .ref a9, .ref a17, .ref a25, .ref a33, .ref a41, .ref a49, .int (zI 0), .null, .null, .null, .null, .int (zI 0), .null, .null, .null, .null, .null, .int (zI 0), .null, .null, .null, .null, .int (zI 0), .int (zI 0), .int (zI 0), .null, .int (zI 0), .null]) C dX9_init_57 hnm in_X9 rfl tyX9 tyX9_ok nmX9 hO 6 (by decide) (by decide +kernel) rfl rfl rfl rfl rfl rfl (Nat.le_of_ble_eq_true rfl) rfl (fun μ55 hOw hF56 => ?_)
  have hA4 := hF56.ai hA4
  have hA12 := hF56.az hA12
  have hA20 := hF56.ai hA20
  have hA28 := hF56.ai hA28
  have hA36 := hF56.ai hA36
  have hA44 := hF56.az hA44
  have hA52 := hF56.ai hA52
  have hFr : Fr 3000 3030 μ μ55 := hFr.tr hF56
  have hO := hOw
  refine x_aload_n C dX9_init_60 rfl 0 rfl ?_
  refine z_bipush C dX9_init_61 (by decide) ?_
  refine z_newI (N9 := 6) (cc9 := 8) (ss9 := 281) C 3009 dX9_init_63 (by decide +kernel) rfl (by decide) rfl rfl (Nat.le_of_ble_eq_true rfl) (Nat.le_of_ble_eq_true rfl) (fun a57 μ58 hq59 hA60 hF61 => ?_)
  have hF62 : Fr 0 0 μ55 μ58 := hF61 _ _
  have hO := (hF61 0 0).ob hO (Or.inr (Nat.zero_le _))
  have hA4 := (hF61 0 0).ai hA4 (Or.inr (Nat.zero_le _))
  have hA12 := (hF61 0 0).az hA12 (Or.inr (Nat.zero_le _))
  have hA20 := (hF61 0 0).ai hA20 (Or.inr (Nat.zero_le _))
  have hA28 := (hF61 0 0).ai hA28 (Or.inr (Nat.zero_le _))
  have hA36 := (hF61 0 0).ai hA36 (Or.inr (Nat.zero_le _))
  have hA44 := (hF61 0 0).az hA44 (Or.inr (Nat.zero_le _))
  have hA52 := (hF61 0 0).ai hA52 (Or.inr (Nat.zero_le _))
  have hFr : Fr 3000 3030 μ μ58 := hFr.tr (hF61 3000 3030)
  refine z_putF (ci := 10) (Cn := RX9) (T := TX9) (N := 29) (ref := "CairnCipherModel") (fs' := [.ref a1, .ref a9, .ref a17, .ref a25, .ref a33, .ref a41, .ref a49, .int (zI 0), .ref a57, .null, .null, .null, .int (zI 0), .null, .null, .null, .null, .null, .int (zI 0), .null, .null, .null, .null, .int (zI 0), .int (zI 0), .int (zI 0), .null, .int (zI 0), .null]) C dX9_init_65 hnm in_X9 rfl tyX9 tyX9_ok nmX9 hO 8 (by decide) (by decide +kernel) rfl rfl rfl rfl rfl rfl (Nat.le_of_ble_eq_true rfl) rfl (fun μ63 hOw hF64 => ?_)
  have hA4 := hF64.ai hA4
  have hA12 := hF64.az hA12
  have hA20 := hF64.ai hA20
  have hA28 := hF64.ai hA28
  have hA36 := hF64.ai hA36
  have hA44 := hF64.az hA44
  have hA52 := hF64.ai hA52
  have hA60 := hF64.ai hA60
  have hFr : Fr 3000 3030 μ μ63 := hFr.tr hF64
  have hO := hOw
  refine x_aload_n C dX9_init_68 rfl 0 rfl ?_
  refine z_bipush C dX9_init_69 (by decide) ?_
  refine z_newI (N9 := 6) (cc9 := 9) (ss9 := 287) C 3010 dX9_init_71 (by decide +kernel) rfl (by decide) rfl rfl (Nat.le_of_ble_eq_true rfl) (Nat.le_of_ble_eq_true rfl) (fun a65 μ66 hq67 hA68 hF69 => ?_)
  have hF70 : Fr 0 0 μ63 μ66 := hF69 _ _
  have hO := (hF69 0 0).ob hO (Or.inr (Nat.zero_le _))
  have hA4 := (hF69 0 0).ai hA4 (Or.inr (Nat.zero_le _))
  have hA12 := (hF69 0 0).az hA12 (Or.inr (Nat.zero_le _))
  have hA20 := (hF69 0 0).ai hA20 (Or.inr (Nat.zero_le _))
  have hA28 := (hF69 0 0).ai hA28 (Or.inr (Nat.zero_le _))
  have hA36 := (hF69 0 0).ai hA36 (Or.inr (Nat.zero_le _))
  have hA44 := (hF69 0 0).az hA44 (Or.inr (Nat.zero_le _))
  have hA52 := (hF69 0 0).ai hA52 (Or.inr (Nat.zero_le _))
  have hA60 := (hF69 0 0).ai hA60 (Or.inr (Nat.zero_le _))
  have hFr : Fr 3000 3030 μ μ66 := hFr.tr (hF69 3000 3030)
  refine z_putF (ci := 10) (Cn := RX9) (T := TX9) (N := 29) (ref := "CairnCipherModel") (fs' := [.ref a1, .ref a9, .ref a17, .ref a25, .ref a33, .ref a41, .ref a49, .int (zI 0), .ref a57, .ref a65, .null, .null, .int (zI 0), .null, .null, .null, .null, .null, .int (zI 0), .null, .null, .null, .null, .int (zI 0), .int (zI 0), .int (zI 0), .null, .int (zI 0), .null]) C dX9_init_73 hnm in_X9 rfl tyX9 tyX9_ok nmX9 hO 9 (by decide) (by decide +kernel) rfl rfl rfl rfl rfl rfl (Nat.le_of_ble_eq_true rfl) rfl (fun μ71 hOw hF72 => ?_)
  have hA4 := hF72.ai hA4
  have hA12 := hF72.az hA12
  have hA20 := hF72.ai hA20
  have hA28 := hF72.ai hA28
  have hA36 := hF72.ai hA36
  have hA44 := hF72.az hA44
  have hA52 := hF72.ai hA52
  have hA60 := hF72.ai hA60
  have hA68 := hF72.ai hA68
  have hFr : Fr 3000 3030 μ μ71 := hFr.tr hF72
  have hO := hOw
  refine x_aload_n C dX9_init_76 rfl 0 rfl ?_
  refine z_bipush C dX9_init_77 (by decide) ?_
  refine z_newI (N9 := 35) (cc9 := 10) (ss9 := 322) C 3011 dX9_init_79 (by decide +kernel) rfl (by decide) rfl rfl (Nat.le_of_ble_eq_true rfl) (Nat.le_of_ble_eq_true rfl) (fun a73 μ74 hq75 hA76 hF77 => ?_)
  have hF78 : Fr 0 0 μ71 μ74 := hF77 _ _
  have hO := (hF77 0 0).ob hO (Or.inr (Nat.zero_le _))
  have hA4 := (hF77 0 0).ai hA4 (Or.inr (Nat.zero_le _))
  have hA12 := (hF77 0 0).az hA12 (Or.inr (Nat.zero_le _))
  have hA20 := (hF77 0 0).ai hA20 (Or.inr (Nat.zero_le _))
  have hA28 := (hF77 0 0).ai hA28 (Or.inr (Nat.zero_le _))
  have hA36 := (hF77 0 0).ai hA36 (Or.inr (Nat.zero_le _))
  have hA44 := (hF77 0 0).az hA44 (Or.inr (Nat.zero_le _))
  have hA52 := (hF77 0 0).ai hA52 (Or.inr (Nat.zero_le _))
  have hA60 := (hF77 0 0).ai hA60 (Or.inr (Nat.zero_le _))
  have hA68 := (hF77 0 0).ai hA68 (Or.inr (Nat.zero_le _))
  have hFr : Fr 3000 3030 μ μ74 := hFr.tr (hF77 3000 3030)
  refine z_putF (ci := 10) (Cn := RX9) (T := TX9) (N := 29) (ref := "CairnCipherModel") (fs' := [.ref a1, .ref a9, .ref a17, .ref a25, .ref a33, .ref a41, .ref a49, .int (zI 0), .ref a57, .ref a65, .ref a73, .null, .int (zI 0), .null, .null, .null, .null, .null, .int (zI 0), .null, .null, .null, .null, .int (zI 0), .int (zI 0), .int (zI 0), .null, .int (zI 0), .null]) C dX9_init_81 hnm in_X9 rfl tyX9 tyX9_ok nmX9 hO 10 (by decide) (by decide +kernel) rfl rfl rfl rfl rfl rfl (Nat.le_of_ble_eq_true rfl) rfl (fun μ79 hOw hF80 => ?_)
  have hA4 := hF80.ai hA4
  have hA12 := hF80.az hA12
  have hA20 := hF80.ai hA20
  have hA28 := hF80.ai hA28
  have hA36 := hF80.ai hA36
  have hA44 := hF80.az hA44
  have hA52 := hF80.ai hA52
  have hA60 := hF80.ai hA60
  have hA68 := hF80.ai hA68
  have hA76 := hF80.ai hA76
  have hFr : Fr 3000 3030 μ μ79 := hFr.tr hF80
  have hO := hOw
  refine x_aload_n C dX9_init_84 rfl 0 rfl ?_
  refine z_bipush C dX9_init_85 (by decide) ?_
  refine z_newI (N9 := 7) (cc9 := 11) (ss9 := 329) C 3012 dX9_init_87 (by decide +kernel) rfl (by decide) rfl rfl (Nat.le_of_ble_eq_true rfl) (Nat.le_of_ble_eq_true rfl) (fun a81 μ82 hq83 hA84 hF85 => ?_)
  have hF86 : Fr 0 0 μ79 μ82 := hF85 _ _
  have hO := (hF85 0 0).ob hO (Or.inr (Nat.zero_le _))
  have hA4 := (hF85 0 0).ai hA4 (Or.inr (Nat.zero_le _))
  have hA12 := (hF85 0 0).az hA12 (Or.inr (Nat.zero_le _))
  have hA20 := (hF85 0 0).ai hA20 (Or.inr (Nat.zero_le _))
  have hA28 := (hF85 0 0).ai hA28 (Or.inr (Nat.zero_le _))
  have hA36 := (hF85 0 0).ai hA36 (Or.inr (Nat.zero_le _))
  have hA44 := (hF85 0 0).az hA44 (Or.inr (Nat.zero_le _))
  have hA52 := (hF85 0 0).ai hA52 (Or.inr (Nat.zero_le _))
  have hA60 := (hF85 0 0).ai hA60 (Or.inr (Nat.zero_le _))
  have hA68 := (hF85 0 0).ai hA68 (Or.inr (Nat.zero_le _))
  have hA76 := (hF85 0 0).ai hA76 (Or.inr (Nat.zero_le _))
  have hFr : Fr 3000 3030 μ μ82 := hFr.tr (hF85 3000 3030)
  refine z_putF (ci := 10) (Cn := RX9) (T := TX9) (N := 29) (ref := "CairnCipherModel") (fs' := [.ref a1, .ref a9, .ref a17, .ref a25, .ref a33, .ref a41, .ref a49, .int (zI 0), .ref a57, .ref a65, .ref a73, .ref a81, .int (zI 0), .null, .null, .null, .null, .null, .int (zI 0), .null, .null, .null, .null, .int (zI 0), .int (zI 0), .int (zI 0), .null, .int (zI 0), .null]) C dX9_init_89 hnm in_X9 rfl tyX9 tyX9_ok nmX9 hO 11 (by decide) (by decide +kernel) rfl rfl rfl rfl rfl rfl (Nat.le_of_ble_eq_true rfl) rfl (fun μ87 hOw hF88 => ?_)
  have hA4 := hF88.ai hA4
  have hA12 := hF88.az hA12
  have hA20 := hF88.ai hA20
  have hA28 := hF88.ai hA28
  have hA36 := hF88.ai hA36
  have hA44 := hF88.az hA44
  have hA52 := hF88.ai hA52
  have hA60 := hF88.ai hA60
  have hA68 := hF88.ai hA68
  have hA76 := hF88.ai hA76
  have hA84 := hF88.ai hA84
  have hFr : Fr 3000 3030 μ μ87 := hFr.tr hF88
  have hO := hOw
  refine x_aload_n C dX9_init_92 rfl 0 rfl ?_
  refine z_bipush C dX9_init_93 (by decide) ?_
  refine z_newI (N9 := 6) (cc9 := 12) (ss9 := 335) C 3014 dX9_init_95 (by decide +kernel) rfl (by decide) rfl rfl (Nat.le_of_ble_eq_true rfl) (Nat.le_of_ble_eq_true rfl) (fun a89 μ90 hq91 hA92 hF93 => ?_)
  have hF94 : Fr 0 0 μ87 μ90 := hF93 _ _
  have hO := (hF93 0 0).ob hO (Or.inr (Nat.zero_le _))
  have hA4 := (hF93 0 0).ai hA4 (Or.inr (Nat.zero_le _))
  have hA12 := (hF93 0 0).az hA12 (Or.inr (Nat.zero_le _))
  have hA20 := (hF93 0 0).ai hA20 (Or.inr (Nat.zero_le _))
  have hA28 := (hF93 0 0).ai hA28 (Or.inr (Nat.zero_le _))
  have hA36 := (hF93 0 0).ai hA36 (Or.inr (Nat.zero_le _))
  have hA44 := (hF93 0 0).az hA44 (Or.inr (Nat.zero_le _))
  have hA52 := (hF93 0 0).ai hA52 (Or.inr (Nat.zero_le _))
  have hA60 := (hF93 0 0).ai hA60 (Or.inr (Nat.zero_le _))
  have hA68 := (hF93 0 0).ai hA68 (Or.inr (Nat.zero_le _))
  have hA76 := (hF93 0 0).ai hA76 (Or.inr (Nat.zero_le _))
  have hA84 := (hF93 0 0).ai hA84 (Or.inr (Nat.zero_le _))
  have hFr : Fr 3000 3030 μ μ90 := hFr.tr (hF93 3000 3030)
  refine z_putF (ci := 10) (Cn := RX9) (T := TX9) (N := 29) (ref := "CairnCipherModel") (fs' := [.ref a1, .ref a9, .ref a17, .ref a25, .ref a33, .ref a41, .ref a49, .int (zI 0), .ref a57, .ref a65, .ref a73, .ref a81, .int (zI 0), .ref a89, .null, .null, .null, .null, .int (zI 0), .null, .null, .null, .null, .int (zI 0), .int (zI 0), .int (zI 0), .null, .int (zI 0), .null]) C dX9_init_97 hnm in_X9 rfl tyX9 tyX9_ok nmX9 hO 13 (by decide) (by decide +kernel) rfl rfl rfl rfl rfl rfl (Nat.le_of_ble_eq_true rfl) rfl (fun μ95 hOw hF96 => ?_)
  have hA4 := hF96.ai hA4
  have hA12 := hF96.az hA12
  have hA20 := hF96.ai hA20
  have hA28 := hF96.ai hA28
  have hA36 := hF96.ai hA36
  have hA44 := hF96.az hA44
  have hA52 := hF96.ai hA52
  have hA60 := hF96.ai hA60
  have hA68 := hF96.ai hA68
  have hA76 := hF96.ai hA76
  have hA84 := hF96.ai hA84
  have hA92 := hF96.ai hA92
  have hFr : Fr 3000 3030 μ μ95 := hFr.tr hF96
  have hO := hOw
  refine x_aload_n C dX9_init_100 rfl 0 rfl ?_
  refine z_bipush C dX9_init_101 (by decide) ?_
  refine z_newI (N9 := 6) (cc9 := 13) (ss9 := 341) C 3015 dX9_init_103 (by decide +kernel) rfl (by decide) rfl rfl (Nat.le_of_ble_eq_true rfl) (Nat.le_of_ble_eq_true rfl) (fun a97 μ98 hq99 hA100 hF101 => ?_)
  have hF102 : Fr 0 0 μ95 μ98 := hF101 _ _
  have hO := (hF101 0 0).ob hO (Or.inr (Nat.zero_le _))
  have hA4 := (hF101 0 0).ai hA4 (Or.inr (Nat.zero_le _))
  have hA12 := (hF101 0 0).az hA12 (Or.inr (Nat.zero_le _))
  have hA20 := (hF101 0 0).ai hA20 (Or.inr (Nat.zero_le _))
  have hA28 := (hF101 0 0).ai hA28 (Or.inr (Nat.zero_le _))
  have hA36 := (hF101 0 0).ai hA36 (Or.inr (Nat.zero_le _))
  have hA44 := (hF101 0 0).az hA44 (Or.inr (Nat.zero_le _))
  have hA52 := (hF101 0 0).ai hA52 (Or.inr (Nat.zero_le _))
  have hA60 := (hF101 0 0).ai hA60 (Or.inr (Nat.zero_le _))
  have hA68 := (hF101 0 0).ai hA68 (Or.inr (Nat.zero_le _))
  have hA76 := (hF101 0 0).ai hA76 (Or.inr (Nat.zero_le _))
  have hA84 := (hF101 0 0).ai hA84 (Or.inr (Nat.zero_le _))
  have hA92 := (hF101 0 0).ai hA92 (Or.inr (Nat.zero_le _))
  have hFr : Fr 3000 3030 μ μ98 := hFr.tr (hF101 3000 3030)
  refine z_putF (ci := 10) (Cn := RX9) (T := TX9) (N := 29) (ref := "CairnCipherModel") (fs' := [.ref a1, .ref a9, .ref a17, .ref a25, .ref a33, .ref a41, .ref a49, .int (zI 0), .ref a57, .ref a65, .ref a73, .ref a81, .int (zI 0), .ref a89, .ref a97, .null, .null, .null, .int (zI 0), .null, .null, .null, .null, .int (zI 0), .int (zI 0), .int (zI 0), .null, .int (zI 0), .null]) C dX9_init_105 hnm in_X9 rfl tyX9 tyX9_ok nmX9 hO 14 (by decide) (by decide +kernel) rfl rfl rfl rfl rfl rfl (Nat.le_of_ble_eq_true rfl) rfl (fun μ103 hOw hF104 => ?_)
  have hA4 := hF104.ai hA4
  have hA12 := hF104.az hA12
  have hA20 := hF104.ai hA20
  have hA28 := hF104.ai hA28
  have hA36 := hF104.ai hA36
  have hA44 := hF104.az hA44
  have hA52 := hF104.ai hA52
  have hA60 := hF104.ai hA60
  have hA68 := hF104.ai hA68
  have hA76 := hF104.ai hA76
  have hA84 := hF104.ai hA84
  have hA92 := hF104.ai hA92
  have hA100 := hF104.ai hA100
  have hFr : Fr 3000 3030 μ μ103 := hFr.tr hF104
  have hO := hOw
  refine x_aload_n C dX9_init_108 rfl 0 rfl ?_
  refine z_bipush C dX9_init_109 (by decide) ?_
  refine z_newI (N9 := 6) (cc9 := 14) (ss9 := 347) C 3016 dX9_init_111 (by decide +kernel) rfl (by decide) rfl rfl (Nat.le_of_ble_eq_true rfl) (Nat.le_of_ble_eq_true rfl) (fun a105 μ106 hq107 hA108 hF109 => ?_)
  have hF110 : Fr 0 0 μ103 μ106 := hF109 _ _
  have hO := (hF109 0 0).ob hO (Or.inr (Nat.zero_le _))
  have hA4 := (hF109 0 0).ai hA4 (Or.inr (Nat.zero_le _))
  have hA12 := (hF109 0 0).az hA12 (Or.inr (Nat.zero_le _))
  have hA20 := (hF109 0 0).ai hA20 (Or.inr (Nat.zero_le _))
  have hA28 := (hF109 0 0).ai hA28 (Or.inr (Nat.zero_le _))
  have hA36 := (hF109 0 0).ai hA36 (Or.inr (Nat.zero_le _))
  have hA44 := (hF109 0 0).az hA44 (Or.inr (Nat.zero_le _))
  have hA52 := (hF109 0 0).ai hA52 (Or.inr (Nat.zero_le _))
  have hA60 := (hF109 0 0).ai hA60 (Or.inr (Nat.zero_le _))
  have hA68 := (hF109 0 0).ai hA68 (Or.inr (Nat.zero_le _))
  have hA76 := (hF109 0 0).ai hA76 (Or.inr (Nat.zero_le _))
  have hA84 := (hF109 0 0).ai hA84 (Or.inr (Nat.zero_le _))
  have hA92 := (hF109 0 0).ai hA92 (Or.inr (Nat.zero_le _))
  have hA100 := (hF109 0 0).ai hA100 (Or.inr (Nat.zero_le _))
  have hFr : Fr 3000 3030 μ μ106 := hFr.tr (hF109 3000 3030)
  refine z_putF (ci := 10) (Cn := RX9) (T := TX9) (N := 29) (ref := "CairnCipherModel") (fs' := [.ref a1, .ref a9, .ref a17, .ref a25, .ref a33, .ref a41, .ref a49, .int (zI 0), .ref a57, .ref a65, .ref a73, .ref a81, .int (zI 0), .ref a89, .ref a97, .ref a105, .null, .null, .int (zI 0), .null, .null, .null, .null, .int (zI 0), .int (zI 0), .int (zI 0), .null, .int (zI 0), .null]) C dX9_init_113 hnm in_X9 rfl tyX9 tyX9_ok nmX9 hO 15 (by decide) (by decide +kernel) rfl rfl rfl rfl rfl rfl (Nat.le_of_ble_eq_true rfl) rfl (fun μ111 hOw hF112 => ?_)
  have hA4 := hF112.ai hA4
  have hA12 := hF112.az hA12
  have hA20 := hF112.ai hA20
  have hA28 := hF112.ai hA28
  have hA36 := hF112.ai hA36
  have hA44 := hF112.az hA44
  have hA52 := hF112.ai hA52
  have hA60 := hF112.ai hA60
  have hA68 := hF112.ai hA68
  have hA76 := hF112.ai hA76
  have hA84 := hF112.ai hA84
  have hA92 := hF112.ai hA92
  have hA100 := hF112.ai hA100
  have hA108 := hF112.ai hA108
  have hFr : Fr 3000 3030 μ μ111 := hFr.tr hF112
  have hO := hOw
  refine x_aload_n C dX9_init_116 rfl 0 rfl ?_
  refine z_bipush C dX9_init_117 (by decide) ?_
  refine z_newI (N9 := 6) (cc9 := 15) (ss9 := 353) C 3017 dX9_init_119 (by decide +kernel) rfl (by decide) rfl rfl (Nat.le_of_ble_eq_true rfl) (Nat.le_of_ble_eq_true rfl) (fun a113 μ114 hq115 hA116 hF117 => ?_)
  have hF118 : Fr 0 0 μ111 μ114 := hF117 _ _
  have hO := (hF117 0 0).ob hO (Or.inr (Nat.zero_le _))
  have hA4 := (hF117 0 0).ai hA4 (Or.inr (Nat.zero_le _))
  have hA12 := (hF117 0 0).az hA12 (Or.inr (Nat.zero_le _))
  have hA20 := (hF117 0 0).ai hA20 (Or.inr (Nat.zero_le _))
  have hA28 := (hF117 0 0).ai hA28 (Or.inr (Nat.zero_le _))
  have hA36 := (hF117 0 0).ai hA36 (Or.inr (Nat.zero_le _))
  have hA44 := (hF117 0 0).az hA44 (Or.inr (Nat.zero_le _))
  have hA52 := (hF117 0 0).ai hA52 (Or.inr (Nat.zero_le _))
  have hA60 := (hF117 0 0).ai hA60 (Or.inr (Nat.zero_le _))
  have hA68 := (hF117 0 0).ai hA68 (Or.inr (Nat.zero_le _))
  have hA76 := (hF117 0 0).ai hA76 (Or.inr (Nat.zero_le _))
  have hA84 := (hF117 0 0).ai hA84 (Or.inr (Nat.zero_le _))
  have hA92 := (hF117 0 0).ai hA92 (Or.inr (Nat.zero_le _))
  have hA100 := (hF117 0 0).ai hA100 (Or.inr (Nat.zero_le _))
  have hA108 := (hF117 0 0).ai hA108 (Or.inr (Nat.zero_le _))
  have hFr : Fr 3000 3030 μ μ114 := hFr.tr (hF117 3000 3030)
  refine z_putF (ci := 10) (Cn := RX9) (T := TX9) (N := 29) (ref := "CairnCipherModel") (fs' := [.ref a1, .ref a9, .ref a17, .ref a25, .ref a33, .ref a41, .ref a49, .int (zI 0), .ref a57, .ref a65, .ref a73, .ref a81, .int (zI 0), .ref a89, .ref a97, .ref a105, .ref a113, .null, .int (zI 0), .null, .null, .null, .null, .int (zI 0), .int (zI 0), .int (zI 0), .null, .int (zI 0), .null]) C dX9_init_121 hnm in_X9 rfl tyX9 tyX9_ok nmX9 hO 16 (by decide) (by decide +kernel) rfl rfl rfl rfl rfl rfl (Nat.le_of_ble_eq_true rfl) rfl (fun μ119 hOw hF120 => ?_)
  have hA4 := hF120.ai hA4
  have hA12 := hF120.az hA12
  have hA20 := hF120.ai hA20
  have hA28 := hF120.ai hA28
  have hA36 := hF120.ai hA36
  have hA44 := hF120.az hA44
  have hA52 := hF120.ai hA52
  have hA60 := hF120.ai hA60
  have hA68 := hF120.ai hA68
  have hA76 := hF120.ai hA76
  have hA84 := hF120.ai hA84
  have hA92 := hF120.ai hA92
  have hA100 := hF120.ai hA100
  have hA108 := hF120.ai hA108
  have hA116 := hF120.ai hA116
  have hFr : Fr 3000 3030 μ μ119 := hFr.tr hF120
  have hO := hOw
  refine x_aload_n C dX9_init_124 rfl 0 rfl ?_
  refine z_bipush C dX9_init_125 (by decide) ?_
  refine z_newI (N9 := 6) (cc9 := 16) (ss9 := 359) C 3018 dX9_init_127 (by decide +kernel) rfl (by decide) rfl rfl (Nat.le_of_ble_eq_true rfl) (Nat.le_of_ble_eq_true rfl) (fun a121 μ122 hq123 hA124 hF125 => ?_)
  have hF126 : Fr 0 0 μ119 μ122 := hF125 _ _
  have hO := (hF125 0 0).ob hO (Or.inr (Nat.zero_le _))
  have hA4 := (hF125 0 0).ai hA4 (Or.inr (Nat.zero_le _))
  have hA12 := (hF125 0 0).az hA12 (Or.inr (Nat.zero_le _))
  have hA20 := (hF125 0 0).ai hA20 (Or.inr (Nat.zero_le _))
  have hA28 := (hF125 0 0).ai hA28 (Or.inr (Nat.zero_le _))
  have hA36 := (hF125 0 0).ai hA36 (Or.inr (Nat.zero_le _))
  have hA44 := (hF125 0 0).az hA44 (Or.inr (Nat.zero_le _))
  have hA52 := (hF125 0 0).ai hA52 (Or.inr (Nat.zero_le _))
  have hA60 := (hF125 0 0).ai hA60 (Or.inr (Nat.zero_le _))
  have hA68 := (hF125 0 0).ai hA68 (Or.inr (Nat.zero_le _))
  have hA76 := (hF125 0 0).ai hA76 (Or.inr (Nat.zero_le _))
  have hA84 := (hF125 0 0).ai hA84 (Or.inr (Nat.zero_le _))
  have hA92 := (hF125 0 0).ai hA92 (Or.inr (Nat.zero_le _))
  have hA100 := (hF125 0 0).ai hA100 (Or.inr (Nat.zero_le _))
  have hA108 := (hF125 0 0).ai hA108 (Or.inr (Nat.zero_le _))
  have hA116 := (hF125 0 0).ai hA116 (Or.inr (Nat.zero_le _))
  have hFr : Fr 3000 3030 μ μ122 := hFr.tr (hF125 3000 3030)
  refine z_putF (ci := 10) (Cn := RX9) (T := TX9) (N := 29) (ref := "CairnCipherModel") (fs' := [.ref a1, .ref a9, .ref a17, .ref a25, .ref a33, .ref a41, .ref a49, .int (zI 0), .ref a57, .ref a65, .ref a73, .ref a81, .int (zI 0), .ref a89, .ref a97, .ref a105, .ref a113, .ref a121, .int (zI 0), .null, .null, .null, .null, .int (zI 0), .int (zI 0), .int (zI 0), .null, .int (zI 0), .null]) C dX9_init_129 hnm in_X9 rfl tyX9 tyX9_ok nmX9 hO 17 (by decide) (by decide +kernel) rfl rfl rfl rfl rfl rfl (Nat.le_of_ble_eq_true rfl) rfl (fun μ127 hOw hF128 => ?_)
  have hA4 := hF128.ai hA4
  have hA12 := hF128.az hA12
  have hA20 := hF128.ai hA20
  have hA28 := hF128.ai hA28
  have hA36 := hF128.ai hA36
  have hA44 := hF128.az hA44
  have hA52 := hF128.ai hA52
  have hA60 := hF128.ai hA60
  have hA68 := hF128.ai hA68
  have hA76 := hF128.ai hA76
  have hA84 := hF128.ai hA84
  have hA92 := hF128.ai hA92
  have hA100 := hF128.ai hA100
  have hA108 := hF128.ai hA108
  have hA116 := hF128.ai hA116
  have hA124 := hF128.ai hA124
  have hFr : Fr 3000 3030 μ μ127 := hFr.tr hF128
  have hO := hOw
  refine x_aload_n C dX9_init_132 rfl 0 rfl ?_
  refine z_iconst C dX9_init_133 ?_
  refine z_newI (N9 := 4) (cc9 := 17) (ss9 := 363) C 3020 dX9_init_134 (by decide +kernel) rfl (by decide) rfl rfl (Nat.le_of_ble_eq_true rfl) (Nat.le_of_ble_eq_true rfl) (fun a129 μ130 hq131 hA132 hF133 => ?_)
  have hF134 : Fr 0 0 μ127 μ130 := hF133 _ _
  have hO := (hF133 0 0).ob hO (Or.inr (Nat.zero_le _))
  have hA4 := (hF133 0 0).ai hA4 (Or.inr (Nat.zero_le _))
  have hA12 := (hF133 0 0).az hA12 (Or.inr (Nat.zero_le _))
  have hA20 := (hF133 0 0).ai hA20 (Or.inr (Nat.zero_le _))
  have hA28 := (hF133 0 0).ai hA28 (Or.inr (Nat.zero_le _))
  have hA36 := (hF133 0 0).ai hA36 (Or.inr (Nat.zero_le _))
  have hA44 := (hF133 0 0).az hA44 (Or.inr (Nat.zero_le _))
  have hA52 := (hF133 0 0).ai hA52 (Or.inr (Nat.zero_le _))
  have hA60 := (hF133 0 0).ai hA60 (Or.inr (Nat.zero_le _))
  have hA68 := (hF133 0 0).ai hA68 (Or.inr (Nat.zero_le _))
  have hA76 := (hF133 0 0).ai hA76 (Or.inr (Nat.zero_le _))
  have hA84 := (hF133 0 0).ai hA84 (Or.inr (Nat.zero_le _))
  have hA92 := (hF133 0 0).ai hA92 (Or.inr (Nat.zero_le _))
  have hA100 := (hF133 0 0).ai hA100 (Or.inr (Nat.zero_le _))
  have hA108 := (hF133 0 0).ai hA108 (Or.inr (Nat.zero_le _))
  have hA116 := (hF133 0 0).ai hA116 (Or.inr (Nat.zero_le _))
  have hA124 := (hF133 0 0).ai hA124 (Or.inr (Nat.zero_le _))
  have hFr : Fr 3000 3030 μ μ130 := hFr.tr (hF133 3000 3030)
  refine z_putF (ci := 10) (Cn := RX9) (T := TX9) (N := 29) (ref := "CairnCipherModel") (fs' := [.ref a1, .ref a9, .ref a17, .ref a25, .ref a33, .ref a41, .ref a49, .int (zI 0), .ref a57, .ref a65, .ref a73, .ref a81, .int (zI 0), .ref a89, .ref a97, .ref a105, .ref a113, .ref a121, .int (zI 0), .ref a129, .null, .null, .null, .int (zI 0), .int (zI 0), .int (zI 0), .null, .int (zI 0), .null]) C dX9_init_136 hnm in_X9 rfl tyX9 tyX9_ok nmX9 hO 19 (by decide) (by decide +kernel) rfl rfl rfl rfl rfl rfl (Nat.le_of_ble_eq_true rfl) rfl (fun μ135 hOw hF136 => ?_)
  have hA4 := hF136.ai hA4
  have hA12 := hF136.az hA12
  have hA20 := hF136.ai hA20
  have hA28 := hF136.ai hA28
  have hA36 := hF136.ai hA36
  have hA44 := hF136.az hA44
  have hA52 := hF136.ai hA52
  have hA60 := hF136.ai hA60
  have hA68 := hF136.ai hA68
  have hA76 := hF136.ai hA76
  have hA84 := hF136.ai hA84
  have hA92 := hF136.ai hA92
  have hA100 := hF136.ai hA100
  have hA108 := hF136.ai hA108
  have hA116 := hF136.ai hA116
  have hA124 := hF136.ai hA124
  have hA132 := hF136.ai hA132
  have hFr : Fr 3000 3030 μ μ135 := hFr.tr hF136
  have hO := hOw
  refine x_aload_n C dX9_init_139 rfl 0 rfl ?_
  refine z_bipush C dX9_init_140 (by decide) ?_
  refine z_newZ (N9 := 36) (cc9 := 18) (ss9 := 399) C 3021 dX9_init_142 (by decide +kernel) rfl (by decide) rfl rfl (Nat.le_of_ble_eq_true rfl) (Nat.le_of_ble_eq_true rfl) (fun a137 μ138 hq139 hA140 hF141 => ?_)
  have hF142 : Fr 0 0 μ135 μ138 := hF141 _ _
  have hO := (hF141 0 0).ob hO (Or.inr (Nat.zero_le _))
  have hA4 := (hF141 0 0).ai hA4 (Or.inr (Nat.zero_le _))
  have hA12 := (hF141 0 0).az hA12 (Or.inr (Nat.zero_le _))
  have hA20 := (hF141 0 0).ai hA20 (Or.inr (Nat.zero_le _))
  have hA28 := (hF141 0 0).ai hA28 (Or.inr (Nat.zero_le _))
  have hA36 := (hF141 0 0).ai hA36 (Or.inr (Nat.zero_le _))
  have hA44 := (hF141 0 0).az hA44 (Or.inr (Nat.zero_le _))
  have hA52 := (hF141 0 0).ai hA52 (Or.inr (Nat.zero_le _))
  have hA60 := (hF141 0 0).ai hA60 (Or.inr (Nat.zero_le _))
  have hA68 := (hF141 0 0).ai hA68 (Or.inr (Nat.zero_le _))
  have hA76 := (hF141 0 0).ai hA76 (Or.inr (Nat.zero_le _))
  have hA84 := (hF141 0 0).ai hA84 (Or.inr (Nat.zero_le _))
  have hA92 := (hF141 0 0).ai hA92 (Or.inr (Nat.zero_le _))
  have hA100 := (hF141 0 0).ai hA100 (Or.inr (Nat.zero_le _))
  have hA108 := (hF141 0 0).ai hA108 (Or.inr (Nat.zero_le _))
  have hA116 := (hF141 0 0).ai hA116 (Or.inr (Nat.zero_le _))
  have hA124 := (hF141 0 0).ai hA124 (Or.inr (Nat.zero_le _))
  have hA132 := (hF141 0 0).ai hA132 (Or.inr (Nat.zero_le _))
  have hFr : Fr 3000 3030 μ μ138 := hFr.tr (hF141 3000 3030)
  refine z_putF (ci := 10) (Cn := RX9) (T := TX9) (N := 29) (ref := "CairnCipherModel") (fs' := [.ref a1, .ref a9, .ref a17, .ref a25, .ref a33, .ref a41, .ref a49, .int (zI 0), .ref a57, .ref a65, .ref a73, .ref a81, .int (zI 0), .ref a89, .ref a97, .ref a105, .ref a113, .ref a121, .int (zI 0), .ref a129, .ref a137, .null, .null, .int (zI 0), .int (zI 0), .int (zI 0), .null, .int (zI 0), .null]) C dX9_init_144 hnm in_X9 rfl tyX9 tyX9_ok nmX9 hO 20 (by decide) (by decide +kernel) rfl rfl rfl rfl rfl rfl (Nat.le_of_ble_eq_true rfl) rfl (fun μ143 hOw hF144 => ?_)
  have hA4 := hF144.ai hA4
  have hA12 := hF144.az hA12
  have hA20 := hF144.ai hA20
  have hA28 := hF144.ai hA28
  have hA36 := hF144.ai hA36
  have hA44 := hF144.az hA44
  have hA52 := hF144.ai hA52
  have hA60 := hF144.ai hA60
  have hA68 := hF144.ai hA68
  have hA76 := hF144.ai hA76
  have hA84 := hF144.ai hA84
  have hA92 := hF144.ai hA92
  have hA100 := hF144.ai hA100
  have hA108 := hF144.ai hA108
  have hA116 := hF144.ai hA116
  have hA124 := hF144.ai hA124
  have hA132 := hF144.ai hA132
  have hA140 := hF144.az hA140
  have hFr : Fr 3000 3030 μ μ143 := hFr.tr hF144
  have hO := hOw
  refine x_aload_n C dX9_init_147 rfl 0 rfl ?_
  refine z_bipush C dX9_init_148 (by decide) ?_
  refine z_newZ (N9 := 36) (cc9 := 19) (ss9 := 435) C 3022 dX9_init_150 (by decide +kernel) rfl (by decide) rfl rfl (Nat.le_of_ble_eq_true rfl) (Nat.le_of_ble_eq_true rfl) (fun a145 μ146 hq147 hA148 hF149 => ?_)
  have hF150 : Fr 0 0 μ143 μ146 := hF149 _ _
  have hO := (hF149 0 0).ob hO (Or.inr (Nat.zero_le _))
  have hA4 := (hF149 0 0).ai hA4 (Or.inr (Nat.zero_le _))
  have hA12 := (hF149 0 0).az hA12 (Or.inr (Nat.zero_le _))
  have hA20 := (hF149 0 0).ai hA20 (Or.inr (Nat.zero_le _))
  have hA28 := (hF149 0 0).ai hA28 (Or.inr (Nat.zero_le _))
  have hA36 := (hF149 0 0).ai hA36 (Or.inr (Nat.zero_le _))
  have hA44 := (hF149 0 0).az hA44 (Or.inr (Nat.zero_le _))
  have hA52 := (hF149 0 0).ai hA52 (Or.inr (Nat.zero_le _))
  have hA60 := (hF149 0 0).ai hA60 (Or.inr (Nat.zero_le _))
  have hA68 := (hF149 0 0).ai hA68 (Or.inr (Nat.zero_le _))
  have hA76 := (hF149 0 0).ai hA76 (Or.inr (Nat.zero_le _))
  have hA84 := (hF149 0 0).ai hA84 (Or.inr (Nat.zero_le _))
  have hA92 := (hF149 0 0).ai hA92 (Or.inr (Nat.zero_le _))
  have hA100 := (hF149 0 0).ai hA100 (Or.inr (Nat.zero_le _))
  have hA108 := (hF149 0 0).ai hA108 (Or.inr (Nat.zero_le _))
  have hA116 := (hF149 0 0).ai hA116 (Or.inr (Nat.zero_le _))
  have hA124 := (hF149 0 0).ai hA124 (Or.inr (Nat.zero_le _))
  have hA132 := (hF149 0 0).ai hA132 (Or.inr (Nat.zero_le _))
  have hA140 := (hF149 0 0).az hA140 (Or.inr (Nat.zero_le _))
  have hFr : Fr 3000 3030 μ μ146 := hFr.tr (hF149 3000 3030)
  refine z_putF (ci := 10) (Cn := RX9) (T := TX9) (N := 29) (ref := "CairnCipherModel") (fs' := [.ref a1, .ref a9, .ref a17, .ref a25, .ref a33, .ref a41, .ref a49, .int (zI 0), .ref a57, .ref a65, .ref a73, .ref a81, .int (zI 0), .ref a89, .ref a97, .ref a105, .ref a113, .ref a121, .int (zI 0), .ref a129, .ref a137, .ref a145, .null, .int (zI 0), .int (zI 0), .int (zI 0), .null, .int (zI 0), .null]) C dX9_init_152 hnm in_X9 rfl tyX9 tyX9_ok nmX9 hO 21 (by decide) (by decide +kernel) rfl rfl rfl rfl rfl rfl (Nat.le_of_ble_eq_true rfl) rfl (fun μ151 hOw hF152 => ?_)
  have hA4 := hF152.ai hA4
  have hA12 := hF152.az hA12
  have hA20 := hF152.ai hA20
  have hA28 := hF152.ai hA28
  have hA36 := hF152.ai hA36
  have hA44 := hF152.az hA44
  have hA52 := hF152.ai hA52
  have hA60 := hF152.ai hA60
  have hA68 := hF152.ai hA68
  have hA76 := hF152.ai hA76
  have hA84 := hF152.ai hA84
  have hA92 := hF152.ai hA92
  have hA100 := hF152.ai hA100
  have hA108 := hF152.ai hA108
  have hA116 := hF152.ai hA116
  have hA124 := hF152.ai hA124
  have hA132 := hF152.ai hA132
  have hA140 := hF152.az hA140
  have hA148 := hF152.az hA148
  have hFr : Fr 3000 3030 μ μ151 := hFr.tr hF152
  have hO := hOw
  refine x_aload_n C dX9_init_155 rfl 0 rfl ?_
  refine z_bipush C dX9_init_156 (by decide) ?_
  refine z_newI (N9 := 36) (cc9 := 20) (ss9 := 471) C 3023 dX9_init_158 (by decide +kernel) rfl (by decide) rfl rfl (Nat.le_of_ble_eq_true rfl) (Nat.le_of_ble_eq_true rfl) (fun a153 μ154 hq155 hA156 hF157 => ?_)
  have hF158 : Fr 0 0 μ151 μ154 := hF157 _ _
  have hO := (hF157 0 0).ob hO (Or.inr (Nat.zero_le _))
  have hA4 := (hF157 0 0).ai hA4 (Or.inr (Nat.zero_le _))
  have hA12 := (hF157 0 0).az hA12 (Or.inr (Nat.zero_le _))
  have hA20 := (hF157 0 0).ai hA20 (Or.inr (Nat.zero_le _))
  have hA28 := (hF157 0 0).ai hA28 (Or.inr (Nat.zero_le _))
  have hA36 := (hF157 0 0).ai hA36 (Or.inr (Nat.zero_le _))
  have hA44 := (hF157 0 0).az hA44 (Or.inr (Nat.zero_le _))
  have hA52 := (hF157 0 0).ai hA52 (Or.inr (Nat.zero_le _))
  have hA60 := (hF157 0 0).ai hA60 (Or.inr (Nat.zero_le _))
  have hA68 := (hF157 0 0).ai hA68 (Or.inr (Nat.zero_le _))
  have hA76 := (hF157 0 0).ai hA76 (Or.inr (Nat.zero_le _))
  have hA84 := (hF157 0 0).ai hA84 (Or.inr (Nat.zero_le _))
  have hA92 := (hF157 0 0).ai hA92 (Or.inr (Nat.zero_le _))
  have hA100 := (hF157 0 0).ai hA100 (Or.inr (Nat.zero_le _))
  have hA108 := (hF157 0 0).ai hA108 (Or.inr (Nat.zero_le _))
  have hA116 := (hF157 0 0).ai hA116 (Or.inr (Nat.zero_le _))
  have hA124 := (hF157 0 0).ai hA124 (Or.inr (Nat.zero_le _))
  have hA132 := (hF157 0 0).ai hA132 (Or.inr (Nat.zero_le _))
  have hA140 := (hF157 0 0).az hA140 (Or.inr (Nat.zero_le _))
  have hA148 := (hF157 0 0).az hA148 (Or.inr (Nat.zero_le _))
  have hFr : Fr 3000 3030 μ μ154 := hFr.tr (hF157 3000 3030)
  refine z_putF (ci := 10) (Cn := RX9) (T := TX9) (N := 29) (ref := "CairnCipherModel") (fs' := [.ref a1, .ref a9, .ref a17, .ref a25, .ref a33, .ref a41, .ref a49, .int (zI 0), .ref a57, .ref a65, .ref a73, .ref a81, .int (zI 0), .ref a89, .ref a97, .ref a105, .ref a113, .ref a121, .int (zI 0), .ref a129, .ref a137, .ref a145, .ref a153, .int (zI 0), .int (zI 0), .int (zI 0), .null, .int (zI 0), .null]) C dX9_init_160 hnm in_X9 rfl tyX9 tyX9_ok nmX9 hO 22 (by decide) (by decide +kernel) rfl rfl rfl rfl rfl rfl (Nat.le_of_ble_eq_true rfl) rfl (fun μ159 hOw hF160 => ?_)
  have hA4 := hF160.ai hA4
  have hA12 := hF160.az hA12
  have hA20 := hF160.ai hA20
  have hA28 := hF160.ai hA28
  have hA36 := hF160.ai hA36
  have hA44 := hF160.az hA44
  have hA52 := hF160.ai hA52
  have hA60 := hF160.ai hA60
  have hA68 := hF160.ai hA68
  have hA76 := hF160.ai hA76
  have hA84 := hF160.ai hA84
  have hA92 := hF160.ai hA92
  have hA100 := hF160.ai hA100
  have hA108 := hF160.ai hA108
  have hA116 := hF160.ai hA116
  have hA124 := hF160.ai hA124
  have hA132 := hF160.ai hA132
  have hA140 := hF160.az hA140
  have hA148 := hF160.az hA148
  have hA156 := hF160.ai hA156
  have hFr : Fr 3000 3030 μ μ159 := hFr.tr hF160
  have hO := hOw
  refine x_aload_n C dX9_init_163 rfl 0 rfl ?_
  refine z_bipush C dX9_init_164 (by decide) ?_
  refine z_newI (N9 := 12) (cc9 := 21) (ss9 := 483) C 3027 dX9_init_166 (by decide +kernel) rfl (by decide) rfl rfl (Nat.le_of_ble_eq_true rfl) (Nat.le_of_ble_eq_true rfl) (fun a161 μ162 hq163 hA164 hF165 => ?_)
  have hF166 : Fr 0 0 μ159 μ162 := hF165 _ _
  have hO := (hF165 0 0).ob hO (Or.inr (Nat.zero_le _))
  have hA4 := (hF165 0 0).ai hA4 (Or.inr (Nat.zero_le _))
  have hA12 := (hF165 0 0).az hA12 (Or.inr (Nat.zero_le _))
  have hA20 := (hF165 0 0).ai hA20 (Or.inr (Nat.zero_le _))
  have hA28 := (hF165 0 0).ai hA28 (Or.inr (Nat.zero_le _))
  have hA36 := (hF165 0 0).ai hA36 (Or.inr (Nat.zero_le _))
  have hA44 := (hF165 0 0).az hA44 (Or.inr (Nat.zero_le _))
  have hA52 := (hF165 0 0).ai hA52 (Or.inr (Nat.zero_le _))
  have hA60 := (hF165 0 0).ai hA60 (Or.inr (Nat.zero_le _))
  have hA68 := (hF165 0 0).ai hA68 (Or.inr (Nat.zero_le _))
  have hA76 := (hF165 0 0).ai hA76 (Or.inr (Nat.zero_le _))
  have hA84 := (hF165 0 0).ai hA84 (Or.inr (Nat.zero_le _))
  have hA92 := (hF165 0 0).ai hA92 (Or.inr (Nat.zero_le _))
  have hA100 := (hF165 0 0).ai hA100 (Or.inr (Nat.zero_le _))
  have hA108 := (hF165 0 0).ai hA108 (Or.inr (Nat.zero_le _))
  have hA116 := (hF165 0 0).ai hA116 (Or.inr (Nat.zero_le _))
  have hA124 := (hF165 0 0).ai hA124 (Or.inr (Nat.zero_le _))
  have hA132 := (hF165 0 0).ai hA132 (Or.inr (Nat.zero_le _))
  have hA140 := (hF165 0 0).az hA140 (Or.inr (Nat.zero_le _))
  have hA148 := (hF165 0 0).az hA148 (Or.inr (Nat.zero_le _))
  have hA156 := (hF165 0 0).ai hA156 (Or.inr (Nat.zero_le _))
  have hFr : Fr 3000 3030 μ μ162 := hFr.tr (hF165 3000 3030)
  refine z_putF (ci := 10) (Cn := RX9) (T := TX9) (N := 29) (ref := "CairnCipherModel") (fs' := [.ref a1, .ref a9, .ref a17, .ref a25, .ref a33, .ref a41, .ref a49, .int (zI 0), .ref a57, .ref a65, .ref a73, .ref a81, .int (zI 0), .ref a89, .ref a97, .ref a105, .ref a113, .ref a121, .int (zI 0), .ref a129, .ref a137, .ref a145, .ref a153, .int (zI 0), .int (zI 0), .int (zI 0), .ref a161, .int (zI 0), .null]) C dX9_init_168 hnm in_X9 rfl tyX9 tyX9_ok nmX9 hO 26 (by decide) (by decide +kernel) rfl rfl rfl rfl rfl rfl (Nat.le_of_ble_eq_true rfl) rfl (fun μ167 hOw hF168 => ?_)
  have hA4 := hF168.ai hA4
  have hA12 := hF168.az hA12
  have hA20 := hF168.ai hA20
  have hA28 := hF168.ai hA28
  have hA36 := hF168.ai hA36
  have hA44 := hF168.az hA44
  have hA52 := hF168.ai hA52
  have hA60 := hF168.ai hA60
  have hA68 := hF168.ai hA68
  have hA76 := hF168.ai hA76
  have hA84 := hF168.ai hA84
  have hA92 := hF168.ai hA92
  have hA100 := hF168.ai hA100
  have hA108 := hF168.ai hA108
  have hA116 := hF168.ai hA116
  have hA124 := hF168.ai hA124
  have hA132 := hF168.ai hA132
  have hA140 := hF168.az hA140
  have hA148 := hF168.az hA148
  have hA156 := hF168.ai hA156
  have hA164 := hF168.ai hA164
  have hFr : Fr 3000 3030 μ μ167 := hFr.tr hF168
  have hO := hOw
  refine x_aload_n C dX9_init_171 rfl 0 rfl ?_
  refine z_bipush C dX9_init_172 (by decide) ?_
  refine z_newI (N9 := 64) (cc9 := 22) (ss9 := 547) C 3029 dX9_init_174 (by decide +kernel) rfl (by decide) rfl rfl (Nat.le_of_ble_eq_true rfl) (Nat.le_of_ble_eq_true rfl) (fun a169 μ170 hq171 hA172 hF173 => ?_)
  have hF174 : Fr 0 0 μ167 μ170 := hF173 _ _
  have hO := (hF173 0 0).ob hO (Or.inr (Nat.zero_le _))
  have hA4 := (hF173 0 0).ai hA4 (Or.inr (Nat.zero_le _))
  have hA12 := (hF173 0 0).az hA12 (Or.inr (Nat.zero_le _))
  have hA20 := (hF173 0 0).ai hA20 (Or.inr (Nat.zero_le _))
  have hA28 := (hF173 0 0).ai hA28 (Or.inr (Nat.zero_le _))
  have hA36 := (hF173 0 0).ai hA36 (Or.inr (Nat.zero_le _))
  have hA44 := (hF173 0 0).az hA44 (Or.inr (Nat.zero_le _))
  have hA52 := (hF173 0 0).ai hA52 (Or.inr (Nat.zero_le _))
  have hA60 := (hF173 0 0).ai hA60 (Or.inr (Nat.zero_le _))
  have hA68 := (hF173 0 0).ai hA68 (Or.inr (Nat.zero_le _))
  have hA76 := (hF173 0 0).ai hA76 (Or.inr (Nat.zero_le _))
  have hA84 := (hF173 0 0).ai hA84 (Or.inr (Nat.zero_le _))
  have hA92 := (hF173 0 0).ai hA92 (Or.inr (Nat.zero_le _))
  have hA100 := (hF173 0 0).ai hA100 (Or.inr (Nat.zero_le _))
  have hA108 := (hF173 0 0).ai hA108 (Or.inr (Nat.zero_le _))
  have hA116 := (hF173 0 0).ai hA116 (Or.inr (Nat.zero_le _))
  have hA124 := (hF173 0 0).ai hA124 (Or.inr (Nat.zero_le _))
  have hA132 := (hF173 0 0).ai hA132 (Or.inr (Nat.zero_le _))
  have hA140 := (hF173 0 0).az hA140 (Or.inr (Nat.zero_le _))
  have hA148 := (hF173 0 0).az hA148 (Or.inr (Nat.zero_le _))
  have hA156 := (hF173 0 0).ai hA156 (Or.inr (Nat.zero_le _))
  have hA164 := (hF173 0 0).ai hA164 (Or.inr (Nat.zero_le _))
  have hFr : Fr 3000 3030 μ μ170 := hFr.tr (hF173 3000 3030)
  refine z_putF (ci := 10) (Cn := RX9) (T := TX9) (N := 29) (ref := "CairnCipherModel") (fs' := [.ref a1, .ref a9, .ref a17, .ref a25, .ref a33, .ref a41, .ref a49, .int (zI 0), .ref a57, .ref a65, .ref a73, .ref a81, .int (zI 0), .ref a89, .ref a97, .ref a105, .ref a113, .ref a121, .int (zI 0), .ref a129, .ref a137, .ref a145, .ref a153, .int (zI 0), .int (zI 0), .int (zI 0), .ref a161, .int (zI 0), .ref a169]) C dX9_init_176 hnm in_X9 rfl tyX9 tyX9_ok nmX9 hO 28 (by decide) (by decide +kernel) rfl rfl rfl rfl rfl rfl (Nat.le_of_ble_eq_true rfl) rfl (fun μ175 hOw hF176 => ?_)
  have hA4 := hF176.ai hA4
  have hA12 := hF176.az hA12
  have hA20 := hF176.ai hA20
  have hA28 := hF176.ai hA28
  have hA36 := hF176.ai hA36
  have hA44 := hF176.az hA44
  have hA52 := hF176.ai hA52
  have hA60 := hF176.ai hA60
  have hA68 := hF176.ai hA68
  have hA76 := hF176.ai hA76
  have hA84 := hF176.ai hA84
  have hA92 := hF176.ai hA92
  have hA100 := hF176.ai hA100
  have hA108 := hF176.ai hA108
  have hA116 := hF176.ai hA116
  have hA124 := hF176.ai hA124
  have hA132 := hF176.ai hA132
  have hA140 := hF176.az hA140
  have hA148 := hF176.az hA148
  have hA156 := hF176.ai hA156
  have hA164 := hF176.ai hA164
  have hA172 := hF176.ai hA172
  have hFr : Fr 3000 3030 μ μ175 := hFr.tr hF176
  have hO := hOw
  refine x_aload_n C dX9_init_179 rfl 0 rfl ?_
  refine z_iconst C dX9_init_180 ?_
  refine z_put (ci := 10) (Cn := RX9) (T := TX9) (N := 29) (ref := "CairnCipherModel") (fs' := [.ref a1, .ref a9, .ref a17, .ref a25, .ref a33, .ref a41, .ref a49, .int (zI 0), .ref a57, .ref a65, .ref a73, .ref a81, .int (zI 0), .ref a89, .ref a97, .ref a105, .ref a113, .ref a121, .int (zI 0), .ref a129, .ref a137, .ref a145, .ref a153, .int (zI 0), .int (zI 0), .int (zI 0), .ref a161, .int (zI 0), .ref a169]) C dX9_init_181 in_X9 rfl tyX9 tyX9_ok nmX9 hO 23 (by decide) (by decide +kernel) rfl rfl rfl rfl rfl (Nat.le_of_ble_eq_true rfl) rfl (fun μ177 hOw hF178 => ?_)
  have hA4 := hF178.ai hA4
  have hA12 := hF178.az hA12
  have hA20 := hF178.ai hA20
  have hA28 := hF178.ai hA28
  have hA36 := hF178.ai hA36
  have hA44 := hF178.az hA44
  have hA52 := hF178.ai hA52
  have hA60 := hF178.ai hA60
  have hA68 := hF178.ai hA68
  have hA76 := hF178.ai hA76
  have hA84 := hF178.ai hA84
  have hA92 := hF178.ai hA92
  have hA100 := hF178.ai hA100
  have hA108 := hF178.ai hA108
  have hA116 := hF178.ai hA116
  have hA124 := hF178.ai hA124
  have hA132 := hF178.ai hA132
  have hA140 := hF178.az hA140
  have hA148 := hF178.az hA148
  have hA156 := hF178.ai hA156
  have hA164 := hF178.ai hA164
  have hA172 := hF178.ai hA172
  have hFr : Fr 3000 3030 μ μ177 := hFr.tr hF178
  have hO := hOw
  exact x_vret C R dX9_init_184 (Nat.le_of_ble_eq_true rfl) (Nat.le_of_ble_eq_true rfl) (⟨rfl, ⟨0, 0, fun _ => 0, fun _ => 0, (fun k : Nat => match k with | 0 => a1 | 1 => a9 | 2 => a17 | 3 => a25 | 4 => a33 | 5 => a41 | 6 => a49 | 8 => a57 | 9 => a65 | 10 => a73 | 11 => a81 | 13 => a89 | 14 => a97 | 15 => a105 | 16 => a113 | 17 => a121 | 19 => a129 | 20 => a137 | 21 => a145 | 22 => a153 | 26 => a161 | 28 => a169 | _ => 0), hO, ⟨fun k hk => match k, hk with | 0, _ => hA4 | 1, hk => absurd hk (by decide) | 2, _ => hA20 | 3, _ => hA28 | 4, _ => hA36 | 5, hk => absurd hk (by decide) | 6, _ => hA52 | 7, hk => absurd hk (by decide) | 8, _ => hA60 | 9, _ => hA68 | 10, _ => hA76 | 11, _ => hA84 | 12, hk => absurd hk (by decide) | 13, _ => hA92 | 14, _ => hA100 | 15, _ => hA108 | 16, _ => hA116 | 17, _ => hA124 | 18, hk => absurd hk (by decide) | 19, _ => hA132 | 20, hk => absurd hk (by decide) | 21, hk => absurd hk (by decide) | 22, _ => hA156 | k + 23, hk => absurd (mi_lt hk) (by omega), fun k hk => match k, hk with | 0, hk => absurd hk (by decide) | 1, _ => hA12 | 2, hk => absurd hk (by decide) | 3, hk => absurd hk (by decide) | 4, hk => absurd hk (by decide) | 5, _ => hA44 | 6, hk => absurd hk (by decide) | 7, hk => absurd hk (by decide) | 8, hk => absurd hk (by decide) | 9, hk => absurd hk (by decide) | 10, hk => absurd hk (by decide) | 11, hk => absurd hk (by decide) | 12, hk => absurd hk (by decide) | 13, hk => absurd hk (by decide) | 14, hk => absurd hk (by decide) | 15, hk => absurd hk (by decide) | 16, hk => absurd hk (by decide) | 17, hk => absurd hk (by decide) | 18, hk => absurd hk (by decide) | 19, hk => absurd hk (by decide) | 20, _ => hA140 | 21, _ => hA148 | 22, hk => absurd hk (by decide) | k + 23, hk => absurd (mz_lt hk) (by omega)⟩, hA164, hA172⟩, hFr⟩)
