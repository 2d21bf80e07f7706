abbrev rm_X8_onlyPlaceIn : Room := { frames := 0, cells := 0, slots := 0, locals := 0 }
set_option maxHeartbeats 4000000 in
set_option maxRecDepth 100000 in
theorem c_X8_onlyPlaceIn (l : Launch) (hst : l.stackTraces = false) (G : GG) (z : Nat) (μ : Mm) (K : Int64)  : Ct l yX8_onlyPlaceIn wsX8_onlyPlaceIn rm_X8_onlyPlaceIn G z [.long K] μ (rP μ (fun r => UQ (kb K) r)) (nX) := by
  refine ct_of (cc := cX8_onlyPlaceIn) (maxL := 3) (ret := (some .int)) (own := RX8) (by decide) rfl rfl hst (Nat.le_of_ble_eq_true rfl) ?_
  intro E hLl hnm C R hT
  refine x_eq (lv' := [(0, .long K)]) rfl rfl ?_
  refine z_iconst C dX8_onlyPlaceIn_0 ?_
  refine x_istore_n (lv' := [(2, .int (zI 0)), (0, .long K)]) C dX8_onlyPlaceIn_1 rfl (by decide) rfl ?_
  have L2 : ∀ (M9 : Nat) (k : Nat) (kz : Int) (hkz : kz = (k : Int)) (hk : k ≤ 64) (hno : ∀ p, p < k → K ≠ bitL p) (hM9 : 64 - k = M9), Wx E G 0 0 2 [(2, .int (zI kz)), (0, .long K)] [] μ := by
    intro M9
    induction M9 using Nat.strongRecOn with
    | ind M9 ih2 =>
      intro k kz hkz hk hno hM9
      subst hkz
      refine x_iload_n C dX8_onlyPlaceIn_2 rfl 0 rfl ?_
      refine z_bipush C dX8_onlyPlaceIn_3 (by decide) ?_
      refine z_icmp_ge (tgt := 24) C dX8_onlyPlaceIn_5 (by decide) (rg_of (by omega) (by omega)) (rg_of (by omega) (by omega)) (fun c_1 => ?_) (fun c_1 => ?_)
      · refine z_iconst C dX8_onlyPlaceIn_24 ?_
        exact x_iret C R dX8_onlyPlaceIn_25 (Nat.le_of_ble_eq_true rfl) (Nat.le_of_ble_eq_true rfl) (⟨_, rfl, UQ_no (fun p hp => hno p (by omega)), rfl⟩)
      · refine x_lload_n C dX8_onlyPlaceIn_8 rfl 1 rfl ?_
        refine x_lconst (v := (1 : Int64)) C dX8_onlyPlaceIn_9 rfl ?_
        refine x_iload_n C dX8_onlyPlaceIn_10 rfl 0 rfl ?_
        refine x_lshl (v := bitL k) C dX8_onlyPlaceIn_11 rfl ?_
        refine x_lcmp C dX8_onlyPlaceIn_12 rfl ?_
        refine x_if_ne (tgt := 18) C dX8_onlyPlaceIn_13 (by decide) (fun c_l => ?_) (fun c_l => ?_)
        · replace c_l : ¬ K = bitL k := lg_ne.mp c_l
          refine z_iinc (lv' := [(2, .int (zI ((k : Int) + 1))), (0, .long K)]) C dX8_onlyPlaceIn_18 0 rfl rfl (by decide) rfl ?_
          refine x_goto (tgt := 2) C dX8_onlyPlaceIn_21 (by decide) ?_
          exact ih2 _ (by omega) (k + 1) _ (by omega) (by omega) (fun p hp => (Nat.lt_or_ge p k).elim (hno p) (fun q => by rw [show p = k by omega]; exact c_l)) rfl
        · replace c_l : K = bitL k := (lg_cmp_eq _ _).mp c_l
          refine x_iload_n C dX8_onlyPlaceIn_16 rfl 0 rfl ?_
          exact x_iret C R dX8_onlyPlaceIn_17 (Nat.le_of_ble_eq_true rfl) (Nat.le_of_ble_eq_true rfl) (⟨_, rfl, UQ_bit (by omega) c_l, rfl⟩)
  exact L2 _ (0) _ (by omega) (by omega) (fun p hp => absurd hp (Nat.not_lt_zero p)) rfl
abbrev rm_X1_init : Room := { frames := 1, cells := 0, slots := 0, locals := 20 }
set_option maxHeartbeats 4000000 in
set_option maxRecDepth 100000 in
theorem c_X1_init (l : Launch) (hst : l.stackTraces = false) (G : GG) (z : Nat) (μ : Mm) (a r : Nat) (q : Nat → Int) (hO : OB μ a r 2 [.int (zI 0), .int (zI 0), .int (zI 0), .int (zI 0), .long 0]) (hq0 : 0 ≤ q 0 ∧ q 0 ≤ 4) (hq1 : 0 ≤ q 1 ∧ q 1 ≤ 14) (hq2 : 0 ≤ q 2 ∧ q 2 < 64) (hq3 : q 3 = 0 ∨ q 3 = 1) : Ct l yX1_init wsX1_init rm_X1_init G z [.ref a, .int (zI (q 0)), .int (zI (q 1)), .int (zI (q 2)), .int (zI (q 3))] μ (rV (fun μ' => HK μ' a r q 0 ∧ Fr r (r + 1) μ μ')) (nX) := by
  refine ct_of (cc := cX1_init) (maxL := 5) (ret := none) (own := RX1) (by decide) rfl rfl hst (Nat.le_of_ble_eq_true rfl) ?_
  intro E hLl hnm C R hT
  have in_X1 : ∀ w ∈ u_ws RX1 TX1 5, w ∈ wsX1_init := by decide +kernel
  have hFr : Fr r (r + 1) μ μ := Fr.rf
  refine x_eq (lv' := [(0, .ref a), (1, .int (zI (q 0))), (2, .int (zI (q 1))), (3, .int (zI (q 2))), (4, .int (zI (q 3)))]) rfl rfl ?_
  refine x_aload_n C dX1_init_0 rfl 0 rfl ?_
  refine x_objInit C dX1_init_1 (by decide +kernel) (by decide +kernel) (by decide +kernel) (Nat.le_of_ble_eq_true rfl) (Nat.le_of_ble_eq_true rfl) ?_
  refine x_aload_n C dX1_init_4 rfl 0 rfl ?_
  refine x_lconst (v := (0 : Int64)) C dX1_init_5 rfl ?_
  refine z_put (ci := 2) (Cn := RX1) (T := TX1) (N := 5) (ref := "CairnCipher$Hint") (fs' := [.int (zI 0), .int (zI 0), .int (zI 0), .int (zI 0), .long (0 : Int64)]) C dX1_init_6 in_X1 rfl tyX1 tyX1_ok nmX1 hO 4 (by decide) (by decide +kernel) rfl rfl rfl rfl rfl (Nat.le_of_ble_eq_true rfl) rfl (fun μ1 hOw hF2 => ?_)
  have hFr : Fr r (r + 1) μ μ1 := hFr.tr hF2
  have hO := hOw
  refine x_aload_n C dX1_init_9 rfl 0 rfl ?_
  refine x_iload_n C dX1_init_10 rfl 1 rfl ?_
  refine z_putF (ci := 2) (Cn := RX1) (T := TX1) (N := 5) (ref := "CairnCipher$Hint") (fs' := [.int (zI (q 0)), .int (zI 0), .int (zI 0), .int (zI 0), .long (0 : Int64)]) C dX1_init_11 hnm in_X1 rfl tyX1 tyX1_ok nmX1 hO 0 (by decide) (by decide +kernel) rfl rfl rfl rfl rfl rfl (Nat.le_of_ble_eq_true rfl) rfl (fun μ3 hOw hF4 => ?_)
  have hFr : Fr r (r + 1) μ μ3 := hFr.tr hF4
  have hO := hOw
  refine x_aload_n C dX1_init_14 rfl 0 rfl ?_
  refine x_iload_n C dX1_init_15 rfl 2 rfl ?_
  refine z_putF (ci := 2) (Cn := RX1) (T := TX1) (N := 5) (ref := "CairnCipher$Hint") (fs' := [.int (zI (q 0)), .int (zI (q 1)), .int (zI 0), .int (zI 0), .long (0 : Int64)]) C dX1_init_16 hnm in_X1 rfl tyX1 tyX1_ok nmX1 hO 1 (by decide) (by decide +kernel) rfl rfl rfl rfl rfl rfl (Nat.le_of_ble_eq_true rfl) rfl (fun μ5 hOw hF6 => ?_)
  have hFr : Fr r (r + 1) μ μ5 := hFr.tr hF6
  have hO := hOw
  refine x_aload_n C dX1_init_19 rfl 0 rfl ?_
  refine x_iload_n C dX1_init_20 rfl 3 rfl ?_
  refine z_putF (ci := 2) (Cn := RX1) (T := TX1) (N := 5) (ref := "CairnCipher$Hint") (fs' := [.int (zI (q 0)), .int (zI (q 1)), .int (zI (q 2)), .int (zI 0), .long (0 : Int64)]) C dX1_init_21 hnm in_X1 rfl tyX1 tyX1_ok nmX1 hO 2 (by decide) (by decide +kernel) rfl rfl rfl rfl rfl rfl (Nat.le_of_ble_eq_true rfl) rfl (fun μ7 hOw hF8 => ?_)
  have hFr : Fr r (r + 1) μ μ7 := hFr.tr hF8
  have hO := hOw
  refine x_aload_n C dX1_init_24 rfl 0 rfl ?_
  refine x_iload C dX1_init_25 4 rfl ?_
  refine z_putF (ci := 2) (Cn := RX1) (T := TX1) (N := 5) (ref := "CairnCipher$Hint") (fs' := [.int (zI (q 0)), .int (zI (q 1)), .int (zI (q 2)), .int (zI (q 3)), .long (0 : Int64)]) C dX1_init_27 hnm in_X1 rfl tyX1 tyX1_ok nmX1 hO 3 (by decide) (by decide +kernel) rfl rfl rfl rfl (nar_z (by omega)) (fit_z (by omega)) (Nat.le_of_ble_eq_true rfl) rfl (fun μ9 hOw hF10 => ?_)
  have hFr : Fr r (r + 1) μ μ9 := hFr.tr hF10
  have hO := hOw
  exact x_vret C R dX1_init_30 (Nat.le_of_ble_eq_true rfl) (Nat.le_of_ble_eq_true rfl) (⟨rfl, ⟨hO, hq0, hq1, hq2, hq3⟩, hFr⟩)
abbrev rm_X1_holdsAt : Room := { frames := 2, cells := 0, slots := 0, locals := 42 }
set_option maxHeartbeats 4000000 in
set_option maxRecDepth 100000 in
theorem c_X1_holdsAt (l : Launch) (hst : l.stackTraces = false) (G : GG) (z : Nat) (μ : Mm) (a r : Nat) (q : Nat → Int) (K : Int64) (p h : Int) (hK9 : HK μ a r q K) (hp : 0 ≤ p ∧ p < 64) (hh : 0 ≤ h ∧ h ≤ 9) : Ct l yX1_holdsAt wsX1_holdsAt rm_X1_holdsAt G z [.ref a, .int (zI p), .int (zI h)] μ (rP μ (fun r9 => (r9 = 1 ∧ hb h q p = true) ∨ (r9 = 0 ∧ hb h q p = false))) (nX) := by
  refine ct_of (cc := cX1_holdsAt) (maxL := 4) (ret := (some .boolean)) (own := RX1) (by decide) rfl rfl hst (Nat.le_of_ble_eq_true rfl) ?_
  intro E hLl hnm C R hT
  have in_X1 : ∀ w ∈ u_ws RX1 TX1 5, w ∈ wsX1_holdsAt := by decide +kernel
  obtain ⟨hO, hq0, hq1, hq2, hq3⟩ := hK9
  refine x_eq (lv' := [(0, .ref a), (1, .int (zI p)), (2, .int (zI h))]) rfl rfl ?_
  refine x_aload_n C dX1_holdsAt_0 rfl 0 rfl ?_
  refine x_get (ci := 2) (Cn := RX1) (T := TX1) (N := 5) (ref := "CairnCipher$Hint") C dX1_holdsAt_1 in_X1 rfl hO 0 (by decide) (by decide +kernel) rfl rfl ?_
  rcases (show (q 0) < 0 ∨ (q 0) = 0 ∨ (q 0) = 1 ∨ (q 0) = 2 ∨ (q 0) = 3 ∨ 3 < (q 0) by omega) with hs1 | hs1 | hs1 | hs1 | hs1 | hs1
  · refine z_tabOut (tgt := 117) C dX1_holdsAt_4 (rg_of (by omega) (by omega)) (by omega) (by decide) ?_
    refine x_iload_n C dX1_holdsAt_117 rfl 1 rfl ?_
    refine x_callS (n := 1) (cc9 := 0) (ss9 := 0) (rest := []) C dX1_holdsAt_118 (c_X3_rowOf (kxL E) C.st G z μ p (by omega)) gX1_holdsAt_X3_rowOf rfl (by decide +kernel) ⟨(Nat.le_of_ble_eq_true rfl), (Nat.le_of_ble_eq_true rfl)⟩ rfl rfl (Nat.le_of_ble_eq_true rfl) rfl rfl ⟨(Nat.le_of_ble_eq_true rfl), (Nat.le_of_ble_eq_true rfl)⟩ nX_no (fun v2 μ3 hv4 => ?_)
    obtain ⟨r5, hw8, h6, hm7⟩ := hv4
    subst hw8
    rw [hm7]
    refine x_stk (stk' := [.int (zI r5)]) rfl ?_
    refine x_iload_n C dX1_holdsAt_121 rfl 1 rfl ?_
    refine x_callS (n := 1) (cc9 := 0) (ss9 := 0) (rest := [.int (zI r5)]) C dX1_holdsAt_122 (c_X3_columnOf (kxL E) C.st G z μ p (by omega)) gX1_holdsAt_X3_columnOf rfl (by decide +kernel) ⟨(Nat.le_of_ble_eq_true rfl), (Nat.le_of_ble_eq_true rfl)⟩ rfl rfl (Nat.le_of_ble_eq_true rfl) rfl rfl ⟨(Nat.le_of_ble_eq_true rfl), (Nat.le_of_ble_eq_true rfl)⟩ nX_no (fun v9 μ10 hv11 => ?_)
    obtain ⟨r12, hw15, h13, hm14⟩ := hv11
    subst hw15
    rw [hm14]
    refine x_stk (stk' := [.int (zI r12), .int (zI r5)]) rfl ?_
    refine z_iadd C dX1_holdsAt_125 rfl ?_
    refine z_iconst C dX1_holdsAt_126 ?_
    refine z_irem C dX1_holdsAt_127 (rg_of (by omega) (by omega)) (by omega) (rg_of (by omega) (by omega)) (by omega) rfl ?_
    refine x_aload_n C dX1_holdsAt_128 rfl 0 rfl ?_
    refine x_get (ci := 2) (Cn := RX1) (T := TX1) (N := 5) (ref := "CairnCipher$Hint") C dX1_holdsAt_129 in_X1 rfl hO 1 (by decide) (by decide +kernel) rfl rfl ?_
    refine z_icmp_ne (tgt := 139) C dX1_holdsAt_132 (by decide) (rg_of (by omega) (by omega)) (rg_of (by omega) (by omega)) (fun c_16 => ?_) (fun c_16 => ?_)
    · refine z_iconst C dX1_holdsAt_139 ?_
      refine x_istore_n (lv' := [(3, .int (zI 0)), (0, .ref a), (1, .int (zI p)), (2, .int (zI h))]) C dX1_holdsAt_140 rfl (by decide) rfl ?_
      refine x_iload_n C dX1_holdsAt_141 rfl 0 rfl ?_
      refine x_aload_n C dX1_holdsAt_142 rfl 1 rfl ?_
      refine x_get (ci := 2) (Cn := RX1) (T := TX1) (N := 5) (ref := "CairnCipher$Hint") C dX1_holdsAt_143 in_X1 rfl hO 3 (by decide) (by decide +kernel) rfl rfl ?_
      refine z_icmp_eq (tgt := 153) C dX1_holdsAt_146 (by decide) (rg_of (by omega) (by omega)) (rg_of (by omega) (by omega)) (fun c_17 => ?_) (fun c_17 => ?_)
      · refine z_iconst C dX1_holdsAt_153 ?_
        exact x_zret C R dX1_holdsAt_154 (nar_z (by omega)) (Nat.le_of_ble_eq_true rfl) (Nat.le_of_ble_eq_true rfl) (⟨_, rfl, Or.inr ⟨rfl, hb_f (by simp only [HH, HS]; omega)⟩, rfl⟩)
      · refine z_iconst C dX1_holdsAt_149 ?_
        refine x_goto (tgt := 154) C dX1_holdsAt_150 (by decide) ?_
        exact x_zret C R dX1_holdsAt_154 (nar_z (by omega)) (Nat.le_of_ble_eq_true rfl) (Nat.le_of_ble_eq_true rfl) (⟨_, rfl, Or.inl ⟨rfl, hb_t (by simp only [HH, HS]; omega)⟩, rfl⟩)
    · refine z_iconst C dX1_holdsAt_135 ?_
      refine x_goto (tgt := 140) C dX1_holdsAt_136 (by decide) ?_
      refine x_istore_n (lv' := [(3, .int (zI 1)), (0, .ref a), (1, .int (zI p)), (2, .int (zI h))]) C dX1_holdsAt_140 rfl (by decide) rfl ?_
      refine x_iload_n C dX1_holdsAt_141 rfl 0 rfl ?_
      refine x_aload_n C dX1_holdsAt_142 rfl 1 rfl ?_
      refine x_get (ci := 2) (Cn := RX1) (T := TX1) (N := 5) (ref := "CairnCipher$Hint") C dX1_holdsAt_143 in_X1 rfl hO 3 (by decide) (by decide +kernel) rfl rfl ?_
      refine z_icmp_eq (tgt := 153) C dX1_holdsAt_146 (by decide) (rg_of (by omega) (by omega)) (rg_of (by omega) (by omega)) (fun c_18 => ?_) (fun c_18 => ?_)
      · refine z_iconst C dX1_holdsAt_153 ?_
        exact x_zret C R dX1_holdsAt_154 (nar_z (by omega)) (Nat.le_of_ble_eq_true rfl) (Nat.le_of_ble_eq_true rfl) (⟨_, rfl, Or.inr ⟨rfl, hb_f (by simp only [HH, HS]; omega)⟩, rfl⟩)
      · refine z_iconst C dX1_holdsAt_149 ?_
        refine x_goto (tgt := 154) C dX1_holdsAt_150 (by decide) ?_
        exact x_zret C R dX1_holdsAt_154 (nar_z (by omega)) (Nat.le_of_ble_eq_true rfl) (Nat.le_of_ble_eq_true rfl) (⟨_, rfl, Or.inl ⟨rfl, hb_t (by simp only [HH, HS]; omega)⟩, rfl⟩)
  · refine z_tabIn (off := 32) (tgt := 36) C dX1_holdsAt_4 (rg_of (by omega) (by omega)) (by omega) (by omega) (by rw [hs1]; rfl) (by decide) ?_
    refine x_iload_n C dX1_holdsAt_36 rfl 1 rfl ?_
    refine x_callS (n := 1) (cc9 := 0) (ss9 := 0) (rest := []) C dX1_holdsAt_37 (c_X3_rowOf (kxL E) C.st G z μ p (by omega)) gX1_holdsAt_X3_rowOf rfl (by decide +kernel) ⟨(Nat.le_of_ble_eq_true rfl), (Nat.le_of_ble_eq_true rfl)⟩ rfl rfl (Nat.le_of_ble_eq_true rfl) rfl rfl ⟨(Nat.le_of_ble_eq_true rfl), (Nat.le_of_ble_eq_true rfl)⟩ nX_no (fun v19 μ20 hv21 => ?_)
    obtain ⟨r22, hw25, h23, hm24⟩ := hv21
    subst hw25
    rw [hm24]
    refine x_stk (stk' := [.int (zI r22)]) rfl ?_
    refine x_aload_n C dX1_holdsAt_40 rfl 0 rfl ?_
    refine x_get (ci := 2) (Cn := RX1) (T := TX1) (N := 5) (ref := "CairnCipher$Hint") C dX1_holdsAt_41 in_X1 rfl hO 1 (by decide) (by decide +kernel) rfl rfl ?_
    refine z_icmp_ge (tgt := 51) C dX1_holdsAt_44 (by decide) (rg_of (by omega) (by omega)) (rg_of (by omega) (by omega)) (fun c_26 => ?_) (fun c_26 => ?_)
    · refine z_iconst C dX1_holdsAt_51 ?_
      refine x_istore_n (lv' := [(3, .int (zI 0)), (0, .ref a), (1, .int (zI p)), (2, .int (zI h))]) C dX1_holdsAt_52 rfl (by decide) rfl ?_
      refine x_goto (tgt := 141) C dX1_holdsAt_53 (by decide) ?_
      refine x_iload_n C dX1_holdsAt_141 rfl 0 rfl ?_
      refine x_aload_n C dX1_holdsAt_142 rfl 1 rfl ?_
      refine x_get (ci := 2) (Cn := RX1) (T := TX1) (N := 5) (ref := "CairnCipher$Hint") C dX1_holdsAt_143 in_X1 rfl hO 3 (by decide) (by decide +kernel) rfl rfl ?_
      refine z_icmp_eq (tgt := 153) C dX1_holdsAt_146 (by decide) (rg_of (by omega) (by omega)) (rg_of (by omega) (by omega)) (fun c_27 => ?_) (fun c_27 => ?_)
      · refine z_iconst C dX1_holdsAt_153 ?_
        exact x_zret C R dX1_holdsAt_154 (nar_z (by omega)) (Nat.le_of_ble_eq_true rfl) (Nat.le_of_ble_eq_true rfl) (⟨_, rfl, Or.inr ⟨rfl, hb_f (by simp only [HH, HS]; omega)⟩, rfl⟩)
      · refine z_iconst C dX1_holdsAt_149 ?_
        refine x_goto (tgt := 154) C dX1_holdsAt_150 (by decide) ?_
        exact x_zret C R dX1_holdsAt_154 (nar_z (by omega)) (Nat.le_of_ble_eq_true rfl) (Nat.le_of_ble_eq_true rfl) (⟨_, rfl, Or.inl ⟨rfl, hb_t (by simp only [HH, HS]; omega)⟩, rfl⟩)
    · refine z_iconst C dX1_holdsAt_47 ?_
      refine x_goto (tgt := 52) C dX1_holdsAt_48 (by decide) ?_
      refine x_istore_n (lv' := [(3, .int (zI 1)), (0, .ref a), (1, .int (zI p)), (2, .int (zI h))]) C dX1_holdsAt_52 rfl (by decide) rfl ?_
      refine x_goto (tgt := 141) C dX1_holdsAt_53 (by decide) ?_
      refine x_iload_n C dX1_holdsAt_141 rfl 0 rfl ?_
      refine x_aload_n C dX1_holdsAt_142 rfl 1 rfl ?_
      refine x_get (ci := 2) (Cn := RX1) (T := TX1) (N := 5) (ref := "CairnCipher$Hint") C dX1_holdsAt_143 in_X1 rfl hO 3 (by decide) (by decide +kernel) rfl rfl ?_
      refine z_icmp_eq (tgt := 153) C dX1_holdsAt_146 (by decide) (rg_of (by omega) (by omega)) (rg_of (by omega) (by omega)) (fun c_28 => ?_) (fun c_28 => ?_)
      · refine z_iconst C dX1_holdsAt_153 ?_
        exact x_zret C R dX1_holdsAt_154 (nar_z (by omega)) (Nat.le_of_ble_eq_true rfl) (Nat.le_of_ble_eq_true rfl) (⟨_, rfl, Or.inr ⟨rfl, hb_f (by simp only [HH, HS]; omega)⟩, rfl⟩)
      · refine z_iconst C dX1_holdsAt_149 ?_
        refine x_goto (tgt := 154) C dX1_holdsAt_150 (by decide) ?_
        exact x_zret C R dX1_holdsAt_154 (nar_z (by omega)) (Nat.le_of_ble_eq_true rfl) (Nat.le_of_ble_eq_true rfl) (⟨_, rfl, Or.inl ⟨rfl, hb_t (by simp only [HH, HS]; omega)⟩, rfl⟩)
  · refine z_tabIn (off := 52) (tgt := 56) C dX1_holdsAt_4 (rg_of (by omega) (by omega)) (by omega) (by omega) (by rw [hs1]; rfl) (by decide) ?_
    refine x_iload_n C dX1_holdsAt_56 rfl 1 rfl ?_
    refine x_callS (n := 1) (cc9 := 0) (ss9 := 0) (rest := []) C dX1_holdsAt_57 (c_X3_columnOf (kxL E) C.st G z μ p (by omega)) gX1_holdsAt_X3_columnOf rfl (by decide +kernel) ⟨(Nat.le_of_ble_eq_true rfl), (Nat.le_of_ble_eq_true rfl)⟩ rfl rfl (Nat.le_of_ble_eq_true rfl) rfl rfl ⟨(Nat.le_of_ble_eq_true rfl), (Nat.le_of_ble_eq_true rfl)⟩ nX_no (fun v29 μ30 hv31 => ?_)
    obtain ⟨r32, hw35, h33, hm34⟩ := hv31
    subst hw35
    rw [hm34]
    refine x_stk (stk' := [.int (zI r32)]) rfl ?_
    refine x_aload_n C dX1_holdsAt_60 rfl 0 rfl ?_
    refine x_get (ci := 2) (Cn := RX1) (T := TX1) (N := 5) (ref := "CairnCipher$Hint") C dX1_holdsAt_61 in_X1 rfl hO 1 (by decide) (by decide +kernel) rfl rfl ?_
    refine z_icmp_ge (tgt := 71) C dX1_holdsAt_64 (by decide) (rg_of (by omega) (by omega)) (rg_of (by omega) (by omega)) (fun c_36 => ?_) (fun c_36 => ?_)
    · refine z_iconst C dX1_holdsAt_71 ?_
      refine x_istore_n (lv' := [(3, .int (zI 0)), (0, .ref a), (1, .int (zI p)), (2, .int (zI h))]) C dX1_holdsAt_72 rfl (by decide) rfl ?_
      refine x_goto (tgt := 141) C dX1_holdsAt_73 (by decide) ?_
      refine x_iload_n C dX1_holdsAt_141 rfl 0 rfl ?_
      refine x_aload_n C dX1_holdsAt_142 rfl 1 rfl ?_
      refine x_get (ci := 2) (Cn := RX1) (T := TX1) (N := 5) (ref := "CairnCipher$Hint") C dX1_holdsAt_143 in_X1 rfl hO 3 (by decide) (by decide +kernel) rfl rfl ?_
      refine z_icmp_eq (tgt := 153) C dX1_holdsAt_146 (by decide) (rg_of (by omega) (by omega)) (rg_of (by omega) (by omega)) (fun c_37 => ?_) (fun c_37 => ?_)
      · refine z_iconst C dX1_holdsAt_153 ?_
        exact x_zret C R dX1_holdsAt_154 (nar_z (by omega)) (Nat.le_of_ble_eq_true rfl) (Nat.le_of_ble_eq_true rfl) (⟨_, rfl, Or.inr ⟨rfl, hb_f (by simp only [HH, HS]; omega)⟩, rfl⟩)
      · refine z_iconst C dX1_holdsAt_149 ?_
        refine x_goto (tgt := 154) C dX1_holdsAt_150 (by decide) ?_
        exact x_zret C R dX1_holdsAt_154 (nar_z (by omega)) (Nat.le_of_ble_eq_true rfl) (Nat.le_of_ble_eq_true rfl) (⟨_, rfl, Or.inl ⟨rfl, hb_t (by simp only [HH, HS]; omega)⟩, rfl⟩)
    · refine z_iconst C dX1_holdsAt_67 ?_
      refine x_goto (tgt := 72) C dX1_holdsAt_68 (by decide) ?_
      refine x_istore_n (lv' := [(3, .int (zI 1)), (0, .ref a), (1, .int (zI p)), (2, .int (zI h))]) C dX1_holdsAt_72 rfl (by decide) rfl ?_
      refine x_goto (tgt := 141) C dX1_holdsAt_73 (by decide) ?_
      refine x_iload_n C dX1_holdsAt_141 rfl 0 rfl ?_
      refine x_aload_n C dX1_holdsAt_142 rfl 1 rfl ?_
      refine x_get (ci := 2) (Cn := RX1) (T := TX1) (N := 5) (ref := "CairnCipher$Hint") C dX1_holdsAt_143 in_X1 rfl hO 3 (by decide) (by decide +kernel) rfl rfl ?_
      refine z_icmp_eq (tgt := 153) C dX1_holdsAt_146 (by decide) (rg_of (by omega) (by omega)) (rg_of (by omega) (by omega)) (fun c_38 => ?_) (fun c_38 => ?_)
      · refine z_iconst C dX1_holdsAt_153 ?_
        exact x_zret C R dX1_holdsAt_154 (nar_z (by omega)) (Nat.le_of_ble_eq_true rfl) (Nat.le_of_ble_eq_true rfl) (⟨_, rfl, Or.inr ⟨rfl, hb_f (by simp only [HH, HS]; omega)⟩, rfl⟩)
      · refine z_iconst C dX1_holdsAt_149 ?_
        refine x_goto (tgt := 154) C dX1_holdsAt_150 (by decide) ?_
        exact x_zret C R dX1_holdsAt_154 (nar_z (by omega)) (Nat.le_of_ble_eq_true rfl) (Nat.le_of_ble_eq_true rfl) (⟨_, rfl, Or.inl ⟨rfl, hb_t (by simp only [HH, HS]; omega)⟩, rfl⟩)
  · refine z_tabIn (off := 72) (tgt := 76) C dX1_holdsAt_4 (rg_of (by omega) (by omega)) (by omega) (by omega) (by rw [hs1]; rfl) (by decide) ?_
    refine x_iload_n C dX1_holdsAt_76 rfl 2 rfl ?_
    refine x_aload_n C dX1_holdsAt_77 rfl 0 rfl ?_
    refine x_get (ci := 2) (Cn := RX1) (T := TX1) (N := 5) (ref := "CairnCipher$Hint") C dX1_holdsAt_78 in_X1 rfl hO 1 (by decide) (by decide +kernel) rfl rfl ?_
    refine z_icmp_lt (tgt := 88) C dX1_holdsAt_81 (by decide) (rg_of (by omega) (by omega)) (rg_of (by omega) (by omega)) (fun c_39 => ?_) (fun c_39 => ?_)
    · refine z_iconst C dX1_holdsAt_88 ?_
      refine x_istore_n (lv' := [(3, .int (zI 0)), (0, .ref a), (1, .int (zI p)), (2, .int (zI h))]) C dX1_holdsAt_89 rfl (by decide) rfl ?_
      refine x_goto (tgt := 141) C dX1_holdsAt_90 (by decide) ?_
      refine x_iload_n C dX1_holdsAt_141 rfl 0 rfl ?_
      refine x_aload_n C dX1_holdsAt_142 rfl 1 rfl ?_
      refine x_get (ci := 2) (Cn := RX1) (T := TX1) (N := 5) (ref := "CairnCipher$Hint") C dX1_holdsAt_143 in_X1 rfl hO 3 (by decide) (by decide +kernel) rfl rfl ?_
      refine z_icmp_eq (tgt := 153) C dX1_holdsAt_146 (by decide) (rg_of (by omega) (by omega)) (rg_of (by omega) (by omega)) (fun c_40 => ?_) (fun c_40 => ?_)
      · refine z_iconst C dX1_holdsAt_153 ?_
        exact x_zret C R dX1_holdsAt_154 (nar_z (by omega)) (Nat.le_of_ble_eq_true rfl) (Nat.le_of_ble_eq_true rfl) (⟨_, rfl, Or.inr ⟨rfl, hb_f (by simp only [HH, HS]; omega)⟩, rfl⟩)
      · refine z_iconst C dX1_holdsAt_149 ?_
        refine x_goto (tgt := 154) C dX1_holdsAt_150 (by decide) ?_
        exact x_zret C R dX1_holdsAt_154 (nar_z (by omega)) (Nat.le_of_ble_eq_true rfl) (Nat.le_of_ble_eq_true rfl) (⟨_, rfl, Or.inl ⟨rfl, hb_t (by simp only [HH, HS]; omega)⟩, rfl⟩)
    · refine z_iconst C dX1_holdsAt_84 ?_
      refine x_goto (tgt := 89) C dX1_holdsAt_85 (by decide) ?_
      refine x_istore_n (lv' := [(3, .int (zI 1)), (0, .ref a), (1, .int (zI p)), (2, .int (zI h))]) C dX1_holdsAt_89 rfl (by decide) rfl ?_
      refine x_goto (tgt := 141) C dX1_holdsAt_90 (by decide) ?_
      refine x_iload_n C dX1_holdsAt_141 rfl 0 rfl ?_
      refine x_aload_n C dX1_holdsAt_142 rfl 1 rfl ?_
      refine x_get (ci := 2) (Cn := RX1) (T := TX1) (N := 5) (ref := "CairnCipher$Hint") C dX1_holdsAt_143 in_X1 rfl hO 3 (by decide) (by decide +kernel) rfl rfl ?_
      refine z_icmp_eq (tgt := 153) C dX1_holdsAt_146 (by decide) (rg_of (by omega) (by omega)) (rg_of (by omega) (by omega)) (fun c_41 => ?_) (fun c_41 => ?_)
      · refine z_iconst C dX1_holdsAt_153 ?_
        exact x_zret C R dX1_holdsAt_154 (nar_z (by omega)) (Nat.le_of_ble_eq_true rfl) (Nat.le_of_ble_eq_true rfl) (⟨_, rfl, Or.inr ⟨rfl, hb_f (by simp only [HH, HS]; omega)⟩, rfl⟩)
      · refine z_iconst C dX1_holdsAt_149 ?_
        refine x_goto (tgt := 154) C dX1_holdsAt_150 (by decide) ?_
        exact x_zret C R dX1_holdsAt_154 (nar_z (by omega)) (Nat.le_of_ble_eq_true rfl) (Nat.le_of_ble_eq_true rfl) (⟨_, rfl, Or.inl ⟨rfl, hb_t (by simp only [HH, HS]; omega)⟩, rfl⟩)
  · refine z_tabIn (off := 89) (tgt := 93) C dX1_holdsAt_4 (rg_of (by omega) (by omega)) (by omega) (by omega) (by rw [hs1]; rfl) (by decide) ?_
    refine x_iload_n C dX1_holdsAt_93 rfl 1 rfl ?_
    refine x_aload_n C dX1_holdsAt_94 rfl 0 rfl ?_
    refine x_get (ci := 2) (Cn := RX1) (T := TX1) (N := 5) (ref := "CairnCipher$Hint") C dX1_holdsAt_95 in_X1 rfl hO 2 (by decide) (by decide +kernel) rfl rfl ?_
    refine x_callS (n := 2) (cc9 := 0) (ss9 := 0) (rest := []) C dX1_holdsAt_98 (c_X3_distance (kxL E) C.st G z μ p (q 2) (by omega) (by omega)) gX1_holdsAt_X3_distance rfl (by decide +kernel) ⟨(Nat.le_of_ble_eq_true rfl), (Nat.le_of_ble_eq_true rfl)⟩ rfl rfl (Nat.le_of_ble_eq_true rfl) rfl rfl ⟨(Nat.le_of_ble_eq_true rfl), (Nat.le_of_ble_eq_true rfl)⟩ nX_no (fun v42 μ43 hv44 => ?_)
    obtain ⟨r45, hw48, h46, hm47⟩ := hv44
    subst hw48
    rw [hm47]
    have hd9 := dst_rg (p := p) (q := q 2) (by omega) (by omega)
    refine x_stk (stk' := [.int (zI r45)]) rfl ?_
    refine x_aload_n C dX1_holdsAt_101 rfl 0 rfl ?_
    refine x_get (ci := 2) (Cn := RX1) (T := TX1) (N := 5) (ref := "CairnCipher$Hint") C dX1_holdsAt_102 in_X1 rfl hO 1 (by decide) (by decide +kernel) rfl rfl ?_
    refine z_icmp_gt (tgt := 112) C dX1_holdsAt_105 (by decide) (rg_of (by omega) (by omega)) (rg_of (by omega) (by omega)) (fun c_49 => ?_) (fun c_49 => ?_)
    · refine z_iconst C dX1_holdsAt_112 ?_
      refine x_istore_n (lv' := [(3, .int (zI 0)), (0, .ref a), (1, .int (zI p)), (2, .int (zI h))]) C dX1_holdsAt_113 rfl (by decide) rfl ?_
      refine x_goto (tgt := 141) C dX1_holdsAt_114 (by decide) ?_
      refine x_iload_n C dX1_holdsAt_141 rfl 0 rfl ?_
      refine x_aload_n C dX1_holdsAt_142 rfl 1 rfl ?_
      refine x_get (ci := 2) (Cn := RX1) (T := TX1) (N := 5) (ref := "CairnCipher$Hint") C dX1_holdsAt_143 in_X1 rfl hO 3 (by decide) (by decide +kernel) rfl rfl ?_
      refine z_icmp_eq (tgt := 153) C dX1_holdsAt_146 (by decide) (rg_of (by omega) (by omega)) (rg_of (by omega) (by omega)) (fun c_50 => ?_) (fun c_50 => ?_)
      · refine z_iconst C dX1_holdsAt_153 ?_
        exact x_zret C R dX1_holdsAt_154 (nar_z (by omega)) (Nat.le_of_ble_eq_true rfl) (Nat.le_of_ble_eq_true rfl) (⟨_, rfl, Or.inr ⟨rfl, hb_f (by simp only [HH, HS]; omega)⟩, rfl⟩)
      · refine z_iconst C dX1_holdsAt_149 ?_
        refine x_goto (tgt := 154) C dX1_holdsAt_150 (by decide) ?_
        exact x_zret C R dX1_holdsAt_154 (nar_z (by omega)) (Nat.le_of_ble_eq_true rfl) (Nat.le_of_ble_eq_true rfl) (⟨_, rfl, Or.inl ⟨rfl, hb_t (by simp only [HH, HS]; omega)⟩, rfl⟩)
    · refine z_iconst C dX1_holdsAt_108 ?_
      refine x_goto (tgt := 113) C dX1_holdsAt_109 (by decide) ?_
      refine x_istore_n (lv' := [(3, .int (zI 1)), (0, .ref a), (1, .int (zI p)), (2, .int (zI h))]) C dX1_holdsAt_113 rfl (by decide) rfl ?_
      refine x_goto (tgt := 141) C dX1_holdsAt_114 (by decide) ?_
      refine x_iload_n C dX1_holdsAt_141 rfl 0 rfl ?_
      refine x_aload_n C dX1_holdsAt_142 rfl 1 rfl ?_
      refine x_get (ci := 2) (Cn := RX1) (T := TX1) (N := 5) (ref := "CairnCipher$Hint") C dX1_holdsAt_143 in_X1 rfl hO 3 (by decide) (by decide +kernel) rfl rfl ?_
      refine z_icmp_eq (tgt := 153) C dX1_holdsAt_146 (by decide) (rg_of (by omega) (by omega)) (rg_of (by omega) (by omega)) (fun c_51 => ?_) (fun c_51 => ?_)
      · refine z_iconst C dX1_holdsAt_153 ?_
        exact x_zret C R dX1_holdsAt_154 (nar_z (by omega)) (Nat.le_of_ble_eq_true rfl) (Nat.le_of_ble_eq_true rfl) (⟨_, rfl, Or.inr ⟨rfl, hb_f (by simp only [HH, HS]; omega)⟩, rfl⟩)
      · refine z_iconst C dX1_holdsAt_149 ?_
        refine x_goto (tgt := 154) C dX1_holdsAt_150 (by decide) ?_
        exact x_zret C R dX1_holdsAt_154 (nar_z (by omega)) (Nat.le_of_ble_eq_true rfl) (Nat.le_of_ble_eq_true rfl) (⟨_, rfl, Or.inl ⟨rfl, hb_t (by simp only [HH, HS]; omega)⟩, rfl⟩)
  · refine z_tabOut (tgt := 117) C dX1_holdsAt_4 (rg_of (by omega) (by omega)) (by omega) (by decide) ?_
    refine x_iload_n C dX1_holdsAt_117 rfl 1 rfl ?_
    refine x_callS (n := 1) (cc9 := 0) (ss9 := 0) (rest := []) C dX1_holdsAt_118 (c_X3_rowOf (kxL E) C.st G z μ p (by omega)) gX1_holdsAt_X3_rowOf rfl (by decide +kernel) ⟨(Nat.le_of_ble_eq_true rfl), (Nat.le_of_ble_eq_true rfl)⟩ rfl rfl (Nat.le_of_ble_eq_true rfl) rfl rfl ⟨(Nat.le_of_ble_eq_true rfl), (Nat.le_of_ble_eq_true rfl)⟩ nX_no (fun v52 μ53 hv54 => ?_)
    obtain ⟨r55, hw58, h56, hm57⟩ := hv54
    subst hw58
    rw [hm57]
    refine x_stk (stk' := [.int (zI r55)]) rfl ?_
    refine x_iload_n C dX1_holdsAt_121 rfl 1 rfl ?_
    refine x_callS (n := 1) (cc9 := 0) (ss9 := 0) (rest := [.int (zI r55)]) C dX1_holdsAt_122 (c_X3_columnOf (kxL E) C.st G z μ p (by omega)) gX1_holdsAt_X3_columnOf rfl (by decide +kernel) ⟨(Nat.le_of_ble_eq_true rfl), (Nat.le_of_ble_eq_true rfl)⟩ rfl rfl (Nat.le_of_ble_eq_true rfl) rfl rfl ⟨(Nat.le_of_ble_eq_true rfl), (Nat.le_of_ble_eq_true rfl)⟩ nX_no (fun v59 μ60 hv61 => ?_)
    obtain ⟨r62, hw65, h63, hm64⟩ := hv61
    subst hw65
    rw [hm64]
    refine x_stk (stk' := [.int (zI r62), .int (zI r55)]) rfl ?_
    refine z_iadd C dX1_holdsAt_125 rfl ?_
    refine z_iconst C dX1_holdsAt_126 ?_
    refine z_irem C dX1_holdsAt_127 (rg_of (by omega) (by omega)) (by omega) (rg_of (by omega) (by omega)) (by omega) rfl ?_
    refine x_aload_n C dX1_holdsAt_128 rfl 0 rfl ?_
    refine x_get (ci := 2) (Cn := RX1) (T := TX1) (N := 5) (ref := "CairnCipher$Hint") C dX1_holdsAt_129 in_X1 rfl hO 1 (by decide) (by decide +kernel) rfl rfl ?_
    refine z_icmp_ne (tgt := 139) C dX1_holdsAt_132 (by decide) (rg_of (by omega) (by omega)) (rg_of (by omega) (by omega)) (fun c_66 => ?_) (fun c_66 => ?_)
    · refine z_iconst C dX1_holdsAt_139 ?_
      refine x_istore_n (lv' := [(3, .int (zI 0)), (0, .ref a), (1, .int (zI p)), (2, .int (zI h))]) C dX1_holdsAt_140 rfl (by decide) rfl ?_
      refine x_iload_n C dX1_holdsAt_141 rfl 0 rfl ?_
      refine x_aload_n C dX1_holdsAt_142 rfl 1 rfl ?_
      refine x_get (ci := 2) (Cn := RX1) (T := TX1) (N := 5) (ref := "CairnCipher$Hint") C dX1_holdsAt_143 in_X1 rfl hO 3 (by decide) (by decide +kernel) rfl rfl ?_
      refine z_icmp_eq (tgt := 153) C dX1_holdsAt_146 (by decide) (rg_of (by omega) (by omega)) (rg_of (by omega) (by omega)) (fun c_67 => ?_) (fun c_67 => ?_)
      · refine z_iconst C dX1_holdsAt_153 ?_
        exact x_zret C R dX1_holdsAt_154 (nar_z (by omega)) (Nat.le_of_ble_eq_true rfl) (Nat.le_of_ble_eq_true rfl) (⟨_, rfl, Or.inr ⟨rfl, hb_f (by simp only [HH, HS]; omega)⟩, rfl⟩)
      · refine z_iconst C dX1_holdsAt_149 ?_
        refine x_goto (tgt := 154) C dX1_holdsAt_150 (by decide) ?_
        exact x_zret C R dX1_holdsAt_154 (nar_z (by omega)) (Nat.le_of_ble_eq_true rfl) (Nat.le_of_ble_eq_true rfl) (⟨_, rfl, Or.inl ⟨rfl, hb_t (by simp only [HH, HS]; omega)⟩, rfl⟩)
    · refine z_iconst C dX1_holdsAt_135 ?_
      refine x_goto (tgt := 140) C dX1_holdsAt_136 (by decide) ?_
      refine x_istore_n (lv' := [(3, .int (zI 1)), (0, .ref a), (1, .int (zI p)), (2, .int (zI h))]) C dX1_holdsAt_140 rfl (by decide) rfl ?_
      refine x_iload_n C dX1_holdsAt_141 rfl 0 rfl ?_
      refine x_aload_n C dX1_holdsAt_142 rfl 1 rfl ?_
      refine x_get (ci := 2) (Cn := RX1) (T := TX1) (N := 5) (ref := "CairnCipher$Hint") C dX1_holdsAt_143 in_X1 rfl hO 3 (by decide) (by decide +kernel) rfl rfl ?_
      refine z_icmp_eq (tgt := 153) C dX1_holdsAt_146 (by decide) (rg_of (by omega) (by omega)) (rg_of (by omega) (by omega)) (fun c_68 => ?_) (fun c_68 => ?_)
      · refine z_iconst C dX1_holdsAt_153 ?_
        exact x_zret C R dX1_holdsAt_154 (nar_z (by omega)) (Nat.le_of_ble_eq_true rfl) (Nat.le_of_ble_eq_true rfl) (⟨_, rfl, Or.inr ⟨rfl, hb_f (by simp only [HH, HS]; omega)⟩, rfl⟩)
      · refine z_iconst C dX1_holdsAt_149 ?_
        refine x_goto (tgt := 154) C dX1_holdsAt_150 (by decide) ?_
        exact x_zret C R dX1_holdsAt_154 (nar_z (by omega)) (Nat.le_of_ble_eq_true rfl) (Nat.le_of_ble_eq_true rfl) (⟨_, rfl, Or.inl ⟨rfl, hb_t (by simp only [HH, HS]; omega)⟩, rfl⟩)
abbrev rm_X1_keep : Room := { frames := 3, cells := 0, slots := 0, locals := 65 }
set_option maxHeartbeats 4000000 in
set_option maxRecDepth 100000 in
theorem c_X1_keep (l : Launch) (hst : l.stackTraces = false) (G : GG) (z : Nat) (μ : Mm) (a r : Nat) (q : Nat → Int) (K : Int64) (p : Nat) (h : Int) (hK9 : HK μ a r q K) (hp : p < 64) (hh : 0 ≤ h ∧ h ≤ 9) : Ct l yX1_keep wsX1_keep rm_X1_keep G z [.ref a, .int (zI (p : Int)), .int (zI h)] μ (rV (fun μ' => (∃ K', HK μ' a r q K' ∧ kb K' p = hb h q (p : Int) ∧ ∀ j, j < 64 → j ≠ p → kb K' j = kb K j) ∧ Fr r (r + 1) μ μ')) (nX) := by
  refine ct_of (cc := cX1_keep) (maxL := 3) (ret := none) (own := RX1) (by decide) rfl rfl hst (Nat.le_of_ble_eq_true rfl) ?_
  intro E hLl hnm C R hT
  have in_X1 : ∀ w ∈ u_ws RX1 TX1 5, w ∈ wsX1_keep := by decide +kernel
  have hK8 := hK9
  obtain ⟨hO, hq0, hq1, hq2, hq3⟩ := hK9
  have hFr : Fr r (r + 1) μ μ := Fr.rf
  refine x_eq (lv' := [(0, .ref a), (1, .int (zI (p : Int))), (2, .int (zI h))]) rfl rfl ?_
  refine x_aload_n C dX1_keep_0 rfl 0 rfl ?_
  refine x_iload_n C dX1_keep_1 rfl 1 rfl ?_
  refine x_iload_n C dX1_keep_2 rfl 2 rfl ?_
  refine x_callV (n := 2) (ci := 2) (Cn := RX1) (T := TX1) (N := 5) (cc9 := 0) (ss9 := 0) (rest := []) C dX1_keep_3 (c_X1_holdsAt (kxL E) C.st G z μ _ _ _ _ (p : Int) h hK8 (by omega) (by omega)) gX1_keep_X1_holdsAt rfl (by decide +kernel) ⟨(Nat.le_of_ble_eq_true rfl), (Nat.le_of_ble_eq_true rfl)⟩ rfl ⟨_, _, hO⟩ rfl rfl (Nat.le_of_ble_eq_true rfl) rfl rfl ⟨(Nat.le_of_ble_eq_true rfl), (Nat.le_of_ble_eq_true rfl)⟩ nX_no (fun v1 μ2 hv3 => ?_)
  obtain ⟨r4, hw7, h5, hm6⟩ := hv3
  subst hw7
  rw [hm6]
  have hb9 := h5
  refine x_stk (stk' := [.int (zI r4)]) rfl ?_
  refine z_if_eq (tgt := 24) C dX1_keep_6 (by decide) (rg_of (by omega) (by omega)) (fun c_8 => ?_) (fun c_8 => ?_)
  · refine x_aload_n C dX1_keep_24 rfl 0 rfl ?_
    refine x_dup C dX1_keep_25 rfl ?_
    refine x_get (ci := 2) (Cn := RX1) (T := TX1) (N := 5) (ref := "CairnCipher$Hint") C dX1_keep_26 in_X1 rfl hO 4 (by decide) (by decide +kernel) rfl rfl ?_
    refine x_lconst (v := (1 : Int64)) C dX1_keep_29 rfl ?_
    refine x_iload_n C dX1_keep_30 rfl 1 rfl ?_
    refine x_lshl (v := bitL p) C dX1_keep_31 rfl ?_
    refine x_ldc2 (v := (-1)) C dX1_keep_32 (by decide +kernel) ?_
    refine x_lxor C dX1_keep_35 rfl ?_
    refine x_land C dX1_keep_36 rfl ?_
    refine z_put (ci := 2) (Cn := RX1) (T := TX1) (N := 5) (ref := "CairnCipher$Hint") (fs' := [.int (zI (q 0)), .int (zI (q 1)), .int (zI (q 2)), .int (zI (q 3)), .long (K &&& ((bitL p) ^^^ (-1 : Int64)))]) C dX1_keep_37 in_X1 rfl tyX1 tyX1_ok nmX1 hO 4 (by decide) (by decide +kernel) rfl rfl rfl rfl rfl (Nat.le_of_ble_eq_true rfl) rfl (fun μ9 hOw hF10 => ?_)
    have hFr : Fr r (r + 1) μ μ9 := hFr.tr hF10
    have hO := hOw
    exact x_vret C R dX1_keep_40 (Nat.le_of_ble_eq_true rfl) (Nat.le_of_ble_eq_true rfl) (⟨rfl, ⟨_, ⟨hO, hq0, hq1, hq2, hq3⟩, by (rw [kb_clr hp hp]; rcases hb9 with ⟨h1, h2⟩ | ⟨h1, h2⟩; exfalso; omega; simp [h2]), fun j hj hne => by (rw [kb_clr hp hj]; simp [hne])⟩, hFr⟩)
  · refine x_aload_n C dX1_keep_9 rfl 0 rfl ?_
    refine x_dup C dX1_keep_10 rfl ?_
    refine x_get (ci := 2) (Cn := RX1) (T := TX1) (N := 5) (ref := "CairnCipher$Hint") C dX1_keep_11 in_X1 rfl hO 4 (by decide) (by decide +kernel) rfl rfl ?_
    refine x_lconst (v := (1 : Int64)) C dX1_keep_14 rfl ?_
    refine x_iload_n C dX1_keep_15 rfl 1 rfl ?_
    refine x_lshl (v := bitL p) C dX1_keep_16 rfl ?_
    refine x_lor C dX1_keep_17 rfl ?_
    refine z_put (ci := 2) (Cn := RX1) (T := TX1) (N := 5) (ref := "CairnCipher$Hint") (fs' := [.int (zI (q 0)), .int (zI (q 1)), .int (zI (q 2)), .int (zI (q 3)), .long (K ||| (bitL p))]) C dX1_keep_18 in_X1 rfl tyX1 tyX1_ok nmX1 hO 4 (by decide) (by decide +kernel) rfl rfl rfl rfl rfl (Nat.le_of_ble_eq_true rfl) rfl (fun μ11 hOw hF12 => ?_)
    have hFr : Fr r (r + 1) μ μ11 := hFr.tr hF12
    have hO := hOw
    refine x_goto (tgt := 40) C dX1_keep_21 (by decide) ?_
    exact x_vret C R dX1_keep_40 (Nat.le_of_ble_eq_true rfl) (Nat.le_of_ble_eq_true rfl) (⟨rfl, ⟨_, ⟨hO, hq0, hq1, hq2, hq3⟩, by (rw [kb_or hp]; rcases hb9 with ⟨h1, h2⟩ | ⟨h1, h2⟩; simp [h2]; exfalso; omega), fun j hj hne => by (rw [kb_or hp]; simp [hne])⟩, hFr⟩)
abbrev rm_X1_keptPlaces : Room := { frames := 0, cells := 0, slots := 0, locals := 0 }
set_option maxHeartbeats 4000000 in
set_option maxRecDepth 100000 in
theorem c_X1_keptPlaces (l : Launch) (hst : l.stackTraces = false) (G : GG) (z : Nat) (μ : Mm) (a r : Nat) (q : Nat → Int) (K : Int64) (hK9 : HK μ a r q K) : Ct l yX1_keptPlaces wsX1_keptPlaces rm_X1_keptPlaces G z [.ref a] μ (fun v μ' => ∃ r9 : Int64, v = some (.long r9) ∧ r9 = K ∧ μ' = μ) (nX) := by
  refine ct_of (cc := cX1_keptPlaces) (maxL := 1) (ret := (some .long)) (own := RX1) (by decide) rfl rfl hst (Nat.le_of_ble_eq_true rfl) ?_
  intro E hLl hnm C R hT
  have in_X1 : ∀ w ∈ u_ws RX1 TX1 5, w ∈ wsX1_keptPlaces := by decide +kernel
  obtain ⟨hO, hq0, hq1, hq2, hq3⟩ := hK9
  refine x_eq (lv' := [(0, .ref a)]) rfl rfl ?_
  refine x_aload_n C dX1_keptPlaces_0 rfl 0 rfl ?_
  refine x_get (ci := 2) (Cn := RX1) (T := TX1) (N := 5) (ref := "CairnCipher$Hint") C dX1_keptPlaces_1 in_X1 rfl hO 4 (by decide) (by decide +kernel) rfl rfl ?_
  exact x_lret C R dX1_keptPlaces_4 (Nat.le_of_ble_eq_true rfl) (Nat.le_of_ble_eq_true rfl) (⟨_, rfl, rfl, rfl⟩)
