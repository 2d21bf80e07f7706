abbrev rm_X8_charsOf : Room := { frames := 0, cells := 0, slots := 0, locals := 0 }
set_option maxHeartbeats 4000000 in
set_option maxRecDepth 100000 in
theorem c_X8_charsOf (l : Launch) (hst : l.stackTraces = false) (G : GG) (z : Nat) (μ : Mm) (c : Int) (hc : -2147483648 ≤ c ∧ c < 2147483648) : Ct l yX8_charsOf wsX8_charsOf rm_X8_charsOf G z [.int (zI c)] μ (rP μ (fun r => (c = 26 ∧ r = 2) ∨ (c ≠ 26 ∧ r = 1))) (nX) := by
  refine ct_of (cc := cX8_charsOf) (maxL := 1) (ret := (some .int)) (own := RX8) (by decide) rfl rfl hst (Nat.le_of_ble_eq_true rfl) ?_
  intro E hLl hnm C R hT
  refine x_eq (lv' := [(0, .int (zI c))]) rfl rfl ?_
  refine x_iload_n C dX8_charsOf_0 rfl 0 rfl ?_
  refine z_bipush C dX8_charsOf_1 (by decide) ?_
  refine z_icmp_ne (tgt := 10) C dX8_charsOf_3 (by decide) (rg_of (by omega) (by omega)) (rg_of (by omega) (by omega)) (fun c_1 => ?_) (fun c_1 => ?_)
  · refine z_iconst C dX8_charsOf_10 ?_
    exact x_iret C R dX8_charsOf_11 (Nat.le_of_ble_eq_true rfl) (Nat.le_of_ble_eq_true rfl) (⟨_, rfl, by omega, rfl⟩)
  · refine z_iconst C dX8_charsOf_6 ?_
    refine x_goto (tgt := 11) C dX8_charsOf_7 (by decide) ?_
    exact x_iret C R dX8_charsOf_11 (Nat.le_of_ble_eq_true rfl) (Nat.le_of_ble_eq_true rfl) (⟨_, rfl, by omega, rfl⟩)
abbrev rm_X8_charOf : Room := { frames := 0, cells := 0, slots := 0, locals := 0 }
set_option maxHeartbeats 4000000 in
set_option maxRecDepth 100000 in
theorem c_X8_charOf (l : Launch) (hst : l.stackTraces = false) (G : GG) (z : Nat) (μ : Mm) (c i : Int) (hc : 0 ≤ c ∧ c ≤ 26) (hi : -2147483648 ≤ i ∧ i < 2147483648) : Ct l yX8_charOf wsX8_charOf rm_X8_charOf G z [.int (zI c), .int (zI i)] μ (rP μ (fun r => (c ≠ 26 ∧ r = 97 + c) ∨ (c = 26 ∧ i = 0 ∧ r = 55357) ∨ (c = 26 ∧ i ≠ 0 ∧ r = 56831))) (nX) := by
  refine ct_of (cc := cX8_charOf) (maxL := 2) (ret := (some .char)) (own := RX8) (by decide) rfl rfl hst (Nat.le_of_ble_eq_true rfl) ?_
  intro E hLl hnm C R hT
  refine x_eq (lv' := [(0, .int (zI c)), (1, .int (zI i))]) rfl rfl ?_
  refine x_iload_n C dX8_charOf_0 rfl 0 rfl ?_
  refine z_bipush C dX8_charOf_1 (by decide) ?_
  refine z_icmp_eq (tgt := 12) C dX8_charOf_3 (by decide) (rg_of (by omega) (by omega)) (rg_of (by omega) (by omega)) (fun c_1 => ?_) (fun c_1 => ?_)
  · refine x_iload_n C dX8_charOf_12 rfl 1 rfl ?_
    refine z_if_ne (tgt := 22) C dX8_charOf_13 (by decide) (rg_of (by omega) (by omega)) (fun c_2 => ?_) (fun c_2 => ?_)
    · refine z_ldcw (w := (56831)) (v := (56831)) C dX8_charOf_22 (by decide +kernel) (by decide) ?_
      exact x_zret C R dX8_charOf_25 (nar_c (by omega)) (Nat.le_of_ble_eq_true rfl) (Nat.le_of_ble_eq_true rfl) (⟨_, rfl, by omega, rfl⟩)
    · refine z_ldcw (w := (55357)) (v := (55357)) C dX8_charOf_16 (by decide +kernel) (by decide) ?_
      refine x_goto (tgt := 25) C dX8_charOf_19 (by decide) ?_
      exact x_zret C R dX8_charOf_25 (nar_c (by omega)) (Nat.le_of_ble_eq_true rfl) (Nat.le_of_ble_eq_true rfl) (⟨_, rfl, by omega, rfl⟩)
  · refine z_bipush C dX8_charOf_6 (by decide) ?_
    refine x_iload_n C dX8_charOf_8 rfl 0 rfl ?_
    refine z_iadd C dX8_charOf_9 rfl ?_
    refine z_i2c C dX8_charOf_10 (by omega) ?_
    exact x_zret C R dX8_charOf_11 (nar_c (by omega)) (Nat.le_of_ble_eq_true rfl) (Nat.le_of_ble_eq_true rfl) (⟨_, rfl, by omega, rfl⟩)
abbrev rm_X8_pointsFor : Room := { frames := 1, cells := 0, slots := 0, locals := 21 }
set_option maxHeartbeats 4000000 in
set_option maxRecDepth 100000 in
theorem c_X8_pointsFor (l : Launch) (hst : l.stackTraces = false) (G : GG) (z : Nat) (μ : Mm) (w t : Int) (hw : 0 ≤ w ∧ w ≤ 1000) (ht : t = 0 ∨ t = 1) : Ct l yX8_pointsFor wsX8_pointsFor rm_X8_pointsFor G z [.int (zI w), .int (zI t)] μ (rP μ (fun r => r = pts w t)) (nX) := by
  refine ct_of (cc := cX8_pointsFor) (maxL := 3) (ret := (some .int)) (own := RX8) (by decide) rfl rfl hst (Nat.le_of_ble_eq_true rfl) ?_
  intro E hLl hnm C R hT
  refine x_eq (lv' := [(0, .int (zI w)), (1, .int (zI t))]) rfl rfl ?_
  refine z_bipush C dX8_pointsFor_0 (by decide) ?_
  refine z_bipush C dX8_pointsFor_2 (by decide) ?_
  refine z_bipush C dX8_pointsFor_4 (by decide) ?_
  refine x_iload_n C dX8_pointsFor_6 rfl 0 rfl ?_
  refine z_imul C dX8_pointsFor_7 rfl ?_
  refine z_isub C dX8_pointsFor_8 rfl ?_
  obtain ⟨r1, h2⟩ : ∃ q : Int, (if 10 < 100 - (10 * w) then 100 - (10 * w) else 10) = q := ⟨_, rfl⟩
  refine z_max (v := r1) C dX8_pointsFor_9 (by decide +kernel) (by decide +kernel) (by decide +kernel) (by decide +kernel) (Nat.le_of_ble_eq_true rfl) (Nat.le_of_ble_eq_true rfl) (rg_of (by omega) (by omega)) (rg_of (by omega) (by omega)) h2 (Nat.le_of_ble_eq_true rfl) (Nat.le_of_ble_eq_true rfl) ?_
  have h3 := ite_or h2
  refine x_istore_n (lv' := [(2, .int (zI r1)), (0, .int (zI w)), (1, .int (zI t))]) C dX8_pointsFor_12 rfl (by decide) rfl ?_
  refine x_iload_n C dX8_pointsFor_13 rfl 2 rfl ?_
  refine z_if_eq (tgt := 23) C dX8_pointsFor_14 (by decide) (rg_of (by omega) (by omega)) (fun c_4 => ?_) (fun c_4 => ?_)
  · refine x_iload_n C dX8_pointsFor_23 rfl 0 rfl ?_
    exact x_iret C R dX8_pointsFor_24 (Nat.le_of_ble_eq_true rfl) (Nat.le_of_ble_eq_true rfl) (⟨_, rfl, by unfold pts; split <;> split <;> omega, rfl⟩)
  · refine x_iload_n C dX8_pointsFor_17 rfl 0 rfl ?_
    refine z_iconst C dX8_pointsFor_18 ?_
    refine z_idiv C dX8_pointsFor_19 (rg_of (by omega) (by omega)) (by omega) (rg_of (by omega) (by omega)) (by omega) rfl ?_
    refine x_goto (tgt := 24) C dX8_pointsFor_20 (by decide) ?_
    exact x_iret C R dX8_pointsFor_24 (Nat.le_of_ble_eq_true rfl) (Nat.le_of_ble_eq_true rfl) (⟨_, rfl, by unfold pts; split <;> split <;> omega, rfl⟩)
abbrev rm_X5_init : Room := { frames := 1, cells := 1, slots := 5, locals := 20 }
set_option maxHeartbeats 4000000 in
set_option maxRecDepth 100000 in
theorem c_X5_init (l : Launch) (hst : l.stackTraces = false) (G : GG) (z : Nat) (μ : Mm) (a r : Nat) (hO : OB μ a r 6 [.null, .int (zI 0)]) : Ct l yX5_init wsX5_init rm_X5_init G z [.ref a] μ (rV (fun μ' => TextR G μ' a r 0 (fun _ => 0) ∧ Fr r (r + 2) μ μ')) (nX) := by
  refine ct_of (cc := cX5_init) (maxL := 1) (ret := none) (own := RX5) (by decide) rfl rfl hst (Nat.le_of_ble_eq_true rfl) ?_
  intro E hLl hnm C R hT
  have in_X5 : ∀ w ∈ u_ws RX5 TX5 2, w ∈ wsX5_init := by decide +kernel
  have hFr : Fr r (r + 2) μ μ := Fr.rf
  refine x_eq (lv' := [(0, .ref a)]) rfl rfl ?_
  refine x_aload_n C dX5_init_0 rfl 0 rfl ?_
  refine x_objInit C dX5_init_1 (by decide +kernel) (by decide +kernel) (by decide +kernel) (Nat.le_of_ble_eq_true rfl) (Nat.le_of_ble_eq_true rfl) ?_
  refine x_aload_n C dX5_init_4 rfl 0 rfl ?_
  refine z_iconst C dX5_init_5 ?_
  refine z_newI (N9 := 5) (cc9 := 1) (ss9 := 5) C (r + 1) dX5_init_6 (by decide +kernel) rfl (by decide) rfl rfl (Nat.le_of_ble_eq_true rfl) (Nat.le_of_ble_eq_true rfl) (fun a1 μ2 hq3 hA4 hF5 => ?_)
  have hF6 : Fr 0 0 μ μ2 := hF5 _ _
  have hO := (hF5 0 0).ob hO (Or.inr (Nat.zero_le _))
  have hFr : Fr r (r + 2) μ μ2 := hFr.tr (hF5 r (r + 2))
  refine z_putF (ci := 6) (Cn := RX5) (T := TX5) (N := 2) (ref := "CairnCipher$Text") (fs' := [.ref a1, .int (zI 0)]) C dX5_init_8 hnm in_X5 rfl tyX5 tyX5_ok nmX5 hO 0 (by decide) (by decide +kernel) rfl rfl rfl rfl rfl rfl (Nat.le_of_ble_eq_true rfl) rfl (fun μ7 hOw hF8 => ?_)
  have hA4 := hF8.ai hA4
  have hFr : Fr r (r + 2) μ μ7 := hFr.tr hF8
  have hO := hOw
  refine x_aload_n C dX5_init_11 rfl 0 rfl ?_
  refine z_iconst C dX5_init_12 ?_
  refine z_put (ci := 6) (Cn := RX5) (T := TX5) (N := 2) (ref := "CairnCipher$Text") (fs' := [.ref a1, .int (zI 0)]) C dX5_init_13 in_X5 rfl tyX5 tyX5_ok nmX5 hO 1 (by decide) (by decide +kernel) rfl rfl rfl rfl rfl (Nat.le_of_ble_eq_true rfl) rfl (fun μ9 hOw hF10 => ?_)
  have hA4 := hF10.ai hA4
  have hFr : Fr r (r + 2) μ μ9 := hFr.tr hF10
  have hO := hOw
  exact x_vret C R dX5_init_16 (Nat.le_of_ble_eq_true rfl) (Nat.le_of_ble_eq_true rfl) (⟨rfl, ⟨_, hO, hA4, by omega, fun j hj => by show (0 : Int) ≤ 0 ∧ (0 : Int) ≤ 26; omega⟩, hFr⟩)
abbrev rm_X5_count : Room := { frames := 0, cells := 0, slots := 0, locals := 0 }
set_option maxHeartbeats 4000000 in
set_option maxRecDepth 100000 in
theorem c_X5_count (l : Launch) (hst : l.stackTraces = false) (G : GG) (z : Nat) (μ : Mm) (a r n : Nat) (W : Nat → Int) (hT9 : TextR G μ a r n W) : Ct l yX5_count wsX5_count rm_X5_count G z [.ref a] μ (rP μ (fun r9 => r9 = (n : Int))) (nX) := by
  refine ct_of (cc := cX5_count) (maxL := 1) (ret := (some .int)) (own := RX5) (by decide) rfl rfl hst (Nat.le_of_ble_eq_true rfl) ?_
  intro E hLl hnm C R hT
  have in_X5 : ∀ w ∈ u_ws RX5 TX5 2, w ∈ wsX5_count := by decide +kernel
  obtain ⟨f, hO, hA, hn, hW⟩ := hT9
  refine x_eq (lv' := [(0, .ref a)]) rfl rfl ?_
  refine x_aload_n C dX5_count_0 rfl 0 rfl ?_
  refine x_get (ci := 6) (Cn := RX5) (T := TX5) (N := 2) (ref := "CairnCipher$Text") C dX5_count_1 in_X5 rfl hO 1 (by decide) (by decide +kernel) rfl rfl ?_
  exact x_iret C R dX5_count_4 (Nat.le_of_ble_eq_true rfl) (Nat.le_of_ble_eq_true rfl) (⟨_, rfl, rfl, rfl⟩)
abbrev rm_X5_empty : Room := { frames := 0, cells := 0, slots := 0, locals := 0 }
set_option maxHeartbeats 4000000 in
set_option maxRecDepth 100000 in
theorem c_X5_empty (l : Launch) (hst : l.stackTraces = false) (G : GG) (z : Nat) (μ : Mm) (a r n : Nat) (W : Nat → Int) (hT9 : TextR G μ a r n W) : Ct l yX5_empty wsX5_empty rm_X5_empty G z [.ref a] μ (rV (fun μ' => TextR G μ' a r 0 W ∧ Fr r (r + 2) μ μ')) (nX) := by
  refine ct_of (cc := cX5_empty) (maxL := 1) (ret := none) (own := RX5) (by decide) rfl rfl hst (Nat.le_of_ble_eq_true rfl) ?_
  intro E hLl hnm C R hT
  have in_X5 : ∀ w ∈ u_ws RX5 TX5 2, w ∈ wsX5_empty := by decide +kernel
  obtain ⟨f, hO, hA, hn, hW⟩ := hT9
  have hFr : Fr r (r + 2) μ μ := Fr.rf
  refine x_eq (lv' := [(0, .ref a)]) rfl rfl ?_
  refine x_aload_n C dX5_empty_0 rfl 0 rfl ?_
  refine z_iconst C dX5_empty_1 ?_
  refine z_put (ci := 6) (Cn := RX5) (T := TX5) (N := 2) (ref := "CairnCipher$Text") (fs' := [.ref f, .int (zI 0)]) C dX5_empty_2 in_X5 rfl tyX5 tyX5_ok nmX5 hO 1 (by decide) (by decide +kernel) rfl rfl rfl rfl rfl (Nat.le_of_ble_eq_true rfl) rfl (fun μ1 hOw hF2 => ?_)
  have hA := hF2.ai hA
  have hFr : Fr r (r + 2) μ μ1 := hFr.tr hF2
  have hO := hOw
  exact x_vret C R dX5_empty_5 (Nat.le_of_ble_eq_true rfl) (Nat.le_of_ble_eq_true rfl) (⟨rfl, ⟨_, hO, hA, by omega, hW⟩, hFr⟩)
abbrev rm_X5_append : Room := { frames := 0, cells := 0, slots := 0, locals := 0 }
set_option maxHeartbeats 4000000 in
set_option maxRecDepth 100000 in
theorem c_X5_append (l : Launch) (hst : l.stackTraces = false) (G : GG) (z : Nat) (μ : Mm) (a r n : Nat) (W : Nat → Int) (c : Int) (hT9 : TextR G μ a r n W) (hn5 : n < 5) (hc : 0 ≤ c ∧ c ≤ 26) : Ct l yX5_append wsX5_append rm_X5_append G z [.ref a, .int (zI c)] μ (rV (fun μ' => TextR G μ' a r (n + 1) (wr W n c) ∧ Fr r (r + 2) μ μ')) (nX) := by
  refine ct_of (cc := cX5_append) (maxL := 2) (ret := none) (own := RX5) (by decide) rfl rfl hst (Nat.le_of_ble_eq_true rfl) ?_
  intro E hLl hnm C R hT
  have in_X5 : ∀ w ∈ u_ws RX5 TX5 2, w ∈ wsX5_append := by decide +kernel
  obtain ⟨f, hO, hA, hn, hW⟩ := hT9
  have hFr : Fr r (r + 2) μ μ := Fr.rf
  refine x_eq (lv' := [(0, .ref a), (1, .int (zI c))]) rfl rfl ?_
  refine x_aload_n C dX5_append_0 rfl 0 rfl ?_
  refine x_get (ci := 6) (Cn := RX5) (T := TX5) (N := 2) (ref := "CairnCipher$Text") C dX5_append_1 in_X5 rfl hO 1 (by decide) (by decide +kernel) rfl rfl ?_
  refine z_if_lt (tgt := 39) C dX5_append_4 (by decide) (rg_of (by omega) (by omega)) (fun c_1 => ?_) (fun c_1 => ?_)
  · exact x_vret C R dX5_append_39 (Nat.le_of_ble_eq_true rfl) (Nat.le_of_ble_eq_true rfl) (by first | exact ⟨rfl, ⟨_, hO, hA, by omega, fun j hj => by (have := hW j hj; unfold wr; split <;> omega)⟩, hFr⟩ | (exfalso; omega))
  · refine x_aload_n C dX5_append_7 rfl 0 rfl ?_
    refine x_get (ci := 6) (Cn := RX5) (T := TX5) (N := 2) (ref := "CairnCipher$Text") C dX5_append_8 in_X5 rfl hO 1 (by decide) (by decide +kernel) rfl rfl ?_
    refine x_aload_n C dX5_append_11 rfl 0 rfl ?_
    refine x_get (ci := 6) (Cn := RX5) (T := TX5) (N := 2) (ref := "CairnCipher$Text") C dX5_append_12 in_X5 rfl hO 0 (by decide) (by decide +kernel) rfl rfl ?_
    refine z_alenI C dX5_append_15 hA rfl ?_
    refine z_icmp_ge (tgt := 39) C dX5_append_16 (by decide) (rg_of (by omega) (by omega)) (rg_of (by omega) (by omega)) (fun c_2 => ?_) (fun c_2 => ?_)
    · exact x_vret C R dX5_append_39 (Nat.le_of_ble_eq_true rfl) (Nat.le_of_ble_eq_true rfl) (by first | exact ⟨rfl, ⟨_, hO, hA, by omega, fun j hj => by (have := hW j hj; unfold wr; split <;> omega)⟩, hFr⟩ | (exfalso; omega))
    · refine x_aload_n C dX5_append_19 rfl 0 rfl ?_
      refine x_get (ci := 6) (Cn := RX5) (T := TX5) (N := 2) (ref := "CairnCipher$Text") C dX5_append_20 in_X5 rfl hO 0 (by decide) (by decide +kernel) rfl rfl ?_
      refine x_aload_n C dX5_append_23 rfl 0 rfl ?_
      refine x_get (ci := 6) (Cn := RX5) (T := TX5) (N := 2) (ref := "CairnCipher$Text") C dX5_append_24 in_X5 rfl hO 1 (by decide) (by decide +kernel) rfl rfl ?_
      refine x_iload_n C dX5_append_27 rfl 1 rfl ?_
      refine z_iast (j := n) C dX5_append_28 hA (by omega) (by omega) (by decide) (fun μ3 hAw hF4 => ?_)
      have hO := hF4.ob hO
      have hFr : Fr r (r + 2) μ μ3 := hFr.tr hF4
      have hA := hAw
      refine x_aload_n C dX5_append_29 rfl 0 rfl ?_
      refine x_dup C dX5_append_30 rfl ?_
      refine x_get (ci := 6) (Cn := RX5) (T := TX5) (N := 2) (ref := "CairnCipher$Text") C dX5_append_31 in_X5 rfl hO 1 (by decide) (by decide +kernel) rfl rfl ?_
      refine z_iconst C dX5_append_34 ?_
      refine z_iadd C dX5_append_35 rfl ?_
      refine z_put (ci := 6) (Cn := RX5) (T := TX5) (N := 2) (ref := "CairnCipher$Text") (fs' := [.ref f, .int (zI ((n : Int) + 1))]) C dX5_append_36 in_X5 rfl tyX5 tyX5_ok nmX5 hO 1 (by decide) (by decide +kernel) rfl rfl rfl rfl rfl (Nat.le_of_ble_eq_true rfl) rfl (fun μ5 hOw hF6 => ?_)
      have hA := hF6.ai hA
      have hFr : Fr r (r + 2) μ μ5 := hFr.tr hF6
      have hO := hOw
      exact x_vret C R dX5_append_39 (Nat.le_of_ble_eq_true rfl) (Nat.le_of_ble_eq_true rfl) (by first | exact ⟨rfl, ⟨_, hO, hA, by omega, fun j hj => by (have := hW j hj; unfold wr; split <;> omega)⟩, hFr⟩ | (exfalso; omega))
abbrev rm_X5_letterAt : Room := { frames := 0, cells := 0, slots := 0, locals := 0 }
set_option maxHeartbeats 4000000 in
set_option maxRecDepth 100000 in
theorem c_X5_letterAt (l : Launch) (hst : l.stackTraces = false) (G : GG) (z : Nat) (μ : Mm) (a r n : Nat) (W : Nat → Int) (i : Int) (hT9 : TextR G μ a r n W) (hi : -2147483648 ≤ i ∧ i < 2147483648) : Ct l yX5_letterAt wsX5_letterAt rm_X5_letterAt G z [.ref a, .int (zI i)] μ (rP μ (fun r9 => (0 ≤ i ∧ i < n → r9 = W i.toNat) ∧ (¬ (0 ≤ i ∧ i < n) → r9 = 0))) (nX) := by
  refine ct_of (cc := cX5_letterAt) (maxL := 2) (ret := (some .int)) (own := RX5) (by decide) rfl rfl hst (Nat.le_of_ble_eq_true rfl) ?_
  intro E hLl hnm C R hT
  have in_X5 : ∀ w ∈ u_ws RX5 TX5 2, w ∈ wsX5_letterAt := by decide +kernel
  obtain ⟨f, hO, hA, hn, hW⟩ := hT9
  refine x_eq (lv' := [(0, .ref a), (1, .int (zI i))]) rfl rfl ?_
  refine x_iload_n C dX5_letterAt_0 rfl 1 rfl ?_
  refine z_if_lt (tgt := 30) C dX5_letterAt_1 (by decide) (rg_of (by omega) (by omega)) (fun c_1 => ?_) (fun c_1 => ?_)
  · refine z_iconst C dX5_letterAt_30 ?_
    exact x_iret C R dX5_letterAt_31 (Nat.le_of_ble_eq_true rfl) (Nat.le_of_ble_eq_true rfl) (⟨_, rfl, ⟨fun h => by first | rfl | (exfalso; omega), fun h => by first | rfl | (exfalso; omega)⟩, rfl⟩)
  · refine x_iload_n C dX5_letterAt_4 rfl 1 rfl ?_
    refine x_aload_n C dX5_letterAt_5 rfl 0 rfl ?_
    refine x_get (ci := 6) (Cn := RX5) (T := TX5) (N := 2) (ref := "CairnCipher$Text") C dX5_letterAt_6 in_X5 rfl hO 1 (by decide) (by decide +kernel) rfl rfl ?_
    refine z_icmp_ge (tgt := 30) C dX5_letterAt_9 (by decide) (rg_of (by omega) (by omega)) (rg_of (by omega) (by omega)) (fun c_2 => ?_) (fun c_2 => ?_)
    · refine z_iconst C dX5_letterAt_30 ?_
      exact x_iret C R dX5_letterAt_31 (Nat.le_of_ble_eq_true rfl) (Nat.le_of_ble_eq_true rfl) (⟨_, rfl, ⟨fun h => by first | rfl | (exfalso; omega), fun h => by first | rfl | (exfalso; omega)⟩, rfl⟩)
    · refine x_iload_n C dX5_letterAt_12 rfl 1 rfl ?_
      refine x_aload_n C dX5_letterAt_13 rfl 0 rfl ?_
      refine x_get (ci := 6) (Cn := RX5) (T := TX5) (N := 2) (ref := "CairnCipher$Text") C dX5_letterAt_14 in_X5 rfl hO 0 (by decide) (by decide +kernel) rfl rfl ?_
      refine z_alenI C dX5_letterAt_17 hA rfl ?_
      refine z_icmp_ge (tgt := 30) C dX5_letterAt_18 (by decide) (rg_of (by omega) (by omega)) (rg_of (by omega) (by omega)) (fun c_3 => ?_) (fun c_3 => ?_)
      · refine z_iconst C dX5_letterAt_30 ?_
        exact x_iret C R dX5_letterAt_31 (Nat.le_of_ble_eq_true rfl) (Nat.le_of_ble_eq_true rfl) (⟨_, rfl, ⟨fun h => by first | rfl | (exfalso; omega), fun h => by first | rfl | (exfalso; omega)⟩, rfl⟩)
      · refine x_aload_n C dX5_letterAt_21 rfl 0 rfl ?_
        refine x_get (ci := 6) (Cn := RX5) (T := TX5) (N := 2) (ref := "CairnCipher$Text") C dX5_letterAt_22 in_X5 rfl hO 0 (by decide) (by decide +kernel) rfl rfl ?_
        refine x_iload_n C dX5_letterAt_25 rfl 1 rfl ?_
        refine z_iald (j := i.toNat) C dX5_letterAt_26 hA (by omega) (by omega) (by decide) ?_
        have q_4 := hW i.toNat (by omega)
        refine x_goto (tgt := 31) C dX5_letterAt_27 (by decide) ?_
        exact x_iret C R dX5_letterAt_31 (Nat.le_of_ble_eq_true rfl) (Nat.le_of_ble_eq_true rfl) (⟨_, rfl, ⟨fun h => by first | rfl | (exfalso; omega), fun h => by first | rfl | (exfalso; omega)⟩, rfl⟩)
abbrev rm_X5_charCount : Room := { frames := 1, cells := 0, slots := 0, locals := 21 }
set_option maxHeartbeats 4000000 in
set_option maxRecDepth 100000 in
theorem c_X5_charCount (l : Launch) (hst : l.stackTraces = false) (G : GG) (z : Nat) (μ : Mm) (a r n : Nat) (W : Nat → Int) (hT9 : TextR G μ a r n W) : Ct l yX5_charCount wsX5_charCount rm_X5_charCount G z [.ref a] μ (rP μ (fun r9 => r9 = chs W n)) (nX) := by
  refine ct_of (cc := cX5_charCount) (maxL := 3) (ret := (some .int)) (own := RX5) (by decide) rfl rfl hst (Nat.le_of_ble_eq_true rfl) ?_
  intro E hLl hnm C R hT
  have in_X5 : ∀ w ∈ u_ws RX5 TX5 2, w ∈ wsX5_charCount := by decide +kernel
  have hT8 := hT9
  obtain ⟨f, hO, hA, hn, hW⟩ := hT9
  refine x_eq (lv' := [(0, .ref a)]) rfl rfl ?_
  refine z_iconst C dX5_charCount_0 ?_
  refine x_istore_n (lv' := [(1, .int (zI 0)), (0, .ref a)]) C dX5_charCount_1 rfl (by decide) rfl ?_
  refine z_iconst C dX5_charCount_2 ?_
  refine x_istore_n (lv' := [(2, .int (zI 0)), (1, .int (zI 0)), (0, .ref a)]) C dX5_charCount_3 rfl (by decide) rfl ?_
  have L4 : ∀ (M9 : Nat) (k : Nat) (kz : Int) (hkz : kz = (k : Int)) (s : Int) (hk : k ≤ n) (hs9 : s = chs W k) (hM9 : n - k = M9), Wx E G 0 0 4 [(2, .int (zI kz)), (1, .int (zI s)), (0, .ref a)] [] μ := by
    intro M9
    induction M9 using Nat.strongRecOn with
    | ind M9 ih4 =>
      intro k kz hkz s hk hs9 hM9
      subst hkz
      have hs8 := chs_rg W k
      refine x_iload_n C dX5_charCount_4 rfl 0 rfl ?_
      refine x_aload_n C dX5_charCount_5 rfl 2 rfl ?_
      refine x_get (ci := 6) (Cn := RX5) (T := TX5) (N := 2) (ref := "CairnCipher$Text") C dX5_charCount_6 in_X5 rfl hO 1 (by decide) (by decide +kernel) rfl rfl ?_
      refine z_icmp_ge (tgt := 29) C dX5_charCount_9 (by decide) (rg_of (by omega) (by omega)) (rg_of (by omega) (by omega)) (fun c_1 => ?_) (fun c_1 => ?_)
      · refine x_iload_n C dX5_charCount_29 rfl 1 rfl ?_
        exact x_iret C R dX5_charCount_30 (Nat.le_of_ble_eq_true rfl) (Nat.le_of_ble_eq_true rfl) (⟨_, rfl, by (obtain rfl : k = n := (by omega); exact hs9), rfl⟩)
      · refine x_iload_n C dX5_charCount_12 rfl 1 rfl ?_
        refine x_aload_n C dX5_charCount_13 rfl 2 rfl ?_
        refine x_iload_n C dX5_charCount_14 rfl 0 rfl ?_
        refine x_callV (n := 1) (ci := 6) (Cn := RX5) (T := TX5) (N := 2) (cc9 := 0) (ss9 := 0) (rest := [.int (zI s)]) C dX5_charCount_15 (c_X5_letterAt (kxL E) C.st G z μ _ _ _ _ (k : Int) hT8 (by omega)) gX5_charCount_X5_letterAt rfl (by decide +kernel) ⟨(Nat.le_of_ble_eq_true rfl), (Nat.le_of_ble_eq_true rfl)⟩ rfl ⟨_, _, hO⟩ rfl rfl (Nat.le_of_ble_eq_true rfl) rfl rfl ⟨(Nat.le_of_ble_eq_true rfl), (Nat.le_of_ble_eq_true rfl)⟩ nX_no (fun v2 μ3 hv4 => ?_)
        obtain ⟨r5, hw8, h6, hm7⟩ := hv4
        subst hw8
        rw [hm7]
        have hw7 := hW k (by omega)
        have hw6 := h6.1 (by omega)
        rw [Int.toNat_natCast] at hw6
        refine x_stk (stk' := [.int (zI r5), .int (zI s)]) rfl ?_
        refine x_callSN (n := 1) (host := "CairnCipher") (cc9 := 0) (ss9 := 0) (rest := [.int (zI s)]) C dX5_charCount_18 (c_X8_charsOf (kxL E) C.st G z μ r5 (by omega)) gX5_charCount_X8_charsOf_n23 rfl (by decide +kernel) (by decide +kernel) (by decide +kernel) (by decide +kernel) ⟨(Nat.le_of_ble_eq_true rfl), (Nat.le_of_ble_eq_true rfl)⟩ rfl rfl (Nat.le_of_ble_eq_true rfl) rfl rfl ⟨(Nat.le_of_ble_eq_true rfl), (Nat.le_of_ble_eq_true rfl)⟩ nX_no (fun v9 μ10 hv11 => ?_)
        obtain ⟨r12, hw15, h13, hm14⟩ := hv11
        subst hw15
        rw [hm14]
        refine x_stk (stk' := [.int (zI r12), .int (zI s)]) rfl ?_
        refine z_iadd C dX5_charCount_21 rfl ?_
        refine x_istore_n (lv' := [(1, .int (zI (s + r12))), (2, .int (zI (k : Int))), (0, .ref a)]) C dX5_charCount_22 rfl (by decide) rfl ?_
        refine z_iinc (lv' := [(2, .int (zI ((k : Int) + 1))), (1, .int (zI (s + r12))), (0, .ref a)]) C dX5_charCount_23 1 rfl rfl (by decide) rfl ?_
        refine x_goto (tgt := 4) C dX5_charCount_26 (by decide) ?_
        exact ih4 _ (by omega) (k + 1) _ (by omega) _ (by omega) (by rw [show chs W (k + 1) = chs W k + (if W k = 26 then 2 else 1) from rfl]; split <;> omega) rfl
  exact L4 _ (0) _ (by omega) _ (by omega) rfl rfl
abbrev rm_X5_isSameAs : Room := { frames := 1, cells := 0, slots := 0, locals := 21 }
set_option maxHeartbeats 4000000 in
set_option maxRecDepth 100000 in
theorem c_X5_isSameAs (l : Launch) (hst : l.stackTraces = false) (G : GG) (z : Nat) (μ : Mm) (a r n : Nat) (W : Nat → Int) (b r2 n2 : Nat) (W2 : Nat → Int) (hT9 : TextR G μ a r n W) (hU9 : TextR G μ b r2 n2 W2) : Ct l yX5_isSameAs wsX5_isSameAs rm_X5_isSameAs G z [.ref a, .ref b] μ (rP μ (fun r9 => (r9 = 1 ∧ n = n2 ∧ ∀ i, i < n → W i = W2 i) ∨ (r9 = 0 ∧ ¬ (n = n2 ∧ ∀ i, i < n → W i = W2 i)))) (nX) := by
  refine ct_of (cc := cX5_isSameAs) (maxL := 3) (ret := (some .boolean)) (own := RX5) (by decide) rfl rfl hst (Nat.le_of_ble_eq_true rfl) ?_
  intro E hLl hnm C R hT
  have in_X5 : ∀ w ∈ u_ws RX5 TX5 2, w ∈ wsX5_isSameAs := by decide +kernel
  have hT8 := hT9
  have hT7 := hU9
  obtain ⟨f, hO, hA, hn, hW⟩ := hT9
  obtain ⟨f2, hO2, hA2, hn2, hW2⟩ := hU9
  refine x_eq (lv' := [(0, .ref a), (1, .ref b)]) rfl rfl ?_
  refine x_aload_n C dX5_isSameAs_0 rfl 0 rfl ?_
  refine x_get (ci := 6) (Cn := RX5) (T := TX5) (N := 2) (ref := "CairnCipher$Text") C dX5_isSameAs_1 in_X5 rfl hO 1 (by decide) (by decide +kernel) rfl rfl ?_
  refine x_aload_n C dX5_isSameAs_4 rfl 1 rfl ?_
  refine x_get (ci := 6) (Cn := RX5) (T := TX5) (N := 2) (ref := "CairnCipher$Text") C dX5_isSameAs_5 in_X5 rfl hO2 1 (by decide) (by decide +kernel) rfl rfl ?_
  refine z_icmp_eq (tgt := 13) C dX5_isSameAs_8 (by decide) (rg_of (by omega) (by omega)) (rg_of (by omega) (by omega)) (fun c_1 => ?_) (fun c_1 => ?_)
  · refine z_iconst C dX5_isSameAs_13 ?_
    refine x_istore_n (lv' := [(2, .int (zI 0)), (0, .ref a), (1, .ref b)]) C dX5_isSameAs_14 rfl (by decide) rfl ?_
    have L15 : ∀ (M9 : Nat) (k : Nat) (kz : Int) (hkz : kz = (k : Int)) (hk : k ≤ n) (hs9 : ∀ i, i < k → W i = W2 i) (hM9 : n - k = M9), Wx E G 0 0 15 [(2, .int (zI kz)), (0, .ref a), (1, .ref b)] [] μ := by
      intro M9
      induction M9 using Nat.strongRecOn with
      | ind M9 ih15 =>
        intro k kz hkz hk hs9 hM9
        subst hkz
        refine x_iload_n C dX5_isSameAs_15 rfl 0 rfl ?_
        refine x_aload_n C dX5_isSameAs_16 rfl 1 rfl ?_
        refine x_get (ci := 6) (Cn := RX5) (T := TX5) (N := 2) (ref := "CairnCipher$Text") C dX5_isSameAs_17 in_X5 rfl hO 1 (by decide) (by decide +kernel) rfl rfl ?_
        refine z_icmp_ge (tgt := 44) C dX5_isSameAs_20 (by decide) (rg_of (by omega) (by omega)) (rg_of (by omega) (by omega)) (fun c_2 => ?_) (fun c_2 => ?_)
        · refine z_iconst C dX5_isSameAs_44 ?_
          exact x_zret C R dX5_isSameAs_45 (nar_z (by omega)) (Nat.le_of_ble_eq_true rfl) (Nat.le_of_ble_eq_true rfl) (⟨_, rfl, Or.inl ⟨rfl, by omega, fun i hi => hs9 i (by omega)⟩, rfl⟩)
        · refine x_aload_n C dX5_isSameAs_23 rfl 1 rfl ?_
          refine x_iload_n C dX5_isSameAs_24 rfl 0 rfl ?_
          refine x_callV (n := 1) (ci := 6) (Cn := RX5) (T := TX5) (N := 2) (cc9 := 0) (ss9 := 0) (rest := []) C dX5_isSameAs_25 (c_X5_letterAt (kxL E) C.st G z μ _ _ _ _ (k : Int) hT8 (by omega)) gX5_isSameAs_X5_letterAt rfl (by decide +kernel) ⟨(Nat.le_of_ble_eq_true rfl), (Nat.le_of_ble_eq_true rfl)⟩ rfl ⟨_, _, hO⟩ rfl rfl (Nat.le_of_ble_eq_true rfl) rfl rfl ⟨(Nat.le_of_ble_eq_true rfl), (Nat.le_of_ble_eq_true rfl)⟩ nX_no (fun v3 μ4 hv5 => ?_)
          obtain ⟨r6, hw9, h7, hm8⟩ := hv5
          subst hw9
          rw [hm8]
          have hw6 := h7.1 (by omega)
          rw [Int.toNat_natCast] at hw6
          have hw7 := hW k (by omega)
          refine x_stk (stk' := [.int (zI r6)]) rfl ?_
          refine x_aload_n C dX5_isSameAs_28 rfl 2 rfl ?_
          refine x_iload_n C dX5_isSameAs_29 rfl 0 rfl ?_
          refine x_callV (n := 1) (ci := 6) (Cn := RX5) (T := TX5) (N := 2) (cc9 := 0) (ss9 := 0) (rest := [.int (zI r6)]) C dX5_isSameAs_30 (c_X5_letterAt (kxL E) C.st G z μ _ _ _ _ (k : Int) hT7 (by omega)) gX5_isSameAs_X5_letterAt rfl (by decide +kernel) ⟨(Nat.le_of_ble_eq_true rfl), (Nat.le_of_ble_eq_true rfl)⟩ rfl ⟨_, _, hO2⟩ rfl rfl (Nat.le_of_ble_eq_true rfl) rfl rfl ⟨(Nat.le_of_ble_eq_true rfl), (Nat.le_of_ble_eq_true rfl)⟩ nX_no (fun v10 μ11 hv12 => ?_)
          obtain ⟨r13, hw16, h14, hm15⟩ := hv12
          subst hw16
          rw [hm15]
          have hw5 := h14.1 (by omega)
          rw [Int.toNat_natCast] at hw5
          have hw4 := hW2 k (by omega)
          refine x_stk (stk' := [.int (zI r13), .int (zI r6)]) rfl ?_
          refine z_icmp_eq (tgt := 38) C dX5_isSameAs_33 (by decide) (rg_of (by omega) (by omega)) (rg_of (by omega) (by omega)) (fun c_17 => ?_) (fun c_17 => ?_)
          · refine z_iinc (lv' := [(2, .int (zI ((k : Int) + 1))), (0, .ref a), (1, .ref b)]) C dX5_isSameAs_38 0 rfl rfl (by decide) rfl ?_
            refine x_goto (tgt := 15) C dX5_isSameAs_41 (by decide) ?_
            exact ih15 _ (by omega) (k + 1) _ (by omega) (by omega) (fun i hi => (Nat.lt_or_ge i k).elim (hs9 i) (fun q => by rw [show i = k by omega]; omega)) rfl
          · refine z_iconst C dX5_isSameAs_36 ?_
            exact x_zret C R dX5_isSameAs_37 (nar_z (by omega)) (Nat.le_of_ble_eq_true rfl) (Nat.le_of_ble_eq_true rfl) (⟨_, rfl, Or.inr ⟨rfl, fun q => absurd (q.2 k (by omega)) (by omega)⟩, rfl⟩)
    exact L15 _ (0) _ (by omega) (by omega) (fun i hi => absurd hi (Nat.not_lt_zero i)) rfl
  · refine z_iconst C dX5_isSameAs_11 ?_
    exact x_zret C R dX5_isSameAs_12 (nar_z (by omega)) (Nat.le_of_ble_eq_true rfl) (Nat.le_of_ble_eq_true rfl) (⟨_, rfl, Or.inr ⟨rfl, fun q => absurd q.1 (by omega)⟩, rfl⟩)
abbrev rm_X5_copy : Room := { frames := 2, cells := 2, slots := 7, locals := 40 }
set_option maxHeartbeats 4000000 in
set_option maxRecDepth 100000 in
theorem c_X5_copy (l : Launch) (hst : l.stackTraces = false) (G : GG) (z : Nat) (μ : Mm) (a r n : Nat) (W : Nat → Int) (r2 : Nat) (hT9 : TextR G μ a r n W) (hr2 : r2 + 2 ≤ r ∨ r + 2 ≤ r2) : Ct l yX5_copy wsX5_copy rm_X5_copy G z [.ref a] μ (rA (fun a' μ' => (∃ W', TextR G μ' a' r2 n W' ∧ ∀ i, i < n → W' i = W i) ∧ Fr r2 (r2 + 2) μ μ')) (nX) := by
  refine ct_of (cc := cX5_copy) (maxL := 3) (ret := (some (.object "CairnCipher$Text"))) (own := RX5) (by decide) rfl rfl hst (Nat.le_of_ble_eq_true rfl) ?_
  intro E hLl hnm C R hT
  have in_X5 : ∀ w ∈ u_ws RX5 TX5 2, w ∈ wsX5_copy := by decide +kernel
  have hT8 := hT9
  obtain ⟨f, hO, hA, hn, hW⟩ := hT9
  have hFr : Fr r2 (r2 + 2) μ μ := Fr.rf
  refine x_eq (lv' := [(0, .ref a)]) rfl rfl ?_
  refine z_new (ci := 6) (Cn := RX5) (T := TX5) (N := 2) (cc9 := 1) (ss9 := 2) (fs := [.null, .int (zI 0)]) C r2 dX5_copy_0 in_X5 rfl tyX5 tyX5_ok (by decide +kernel) (by decide +kernel) (by decide +kernel) (fun j hj => by rcases (show j = 0 ∨ j = 1 by omega) with rfl | rfl <;> rfl) rfl rfl (Nat.le_of_ble_eq_true rfl) (Nat.le_of_ble_eq_true rfl) (fun a1 μ2 hq3 hO4 hF5 => ?_)
  have hF6 : Fr 0 0 μ μ2 := hF5 _ _
  have hO := (hF5 0 0).ob hO (Or.inr (Nat.zero_le _))
  have hT8 : TextR G μ2 a r n W := (hF5 0 0).text hT8
  have hFr : Fr r2 (r2 + 2) μ μ2 := hFr.tr (hF5 r2 (r2 + 2))
  refine x_dup C dX5_copy_3 rfl ?_
  refine x_callI (n := 0) (cc9 := 2) (ss9 := 7) (rest := [.ref a1]) C dX5_copy_4 (c_X5_init (kxL E) C.st G z μ2 a1 r2 hO4) gX5_copy_X5_init rfl (by decide +kernel) (by decide +kernel) (by decide +kernel) rfl (by decide +kernel) ⟨(Nat.le_of_ble_eq_true rfl), (Nat.le_of_ble_eq_true rfl)⟩ rfl rfl (Nat.le_of_ble_eq_true rfl) rfl rfl ⟨(Nat.le_of_ble_eq_true rfl), (Nat.le_of_ble_eq_true rfl)⟩ nX_no (fun v7 μ8 hv9 => ?_)
  obtain ⟨hw13, h11⟩ := hv9
  subst hw13
  obtain ⟨hN9, hF9⟩ := h11
  have hF14 := hF9
  have hO := hF14.ob hO
  have hT8 : TextR G μ8 a r n W := hF14.text hT8
  have hFr : Fr r2 (r2 + 2) μ μ8 := hFr.tr hF14
  refine x_stk (stk' := [.ref a1]) rfl ?_
  refine x_astore_n (lv' := [(1, .ref a1), (0, .ref a)]) C dX5_copy_7 rfl (by decide) rfl ?_
  refine z_iconst C dX5_copy_8 ?_
  refine x_istore_n (lv' := [(2, .int (zI 0)), (1, .ref a1), (0, .ref a)]) C dX5_copy_9 rfl (by decide) rfl ?_
  have L10 : ∀ (M9 : Nat) (μk : Mm) (k : Nat) (kz : Int) (hkz : kz = (k : Int)) (Wk : Nat → Int) (hO : OB μk a r 6 [.ref f, .int (zI (n : Int))]) (hT8 : TextR G μk a r n W) (hN9 : TextR G μk a1 r2 k Wk) (hFr : Fr r2 (r2 + 2) μ μk) (hk : k ≤ n) (hs9 : ∀ i, i < k → Wk i = W i) (hM9 : n - k = M9), Wx E G 2 7 10 [(2, .int (zI kz)), (1, .ref a1), (0, .ref a)] [] μk := by
    intro M9
    induction M9 using Nat.strongRecOn with
    | ind M9 ih10 =>
      intro μk k kz hkz Wk hO hT8 hN9 hFr hk hs9 hM9
      subst hkz
      refine x_iload_n C dX5_copy_10 rfl 0 rfl ?_
      refine x_aload_n C dX5_copy_11 rfl 2 rfl ?_
      refine x_get (ci := 6) (Cn := RX5) (T := TX5) (N := 2) (ref := "CairnCipher$Text") C dX5_copy_12 in_X5 rfl hO 1 (by decide) (by decide +kernel) rfl rfl ?_
      refine z_icmp_ge (tgt := 33) C dX5_copy_15 (by decide) (rg_of (by omega) (by omega)) (rg_of (by omega) (by omega)) (fun c_15 => ?_) (fun c_15 => ?_)
      · refine x_aload_n C dX5_copy_33 rfl 1 rfl ?_
        exact x_aret C R dX5_copy_34 (by first | exact Or.inl ⟨_, rfl⟩ | exact Or.inr ⟨_, rfl⟩) (Nat.le_of_ble_eq_true rfl) (Nat.le_of_ble_eq_true rfl) (⟨_, rfl, ⟨Wk, by (obtain rfl : k = n := (by omega); exact hN9), fun i hi => hs9 i (by omega)⟩, hFr⟩)
      · refine x_aload_n C dX5_copy_18 rfl 1 rfl ?_
        refine x_aload_n C dX5_copy_19 rfl 2 rfl ?_
        refine x_iload_n C dX5_copy_20 rfl 0 rfl ?_
        refine x_callV (n := 1) (ci := 6) (Cn := RX5) (T := TX5) (N := 2) (cc9 := 2) (ss9 := 7) (rest := [.ref a1]) C dX5_copy_21 (c_X5_letterAt (kxL E) C.st G z μk _ _ _ _ (k : Int) hT8 (by omega)) gX5_copy_X5_letterAt rfl (by decide +kernel) ⟨(Nat.le_of_ble_eq_true rfl), (Nat.le_of_ble_eq_true rfl)⟩ rfl ⟨_, _, hO⟩ rfl rfl (Nat.le_of_ble_eq_true rfl) rfl rfl ⟨(Nat.le_of_ble_eq_true rfl), (Nat.le_of_ble_eq_true rfl)⟩ nX_no (fun v16 μ17 hv18 => ?_)
        obtain ⟨r19, hw22, h20, hm21⟩ := hv18
        subst hw22
        rw [hm21]
        have hw6 := h20.1 (by omega)
        rw [Int.toNat_natCast] at hw6
        have hw7 := hW k (by omega)
        refine x_stk (stk' := [.int (zI r19), .ref a1]) rfl ?_
        refine x_callV (n := 1) (ci := 6) (Cn := RX5) (T := TX5) (N := 2) (cc9 := 2) (ss9 := 7) (rest := []) C dX5_copy_24 (c_X5_append (kxL E) C.st G z μk _ _ _ _ r19 hN9 (by omega) (by omega)) gX5_copy_X5_append rfl (by decide +kernel) ⟨(Nat.le_of_ble_eq_true rfl), (Nat.le_of_ble_eq_true rfl)⟩ rfl hN9.ob rfl rfl (Nat.le_of_ble_eq_true rfl) rfl rfl ⟨(Nat.le_of_ble_eq_true rfl), (Nat.le_of_ble_eq_true rfl)⟩ nX_no (fun v23 μ24 hv25 => ?_)
        obtain ⟨hw29, h27⟩ := hv25
        subst hw29
        obtain ⟨hN9, hF9⟩ := h27
        have hF30 := hF9
        have hO := hF30.ob hO
        have hT8 : TextR G μ24 a r n W := hF30.text hT8
        have hFr : Fr r2 (r2 + 2) μ μ24 := hFr.tr hF30
        refine x_stk (stk' := []) rfl ?_
        refine z_iinc (lv' := [(2, .int (zI ((k : Int) + 1))), (1, .ref a1), (0, .ref a)]) C dX5_copy_27 0 rfl rfl (by decide) rfl ?_
        refine x_goto (tgt := 10) C dX5_copy_30 (by decide) ?_
        exact ih10 _ (by omega) _ (k + 1) _ (by omega) _ hO hT8 hN9 hFr (by omega) (fun i hi => (Nat.lt_or_ge i k).elim (fun q => by rw [wr_ne (by omega)]; exact hs9 i q) (fun q => by rw [show i = k by omega, wr_at]; omega)) rfl
  exact L10 _ _ (0) _ (by omega) _ hO hT8 hN9 hFr (by omega) (fun i hi => absurd hi (Nat.not_lt_zero i)) rfl
