abbrev rm_X9_in : Room := { frames := 0, cells := 0, slots := 0, locals := 0 }
set_option maxHeartbeats 4000000 in
set_option maxRecDepth 100000 in
theorem c_X9_in (l : Launch) (hst : l.stackTraces = false) (G : GG) (z : Nat) (μ : Mm) (k lo9 hi9 : Int) (hk : -2147483648 ≤ k ∧ k < 2147483648) (hl : -2147483648 ≤ lo9 ∧ lo9 < 2147483648) (hu : -2147483648 ≤ hi9 ∧ hi9 < 2147483648) : Ct l yX9_in wsX9_in rm_X9_in G z [.int (zI k), .int (zI lo9), .int (zI hi9)] μ (rP μ (fun r => (r = 1 ∧ lo9 ≤ k ∧ k ≤ hi9) ∨ (r = 0 ∧ ¬ (lo9 ≤ k ∧ k ≤ hi9)))) (nX) := by
  refine ct_of (cc := cX9_in) (maxL := 3) (ret := (some .boolean)) (own := RX9) (by decide) rfl rfl hst (Nat.le_of_ble_eq_true rfl) ?_
  intro E hLl hnm C R hT
  refine x_eq (lv' := [(0, .int (zI k)), (1, .int (zI lo9)), (2, .int (zI hi9))]) rfl rfl ?_
  refine x_iload_n C dX9_in_0 rfl 0 rfl ?_
  refine x_iload_n C dX9_in_1 rfl 1 rfl ?_
  refine z_icmp_lt (tgt := 14) C dX9_in_2 (by decide) (rg_of (by omega) (by omega)) (rg_of (by omega) (by omega)) (fun c_1 => ?_) (fun c_1 => ?_)
  · refine z_iconst C dX9_in_14 ?_
    exact x_zret C R dX9_in_15 (nar_z (by omega)) (Nat.le_of_ble_eq_true rfl) (Nat.le_of_ble_eq_true rfl) (⟨_, rfl, by omega, rfl⟩)
  · refine x_iload_n C dX9_in_5 rfl 0 rfl ?_
    refine x_iload_n C dX9_in_6 rfl 2 rfl ?_
    refine z_icmp_gt (tgt := 14) C dX9_in_7 (by decide) (rg_of (by omega) (by omega)) (rg_of (by omega) (by omega)) (fun c_2 => ?_) (fun c_2 => ?_)
    · refine z_iconst C dX9_in_14 ?_
      exact x_zret C R dX9_in_15 (nar_z (by omega)) (Nat.le_of_ble_eq_true rfl) (Nat.le_of_ble_eq_true rfl) (⟨_, rfl, by omega, rfl⟩)
    · refine z_iconst C dX9_in_10 ?_
      refine x_goto (tgt := 15) C dX9_in_11 (by decide) ?_
      exact x_zret C R dX9_in_15 (nar_z (by omega)) (Nat.le_of_ble_eq_true rfl) (Nat.le_of_ble_eq_true rfl) (⟨_, rfl, by omega, rfl⟩)
abbrev rm_X9_isPlace : Room := { frames := 1, cells := 0, slots := 0, locals := 22 }
set_option maxHeartbeats 4000000 in
set_option maxRecDepth 100000 in
theorem c_X9_isPlace (l : Launch) (hst : l.stackTraces = false) (G : GG) (z : Nat) (μ : Mm) (p : Int) (hp : -2147483648 ≤ p ∧ p < 2147483648) : Ct l yX9_isPlace wsX9_isPlace rm_X9_isPlace G z [.int (zI p)] μ (rP μ (fun r => (r = 1 ∧ 0 ≤ p ∧ p < 64) ∨ (r = 0 ∧ ¬ (0 ≤ p ∧ p < 64)))) (nX) := by
  refine ct_of (cc := cX9_isPlace) (maxL := 1) (ret := (some .boolean)) (own := RX9) (by decide) rfl rfl hst (Nat.le_of_ble_eq_true rfl) ?_
  intro E hLl hnm C R hT
  refine x_eq (lv' := [(0, .int (zI p))]) rfl rfl ?_
  refine x_iload_n C dX9_isPlace_0 rfl 0 rfl ?_
  refine z_iconst C dX9_isPlace_1 ?_
  refine z_bipush C dX9_isPlace_2 (by decide) ?_
  refine x_callS (n := 3) (cc9 := 0) (ss9 := 0) (rest := []) C dX9_isPlace_4 (c_X9_in (kxL E) C.st G z μ p 0 63 (by omega) (by omega) (by omega)) gX9_isPlace_X9_in rfl (by decide +kernel) ⟨(Nat.le_of_ble_eq_true rfl), (Nat.le_of_ble_eq_true rfl)⟩ rfl rfl (Nat.le_of_ble_eq_true rfl) rfl rfl ⟨(Nat.le_of_ble_eq_true rfl), (Nat.le_of_ble_eq_true rfl)⟩ nX_no (fun v1 μ2 hv3 => ?_)
  obtain ⟨r4, hw7, h5, hm6⟩ := hv3
  subst hw7
  rw [hm6]
  refine x_stk (stk' := [.int (zI r4)]) rfl ?_
  exact x_zret C R dX9_isPlace_7 (nar_z (by omega)) (Nat.le_of_ble_eq_true rfl) (Nat.le_of_ble_eq_true rfl) (⟨_, rfl, by omega, rfl⟩)
abbrev rm_X9_apart : Room := { frames := 0, cells := 0, slots := 0, locals := 0 }
set_option maxHeartbeats 4000000 in
set_option maxRecDepth 100000 in
theorem c_X9_apart (l : Launch) (hst : l.stackTraces = false) (G : GG) (z : Nat) (μ : Mm) (p q : Int) (hp : -100 ≤ p ∧ p ≤ 100) (hq : -100 ≤ q ∧ q ≤ 100) : Ct l yX9_apart wsX9_apart rm_X9_apart G z [.int (zI p), .int (zI q)] μ (rP μ (fun r => r = iabs (p - q))) (nX) := by
  refine ct_of (cc := cX9_apart) (maxL := 2) (ret := (some .int)) (own := RX9) (by decide) rfl rfl hst (Nat.le_of_ble_eq_true rfl) ?_
  intro E hLl hnm C R hT
  refine x_eq (lv' := [(0, .int (zI p)), (1, .int (zI q))]) rfl rfl ?_
  refine x_iload_n C dX9_apart_0 rfl 0 rfl ?_
  refine x_iload_n C dX9_apart_1 rfl 1 rfl ?_
  refine z_icmp_ge (tgt := 11) C dX9_apart_2 (by decide) (rg_of (by omega) (by omega)) (rg_of (by omega) (by omega)) (fun c_1 => ?_) (fun c_1 => ?_)
  · refine x_iload_n C dX9_apart_11 rfl 0 rfl ?_
    refine x_iload_n C dX9_apart_12 rfl 1 rfl ?_
    refine z_isub C dX9_apart_13 rfl ?_
    exact x_iret C R dX9_apart_14 (Nat.le_of_ble_eq_true rfl) (Nat.le_of_ble_eq_true rfl) (⟨_, rfl, by (unfold iabs; split <;> omega), rfl⟩)
  · refine x_iload_n C dX9_apart_5 rfl 1 rfl ?_
    refine x_iload_n C dX9_apart_6 rfl 0 rfl ?_
    refine z_isub C dX9_apart_7 rfl ?_
    refine x_goto (tgt := 14) C dX9_apart_8 (by decide) ?_
    exact x_iret C R dX9_apart_14 (Nat.le_of_ble_eq_true rfl) (Nat.le_of_ble_eq_true rfl) (⟨_, rfl, by (unfold iabs; split <;> omega), rfl⟩)
abbrev rm_X9_distance : Room := { frames := 1, cells := 0, slots := 0, locals := 21 }
set_option maxHeartbeats 4000000 in
set_option maxRecDepth 100000 in
theorem c_X9_distance (l : Launch) (hst : l.stackTraces = false) (G : GG) (z : Nat) (μ : Mm) (p q : Int) (hp : 0 ≤ p ∧ p < 64) (hq : 0 ≤ q ∧ q < 64) : Ct l yX9_distance wsX9_distance rm_X9_distance G z [.int (zI p), .int (zI q)] μ (rP μ (fun r => r = dst p q)) (nX) := by
  refine ct_of (cc := cX9_distance) (maxL := 2) (ret := (some .int)) (own := RX9) (by decide) rfl rfl hst (Nat.le_of_ble_eq_true rfl) ?_
  intro E hLl hnm C R hT
  refine x_eq (lv' := [(0, .int (zI p)), (1, .int (zI q))]) rfl rfl ?_
  refine x_iload_n C dX9_distance_0 rfl 0 rfl ?_
  refine z_bipush C dX9_distance_1 (by decide) ?_
  refine z_idiv C dX9_distance_3 (rg_of (by omega) (by omega)) (by omega) (rg_of (by omega) (by omega)) (by omega) rfl ?_
  refine x_iload_n C dX9_distance_4 rfl 1 rfl ?_
  refine z_bipush C dX9_distance_5 (by decide) ?_
  refine z_idiv C dX9_distance_7 (rg_of (by omega) (by omega)) (by omega) (rg_of (by omega) (by omega)) (by omega) rfl ?_
  refine x_callS (n := 2) (cc9 := 0) (ss9 := 0) (rest := []) C dX9_distance_8 (c_X9_apart (kxL E) C.st G z μ (p / 8) (q / 8) (by omega) (by omega)) gX9_distance_X9_apart rfl (by decide +kernel) ⟨(Nat.le_of_ble_eq_true rfl), (Nat.le_of_ble_eq_true rfl)⟩ rfl rfl (Nat.le_of_ble_eq_true rfl) rfl rfl ⟨(Nat.le_of_ble_eq_true rfl), (Nat.le_of_ble_eq_true rfl)⟩ nX_no (fun v1 μ2 hv3 => ?_)
  obtain ⟨r4, hw7, h5, hm6⟩ := hv3
  subst hw7
  rw [hm6]
  have hd8 := h5
  have hd7 := iabs_rg (x := p / 8 - q / 8) (n := 7) (by omega)
  refine x_stk (stk' := [.int (zI r4)]) rfl ?_
  refine x_iload_n C dX9_distance_11 rfl 0 rfl ?_
  refine z_bipush C dX9_distance_12 (by decide) ?_
  refine z_irem C dX9_distance_14 (rg_of (by omega) (by omega)) (by omega) (rg_of (by omega) (by omega)) (by omega) rfl ?_
  refine x_iload_n C dX9_distance_15 rfl 1 rfl ?_
  refine z_bipush C dX9_distance_16 (by decide) ?_
  refine z_irem C dX9_distance_18 (rg_of (by omega) (by omega)) (by omega) (rg_of (by omega) (by omega)) (by omega) rfl ?_
  refine x_callS (n := 2) (cc9 := 0) (ss9 := 0) (rest := [.int (zI r4)]) C dX9_distance_19 (c_X9_apart (kxL E) C.st G z μ (p % 8) (q % 8) (by omega) (by omega)) gX9_distance_X9_apart rfl (by decide +kernel) ⟨(Nat.le_of_ble_eq_true rfl), (Nat.le_of_ble_eq_true rfl)⟩ rfl rfl (Nat.le_of_ble_eq_true rfl) rfl rfl ⟨(Nat.le_of_ble_eq_true rfl), (Nat.le_of_ble_eq_true rfl)⟩ nX_no (fun v8 μ9 hv10 => ?_)
  obtain ⟨r11, hw14, h12, hm13⟩ := hv10
  subst hw14
  rw [hm13]
  have hd6 := h12
  have hd5 := iabs_rg (x := p % 8 - q % 8) (n := 7) (by omega)
  refine x_stk (stk' := [.int (zI r11), .int (zI r4)]) rfl ?_
  refine z_iadd C dX9_distance_22 rfl ?_
  exact x_iret C R dX9_distance_23 (Nat.le_of_ble_eq_true rfl) (Nat.le_of_ble_eq_true rfl) (⟨_, rfl, by (unfold dst; rw [hd8, hd6]), rfl⟩)
abbrev rm_X9_neighbour : Room := { frames := 1, cells := 0, slots := 0, locals := 22 }
set_option maxHeartbeats 4000000 in
set_option maxRecDepth 100000 in
theorem c_X9_neighbour (l : Launch) (hst : l.stackTraces = false) (G : GG) (z : Nat) (μ : Mm) (p d : Int) (hp : 0 ≤ p ∧ p < 64) (hd : 0 ≤ d ∧ d < 4) : Ct l yX9_neighbour wsX9_neighbour rm_X9_neighbour G z [.int (zI p), .int (zI d)] μ (rP μ (fun r => r = nbr p d)) (nX) := by
  refine ct_of (cc := cX9_neighbour) (maxL := 4) (ret := (some .int)) (own := RX9) (by decide) rfl rfl hst (Nat.le_of_ble_eq_true rfl) ?_
  intro E hLl hnm C R hT
  refine x_eq (lv' := [(0, .int (zI p)), (1, .int (zI d))]) rfl rfl ?_
  refine x_iload_n C dX9_neighbour_0 rfl 0 rfl ?_
  refine z_bipush C dX9_neighbour_1 (by decide) ?_
  refine z_idiv C dX9_neighbour_3 (rg_of (by omega) (by omega)) (by omega) (rg_of (by omega) (by omega)) (by omega) rfl ?_
  refine x_iload_n C dX9_neighbour_4 rfl 1 rfl ?_
  refine z_if_ne (tgt := 12) C dX9_neighbour_5 (by decide) (rg_of (by omega) (by omega)) (fun c_1 => ?_) (fun c_1 => ?_)
  · refine x_iload_n C dX9_neighbour_12 rfl 1 rfl ?_
    refine z_iconst C dX9_neighbour_13 ?_
    refine z_icmp_ne (tgt := 21) C dX9_neighbour_14 (by decide) (rg_of (by omega) (by omega)) (rg_of (by omega) (by omega)) (fun c_2 => ?_) (fun c_2 => ?_)
    · refine z_iconst C dX9_neighbour_21 ?_
      refine z_iadd C dX9_neighbour_22 rfl ?_
      refine x_istore_n (lv' := [(2, .int (zI ((p / 8) + 0))), (0, .int (zI p)), (1, .int (zI d))]) C dX9_neighbour_23 rfl (by decide) rfl ?_
      refine x_iload_n C dX9_neighbour_24 rfl 1 rfl ?_
      refine z_bipush C dX9_neighbour_25 (by decide) ?_
      refine z_irem C dX9_neighbour_27 (rg_of (by omega) (by omega)) (by omega) (rg_of (by omega) (by omega)) (by omega) rfl ?_
      refine x_iload_n C dX9_neighbour_28 rfl 2 rfl ?_
      refine z_iconst C dX9_neighbour_29 ?_
      refine z_icmp_ne (tgt := 37) C dX9_neighbour_30 (by decide) (rg_of (by omega) (by omega)) (rg_of (by omega) (by omega)) (fun c_3 => ?_) (fun c_3 => ?_)
      · refine x_iload_n C dX9_neighbour_37 rfl 2 rfl ?_
        refine z_iconst C dX9_neighbour_38 ?_
        refine z_icmp_ne (tgt := 46) C dX9_neighbour_39 (by decide) (rg_of (by omega) (by omega)) (rg_of (by omega) (by omega)) (fun c_4 => ?_) (fun c_4 => ?_)
        · refine z_iconst C dX9_neighbour_46 ?_
          refine z_iadd C dX9_neighbour_47 rfl ?_
          refine x_istore_n (lv' := [(3, .int (zI ((p % 8) + 0))), (2, .int (zI ((p / 8) + 0))), (0, .int (zI p)), (1, .int (zI d))]) C dX9_neighbour_48 rfl (by decide) rfl ?_
          refine x_iload_n C dX9_neighbour_49 rfl 1 rfl ?_
          refine z_iconst C dX9_neighbour_50 ?_
          refine z_bipush C dX9_neighbour_51 (by decide) ?_
          refine x_callS (n := 3) (cc9 := 0) (ss9 := 0) (rest := []) C dX9_neighbour_53 (c_X9_in (kxL E) C.st G z μ ((p / 8) + 0) 0 7 (by omega) (by omega) (by omega)) gX9_neighbour_X9_in rfl (by decide +kernel) ⟨(Nat.le_of_ble_eq_true rfl), (Nat.le_of_ble_eq_true rfl)⟩ rfl rfl (Nat.le_of_ble_eq_true rfl) rfl rfl ⟨(Nat.le_of_ble_eq_true rfl), (Nat.le_of_ble_eq_true rfl)⟩ nX_no (fun v5 μ6 hv7 => ?_)
          obtain ⟨r8, hw11, h9, hm10⟩ := hv7
          subst hw11
          rw [hm10]
          refine x_stk (stk' := [.int (zI r8)]) rfl ?_
          refine z_if_eq (tgt := 78) C dX9_neighbour_56 (by decide) (rg_of (by omega) (by omega)) (fun c_12 => ?_) (fun c_12 => ?_)
          · refine z_iconst C dX9_neighbour_78 ?_
            exact x_iret C R dX9_neighbour_79 (Nat.le_of_ble_eq_true rfl) (Nat.le_of_ble_eq_true rfl) (⟨_, rfl, by (unfold nbr; (repeat split) <;> omega), rfl⟩)
          · refine x_iload_n C dX9_neighbour_59 rfl 0 rfl ?_
            refine z_iconst C dX9_neighbour_60 ?_
            refine z_bipush C dX9_neighbour_61 (by decide) ?_
            refine x_callS (n := 3) (cc9 := 0) (ss9 := 0) (rest := []) C dX9_neighbour_63 (c_X9_in (kxL E) C.st G z μ ((p % 8) + 0) 0 7 (by omega) (by omega) (by omega)) gX9_neighbour_X9_in rfl (by decide +kernel) ⟨(Nat.le_of_ble_eq_true rfl), (Nat.le_of_ble_eq_true rfl)⟩ rfl rfl (Nat.le_of_ble_eq_true rfl) rfl rfl ⟨(Nat.le_of_ble_eq_true rfl), (Nat.le_of_ble_eq_true rfl)⟩ nX_no (fun v13 μ14 hv15 => ?_)
            obtain ⟨r16, hw19, h17, hm18⟩ := hv15
            subst hw19
            rw [hm18]
            refine x_stk (stk' := [.int (zI r16)]) rfl ?_
            refine z_if_eq (tgt := 78) C dX9_neighbour_66 (by decide) (rg_of (by omega) (by omega)) (fun c_20 => ?_) (fun c_20 => ?_)
            · refine z_iconst C dX9_neighbour_78 ?_
              exact x_iret C R dX9_neighbour_79 (Nat.le_of_ble_eq_true rfl) (Nat.le_of_ble_eq_true rfl) (⟨_, rfl, by (unfold nbr; (repeat split) <;> omega), rfl⟩)
            · refine z_bipush C dX9_neighbour_69 (by decide) ?_
              refine x_iload_n C dX9_neighbour_71 rfl 1 rfl ?_
              refine z_imul C dX9_neighbour_72 rfl ?_
              refine x_iload_n C dX9_neighbour_73 rfl 0 rfl ?_
              refine z_iadd C dX9_neighbour_74 rfl ?_
              refine x_goto (tgt := 79) C dX9_neighbour_75 (by decide) ?_
              exact x_iret C R dX9_neighbour_79 (Nat.le_of_ble_eq_true rfl) (Nat.le_of_ble_eq_true rfl) (⟨_, rfl, by (unfold nbr; (repeat split) <;> omega), rfl⟩)
        · refine z_iconst C dX9_neighbour_42 ?_
          refine x_goto (tgt := 47) C dX9_neighbour_43 (by decide) ?_
          refine z_iadd C dX9_neighbour_47 rfl ?_
          refine x_istore_n (lv' := [(3, .int (zI ((p % 8) + 1))), (2, .int (zI ((p / 8) + 0))), (0, .int (zI p)), (1, .int (zI d))]) C dX9_neighbour_48 rfl (by decide) rfl ?_
          refine x_iload_n C dX9_neighbour_49 rfl 1 rfl ?_
          refine z_iconst C dX9_neighbour_50 ?_
          refine z_bipush C dX9_neighbour_51 (by decide) ?_
          refine x_callS (n := 3) (cc9 := 0) (ss9 := 0) (rest := []) C dX9_neighbour_53 (c_X9_in (kxL E) C.st G z μ ((p / 8) + 0) 0 7 (by omega) (by omega) (by omega)) gX9_neighbour_X9_in rfl (by decide +kernel) ⟨(Nat.le_of_ble_eq_true rfl), (Nat.le_of_ble_eq_true rfl)⟩ rfl rfl (Nat.le_of_ble_eq_true rfl) rfl rfl ⟨(Nat.le_of_ble_eq_true rfl), (Nat.le_of_ble_eq_true rfl)⟩ nX_no (fun v21 μ22 hv23 => ?_)
          obtain ⟨r24, hw27, h25, hm26⟩ := hv23
          subst hw27
          rw [hm26]
          refine x_stk (stk' := [.int (zI r24)]) rfl ?_
          refine z_if_eq (tgt := 78) C dX9_neighbour_56 (by decide) (rg_of (by omega) (by omega)) (fun c_28 => ?_) (fun c_28 => ?_)
          · refine z_iconst C dX9_neighbour_78 ?_
            exact x_iret C R dX9_neighbour_79 (Nat.le_of_ble_eq_true rfl) (Nat.le_of_ble_eq_true rfl) (⟨_, rfl, by (unfold nbr; (repeat split) <;> omega), rfl⟩)
          · refine x_iload_n C dX9_neighbour_59 rfl 0 rfl ?_
            refine z_iconst C dX9_neighbour_60 ?_
            refine z_bipush C dX9_neighbour_61 (by decide) ?_
            refine x_callS (n := 3) (cc9 := 0) (ss9 := 0) (rest := []) C dX9_neighbour_63 (c_X9_in (kxL E) C.st G z μ ((p % 8) + 1) 0 7 (by omega) (by omega) (by omega)) gX9_neighbour_X9_in rfl (by decide +kernel) ⟨(Nat.le_of_ble_eq_true rfl), (Nat.le_of_ble_eq_true rfl)⟩ rfl rfl (Nat.le_of_ble_eq_true rfl) rfl rfl ⟨(Nat.le_of_ble_eq_true rfl), (Nat.le_of_ble_eq_true rfl)⟩ nX_no (fun v29 μ30 hv31 => ?_)
            obtain ⟨r32, hw35, h33, hm34⟩ := hv31
            subst hw35
            rw [hm34]
            refine x_stk (stk' := [.int (zI r32)]) rfl ?_
            refine z_if_eq (tgt := 78) C dX9_neighbour_66 (by decide) (rg_of (by omega) (by omega)) (fun c_36 => ?_) (fun c_36 => ?_)
            · refine z_iconst C dX9_neighbour_78 ?_
              exact x_iret C R dX9_neighbour_79 (Nat.le_of_ble_eq_true rfl) (Nat.le_of_ble_eq_true rfl) (⟨_, rfl, by (unfold nbr; (repeat split) <;> omega), rfl⟩)
            · refine z_bipush C dX9_neighbour_69 (by decide) ?_
              refine x_iload_n C dX9_neighbour_71 rfl 1 rfl ?_
              refine z_imul C dX9_neighbour_72 rfl ?_
              refine x_iload_n C dX9_neighbour_73 rfl 0 rfl ?_
              refine z_iadd C dX9_neighbour_74 rfl ?_
              refine x_goto (tgt := 79) C dX9_neighbour_75 (by decide) ?_
              exact x_iret C R dX9_neighbour_79 (Nat.le_of_ble_eq_true rfl) (Nat.le_of_ble_eq_true rfl) (⟨_, rfl, by (unfold nbr; (repeat split) <;> omega), rfl⟩)
      · refine z_iconst C dX9_neighbour_33 ?_
        refine x_goto (tgt := 47) C dX9_neighbour_34 (by decide) ?_
        refine z_iadd C dX9_neighbour_47 rfl ?_
        refine x_istore_n (lv' := [(3, .int (zI ((p % 8) + (-1)))), (2, .int (zI ((p / 8) + 0))), (0, .int (zI p)), (1, .int (zI d))]) C dX9_neighbour_48 rfl (by decide) rfl ?_
        refine x_iload_n C dX9_neighbour_49 rfl 1 rfl ?_
        refine z_iconst C dX9_neighbour_50 ?_
        refine z_bipush C dX9_neighbour_51 (by decide) ?_
        refine x_callS (n := 3) (cc9 := 0) (ss9 := 0) (rest := []) C dX9_neighbour_53 (c_X9_in (kxL E) C.st G z μ ((p / 8) + 0) 0 7 (by omega) (by omega) (by omega)) gX9_neighbour_X9_in rfl (by decide +kernel) ⟨(Nat.le_of_ble_eq_true rfl), (Nat.le_of_ble_eq_true rfl)⟩ rfl rfl (Nat.le_of_ble_eq_true rfl) rfl rfl ⟨(Nat.le_of_ble_eq_true rfl), (Nat.le_of_ble_eq_true rfl)⟩ nX_no (fun v37 μ38 hv39 => ?_)
        obtain ⟨r40, hw43, h41, hm42⟩ := hv39
        subst hw43
        rw [hm42]
        refine x_stk (stk' := [.int (zI r40)]) rfl ?_
        refine z_if_eq (tgt := 78) C dX9_neighbour_56 (by decide) (rg_of (by omega) (by omega)) (fun c_44 => ?_) (fun c_44 => ?_)
        · refine z_iconst C dX9_neighbour_78 ?_
          exact x_iret C R dX9_neighbour_79 (Nat.le_of_ble_eq_true rfl) (Nat.le_of_ble_eq_true rfl) (⟨_, rfl, by (unfold nbr; (repeat split) <;> omega), rfl⟩)
        · refine x_iload_n C dX9_neighbour_59 rfl 0 rfl ?_
          refine z_iconst C dX9_neighbour_60 ?_
          refine z_bipush C dX9_neighbour_61 (by decide) ?_
          refine x_callS (n := 3) (cc9 := 0) (ss9 := 0) (rest := []) C dX9_neighbour_63 (c_X9_in (kxL E) C.st G z μ ((p % 8) + (-1)) 0 7 (by omega) (by omega) (by omega)) gX9_neighbour_X9_in rfl (by decide +kernel) ⟨(Nat.le_of_ble_eq_true rfl), (Nat.le_of_ble_eq_true rfl)⟩ rfl rfl (Nat.le_of_ble_eq_true rfl) rfl rfl ⟨(Nat.le_of_ble_eq_true rfl), (Nat.le_of_ble_eq_true rfl)⟩ nX_no (fun v45 μ46 hv47 => ?_)
          obtain ⟨r48, hw51, h49, hm50⟩ := hv47
          subst hw51
          rw [hm50]
          refine x_stk (stk' := [.int (zI r48)]) rfl ?_
          refine z_if_eq (tgt := 78) C dX9_neighbour_66 (by decide) (rg_of (by omega) (by omega)) (fun c_52 => ?_) (fun c_52 => ?_)
          · refine z_iconst C dX9_neighbour_78 ?_
            exact x_iret C R dX9_neighbour_79 (Nat.le_of_ble_eq_true rfl) (Nat.le_of_ble_eq_true rfl) (⟨_, rfl, by (unfold nbr; (repeat split) <;> omega), rfl⟩)
          · refine z_bipush C dX9_neighbour_69 (by decide) ?_
            refine x_iload_n C dX9_neighbour_71 rfl 1 rfl ?_
            refine z_imul C dX9_neighbour_72 rfl ?_
            refine x_iload_n C dX9_neighbour_73 rfl 0 rfl ?_
            refine z_iadd C dX9_neighbour_74 rfl ?_
            refine x_goto (tgt := 79) C dX9_neighbour_75 (by decide) ?_
            exact x_iret C R dX9_neighbour_79 (Nat.le_of_ble_eq_true rfl) (Nat.le_of_ble_eq_true rfl) (⟨_, rfl, by (unfold nbr; (repeat split) <;> omega), rfl⟩)
    · refine z_iconst C dX9_neighbour_17 ?_
      refine x_goto (tgt := 22) C dX9_neighbour_18 (by decide) ?_
      refine z_iadd C dX9_neighbour_22 rfl ?_
      refine x_istore_n (lv' := [(2, .int (zI ((p / 8) + 1))), (0, .int (zI p)), (1, .int (zI d))]) C dX9_neighbour_23 rfl (by decide) rfl ?_
      refine x_iload_n C dX9_neighbour_24 rfl 1 rfl ?_
      refine z_bipush C dX9_neighbour_25 (by decide) ?_
      refine z_irem C dX9_neighbour_27 (rg_of (by omega) (by omega)) (by omega) (rg_of (by omega) (by omega)) (by omega) rfl ?_
      refine x_iload_n C dX9_neighbour_28 rfl 2 rfl ?_
      refine z_iconst C dX9_neighbour_29 ?_
      refine z_icmp_ne (tgt := 37) C dX9_neighbour_30 (by decide) (rg_of (by omega) (by omega)) (rg_of (by omega) (by omega)) (fun c_53 => ?_) (fun c_53 => ?_)
      · refine x_iload_n C dX9_neighbour_37 rfl 2 rfl ?_
        refine z_iconst C dX9_neighbour_38 ?_
        refine z_icmp_ne (tgt := 46) C dX9_neighbour_39 (by decide) (rg_of (by omega) (by omega)) (rg_of (by omega) (by omega)) (fun c_54 => ?_) (fun c_54 => ?_)
        · refine z_iconst C dX9_neighbour_46 ?_
          refine z_iadd C dX9_neighbour_47 rfl ?_
          refine x_istore_n (lv' := [(3, .int (zI ((p % 8) + 0))), (2, .int (zI ((p / 8) + 1))), (0, .int (zI p)), (1, .int (zI d))]) C dX9_neighbour_48 rfl (by decide) rfl ?_
          refine x_iload_n C dX9_neighbour_49 rfl 1 rfl ?_
          refine z_iconst C dX9_neighbour_50 ?_
          refine z_bipush C dX9_neighbour_51 (by decide) ?_
          refine x_callS (n := 3) (cc9 := 0) (ss9 := 0) (rest := []) C dX9_neighbour_53 (c_X9_in (kxL E) C.st G z μ ((p / 8) + 1) 0 7 (by omega) (by omega) (by omega)) gX9_neighbour_X9_in rfl (by decide +kernel) ⟨(Nat.le_of_ble_eq_true rfl), (Nat.le_of_ble_eq_true rfl)⟩ rfl rfl (Nat.le_of_ble_eq_true rfl) rfl rfl ⟨(Nat.le_of_ble_eq_true rfl), (Nat.le_of_ble_eq_true rfl)⟩ nX_no (fun v55 μ56 hv57 => ?_)
          obtain ⟨r58, hw61, h59, hm60⟩ := hv57
          subst hw61
          rw [hm60]
          refine x_stk (stk' := [.int (zI r58)]) rfl ?_
          refine z_if_eq (tgt := 78) C dX9_neighbour_56 (by decide) (rg_of (by omega) (by omega)) (fun c_62 => ?_) (fun c_62 => ?_)
          · refine z_iconst C dX9_neighbour_78 ?_
            exact x_iret C R dX9_neighbour_79 (Nat.le_of_ble_eq_true rfl) (Nat.le_of_ble_eq_true rfl) (⟨_, rfl, by (unfold nbr; (repeat split) <;> omega), rfl⟩)
          · refine x_iload_n C dX9_neighbour_59 rfl 0 rfl ?_
            refine z_iconst C dX9_neighbour_60 ?_
            refine z_bipush C dX9_neighbour_61 (by decide) ?_
            refine x_callS (n := 3) (cc9 := 0) (ss9 := 0) (rest := []) C dX9_neighbour_63 (c_X9_in (kxL E) C.st G z μ ((p % 8) + 0) 0 7 (by omega) (by omega) (by omega)) gX9_neighbour_X9_in rfl (by decide +kernel) ⟨(Nat.le_of_ble_eq_true rfl), (Nat.le_of_ble_eq_true rfl)⟩ rfl rfl (Nat.le_of_ble_eq_true rfl) rfl rfl ⟨(Nat.le_of_ble_eq_true rfl), (Nat.le_of_ble_eq_true rfl)⟩ nX_no (fun v63 μ64 hv65 => ?_)
            obtain ⟨r66, hw69, h67, hm68⟩ := hv65
            subst hw69
            rw [hm68]
            refine x_stk (stk' := [.int (zI r66)]) rfl ?_
            refine z_if_eq (tgt := 78) C dX9_neighbour_66 (by decide) (rg_of (by omega) (by omega)) (fun c_70 => ?_) (fun c_70 => ?_)
            · refine z_iconst C dX9_neighbour_78 ?_
              exact x_iret C R dX9_neighbour_79 (Nat.le_of_ble_eq_true rfl) (Nat.le_of_ble_eq_true rfl) (⟨_, rfl, by (unfold nbr; (repeat split) <;> omega), rfl⟩)
            · refine z_bipush C dX9_neighbour_69 (by decide) ?_
              refine x_iload_n C dX9_neighbour_71 rfl 1 rfl ?_
              refine z_imul C dX9_neighbour_72 rfl ?_
              refine x_iload_n C dX9_neighbour_73 rfl 0 rfl ?_
              refine z_iadd C dX9_neighbour_74 rfl ?_
              refine x_goto (tgt := 79) C dX9_neighbour_75 (by decide) ?_
              exact x_iret C R dX9_neighbour_79 (Nat.le_of_ble_eq_true rfl) (Nat.le_of_ble_eq_true rfl) (⟨_, rfl, by (unfold nbr; (repeat split) <;> omega), rfl⟩)
        · refine z_iconst C dX9_neighbour_42 ?_
          refine x_goto (tgt := 47) C dX9_neighbour_43 (by decide) ?_
          refine z_iadd C dX9_neighbour_47 rfl ?_
          refine x_istore_n (lv' := [(3, .int (zI ((p % 8) + 1))), (2, .int (zI ((p / 8) + 1))), (0, .int (zI p)), (1, .int (zI d))]) C dX9_neighbour_48 rfl (by decide) rfl ?_
          refine x_iload_n C dX9_neighbour_49 rfl 1 rfl ?_
          refine z_iconst C dX9_neighbour_50 ?_
          refine z_bipush C dX9_neighbour_51 (by decide) ?_
          refine x_callS (n := 3) (cc9 := 0) (ss9 := 0) (rest := []) C dX9_neighbour_53 (c_X9_in (kxL E) C.st G z μ ((p / 8) + 1) 0 7 (by omega) (by omega) (by omega)) gX9_neighbour_X9_in rfl (by decide +kernel) ⟨(Nat.le_of_ble_eq_true rfl), (Nat.le_of_ble_eq_true rfl)⟩ rfl rfl (Nat.le_of_ble_eq_true rfl) rfl rfl ⟨(Nat.le_of_ble_eq_true rfl), (Nat.le_of_ble_eq_true rfl)⟩ nX_no (fun v71 μ72 hv73 => ?_)
          obtain ⟨r74, hw77, h75, hm76⟩ := hv73
          subst hw77
          rw [hm76]
          refine x_stk (stk' := [.int (zI r74)]) rfl ?_
          refine z_if_eq (tgt := 78) C dX9_neighbour_56 (by decide) (rg_of (by omega) (by omega)) (fun c_78 => ?_) (fun c_78 => ?_)
          · refine z_iconst C dX9_neighbour_78 ?_
            exact x_iret C R dX9_neighbour_79 (Nat.le_of_ble_eq_true rfl) (Nat.le_of_ble_eq_true rfl) (⟨_, rfl, by (unfold nbr; (repeat split) <;> omega), rfl⟩)
          · refine x_iload_n C dX9_neighbour_59 rfl 0 rfl ?_
            refine z_iconst C dX9_neighbour_60 ?_
            refine z_bipush C dX9_neighbour_61 (by decide) ?_
            refine x_callS (n := 3) (cc9 := 0) (ss9 := 0) (rest := []) C dX9_neighbour_63 (c_X9_in (kxL E) C.st G z μ ((p % 8) + 1) 0 7 (by omega) (by omega) (by omega)) gX9_neighbour_X9_in rfl (by decide +kernel) ⟨(Nat.le_of_ble_eq_true rfl), (Nat.le_of_ble_eq_true rfl)⟩ rfl rfl (Nat.le_of_ble_eq_true rfl) rfl rfl ⟨(Nat.le_of_ble_eq_true rfl), (Nat.le_of_ble_eq_true rfl)⟩ nX_no (fun v79 μ80 hv81 => ?_)
            obtain ⟨r82, hw85, h83, hm84⟩ := hv81
            subst hw85
            rw [hm84]
            refine x_stk (stk' := [.int (zI r82)]) rfl ?_
            refine z_if_eq (tgt := 78) C dX9_neighbour_66 (by decide) (rg_of (by omega) (by omega)) (fun c_86 => ?_) (fun c_86 => ?_)
            · refine z_iconst C dX9_neighbour_78 ?_
              exact x_iret C R dX9_neighbour_79 (Nat.le_of_ble_eq_true rfl) (Nat.le_of_ble_eq_true rfl) (⟨_, rfl, by (unfold nbr; (repeat split) <;> omega), rfl⟩)
            · refine z_bipush C dX9_neighbour_69 (by decide) ?_
              refine x_iload_n C dX9_neighbour_71 rfl 1 rfl ?_
              refine z_imul C dX9_neighbour_72 rfl ?_
              refine x_iload_n C dX9_neighbour_73 rfl 0 rfl ?_
              refine z_iadd C dX9_neighbour_74 rfl ?_
              refine x_goto (tgt := 79) C dX9_neighbour_75 (by decide) ?_
              exact x_iret C R dX9_neighbour_79 (Nat.le_of_ble_eq_true rfl) (Nat.le_of_ble_eq_true rfl) (⟨_, rfl, by (unfold nbr; (repeat split) <;> omega), rfl⟩)
      · refine z_iconst C dX9_neighbour_33 ?_
        refine x_goto (tgt := 47) C dX9_neighbour_34 (by decide) ?_
        refine z_iadd C dX9_neighbour_47 rfl ?_
        refine x_istore_n (lv' := [(3, .int (zI ((p % 8) + (-1)))), (2, .int (zI ((p / 8) + 1))), (0, .int (zI p)), (1, .int (zI d))]) C dX9_neighbour_48 rfl (by decide) rfl ?_
        refine x_iload_n C dX9_neighbour_49 rfl 1 rfl ?_
        refine z_iconst C dX9_neighbour_50 ?_
        refine z_bipush C dX9_neighbour_51 (by decide) ?_
        refine x_callS (n := 3) (cc9 := 0) (ss9 := 0) (rest := []) C dX9_neighbour_53 (c_X9_in (kxL E) C.st G z μ ((p / 8) + 1) 0 7 (by omega) (by omega) (by omega)) gX9_neighbour_X9_in rfl (by decide +kernel) ⟨(Nat.le_of_ble_eq_true rfl), (Nat.le_of_ble_eq_true rfl)⟩ rfl rfl (Nat.le_of_ble_eq_true rfl) rfl rfl ⟨(Nat.le_of_ble_eq_true rfl), (Nat.le_of_ble_eq_true rfl)⟩ nX_no (fun v87 μ88 hv89 => ?_)
        obtain ⟨r90, hw93, h91, hm92⟩ := hv89
        subst hw93
        rw [hm92]
        refine x_stk (stk' := [.int (zI r90)]) rfl ?_
        refine z_if_eq (tgt := 78) C dX9_neighbour_56 (by decide) (rg_of (by omega) (by omega)) (fun c_94 => ?_) (fun c_94 => ?_)
        · refine z_iconst C dX9_neighbour_78 ?_
          exact x_iret C R dX9_neighbour_79 (Nat.le_of_ble_eq_true rfl) (Nat.le_of_ble_eq_true rfl) (⟨_, rfl, by (unfold nbr; (repeat split) <;> omega), rfl⟩)
        · refine x_iload_n C dX9_neighbour_59 rfl 0 rfl ?_
          refine z_iconst C dX9_neighbour_60 ?_
          refine z_bipush C dX9_neighbour_61 (by decide) ?_
          refine x_callS (n := 3) (cc9 := 0) (ss9 := 0) (rest := []) C dX9_neighbour_63 (c_X9_in (kxL E) C.st G z μ ((p % 8) + (-1)) 0 7 (by omega) (by omega) (by omega)) gX9_neighbour_X9_in rfl (by decide +kernel) ⟨(Nat.le_of_ble_eq_true rfl), (Nat.le_of_ble_eq_true rfl)⟩ rfl rfl (Nat.le_of_ble_eq_true rfl) rfl rfl ⟨(Nat.le_of_ble_eq_true rfl), (Nat.le_of_ble_eq_true rfl)⟩ nX_no (fun v95 μ96 hv97 => ?_)
          obtain ⟨r98, hw101, h99, hm100⟩ := hv97
          subst hw101
          rw [hm100]
          refine x_stk (stk' := [.int (zI r98)]) rfl ?_
          refine z_if_eq (tgt := 78) C dX9_neighbour_66 (by decide) (rg_of (by omega) (by omega)) (fun c_102 => ?_) (fun c_102 => ?_)
          · refine z_iconst C dX9_neighbour_78 ?_
            exact x_iret C R dX9_neighbour_79 (Nat.le_of_ble_eq_true rfl) (Nat.le_of_ble_eq_true rfl) (⟨_, rfl, by (unfold nbr; (repeat split) <;> omega), rfl⟩)
          · refine z_bipush C dX9_neighbour_69 (by decide) ?_
            refine x_iload_n C dX9_neighbour_71 rfl 1 rfl ?_
            refine z_imul C dX9_neighbour_72 rfl ?_
            refine x_iload_n C dX9_neighbour_73 rfl 0 rfl ?_
            refine z_iadd C dX9_neighbour_74 rfl ?_
            refine x_goto (tgt := 79) C dX9_neighbour_75 (by decide) ?_
            exact x_iret C R dX9_neighbour_79 (Nat.le_of_ble_eq_true rfl) (Nat.le_of_ble_eq_true rfl) (⟨_, rfl, by (unfold nbr; (repeat split) <;> omega), rfl⟩)
  · refine z_iconst C dX9_neighbour_8 ?_
    refine x_goto (tgt := 22) C dX9_neighbour_9 (by decide) ?_
    refine z_iadd C dX9_neighbour_22 rfl ?_
    refine x_istore_n (lv' := [(2, .int (zI ((p / 8) + (-1)))), (0, .int (zI p)), (1, .int (zI d))]) C dX9_neighbour_23 rfl (by decide) rfl ?_
    refine x_iload_n C dX9_neighbour_24 rfl 1 rfl ?_
    refine z_bipush C dX9_neighbour_25 (by decide) ?_
    refine z_irem C dX9_neighbour_27 (rg_of (by omega) (by omega)) (by omega) (rg_of (by omega) (by omega)) (by omega) rfl ?_
    refine x_iload_n C dX9_neighbour_28 rfl 2 rfl ?_
    refine z_iconst C dX9_neighbour_29 ?_
    refine z_icmp_ne (tgt := 37) C dX9_neighbour_30 (by decide) (rg_of (by omega) (by omega)) (rg_of (by omega) (by omega)) (fun c_103 => ?_) (fun c_103 => ?_)
    · refine x_iload_n C dX9_neighbour_37 rfl 2 rfl ?_
      refine z_iconst C dX9_neighbour_38 ?_
      refine z_icmp_ne (tgt := 46) C dX9_neighbour_39 (by decide) (rg_of (by omega) (by omega)) (rg_of (by omega) (by omega)) (fun c_104 => ?_) (fun c_104 => ?_)
      · refine z_iconst C dX9_neighbour_46 ?_
        refine z_iadd C dX9_neighbour_47 rfl ?_
        refine x_istore_n (lv' := [(3, .int (zI ((p % 8) + 0))), (2, .int (zI ((p / 8) + (-1)))), (0, .int (zI p)), (1, .int (zI d))]) C dX9_neighbour_48 rfl (by decide) rfl ?_
        refine x_iload_n C dX9_neighbour_49 rfl 1 rfl ?_
        refine z_iconst C dX9_neighbour_50 ?_
        refine z_bipush C dX9_neighbour_51 (by decide) ?_
        refine x_callS (n := 3) (cc9 := 0) (ss9 := 0) (rest := []) C dX9_neighbour_53 (c_X9_in (kxL E) C.st G z μ ((p / 8) + (-1)) 0 7 (by omega) (by omega) (by omega)) gX9_neighbour_X9_in rfl (by decide +kernel) ⟨(Nat.le_of_ble_eq_true rfl), (Nat.le_of_ble_eq_true rfl)⟩ rfl rfl (Nat.le_of_ble_eq_true rfl) rfl rfl ⟨(Nat.le_of_ble_eq_true rfl), (Nat.le_of_ble_eq_true rfl)⟩ nX_no (fun v105 μ106 hv107 => ?_)
        obtain ⟨r108, hw111, h109, hm110⟩ := hv107
        subst hw111
        rw [hm110]
        refine x_stk (stk' := [.int (zI r108)]) rfl ?_
        refine z_if_eq (tgt := 78) C dX9_neighbour_56 (by decide) (rg_of (by omega) (by omega)) (fun c_112 => ?_) (fun c_112 => ?_)
        · refine z_iconst C dX9_neighbour_78 ?_
          exact x_iret C R dX9_neighbour_79 (Nat.le_of_ble_eq_true rfl) (Nat.le_of_ble_eq_true rfl) (⟨_, rfl, by (unfold nbr; (repeat split) <;> omega), rfl⟩)
        · refine x_iload_n C dX9_neighbour_59 rfl 0 rfl ?_
          refine z_iconst C dX9_neighbour_60 ?_
          refine z_bipush C dX9_neighbour_61 (by decide) ?_
          refine x_callS (n := 3) (cc9 := 0) (ss9 := 0) (rest := []) C dX9_neighbour_63 (c_X9_in (kxL E) C.st G z μ ((p % 8) + 0) 0 7 (by omega) (by omega) (by omega)) gX9_neighbour_X9_in rfl (by decide +kernel) ⟨(Nat.le_of_ble_eq_true rfl), (Nat.le_of_ble_eq_true rfl)⟩ rfl rfl (Nat.le_of_ble_eq_true rfl) rfl rfl ⟨(Nat.le_of_ble_eq_true rfl), (Nat.le_of_ble_eq_true rfl)⟩ nX_no (fun v113 μ114 hv115 => ?_)
          obtain ⟨r116, hw119, h117, hm118⟩ := hv115
          subst hw119
          rw [hm118]
          refine x_stk (stk' := [.int (zI r116)]) rfl ?_
          refine z_if_eq (tgt := 78) C dX9_neighbour_66 (by decide) (rg_of (by omega) (by omega)) (fun c_120 => ?_) (fun c_120 => ?_)
          · refine z_iconst C dX9_neighbour_78 ?_
            exact x_iret C R dX9_neighbour_79 (Nat.le_of_ble_eq_true rfl) (Nat.le_of_ble_eq_true rfl) (⟨_, rfl, by (unfold nbr; (repeat split) <;> omega), rfl⟩)
          · refine z_bipush C dX9_neighbour_69 (by decide) ?_
            refine x_iload_n C dX9_neighbour_71 rfl 1 rfl ?_
            refine z_imul C dX9_neighbour_72 rfl ?_
            refine x_iload_n C dX9_neighbour_73 rfl 0 rfl ?_
            refine z_iadd C dX9_neighbour_74 rfl ?_
            refine x_goto (tgt := 79) C dX9_neighbour_75 (by decide) ?_
            exact x_iret C R dX9_neighbour_79 (Nat.le_of_ble_eq_true rfl) (Nat.le_of_ble_eq_true rfl) (⟨_, rfl, by (unfold nbr; (repeat split) <;> omega), rfl⟩)
      · refine z_iconst C dX9_neighbour_42 ?_
        refine x_goto (tgt := 47) C dX9_neighbour_43 (by decide) ?_
        refine z_iadd C dX9_neighbour_47 rfl ?_
        refine x_istore_n (lv' := [(3, .int (zI ((p % 8) + 1))), (2, .int (zI ((p / 8) + (-1)))), (0, .int (zI p)), (1, .int (zI d))]) C dX9_neighbour_48 rfl (by decide) rfl ?_
        refine x_iload_n C dX9_neighbour_49 rfl 1 rfl ?_
        refine z_iconst C dX9_neighbour_50 ?_
        refine z_bipush C dX9_neighbour_51 (by decide) ?_
        refine x_callS (n := 3) (cc9 := 0) (ss9 := 0) (rest := []) C dX9_neighbour_53 (c_X9_in (kxL E) C.st G z μ ((p / 8) + (-1)) 0 7 (by omega) (by omega) (by omega)) gX9_neighbour_X9_in rfl (by decide +kernel) ⟨(Nat.le_of_ble_eq_true rfl), (Nat.le_of_ble_eq_true rfl)⟩ rfl rfl (Nat.le_of_ble_eq_true rfl) rfl rfl ⟨(Nat.le_of_ble_eq_true rfl), (Nat.le_of_ble_eq_true rfl)⟩ nX_no (fun v121 μ122 hv123 => ?_)
        obtain ⟨r124, hw127, h125, hm126⟩ := hv123
        subst hw127
        rw [hm126]
        refine x_stk (stk' := [.int (zI r124)]) rfl ?_
        refine z_if_eq (tgt := 78) C dX9_neighbour_56 (by decide) (rg_of (by omega) (by omega)) (fun c_128 => ?_) (fun c_128 => ?_)
        · refine z_iconst C dX9_neighbour_78 ?_
          exact x_iret C R dX9_neighbour_79 (Nat.le_of_ble_eq_true rfl) (Nat.le_of_ble_eq_true rfl) (⟨_, rfl, by (unfold nbr; (repeat split) <;> omega), rfl⟩)
        · refine x_iload_n C dX9_neighbour_59 rfl 0 rfl ?_
          refine z_iconst C dX9_neighbour_60 ?_
          refine z_bipush C dX9_neighbour_61 (by decide) ?_
          refine x_callS (n := 3) (cc9 := 0) (ss9 := 0) (rest := []) C dX9_neighbour_63 (c_X9_in (kxL E) C.st G z μ ((p % 8) + 1) 0 7 (by omega) (by omega) (by omega)) gX9_neighbour_X9_in rfl (by decide +kernel) ⟨(Nat.le_of_ble_eq_true rfl), (Nat.le_of_ble_eq_true rfl)⟩ rfl rfl (Nat.le_of_ble_eq_true rfl) rfl rfl ⟨(Nat.le_of_ble_eq_true rfl), (Nat.le_of_ble_eq_true rfl)⟩ nX_no (fun v129 μ130 hv131 => ?_)
          obtain ⟨r132, hw135, h133, hm134⟩ := hv131
          subst hw135
          rw [hm134]
          refine x_stk (stk' := [.int (zI r132)]) rfl ?_
          refine z_if_eq (tgt := 78) C dX9_neighbour_66 (by decide) (rg_of (by omega) (by omega)) (fun c_136 => ?_) (fun c_136 => ?_)
          · refine z_iconst C dX9_neighbour_78 ?_
            exact x_iret C R dX9_neighbour_79 (Nat.le_of_ble_eq_true rfl) (Nat.le_of_ble_eq_true rfl) (⟨_, rfl, by (unfold nbr; (repeat split) <;> omega), rfl⟩)
          · refine z_bipush C dX9_neighbour_69 (by decide) ?_
            refine x_iload_n C dX9_neighbour_71 rfl 1 rfl ?_
            refine z_imul C dX9_neighbour_72 rfl ?_
            refine x_iload_n C dX9_neighbour_73 rfl 0 rfl ?_
            refine z_iadd C dX9_neighbour_74 rfl ?_
            refine x_goto (tgt := 79) C dX9_neighbour_75 (by decide) ?_
            exact x_iret C R dX9_neighbour_79 (Nat.le_of_ble_eq_true rfl) (Nat.le_of_ble_eq_true rfl) (⟨_, rfl, by (unfold nbr; (repeat split) <;> omega), rfl⟩)
    · refine z_iconst C dX9_neighbour_33 ?_
      refine x_goto (tgt := 47) C dX9_neighbour_34 (by decide) ?_
      refine z_iadd C dX9_neighbour_47 rfl ?_
      refine x_istore_n (lv' := [(3, .int (zI ((p % 8) + (-1)))), (2, .int (zI ((p / 8) + (-1)))), (0, .int (zI p)), (1, .int (zI d))]) C dX9_neighbour_48 rfl (by decide) rfl ?_
      refine x_iload_n C dX9_neighbour_49 rfl 1 rfl ?_
      refine z_iconst C dX9_neighbour_50 ?_
      refine z_bipush C dX9_neighbour_51 (by decide) ?_
      refine x_callS (n := 3) (cc9 := 0) (ss9 := 0) (rest := []) C dX9_neighbour_53 (c_X9_in (kxL E) C.st G z μ ((p / 8) + (-1)) 0 7 (by omega) (by omega) (by omega)) gX9_neighbour_X9_in rfl (by decide +kernel) ⟨(Nat.le_of_ble_eq_true rfl), (Nat.le_of_ble_eq_true rfl)⟩ rfl rfl (Nat.le_of_ble_eq_true rfl) rfl rfl ⟨(Nat.le_of_ble_eq_true rfl), (Nat.le_of_ble_eq_true rfl)⟩ nX_no (fun v137 μ138 hv139 => ?_)
      obtain ⟨r140, hw143, h141, hm142⟩ := hv139
      subst hw143
      rw [hm142]
      refine x_stk (stk' := [.int (zI r140)]) rfl ?_
      refine z_if_eq (tgt := 78) C dX9_neighbour_56 (by decide) (rg_of (by omega) (by omega)) (fun c_144 => ?_) (fun c_144 => ?_)
      · refine z_iconst C dX9_neighbour_78 ?_
        exact x_iret C R dX9_neighbour_79 (Nat.le_of_ble_eq_true rfl) (Nat.le_of_ble_eq_true rfl) (⟨_, rfl, by (unfold nbr; (repeat split) <;> omega), rfl⟩)
      · refine x_iload_n C dX9_neighbour_59 rfl 0 rfl ?_
        refine z_iconst C dX9_neighbour_60 ?_
        refine z_bipush C dX9_neighbour_61 (by decide) ?_
        refine x_callS (n := 3) (cc9 := 0) (ss9 := 0) (rest := []) C dX9_neighbour_63 (c_X9_in (kxL E) C.st G z μ ((p % 8) + (-1)) 0 7 (by omega) (by omega) (by omega)) gX9_neighbour_X9_in rfl (by decide +kernel) ⟨(Nat.le_of_ble_eq_true rfl), (Nat.le_of_ble_eq_true rfl)⟩ rfl rfl (Nat.le_of_ble_eq_true rfl) rfl rfl ⟨(Nat.le_of_ble_eq_true rfl), (Nat.le_of_ble_eq_true rfl)⟩ nX_no (fun v145 μ146 hv147 => ?_)
        obtain ⟨r148, hw151, h149, hm150⟩ := hv147
        subst hw151
        rw [hm150]
        refine x_stk (stk' := [.int (zI r148)]) rfl ?_
        refine z_if_eq (tgt := 78) C dX9_neighbour_66 (by decide) (rg_of (by omega) (by omega)) (fun c_152 => ?_) (fun c_152 => ?_)
        · refine z_iconst C dX9_neighbour_78 ?_
          exact x_iret C R dX9_neighbour_79 (Nat.le_of_ble_eq_true rfl) (Nat.le_of_ble_eq_true rfl) (⟨_, rfl, by (unfold nbr; (repeat split) <;> omega), rfl⟩)
        · refine z_bipush C dX9_neighbour_69 (by decide) ?_
          refine x_iload_n C dX9_neighbour_71 rfl 1 rfl ?_
          refine z_imul C dX9_neighbour_72 rfl ?_
          refine x_iload_n C dX9_neighbour_73 rfl 0 rfl ?_
          refine z_iadd C dX9_neighbour_74 rfl ?_
          refine x_goto (tgt := 79) C dX9_neighbour_75 (by decide) ?_
          exact x_iret C R dX9_neighbour_79 (Nat.le_of_ble_eq_true rfl) (Nat.le_of_ble_eq_true rfl) (⟨_, rfl, by (unfold nbr; (repeat split) <;> omega), rfl⟩)
abbrev rm_X9_thrown : Room := { frames := 0, cells := 0, slots := 0, locals := 0 }
set_option maxHeartbeats 4000000 in
set_option maxRecDepth 100000 in
theorem c_X9_thrown (l : Launch) (hst : l.stackTraces = false) (G : GG) (z : Nat) (μ : Mm) (m : Nat) (σ : SS) (n : Nat) (th fo cm : Int) (Ci Su : Nat → Int) (A : Nat → Nat) (hM9 : RepY G μ m σ th fo cm Ci Su A) : Ct l yX9_thrown wsX9_thrown rm_X9_thrown G z [.ref m] μ (rP μ (fun r9 => r9 = th)) (nX) := by
  refine ct_of (cc := cX9_thrown) (maxL := 1) (ret := (some .int)) (own := RX9) (by decide) rfl rfl hst (Nat.le_of_ble_eq_true rfl) ?_
  intro E hLl hnm C R hT
  have in_X9 : ∀ w ∈ u_ws RX9 TX9 29, w ∈ wsX9_thrown := by decide +kernel
  obtain ⟨hO, hMA, hCi, hSu⟩ := hM9
  refine x_eq (lv' := [(0, .ref m)]) rfl rfl ?_
  refine x_aload_n C dX9_thrown_0 rfl 0 rfl ?_
  refine x_get (ci := 10) (Cn := RX9) (T := TX9) (N := 29) (ref := "CairnCipherModel") C dX9_thrown_1 in_X9 rfl hO 24 (by decide) (by decide +kernel) rfl rfl ?_
  exact x_iret C R dX9_thrown_4 (Nat.le_of_ble_eq_true rfl) (Nat.le_of_ble_eq_true rfl) (⟨_, rfl, rfl, rfl⟩)
abbrev rm_X9_isStage : Room := { frames := 1, cells := 0, slots := 0, locals := 22 }
set_option maxHeartbeats 4000000 in
set_option maxRecDepth 100000 in
theorem c_X9_isStage (l : Launch) (hst : l.stackTraces = false) (G : GG) (z : Nat) (μ : Mm) (m : Nat) (σ : SS) (n : Nat) (th fo cm : Int) (Ci Su : Nat → Int) (A : Nat → Nat) (k : Int) (hM9 : RepY G μ m σ th fo cm Ci Su A) (hI : Iv σ n) (hk : -2147483648 ≤ k ∧ k < 2147483648) : Ct l yX9_isStage wsX9_isStage rm_X9_isStage G z [.ref m, .int (zI k)] μ (rP μ (fun r9 => (r9 = 1 ∧ 0 ≤ k ∧ k < σ 7 0) ∨ (r9 = 0 ∧ ¬ (0 ≤ k ∧ k < σ 7 0)))) (nX) := by
  refine ct_of (cc := cX9_isStage) (maxL := 2) (ret := (some .boolean)) (own := RX9) (by decide) rfl rfl hst (Nat.le_of_ble_eq_true rfl) ?_
  intro E hLl hnm C R hT
  have in_X9 : ∀ w ∈ u_ws RX9 TX9 29, w ∈ wsX9_isStage := by decide +kernel
  have hM8 := hM9
  obtain ⟨hO, hMA, hCi, hSu⟩ := hM9
  have hn7 := hI.n7
  have hn12 := hI.n12
  have hn18 := hI.n18
  have hn23 := hI.n23
  refine x_eq (lv' := [(0, .ref m), (1, .int (zI k))]) rfl rfl ?_
  refine x_iload_n C dX9_isStage_0 rfl 1 rfl ?_
  refine z_iconst C dX9_isStage_1 ?_
  refine x_aload_n C dX9_isStage_2 rfl 0 rfl ?_
  refine x_get (ci := 10) (Cn := RX9) (T := TX9) (N := 29) (ref := "CairnCipherModel") C dX9_isStage_3 in_X9 rfl hO 7 (by decide) (by decide +kernel) rfl rfl ?_
  refine z_iconst C dX9_isStage_6 ?_
  refine z_isub C dX9_isStage_7 rfl ?_
  refine x_callS (n := 3) (cc9 := 0) (ss9 := 0) (rest := []) C dX9_isStage_8 (c_X9_in (kxL E) C.st G z μ k 0 ((σ 7 0) - 1) (by omega) (by omega) (by omega)) gX9_isStage_X9_in rfl (by decide +kernel) ⟨(Nat.le_of_ble_eq_true rfl), (Nat.le_of_ble_eq_true rfl)⟩ rfl rfl (Nat.le_of_ble_eq_true rfl) rfl rfl ⟨(Nat.le_of_ble_eq_true rfl), (Nat.le_of_ble_eq_true rfl)⟩ nX_no (fun v1 μ2 hv3 => ?_)
  obtain ⟨r4, hw7, h5, hm6⟩ := hv3
  subst hw7
  rw [hm6]
  refine x_stk (stk' := [.int (zI r4)]) rfl ?_
  exact x_zret C R dX9_isStage_11 (nar_z (by omega)) (Nat.le_of_ble_eq_true rfl) (Nat.le_of_ble_eq_true rfl) (⟨_, rfl, by omega, rfl⟩)
abbrev rm_X9_isWalker : Room := { frames := 1, cells := 0, slots := 0, locals := 22 }
set_option maxHeartbeats 4000000 in
set_option maxRecDepth 100000 in
theorem c_X9_isWalker (l : Launch) (hst : l.stackTraces = false) (G : GG) (z : Nat) (μ : Mm) (m : Nat) (σ : SS) (n : Nat) (th fo cm : Int) (Ci Su : Nat → Int) (A : Nat → Nat) (k : Int) (hM9 : RepY G μ m σ th fo cm Ci Su A) (hI : Iv σ n) (hk : -2147483648 ≤ k ∧ k < 2147483648) : Ct l yX9_isWalker wsX9_isWalker rm_X9_isWalker G z [.ref m, .int (zI k)] μ (rP μ (fun r9 => (r9 = 1 ∧ 0 ≤ k ∧ k < σ 12 0) ∨ (r9 = 0 ∧ ¬ (0 ≤ k ∧ k < σ 12 0)))) (nX) := by
  refine ct_of (cc := cX9_isWalker) (maxL := 2) (ret := (some .boolean)) (own := RX9) (by decide) rfl rfl hst (Nat.le_of_ble_eq_true rfl) ?_
  intro E hLl hnm C R hT
  have in_X9 : ∀ w ∈ u_ws RX9 TX9 29, w ∈ wsX9_isWalker := by decide +kernel
  have hM8 := hM9
  obtain ⟨hO, hMA, hCi, hSu⟩ := hM9
  have hn7 := hI.n7
  have hn12 := hI.n12
  have hn18 := hI.n18
  have hn23 := hI.n23
  refine x_eq (lv' := [(0, .ref m), (1, .int (zI k))]) rfl rfl ?_
  refine x_iload_n C dX9_isWalker_0 rfl 1 rfl ?_
  refine z_iconst C dX9_isWalker_1 ?_
  refine x_aload_n C dX9_isWalker_2 rfl 0 rfl ?_
  refine x_get (ci := 10) (Cn := RX9) (T := TX9) (N := 29) (ref := "CairnCipherModel") C dX9_isWalker_3 in_X9 rfl hO 12 (by decide) (by decide +kernel) rfl rfl ?_
  refine z_iconst C dX9_isWalker_6 ?_
  refine z_isub C dX9_isWalker_7 rfl ?_
  refine x_callS (n := 3) (cc9 := 0) (ss9 := 0) (rest := []) C dX9_isWalker_8 (c_X9_in (kxL E) C.st G z μ k 0 ((σ 12 0) - 1) (by omega) (by omega) (by omega)) gX9_isWalker_X9_in rfl (by decide +kernel) ⟨(Nat.le_of_ble_eq_true rfl), (Nat.le_of_ble_eq_true rfl)⟩ rfl rfl (Nat.le_of_ble_eq_true rfl) rfl rfl ⟨(Nat.le_of_ble_eq_true rfl), (Nat.le_of_ble_eq_true rfl)⟩ nX_no (fun v1 μ2 hv3 => ?_)
  obtain ⟨r4, hw7, h5, hm6⟩ := hv3
  subst hw7
  rw [hm6]
  refine x_stk (stk' := [.int (zI r4)]) rfl ?_
  exact x_zret C R dX9_isWalker_11 (nar_z (by omega)) (Nat.le_of_ble_eq_true rfl) (Nat.le_of_ble_eq_true rfl) (⟨_, rfl, by omega, rfl⟩)
abbrev rm_X9_isResting : Room := { frames := 0, cells := 0, slots := 0, locals := 0 }
set_option maxHeartbeats 4000000 in
set_option maxRecDepth 100000 in
theorem c_X9_isResting (l : Launch) (hst : l.stackTraces = false) (G : GG) (z : Nat) (μ : Mm) (m : Nat) (σ : SS) (n : Nat) (th fo cm : Int) (Ci Su : Nat → Int) (A : Nat → Nat) (w : Int) (hM9 : RepY G μ m σ th fo cm Ci Su A) (hI : Iv σ n) (hw : 0 ≤ w ∧ w < 6) : Ct l yX9_isResting wsX9_isResting rm_X9_isResting G z [.ref m, .int (zI w)] μ (rP μ (fun r9 => (r9 = 1 ∧ σ 15 w.toNat = -1 ∧ σ 16 w.toNat = -1) ∨ (r9 = 0 ∧ ¬ (σ 15 w.toNat = -1 ∧ σ 16 w.toNat = -1)))) (nX) := by
  refine ct_of (cc := cX9_isResting) (maxL := 2) (ret := (some .boolean)) (own := RX9) (by decide) rfl rfl hst (Nat.le_of_ble_eq_true rfl) ?_
  intro E hLl hnm C R hT
  have in_X9 : ∀ w ∈ u_ws RX9 TX9 29, w ∈ wsX9_isResting := by decide +kernel
  have hM8 := hM9
  obtain ⟨hO, hMA, hCi, hSu⟩ := hM9
  have hn7 := hI.n7
  have hn12 := hI.n12
  have hn18 := hI.n18
  have hn23 := hI.n23
  refine x_eq (lv' := [(0, .ref m), (1, .int (zI w))]) rfl rfl ?_
  refine x_aload_n C dX9_isResting_0 rfl 0 rfl ?_
  refine x_get (ci := 10) (Cn := RX9) (T := TX9) (N := 29) (ref := "CairnCipherModel") C dX9_isResting_1 in_X9 rfl hO 15 (by decide) (by decide +kernel) rfl rfl ?_
  refine x_iload_n C dX9_isResting_4 rfl 1 rfl ?_
  refine z_iald (j := w.toNat) C dX9_isResting_5 (show AI G μ (A 15) 3016 6 (σ 15) from hMA.ai 15 rfl) (by omega) (by omega) (by decide) ?_
  have q_1 := hI.r15 w.toNat (by omega)
  refine z_iconst C dX9_isResting_6 ?_
  refine z_icmp_ne (tgt := 24) C dX9_isResting_7 (by decide) (rg_of (by omega) (by omega)) (rg_of (by omega) (by omega)) (fun c_2 => ?_) (fun c_2 => ?_)
  · refine z_iconst C dX9_isResting_24 ?_
    exact x_zret C R dX9_isResting_25 (nar_z (by omega)) (Nat.le_of_ble_eq_true rfl) (Nat.le_of_ble_eq_true rfl) (⟨_, rfl, by omega, rfl⟩)
  · refine x_aload_n C dX9_isResting_10 rfl 0 rfl ?_
    refine x_get (ci := 10) (Cn := RX9) (T := TX9) (N := 29) (ref := "CairnCipherModel") C dX9_isResting_11 in_X9 rfl hO 16 (by decide) (by decide +kernel) rfl rfl ?_
    refine x_iload_n C dX9_isResting_14 rfl 1 rfl ?_
    refine z_iald (j := w.toNat) C dX9_isResting_15 (show AI G μ (A 16) 3017 6 (σ 16) from hMA.ai 16 rfl) (by omega) (by omega) (by decide) ?_
    have q_3 := hI.r16 w.toNat (by omega)
    refine z_iconst C dX9_isResting_16 ?_
    refine z_icmp_ne (tgt := 24) C dX9_isResting_17 (by decide) (rg_of (by omega) (by omega)) (rg_of (by omega) (by omega)) (fun c_4 => ?_) (fun c_4 => ?_)
    · refine z_iconst C dX9_isResting_24 ?_
      exact x_zret C R dX9_isResting_25 (nar_z (by omega)) (Nat.le_of_ble_eq_true rfl) (Nat.le_of_ble_eq_true rfl) (⟨_, rfl, by omega, rfl⟩)
    · refine z_iconst C dX9_isResting_20 ?_
      refine x_goto (tgt := 25) C dX9_isResting_21 (by decide) ?_
      exact x_zret C R dX9_isResting_25 (nar_z (by omega)) (Nat.le_of_ble_eq_true rfl) (Nat.le_of_ble_eq_true rfl) (⟨_, rfl, by omega, rfl⟩)
abbrev rm_X9_cost : Room := { frames := 1, cells := 0, slots := 0, locals := 21 }
set_option maxHeartbeats 4000000 in
set_option maxRecDepth 100000 in
theorem c_X9_cost (l : Launch) (hst : l.stackTraces = false) (G : GG) (z : Nat) (μ : Mm) (m : Nat) (σ : SS) (n : Nat) (th fo cm : Int) (Ci Su : Nat → Int) (A : Nat → Nat) (p q : Int) (hM9 : RepY G μ m σ th fo cm Ci Su A) (hI : Iv σ n) (hp : 0 ≤ p ∧ p < 64) (hq : 0 ≤ q ∧ q < 64) : Ct l yX9_cost wsX9_cost rm_X9_cost G z [.ref m, .int (zI p), .int (zI q)] μ (rP μ (fun r9 => r9 = 1 + iabs (σ 0 p.toNat - σ 0 q.toNat))) (nX) := by
  refine ct_of (cc := cX9_cost) (maxL := 3) (ret := (some .int)) (own := RX9) (by decide) rfl rfl hst (Nat.le_of_ble_eq_true rfl) ?_
  intro E hLl hnm C R hT
  have in_X9 : ∀ w ∈ u_ws RX9 TX9 29, w ∈ wsX9_cost := by decide +kernel
  have hM8 := hM9
  obtain ⟨hO, hMA, hCi, hSu⟩ := hM9
  have hn7 := hI.n7
  have hn12 := hI.n12
  have hn18 := hI.n18
  have hn23 := hI.n23
  refine x_eq (lv' := [(0, .ref m), (1, .int (zI p)), (2, .int (zI q))]) rfl rfl ?_
  refine z_iconst C dX9_cost_0 ?_
  refine x_aload_n C dX9_cost_1 rfl 0 rfl ?_
  refine x_get (ci := 10) (Cn := RX9) (T := TX9) (N := 29) (ref := "CairnCipherModel") C dX9_cost_2 in_X9 rfl hO 0 (by decide) (by decide +kernel) rfl rfl ?_
  refine x_iload_n C dX9_cost_5 rfl 1 rfl ?_
  refine z_iald (j := p.toNat) C dX9_cost_6 (show AI G μ (A 0) 3001 64 (σ 0) from hMA.ai 0 rfl) (by omega) (by omega) (by decide) ?_
  have q_1 := hI.r0 p.toNat (by omega)
  refine x_aload_n C dX9_cost_7 rfl 0 rfl ?_
  refine x_get (ci := 10) (Cn := RX9) (T := TX9) (N := 29) (ref := "CairnCipherModel") C dX9_cost_8 in_X9 rfl hO 0 (by decide) (by decide +kernel) rfl rfl ?_
  refine x_iload_n C dX9_cost_11 rfl 2 rfl ?_
  refine z_iald (j := q.toNat) C dX9_cost_12 (show AI G μ (A 0) 3001 64 (σ 0) from hMA.ai 0 rfl) (by omega) (by omega) (by decide) ?_
  have q_2 := hI.r0 q.toNat (by omega)
  refine x_callS (n := 2) (cc9 := 0) (ss9 := 0) (rest := [.int (zI 1)]) C dX9_cost_13 (c_X9_apart (kxL E) C.st G z μ ((σ 0) p.toNat) ((σ 0) q.toNat) (by omega) (by omega)) gX9_cost_X9_apart rfl (by decide +kernel) ⟨(Nat.le_of_ble_eq_true rfl), (Nat.le_of_ble_eq_true rfl)⟩ rfl rfl (Nat.le_of_ble_eq_true rfl) rfl rfl ⟨(Nat.le_of_ble_eq_true rfl), (Nat.le_of_ble_eq_true rfl)⟩ nX_no (fun v3 μ4 hv5 => ?_)
  obtain ⟨r6, hw9, h7, hm8⟩ := hv5
  subst hw9
  rw [hm8]
  have hc9 := h7
  have hc8 := iabs_rg (x := σ 0 p.toNat - σ 0 q.toNat) (n := 9) (by omega)
  refine x_stk (stk' := [.int (zI r6), .int (zI 1)]) rfl ?_
  refine z_iadd C dX9_cost_16 rfl ?_
  exact x_iret C R dX9_cost_17 (Nat.le_of_ble_eq_true rfl) (Nat.le_of_ble_eq_true rfl) (⟨_, rfl, by (rw [hc9]), rfl⟩)
abbrev rm_X9_points : Room := { frames := 0, cells := 0, slots := 0, locals := 0 }
set_option maxHeartbeats 4000000 in
set_option maxRecDepth 100000 in
theorem c_X9_points (l : Launch) (hst : l.stackTraces = false) (G : GG) (z : Nat) (μ : Mm) (m : Nat) (σ : SS) (n : Nat) (th fo cm : Int) (Ci Su : Nat → Int) (A : Nat → Nat) (w s : Int) (hM9 : RepY G μ m σ th fo cm Ci Su A) (hI : Iv σ n) (hw : 0 ≤ w ∧ w < 6) (hs : 0 ≤ s ∧ s < 6) (hn5 : n ≤ 600) : Ct l yX9_points wsX9_points rm_X9_points G z [.ref m, .int (zI w), .int (zI s)] μ (rP μ (fun r9 => r9 = pts (σ 22 (6 * w.toNat + s.toNat)) (σ 21 (6 * w.toNat + s.toNat)))) (nX) := by
  refine ct_of (cc := cX9_points) (maxL := 4) (ret := (some .int)) (own := RX9) (by decide) rfl rfl hst (Nat.le_of_ble_eq_true rfl) ?_
  intro E hLl hnm C R hT
  have in_X9 : ∀ w ∈ u_ws RX9 TX9 29, w ∈ wsX9_points := by decide +kernel
  have hM8 := hM9
  obtain ⟨hO, hMA, hCi, hSu⟩ := hM9
  have hn7 := hI.n7
  have hn12 := hI.n12
  have hn18 := hI.n18
  have hn23 := hI.n23
  have ew : (6 * w + s).toNat = 6 * w.toNat + s.toNat := by omega
  refine x_eq (lv' := [(0, .ref m), (1, .int (zI w)), (2, .int (zI s))]) rfl rfl ?_
  refine z_bipush C dX9_points_0 (by decide) ?_
  refine z_bipush C dX9_points_2 (by decide) ?_
  refine x_aload_n C dX9_points_4 rfl 0 rfl ?_
  refine x_get (ci := 10) (Cn := RX9) (T := TX9) (N := 29) (ref := "CairnCipherModel") C dX9_points_5 in_X9 rfl hO 22 (by decide) (by decide +kernel) rfl rfl ?_
  refine z_bipush C dX9_points_8 (by decide) ?_
  refine x_iload_n C dX9_points_10 rfl 1 rfl ?_
  refine z_imul C dX9_points_11 rfl ?_
  refine x_iload_n C dX9_points_12 rfl 2 rfl ?_
  refine z_iadd C dX9_points_13 rfl ?_
  refine z_iald (j := ((6 * w) + s).toNat) C dX9_points_14 (show AI G μ (A 22) 3023 36 (σ 22) from hMA.ai 22 rfl) (by omega) (by omega) (by decide) ?_
  have q_1 := hI.r22 (((6 * w) + s).toNat) (by omega)
  refine z_imul C dX9_points_15 rfl ?_
  refine z_isub C dX9_points_16 rfl ?_
  refine x_istore_n (lv' := [(3, .int (zI (100 - (10 * ((σ 22) (((6 * w) + s).toNat)))))), (0, .ref m), (1, .int (zI w)), (2, .int (zI s))]) C dX9_points_17 rfl (by decide) rfl ?_
  refine x_iload_n C dX9_points_18 rfl 0 rfl ?_
  refine z_bipush C dX9_points_19 (by decide) ?_
  refine z_icmp_ge (tgt := 29) C dX9_points_21 (by decide) (rg_of (by omega) (by omega)) (rg_of (by omega) (by omega)) (fun c_2 => ?_) (fun c_2 => ?_)
  · refine x_iload_n C dX9_points_29 rfl 0 rfl ?_
    refine x_istore_n (lv' := [(3, .int (zI (100 - (10 * ((σ 22) (((6 * w) + s).toNat)))))), (0, .ref m), (1, .int (zI w)), (2, .int (zI s))]) C dX9_points_30 rfl (by decide) rfl ?_
    refine x_aload_n C dX9_points_31 rfl 1 rfl ?_
    refine x_get (ci := 10) (Cn := RX9) (T := TX9) (N := 29) (ref := "CairnCipherModel") C dX9_points_32 in_X9 rfl hO 21 (by decide) (by decide +kernel) rfl rfl ?_
    refine z_bipush C dX9_points_35 (by decide) ?_
    refine x_iload_n C dX9_points_37 rfl 2 rfl ?_
    refine z_imul C dX9_points_38 rfl ?_
    refine x_iload_n C dX9_points_39 rfl 3 rfl ?_
    refine z_iadd C dX9_points_40 rfl ?_
    refine z_zald (j := ((6 * w) + s).toNat) C dX9_points_41 (show AZ G μ (A 21) 3022 36 (σ 21) from hMA.az 21 rfl) (by omega) (by omega) (by decide) ?_
    have q_3 := hI.r21 (((6 * w) + s).toNat) (by omega)
    refine z_if_eq (tgt := 51) C dX9_points_42 (by decide) (rg_of (by omega) (by omega)) (fun c_4 => ?_) (fun c_4 => ?_)
    · refine x_iload_n C dX9_points_51 rfl 0 rfl ?_
      exact x_iret C R dX9_points_52 (Nat.le_of_ble_eq_true rfl) (Nat.le_of_ble_eq_true rfl) (⟨_, rfl, by (rw [← ew]; unfold pts; (repeat split) <;> omega), rfl⟩)
    · refine x_iload_n C dX9_points_45 rfl 0 rfl ?_
      refine z_iconst C dX9_points_46 ?_
      refine z_idiv C dX9_points_47 (rg_of (by omega) (by omega)) (by omega) (rg_of (by omega) (by omega)) (by omega) rfl ?_
      refine x_goto (tgt := 52) C dX9_points_48 (by decide) ?_
      exact x_iret C R dX9_points_52 (Nat.le_of_ble_eq_true rfl) (Nat.le_of_ble_eq_true rfl) (⟨_, rfl, by (rw [← ew]; unfold pts; (repeat split) <;> omega), rfl⟩)
  · refine z_bipush C dX9_points_24 (by decide) ?_
    refine x_goto (tgt := 30) C dX9_points_26 (by decide) ?_
    refine x_istore_n (lv' := [(3, .int (zI 10)), (0, .ref m), (1, .int (zI w)), (2, .int (zI s))]) C dX9_points_30 rfl (by decide) rfl ?_
    refine x_aload_n C dX9_points_31 rfl 1 rfl ?_
    refine x_get (ci := 10) (Cn := RX9) (T := TX9) (N := 29) (ref := "CairnCipherModel") C dX9_points_32 in_X9 rfl hO 21 (by decide) (by decide +kernel) rfl rfl ?_
    refine z_bipush C dX9_points_35 (by decide) ?_
    refine x_iload_n C dX9_points_37 rfl 2 rfl ?_
    refine z_imul C dX9_points_38 rfl ?_
    refine x_iload_n C dX9_points_39 rfl 3 rfl ?_
    refine z_iadd C dX9_points_40 rfl ?_
    refine z_zald (j := ((6 * w) + s).toNat) C dX9_points_41 (show AZ G μ (A 21) 3022 36 (σ 21) from hMA.az 21 rfl) (by omega) (by omega) (by decide) ?_
    have q_5 := hI.r21 (((6 * w) + s).toNat) (by omega)
    refine z_if_eq (tgt := 51) C dX9_points_42 (by decide) (rg_of (by omega) (by omega)) (fun c_6 => ?_) (fun c_6 => ?_)
    · refine x_iload_n C dX9_points_51 rfl 0 rfl ?_
      exact x_iret C R dX9_points_52 (Nat.le_of_ble_eq_true rfl) (Nat.le_of_ble_eq_true rfl) (⟨_, rfl, by (rw [← ew]; unfold pts; (repeat split) <;> omega), rfl⟩)
    · refine x_iload_n C dX9_points_45 rfl 0 rfl ?_
      refine z_iconst C dX9_points_46 ?_
      refine z_idiv C dX9_points_47 (rg_of (by omega) (by omega)) (by omega) (rg_of (by omega) (by omega)) (by omega) rfl ?_
      refine x_goto (tgt := 52) C dX9_points_48 (by decide) ?_
      exact x_iret C R dX9_points_52 (Nat.le_of_ble_eq_true rfl) (Nat.le_of_ble_eq_true rfl) (⟨_, rfl, by (rw [← ew]; unfold pts; (repeat split) <;> omega), rfl⟩)
abbrev rm_X9_close : Room := { frames := 2, cells := 0, slots := 0, locals := 42 }
set_option maxHeartbeats 4000000 in
set_option maxRecDepth 100000 in
theorem c_X9_close (l : Launch) (hst : l.stackTraces = false) (G : GG) (z : Nat) (μ : Mm) (m : Nat) (σ : SS) (n : Nat) (th fo cm : Int) (Ci Su : Nat → Int) (A : Nat → Nat) (p : Int) (hM9 : RepY G μ m σ th fo cm Ci Su A) (hI : Iv σ n) (hp : -2147483648 ≤ p ∧ p < 2147483648) : Ct l yX9_close wsX9_close rm_X9_close G z [.ref m, .int (zI p)] μ (rS (fun r9 μ' => MR G μ' m (t_p p) (1 - σ 1 p.toNat) σ (n_close σ p) r9 ∧ Fr 3000 3999 μ μ')) (nX) := by
  refine ct_of (cc := cX9_close) (maxL := 2) (ret := (some .boolean)) (own := RX9) (by decide) rfl rfl hst (Nat.le_of_ble_eq_true rfl) ?_
  intro E hLl hnm C R hT
  have in_X9 : ∀ w ∈ u_ws RX9 TX9 29, w ∈ wsX9_close := by decide +kernel
  have hM8 := hM9
  obtain ⟨hO, hMA, hCi, hSu⟩ := hM9
  have hn7 := hI.n7
  have hn12 := hI.n12
  have hn18 := hI.n18
  have hn23 := hI.n23
  have hFr : Fr 3000 3999 μ μ := Fr.rf
  refine x_eq (lv' := [(0, .ref m), (1, .int (zI p))]) rfl rfl ?_
  refine x_aload_n C dX9_close_0 rfl 0 rfl ?_
  refine x_iload_n C dX9_close_1 rfl 1 rfl ?_
  refine x_callS (n := 1) (cc9 := 0) (ss9 := 0) (rest := [.ref m]) C dX9_close_2 (c_X9_isPlace (kxL E) C.st G z μ p (by omega)) gX9_close_X9_isPlace rfl (by decide +kernel) ⟨(Nat.le_of_ble_eq_true rfl), (Nat.le_of_ble_eq_true rfl)⟩ rfl rfl (Nat.le_of_ble_eq_true rfl) rfl rfl ⟨(Nat.le_of_ble_eq_true rfl), (Nat.le_of_ble_eq_true rfl)⟩ nX_no (fun v1 μ2 hv3 => ?_)
  obtain ⟨r4, hw7, h5, hm6⟩ := hv3
  subst hw7
  rw [hm6]
  refine x_stk (stk' := [.int (zI r4), .ref m]) rfl ?_
  refine z_if_eq (tgt := 12) C dX9_close_5 (by decide) (rg_of (by omega) (by omega)) (fun c_8 => ?_) (fun c_8 => ?_)
  · refine z_iconst C dX9_close_12 ?_
    refine z_put (ci := 10) (Cn := RX9) (T := TX9) (N := 29) (ref := "CairnCipherModel") (fs' := [.ref (A 0), .ref (A 1), .ref (A 2), .ref (A 3), .ref (A 4), .ref (A 5), .ref (A 6), .int (zI (σ 7 0)), .ref (A 8), .ref (A 9), .ref (A 10), .ref (A 11), .int (zI (σ 12 0)), .ref (A 13), .ref (A 14), .ref (A 15), .ref (A 16), .ref (A 17), .int (zI (σ 18 0)), .ref (A 19), .ref (A 20), .ref (A 21), .ref (A 22), .int (zI (σ 23 0)), .int (zI 1), .int (zI fo), .ref (A 26), .int (zI cm), .ref (A 28)]) C dX9_close_13 in_X9 rfl tyX9 tyX9_ok nmX9 hO 24 (by decide) (by decide +kernel) rfl rfl rfl rfl rfl (Nat.le_of_ble_eq_true rfl) rfl (fun μ9 hOw hF10 => ?_)
    have hMA : MA G μ9 A σ := hF10.ma hMA
    have hCi := hF10.ai hCi
    have hSu := hF10.ai hSu
    have hFr : Fr 3000 3999 μ μ9 := hFr.tr hF10
    have hO := hOw
    refine x_aload_n C dX9_close_16 rfl 0 rfl ?_
    refine x_get (ci := 10) (Cn := RX9) (T := TX9) (N := 29) (ref := "CairnCipherModel") C dX9_close_17 in_X9 rfl hO 24 (by decide) (by decide +kernel) rfl rfl ?_
    refine z_if_le (tgt := 25) C dX9_close_20 (by decide) (rg_of (by omega) (by omega)) (fun c_11 => ?_) (fun c_11 => ?_)
    · exfalso; omega
    · refine z_iconst C dX9_close_23 ?_
      exact x_zret C R dX9_close_24 (nar_z (by omega)) (Nat.le_of_ble_eq_true rfl) (Nat.le_of_ble_eq_true rfl) (⟨_, rfl, ⟨Or.inr ⟨by (rw [show t_p p = 1 from by (unfold t_p; (repeat split) <;> omega)]; omega), by (rw [show t_p p = 1 from by (unfold t_p; (repeat split) <;> omega)]; exact ⟨_, _, _, _, _, hO, hMA, hCi, hSu⟩)⟩, hFr⟩⟩)
  · refine z_iconst C dX9_close_8 ?_
    refine x_goto (tgt := 13) C dX9_close_9 (by decide) ?_
    refine z_put (ci := 10) (Cn := RX9) (T := TX9) (N := 29) (ref := "CairnCipherModel") (fs' := [.ref (A 0), .ref (A 1), .ref (A 2), .ref (A 3), .ref (A 4), .ref (A 5), .ref (A 6), .int (zI (σ 7 0)), .ref (A 8), .ref (A 9), .ref (A 10), .ref (A 11), .int (zI (σ 12 0)), .ref (A 13), .ref (A 14), .ref (A 15), .ref (A 16), .ref (A 17), .int (zI (σ 18 0)), .ref (A 19), .ref (A 20), .ref (A 21), .ref (A 22), .int (zI (σ 23 0)), .int (zI 0), .int (zI fo), .ref (A 26), .int (zI cm), .ref (A 28)]) C dX9_close_13 in_X9 rfl tyX9 tyX9_ok nmX9 hO 24 (by decide) (by decide +kernel) rfl rfl rfl rfl rfl (Nat.le_of_ble_eq_true rfl) rfl (fun μ12 hOw hF13 => ?_)
    have hMA : MA G μ12 A σ := hF13.ma hMA
    have hCi := hF13.ai hCi
    have hSu := hF13.ai hSu
    have hFr : Fr 3000 3999 μ μ12 := hFr.tr hF13
    have hO := hOw
    refine x_aload_n C dX9_close_16 rfl 0 rfl ?_
    refine x_get (ci := 10) (Cn := RX9) (T := TX9) (N := 29) (ref := "CairnCipherModel") C dX9_close_17 in_X9 rfl hO 24 (by decide) (by decide +kernel) rfl rfl ?_
    refine z_if_le (tgt := 25) C dX9_close_20 (by decide) (rg_of (by omega) (by omega)) (fun c_14 => ?_) (fun c_14 => ?_)
    · refine x_aload_n C dX9_close_25 rfl 0 rfl ?_
      refine x_get (ci := 10) (Cn := RX9) (T := TX9) (N := 29) (ref := "CairnCipherModel") C dX9_close_26 in_X9 rfl hO 1 (by decide) (by decide +kernel) rfl rfl ?_
      refine x_iload_n C dX9_close_29 rfl 1 rfl ?_
      refine x_aload_n C dX9_close_30 rfl 0 rfl ?_
      refine x_get (ci := 10) (Cn := RX9) (T := TX9) (N := 29) (ref := "CairnCipherModel") C dX9_close_31 in_X9 rfl hO 1 (by decide) (by decide +kernel) rfl rfl ?_
      refine x_iload_n C dX9_close_34 rfl 1 rfl ?_
      refine z_zald (j := p.toNat) C dX9_close_35 (show AZ G μ12 (A 1) 3002 64 (σ 1) from hMA.az 1 rfl) (by omega) (by omega) (by decide) ?_
      have q_15 := hI.r1 p.toNat (by omega)
      refine z_if_ne (tgt := 43) C dX9_close_36 (by decide) (rg_of (by omega) (by omega)) (fun c_16 => ?_) (fun c_16 => ?_)
      · refine z_iconst C dX9_close_43 ?_
        refine z_zast (j := p.toNat) C dX9_close_44 (show AZ G μ12 (A 1) 3002 64 (σ 1) from hMA.az 1 rfl) (by omega) (by omega) (by decide) (by omega) (fun μ17 hq19 hF18 => ?_)
        have hMAn : MA G μ17 A (su σ 1 (wr (σ 1) p.toNat 0)) := hMA.upz (k := 1) rfl hq19 hF18
        have hO := hF18.ob hO
        have hCi := hF18.ai hCi
        have hSu := hF18.ai hSu
        have hFr : Fr 3000 3999 μ μ17 := hFr.tr hF18
        have hMA := hMAn
        refine x_aload_n C dX9_close_45 rfl 0 rfl ?_
        refine x_get (ci := 10) (Cn := RX9) (T := TX9) (N := 29) (ref := "CairnCipherModel") C dX9_close_46 in_X9 rfl hO 1 (by decide) (by decide +kernel) rfl rfl ?_
        refine x_iload_n C dX9_close_49 rfl 1 rfl ?_
        refine z_zald (j := p.toNat) C dX9_close_50 (show AZ G μ17 (A 1) 3002 64 (wr (σ 1) p.toNat 0) from hMA.az 1 rfl) (by omega) (by omega) (by decide) ?_
        have hw9 := wr_at (g := σ 1) (j := p.toNat) (v := 0)
        have hMA : MA G μ17 A (n_close σ p) := by (unfold n_close; rw [show 1 - σ 1 p.toNat = 0 by omega]; exact hMA)
        exact x_zret C R dX9_close_51 (nar_z (by omega)) (Nat.le_of_ble_eq_true rfl) (Nat.le_of_ble_eq_true rfl) (⟨_, rfl, ⟨Or.inl ⟨by (unfold t_p; (repeat split) <;> omega), by omega, ⟨_, _, _, _, _, hO, hMA, hCi, hSu⟩⟩, hFr⟩⟩)
      · refine z_iconst C dX9_close_39 ?_
        refine x_goto (tgt := 44) C dX9_close_40 (by decide) ?_
        refine z_zast (j := p.toNat) C dX9_close_44 (show AZ G μ12 (A 1) 3002 64 (σ 1) from hMA.az 1 rfl) (by omega) (by omega) (by decide) (by omega) (fun μ20 hq22 hF21 => ?_)
        have hMAn : MA G μ20 A (su σ 1 (wr (σ 1) p.toNat 1)) := hMA.upz (k := 1) rfl hq22 hF21
        have hO := hF21.ob hO
        have hCi := hF21.ai hCi
        have hSu := hF21.ai hSu
        have hFr : Fr 3000 3999 μ μ20 := hFr.tr hF21
        have hMA := hMAn
        refine x_aload_n C dX9_close_45 rfl 0 rfl ?_
        refine x_get (ci := 10) (Cn := RX9) (T := TX9) (N := 29) (ref := "CairnCipherModel") C dX9_close_46 in_X9 rfl hO 1 (by decide) (by decide +kernel) rfl rfl ?_
        refine x_iload_n C dX9_close_49 rfl 1 rfl ?_
        refine z_zald (j := p.toNat) C dX9_close_50 (show AZ G μ20 (A 1) 3002 64 (wr (σ 1) p.toNat 1) from hMA.az 1 rfl) (by omega) (by omega) (by decide) ?_
        have hw9 := wr_at (g := σ 1) (j := p.toNat) (v := 1)
        have hMA : MA G μ20 A (n_close σ p) := by (unfold n_close; rw [show 1 - σ 1 p.toNat = 1 by omega]; exact hMA)
        exact x_zret C R dX9_close_51 (nar_z (by omega)) (Nat.le_of_ble_eq_true rfl) (Nat.le_of_ble_eq_true rfl) (⟨_, rfl, ⟨Or.inl ⟨by (unfold t_p; (repeat split) <;> omega), by omega, ⟨_, _, _, _, _, hO, hMA, hCi, hSu⟩⟩, hFr⟩⟩)
    · exfalso; omega
abbrev rm_X9_clearDraft : Room := { frames := 0, cells := 0, slots := 0, locals := 0 }
set_option maxHeartbeats 4000000 in
set_option maxRecDepth 100000 in
theorem c_X9_clearDraft (l : Launch) (hst : l.stackTraces = false) (G : GG) (z : Nat) (μ : Mm) (m : Nat) (σ : SS) (n : Nat) (th fo cm : Int) (Ci Su : Nat → Int) (A : Nat → Nat) (hM9 : RepY G μ m σ th fo cm Ci Su A) (hI : Iv σ n) : Ct l yX9_clearDraft wsX9_clearDraft rm_X9_clearDraft G z [.ref m] μ (rS (fun r9 μ' => (r9 = σ 6 0 ∧ RepM G μ' m (n_clearDraft σ) 0) ∧ Fr 3000 3999 μ μ')) (nX) := by
  refine ct_of (cc := cX9_clearDraft) (maxL := 2) (ret := (some .int)) (own := RX9) (by decide) rfl rfl hst (Nat.le_of_ble_eq_true rfl) ?_
  intro E hLl hnm C R hT
  have in_X9 : ∀ w ∈ u_ws RX9 TX9 29, w ∈ wsX9_clearDraft := by decide +kernel
  have hM8 := hM9
  obtain ⟨hO, hMA, hCi, hSu⟩ := hM9
  have hn7 := hI.n7
  have hn12 := hI.n12
  have hn18 := hI.n18
  have hn23 := hI.n23
  have hFr : Fr 3000 3999 μ μ := Fr.rf
  refine x_eq (lv' := [(0, .ref m)]) rfl rfl ?_
  refine x_aload_n C dX9_clearDraft_0 rfl 0 rfl ?_
  refine z_iconst C dX9_clearDraft_1 ?_
  refine z_put (ci := 10) (Cn := RX9) (T := TX9) (N := 29) (ref := "CairnCipherModel") (fs' := [.ref (A 0), .ref (A 1), .ref (A 2), .ref (A 3), .ref (A 4), .ref (A 5), .ref (A 6), .int (zI (σ 7 0)), .ref (A 8), .ref (A 9), .ref (A 10), .ref (A 11), .int (zI (σ 12 0)), .ref (A 13), .ref (A 14), .ref (A 15), .ref (A 16), .ref (A 17), .int (zI (σ 18 0)), .ref (A 19), .ref (A 20), .ref (A 21), .ref (A 22), .int (zI (σ 23 0)), .int (zI 0), .int (zI fo), .ref (A 26), .int (zI cm), .ref (A 28)]) C dX9_clearDraft_2 in_X9 rfl tyX9 tyX9_ok nmX9 hO 24 (by decide) (by decide +kernel) rfl rfl rfl rfl rfl (Nat.le_of_ble_eq_true rfl) rfl (fun μ1 hOw hF2 => ?_)
  have hMA : MA G μ1 A σ := hF2.ma hMA
  have hCi := hF2.ai hCi
  have hSu := hF2.ai hSu
  have hFr : Fr 3000 3999 μ μ1 := hFr.tr hF2
  have hO := hOw
  refine x_aload_n C dX9_clearDraft_5 rfl 0 rfl ?_
  refine x_get (ci := 10) (Cn := RX9) (T := TX9) (N := 29) (ref := "CairnCipherModel") C dX9_clearDraft_6 in_X9 rfl hO 6 (by decide) (by decide +kernel) rfl rfl ?_
  refine z_iconst C dX9_clearDraft_9 ?_
  refine z_iald (j := 0) C dX9_clearDraft_10 (show AI G μ1 (A 6) 3007 7 (σ 6) from hMA.ai 6 rfl) (by omega) (by omega) (by decide) ?_
  have q_3 := hI.r6 0 (by omega)
  refine x_istore_n (lv' := [(1, .int (zI ((σ 6) 0))), (0, .ref m)]) C dX9_clearDraft_11 rfl (by decide) rfl ?_
  refine x_aload_n C dX9_clearDraft_12 rfl 1 rfl ?_
  refine x_get (ci := 10) (Cn := RX9) (T := TX9) (N := 29) (ref := "CairnCipherModel") C dX9_clearDraft_13 in_X9 rfl hO 6 (by decide) (by decide +kernel) rfl rfl ?_
  refine z_iconst C dX9_clearDraft_16 ?_
  refine z_iconst C dX9_clearDraft_17 ?_
  refine z_iast (j := 0) C dX9_clearDraft_18 (show AI G μ1 (A 6) 3007 7 (σ 6) from hMA.ai 6 rfl) (by omega) (by omega) (by decide) (fun μ4 hq6 hF5 => ?_)
  have hMAn : MA G μ4 A (su σ 6 (wr (σ 6) 0 0)) := hMA.up (k := 6) rfl hq6 hF5
  have hO := hF5.ob hO
  have hCi := hF5.ai hCi
  have hSu := hF5.ai hSu
  have hFr : Fr 3000 3999 μ μ4 := hFr.tr hF5
  have hMA := hMAn
  refine x_iload_n C dX9_clearDraft_19 rfl 0 rfl ?_
  exact x_iret C R dX9_clearDraft_20 (Nat.le_of_ble_eq_true rfl) (Nat.le_of_ble_eq_true rfl) (⟨_, rfl, ⟨rfl, ⟨_, _, _, _, _, hO, hMA, hCi, hSu⟩⟩, hFr⟩)
abbrev rm_X9_clearSpelled : Room := { frames := 0, cells := 0, slots := 0, locals := 0 }
set_option maxHeartbeats 4000000 in
set_option maxRecDepth 100000 in
theorem c_X9_clearSpelled (l : Launch) (hst : l.stackTraces = false) (G : GG) (z : Nat) (μ : Mm) (m : Nat) (σ : SS) (n : Nat) (th fo cm : Int) (Ci Su : Nat → Int) (A : Nat → Nat) (hM9 : RepY G μ m σ th fo cm Ci Su A) (hI : Iv σ n) : Ct l yX9_clearSpelled wsX9_clearSpelled rm_X9_clearSpelled G z [.ref m] μ (rS (fun r9 μ' => (r9 = σ 11 0 ∧ RepM G μ' m (n_clearSpelled σ) 0) ∧ Fr 3000 3999 μ μ')) (nX) := by
  refine ct_of (cc := cX9_clearSpelled) (maxL := 2) (ret := (some .int)) (own := RX9) (by decide) rfl rfl hst (Nat.le_of_ble_eq_true rfl) ?_
  intro E hLl hnm C R hT
  have in_X9 : ∀ w ∈ u_ws RX9 TX9 29, w ∈ wsX9_clearSpelled := by decide +kernel
  have hM8 := hM9
  obtain ⟨hO, hMA, hCi, hSu⟩ := hM9
  have hn7 := hI.n7
  have hn12 := hI.n12
  have hn18 := hI.n18
  have hn23 := hI.n23
  have hFr : Fr 3000 3999 μ μ := Fr.rf
  refine x_eq (lv' := [(0, .ref m)]) rfl rfl ?_
  refine x_aload_n C dX9_clearSpelled_0 rfl 0 rfl ?_
  refine z_iconst C dX9_clearSpelled_1 ?_
  refine z_put (ci := 10) (Cn := RX9) (T := TX9) (N := 29) (ref := "CairnCipherModel") (fs' := [.ref (A 0), .ref (A 1), .ref (A 2), .ref (A 3), .ref (A 4), .ref (A 5), .ref (A 6), .int (zI (σ 7 0)), .ref (A 8), .ref (A 9), .ref (A 10), .ref (A 11), .int (zI (σ 12 0)), .ref (A 13), .ref (A 14), .ref (A 15), .ref (A 16), .ref (A 17), .int (zI (σ 18 0)), .ref (A 19), .ref (A 20), .ref (A 21), .ref (A 22), .int (zI (σ 23 0)), .int (zI 0), .int (zI fo), .ref (A 26), .int (zI cm), .ref (A 28)]) C dX9_clearSpelled_2 in_X9 rfl tyX9 tyX9_ok nmX9 hO 24 (by decide) (by decide +kernel) rfl rfl rfl rfl rfl (Nat.le_of_ble_eq_true rfl) rfl (fun μ1 hOw hF2 => ?_)
  have hMA : MA G μ1 A σ := hF2.ma hMA
  have hCi := hF2.ai hCi
  have hSu := hF2.ai hSu
  have hFr : Fr 3000 3999 μ μ1 := hFr.tr hF2
  have hO := hOw
  refine x_aload_n C dX9_clearSpelled_5 rfl 0 rfl ?_
  refine x_get (ci := 10) (Cn := RX9) (T := TX9) (N := 29) (ref := "CairnCipherModel") C dX9_clearSpelled_6 in_X9 rfl hO 11 (by decide) (by decide +kernel) rfl rfl ?_
  refine z_iconst C dX9_clearSpelled_9 ?_
  refine z_iald (j := 0) C dX9_clearSpelled_10 (show AI G μ1 (A 11) 3012 7 (σ 11) from hMA.ai 11 rfl) (by omega) (by omega) (by decide) ?_
  have q_3 := hI.r11 0 (by omega)
  refine x_istore_n (lv' := [(1, .int (zI ((σ 11) 0))), (0, .ref m)]) C dX9_clearSpelled_11 rfl (by decide) rfl ?_
  refine x_aload_n C dX9_clearSpelled_12 rfl 1 rfl ?_
  refine x_get (ci := 10) (Cn := RX9) (T := TX9) (N := 29) (ref := "CairnCipherModel") C dX9_clearSpelled_13 in_X9 rfl hO 11 (by decide) (by decide +kernel) rfl rfl ?_
  refine z_iconst C dX9_clearSpelled_16 ?_
  refine z_iconst C dX9_clearSpelled_17 ?_
  refine z_iast (j := 0) C dX9_clearSpelled_18 (show AI G μ1 (A 11) 3012 7 (σ 11) from hMA.ai 11 rfl) (by omega) (by omega) (by decide) (fun μ4 hq6 hF5 => ?_)
  have hMAn : MA G μ4 A (su σ 11 (wr (σ 11) 0 0)) := hMA.up (k := 11) rfl hq6 hF5
  have hO := hF5.ob hO
  have hCi := hF5.ai hCi
  have hSu := hF5.ai hSu
  have hFr : Fr 3000 3999 μ μ4 := hFr.tr hF5
  have hMA := hMAn
  refine x_iload_n C dX9_clearSpelled_19 rfl 0 rfl ?_
  exact x_iret C R dX9_clearSpelled_20 (Nat.le_of_ble_eq_true rfl) (Nat.le_of_ble_eq_true rfl) (⟨_, rfl, ⟨rfl, ⟨_, _, _, _, _, hO, hMA, hCi, hSu⟩⟩, hFr⟩)
abbrev rm_X9_now : Room := { frames := 0, cells := 0, slots := 0, locals := 0 }
set_option maxHeartbeats 4000000 in
set_option maxRecDepth 100000 in
theorem c_X9_now (l : Launch) (hst : l.stackTraces = false) (G : GG) (z : Nat) (μ : Mm) (m : Nat) (σ : SS) (n : Nat) (th fo cm : Int) (Ci Su : Nat → Int) (A : Nat → Nat) (hM9 : RepY G μ m σ th fo cm Ci Su A) (hI : Iv σ n) : Ct l yX9_now wsX9_now rm_X9_now G z [.ref m] μ (rS (fun r9 μ' => (r9 = σ 23 0 ∧ RepM G μ' m σ 0) ∧ Fr 3000 3999 μ μ')) (nX) := by
  refine ct_of (cc := cX9_now) (maxL := 1) (ret := (some .int)) (own := RX9) (by decide) rfl rfl hst (Nat.le_of_ble_eq_true rfl) ?_
  intro E hLl hnm C R hT
  have in_X9 : ∀ w ∈ u_ws RX9 TX9 29, w ∈ wsX9_now := by decide +kernel
  have hM8 := hM9
  obtain ⟨hO, hMA, hCi, hSu⟩ := hM9
  have hn7 := hI.n7
  have hn12 := hI.n12
  have hn18 := hI.n18
  have hn23 := hI.n23
  have hFr : Fr 3000 3999 μ μ := Fr.rf
  refine x_eq (lv' := [(0, .ref m)]) rfl rfl ?_
  refine x_aload_n C dX9_now_0 rfl 0 rfl ?_
  refine z_iconst C dX9_now_1 ?_
  refine z_put (ci := 10) (Cn := RX9) (T := TX9) (N := 29) (ref := "CairnCipherModel") (fs' := [.ref (A 0), .ref (A 1), .ref (A 2), .ref (A 3), .ref (A 4), .ref (A 5), .ref (A 6), .int (zI (σ 7 0)), .ref (A 8), .ref (A 9), .ref (A 10), .ref (A 11), .int (zI (σ 12 0)), .ref (A 13), .ref (A 14), .ref (A 15), .ref (A 16), .ref (A 17), .int (zI (σ 18 0)), .ref (A 19), .ref (A 20), .ref (A 21), .ref (A 22), .int (zI (σ 23 0)), .int (zI 0), .int (zI fo), .ref (A 26), .int (zI cm), .ref (A 28)]) C dX9_now_2 in_X9 rfl tyX9 tyX9_ok nmX9 hO 24 (by decide) (by decide +kernel) rfl rfl rfl rfl rfl (Nat.le_of_ble_eq_true rfl) rfl (fun μ1 hOw hF2 => ?_)
  have hMA : MA G μ1 A σ := hF2.ma hMA
  have hCi := hF2.ai hCi
  have hSu := hF2.ai hSu
  have hFr : Fr 3000 3999 μ μ1 := hFr.tr hF2
  have hO := hOw
  refine x_aload_n C dX9_now_5 rfl 0 rfl ?_
  refine x_get (ci := 10) (Cn := RX9) (T := TX9) (N := 29) (ref := "CairnCipherModel") C dX9_now_6 in_X9 rfl hO 23 (by decide) (by decide +kernel) rfl rfl ?_
  exact x_iret C R dX9_now_9 (Nat.le_of_ble_eq_true rfl) (Nat.le_of_ble_eq_true rfl) (⟨_, rfl, ⟨rfl, ⟨_, _, _, _, _, hO, hMA, hCi, hSu⟩⟩, hFr⟩)
abbrev rm_X9_placeOf : Room := { frames := 2, cells := 0, slots := 0, locals := 43 }
set_option maxHeartbeats 4000000 in
set_option maxRecDepth 100000 in
theorem c_X9_placeOf (l : Launch) (hst : l.stackTraces = false) (G : GG) (z : Nat) (μ : Mm) (m : Nat) (σ : SS) (n : Nat) (th fo cm : Int) (Ci Su : Nat → Int) (A : Nat → Nat) (k : Int) (hM9 : RepY G μ m σ th fo cm Ci Su A) (hI : Iv σ n) (hk : -2147483648 ≤ k ∧ k < 2147483648) : Ct l yX9_placeOf wsX9_placeOf rm_X9_placeOf G z [.ref m, .int (zI k)] μ (rS (fun r9 μ' => MR G μ' m (t_st σ k) (σ 8 k.toNat) σ (σ) r9 ∧ Fr 3000 3999 μ μ')) (nX) := by
  refine ct_of (cc := cX9_placeOf) (maxL := 2) (ret := (some .int)) (own := RX9) (by decide) rfl rfl hst (Nat.le_of_ble_eq_true rfl) ?_
  intro E hLl hnm C R hT
  have in_X9 : ∀ w ∈ u_ws RX9 TX9 29, w ∈ wsX9_placeOf := by decide +kernel
  have hM8 := hM9
  obtain ⟨hO, hMA, hCi, hSu⟩ := hM9
  have hn7 := hI.n7
  have hn12 := hI.n12
  have hn18 := hI.n18
  have hn23 := hI.n23
  have hFr : Fr 3000 3999 μ μ := Fr.rf
  refine x_eq (lv' := [(0, .ref m), (1, .int (zI k))]) rfl rfl ?_
  refine x_aload_n C dX9_placeOf_0 rfl 0 rfl ?_
  refine x_aload_n C dX9_placeOf_1 rfl 0 rfl ?_
  refine x_iload_n C dX9_placeOf_2 rfl 1 rfl ?_
  refine x_callV (n := 1) (ci := 10) (Cn := RX9) (T := TX9) (N := 29) (cc9 := 0) (ss9 := 0) (rest := [.ref m]) C dX9_placeOf_3 (c_X9_isStage (kxL E) C.st G z μ _ σ _ _ _ _ _ _ _ k ⟨hO, hMA, hCi, hSu⟩ hI (by omega)) gX9_placeOf_X9_isStage rfl (by decide +kernel) ⟨(Nat.le_of_ble_eq_true rfl), (Nat.le_of_ble_eq_true rfl)⟩ rfl ⟨_, _, hO⟩ rfl rfl (Nat.le_of_ble_eq_true rfl) rfl rfl ⟨(Nat.le_of_ble_eq_true rfl), (Nat.le_of_ble_eq_true rfl)⟩ nX_no (fun v1 μ2 hv3 => ?_)
  obtain ⟨r4, hw7, h5, hm6⟩ := hv3
  subst hw7
  rw [hm6]
  refine x_stk (stk' := [.int (zI r4), .ref m]) rfl ?_
  refine z_if_eq (tgt := 13) C dX9_placeOf_6 (by decide) (rg_of (by omega) (by omega)) (fun c_8 => ?_) (fun c_8 => ?_)
  · refine z_iconst C dX9_placeOf_13 ?_
    refine z_put (ci := 10) (Cn := RX9) (T := TX9) (N := 29) (ref := "CairnCipherModel") (fs' := [.ref (A 0), .ref (A 1), .ref (A 2), .ref (A 3), .ref (A 4), .ref (A 5), .ref (A 6), .int (zI (σ 7 0)), .ref (A 8), .ref (A 9), .ref (A 10), .ref (A 11), .int (zI (σ 12 0)), .ref (A 13), .ref (A 14), .ref (A 15), .ref (A 16), .ref (A 17), .int (zI (σ 18 0)), .ref (A 19), .ref (A 20), .ref (A 21), .ref (A 22), .int (zI (σ 23 0)), .int (zI 1), .int (zI fo), .ref (A 26), .int (zI cm), .ref (A 28)]) C dX9_placeOf_14 in_X9 rfl tyX9 tyX9_ok nmX9 hO 24 (by decide) (by decide +kernel) rfl rfl rfl rfl rfl (Nat.le_of_ble_eq_true rfl) rfl (fun μ9 hOw hF10 => ?_)
    have hMA : MA G μ9 A σ := hF10.ma hMA
    have hCi := hF10.ai hCi
    have hSu := hF10.ai hSu
    have hFr : Fr 3000 3999 μ μ9 := hFr.tr hF10
    have hO := hOw
    refine x_aload_n C dX9_placeOf_17 rfl 0 rfl ?_
    refine x_get (ci := 10) (Cn := RX9) (T := TX9) (N := 29) (ref := "CairnCipherModel") C dX9_placeOf_18 in_X9 rfl hO 24 (by decide) (by decide +kernel) rfl rfl ?_
    refine z_if_ne (tgt := 33) C dX9_placeOf_21 (by decide) (rg_of (by omega) (by omega)) (fun c_11 => ?_) (fun c_11 => ?_)
    · refine z_iconst C dX9_placeOf_33 ?_
      exact x_iret C R dX9_placeOf_34 (Nat.le_of_ble_eq_true rfl) (Nat.le_of_ble_eq_true rfl) (⟨_, rfl, ⟨Or.inr ⟨by (rw [show t_st σ k = 1 from by (unfold t_st; (repeat split) <;> omega)]; omega), by (rw [show t_st σ k = 1 from by (unfold t_st; (repeat split) <;> omega)]; exact ⟨_, _, _, _, _, hO, hMA, hCi, hSu⟩)⟩, hFr⟩⟩)
    · exfalso; omega
  · refine z_iconst C dX9_placeOf_9 ?_
    refine x_goto (tgt := 14) C dX9_placeOf_10 (by decide) ?_
    refine z_put (ci := 10) (Cn := RX9) (T := TX9) (N := 29) (ref := "CairnCipherModel") (fs' := [.ref (A 0), .ref (A 1), .ref (A 2), .ref (A 3), .ref (A 4), .ref (A 5), .ref (A 6), .int (zI (σ 7 0)), .ref (A 8), .ref (A 9), .ref (A 10), .ref (A 11), .int (zI (σ 12 0)), .ref (A 13), .ref (A 14), .ref (A 15), .ref (A 16), .ref (A 17), .int (zI (σ 18 0)), .ref (A 19), .ref (A 20), .ref (A 21), .ref (A 22), .int (zI (σ 23 0)), .int (zI 0), .int (zI fo), .ref (A 26), .int (zI cm), .ref (A 28)]) C dX9_placeOf_14 in_X9 rfl tyX9 tyX9_ok nmX9 hO 24 (by decide) (by decide +kernel) rfl rfl rfl rfl rfl (Nat.le_of_ble_eq_true rfl) rfl (fun μ12 hOw hF13 => ?_)
    have hMA : MA G μ12 A σ := hF13.ma hMA
    have hCi := hF13.ai hCi
    have hSu := hF13.ai hSu
    have hFr : Fr 3000 3999 μ μ12 := hFr.tr hF13
    have hO := hOw
    refine x_aload_n C dX9_placeOf_17 rfl 0 rfl ?_
    refine x_get (ci := 10) (Cn := RX9) (T := TX9) (N := 29) (ref := "CairnCipherModel") C dX9_placeOf_18 in_X9 rfl hO 24 (by decide) (by decide +kernel) rfl rfl ?_
    refine z_if_ne (tgt := 33) C dX9_placeOf_21 (by decide) (rg_of (by omega) (by omega)) (fun c_14 => ?_) (fun c_14 => ?_)
    · exfalso; omega
    · refine x_aload_n C dX9_placeOf_24 rfl 0 rfl ?_
      refine x_get (ci := 10) (Cn := RX9) (T := TX9) (N := 29) (ref := "CairnCipherModel") C dX9_placeOf_25 in_X9 rfl hO 8 (by decide) (by decide +kernel) rfl rfl ?_
      refine x_iload_n C dX9_placeOf_28 rfl 1 rfl ?_
      refine z_iald (j := k.toNat) C dX9_placeOf_29 (show AI G μ12 (A 8) 3009 6 (σ 8) from hMA.ai 8 rfl) (by omega) (by omega) (by decide) ?_
      have q_15 := hI.r8 k.toNat (by omega)
      refine x_goto (tgt := 34) C dX9_placeOf_30 (by decide) ?_
      exact x_iret C R dX9_placeOf_34 (Nat.le_of_ble_eq_true rfl) (Nat.le_of_ble_eq_true rfl) (⟨_, rfl, ⟨Or.inl ⟨by (unfold t_st; (repeat split) <;> omega), by omega, ⟨_, _, _, _, _, hO, hMA, hCi, hSu⟩⟩, hFr⟩⟩)
abbrev rm_X9_moves : Room := { frames := 2, cells := 0, slots := 0, locals := 43 }
set_option maxHeartbeats 4000000 in
set_option maxRecDepth 100000 in
theorem c_X9_moves (l : Launch) (hst : l.stackTraces = false) (G : GG) (z : Nat) (μ : Mm) (m : Nat) (σ : SS) (n : Nat) (th fo cm : Int) (Ci Su : Nat → Int) (A : Nat → Nat) (k : Int) (hM9 : RepY G μ m σ th fo cm Ci Su A) (hI : Iv σ n) (hk : -2147483648 ≤ k ∧ k < 2147483648) (hn5 : n ≤ 600) : Ct l yX9_moves wsX9_moves rm_X9_moves G z [.ref m, .int (zI k)] μ (rS (fun r9 μ' => MR G μ' m (t_st σ k) (σ 9 k.toNat) σ (σ) r9 ∧ Fr 3000 3999 μ μ')) (nX) := by
  refine ct_of (cc := cX9_moves) (maxL := 2) (ret := (some .int)) (own := RX9) (by decide) rfl rfl hst (Nat.le_of_ble_eq_true rfl) ?_
  intro E hLl hnm C R hT
  have in_X9 : ∀ w ∈ u_ws RX9 TX9 29, w ∈ wsX9_moves := by decide +kernel
  have hM8 := hM9
  obtain ⟨hO, hMA, hCi, hSu⟩ := hM9
  have hn7 := hI.n7
  have hn12 := hI.n12
  have hn18 := hI.n18
  have hn23 := hI.n23
  have hFr : Fr 3000 3999 μ μ := Fr.rf
  refine x_eq (lv' := [(0, .ref m), (1, .int (zI k))]) rfl rfl ?_
  refine x_aload_n C dX9_moves_0 rfl 0 rfl ?_
  refine x_aload_n C dX9_moves_1 rfl 0 rfl ?_
  refine x_iload_n C dX9_moves_2 rfl 1 rfl ?_
  refine x_callV (n := 1) (ci := 10) (Cn := RX9) (T := TX9) (N := 29) (cc9 := 0) (ss9 := 0) (rest := [.ref m]) C dX9_moves_3 (c_X9_isStage (kxL E) C.st G z μ _ σ _ _ _ _ _ _ _ k ⟨hO, hMA, hCi, hSu⟩ hI (by omega)) gX9_moves_X9_isStage rfl (by decide +kernel) ⟨(Nat.le_of_ble_eq_true rfl), (Nat.le_of_ble_eq_true rfl)⟩ rfl ⟨_, _, hO⟩ rfl rfl (Nat.le_of_ble_eq_true rfl) rfl rfl ⟨(Nat.le_of_ble_eq_true rfl), (Nat.le_of_ble_eq_true rfl)⟩ nX_no (fun v1 μ2 hv3 => ?_)
  obtain ⟨r4, hw7, h5, hm6⟩ := hv3
  subst hw7
  rw [hm6]
  refine x_stk (stk' := [.int (zI r4), .ref m]) rfl ?_
  refine z_if_eq (tgt := 13) C dX9_moves_6 (by decide) (rg_of (by omega) (by omega)) (fun c_8 => ?_) (fun c_8 => ?_)
  · refine z_iconst C dX9_moves_13 ?_
    refine z_put (ci := 10) (Cn := RX9) (T := TX9) (N := 29) (ref := "CairnCipherModel") (fs' := [.ref (A 0), .ref (A 1), .ref (A 2), .ref (A 3), .ref (A 4), .ref (A 5), .ref (A 6), .int (zI (σ 7 0)), .ref (A 8), .ref (A 9), .ref (A 10), .ref (A 11), .int (zI (σ 12 0)), .ref (A 13), .ref (A 14), .ref (A 15), .ref (A 16), .ref (A 17), .int (zI (σ 18 0)), .ref (A 19), .ref (A 20), .ref (A 21), .ref (A 22), .int (zI (σ 23 0)), .int (zI 1), .int (zI fo), .ref (A 26), .int (zI cm), .ref (A 28)]) C dX9_moves_14 in_X9 rfl tyX9 tyX9_ok nmX9 hO 24 (by decide) (by decide +kernel) rfl rfl rfl rfl rfl (Nat.le_of_ble_eq_true rfl) rfl (fun μ9 hOw hF10 => ?_)
    have hMA : MA G μ9 A σ := hF10.ma hMA
    have hCi := hF10.ai hCi
    have hSu := hF10.ai hSu
    have hFr : Fr 3000 3999 μ μ9 := hFr.tr hF10
    have hO := hOw
    refine x_aload_n C dX9_moves_17 rfl 0 rfl ?_
    refine x_get (ci := 10) (Cn := RX9) (T := TX9) (N := 29) (ref := "CairnCipherModel") C dX9_moves_18 in_X9 rfl hO 24 (by decide) (by decide +kernel) rfl rfl ?_
    refine z_if_ne (tgt := 33) C dX9_moves_21 (by decide) (rg_of (by omega) (by omega)) (fun c_11 => ?_) (fun c_11 => ?_)
    · refine z_iconst C dX9_moves_33 ?_
      exact x_iret C R dX9_moves_34 (Nat.le_of_ble_eq_true rfl) (Nat.le_of_ble_eq_true rfl) (⟨_, rfl, ⟨Or.inr ⟨by (rw [show t_st σ k = 1 from by (unfold t_st; (repeat split) <;> omega)]; omega), by (rw [show t_st σ k = 1 from by (unfold t_st; (repeat split) <;> omega)]; exact ⟨_, _, _, _, _, hO, hMA, hCi, hSu⟩)⟩, hFr⟩⟩)
    · exfalso; omega
  · refine z_iconst C dX9_moves_9 ?_
    refine x_goto (tgt := 14) C dX9_moves_10 (by decide) ?_
    refine z_put (ci := 10) (Cn := RX9) (T := TX9) (N := 29) (ref := "CairnCipherModel") (fs' := [.ref (A 0), .ref (A 1), .ref (A 2), .ref (A 3), .ref (A 4), .ref (A 5), .ref (A 6), .int (zI (σ 7 0)), .ref (A 8), .ref (A 9), .ref (A 10), .ref (A 11), .int (zI (σ 12 0)), .ref (A 13), .ref (A 14), .ref (A 15), .ref (A 16), .ref (A 17), .int (zI (σ 18 0)), .ref (A 19), .ref (A 20), .ref (A 21), .ref (A 22), .int (zI (σ 23 0)), .int (zI 0), .int (zI fo), .ref (A 26), .int (zI cm), .ref (A 28)]) C dX9_moves_14 in_X9 rfl tyX9 tyX9_ok nmX9 hO 24 (by decide) (by decide +kernel) rfl rfl rfl rfl rfl (Nat.le_of_ble_eq_true rfl) rfl (fun μ12 hOw hF13 => ?_)
    have hMA : MA G μ12 A σ := hF13.ma hMA
    have hCi := hF13.ai hCi
    have hSu := hF13.ai hSu
    have hFr : Fr 3000 3999 μ μ12 := hFr.tr hF13
    have hO := hOw
    refine x_aload_n C dX9_moves_17 rfl 0 rfl ?_
    refine x_get (ci := 10) (Cn := RX9) (T := TX9) (N := 29) (ref := "CairnCipherModel") C dX9_moves_18 in_X9 rfl hO 24 (by decide) (by decide +kernel) rfl rfl ?_
    refine z_if_ne (tgt := 33) C dX9_moves_21 (by decide) (rg_of (by omega) (by omega)) (fun c_14 => ?_) (fun c_14 => ?_)
    · exfalso; omega
    · refine x_aload_n C dX9_moves_24 rfl 0 rfl ?_
      refine x_get (ci := 10) (Cn := RX9) (T := TX9) (N := 29) (ref := "CairnCipherModel") C dX9_moves_25 in_X9 rfl hO 9 (by decide) (by decide +kernel) rfl rfl ?_
      refine x_iload_n C dX9_moves_28 rfl 1 rfl ?_
      refine z_iald (j := k.toNat) C dX9_moves_29 (show AI G μ12 (A 9) 3010 6 (σ 9) from hMA.ai 9 rfl) (by omega) (by omega) (by decide) ?_
      have q_15 := hI.r9 k.toNat (by omega)
      refine x_goto (tgt := 34) C dX9_moves_30 (by decide) ?_
      exact x_iret C R dX9_moves_34 (Nat.le_of_ble_eq_true rfl) (Nat.le_of_ble_eq_true rfl) (⟨_, rfl, ⟨Or.inl ⟨by (unfold t_st; (repeat split) <;> omega), by omega, ⟨_, _, _, _, _, hO, hMA, hCi, hSu⟩⟩, hFr⟩⟩)
abbrev rm_X9_at : Room := { frames := 2, cells := 0, slots := 0, locals := 43 }
set_option maxHeartbeats 4000000 in
set_option maxRecDepth 100000 in
theorem c_X9_at (l : Launch) (hst : l.stackTraces = false) (G : GG) (z : Nat) (μ : Mm) (m : Nat) (σ : SS) (n : Nat) (th fo cm : Int) (Ci Su : Nat → Int) (A : Nat → Nat) (k : Int) (hM9 : RepY G μ m σ th fo cm Ci Su A) (hI : Iv σ n) (hk : -2147483648 ≤ k ∧ k < 2147483648) : Ct l yX9_at wsX9_at rm_X9_at G z [.ref m, .int (zI k)] μ (rS (fun r9 μ' => MR G μ' m (t_wk σ k) (σ 14 k.toNat) σ (σ) r9 ∧ Fr 3000 3999 μ μ')) (nX) := by
  refine ct_of (cc := cX9_at) (maxL := 2) (ret := (some .int)) (own := RX9) (by decide) rfl rfl hst (Nat.le_of_ble_eq_true rfl) ?_
  intro E hLl hnm C R hT
  have in_X9 : ∀ w ∈ u_ws RX9 TX9 29, w ∈ wsX9_at := by decide +kernel
  have hM8 := hM9
  obtain ⟨hO, hMA, hCi, hSu⟩ := hM9
  have hn7 := hI.n7
  have hn12 := hI.n12
  have hn18 := hI.n18
  have hn23 := hI.n23
  have hFr : Fr 3000 3999 μ μ := Fr.rf
  refine x_eq (lv' := [(0, .ref m), (1, .int (zI k))]) rfl rfl ?_
  refine x_aload_n C dX9_at_0 rfl 0 rfl ?_
  refine x_aload_n C dX9_at_1 rfl 0 rfl ?_
  refine x_iload_n C dX9_at_2 rfl 1 rfl ?_
  refine x_callV (n := 1) (ci := 10) (Cn := RX9) (T := TX9) (N := 29) (cc9 := 0) (ss9 := 0) (rest := [.ref m]) C dX9_at_3 (c_X9_isWalker (kxL E) C.st G z μ _ σ _ _ _ _ _ _ _ k ⟨hO, hMA, hCi, hSu⟩ hI (by omega)) gX9_at_X9_isWalker rfl (by decide +kernel) ⟨(Nat.le_of_ble_eq_true rfl), (Nat.le_of_ble_eq_true rfl)⟩ rfl ⟨_, _, hO⟩ rfl rfl (Nat.le_of_ble_eq_true rfl) rfl rfl ⟨(Nat.le_of_ble_eq_true rfl), (Nat.le_of_ble_eq_true rfl)⟩ nX_no (fun v1 μ2 hv3 => ?_)
  obtain ⟨r4, hw7, h5, hm6⟩ := hv3
  subst hw7
  rw [hm6]
  refine x_stk (stk' := [.int (zI r4), .ref m]) rfl ?_
  refine z_if_eq (tgt := 13) C dX9_at_6 (by decide) (rg_of (by omega) (by omega)) (fun c_8 => ?_) (fun c_8 => ?_)
  · refine z_iconst C dX9_at_13 ?_
    refine z_put (ci := 10) (Cn := RX9) (T := TX9) (N := 29) (ref := "CairnCipherModel") (fs' := [.ref (A 0), .ref (A 1), .ref (A 2), .ref (A 3), .ref (A 4), .ref (A 5), .ref (A 6), .int (zI (σ 7 0)), .ref (A 8), .ref (A 9), .ref (A 10), .ref (A 11), .int (zI (σ 12 0)), .ref (A 13), .ref (A 14), .ref (A 15), .ref (A 16), .ref (A 17), .int (zI (σ 18 0)), .ref (A 19), .ref (A 20), .ref (A 21), .ref (A 22), .int (zI (σ 23 0)), .int (zI 1), .int (zI fo), .ref (A 26), .int (zI cm), .ref (A 28)]) C dX9_at_14 in_X9 rfl tyX9 tyX9_ok nmX9 hO 24 (by decide) (by decide +kernel) rfl rfl rfl rfl rfl (Nat.le_of_ble_eq_true rfl) rfl (fun μ9 hOw hF10 => ?_)
    have hMA : MA G μ9 A σ := hF10.ma hMA
    have hCi := hF10.ai hCi
    have hSu := hF10.ai hSu
    have hFr : Fr 3000 3999 μ μ9 := hFr.tr hF10
    have hO := hOw
    refine x_aload_n C dX9_at_17 rfl 0 rfl ?_
    refine x_get (ci := 10) (Cn := RX9) (T := TX9) (N := 29) (ref := "CairnCipherModel") C dX9_at_18 in_X9 rfl hO 24 (by decide) (by decide +kernel) rfl rfl ?_
    refine z_if_ne (tgt := 33) C dX9_at_21 (by decide) (rg_of (by omega) (by omega)) (fun c_11 => ?_) (fun c_11 => ?_)
    · refine z_iconst C dX9_at_33 ?_
      exact x_iret C R dX9_at_34 (Nat.le_of_ble_eq_true rfl) (Nat.le_of_ble_eq_true rfl) (⟨_, rfl, ⟨Or.inr ⟨by (rw [show t_wk σ k = 1 from by (unfold t_wk; (repeat split) <;> omega)]; omega), by (rw [show t_wk σ k = 1 from by (unfold t_wk; (repeat split) <;> omega)]; exact ⟨_, _, _, _, _, hO, hMA, hCi, hSu⟩)⟩, hFr⟩⟩)
    · exfalso; omega
  · refine z_iconst C dX9_at_9 ?_
    refine x_goto (tgt := 14) C dX9_at_10 (by decide) ?_
    refine z_put (ci := 10) (Cn := RX9) (T := TX9) (N := 29) (ref := "CairnCipherModel") (fs' := [.ref (A 0), .ref (A 1), .ref (A 2), .ref (A 3), .ref (A 4), .ref (A 5), .ref (A 6), .int (zI (σ 7 0)), .ref (A 8), .ref (A 9), .ref (A 10), .ref (A 11), .int (zI (σ 12 0)), .ref (A 13), .ref (A 14), .ref (A 15), .ref (A 16), .ref (A 17), .int (zI (σ 18 0)), .ref (A 19), .ref (A 20), .ref (A 21), .ref (A 22), .int (zI (σ 23 0)), .int (zI 0), .int (zI fo), .ref (A 26), .int (zI cm), .ref (A 28)]) C dX9_at_14 in_X9 rfl tyX9 tyX9_ok nmX9 hO 24 (by decide) (by decide +kernel) rfl rfl rfl rfl rfl (Nat.le_of_ble_eq_true rfl) rfl (fun μ12 hOw hF13 => ?_)
    have hMA : MA G μ12 A σ := hF13.ma hMA
    have hCi := hF13.ai hCi
    have hSu := hF13.ai hSu
    have hFr : Fr 3000 3999 μ μ12 := hFr.tr hF13
    have hO := hOw
    refine x_aload_n C dX9_at_17 rfl 0 rfl ?_
    refine x_get (ci := 10) (Cn := RX9) (T := TX9) (N := 29) (ref := "CairnCipherModel") C dX9_at_18 in_X9 rfl hO 24 (by decide) (by decide +kernel) rfl rfl ?_
    refine z_if_ne (tgt := 33) C dX9_at_21 (by decide) (rg_of (by omega) (by omega)) (fun c_14 => ?_) (fun c_14 => ?_)
    · exfalso; omega
    · refine x_aload_n C dX9_at_24 rfl 0 rfl ?_
      refine x_get (ci := 10) (Cn := RX9) (T := TX9) (N := 29) (ref := "CairnCipherModel") C dX9_at_25 in_X9 rfl hO 14 (by decide) (by decide +kernel) rfl rfl ?_
      refine x_iload_n C dX9_at_28 rfl 1 rfl ?_
      refine z_iald (j := k.toNat) C dX9_at_29 (show AI G μ12 (A 14) 3015 6 (σ 14) from hMA.ai 14 rfl) (by omega) (by omega) (by decide) ?_
      have q_15 := hI.r14 k.toNat (by omega)
      refine x_goto (tgt := 34) C dX9_at_30 (by decide) ?_
      exact x_iret C R dX9_at_34 (Nat.le_of_ble_eq_true rfl) (Nat.le_of_ble_eq_true rfl) (⟨_, rfl, ⟨Or.inl ⟨by (unfold t_wk; (repeat split) <;> omega), by omega, ⟨_, _, _, _, _, hO, hMA, hCi, hSu⟩⟩, hFr⟩⟩)
abbrev rm_X9_rests : Room := { frames := 2, cells := 0, slots := 0, locals := 43 }
set_option maxHeartbeats 4000000 in
set_option maxRecDepth 100000 in
theorem c_X9_rests (l : Launch) (hst : l.stackTraces = false) (G : GG) (z : Nat) (μ : Mm) (m : Nat) (σ : SS) (n : Nat) (th fo cm : Int) (Ci Su : Nat → Int) (A : Nat → Nat) (k : Int) (hM9 : RepY G μ m σ th fo cm Ci Su A) (hI : Iv σ n) (hk : -2147483648 ≤ k ∧ k < 2147483648) : Ct l yX9_rests wsX9_rests rm_X9_rests G z [.ref m, .int (zI k)] μ (rS (fun r9 μ' => MR G μ' m (t_wk σ k) (if σ 15 k.toNat = -1 ∧ σ 16 k.toNat = -1 then 1 else 0) σ (σ) r9 ∧ Fr 3000 3999 μ μ')) (nX) := by
  refine ct_of (cc := cX9_rests) (maxL := 2) (ret := (some .boolean)) (own := RX9) (by decide) rfl rfl hst (Nat.le_of_ble_eq_true rfl) ?_
  intro E hLl hnm C R hT
  have in_X9 : ∀ w ∈ u_ws RX9 TX9 29, w ∈ wsX9_rests := by decide +kernel
  have hM8 := hM9
  obtain ⟨hO, hMA, hCi, hSu⟩ := hM9
  have hn7 := hI.n7
  have hn12 := hI.n12
  have hn18 := hI.n18
  have hn23 := hI.n23
  have hFr : Fr 3000 3999 μ μ := Fr.rf
  refine x_eq (lv' := [(0, .ref m), (1, .int (zI k))]) rfl rfl ?_
  refine x_aload_n C dX9_rests_0 rfl 0 rfl ?_
  refine x_aload_n C dX9_rests_1 rfl 0 rfl ?_
  refine x_iload_n C dX9_rests_2 rfl 1 rfl ?_
  refine x_callV (n := 1) (ci := 10) (Cn := RX9) (T := TX9) (N := 29) (cc9 := 0) (ss9 := 0) (rest := [.ref m]) C dX9_rests_3 (c_X9_isWalker (kxL E) C.st G z μ _ σ _ _ _ _ _ _ _ k ⟨hO, hMA, hCi, hSu⟩ hI (by omega)) gX9_rests_X9_isWalker rfl (by decide +kernel) ⟨(Nat.le_of_ble_eq_true rfl), (Nat.le_of_ble_eq_true rfl)⟩ rfl ⟨_, _, hO⟩ rfl rfl (Nat.le_of_ble_eq_true rfl) rfl rfl ⟨(Nat.le_of_ble_eq_true rfl), (Nat.le_of_ble_eq_true rfl)⟩ nX_no (fun v1 μ2 hv3 => ?_)
  obtain ⟨r4, hw7, h5, hm6⟩ := hv3
  subst hw7
  rw [hm6]
  refine x_stk (stk' := [.int (zI r4), .ref m]) rfl ?_
  refine z_if_eq (tgt := 13) C dX9_rests_6 (by decide) (rg_of (by omega) (by omega)) (fun c_8 => ?_) (fun c_8 => ?_)
  · refine z_iconst C dX9_rests_13 ?_
    refine z_put (ci := 10) (Cn := RX9) (T := TX9) (N := 29) (ref := "CairnCipherModel") (fs' := [.ref (A 0), .ref (A 1), .ref (A 2), .ref (A 3), .ref (A 4), .ref (A 5), .ref (A 6), .int (zI (σ 7 0)), .ref (A 8), .ref (A 9), .ref (A 10), .ref (A 11), .int (zI (σ 12 0)), .ref (A 13), .ref (A 14), .ref (A 15), .ref (A 16), .ref (A 17), .int (zI (σ 18 0)), .ref (A 19), .ref (A 20), .ref (A 21), .ref (A 22), .int (zI (σ 23 0)), .int (zI 1), .int (zI fo), .ref (A 26), .int (zI cm), .ref (A 28)]) C dX9_rests_14 in_X9 rfl tyX9 tyX9_ok nmX9 hO 24 (by decide) (by decide +kernel) rfl rfl rfl rfl rfl (Nat.le_of_ble_eq_true rfl) rfl (fun μ9 hOw hF10 => ?_)
    have hMA : MA G μ9 A σ := hF10.ma hMA
    have hCi := hF10.ai hCi
    have hSu := hF10.ai hSu
    have hFr : Fr 3000 3999 μ μ9 := hFr.tr hF10
    have hO := hOw
    refine x_aload_n C dX9_rests_17 rfl 0 rfl ?_
    refine x_get (ci := 10) (Cn := RX9) (T := TX9) (N := 29) (ref := "CairnCipherModel") C dX9_rests_18 in_X9 rfl hO 24 (by decide) (by decide +kernel) rfl rfl ?_
    refine z_if_ne (tgt := 36) C dX9_rests_21 (by decide) (rg_of (by omega) (by omega)) (fun c_11 => ?_) (fun c_11 => ?_)
    · refine z_iconst C dX9_rests_36 ?_
      exact x_zret C R dX9_rests_37 (nar_z (by omega)) (Nat.le_of_ble_eq_true rfl) (Nat.le_of_ble_eq_true rfl) (⟨_, rfl, ⟨Or.inr ⟨by (rw [show t_wk σ k = 1 from by (unfold t_wk; (repeat split) <;> omega)]; omega), by (rw [show t_wk σ k = 1 from by (unfold t_wk; (repeat split) <;> omega)]; exact ⟨_, _, _, _, _, hO, hMA, hCi, hSu⟩)⟩, hFr⟩⟩)
    · exfalso; omega
  · refine z_iconst C dX9_rests_9 ?_
    refine x_goto (tgt := 14) C dX9_rests_10 (by decide) ?_
    refine z_put (ci := 10) (Cn := RX9) (T := TX9) (N := 29) (ref := "CairnCipherModel") (fs' := [.ref (A 0), .ref (A 1), .ref (A 2), .ref (A 3), .ref (A 4), .ref (A 5), .ref (A 6), .int (zI (σ 7 0)), .ref (A 8), .ref (A 9), .ref (A 10), .ref (A 11), .int (zI (σ 12 0)), .ref (A 13), .ref (A 14), .ref (A 15), .ref (A 16), .ref (A 17), .int (zI (σ 18 0)), .ref (A 19), .ref (A 20), .ref (A 21), .ref (A 22), .int (zI (σ 23 0)), .int (zI 0), .int (zI fo), .ref (A 26), .int (zI cm), .ref (A 28)]) C dX9_rests_14 in_X9 rfl tyX9 tyX9_ok nmX9 hO 24 (by decide) (by decide +kernel) rfl rfl rfl rfl rfl (Nat.le_of_ble_eq_true rfl) rfl (fun μ12 hOw hF13 => ?_)
    have hMA : MA G μ12 A σ := hF13.ma hMA
    have hCi := hF13.ai hCi
    have hSu := hF13.ai hSu
    have hFr : Fr 3000 3999 μ μ12 := hFr.tr hF13
    have hO := hOw
    refine x_aload_n C dX9_rests_17 rfl 0 rfl ?_
    refine x_get (ci := 10) (Cn := RX9) (T := TX9) (N := 29) (ref := "CairnCipherModel") C dX9_rests_18 in_X9 rfl hO 24 (by decide) (by decide +kernel) rfl rfl ?_
    refine z_if_ne (tgt := 36) C dX9_rests_21 (by decide) (rg_of (by omega) (by omega)) (fun c_14 => ?_) (fun c_14 => ?_)
    · exfalso; omega
    · refine x_aload_n C dX9_rests_24 rfl 0 rfl ?_
      refine x_iload_n C dX9_rests_25 rfl 1 rfl ?_
      refine x_callV (n := 1) (ci := 10) (Cn := RX9) (T := TX9) (N := 29) (cc9 := 0) (ss9 := 0) (rest := []) C dX9_rests_26 (c_X9_isResting (kxL E) C.st G z μ12 _ σ _ _ _ _ _ _ _ k ⟨hO, hMA, hCi, hSu⟩ hI (by omega)) gX9_rests_X9_isResting rfl (by decide +kernel) ⟨(Nat.le_of_ble_eq_true rfl), (Nat.le_of_ble_eq_true rfl)⟩ rfl ⟨_, _, hO⟩ rfl rfl (Nat.le_of_ble_eq_true rfl) rfl rfl ⟨(Nat.le_of_ble_eq_true rfl), (Nat.le_of_ble_eq_true rfl)⟩ nX_no (fun v15 μ16 hv17 => ?_)
      obtain ⟨r18, hw21, h19, hm20⟩ := hv17
      subst hw21
      rw [hm20]
      refine x_stk (stk' := [.int (zI r18)]) rfl ?_
      refine z_if_eq (tgt := 36) C dX9_rests_29 (by decide) (rg_of (by omega) (by omega)) (fun c_22 => ?_) (fun c_22 => ?_)
      · refine z_iconst C dX9_rests_36 ?_
        exact x_zret C R dX9_rests_37 (nar_z (by omega)) (Nat.le_of_ble_eq_true rfl) (Nat.le_of_ble_eq_true rfl) (⟨_, rfl, ⟨Or.inl ⟨by (unfold t_wk; (repeat split) <;> omega), by (split <;> omega), ⟨_, _, _, _, _, hO, hMA, hCi, hSu⟩⟩, hFr⟩⟩)
      · refine z_iconst C dX9_rests_32 ?_
        refine x_goto (tgt := 37) C dX9_rests_33 (by decide) ?_
        exact x_zret C R dX9_rests_37 (nar_z (by omega)) (Nat.le_of_ble_eq_true rfl) (Nat.le_of_ble_eq_true rfl) (⟨_, rfl, ⟨Or.inl ⟨by (unfold t_wk; (repeat split) <;> omega), by (split <;> omega), ⟨_, _, _, _, _, hO, hMA, hCi, hSu⟩⟩, hFr⟩⟩)
abbrev rm_X9_addWarden : Room := { frames := 2, cells := 0, slots := 0, locals := 42 }
set_option maxHeartbeats 4000000 in
set_option maxRecDepth 100000 in
theorem c_X9_addWarden (l : Launch) (hst : l.stackTraces = false) (G : GG) (z : Nat) (μ : Mm) (m : Nat) (σ : SS) (n : Nat) (th fo cm : Int) (Ci Su : Nat → Int) (A : Nat → Nat) (p : Int) (hM9 : RepY G μ m σ th fo cm Ci Su A) (hI : Iv σ n) (hp : -2147483648 ≤ p ∧ p < 2147483648) : Ct l yX9_addWarden wsX9_addWarden rm_X9_addWarden G z [.ref m, .int (zI p)] μ (rS (fun r9 μ' => MR G μ' m (t_addWarden σ p) (σ 18 0) σ (n_addWarden σ p) r9 ∧ Fr 3000 3999 μ μ')) (nX) := by
  refine ct_of (cc := cX9_addWarden) (maxL := 2) (ret := (some .int)) (own := RX9) (by decide) rfl rfl hst (Nat.le_of_ble_eq_true rfl) ?_
  intro E hLl hnm C R hT
  have in_X9 : ∀ w ∈ u_ws RX9 TX9 29, w ∈ wsX9_addWarden := by decide +kernel
  have hM8 := hM9
  obtain ⟨hO, hMA, hCi, hSu⟩ := hM9
  have hn7 := hI.n7
  have hn12 := hI.n12
  have hn18 := hI.n18
  have hn23 := hI.n23
  have hFr : Fr 3000 3999 μ μ := Fr.rf
  refine x_eq (lv' := [(0, .ref m), (1, .int (zI p))]) rfl rfl ?_
  refine x_aload_n C dX9_addWarden_0 rfl 0 rfl ?_
  refine x_iload_n C dX9_addWarden_1 rfl 1 rfl ?_
  refine x_callS (n := 1) (cc9 := 0) (ss9 := 0) (rest := [.ref m]) C dX9_addWarden_2 (c_X9_isPlace (kxL E) C.st G z μ p (by omega)) gX9_addWarden_X9_isPlace rfl (by decide +kernel) ⟨(Nat.le_of_ble_eq_true rfl), (Nat.le_of_ble_eq_true rfl)⟩ rfl rfl (Nat.le_of_ble_eq_true rfl) rfl rfl ⟨(Nat.le_of_ble_eq_true rfl), (Nat.le_of_ble_eq_true rfl)⟩ nX_no (fun v1 μ2 hv3 => ?_)
  obtain ⟨r4, hw7, h5, hm6⟩ := hv3
  subst hw7
  rw [hm6]
  refine x_stk (stk' := [.int (zI r4), .ref m]) rfl ?_
  refine z_if_ne (tgt := 12) C dX9_addWarden_5 (by decide) (rg_of (by omega) (by omega)) (fun c_8 => ?_) (fun c_8 => ?_)
  · refine x_aload_n C dX9_addWarden_12 rfl 0 rfl ?_
    refine x_get (ci := 10) (Cn := RX9) (T := TX9) (N := 29) (ref := "CairnCipherModel") C dX9_addWarden_13 in_X9 rfl hO 18 (by decide) (by decide +kernel) rfl rfl ?_
    refine z_iconst C dX9_addWarden_16 ?_
    refine z_icmp_ne (tgt := 24) C dX9_addWarden_17 (by decide) (rg_of (by omega) (by omega)) (rg_of (by omega) (by omega)) (fun c_9 => ?_) (fun c_9 => ?_)
    · refine z_iconst C dX9_addWarden_24 ?_
      refine z_put (ci := 10) (Cn := RX9) (T := TX9) (N := 29) (ref := "CairnCipherModel") (fs' := [.ref (A 0), .ref (A 1), .ref (A 2), .ref (A 3), .ref (A 4), .ref (A 5), .ref (A 6), .int (zI (σ 7 0)), .ref (A 8), .ref (A 9), .ref (A 10), .ref (A 11), .int (zI (σ 12 0)), .ref (A 13), .ref (A 14), .ref (A 15), .ref (A 16), .ref (A 17), .int (zI (σ 18 0)), .ref (A 19), .ref (A 20), .ref (A 21), .ref (A 22), .int (zI (σ 23 0)), .int (zI 0), .int (zI fo), .ref (A 26), .int (zI cm), .ref (A 28)]) C dX9_addWarden_25 in_X9 rfl tyX9 tyX9_ok nmX9 hO 24 (by decide) (by decide +kernel) rfl rfl rfl rfl rfl (Nat.le_of_ble_eq_true rfl) rfl (fun μ10 hOw hF11 => ?_)
      have hMA : MA G μ10 A σ := hF11.ma hMA
      have hCi := hF11.ai hCi
      have hSu := hF11.ai hSu
      have hFr : Fr 3000 3999 μ μ10 := hFr.tr hF11
      have hO := hOw
      refine x_aload_n C dX9_addWarden_28 rfl 0 rfl ?_
      refine x_get (ci := 10) (Cn := RX9) (T := TX9) (N := 29) (ref := "CairnCipherModel") C dX9_addWarden_29 in_X9 rfl hO 24 (by decide) (by decide +kernel) rfl rfl ?_
      refine z_if_le (tgt := 37) C dX9_addWarden_32 (by decide) (rg_of (by omega) (by omega)) (fun c_12 => ?_) (fun c_12 => ?_)
      · refine x_aload_n C dX9_addWarden_37 rfl 0 rfl ?_
        refine x_get (ci := 10) (Cn := RX9) (T := TX9) (N := 29) (ref := "CairnCipherModel") C dX9_addWarden_38 in_X9 rfl hO 19 (by decide) (by decide +kernel) rfl rfl ?_
        refine x_aload_n C dX9_addWarden_41 rfl 0 rfl ?_
        refine x_get (ci := 10) (Cn := RX9) (T := TX9) (N := 29) (ref := "CairnCipherModel") C dX9_addWarden_42 in_X9 rfl hO 18 (by decide) (by decide +kernel) rfl rfl ?_
        refine x_iload_n C dX9_addWarden_45 rfl 1 rfl ?_
        refine z_iast (j := (σ 18 0).toNat) C dX9_addWarden_46 (show AI G μ10 (A 19) 3020 4 (σ 19) from hMA.ai 19 rfl) (by omega) (by omega) (by decide) (fun μ13 hq15 hF14 => ?_)
        have hMAn : MA G μ13 A (su σ 19 (wr (σ 19) ((σ 18 0).toNat) p)) := hMA.up (k := 19) rfl hq15 hF14
        have hO := hF14.ob hO
        have hCi := hF14.ai hCi
        have hSu := hF14.ai hSu
        have hFr : Fr 3000 3999 μ μ13 := hFr.tr hF14
        have hMA := hMAn
        refine x_aload_n C dX9_addWarden_47 rfl 0 rfl ?_
        refine x_dup C dX9_addWarden_48 rfl ?_
        refine x_get (ci := 10) (Cn := RX9) (T := TX9) (N := 29) (ref := "CairnCipherModel") C dX9_addWarden_49 in_X9 rfl hO 18 (by decide) (by decide +kernel) rfl rfl ?_
        refine z_iconst C dX9_addWarden_52 ?_
        refine z_iadd C dX9_addWarden_53 rfl ?_
        refine z_put (ci := 10) (Cn := RX9) (T := TX9) (N := 29) (ref := "CairnCipherModel") (fs' := [.ref (A 0), .ref (A 1), .ref (A 2), .ref (A 3), .ref (A 4), .ref (A 5), .ref (A 6), .int (zI (σ 7 0)), .ref (A 8), .ref (A 9), .ref (A 10), .ref (A 11), .int (zI (σ 12 0)), .ref (A 13), .ref (A 14), .ref (A 15), .ref (A 16), .ref (A 17), .int (zI ((σ 18 0) + 1)), .ref (A 19), .ref (A 20), .ref (A 21), .ref (A 22), .int (zI (σ 23 0)), .int (zI 0), .int (zI fo), .ref (A 26), .int (zI cm), .ref (A 28)]) C dX9_addWarden_54 in_X9 rfl tyX9 tyX9_ok nmX9 hO 18 (by decide) (by decide +kernel) rfl rfl rfl rfl rfl (Nat.le_of_ble_eq_true rfl) rfl (fun μ16 hOw hF17 => ?_)
        have hMA : MA G μ16 A (su σ 19 (wr (σ 19) ((σ 18 0).toNat) p)) := hF17.ma hMA
        have hCi := hF17.ai hCi
        have hSu := hF17.ai hSu
        have hFr : Fr 3000 3999 μ μ16 := hFr.tr hF17
        have hO := hOw
        refine x_aload_n C dX9_addWarden_57 rfl 0 rfl ?_
        refine x_get (ci := 10) (Cn := RX9) (T := TX9) (N := 29) (ref := "CairnCipherModel") C dX9_addWarden_58 in_X9 rfl hO 18 (by decide) (by decide +kernel) rfl rfl ?_
        refine z_iconst C dX9_addWarden_61 ?_
        refine z_isub C dX9_addWarden_62 rfl ?_
        exact x_iret C R dX9_addWarden_63 (Nat.le_of_ble_eq_true rfl) (Nat.le_of_ble_eq_true rfl) (⟨_, rfl, ⟨Or.inl ⟨by (unfold t_addWarden; (repeat split) <;> omega), by omega, ⟨_, _, _, _, _, hO, hMA.sc (by decide), hCi, hSu⟩⟩, hFr⟩⟩)
      · exfalso; omega
    · refine z_iconst C dX9_addWarden_20 ?_
      refine x_goto (tgt := 25) C dX9_addWarden_21 (by decide) ?_
      refine z_put (ci := 10) (Cn := RX9) (T := TX9) (N := 29) (ref := "CairnCipherModel") (fs' := [.ref (A 0), .ref (A 1), .ref (A 2), .ref (A 3), .ref (A 4), .ref (A 5), .ref (A 6), .int (zI (σ 7 0)), .ref (A 8), .ref (A 9), .ref (A 10), .ref (A 11), .int (zI (σ 12 0)), .ref (A 13), .ref (A 14), .ref (A 15), .ref (A 16), .ref (A 17), .int (zI (σ 18 0)), .ref (A 19), .ref (A 20), .ref (A 21), .ref (A 22), .int (zI (σ 23 0)), .int (zI 2), .int (zI fo), .ref (A 26), .int (zI cm), .ref (A 28)]) C dX9_addWarden_25 in_X9 rfl tyX9 tyX9_ok nmX9 hO 24 (by decide) (by decide +kernel) rfl rfl rfl rfl rfl (Nat.le_of_ble_eq_true rfl) rfl (fun μ18 hOw hF19 => ?_)
      have hMA : MA G μ18 A σ := hF19.ma hMA
      have hCi := hF19.ai hCi
      have hSu := hF19.ai hSu
      have hFr : Fr 3000 3999 μ μ18 := hFr.tr hF19
      have hO := hOw
      refine x_aload_n C dX9_addWarden_28 rfl 0 rfl ?_
      refine x_get (ci := 10) (Cn := RX9) (T := TX9) (N := 29) (ref := "CairnCipherModel") C dX9_addWarden_29 in_X9 rfl hO 24 (by decide) (by decide +kernel) rfl rfl ?_
      refine z_if_le (tgt := 37) C dX9_addWarden_32 (by decide) (rg_of (by omega) (by omega)) (fun c_20 => ?_) (fun c_20 => ?_)
      · exfalso; omega
      · refine z_iconst C dX9_addWarden_35 ?_
        exact x_iret C R dX9_addWarden_36 (Nat.le_of_ble_eq_true rfl) (Nat.le_of_ble_eq_true rfl) (⟨_, rfl, ⟨Or.inr ⟨by (rw [show t_addWarden σ p = 2 from by (unfold t_addWarden; (repeat split) <;> omega)]; omega), by (rw [show t_addWarden σ p = 2 from by (unfold t_addWarden; (repeat split) <;> omega)]; exact ⟨_, _, _, _, _, hO, hMA, hCi, hSu⟩)⟩, hFr⟩⟩)
  · refine z_iconst C dX9_addWarden_8 ?_
    refine x_goto (tgt := 25) C dX9_addWarden_9 (by decide) ?_
    refine z_put (ci := 10) (Cn := RX9) (T := TX9) (N := 29) (ref := "CairnCipherModel") (fs' := [.ref (A 0), .ref (A 1), .ref (A 2), .ref (A 3), .ref (A 4), .ref (A 5), .ref (A 6), .int (zI (σ 7 0)), .ref (A 8), .ref (A 9), .ref (A 10), .ref (A 11), .int (zI (σ 12 0)), .ref (A 13), .ref (A 14), .ref (A 15), .ref (A 16), .ref (A 17), .int (zI (σ 18 0)), .ref (A 19), .ref (A 20), .ref (A 21), .ref (A 22), .int (zI (σ 23 0)), .int (zI 1), .int (zI fo), .ref (A 26), .int (zI cm), .ref (A 28)]) C dX9_addWarden_25 in_X9 rfl tyX9 tyX9_ok nmX9 hO 24 (by decide) (by decide +kernel) rfl rfl rfl rfl rfl (Nat.le_of_ble_eq_true rfl) rfl (fun μ21 hOw hF22 => ?_)
    have hMA : MA G μ21 A σ := hF22.ma hMA
    have hCi := hF22.ai hCi
    have hSu := hF22.ai hSu
    have hFr : Fr 3000 3999 μ μ21 := hFr.tr hF22
    have hO := hOw
    refine x_aload_n C dX9_addWarden_28 rfl 0 rfl ?_
    refine x_get (ci := 10) (Cn := RX9) (T := TX9) (N := 29) (ref := "CairnCipherModel") C dX9_addWarden_29 in_X9 rfl hO 24 (by decide) (by decide +kernel) rfl rfl ?_
    refine z_if_le (tgt := 37) C dX9_addWarden_32 (by decide) (rg_of (by omega) (by omega)) (fun c_23 => ?_) (fun c_23 => ?_)
    · exfalso; omega
    · refine z_iconst C dX9_addWarden_35 ?_
      exact x_iret C R dX9_addWarden_36 (Nat.le_of_ble_eq_true rfl) (Nat.le_of_ble_eq_true rfl) (⟨_, rfl, ⟨Or.inr ⟨by (rw [show t_addWarden σ p = 1 from by (unfold t_addWarden; (repeat split) <;> omega)]; omega), by (rw [show t_addWarden σ p = 1 from by (unfold t_addWarden; (repeat split) <;> omega)]; exact ⟨_, _, _, _, _, hO, hMA, hCi, hSu⟩)⟩, hFr⟩⟩)
abbrev rm_X9_addWalker : Room := { frames := 2, cells := 0, slots := 0, locals := 42 }
set_option maxHeartbeats 4000000 in
set_option maxRecDepth 100000 in
theorem c_X9_addWalker (l : Launch) (hst : l.stackTraces = false) (G : GG) (z : Nat) (μ : Mm) (m : Nat) (σ : SS) (n : Nat) (th fo cm : Int) (Ci Su : Nat → Int) (A : Nat → Nat) (p c : Int) (hM9 : RepY G μ m σ th fo cm Ci Su A) (hI : Iv σ n) (hp : -2147483648 ≤ p ∧ p < 2147483648) (hc : -2147483648 ≤ c ∧ c < 2147483648) : Ct l yX9_addWalker wsX9_addWalker rm_X9_addWalker G z [.ref m, .int (zI p), .int (zI c)] μ (rS (fun r9 μ' => MR G μ' m (t_addWalker σ p c) (σ 12 0) σ (n_addWalker σ p c) r9 ∧ Fr 3000 3999 μ μ')) (nX) := by
  refine ct_of (cc := cX9_addWalker) (maxL := 3) (ret := (some .int)) (own := RX9) (by decide) rfl rfl hst (Nat.le_of_ble_eq_true rfl) ?_
  intro E hLl hnm C R hT
  have in_X9 : ∀ w ∈ u_ws RX9 TX9 29, w ∈ wsX9_addWalker := by decide +kernel
  have hM8 := hM9
  obtain ⟨hO, hMA, hCi, hSu⟩ := hM9
  have hn7 := hI.n7
  have hn12 := hI.n12
  have hn18 := hI.n18
  have hn23 := hI.n23
  have hFr : Fr 3000 3999 μ μ := Fr.rf
  refine x_eq (lv' := [(0, .ref m), (1, .int (zI p)), (2, .int (zI c))]) rfl rfl ?_
  refine x_aload_n C dX9_addWalker_0 rfl 0 rfl ?_
  refine x_iload_n C dX9_addWalker_1 rfl 1 rfl ?_
  refine x_callS (n := 1) (cc9 := 0) (ss9 := 0) (rest := [.ref m]) C dX9_addWalker_2 (c_X9_isPlace (kxL E) C.st G z μ p (by omega)) gX9_addWalker_X9_isPlace rfl (by decide +kernel) ⟨(Nat.le_of_ble_eq_true rfl), (Nat.le_of_ble_eq_true rfl)⟩ rfl rfl (Nat.le_of_ble_eq_true rfl) rfl rfl ⟨(Nat.le_of_ble_eq_true rfl), (Nat.le_of_ble_eq_true rfl)⟩ nX_no (fun v1 μ2 hv3 => ?_)
  obtain ⟨r4, hw7, h5, hm6⟩ := hv3
  subst hw7
  rw [hm6]
  refine x_stk (stk' := [.int (zI r4), .ref m]) rfl ?_
  refine z_if_ne (tgt := 12) C dX9_addWalker_5 (by decide) (rg_of (by omega) (by omega)) (fun c_8 => ?_) (fun c_8 => ?_)
  · refine x_iload_n C dX9_addWalker_12 rfl 2 rfl ?_
    refine z_iconst C dX9_addWalker_13 ?_
    refine z_iconst C dX9_addWalker_14 ?_
    refine x_callS (n := 3) (cc9 := 0) (ss9 := 0) (rest := [.ref m]) C dX9_addWalker_15 (c_X9_in (kxL E) C.st G z μ c 1 5 (by omega) (by omega) (by omega)) gX9_addWalker_X9_in rfl (by decide +kernel) ⟨(Nat.le_of_ble_eq_true rfl), (Nat.le_of_ble_eq_true rfl)⟩ rfl rfl (Nat.le_of_ble_eq_true rfl) rfl rfl ⟨(Nat.le_of_ble_eq_true rfl), (Nat.le_of_ble_eq_true rfl)⟩ nX_no (fun v9 μ10 hv11 => ?_)
    obtain ⟨r12, hw15, h13, hm14⟩ := hv11
    subst hw15
    rw [hm14]
    refine x_stk (stk' := [.int (zI r12), .ref m]) rfl ?_
    refine z_if_ne (tgt := 25) C dX9_addWalker_18 (by decide) (rg_of (by omega) (by omega)) (fun c_16 => ?_) (fun c_16 => ?_)
    · refine x_aload_n C dX9_addWalker_25 rfl 0 rfl ?_
      refine x_get (ci := 10) (Cn := RX9) (T := TX9) (N := 29) (ref := "CairnCipherModel") C dX9_addWalker_26 in_X9 rfl hO 12 (by decide) (by decide +kernel) rfl rfl ?_
      refine z_bipush C dX9_addWalker_29 (by decide) ?_
      refine z_icmp_ne (tgt := 38) C dX9_addWalker_31 (by decide) (rg_of (by omega) (by omega)) (rg_of (by omega) (by omega)) (fun c_17 => ?_) (fun c_17 => ?_)
      · refine z_iconst C dX9_addWalker_38 ?_
        refine z_put (ci := 10) (Cn := RX9) (T := TX9) (N := 29) (ref := "CairnCipherModel") (fs' := [.ref (A 0), .ref (A 1), .ref (A 2), .ref (A 3), .ref (A 4), .ref (A 5), .ref (A 6), .int (zI (σ 7 0)), .ref (A 8), .ref (A 9), .ref (A 10), .ref (A 11), .int (zI (σ 12 0)), .ref (A 13), .ref (A 14), .ref (A 15), .ref (A 16), .ref (A 17), .int (zI (σ 18 0)), .ref (A 19), .ref (A 20), .ref (A 21), .ref (A 22), .int (zI (σ 23 0)), .int (zI 0), .int (zI fo), .ref (A 26), .int (zI cm), .ref (A 28)]) C dX9_addWalker_39 in_X9 rfl tyX9 tyX9_ok nmX9 hO 24 (by decide) (by decide +kernel) rfl rfl rfl rfl rfl (Nat.le_of_ble_eq_true rfl) rfl (fun μ18 hOw hF19 => ?_)
        have hMA : MA G μ18 A σ := hF19.ma hMA
        have hCi := hF19.ai hCi
        have hSu := hF19.ai hSu
        have hFr : Fr 3000 3999 μ μ18 := hFr.tr hF19
        have hO := hOw
        refine x_aload_n C dX9_addWalker_42 rfl 0 rfl ?_
        refine x_get (ci := 10) (Cn := RX9) (T := TX9) (N := 29) (ref := "CairnCipherModel") C dX9_addWalker_43 in_X9 rfl hO 24 (by decide) (by decide +kernel) rfl rfl ?_
        refine z_if_le (tgt := 51) C dX9_addWalker_46 (by decide) (rg_of (by omega) (by omega)) (fun c_20 => ?_) (fun c_20 => ?_)
        · refine x_aload_n C dX9_addWalker_51 rfl 0 rfl ?_
          refine x_get (ci := 10) (Cn := RX9) (T := TX9) (N := 29) (ref := "CairnCipherModel") C dX9_addWalker_52 in_X9 rfl hO 14 (by decide) (by decide +kernel) rfl rfl ?_
          refine x_aload_n C dX9_addWalker_55 rfl 0 rfl ?_
          refine x_get (ci := 10) (Cn := RX9) (T := TX9) (N := 29) (ref := "CairnCipherModel") C dX9_addWalker_56 in_X9 rfl hO 12 (by decide) (by decide +kernel) rfl rfl ?_
          refine x_iload_n C dX9_addWalker_59 rfl 1 rfl ?_
          refine z_iast (j := (σ 12 0).toNat) C dX9_addWalker_60 (show AI G μ18 (A 14) 3015 6 (σ 14) from hMA.ai 14 rfl) (by omega) (by omega) (by decide) (fun μ21 hq23 hF22 => ?_)
          have hMAn : MA G μ21 A (su σ 14 (wr (σ 14) ((σ 12 0).toNat) p)) := hMA.up (k := 14) rfl hq23 hF22
          have hO := hF22.ob hO
          have hCi := hF22.ai hCi
          have hSu := hF22.ai hSu
          have hFr : Fr 3000 3999 μ μ21 := hFr.tr hF22
          have hMA := hMAn
          refine x_aload_n C dX9_addWalker_61 rfl 0 rfl ?_
          refine x_get (ci := 10) (Cn := RX9) (T := TX9) (N := 29) (ref := "CairnCipherModel") C dX9_addWalker_62 in_X9 rfl hO 13 (by decide) (by decide +kernel) rfl rfl ?_
          refine x_aload_n C dX9_addWalker_65 rfl 0 rfl ?_
          refine x_get (ci := 10) (Cn := RX9) (T := TX9) (N := 29) (ref := "CairnCipherModel") C dX9_addWalker_66 in_X9 rfl hO 12 (by decide) (by decide +kernel) rfl rfl ?_
          refine x_iload_n C dX9_addWalker_69 rfl 2 rfl ?_
          refine z_iast (j := (σ 12 0).toNat) C dX9_addWalker_70 (show AI G μ21 (A 13) 3014 6 (σ 13) from hMA.ai 13 rfl) (by omega) (by omega) (by decide) (fun μ24 hq26 hF25 => ?_)
          have hMAn : MA G μ24 A (su (su σ 14 (wr (σ 14) ((σ 12 0).toNat) p)) 13 (wr (σ 13) ((σ 12 0).toNat) c)) := hMA.up (k := 13) rfl hq26 hF25
          have hO := hF25.ob hO
          have hCi := hF25.ai hCi
          have hSu := hF25.ai hSu
          have hFr : Fr 3000 3999 μ μ24 := hFr.tr hF25
          have hMA := hMAn
          refine x_aload_n C dX9_addWalker_71 rfl 0 rfl ?_
          refine x_get (ci := 10) (Cn := RX9) (T := TX9) (N := 29) (ref := "CairnCipherModel") C dX9_addWalker_72 in_X9 rfl hO 15 (by decide) (by decide +kernel) rfl rfl ?_
          refine x_aload_n C dX9_addWalker_75 rfl 0 rfl ?_
          refine x_get (ci := 10) (Cn := RX9) (T := TX9) (N := 29) (ref := "CairnCipherModel") C dX9_addWalker_76 in_X9 rfl hO 12 (by decide) (by decide +kernel) rfl rfl ?_
          refine z_iconst C dX9_addWalker_79 ?_
          refine z_iast (j := (σ 12 0).toNat) C dX9_addWalker_80 (show AI G μ24 (A 15) 3016 6 (σ 15) from hMA.ai 15 rfl) (by omega) (by omega) (by decide) (fun μ27 hq29 hF28 => ?_)
          have hMAn : MA G μ27 A (su (su (su σ 14 (wr (σ 14) ((σ 12 0).toNat) p)) 13 (wr (σ 13) ((σ 12 0).toNat) c)) 15 (wr (σ 15) ((σ 12 0).toNat) (-1))) := hMA.up (k := 15) rfl hq29 hF28
          have hO := hF28.ob hO
          have hCi := hF28.ai hCi
          have hSu := hF28.ai hSu
          have hFr : Fr 3000 3999 μ μ27 := hFr.tr hF28
          have hMA := hMAn
          refine x_aload_n C dX9_addWalker_81 rfl 0 rfl ?_
          refine x_get (ci := 10) (Cn := RX9) (T := TX9) (N := 29) (ref := "CairnCipherModel") C dX9_addWalker_82 in_X9 rfl hO 16 (by decide) (by decide +kernel) rfl rfl ?_
          refine x_aload_n C dX9_addWalker_85 rfl 0 rfl ?_
          refine x_get (ci := 10) (Cn := RX9) (T := TX9) (N := 29) (ref := "CairnCipherModel") C dX9_addWalker_86 in_X9 rfl hO 12 (by decide) (by decide +kernel) rfl rfl ?_
          refine z_iconst C dX9_addWalker_89 ?_
          refine z_iast (j := (σ 12 0).toNat) C dX9_addWalker_90 (show AI G μ27 (A 16) 3017 6 (σ 16) from hMA.ai 16 rfl) (by omega) (by omega) (by decide) (fun μ30 hq32 hF31 => ?_)
          have hMAn : MA G μ30 A (su (su (su (su σ 14 (wr (σ 14) ((σ 12 0).toNat) p)) 13 (wr (σ 13) ((σ 12 0).toNat) c)) 15 (wr (σ 15) ((σ 12 0).toNat) (-1))) 16 (wr (σ 16) ((σ 12 0).toNat) (-1))) := hMA.up (k := 16) rfl hq32 hF31
          have hO := hF31.ob hO
          have hCi := hF31.ai hCi
          have hSu := hF31.ai hSu
          have hFr : Fr 3000 3999 μ μ30 := hFr.tr hF31
          have hMA := hMAn
          refine x_aload_n C dX9_addWalker_91 rfl 0 rfl ?_
          refine x_dup C dX9_addWalker_92 rfl ?_
          refine x_get (ci := 10) (Cn := RX9) (T := TX9) (N := 29) (ref := "CairnCipherModel") C dX9_addWalker_93 in_X9 rfl hO 12 (by decide) (by decide +kernel) rfl rfl ?_
          refine z_iconst C dX9_addWalker_96 ?_
          refine z_iadd C dX9_addWalker_97 rfl ?_
          refine z_put (ci := 10) (Cn := RX9) (T := TX9) (N := 29) (ref := "CairnCipherModel") (fs' := [.ref (A 0), .ref (A 1), .ref (A 2), .ref (A 3), .ref (A 4), .ref (A 5), .ref (A 6), .int (zI (σ 7 0)), .ref (A 8), .ref (A 9), .ref (A 10), .ref (A 11), .int (zI ((σ 12 0) + 1)), .ref (A 13), .ref (A 14), .ref (A 15), .ref (A 16), .ref (A 17), .int (zI (σ 18 0)), .ref (A 19), .ref (A 20), .ref (A 21), .ref (A 22), .int (zI (σ 23 0)), .int (zI 0), .int (zI fo), .ref (A 26), .int (zI cm), .ref (A 28)]) C dX9_addWalker_98 in_X9 rfl tyX9 tyX9_ok nmX9 hO 12 (by decide) (by decide +kernel) rfl rfl rfl rfl rfl (Nat.le_of_ble_eq_true rfl) rfl (fun μ33 hOw hF34 => ?_)
          have hMA : MA G μ33 A (su (su (su (su σ 14 (wr (σ 14) ((σ 12 0).toNat) p)) 13 (wr (σ 13) ((σ 12 0).toNat) c)) 15 (wr (σ 15) ((σ 12 0).toNat) (-1))) 16 (wr (σ 16) ((σ 12 0).toNat) (-1))) := hF34.ma hMA
          have hCi := hF34.ai hCi
          have hSu := hF34.ai hSu
          have hFr : Fr 3000 3999 μ μ33 := hFr.tr hF34
          have hO := hOw
          refine x_aload_n C dX9_addWalker_101 rfl 0 rfl ?_
          refine x_get (ci := 10) (Cn := RX9) (T := TX9) (N := 29) (ref := "CairnCipherModel") C dX9_addWalker_102 in_X9 rfl hO 12 (by decide) (by decide +kernel) rfl rfl ?_
          refine z_iconst C dX9_addWalker_105 ?_
          refine z_isub C dX9_addWalker_106 rfl ?_
          exact x_iret C R dX9_addWalker_107 (Nat.le_of_ble_eq_true rfl) (Nat.le_of_ble_eq_true rfl) (⟨_, rfl, ⟨Or.inl ⟨by (unfold t_addWalker; (repeat split) <;> omega), by omega, ⟨_, _, _, _, _, hO, hMA.sc (by decide), hCi, hSu⟩⟩, hFr⟩⟩)
        · exfalso; omega
      · refine z_iconst C dX9_addWalker_34 ?_
        refine x_goto (tgt := 39) C dX9_addWalker_35 (by decide) ?_
        refine z_put (ci := 10) (Cn := RX9) (T := TX9) (N := 29) (ref := "CairnCipherModel") (fs' := [.ref (A 0), .ref (A 1), .ref (A 2), .ref (A 3), .ref (A 4), .ref (A 5), .ref (A 6), .int (zI (σ 7 0)), .ref (A 8), .ref (A 9), .ref (A 10), .ref (A 11), .int (zI (σ 12 0)), .ref (A 13), .ref (A 14), .ref (A 15), .ref (A 16), .ref (A 17), .int (zI (σ 18 0)), .ref (A 19), .ref (A 20), .ref (A 21), .ref (A 22), .int (zI (σ 23 0)), .int (zI 3), .int (zI fo), .ref (A 26), .int (zI cm), .ref (A 28)]) C dX9_addWalker_39 in_X9 rfl tyX9 tyX9_ok nmX9 hO 24 (by decide) (by decide +kernel) rfl rfl rfl rfl rfl (Nat.le_of_ble_eq_true rfl) rfl (fun μ35 hOw hF36 => ?_)
        have hMA : MA G μ35 A σ := hF36.ma hMA
        have hCi := hF36.ai hCi
        have hSu := hF36.ai hSu
        have hFr : Fr 3000 3999 μ μ35 := hFr.tr hF36
        have hO := hOw
        refine x_aload_n C dX9_addWalker_42 rfl 0 rfl ?_
        refine x_get (ci := 10) (Cn := RX9) (T := TX9) (N := 29) (ref := "CairnCipherModel") C dX9_addWalker_43 in_X9 rfl hO 24 (by decide) (by decide +kernel) rfl rfl ?_
        refine z_if_le (tgt := 51) C dX9_addWalker_46 (by decide) (rg_of (by omega) (by omega)) (fun c_37 => ?_) (fun c_37 => ?_)
        · exfalso; omega
        · refine z_iconst C dX9_addWalker_49 ?_
          exact x_iret C R dX9_addWalker_50 (Nat.le_of_ble_eq_true rfl) (Nat.le_of_ble_eq_true rfl) (⟨_, rfl, ⟨Or.inr ⟨by (rw [show t_addWalker σ p c = 3 from by (unfold t_addWalker; (repeat split) <;> omega)]; omega), by (rw [show t_addWalker σ p c = 3 from by (unfold t_addWalker; (repeat split) <;> omega)]; exact ⟨_, _, _, _, _, hO, hMA, hCi, hSu⟩)⟩, hFr⟩⟩)
    · refine z_iconst C dX9_addWalker_21 ?_
      refine x_goto (tgt := 39) C dX9_addWalker_22 (by decide) ?_
      refine z_put (ci := 10) (Cn := RX9) (T := TX9) (N := 29) (ref := "CairnCipherModel") (fs' := [.ref (A 0), .ref (A 1), .ref (A 2), .ref (A 3), .ref (A 4), .ref (A 5), .ref (A 6), .int (zI (σ 7 0)), .ref (A 8), .ref (A 9), .ref (A 10), .ref (A 11), .int (zI (σ 12 0)), .ref (A 13), .ref (A 14), .ref (A 15), .ref (A 16), .ref (A 17), .int (zI (σ 18 0)), .ref (A 19), .ref (A 20), .ref (A 21), .ref (A 22), .int (zI (σ 23 0)), .int (zI 2), .int (zI fo), .ref (A 26), .int (zI cm), .ref (A 28)]) C dX9_addWalker_39 in_X9 rfl tyX9 tyX9_ok nmX9 hO 24 (by decide) (by decide +kernel) rfl rfl rfl rfl rfl (Nat.le_of_ble_eq_true rfl) rfl (fun μ38 hOw hF39 => ?_)
      have hMA : MA G μ38 A σ := hF39.ma hMA
      have hCi := hF39.ai hCi
      have hSu := hF39.ai hSu
      have hFr : Fr 3000 3999 μ μ38 := hFr.tr hF39
      have hO := hOw
      refine x_aload_n C dX9_addWalker_42 rfl 0 rfl ?_
      refine x_get (ci := 10) (Cn := RX9) (T := TX9) (N := 29) (ref := "CairnCipherModel") C dX9_addWalker_43 in_X9 rfl hO 24 (by decide) (by decide +kernel) rfl rfl ?_
      refine z_if_le (tgt := 51) C dX9_addWalker_46 (by decide) (rg_of (by omega) (by omega)) (fun c_40 => ?_) (fun c_40 => ?_)
      · exfalso; omega
      · refine z_iconst C dX9_addWalker_49 ?_
        exact x_iret C R dX9_addWalker_50 (Nat.le_of_ble_eq_true rfl) (Nat.le_of_ble_eq_true rfl) (⟨_, rfl, ⟨Or.inr ⟨by (rw [show t_addWalker σ p c = 2 from by (unfold t_addWalker; (repeat split) <;> omega)]; omega), by (rw [show t_addWalker σ p c = 2 from by (unfold t_addWalker; (repeat split) <;> omega)]; exact ⟨_, _, _, _, _, hO, hMA, hCi, hSu⟩)⟩, hFr⟩⟩)
  · refine z_iconst C dX9_addWalker_8 ?_
    refine x_goto (tgt := 39) C dX9_addWalker_9 (by decide) ?_
    refine z_put (ci := 10) (Cn := RX9) (T := TX9) (N := 29) (ref := "CairnCipherModel") (fs' := [.ref (A 0), .ref (A 1), .ref (A 2), .ref (A 3), .ref (A 4), .ref (A 5), .ref (A 6), .int (zI (σ 7 0)), .ref (A 8), .ref (A 9), .ref (A 10), .ref (A 11), .int (zI (σ 12 0)), .ref (A 13), .ref (A 14), .ref (A 15), .ref (A 16), .ref (A 17), .int (zI (σ 18 0)), .ref (A 19), .ref (A 20), .ref (A 21), .ref (A 22), .int (zI (σ 23 0)), .int (zI 1), .int (zI fo), .ref (A 26), .int (zI cm), .ref (A 28)]) C dX9_addWalker_39 in_X9 rfl tyX9 tyX9_ok nmX9 hO 24 (by decide) (by decide +kernel) rfl rfl rfl rfl rfl (Nat.le_of_ble_eq_true rfl) rfl (fun μ41 hOw hF42 => ?_)
    have hMA : MA G μ41 A σ := hF42.ma hMA
    have hCi := hF42.ai hCi
    have hSu := hF42.ai hSu
    have hFr : Fr 3000 3999 μ μ41 := hFr.tr hF42
    have hO := hOw
    refine x_aload_n C dX9_addWalker_42 rfl 0 rfl ?_
    refine x_get (ci := 10) (Cn := RX9) (T := TX9) (N := 29) (ref := "CairnCipherModel") C dX9_addWalker_43 in_X9 rfl hO 24 (by decide) (by decide +kernel) rfl rfl ?_
    refine z_if_le (tgt := 51) C dX9_addWalker_46 (by decide) (rg_of (by omega) (by omega)) (fun c_43 => ?_) (fun c_43 => ?_)
    · exfalso; omega
    · refine z_iconst C dX9_addWalker_49 ?_
      exact x_iret C R dX9_addWalker_50 (Nat.le_of_ble_eq_true rfl) (Nat.le_of_ble_eq_true rfl) (⟨_, rfl, ⟨Or.inr ⟨by (rw [show t_addWalker σ p c = 1 from by (unfold t_addWalker; (repeat split) <;> omega)]; omega), by (rw [show t_addWalker σ p c = 1 from by (unfold t_addWalker; (repeat split) <;> omega)]; exact ⟨_, _, _, _, _, hO, hMA, hCi, hSu⟩)⟩, hFr⟩⟩)
