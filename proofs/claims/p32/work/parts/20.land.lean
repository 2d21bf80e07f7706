abbrev rm_X3_isPlace : Room := { frames := 0, cells := 0, slots := 0, locals := 0 }
set_option maxHeartbeats 4000000 in
set_option maxRecDepth 100000 in
theorem c_X3_isPlace (l : Launch) (hst : l.stackTraces = false) (G : GG) (z : Nat) (μ : Mm) (p : Int) (hp : -2147483648 ≤ p ∧ p < 2147483648) : Ct l yX3_isPlace wsX3_isPlace rm_X3_isPlace G z [.int (zI p)] μ (rP μ (fun r => (r = 1 ∧ 0 ≤ p ∧ p < 64) ∨ (r = 0 ∧ ¬ (0 ≤ p ∧ p < 64)))) (nX) := by
  refine ct_of (cc := cX3_isPlace) (maxL := 1) (ret := (some .boolean)) (own := RX3) (by decide) rfl rfl hst (Nat.le_of_ble_eq_true rfl) ?_
  intro E hLl hnm C R hT
  refine x_eq (lv' := [(0, .int (zI p))]) rfl rfl ?_
  refine x_iload_n C dX3_isPlace_0 rfl 0 rfl ?_
  refine z_if_lt (tgt := 14) C dX3_isPlace_1 (by decide) (rg_of (by omega) (by omega)) (fun c_1 => ?_) (fun c_1 => ?_)
  · refine z_iconst C dX3_isPlace_14 ?_
    exact x_zret C R dX3_isPlace_15 (nar_z (by omega)) (Nat.le_of_ble_eq_true rfl) (Nat.le_of_ble_eq_true rfl) (⟨_, rfl, by omega, rfl⟩)
  · refine x_iload_n C dX3_isPlace_4 rfl 0 rfl ?_
    refine z_bipush C dX3_isPlace_5 (by decide) ?_
    refine z_icmp_ge (tgt := 14) C dX3_isPlace_7 (by decide) (rg_of (by omega) (by omega)) (rg_of (by omega) (by omega)) (fun c_2 => ?_) (fun c_2 => ?_)
    · refine z_iconst C dX3_isPlace_14 ?_
      exact x_zret C R dX3_isPlace_15 (nar_z (by omega)) (Nat.le_of_ble_eq_true rfl) (Nat.le_of_ble_eq_true rfl) (⟨_, rfl, by omega, rfl⟩)
    · refine z_iconst C dX3_isPlace_10 ?_
      refine x_goto (tgt := 15) C dX3_isPlace_11 (by decide) ?_
      exact x_zret C R dX3_isPlace_15 (nar_z (by omega)) (Nat.le_of_ble_eq_true rfl) (Nat.le_of_ble_eq_true rfl) (⟨_, rfl, by omega, rfl⟩)
abbrev rm_X3_rowOf : Room := { frames := 0, cells := 0, slots := 0, locals := 0 }
set_option maxHeartbeats 4000000 in
set_option maxRecDepth 100000 in
theorem c_X3_rowOf (l : Launch) (hst : l.stackTraces = false) (G : GG) (z : Nat) (μ : Mm) (p : Int) (hp : 0 ≤ p ∧ p < 64) : Ct l yX3_rowOf wsX3_rowOf rm_X3_rowOf G z [.int (zI p)] μ (rP μ (fun r => r = p / 8)) (nX) := by
  refine ct_of (cc := cX3_rowOf) (maxL := 1) (ret := (some .int)) (own := RX3) (by decide) rfl rfl hst (Nat.le_of_ble_eq_true rfl) ?_
  intro E hLl hnm C R hT
  refine x_eq (lv' := [(0, .int (zI p))]) rfl rfl ?_
  refine x_iload_n C dX3_rowOf_0 rfl 0 rfl ?_
  refine z_bipush C dX3_rowOf_1 (by decide) ?_
  refine z_idiv C dX3_rowOf_3 (rg_of (by omega) (by omega)) (by omega) (rg_of (by omega) (by omega)) (by omega) rfl ?_
  exact x_iret C R dX3_rowOf_4 (Nat.le_of_ble_eq_true rfl) (Nat.le_of_ble_eq_true rfl) (⟨_, rfl, by omega, rfl⟩)
abbrev rm_X3_columnOf : Room := { frames := 0, cells := 0, slots := 0, locals := 0 }
set_option maxHeartbeats 4000000 in
set_option maxRecDepth 100000 in
theorem c_X3_columnOf (l : Launch) (hst : l.stackTraces = false) (G : GG) (z : Nat) (μ : Mm) (p : Int) (hp : 0 ≤ p ∧ p < 64) : Ct l yX3_columnOf wsX3_columnOf rm_X3_columnOf G z [.int (zI p)] μ (rP μ (fun r => r = p % 8)) (nX) := by
  refine ct_of (cc := cX3_columnOf) (maxL := 1) (ret := (some .int)) (own := RX3) (by decide) rfl rfl hst (Nat.le_of_ble_eq_true rfl) ?_
  intro E hLl hnm C R hT
  refine x_eq (lv' := [(0, .int (zI p))]) rfl rfl ?_
  refine x_iload_n C dX3_columnOf_0 rfl 0 rfl ?_
  refine z_bipush C dX3_columnOf_1 (by decide) ?_
  refine z_irem C dX3_columnOf_3 (rg_of (by omega) (by omega)) (by omega) (rg_of (by omega) (by omega)) (by omega) rfl ?_
  exact x_iret C R dX3_columnOf_4 (Nat.le_of_ble_eq_true rfl) (Nat.le_of_ble_eq_true rfl) (⟨_, rfl, by omega, rfl⟩)
abbrev rm_X3_distance : Room := { frames := 1, cells := 0, slots := 0, locals := 21 }
set_option maxHeartbeats 4000000 in
set_option maxRecDepth 100000 in
theorem c_X3_distance (l : Launch) (hst : l.stackTraces = false) (G : GG) (z : Nat) (μ : Mm) (p q : Int) (hp : 0 ≤ p ∧ p < 64) (hq : 0 ≤ q ∧ q < 64) : Ct l yX3_distance wsX3_distance rm_X3_distance G z [.int (zI p), .int (zI q)] μ (rP μ (fun r => r = dst p q)) (nX) := by
  refine ct_of (cc := cX3_distance) (maxL := 2) (ret := (some .int)) (own := RX3) (by decide) rfl rfl hst (Nat.le_of_ble_eq_true rfl) ?_
  intro E hLl hnm C R hT
  refine x_eq (lv' := [(0, .int (zI p)), (1, .int (zI q))]) rfl rfl ?_
  refine x_iload_n C dX3_distance_0 rfl 0 rfl ?_
  refine x_callS (n := 1) (cc9 := 0) (ss9 := 0) (rest := []) C dX3_distance_1 (c_X3_rowOf (kxL E) C.st G z μ p (by omega)) gX3_distance_X3_rowOf rfl (by decide +kernel) ⟨(Nat.le_of_ble_eq_true rfl), (Nat.le_of_ble_eq_true rfl)⟩ rfl rfl (Nat.le_of_ble_eq_true rfl) rfl rfl ⟨(Nat.le_of_ble_eq_true rfl), (Nat.le_of_ble_eq_true rfl)⟩ nX_no (fun v1 μ2 hv3 => ?_)
  obtain ⟨r4, hw7, h5, hm6⟩ := hv3
  subst hw7
  rw [hm6]
  refine x_stk (stk' := [.int (zI r4)]) rfl ?_
  refine x_iload_n C dX3_distance_4 rfl 1 rfl ?_
  refine x_callS (n := 1) (cc9 := 0) (ss9 := 0) (rest := [.int (zI r4)]) C dX3_distance_5 (c_X3_rowOf (kxL E) C.st G z μ q (by omega)) gX3_distance_X3_rowOf rfl (by decide +kernel) ⟨(Nat.le_of_ble_eq_true rfl), (Nat.le_of_ble_eq_true rfl)⟩ rfl rfl (Nat.le_of_ble_eq_true rfl) rfl rfl ⟨(Nat.le_of_ble_eq_true rfl), (Nat.le_of_ble_eq_true rfl)⟩ nX_no (fun v8 μ9 hv10 => ?_)
  obtain ⟨r11, hw14, h12, hm13⟩ := hv10
  subst hw14
  rw [hm13]
  refine x_stk (stk' := [.int (zI r11), .int (zI r4)]) rfl ?_
  refine z_isub C dX3_distance_8 rfl ?_
  obtain ⟨r15, h16⟩ : ∃ q : Int, (if r4 - r11 < 0 then -(r4 - r11) else r4 - r11) = q := ⟨_, rfl⟩
  refine z_abs (v := r15) C dX3_distance_9 (by decide +kernel) (by decide +kernel) (by decide +kernel) (by decide +kernel) (Nat.le_of_ble_eq_true rfl) (Nat.le_of_ble_eq_true rfl) (rg_of (by omega) (by omega)) h16 (Nat.le_of_ble_eq_true rfl) (Nat.le_of_ble_eq_true rfl) ?_
  have h17 := ite_or h16
  refine x_iload_n C dX3_distance_12 rfl 0 rfl ?_
  refine x_callS (n := 1) (cc9 := 0) (ss9 := 0) (rest := [.int (zI r15)]) C dX3_distance_13 (c_X3_columnOf (kxL E) C.st G z μ p (by omega)) gX3_distance_X3_columnOf rfl (by decide +kernel) ⟨(Nat.le_of_ble_eq_true rfl), (Nat.le_of_ble_eq_true rfl)⟩ rfl rfl (Nat.le_of_ble_eq_true rfl) rfl rfl ⟨(Nat.le_of_ble_eq_true rfl), (Nat.le_of_ble_eq_true rfl)⟩ nX_no (fun v18 μ19 hv20 => ?_)
  obtain ⟨r21, hw24, h22, hm23⟩ := hv20
  subst hw24
  rw [hm23]
  refine x_stk (stk' := [.int (zI r21), .int (zI r15)]) rfl ?_
  refine x_iload_n C dX3_distance_16 rfl 1 rfl ?_
  refine x_callS (n := 1) (cc9 := 0) (ss9 := 0) (rest := [.int (zI r21), .int (zI r15)]) C dX3_distance_17 (c_X3_columnOf (kxL E) C.st G z μ q (by omega)) gX3_distance_X3_columnOf rfl (by decide +kernel) ⟨(Nat.le_of_ble_eq_true rfl), (Nat.le_of_ble_eq_true rfl)⟩ rfl rfl (Nat.le_of_ble_eq_true rfl) rfl rfl ⟨(Nat.le_of_ble_eq_true rfl), (Nat.le_of_ble_eq_true rfl)⟩ nX_no (fun v25 μ26 hv27 => ?_)
  obtain ⟨r28, hw31, h29, hm30⟩ := hv27
  subst hw31
  rw [hm30]
  refine x_stk (stk' := [.int (zI r28), .int (zI r21), .int (zI r15)]) rfl ?_
  refine z_isub C dX3_distance_20 rfl ?_
  obtain ⟨r32, h33⟩ : ∃ q : Int, (if r21 - r28 < 0 then -(r21 - r28) else r21 - r28) = q := ⟨_, rfl⟩
  refine z_abs (v := r32) C dX3_distance_21 (by decide +kernel) (by decide +kernel) (by decide +kernel) (by decide +kernel) (Nat.le_of_ble_eq_true rfl) (Nat.le_of_ble_eq_true rfl) (rg_of (by omega) (by omega)) h33 (Nat.le_of_ble_eq_true rfl) (Nat.le_of_ble_eq_true rfl) ?_
  have h34 := ite_or h33
  refine z_iadd C dX3_distance_24 rfl ?_
  exact x_iret C R dX3_distance_25 (Nat.le_of_ble_eq_true rfl) (Nat.le_of_ble_eq_true rfl) (⟨_, rfl, by unfold dst iabs; split <;> split <;> omega, rfl⟩)
abbrev rm_X3_neighbour : Room := { frames := 1, cells := 0, slots := 0, locals := 20 }
set_option maxHeartbeats 4000000 in
set_option maxRecDepth 100000 in
theorem c_X3_neighbour (l : Launch) (hst : l.stackTraces = false) (G : GG) (z : Nat) (μ : Mm) (p d : Int) (hp : 0 ≤ p ∧ p < 64) (hd : -2147483648 ≤ d ∧ d < 2147483648) : Ct l yX3_neighbour wsX3_neighbour rm_X3_neighbour G z [.int (zI p), .int (zI d)] μ (rP μ (fun r => r = nbr p d)) (nX) := by
  refine ct_of (cc := cX3_neighbour) (maxL := 2) (ret := (some .int)) (own := RX3) (by decide) rfl rfl hst (Nat.le_of_ble_eq_true rfl) ?_
  intro E hLl hnm C R hT
  refine x_eq (lv' := [(0, .int (zI p)), (1, .int (zI d))]) rfl rfl ?_
  refine x_iload_n C dX3_neighbour_0 rfl 1 rfl ?_
  rcases (show d < 0 ∨ d = 0 ∨ d = 1 ∨ d = 2 ∨ 2 < d by omega) with hs1 | hs1 | hs1 | hs1 | hs1
  · refine z_tabOut (tgt := 76) C dX3_neighbour_1 (rg_of (by omega) (by omega)) (by omega) (by decide) ?_
    refine x_iload_n C dX3_neighbour_76 rfl 0 rfl ?_
    refine x_callS (n := 1) (cc9 := 0) (ss9 := 0) (rest := []) C dX3_neighbour_77 (c_X3_rowOf (kxL E) C.st G z μ p (by omega)) gX3_neighbour_X3_rowOf rfl (by decide +kernel) ⟨(Nat.le_of_ble_eq_true rfl), (Nat.le_of_ble_eq_true rfl)⟩ rfl rfl (Nat.le_of_ble_eq_true rfl) rfl rfl ⟨(Nat.le_of_ble_eq_true rfl), (Nat.le_of_ble_eq_true rfl)⟩ nX_no (fun v2 μ3 hv4 => ?_)
    obtain ⟨r5, hw8, h6, hm7⟩ := hv4
    subst hw8
    rw [hm7]
    refine x_stk (stk' := [.int (zI r5)]) rfl ?_
    refine z_bipush C dX3_neighbour_80 (by decide) ?_
    refine z_icmp_ge (tgt := 92) C dX3_neighbour_82 (by decide) (rg_of (by omega) (by omega)) (rg_of (by omega) (by omega)) (fun c_9 => ?_) (fun c_9 => ?_)
    · refine z_iconst C dX3_neighbour_92 ?_
      exact x_iret C R dX3_neighbour_93 (Nat.le_of_ble_eq_true rfl) (Nat.le_of_ble_eq_true rfl) (⟨_, rfl, by unfold nbr; split <;> (try split) <;> (try split) <;> (try split) <;> omega, rfl⟩)
    · refine x_iload_n C dX3_neighbour_85 rfl 0 rfl ?_
      refine z_bipush C dX3_neighbour_86 (by decide) ?_
      refine z_iadd C dX3_neighbour_88 rfl ?_
      refine x_goto (tgt := 93) C dX3_neighbour_89 (by decide) ?_
      exact x_iret C R dX3_neighbour_93 (Nat.le_of_ble_eq_true rfl) (Nat.le_of_ble_eq_true rfl) (⟨_, rfl, by unfold nbr; split <;> (try split) <;> (try split) <;> (try split) <;> omega, rfl⟩)
  · refine z_tabIn (off := 27) (tgt := 28) C dX3_neighbour_1 (rg_of (by omega) (by omega)) (by omega) (by omega) (by rw [hs1]; rfl) (by decide) ?_
    refine x_iload_n C dX3_neighbour_28 rfl 0 rfl ?_
    refine x_callS (n := 1) (cc9 := 0) (ss9 := 0) (rest := []) C dX3_neighbour_29 (c_X3_rowOf (kxL E) C.st G z μ p (by omega)) gX3_neighbour_X3_rowOf rfl (by decide +kernel) ⟨(Nat.le_of_ble_eq_true rfl), (Nat.le_of_ble_eq_true rfl)⟩ rfl rfl (Nat.le_of_ble_eq_true rfl) rfl rfl ⟨(Nat.le_of_ble_eq_true rfl), (Nat.le_of_ble_eq_true rfl)⟩ nX_no (fun v10 μ11 hv12 => ?_)
    obtain ⟨r13, hw16, h14, hm15⟩ := hv12
    subst hw16
    rw [hm15]
    refine x_stk (stk' := [.int (zI r13)]) rfl ?_
    refine z_if_le (tgt := 42) C dX3_neighbour_32 (by decide) (rg_of (by omega) (by omega)) (fun c_17 => ?_) (fun c_17 => ?_)
    · refine z_iconst C dX3_neighbour_42 ?_
      exact x_iret C R dX3_neighbour_43 (Nat.le_of_ble_eq_true rfl) (Nat.le_of_ble_eq_true rfl) (⟨_, rfl, by unfold nbr; split <;> (try split) <;> (try split) <;> (try split) <;> omega, rfl⟩)
    · refine x_iload_n C dX3_neighbour_35 rfl 0 rfl ?_
      refine z_bipush C dX3_neighbour_36 (by decide) ?_
      refine z_isub C dX3_neighbour_38 rfl ?_
      refine x_goto (tgt := 43) C dX3_neighbour_39 (by decide) ?_
      exact x_iret C R dX3_neighbour_43 (Nat.le_of_ble_eq_true rfl) (Nat.le_of_ble_eq_true rfl) (⟨_, rfl, by unfold nbr; split <;> (try split) <;> (try split) <;> (try split) <;> omega, rfl⟩)
  · refine z_tabIn (off := 43) (tgt := 44) C dX3_neighbour_1 (rg_of (by omega) (by omega)) (by omega) (by omega) (by rw [hs1]; rfl) (by decide) ?_
    refine x_iload_n C dX3_neighbour_44 rfl 0 rfl ?_
    refine x_callS (n := 1) (cc9 := 0) (ss9 := 0) (rest := []) C dX3_neighbour_45 (c_X3_columnOf (kxL E) C.st G z μ p (by omega)) gX3_neighbour_X3_columnOf rfl (by decide +kernel) ⟨(Nat.le_of_ble_eq_true rfl), (Nat.le_of_ble_eq_true rfl)⟩ rfl rfl (Nat.le_of_ble_eq_true rfl) rfl rfl ⟨(Nat.le_of_ble_eq_true rfl), (Nat.le_of_ble_eq_true rfl)⟩ nX_no (fun v18 μ19 hv20 => ?_)
    obtain ⟨r21, hw24, h22, hm23⟩ := hv20
    subst hw24
    rw [hm23]
    refine x_stk (stk' := [.int (zI r21)]) rfl ?_
    refine z_if_le (tgt := 57) C dX3_neighbour_48 (by decide) (rg_of (by omega) (by omega)) (fun c_25 => ?_) (fun c_25 => ?_)
    · refine z_iconst C dX3_neighbour_57 ?_
      exact x_iret C R dX3_neighbour_58 (Nat.le_of_ble_eq_true rfl) (Nat.le_of_ble_eq_true rfl) (⟨_, rfl, by unfold nbr; split <;> (try split) <;> (try split) <;> (try split) <;> omega, rfl⟩)
    · refine x_iload_n C dX3_neighbour_51 rfl 0 rfl ?_
      refine z_iconst C dX3_neighbour_52 ?_
      refine z_isub C dX3_neighbour_53 rfl ?_
      refine x_goto (tgt := 58) C dX3_neighbour_54 (by decide) ?_
      exact x_iret C R dX3_neighbour_58 (Nat.le_of_ble_eq_true rfl) (Nat.le_of_ble_eq_true rfl) (⟨_, rfl, by unfold nbr; split <;> (try split) <;> (try split) <;> (try split) <;> omega, rfl⟩)
  · refine z_tabIn (off := 58) (tgt := 59) C dX3_neighbour_1 (rg_of (by omega) (by omega)) (by omega) (by omega) (by rw [hs1]; rfl) (by decide) ?_
    refine x_iload_n C dX3_neighbour_59 rfl 0 rfl ?_
    refine x_callS (n := 1) (cc9 := 0) (ss9 := 0) (rest := []) C dX3_neighbour_60 (c_X3_columnOf (kxL E) C.st G z μ p (by omega)) gX3_neighbour_X3_columnOf rfl (by decide +kernel) ⟨(Nat.le_of_ble_eq_true rfl), (Nat.le_of_ble_eq_true rfl)⟩ rfl rfl (Nat.le_of_ble_eq_true rfl) rfl rfl ⟨(Nat.le_of_ble_eq_true rfl), (Nat.le_of_ble_eq_true rfl)⟩ nX_no (fun v26 μ27 hv28 => ?_)
    obtain ⟨r29, hw32, h30, hm31⟩ := hv28
    subst hw32
    rw [hm31]
    refine x_stk (stk' := [.int (zI r29)]) rfl ?_
    refine z_bipush C dX3_neighbour_63 (by decide) ?_
    refine z_icmp_ge (tgt := 74) C dX3_neighbour_65 (by decide) (rg_of (by omega) (by omega)) (rg_of (by omega) (by omega)) (fun c_33 => ?_) (fun c_33 => ?_)
    · refine z_iconst C dX3_neighbour_74 ?_
      exact x_iret C R dX3_neighbour_75 (Nat.le_of_ble_eq_true rfl) (Nat.le_of_ble_eq_true rfl) (⟨_, rfl, by unfold nbr; split <;> (try split) <;> (try split) <;> (try split) <;> omega, rfl⟩)
    · refine x_iload_n C dX3_neighbour_68 rfl 0 rfl ?_
      refine z_iconst C dX3_neighbour_69 ?_
      refine z_iadd C dX3_neighbour_70 rfl ?_
      refine x_goto (tgt := 75) C dX3_neighbour_71 (by decide) ?_
      exact x_iret C R dX3_neighbour_75 (Nat.le_of_ble_eq_true rfl) (Nat.le_of_ble_eq_true rfl) (⟨_, rfl, by unfold nbr; split <;> (try split) <;> (try split) <;> (try split) <;> omega, rfl⟩)
  · refine z_tabOut (tgt := 76) C dX3_neighbour_1 (rg_of (by omega) (by omega)) (by omega) (by decide) ?_
    refine x_iload_n C dX3_neighbour_76 rfl 0 rfl ?_
    refine x_callS (n := 1) (cc9 := 0) (ss9 := 0) (rest := []) C dX3_neighbour_77 (c_X3_rowOf (kxL E) C.st G z μ p (by omega)) gX3_neighbour_X3_rowOf rfl (by decide +kernel) ⟨(Nat.le_of_ble_eq_true rfl), (Nat.le_of_ble_eq_true rfl)⟩ rfl rfl (Nat.le_of_ble_eq_true rfl) rfl rfl ⟨(Nat.le_of_ble_eq_true rfl), (Nat.le_of_ble_eq_true rfl)⟩ nX_no (fun v34 μ35 hv36 => ?_)
    obtain ⟨r37, hw40, h38, hm39⟩ := hv36
    subst hw40
    rw [hm39]
    refine x_stk (stk' := [.int (zI r37)]) rfl ?_
    refine z_bipush C dX3_neighbour_80 (by decide) ?_
    refine z_icmp_ge (tgt := 92) C dX3_neighbour_82 (by decide) (rg_of (by omega) (by omega)) (rg_of (by omega) (by omega)) (fun c_41 => ?_) (fun c_41 => ?_)
    · refine z_iconst C dX3_neighbour_92 ?_
      exact x_iret C R dX3_neighbour_93 (Nat.le_of_ble_eq_true rfl) (Nat.le_of_ble_eq_true rfl) (⟨_, rfl, by unfold nbr; split <;> (try split) <;> (try split) <;> (try split) <;> omega, rfl⟩)
    · refine x_iload_n C dX3_neighbour_85 rfl 0 rfl ?_
      refine z_bipush C dX3_neighbour_86 (by decide) ?_
      refine z_iadd C dX3_neighbour_88 rfl ?_
      refine x_goto (tgt := 93) C dX3_neighbour_89 (by decide) ?_
      exact x_iret C R dX3_neighbour_93 (Nat.le_of_ble_eq_true rfl) (Nat.le_of_ble_eq_true rfl) (⟨_, rfl, by unfold nbr; split <;> (try split) <;> (try split) <;> (try split) <;> omega, rfl⟩)
abbrev rm_X3_heightOf : Room := { frames := 0, cells := 0, slots := 0, locals := 0 }
set_option maxHeartbeats 4000000 in
set_option maxRecDepth 100000 in
theorem c_X3_heightOf (l : Launch) (hst : l.stackTraces = false) (G : GG) (z : Nat) (μ : Mm) (a : Nat) (H Z : Nat → Int) (p : Int) (hL : LandR G μ a H Z) (hp : 0 ≤ p ∧ p < 64) : Ct l yX3_heightOf wsX3_heightOf rm_X3_heightOf G z [.ref a, .int (zI p)] μ (rP μ (fun r => r = H p.toNat)) (nX) := by
  refine ct_of (cc := cX3_heightOf) (maxL := 2) (ret := (some .int)) (own := RX3) (by decide) rfl rfl hst (Nat.le_of_ble_eq_true rfl) ?_
  intro E hLl hnm C R hT
  have in_X3 : ∀ w ∈ u_ws RX3 TX3 2, w ∈ wsX3_heightOf := by decide +kernel
  obtain ⟨h, c, hO, hH, hZ, hHr, hZr⟩ := hL
  refine x_eq (lv' := [(0, .ref a), (1, .int (zI p))]) rfl rfl ?_
  refine x_iload_n C dX3_heightOf_0 rfl 1 rfl ?_
  refine z_if_lt (tgt := 22) C dX3_heightOf_1 (by decide) (rg_of (by omega) (by omega)) (fun c_1 => ?_) (fun c_1 => ?_)
  · refine z_iconst C dX3_heightOf_22 ?_
    exact x_iret C R dX3_heightOf_23 (Nat.le_of_ble_eq_true rfl) (Nat.le_of_ble_eq_true rfl) (by first | exact ⟨_, rfl, by first | rfl | omega, rfl⟩ | (exfalso; omega))
  · refine x_iload_n C dX3_heightOf_4 rfl 1 rfl ?_
    refine x_aload_n C dX3_heightOf_5 rfl 0 rfl ?_
    refine x_get (ci := 4) (Cn := RX3) (T := TX3) (N := 2) (ref := "CairnCipher$Land") C dX3_heightOf_6 in_X3 rfl hO 0 (by decide) (by decide +kernel) rfl rfl ?_
    refine z_alenI C dX3_heightOf_9 hH rfl ?_
    refine z_icmp_ge (tgt := 22) C dX3_heightOf_10 (by decide) (rg_of (by omega) (by omega)) (rg_of (by omega) (by omega)) (fun c_2 => ?_) (fun c_2 => ?_)
    · refine z_iconst C dX3_heightOf_22 ?_
      exact x_iret C R dX3_heightOf_23 (Nat.le_of_ble_eq_true rfl) (Nat.le_of_ble_eq_true rfl) (by first | exact ⟨_, rfl, by first | rfl | omega, rfl⟩ | (exfalso; omega))
    · refine x_aload_n C dX3_heightOf_13 rfl 0 rfl ?_
      refine x_get (ci := 4) (Cn := RX3) (T := TX3) (N := 2) (ref := "CairnCipher$Land") C dX3_heightOf_14 in_X3 rfl hO 0 (by decide) (by decide +kernel) rfl rfl ?_
      refine x_iload_n C dX3_heightOf_17 rfl 1 rfl ?_
      refine z_iald (j := p.toNat) C dX3_heightOf_18 hH (by omega) (by omega) (by decide) ?_
      have q_3 := hHr p.toNat (by omega)
      refine x_goto (tgt := 23) C dX3_heightOf_19 (by decide) ?_
      exact x_iret C R dX3_heightOf_23 (Nat.le_of_ble_eq_true rfl) (Nat.le_of_ble_eq_true rfl) (by first | exact ⟨_, rfl, by first | rfl | omega, rfl⟩ | (exfalso; omega))
abbrev rm_X3_shape : Room := { frames := 1, cells := 0, slots := 0, locals := 20 }
set_option maxHeartbeats 4000000 in
set_option maxRecDepth 100000 in
theorem c_X3_shape (l : Launch) (hst : l.stackTraces = false) (G : GG) (z : Nat) (μ : Mm) (a : Nat) (H Z : Nat → Int) (p v : Int) (hL : LandR G μ a H Z) (hp : 0 ≤ p ∧ p < 64) (hv : 0 ≤ v ∧ v ≤ 9) : Ct l yX3_shape wsX3_shape rm_X3_shape G z [.ref a, .int (zI p), .int (zI v)] μ (rV (fun μ' => LandR G μ' a (wr H p.toNat v) Z ∧ Fr 1 4 μ μ')) (nX) := by
  refine ct_of (cc := cX3_shape) (maxL := 3) (ret := none) (own := RX3) (by decide) rfl rfl hst (Nat.le_of_ble_eq_true rfl) ?_
  intro E hLl hnm C R hT
  have in_X3 : ∀ w ∈ u_ws RX3 TX3 2, w ∈ wsX3_shape := by decide +kernel
  obtain ⟨h, c, hO, hH, hZ, hHr, hZr⟩ := hL
  have hFr : Fr 1 4 μ μ := Fr.rf
  refine x_eq (lv' := [(0, .ref a), (1, .int (zI p)), (2, .int (zI v))]) rfl rfl ?_
  refine x_iload_n C dX3_shape_0 rfl 1 rfl ?_
  refine x_callS (n := 1) (cc9 := 0) (ss9 := 0) (rest := []) C dX3_shape_1 (c_X3_isPlace (kxL E) C.st G z μ p (by omega)) gX3_shape_X3_isPlace rfl (by decide +kernel) ⟨(Nat.le_of_ble_eq_true rfl), (Nat.le_of_ble_eq_true rfl)⟩ rfl rfl (Nat.le_of_ble_eq_true rfl) rfl rfl ⟨(Nat.le_of_ble_eq_true rfl), (Nat.le_of_ble_eq_true rfl)⟩ nX_no (fun v1 μ2 hv3 => ?_)
  obtain ⟨r4, hw7, h5, hm6⟩ := hv3
  subst hw7
  rw [hm6]
  refine x_stk (stk' := [.int (zI r4)]) rfl ?_
  refine z_if_eq (tgt := 14) C dX3_shape_4 (by decide) (rg_of (by omega) (by omega)) (fun c_8 => ?_) (fun c_8 => ?_)
  · exact x_vret C R dX3_shape_14 (Nat.le_of_ble_eq_true rfl) (Nat.le_of_ble_eq_true rfl) (by first | exact ⟨rfl, ⟨h, c, hO, hH, hZ, fun j hj => by (have := hHr j hj; unfold wr; split <;> omega), hZr⟩, hFr⟩ | (exfalso; omega))
  · refine x_aload_n C dX3_shape_7 rfl 0 rfl ?_
    refine x_get (ci := 4) (Cn := RX3) (T := TX3) (N := 2) (ref := "CairnCipher$Land") C dX3_shape_8 in_X3 rfl hO 0 (by decide) (by decide +kernel) rfl rfl ?_
    refine x_iload_n C dX3_shape_11 rfl 1 rfl ?_
    refine x_iload_n C dX3_shape_12 rfl 2 rfl ?_
    refine z_iast (j := p.toNat) C dX3_shape_13 hH (by omega) (by omega) (by decide) (fun μ9 hHw hF10 => ?_)
    have hO := hF10.ob hO
    have hZ := hF10.az hZ
    have hFr : Fr 1 4 μ μ9 := hFr.tr hF10
    have hH := hHw
    exact x_vret C R dX3_shape_14 (Nat.le_of_ble_eq_true rfl) (Nat.le_of_ble_eq_true rfl) (by first | exact ⟨rfl, ⟨h, c, hO, hH, hZ, fun j hj => by (have := hHr j hj; unfold wr; split <;> omega), hZr⟩, hFr⟩ | (exfalso; omega))
abbrev rm_X3_canEnter : Room := { frames := 1, cells := 0, slots := 0, locals := 20 }
set_option maxHeartbeats 4000000 in
set_option maxRecDepth 100000 in
theorem c_X3_canEnter (l : Launch) (hst : l.stackTraces = false) (G : GG) (z : Nat) (μ : Mm) (a : Nat) (H Z : Nat → Int) (p : Int) (hL : LandR G μ a H Z) (hp : -2147483648 ≤ p ∧ p < 2147483648) : Ct l yX3_canEnter wsX3_canEnter rm_X3_canEnter G z [.ref a, .int (zI p)] μ (rP μ (fun r => (r = 1 ∧ (0 ≤ p ∧ p < 64) ∧ Z p.toNat = 0) ∨ (r = 0 ∧ ¬ ((0 ≤ p ∧ p < 64) ∧ Z p.toNat = 0)))) (nX) := by
  refine ct_of (cc := cX3_canEnter) (maxL := 2) (ret := (some .boolean)) (own := RX3) (by decide) rfl rfl hst (Nat.le_of_ble_eq_true rfl) ?_
  intro E hLl hnm C R hT
  have in_X3 : ∀ w ∈ u_ws RX3 TX3 2, w ∈ wsX3_canEnter := by decide +kernel
  obtain ⟨h, c, hO, hH, hZ, hHr, hZr⟩ := hL
  refine x_eq (lv' := [(0, .ref a), (1, .int (zI p))]) rfl rfl ?_
  refine x_iload_n C dX3_canEnter_0 rfl 1 rfl ?_
  refine x_callS (n := 1) (cc9 := 0) (ss9 := 0) (rest := []) C dX3_canEnter_1 (c_X3_isPlace (kxL E) C.st G z μ p (by omega)) gX3_canEnter_X3_isPlace rfl (by decide +kernel) ⟨(Nat.le_of_ble_eq_true rfl), (Nat.le_of_ble_eq_true rfl)⟩ rfl rfl (Nat.le_of_ble_eq_true rfl) rfl rfl ⟨(Nat.le_of_ble_eq_true rfl), (Nat.le_of_ble_eq_true rfl)⟩ nX_no (fun v1 μ2 hv3 => ?_)
  obtain ⟨r4, hw7, h5, hm6⟩ := hv3
  subst hw7
  rw [hm6]
  refine x_stk (stk' := [.int (zI r4)]) rfl ?_
  refine z_if_eq (tgt := 20) C dX3_canEnter_4 (by decide) (rg_of (by omega) (by omega)) (fun c_8 => ?_) (fun c_8 => ?_)
  · refine z_iconst C dX3_canEnter_20 ?_
    exact x_zret C R dX3_canEnter_21 (nar_z (by omega)) (Nat.le_of_ble_eq_true rfl) (Nat.le_of_ble_eq_true rfl) (⟨_, rfl, by omega, rfl⟩)
  · refine x_aload_n C dX3_canEnter_7 rfl 0 rfl ?_
    refine x_get (ci := 4) (Cn := RX3) (T := TX3) (N := 2) (ref := "CairnCipher$Land") C dX3_canEnter_8 in_X3 rfl hO 1 (by decide) (by decide +kernel) rfl rfl ?_
    refine x_iload_n C dX3_canEnter_11 rfl 1 rfl ?_
    refine z_zald (j := p.toNat) C dX3_canEnter_12 hZ (by omega) (by omega) (by decide) ?_
    have q_9 := hZr p.toNat (by omega)
    refine z_if_ne (tgt := 20) C dX3_canEnter_13 (by decide) (rg_of (by omega) (by omega)) (fun c_10 => ?_) (fun c_10 => ?_)
    · refine z_iconst C dX3_canEnter_20 ?_
      exact x_zret C R dX3_canEnter_21 (nar_z (by omega)) (Nat.le_of_ble_eq_true rfl) (Nat.le_of_ble_eq_true rfl) (⟨_, rfl, by omega, rfl⟩)
    · refine z_iconst C dX3_canEnter_16 ?_
      refine x_goto (tgt := 21) C dX3_canEnter_17 (by decide) ?_
      exact x_zret C R dX3_canEnter_21 (nar_z (by omega)) (Nat.le_of_ble_eq_true rfl) (Nat.le_of_ble_eq_true rfl) (⟨_, rfl, by omega, rfl⟩)
abbrev rm_X3_turnGate : Room := { frames := 1, cells := 0, slots := 0, locals := 20 }
set_option maxHeartbeats 4000000 in
set_option maxRecDepth 100000 in
theorem c_X3_turnGate (l : Launch) (hst : l.stackTraces = false) (G : GG) (z : Nat) (μ : Mm) (a : Nat) (H Z : Nat → Int) (p : Int) (hL : LandR G μ a H Z) (hp : 0 ≤ p ∧ p < 64) : Ct l yX3_turnGate wsX3_turnGate rm_X3_turnGate G z [.ref a, .int (zI p)] μ (rS (fun r μ' => r = 1 - Z p.toNat ∧ LandR G μ' a H (wr Z p.toNat (1 - Z p.toNat)) ∧ Fr 1 4 μ μ')) (nX) := by
  refine ct_of (cc := cX3_turnGate) (maxL := 2) (ret := (some .boolean)) (own := RX3) (by decide) rfl rfl hst (Nat.le_of_ble_eq_true rfl) ?_
  intro E hLl hnm C R hT
  have in_X3 : ∀ w ∈ u_ws RX3 TX3 2, w ∈ wsX3_turnGate := by decide +kernel
  obtain ⟨h, c, hO, hH, hZ, hHr, hZr⟩ := hL
  have hFr : Fr 1 4 μ μ := Fr.rf
  refine x_eq (lv' := [(0, .ref a), (1, .int (zI p))]) rfl rfl ?_
  refine x_iload_n C dX3_turnGate_0 rfl 1 rfl ?_
  refine x_callS (n := 1) (cc9 := 0) (ss9 := 0) (rest := []) C dX3_turnGate_1 (c_X3_isPlace (kxL E) C.st G z μ p (by omega)) gX3_turnGate_X3_isPlace rfl (by decide +kernel) ⟨(Nat.le_of_ble_eq_true rfl), (Nat.le_of_ble_eq_true rfl)⟩ rfl rfl (Nat.le_of_ble_eq_true rfl) rfl rfl ⟨(Nat.le_of_ble_eq_true rfl), (Nat.le_of_ble_eq_true rfl)⟩ nX_no (fun v1 μ2 hv3 => ?_)
  obtain ⟨r4, hw7, h5, hm6⟩ := hv3
  subst hw7
  rw [hm6]
  refine x_stk (stk' := [.int (zI r4)]) rfl ?_
  refine z_if_ne (tgt := 9) C dX3_turnGate_4 (by decide) (rg_of (by omega) (by omega)) (fun c_8 => ?_) (fun c_8 => ?_)
  · refine x_aload_n C dX3_turnGate_9 rfl 0 rfl ?_
    refine x_get (ci := 4) (Cn := RX3) (T := TX3) (N := 2) (ref := "CairnCipher$Land") C dX3_turnGate_10 in_X3 rfl hO 1 (by decide) (by decide +kernel) rfl rfl ?_
    refine x_iload_n C dX3_turnGate_13 rfl 1 rfl ?_
    refine x_aload_n C dX3_turnGate_14 rfl 0 rfl ?_
    refine x_get (ci := 4) (Cn := RX3) (T := TX3) (N := 2) (ref := "CairnCipher$Land") C dX3_turnGate_15 in_X3 rfl hO 1 (by decide) (by decide +kernel) rfl rfl ?_
    refine x_iload_n C dX3_turnGate_18 rfl 1 rfl ?_
    refine z_zald (j := p.toNat) C dX3_turnGate_19 hZ (by omega) (by omega) (by decide) ?_
    have q_9 := hZr p.toNat (by omega)
    refine z_if_ne (tgt := 27) C dX3_turnGate_20 (by decide) (rg_of (by omega) (by omega)) (fun c_10 => ?_) (fun c_10 => ?_)
    · refine z_iconst C dX3_turnGate_27 ?_
      refine z_zast (j := p.toNat) C dX3_turnGate_28 hZ (by omega) (by omega) (by decide) (by omega) (fun μ11 hZw hF12 => ?_)
      have hO := hF12.ob hO
      have hH := hF12.ai hH
      have hFr : Fr 1 4 μ μ11 := hFr.tr hF12
      have hZ := hZw
      refine x_aload_n C dX3_turnGate_29 rfl 0 rfl ?_
      refine x_get (ci := 4) (Cn := RX3) (T := TX3) (N := 2) (ref := "CairnCipher$Land") C dX3_turnGate_30 in_X3 rfl hO 1 (by decide) (by decide +kernel) rfl rfl ?_
      refine x_iload_n C dX3_turnGate_33 rfl 1 rfl ?_
      refine z_zald (j := p.toNat) C dX3_turnGate_34 hZ (by omega) (by omega) (by decide) ?_
      simp only [wr_at]
      exact x_zret C R dX3_turnGate_35 (nar_z (by omega)) (Nat.le_of_ble_eq_true rfl) (Nat.le_of_ble_eq_true rfl) (by first | exact ⟨_, rfl, by omega, ⟨h, c, hO, hH, hZ.cong (fun j hj => by unfold wr; split <;> omega), hHr, fun j hj => by (have := hZr j hj; unfold wr; split <;> omega)⟩, hFr⟩ | (exfalso; omega))
    · refine z_iconst C dX3_turnGate_23 ?_
      refine x_goto (tgt := 28) C dX3_turnGate_24 (by decide) ?_
      refine z_zast (j := p.toNat) C dX3_turnGate_28 hZ (by omega) (by omega) (by decide) (by omega) (fun μ13 hZw hF14 => ?_)
      have hO := hF14.ob hO
      have hH := hF14.ai hH
      have hFr : Fr 1 4 μ μ13 := hFr.tr hF14
      have hZ := hZw
      refine x_aload_n C dX3_turnGate_29 rfl 0 rfl ?_
      refine x_get (ci := 4) (Cn := RX3) (T := TX3) (N := 2) (ref := "CairnCipher$Land") C dX3_turnGate_30 in_X3 rfl hO 1 (by decide) (by decide +kernel) rfl rfl ?_
      refine x_iload_n C dX3_turnGate_33 rfl 1 rfl ?_
      refine z_zald (j := p.toNat) C dX3_turnGate_34 hZ (by omega) (by omega) (by decide) ?_
      simp only [wr_at]
      exact x_zret C R dX3_turnGate_35 (nar_z (by omega)) (Nat.le_of_ble_eq_true rfl) (Nat.le_of_ble_eq_true rfl) (by first | exact ⟨_, rfl, by omega, ⟨h, c, hO, hH, hZ.cong (fun j hj => by unfold wr; split <;> omega), hHr, fun j hj => by (have := hZr j hj; unfold wr; split <;> omega)⟩, hFr⟩ | (exfalso; omega))
  · refine z_iconst C dX3_turnGate_7 ?_
    exact x_zret C R dX3_turnGate_8 (nar_z (by omega)) (Nat.le_of_ble_eq_true rfl) (Nat.le_of_ble_eq_true rfl) (by first | exact ⟨_, rfl, by omega, ⟨h, c, hO, hH, hZ.cong (fun j hj => by unfold wr; split <;> omega), hHr, fun j hj => by (have := hZr j hj; unfold wr; split <;> omega)⟩, hFr⟩ | (exfalso; omega))
abbrev rm_X3_stepCost : Room := { frames := 1, cells := 0, slots := 0, locals := 21 }
set_option maxHeartbeats 4000000 in
set_option maxRecDepth 100000 in
theorem c_X3_stepCost (l : Launch) (hst : l.stackTraces = false) (G : GG) (z : Nat) (μ : Mm) (a : Nat) (H Z : Nat → Int) (p q : Int) (hL : LandR G μ a H Z) (hp : 0 ≤ p ∧ p < 64) (hq : 0 ≤ q ∧ q < 64) : Ct l yX3_stepCost wsX3_stepCost rm_X3_stepCost G z [.ref a, .int (zI p), .int (zI q)] μ (rP μ (fun r => r = 1 + iabs (H p.toNat - H q.toNat))) (nX) := by
  refine ct_of (cc := cX3_stepCost) (maxL := 3) (ret := (some .int)) (own := RX3) (by decide) rfl rfl hst (Nat.le_of_ble_eq_true rfl) ?_
  intro E hLl hnm C R hT
  have hHr := hL.hr
  have q1 := hHr p.toNat (by omega)
  have q2 := hHr q.toNat (by omega)
  refine x_eq (lv' := [(0, .ref a), (1, .int (zI p)), (2, .int (zI q))]) rfl rfl ?_
  refine z_iconst C dX3_stepCost_0 ?_
  refine x_aload_n C dX3_stepCost_1 rfl 0 rfl ?_
  refine x_iload_n C dX3_stepCost_2 rfl 1 rfl ?_
  refine x_callV (n := 1) (ci := 4) (Cn := RX3) (T := TX3) (N := 2) (cc9 := 0) (ss9 := 0) (rest := [.int (zI 1)]) C dX3_stepCost_3 (c_X3_heightOf (kxL E) C.st G z μ _ _ _ p hL (by omega)) gX3_stepCost_X3_heightOf rfl (by decide +kernel) ⟨(Nat.le_of_ble_eq_true rfl), (Nat.le_of_ble_eq_true rfl)⟩ rfl hL.ob rfl rfl (Nat.le_of_ble_eq_true rfl) rfl rfl ⟨(Nat.le_of_ble_eq_true rfl), (Nat.le_of_ble_eq_true rfl)⟩ nX_no (fun v1 μ2 hv3 => ?_)
  obtain ⟨r4, hw7, h5, hm6⟩ := hv3
  subst hw7
  rw [hm6]
  refine x_stk (stk' := [.int (zI r4), .int (zI 1)]) rfl ?_
  refine x_aload_n C dX3_stepCost_6 rfl 0 rfl ?_
  refine x_iload_n C dX3_stepCost_7 rfl 2 rfl ?_
  refine x_callV (n := 1) (ci := 4) (Cn := RX3) (T := TX3) (N := 2) (cc9 := 0) (ss9 := 0) (rest := [.int (zI r4), .int (zI 1)]) C dX3_stepCost_8 (c_X3_heightOf (kxL E) C.st G z μ _ _ _ q hL (by omega)) gX3_stepCost_X3_heightOf rfl (by decide +kernel) ⟨(Nat.le_of_ble_eq_true rfl), (Nat.le_of_ble_eq_true rfl)⟩ rfl hL.ob rfl rfl (Nat.le_of_ble_eq_true rfl) rfl rfl ⟨(Nat.le_of_ble_eq_true rfl), (Nat.le_of_ble_eq_true rfl)⟩ nX_no (fun v8 μ9 hv10 => ?_)
  obtain ⟨r11, hw14, h12, hm13⟩ := hv10
  subst hw14
  rw [hm13]
  refine x_stk (stk' := [.int (zI r11), .int (zI r4), .int (zI 1)]) rfl ?_
  refine z_isub C dX3_stepCost_11 rfl ?_
  obtain ⟨r15, h16⟩ : ∃ q : Int, (if r4 - r11 < 0 then -(r4 - r11) else r4 - r11) = q := ⟨_, rfl⟩
  refine z_abs (v := r15) C dX3_stepCost_12 (by decide +kernel) (by decide +kernel) (by decide +kernel) (by decide +kernel) (Nat.le_of_ble_eq_true rfl) (Nat.le_of_ble_eq_true rfl) (rg_of (by omega) (by omega)) h16 (Nat.le_of_ble_eq_true rfl) (Nat.le_of_ble_eq_true rfl) ?_
  have h17 := ite_or h16
  refine z_iadd C dX3_stepCost_15 rfl ?_
  exact x_iret C R dX3_stepCost_16 (Nat.le_of_ble_eq_true rfl) (Nat.le_of_ble_eq_true rfl) (⟨_, rfl, by unfold iabs; split <;> omega, rfl⟩)
