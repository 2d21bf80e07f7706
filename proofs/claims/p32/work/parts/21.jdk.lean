abbrev rm_J3_checkIndex_8e157 : Room := { frames := 0, cells := 0, slots := 0, locals := 0 }
set_option maxHeartbeats 4000000 in
set_option maxRecDepth 100000 in
theorem c_J3_checkIndex_8e157 (l : Launch) (hst : l.stackTraces = false) (G : GG) (z : Nat) (μ : Mm) (i n : Int) (hi : 0 ≤ i ∧ i < n) (hn : -2147483648 ≤ n ∧ n < 2147483648) : Ct l yJ3_checkIndex_8e157 wsJ3_checkIndex_8e157 rm_J3_checkIndex_8e157 G z [.int (zI i), .int (zI n), .null] μ (rP μ (fun r => r = i)) (nX) := by
  refine ct_of (cc := cJ3_checkIndex_8e157) (maxL := 3) (ret := (some .int)) (own := RJ3) (by decide) rfl rfl hst (Nat.le_of_ble_eq_true rfl) ?_
  intro E hLl hnm C R hT
  refine x_eq (lv' := [(0, .int (zI i)), (1, .int (zI n)), (2, .null)]) rfl rfl ?_
  refine x_iload_n C dJ3_checkIndex_8e157_0 rfl 0 rfl ?_
  refine z_if_lt (tgt := 9) C dJ3_checkIndex_8e157_1 (by decide) (rg_of (by omega) (by omega)) (fun c_1 => ?_) (fun c_1 => ?_)
  · exfalso; omega
  · refine x_iload_n C dJ3_checkIndex_8e157_4 rfl 0 rfl ?_
    refine x_iload_n C dJ3_checkIndex_8e157_5 rfl 1 rfl ?_
    refine z_icmp_lt (tgt := 16) C dJ3_checkIndex_8e157_6 (by decide) (rg_of (by omega) (by omega)) (rg_of (by omega) (by omega)) (fun c_2 => ?_) (fun c_2 => ?_)
    · refine x_iload_n C dJ3_checkIndex_8e157_16 rfl 0 rfl ?_
      exact x_iret C R dJ3_checkIndex_8e157_17 (Nat.le_of_ble_eq_true rfl) (Nat.le_of_ble_eq_true rfl) (⟨_, rfl, by omega, rfl⟩)
    · exfalso; omega
abbrev rm_J15_checkIndex_7cf53 : Room := { frames := 1, cells := 0, slots := 0, locals := 22 }
set_option maxHeartbeats 4000000 in
set_option maxRecDepth 100000 in
theorem c_J15_checkIndex_7cf53 (l : Launch) (hst : l.stackTraces = false) (G : GG) (z : Nat) (μ : Mm) (i n : Int) (hi : 0 ≤ i ∧ i < n) (hn : -2147483648 ≤ n ∧ n < 2147483648) : Ct l yJ15_checkIndex_7cf53 wsJ15_checkIndex_7cf53 rm_J15_checkIndex_7cf53 G z [.int (zI i), .int (zI n)] μ (rP μ (fun r => r = i)) (nX) := by
  refine ct_of (cc := cJ15_checkIndex_7cf53) (maxL := 2) (ret := (some .int)) (own := RJ15) (by decide) rfl rfl hst (Nat.le_of_ble_eq_true rfl) ?_
  intro E hLl hnm C R hT
  refine x_eq (lv' := [(0, .int (zI i)), (1, .int (zI n))]) rfl rfl ?_
  refine x_iload_n C dJ15_checkIndex_7cf53_0 rfl 0 rfl ?_
  refine x_iload_n C dJ15_checkIndex_7cf53_1 rfl 1 rfl ?_
  refine x_null C dJ15_checkIndex_7cf53_2 ?_
  refine x_callS (n := 3) (cc9 := 0) (ss9 := 0) (rest := []) C dJ15_checkIndex_7cf53_3 (c_J3_checkIndex_8e157 (kxL E) C.st G z μ i n (by omega) (by omega)) gJ15_checkIndex_7cf53_J3_checkIndex_8e157 rfl (by decide +kernel) ⟨(Nat.le_of_ble_eq_true rfl), (Nat.le_of_ble_eq_true rfl)⟩ rfl rfl (Nat.le_of_ble_eq_true rfl) rfl rfl ⟨(Nat.le_of_ble_eq_true rfl), (Nat.le_of_ble_eq_true rfl)⟩ nX_no (fun v1 μ2 hv3 => ?_)
  obtain ⟨r4, hw7, h5, hm6⟩ := hv3
  subst hw7
  rw [hm6]
  refine x_stk (stk' := [.int (zI r4)]) rfl ?_
  exact x_iret C R dJ15_checkIndex_7cf53_6 (Nat.le_of_ble_eq_true rfl) (Nat.le_of_ble_eq_true rfl) (⟨_, rfl, by omega, rfl⟩)
abbrev rm_Jxa1e45_init_da8c8 : Room := { frames := 1, cells := 0, slots := 0, locals := 20 }
set_option maxHeartbeats 4000000 in
set_option maxRecDepth 100000 in
theorem c_Jxa1e45_init_da8c8 (l : Launch) (hst : l.stackTraces = false) (G : GG) (z : Nat) (μ : Mm) (a : Nat)  : Ct l yJxa1e45_init_da8c8 wsJxa1e45_init_da8c8 rm_Jxa1e45_init_da8c8 G z [.ref a] μ (fun v μ' => v = none ∧ True ∧ μ' = μ) (nX) := by
  refine ct_of (cc := cJxa1e45_init_da8c8) (maxL := 1) (ret := none) (own := RJxa1e45) (by decide) rfl rfl hst (Nat.le_of_ble_eq_true rfl) ?_
  intro E hLl hnm C R hT
  refine x_eq (lv' := [(0, .ref a)]) rfl rfl ?_
  refine x_aload_n C dJxa1e45_init_da8c8_0 rfl 0 rfl ?_
  refine x_objInit C dJxa1e45_init_da8c8_1 (by decide +kernel) (by decide +kernel) (by decide +kernel) (Nat.le_of_ble_eq_true rfl) (Nat.le_of_ble_eq_true rfl) ?_
  exact x_vret C R dJxa1e45_init_da8c8_4 (Nat.le_of_ble_eq_true rfl) (Nat.le_of_ble_eq_true rfl) (⟨rfl, trivial, rfl⟩)
abbrev rm_Jxc12de_init_da8c8 : Room := { frames := 2, cells := 0, slots := 0, locals := 40 }
set_option maxHeartbeats 4000000 in
set_option maxRecDepth 100000 in
theorem c_Jxc12de_init_da8c8 (l : Launch) (hst : l.stackTraces = false) (G : GG) (z : Nat) (μ : Mm) (a r : Nat) (m : Int) (x y : Value) (hO : OB μ a r 0 [.int (zI m), x, y]) : Ct l yJxc12de_init_da8c8 wsJxc12de_init_da8c8 rm_Jxc12de_init_da8c8 G z [.ref a] μ (rV (fun μ' => OB μ' a r 0 [.int (zI 0), x, y] ∧ Fr r (r + 1) μ μ')) (nX) := by
  refine ct_of (cc := cJxc12de_init_da8c8) (maxL := 1) (ret := none) (own := RJxc12de) (by decide) rfl rfl hst (Nat.le_of_ble_eq_true rfl) ?_
  intro E hLl hnm C R hT
  have in_Jx4a65c : ∀ w ∈ u_ws RJx4a65c TJx4a65c 3, w ∈ wsJxc12de_init_da8c8 := by decide +kernel
  have hFr : Fr r (r + 1) μ μ := Fr.rf
  refine x_eq (lv' := [(0, .ref a)]) rfl rfl ?_
  refine x_aload_n C dJxc12de_init_da8c8_0 rfl 0 rfl ?_
  refine x_callI (n := 0) (cc9 := 0) (ss9 := 0) (rest := []) C dJxc12de_init_da8c8_1 (c_Jxa1e45_init_da8c8 (kxL E) C.st G z μ a) gJxc12de_init_da8c8_Jxa1e45_init_da8c8 rfl (by decide +kernel) (by decide +kernel) (by decide +kernel) rfl (by decide +kernel) ⟨(Nat.le_of_ble_eq_true rfl), (Nat.le_of_ble_eq_true rfl)⟩ rfl rfl (Nat.le_of_ble_eq_true rfl) rfl rfl ⟨(Nat.le_of_ble_eq_true rfl), (Nat.le_of_ble_eq_true rfl)⟩ nX_no (fun v1 μ2 hv3 => ?_)
  obtain ⟨hw7, h5, hm6⟩ := hv3
  subst hw7
  rw [hm6]
  refine x_stk (stk' := []) rfl ?_
  refine x_aload_n C dJxc12de_init_da8c8_4 rfl 0 rfl ?_
  refine z_iconst C dJxc12de_init_da8c8_5 ?_
  refine z_put (ci := 0) (Cn := RJx4a65c) (T := TJx4a65c) (N := 3) (ref := "java/util/AbstractList") (fs' := [.int (zI 0), x, y]) C dJxc12de_init_da8c8_6 in_Jx4a65c rfl tyJx4a65c tyJx4a65c_ok nmJx4a65c hO 0 (by decide) (by decide +kernel) rfl rfl rfl rfl rfl (Nat.le_of_ble_eq_true rfl) rfl (fun μ8 hOw hF9 => ?_)
  have hFr : Fr r (r + 1) μ μ8 := hFr.tr hF9
  have hO := hOw
  exact x_vret C R dJxc12de_init_da8c8_9 (Nat.le_of_ble_eq_true rfl) (Nat.le_of_ble_eq_true rfl) (⟨rfl, hO, hFr⟩)
abbrev rm_Jx4a65c_init_da8c8 : Room := { frames := 3, cells := 0, slots := 0, locals := 60 }
set_option maxHeartbeats 4000000 in
set_option maxRecDepth 100000 in
theorem c_Jx4a65c_init_da8c8 (l : Launch) (hst : l.stackTraces = false) (G : GG) (z : Nat) (μ : Mm) (a r : Nat) (hO : OB μ a r 0 [.int (zI 0), .null, .int (zI 0)]) : Ct l yJx4a65c_init_da8c8 wsJx4a65c_init_da8c8 rm_Jx4a65c_init_da8c8 G z [.ref a] μ (rV (fun μ' => (∀ xs, ListR G z μ' a r 0 xs) ∧ Fr r (r + 2) μ μ')) (nX) := by
  refine ct_of (cc := cJx4a65c_init_da8c8) (maxL := 1) (ret := none) (own := RJx4a65c) (by decide) rfl rfl hst (Nat.le_of_ble_eq_true rfl) ?_
  intro E hLl hnm C R hT
  have in_Jx4a65c : ∀ w ∈ u_ws RJx4a65c TJx4a65c 3, w ∈ wsJx4a65c_init_da8c8 := by decide +kernel
  have hFr : Fr r (r + 2) μ μ := Fr.rf
  refine x_eq (lv' := [(0, .ref a)]) rfl rfl ?_
  refine x_aload_n C dJx4a65c_init_da8c8_0 rfl 0 rfl ?_
  refine x_callI (n := 0) (cc9 := 0) (ss9 := 0) (rest := []) C dJx4a65c_init_da8c8_1 (c_Jxc12de_init_da8c8 (kxL E) C.st G z μ a r 0 .null (.int (zI 0)) hO) gJx4a65c_init_da8c8_Jxc12de_init_da8c8 rfl (by decide +kernel) (by decide +kernel) (by decide +kernel) rfl (by decide +kernel) ⟨(Nat.le_of_ble_eq_true rfl), (Nat.le_of_ble_eq_true rfl)⟩ rfl rfl (Nat.le_of_ble_eq_true rfl) rfl rfl ⟨(Nat.le_of_ble_eq_true rfl), (Nat.le_of_ble_eq_true rfl)⟩ nX_no (fun v1 μ2 hv3 => ?_)
  obtain ⟨hw7, h5⟩ := hv3
  subst hw7
  obtain ⟨hO9, hF9⟩ := h5
  have hF8 := hF9
  have hFr : Fr r (r + 2) μ μ2 := hFr.tr hF8
  refine x_stk (stk' := []) rfl ?_
  refine x_aload_n C dJx4a65c_init_da8c8_4 rfl 0 rfl ?_
  refine x_getsZ C dJx4a65c_init_da8c8_5 (by decide +kernel) ?_
  refine z_put (ci := 0) (Cn := RJx4a65c) (T := TJx4a65c) (N := 3) (ref := "java/util/ArrayList") (fs' := [.int (zI 0), .ref z, .int (zI 0)]) C dJx4a65c_init_da8c8_8 in_Jx4a65c rfl tyJx4a65c tyJx4a65c_ok nmJx4a65c hO9 1 (by decide) (by decide +kernel) rfl rfl rfl rfl rfl (Nat.le_of_ble_eq_true rfl) rfl (fun μ9 hO9w hF10 => ?_)
  have hFr : Fr r (r + 2) μ μ9 := hFr.tr hF10
  have hO9 := hO9w
  exact x_vret C R dJx4a65c_init_da8c8_11 (Nat.le_of_ble_eq_true rfl) (Nat.le_of_ble_eq_true rfl) (⟨rfl, fun xs => ⟨0, z, hO9, by omega, Or.inl ⟨rfl, rfl⟩⟩, hFr⟩)
abbrev rm_Jx4a65c_size_8abf5 : Room := { frames := 0, cells := 0, slots := 0, locals := 0 }
set_option maxHeartbeats 4000000 in
set_option maxRecDepth 100000 in
theorem c_Jx4a65c_size_8abf5 (l : Launch) (hst : l.stackTraces = false) (G : GG) (z : Nat) (μ : Mm) (a r n : Nat) (xs : Nat → Nat) (hL : ListR G z μ a r n xs) : Ct l yJx4a65c_size_8abf5 wsJx4a65c_size_8abf5 rm_Jx4a65c_size_8abf5 G z [.ref a] μ (rP μ (fun r9 => r9 = (n : Int))) (nX) := by
  refine ct_of (cc := cJx4a65c_size_8abf5) (maxL := 1) (ret := (some .int)) (own := RJx4a65c) (by decide) rfl rfl hst (Nat.le_of_ble_eq_true rfl) ?_
  intro E hLl hnm C R hT
  have in_Jx4a65c : ∀ w ∈ u_ws RJx4a65c TJx4a65c 3, w ∈ wsJx4a65c_size_8abf5 := by decide +kernel
  obtain ⟨m, d, hO, hn, hd⟩ := hL
  refine x_eq (lv' := [(0, .ref a)]) rfl rfl ?_
  refine x_aload_n C dJx4a65c_size_8abf5_0 rfl 0 rfl ?_
  refine x_get (ci := 0) (Cn := RJx4a65c) (T := TJx4a65c) (N := 3) (ref := "java/util/ArrayList") C dJx4a65c_size_8abf5_1 in_Jx4a65c rfl hO 2 (by decide) (by decide +kernel) rfl rfl ?_
  exact x_iret C R dJx4a65c_size_8abf5_4 (Nat.le_of_ble_eq_true rfl) (Nat.le_of_ble_eq_true rfl) (⟨_, rfl, rfl, rfl⟩)
abbrev rm_Jx4a65c_elementData_915e3 : Room := { frames := 0, cells := 0, slots := 0, locals := 0 }
set_option maxHeartbeats 4000000 in
set_option maxRecDepth 100000 in
theorem c_Jx4a65c_elementData_915e3 (l : Launch) (hst : l.stackTraces = false) (G : GG) (z : Nat) (μ : Mm) (a r n : Nat) (xs : Nat → Nat) (i : Nat) (hL : ListR G z μ a r n xs) (hi : i < n) : Ct l yJx4a65c_elementData_915e3 wsJx4a65c_elementData_915e3 rm_Jx4a65c_elementData_915e3 G z [.ref a, .int (zI (i : Int))] μ (fun v μ' => ∃ q, v = some (.ref q) ∧ q = xs i ∧ μ' = μ) (nX) := by
  refine ct_of (cc := cJx4a65c_elementData_915e3) (maxL := 2) (ret := (some (.object "java/lang/Object"))) (own := RJx4a65c) (by decide) rfl rfl hst (Nat.le_of_ble_eq_true rfl) ?_
  intro E hLl hnm C R hT
  have in_Jx4a65c : ∀ w ∈ u_ws RJx4a65c TJx4a65c 3, w ∈ wsJx4a65c_elementData_915e3 := by decide +kernel
  obtain ⟨m, d, hO, hn, hd⟩ := hL
  refine x_eq (lv' := [(0, .ref a), (1, .int (zI (i : Int)))]) rfl rfl ?_
  rcases hd with ⟨-, h0⟩ | ⟨f, hf, hfx⟩
  · exfalso; omega
  refine x_aload_n C dJx4a65c_elementData_915e3_0 rfl 0 rfl ?_
  refine x_get (ci := 0) (Cn := RJx4a65c) (T := TJx4a65c) (N := 3) (ref := "java/util/ArrayList") C dJx4a65c_elementData_915e3_1 in_Jx4a65c rfl hO 1 (by decide) (by decide +kernel) rfl rfl ?_
  refine x_iload_n C dJx4a65c_elementData_915e3_4 rfl 1 rfl ?_
  exact x_aald (j := i) C dJx4a65c_elementData_915e3_5 hf (ix_z rfl (by omega) (by decide)) (show va_rf (f i) = .ref (xs i) by rw [hfx i hi]; rfl) (x_aret C R dJx4a65c_elementData_915e3_6 (Or.inl ⟨_, rfl⟩) (Nat.le_of_ble_eq_true rfl) (Nat.le_of_ble_eq_true rfl) ⟨_, rfl, rfl, rfl⟩)
abbrev rm_Jx4a65c_get_915e3 : Room := { frames := 2, cells := 0, slots := 0, locals := 43 }
set_option maxHeartbeats 4000000 in
set_option maxRecDepth 100000 in
theorem c_Jx4a65c_get_915e3 (l : Launch) (hst : l.stackTraces = false) (G : GG) (z : Nat) (μ : Mm) (a r n : Nat) (xs : Nat → Nat) (i : Nat) (hL : ListR G z μ a r n xs) (hi : i < n) : Ct l yJx4a65c_get_915e3 wsJx4a65c_get_915e3 rm_Jx4a65c_get_915e3 G z [.ref a, .int (zI (i : Int))] μ (fun v μ' => ∃ q, v = some (.ref q) ∧ q = xs i ∧ μ' = μ) (nX) := by
  refine ct_of (cc := cJx4a65c_get_915e3) (maxL := 2) (ret := (some (.object "java/lang/Object"))) (own := RJx4a65c) (by decide) rfl rfl hst (Nat.le_of_ble_eq_true rfl) ?_
  intro E hLl hnm C R hT
  have in_Jx4a65c : ∀ w ∈ u_ws RJx4a65c TJx4a65c 3, w ∈ wsJx4a65c_get_915e3 := by decide +kernel
  have hLL := hL
  obtain ⟨m, d, hO, hn, hd⟩ := hL
  refine x_eq (lv' := [(0, .ref a), (1, .int (zI (i : Int)))]) rfl rfl ?_
  refine x_iload_n C dJx4a65c_get_915e3_0 rfl 1 rfl ?_
  refine x_aload_n C dJx4a65c_get_915e3_1 rfl 0 rfl ?_
  refine x_get (ci := 0) (Cn := RJx4a65c) (T := TJx4a65c) (N := 3) (ref := "java/util/ArrayList") C dJx4a65c_get_915e3_2 in_Jx4a65c rfl hO 2 (by decide) (by decide +kernel) rfl rfl ?_
  refine x_callS (n := 2) (cc9 := 0) (ss9 := 0) (rest := []) C dJx4a65c_get_915e3_5 (c_J15_checkIndex_7cf53 (kxL E) C.st G z μ (i : Int) (n : Int) (by omega) (by omega)) gJx4a65c_get_915e3_J15_checkIndex_7cf53 rfl (by decide +kernel) ⟨(Nat.le_of_ble_eq_true rfl), (Nat.le_of_ble_eq_true rfl)⟩ rfl rfl (Nat.le_of_ble_eq_true rfl) rfl rfl ⟨(Nat.le_of_ble_eq_true rfl), (Nat.le_of_ble_eq_true rfl)⟩ nX_no (fun v1 μ2 hv3 => ?_)
  obtain ⟨r4, hw7, h5, hm6⟩ := hv3
  subst hw7
  rw [hm6]
  refine x_stk (stk' := [.int (zI r4)]) rfl ?_
  refine x_pop C dJx4a65c_get_915e3_8 rfl ?_
  refine x_aload_n C dJx4a65c_get_915e3_9 rfl 0 rfl ?_
  refine x_iload_n C dJx4a65c_get_915e3_10 rfl 1 rfl ?_
  refine x_callV (n := 1) (ci := 0) (Cn := RJx4a65c) (T := TJx4a65c) (N := 3) (cc9 := 0) (ss9 := 0) (rest := []) C dJx4a65c_get_915e3_11 (c_Jx4a65c_elementData_915e3 (kxL E) C.st G z μ _ _ _ _ i hLL (by omega)) gJx4a65c_get_915e3_Jx4a65c_elementData_915e3 rfl (by decide +kernel) ⟨(Nat.le_of_ble_eq_true rfl), (Nat.le_of_ble_eq_true rfl)⟩ rfl ⟨_, _, hO⟩ rfl rfl (Nat.le_of_ble_eq_true rfl) rfl rfl ⟨(Nat.le_of_ble_eq_true rfl), (Nat.le_of_ble_eq_true rfl)⟩ nX_no (fun v8 μ9 hv10 => ?_)
  obtain ⟨r11, hw14, h12, hm13⟩ := hv10
  subst hw14
  rw [hm13]
  refine x_stk (stk' := [.ref r11]) rfl ?_
  exact x_aret C R dJx4a65c_get_915e3_14 (by first | exact Or.inl ⟨_, rfl⟩ | exact Or.inr ⟨_, rfl⟩) (Nat.le_of_ble_eq_true rfl) (Nat.le_of_ble_eq_true rfl) (⟨_, rfl, by assumption, rfl⟩)
abbrev rm_Jx4a65c_grow_92f84 : Room := { frames := 1, cells := 1, slots := 10, locals := 21 }
set_option maxHeartbeats 4000000 in
set_option maxRecDepth 100000 in
theorem c_Jx4a65c_grow_92f84 (l : Launch) (hst : l.stackTraces = false) (G : GG) (z : Nat) (μ : Mm) (a r : Nat) (m : Int) (hO : OB μ a r 0 [.int (zI m), .ref z, .int (zI 0)]) : Ct l yJx4a65c_grow_92f84 wsJx4a65c_grow_92f84 rm_Jx4a65c_grow_92f84 G z [.ref a, .int (zI 1)] μ (rA (fun d μ' => OB μ' a r 0 [.int (zI m), .ref d, .int (zI 0)] ∧ μ' d = some (r + 1, eO G 10 (fun _ => none)) ∧ Fr r (r + 2) μ μ')) (nX) := by
  refine ct_of (cc := cJx4a65c_grow_92f84) (maxL := 4) (ret := (some (.array (.object "java/lang/Object")))) (own := RJx4a65c) (by decide) rfl rfl hst (Nat.le_of_ble_eq_true rfl) ?_
  intro E hLl hnm C R hT
  have in_Jx4a65c : ∀ w ∈ u_ws RJx4a65c TJx4a65c 3, w ∈ wsJx4a65c_grow_92f84 := by decide +kernel
  have hFr : Fr r (r + 2) μ μ := Fr.rf
  refine x_eq (lv' := [(0, .ref a), (1, .int (zI 1))]) rfl rfl ?_
  refine x_aload_n C dJx4a65c_grow_92f84_0 rfl 0 rfl ?_
  refine x_get (ci := 0) (Cn := RJx4a65c) (T := TJx4a65c) (N := 3) (ref := "java/util/ArrayList") C dJx4a65c_grow_92f84_1 in_Jx4a65c rfl hO 1 (by decide) (by decide +kernel) rfl rfl ?_
  refine x_alenS C dJx4a65c_grow_92f84_4 ?_
  refine x_stk (stk' := [.int (zI 0)]) rfl ?_
  refine x_istore_n (lv' := [(2, .int (zI 0)), (0, .ref a), (1, .int (zI 1))]) C dJx4a65c_grow_92f84_5 rfl (by decide) rfl ?_
  refine x_iload_n C dJx4a65c_grow_92f84_6 rfl 0 rfl ?_
  refine z_if_gt (tgt := 20) C dJx4a65c_grow_92f84_7 (by decide) (rg_of (by omega) (by omega)) (fun c_1 => ?_) (fun c_1 => ?_)
  · exfalso; omega
  · refine x_aload_n C dJx4a65c_grow_92f84_10 rfl 1 rfl ?_
    refine x_get (ci := 0) (Cn := RJx4a65c) (T := TJx4a65c) (N := 3) (ref := "java/util/ArrayList") C dJx4a65c_grow_92f84_11 in_Jx4a65c rfl hO 1 (by decide) (by decide +kernel) rfl rfl ?_
    refine x_getsZ C dJx4a65c_grow_92f84_14 (by decide +kernel) ?_
    refine x_acmp_eq (tgt := 45) C dJx4a65c_grow_92f84_17 (by decide) (fun c_9 => ?_) (fun c_9 => absurd rfl c_9)
    refine x_aload_n C dJx4a65c_grow_92f84_45 rfl 1 rfl ?_
    refine z_bipush C dJx4a65c_grow_92f84_46 (by decide) ?_
    refine x_iload_n C dJx4a65c_grow_92f84_48 rfl 2 rfl ?_
    obtain ⟨r2, h3⟩ : ∃ q : Int, (if 10 < 1 then 1 else 10) = q := ⟨_, rfl⟩
    refine z_max (v := r2) C dJx4a65c_grow_92f84_49 (by decide +kernel) (by decide +kernel) (by decide +kernel) (by decide +kernel) (Nat.le_of_ble_eq_true rfl) (Nat.le_of_ble_eq_true rfl) (rg_of (by omega) (by omega)) (rg_of (by omega) (by omega)) h3 (Nat.le_of_ble_eq_true rfl) (Nat.le_of_ble_eq_true rfl) ?_
    have h4 := ite_or h3
    refine x_newO (N9 := 10) (cc9 := 1) (ss9 := 10) C (r + 1) dJx4a65c_grow_92f84_52 (by decide +kernel) (by rw [zI_lt0 (rg_of (by omega) (by omega))]; omega) (by rw [zI_clamp (rg_of (by omega) (by omega))]; omega) (by decide) rfl rfl (Nat.le_of_ble_eq_true rfl) (Nat.le_of_ble_eq_true rfl) (fun q9 hq9 => ?_)
    obtain ⟨μ8, hμ8⟩ : ∃ m9, m9 = mU μ q9 (r + 1) (eO G 10 (fun _ => none)) := ⟨_, rfl⟩
    have hF8 : ∀ lo hi, Fr lo hi μ μ8 := fun lo hi => by rw [hμ8]; exact mU_frn hq9
    have hA8 : μ8 q9 = some (r + 1, eO G 10 (fun _ => none)) := by rw [hμ8]; exact mU_at
    rw [← hμ8]
    have hO := (hF8 0 0).ob hO (Or.inr (Nat.zero_le _))
    have hFr : Fr r (r + 2) μ μ8 := hFr.tr (hF8 r (r + 2))
    refine x_dup_x1 C dJx4a65c_grow_92f84_55 rfl rfl ?_
    refine z_put (ci := 0) (Cn := RJx4a65c) (T := TJx4a65c) (N := 3) (ref := "java/util/ArrayList") (fs' := [.int (zI m), .ref q9, .int (zI 0)]) C dJx4a65c_grow_92f84_56 in_Jx4a65c rfl tyJx4a65c tyJx4a65c_ok nmJx4a65c hO 1 (by decide) (by decide +kernel) rfl rfl rfl rfl rfl (Nat.le_of_ble_eq_true rfl) rfl (fun μ5 hOw hF6 => ?_)
    have hA8 := hF6.at hA8
    have hFr : Fr r (r + 2) μ μ5 := hFr.tr hF6
    have hO := hOw
    exact x_aret C R dJx4a65c_grow_92f84_59 (by first | exact Or.inl ⟨_, rfl⟩ | exact Or.inr ⟨_, rfl⟩) (Nat.le_of_ble_eq_true rfl) (Nat.le_of_ble_eq_true rfl) (⟨_, rfl, hO, hA8, hFr⟩)
abbrev rm_Jx4a65c_grow_d5877 : Room := { frames := 2, cells := 1, slots := 10, locals := 44 }
set_option maxHeartbeats 4000000 in
set_option maxRecDepth 100000 in
theorem c_Jx4a65c_grow_d5877 (l : Launch) (hst : l.stackTraces = false) (G : GG) (z : Nat) (μ : Mm) (a r : Nat) (m : Int) (hO : OB μ a r 0 [.int (zI m), .ref z, .int (zI 0)]) : Ct l yJx4a65c_grow_d5877 wsJx4a65c_grow_d5877 rm_Jx4a65c_grow_d5877 G z [.ref a] μ (rA (fun d μ' => OB μ' a r 0 [.int (zI m), .ref d, .int (zI 0)] ∧ μ' d = some (r + 1, eO G 10 (fun _ => none)) ∧ Fr r (r + 2) μ μ')) (nX) := by
  refine ct_of (cc := cJx4a65c_grow_d5877) (maxL := 1) (ret := (some (.array (.object "java/lang/Object")))) (own := RJx4a65c) (by decide) rfl rfl hst (Nat.le_of_ble_eq_true rfl) ?_
  intro E hLl hnm C R hT
  have in_Jx4a65c : ∀ w ∈ u_ws RJx4a65c TJx4a65c 3, w ∈ wsJx4a65c_grow_d5877 := by decide +kernel
  have hFr : Fr r (r + 2) μ μ := Fr.rf
  refine x_eq (lv' := [(0, .ref a)]) rfl rfl ?_
  refine x_aload_n C dJx4a65c_grow_d5877_0 rfl 0 rfl ?_
  refine x_aload_n C dJx4a65c_grow_d5877_1 rfl 0 rfl ?_
  refine x_get (ci := 0) (Cn := RJx4a65c) (T := TJx4a65c) (N := 3) (ref := "java/util/ArrayList") C dJx4a65c_grow_d5877_2 in_Jx4a65c rfl hO 2 (by decide) (by decide +kernel) rfl rfl ?_
  refine z_iconst C dJx4a65c_grow_d5877_5 ?_
  refine z_iadd C dJx4a65c_grow_d5877_6 rfl ?_
  refine x_stk (stk' := [.int (zI 1), .ref a]) rfl ?_
  refine x_callV (n := 1) (ci := 0) (Cn := RJx4a65c) (T := TJx4a65c) (N := 3) (cc9 := 1) (ss9 := 10) (rest := []) C dJx4a65c_grow_d5877_7 (c_Jx4a65c_grow_92f84 (kxL E) C.st G z μ a r m hO) gJx4a65c_grow_d5877_Jx4a65c_grow_92f84 rfl (by decide +kernel) ⟨(Nat.le_of_ble_eq_true rfl), (Nat.le_of_ble_eq_true rfl)⟩ rfl ⟨_, _, hO⟩ rfl rfl (Nat.le_of_ble_eq_true rfl) rfl rfl ⟨(Nat.le_of_ble_eq_true rfl), (Nat.le_of_ble_eq_true rfl)⟩ nX_no (fun v1 μ2 hv3 => ?_)
  obtain ⟨r4, hw7, h5⟩ := hv3
  subst hw7
  obtain ⟨hO9, hA9, hF9⟩ := h5
  have hF8 := hF9
  have hFr : Fr r (r + 2) μ μ2 := hFr.tr hF8
  refine x_stk (stk' := [.ref r4]) rfl ?_
  exact x_aret C R dJx4a65c_grow_d5877_10 (by first | exact Or.inl ⟨_, rfl⟩ | exact Or.inr ⟨_, rfl⟩) (Nat.le_of_ble_eq_true rfl) (Nat.le_of_ble_eq_true rfl) (⟨_, rfl, hO9, hA9, hFr⟩)
abbrev rm_Jx4a65c_add_72be8 : Room := { frames := 3, cells := 1, slots := 10, locals := 64 }
set_option maxHeartbeats 4000000 in
set_option maxRecDepth 100000 in
theorem c_Jx4a65c_add_72be8 (l : Launch) (hst : l.stackTraces = false) (G : GG) (z : Nat) (μ : Mm) (a r n e ci : Nat) (xs : Nat → Nat) (m : Int) (d : Nat) (Cn : String) (Tn : u_T) (Nn : Nat) (hO : OB μ a r 0 [.int (zI m), .ref d, .int (zI n)]) (hd : (d = z ∧ n = 0) ∨ ∃ f, μ d = some (r + 1, eO G 10 f) ∧ ∀ j, j < n → f j = some (xs j)) (hnn : n < 10) (he : ∃ re vs, μ e = some (re, .inr (ci, vs)) ∧ (re < r ∨ r + 2 ≤ re)) (hc : vwCl[ci]? = some (Cn, Tn, Nn)) (hca : Cond.castable Cn "java/lang/Object" ∈ NWs) : Ct l yJx4a65c_add_72be8 wsJx4a65c_add_72be8 rm_Jx4a65c_add_72be8 G z [.ref a, .ref e, .ref d, .int (zI (n : Int))] μ (rV (fun μ' => (∀ ys, (∀ j, j < n → ys j = xs j) → ys n = e → ListR G z μ' a r (n + 1) ys) ∧ Fr r (r + 2) μ μ')) (nX) := by
  refine ct_of (cc := cJx4a65c_add_72be8) (maxL := 4) (ret := none) (own := RJx4a65c) (by decide) rfl rfl hst (Nat.le_of_ble_eq_true rfl) ?_
  intro E hLl hnm C R hT
  have in_Jx4a65c : ∀ w ∈ u_ws RJx4a65c TJx4a65c 3, w ∈ wsJx4a65c_add_72be8 := by decide +kernel
  have hFr : Fr r (r + 2) μ μ := Fr.rf
  refine x_eq (lv' := [(0, .ref a), (1, .ref e), (2, .ref d), (3, .int (zI (n : Int)))]) rfl rfl ?_
  obtain ⟨re, vs, he8, hre⟩ := he
  rcases hd with ⟨hdz, h0⟩ | ⟨f, hf, hfx⟩
  · replace hdz := hdz.symm
    subst hdz
    subst h0
    have hO : OB μ a r 0 [.int (zI m), .ref z, .int (zI 0)] := hO
    refine x_eq (lv' := [(0, .ref a), (1, .ref e), (2, .ref z), (3, .int (zI 0))]) rfl rfl ?_
    refine x_iload_n C dJx4a65c_add_72be8_0 rfl 3 rfl ?_
    refine x_aload_n C dJx4a65c_add_72be8_1 rfl 2 rfl ?_
    refine x_alenS C dJx4a65c_add_72be8_2 ?_
    refine x_stk (stk' := [.int (zI 0), .int (zI 0)]) rfl ?_
    refine z_icmp_ne (tgt := 11) C dJx4a65c_add_72be8_3 (by decide) (rg_of (by omega) (by omega)) (rg_of (by omega) (by omega)) (fun c_1 => ?_) (fun c_1 => ?_)
    · exfalso; omega
    · refine x_aload_n C dJx4a65c_add_72be8_6 rfl 0 rfl ?_
      refine x_callV (n := 0) (ci := 0) (Cn := RJx4a65c) (T := TJx4a65c) (N := 3) (cc9 := 1) (ss9 := 10) (rest := []) C dJx4a65c_add_72be8_7 (c_Jx4a65c_grow_d5877 (kxL E) C.st G z μ a r m hO) gJx4a65c_add_72be8_Jx4a65c_grow_d5877 rfl (by decide +kernel) ⟨(Nat.le_of_ble_eq_true rfl), (Nat.le_of_ble_eq_true rfl)⟩ rfl ⟨_, _, hO⟩ rfl rfl (Nat.le_of_ble_eq_true rfl) rfl rfl ⟨(Nat.le_of_ble_eq_true rfl), (Nat.le_of_ble_eq_true rfl)⟩ nX_no (fun v2 μ3 hv4 => ?_)
      obtain ⟨r5, hw8, h6⟩ := hv4
      subst hw8
      obtain ⟨hO9, hA9, hF9⟩ := h6
      have hF9 := hF9
      have he8 : μ3 e = some (re, .inr (ci, vs)) := hF9.at he8 (by omega)
      have hFr : Fr r (r + 2) μ μ3 := hFr.tr hF9
      refine x_stk (stk' := [.ref r5]) rfl ?_
      refine x_astore_n (lv' := [(2, .ref r5), (0, .ref a), (1, .ref e), (3, .int (zI 0))]) C dJx4a65c_add_72be8_10 rfl (by decide) rfl ?_
      refine x_aload_n C dJx4a65c_add_72be8_11 rfl 0 rfl ?_
      refine x_iload_n C dJx4a65c_add_72be8_12 rfl 3 rfl ?_
      refine x_aload_n C dJx4a65c_add_72be8_13 rfl 2 rfl ?_
      refine x_aast (j := 0) C dJx4a65c_add_72be8_14 hA9 (ix_z (by omega) (by omega) (by decide)) he8 hc hca rfl ?_
      obtain ⟨μ10, hμμ10⟩ : ∃ m9, m9 = mU μ3 r5 (r + 1) (eO G 10 (va_up (fun _ => none) 0 (some e))) := ⟨_, rfl⟩
      have hF11 : Fr (r + 1) (r + 1 + 1) μ3 μ10 := by rw [hμμ10]; exact mU_fr hA9
      have hA9w : μ10 r5 = some (r + 1, eO G 10 (va_up (fun _ => none) 0 (some e))) := by rw [hμμ10]; exact mU_at
      rw [← hμμ10]
      have he8 : μ10 e = some (re, .inr (ci, vs)) := hF11.at he8 (by omega)
      have hO9 := hF11.ob hO9
      have hFr : Fr r (r + 2) μ μ10 := hFr.tr hF11
      have hA9 := hA9w
      refine x_aload_n C dJx4a65c_add_72be8_15 rfl 1 rfl ?_
      refine x_iload_n C dJx4a65c_add_72be8_16 rfl 3 rfl ?_
      refine z_iconst C dJx4a65c_add_72be8_17 ?_
      refine z_iadd C dJx4a65c_add_72be8_18 rfl ?_
      refine z_put (ci := 0) (Cn := RJx4a65c) (T := TJx4a65c) (N := 3) (ref := "java/util/ArrayList") (fs' := [.int (zI m), .ref r5, .int (zI (0 + 1))]) C dJx4a65c_add_72be8_19 in_Jx4a65c rfl tyJx4a65c tyJx4a65c_ok nmJx4a65c hO9 2 (by decide) (by decide +kernel) rfl rfl rfl rfl rfl (Nat.le_of_ble_eq_true rfl) rfl (fun μ12 hO9w hF13 => ?_)
      have he8 : μ12 e = some (re, .inr (ci, vs)) := hF13.at he8 (by omega)
      have hA9 := hF13.at hA9
      have hFr : Fr r (r + 2) μ μ12 := hFr.tr hF13
      have hO9 := hO9w
      exact x_vret C R dJx4a65c_add_72be8_22 (Nat.le_of_ble_eq_true rfl) (Nat.le_of_ble_eq_true rfl) (⟨rfl, fun ys h1 h2 => ⟨m, _, hO9, by omega, Or.inr ⟨_, hA9, fun j hj => by rw [show j = 0 by omega, va_up_self, h2]⟩⟩, hFr⟩)
  · refine x_iload_n C dJx4a65c_add_72be8_0 rfl 3 rfl ?_
    refine x_aload_n C dJx4a65c_add_72be8_1 rfl 2 rfl ?_
    refine z_alenO C dJx4a65c_add_72be8_2 hf rfl ?_
    refine z_icmp_ne (tgt := 11) C dJx4a65c_add_72be8_3 (by decide) (rg_of (by omega) (by omega)) (rg_of (by omega) (by omega)) (fun c_14 => ?_) (fun c_14 => ?_)
    · refine x_aload_n C dJx4a65c_add_72be8_11 rfl 2 rfl ?_
      refine x_iload_n C dJx4a65c_add_72be8_12 rfl 3 rfl ?_
      refine x_aload_n C dJx4a65c_add_72be8_13 rfl 1 rfl ?_
      refine x_aast (j := n) C dJx4a65c_add_72be8_14 hf (ix_z (by omega) (by omega) (by decide)) he8 hc hca rfl ?_
      obtain ⟨μ15, hμμ15⟩ : ∃ m9, m9 = mU μ d (r + 1) (eO G 10 (va_up f n (some e))) := ⟨_, rfl⟩
      have hF16 : Fr (r + 1) (r + 1 + 1) μ μ15 := by rw [hμμ15]; exact mU_fr hf
      have hfw : μ15 d = some (r + 1, eO G 10 (va_up f n (some e))) := by rw [hμμ15]; exact mU_at
      rw [← hμμ15]
      have hO := hF16.ob hO
      have he8 : μ15 e = some (re, .inr (ci, vs)) := hF16.at he8 (by omega)
      have hFr : Fr r (r + 2) μ μ15 := hFr.tr hF16
      have hf := hfw
      refine x_aload_n C dJx4a65c_add_72be8_15 rfl 0 rfl ?_
      refine x_iload_n C dJx4a65c_add_72be8_16 rfl 3 rfl ?_
      refine z_iconst C dJx4a65c_add_72be8_17 ?_
      refine z_iadd C dJx4a65c_add_72be8_18 rfl ?_
      refine z_put (ci := 0) (Cn := RJx4a65c) (T := TJx4a65c) (N := 3) (ref := "java/util/ArrayList") (fs' := [.int (zI m), .ref d, .int (zI ((n : Int) + 1))]) C dJx4a65c_add_72be8_19 in_Jx4a65c rfl tyJx4a65c tyJx4a65c_ok nmJx4a65c hO 2 (by decide) (by decide +kernel) rfl rfl rfl rfl rfl (Nat.le_of_ble_eq_true rfl) rfl (fun μ17 hOw hF18 => ?_)
      have he8 : μ17 e = some (re, .inr (ci, vs)) := hF18.at he8 (by omega)
      have hf := hF18.at hf
      have hFr : Fr r (r + 2) μ μ17 := hFr.tr hF18
      have hO := hOw
      exact x_vret C R dJx4a65c_add_72be8_22 (Nat.le_of_ble_eq_true rfl) (Nat.le_of_ble_eq_true rfl) (⟨rfl, fun ys h1 h2 => ⟨m, _, hO, by omega, Or.inr ⟨_, (by first | exact hA9 | exact hf), fun j hj => (Nat.lt_or_ge j n).elim (fun q => by first | (exfalso; omega) | rw [va_up_ne _ _ (by omega), hfx j q, h1 j q]) (fun q => by first | rw [show j = n by omega, va_up_self, h2] | rw [show j = 0 by omega, va_up_self, h2])⟩⟩, hFr⟩)
    · exfalso; omega
abbrev rm_Jx4a65c_add_9ea2d : Room := { frames := 4, cells := 1, slots := 10, locals := 87 }
set_option maxHeartbeats 4000000 in
set_option maxRecDepth 100000 in
theorem c_Jx4a65c_add_9ea2d (l : Launch) (hst : l.stackTraces = false) (G : GG) (z : Nat) (μ : Mm) (a r n e ci : Nat) (xs : Nat → Nat) (Cn : String) (Tn : u_T) (Nn : Nat) (hL : ListR G z μ a r n xs) (hnn : n < 10) (he : ∃ re vs, μ e = some (re, .inr (ci, vs)) ∧ (re < r ∨ r + 2 ≤ re)) (hc : vwCl[ci]? = some (Cn, Tn, Nn)) (hca : Cond.castable Cn "java/lang/Object" ∈ NWs) : Ct l yJx4a65c_add_9ea2d wsJx4a65c_add_9ea2d rm_Jx4a65c_add_9ea2d G z [.ref a, .ref e] μ (rS (fun r9 μ' => (∀ ys, (∀ j, j < n → ys j = xs j) → ys n = e → ListR G z μ' a r (n + 1) ys) ∧ Fr r (r + 2) μ μ')) (nX) := by
  refine ct_of (cc := cJx4a65c_add_9ea2d) (maxL := 2) (ret := (some .boolean)) (own := RJx4a65c) (by decide) rfl rfl hst (Nat.le_of_ble_eq_true rfl) ?_
  intro E hLl hnm C R hT
  have in_Jx4a65c : ∀ w ∈ u_ws RJx4a65c TJx4a65c 3, w ∈ wsJx4a65c_add_9ea2d := by decide +kernel
  obtain ⟨m, d, hO, hn, hd⟩ := hL
  have hFr : Fr r (r + 2) μ μ := Fr.rf
  refine x_eq (lv' := [(0, .ref a), (1, .ref e)]) rfl rfl ?_
  refine x_aload_n C dJx4a65c_add_9ea2d_0 rfl 0 rfl ?_
  refine x_dup C dJx4a65c_add_9ea2d_1 rfl ?_
  refine x_getU (ci := 0) (Cn := RJx4a65c) (T := TJx4a65c) (N := 3) (ref := "java/util/ArrayList") C dJx4a65c_add_9ea2d_2 in_Jx4a65c rfl hO 0 (by decide) (by decide +kernel) (by decide +kernel) rfl ?_
  refine z_iconst C dJx4a65c_add_9ea2d_5 ?_
  refine z_iadd C dJx4a65c_add_9ea2d_6 rfl ?_
  refine z_putU (ci := 0) (Cn := RJx4a65c) (T := TJx4a65c) (N := 3) (ref := "java/util/ArrayList") (fs' := [.int (zI (m + 1)), .ref d, .int (zI (n : Int))]) C dJx4a65c_add_9ea2d_7 in_Jx4a65c rfl tyJx4a65c tyJx4a65c_ok nmJx4a65c hO 0 (by decide) (by decide +kernel) (by decide +kernel) rfl rfl rfl rfl (Nat.le_of_ble_eq_true rfl) rfl (fun μ1 hOw hF2 => ?_)
  have hd : (d = z ∧ n = 0) ∨ ∃ f, μ1 d = some (r + 1, eO G 10 f) ∧ ∀ j, j < n → f j = some (xs j) := hd.elim Or.inl (fun w => Or.inr (by obtain ⟨f, h1, h2⟩ := w; exact ⟨f, hF2.at h1, h2⟩))
  have he : ∃ re vs, μ1 e = some (re, .inr (ci, vs)) ∧ (re < r ∨ r + 2 ≤ re) := (by obtain ⟨re, vs, h1, h2⟩ := he; exact ⟨re, vs, hF2.at h1 (by omega), h2⟩)
  have hFr : Fr r (r + 2) μ μ1 := hFr.tr hF2
  have hO := hOw
  refine x_aload_n C dJx4a65c_add_9ea2d_10 rfl 0 rfl ?_
  refine x_aload_n C dJx4a65c_add_9ea2d_11 rfl 1 rfl ?_
  refine x_aload_n C dJx4a65c_add_9ea2d_12 rfl 0 rfl ?_
  refine x_get (ci := 0) (Cn := RJx4a65c) (T := TJx4a65c) (N := 3) (ref := "java/util/ArrayList") C dJx4a65c_add_9ea2d_13 in_Jx4a65c rfl hO 1 (by decide) (by decide +kernel) rfl rfl ?_
  refine x_aload_n C dJx4a65c_add_9ea2d_16 rfl 0 rfl ?_
  refine x_get (ci := 0) (Cn := RJx4a65c) (T := TJx4a65c) (N := 3) (ref := "java/util/ArrayList") C dJx4a65c_add_9ea2d_17 in_Jx4a65c rfl hO 2 (by decide) (by decide +kernel) rfl rfl ?_
  refine x_callV (n := 3) (ci := 0) (Cn := RJx4a65c) (T := TJx4a65c) (N := 3) (cc9 := 1) (ss9 := 10) (rest := []) C dJx4a65c_add_9ea2d_20 (c_Jx4a65c_add_72be8 (kxL E) C.st G z μ1 a r n e ci xs (m + 1) d Cn Tn Nn hO hd hnn he hc hca) gJx4a65c_add_9ea2d_Jx4a65c_add_72be8 rfl (by decide +kernel) ⟨(Nat.le_of_ble_eq_true rfl), (Nat.le_of_ble_eq_true rfl)⟩ rfl ⟨_, _, hO⟩ rfl rfl (Nat.le_of_ble_eq_true rfl) rfl rfl ⟨(Nat.le_of_ble_eq_true rfl), (Nat.le_of_ble_eq_true rfl)⟩ nX_no (fun v3 μ4 hv5 => ?_)
  obtain ⟨hw9, h7⟩ := hv5
  subst hw9
  obtain ⟨hL9, hF9⟩ := h7
  have hF10 := hF9
  have hFr : Fr r (r + 2) μ μ4 := hFr.tr hF10
  refine x_stk (stk' := []) rfl ?_
  refine z_iconst C dJx4a65c_add_9ea2d_23 ?_
  exact x_zret C R dJx4a65c_add_9ea2d_24 (nar_z (by omega)) (Nat.le_of_ble_eq_true rfl) (Nat.le_of_ble_eq_true rfl) (⟨_, rfl, hL9, hFr⟩)
abbrev rm_Jx4a65c_clear_da8c8 : Room := { frames := 0, cells := 0, slots := 0, locals := 0 }
set_option maxHeartbeats 4000000 in
set_option maxRecDepth 100000 in
theorem c_Jx4a65c_clear_da8c8 (l : Launch) (hst : l.stackTraces = false) (G : GG) (z : Nat) (μ : Mm) (a r n : Nat) (xs : Nat → Nat) (hL : ListR G z μ a r n xs) : Ct l yJx4a65c_clear_da8c8 wsJx4a65c_clear_da8c8 rm_Jx4a65c_clear_da8c8 G z [.ref a] μ (rV (fun μ' => (∀ ys, ListR G z μ' a r 0 ys) ∧ Fr r (r + 2) μ μ')) (nX) := by
  refine ct_of (cc := cJx4a65c_clear_da8c8) (maxL := 4) (ret := none) (own := RJx4a65c) (by decide) rfl rfl hst (Nat.le_of_ble_eq_true rfl) ?_
  intro E hLl hnm C R hT
  have in_Jx4a65c : ∀ w ∈ u_ws RJx4a65c TJx4a65c 3, w ∈ wsJx4a65c_clear_da8c8 := by decide +kernel
  obtain ⟨m, d, hO, hn, hd⟩ := hL
  have hFr : Fr r (r + 2) μ μ := Fr.rf
  refine x_eq (lv' := [(0, .ref a)]) rfl rfl ?_
  rcases hd with ⟨hdz, h0⟩ | ⟨f, hf, hfx⟩
  · subst h0
    have hO : OB μ a r 0 [.int (zI m), .ref d, .int (zI 0)] := hO
    refine x_aload_n C dJx4a65c_clear_da8c8_0 rfl 0 rfl ?_
    refine x_dup C dJx4a65c_clear_da8c8_1 rfl ?_
    refine x_getU (ci := 0) (Cn := RJx4a65c) (T := TJx4a65c) (N := 3) (ref := "java/util/ArrayList") C dJx4a65c_clear_da8c8_2 in_Jx4a65c rfl hO 0 (by decide) (by decide +kernel) (by decide +kernel) rfl ?_
    refine z_iconst C dJx4a65c_clear_da8c8_5 ?_
    refine z_iadd C dJx4a65c_clear_da8c8_6 rfl ?_
    refine z_putU (ci := 0) (Cn := RJx4a65c) (T := TJx4a65c) (N := 3) (ref := "java/util/ArrayList") (fs' := [.int (zI (m + 1)), .ref d, .int (zI 0)]) C dJx4a65c_clear_da8c8_7 in_Jx4a65c rfl tyJx4a65c tyJx4a65c_ok nmJx4a65c hO 0 (by decide) (by decide +kernel) (by decide +kernel) rfl rfl rfl rfl (Nat.le_of_ble_eq_true rfl) rfl (fun μ1 hOw hF2 => ?_)
    have hFr : Fr r (r + 2) μ μ1 := hFr.tr hF2
    have hO := hOw
    refine x_aload_n C dJx4a65c_clear_da8c8_10 rfl 0 rfl ?_
    refine x_get (ci := 0) (Cn := RJx4a65c) (T := TJx4a65c) (N := 3) (ref := "java/util/ArrayList") C dJx4a65c_clear_da8c8_11 in_Jx4a65c rfl hO 1 (by decide) (by decide +kernel) rfl rfl ?_
    refine x_astore_n (lv' := [(1, .ref d), (0, .ref a)]) C dJx4a65c_clear_da8c8_14 rfl (by decide) rfl ?_
    refine x_aload_n C dJx4a65c_clear_da8c8_15 rfl 1 rfl ?_
    refine x_get (ci := 0) (Cn := RJx4a65c) (T := TJx4a65c) (N := 3) (ref := "java/util/ArrayList") C dJx4a65c_clear_da8c8_16 in_Jx4a65c rfl hO 2 (by decide) (by decide +kernel) rfl rfl ?_
    refine x_istore_n (lv' := [(2, .int (zI 0)), (1, .ref d), (0, .ref a)]) C dJx4a65c_clear_da8c8_19 rfl (by decide) rfl ?_
    refine x_aload_n C dJx4a65c_clear_da8c8_20 rfl 2 rfl ?_
    refine z_iconst C dJx4a65c_clear_da8c8_21 ?_
    refine x_dup_x1 C dJx4a65c_clear_da8c8_22 rfl rfl ?_
    refine z_put (ci := 0) (Cn := RJx4a65c) (T := TJx4a65c) (N := 3) (ref := "java/util/ArrayList") (fs' := [.int (zI (m + 1)), .ref d, .int (zI 0)]) C dJx4a65c_clear_da8c8_23 in_Jx4a65c rfl tyJx4a65c tyJx4a65c_ok nmJx4a65c hO 2 (by decide) (by decide +kernel) rfl rfl rfl rfl rfl (Nat.le_of_ble_eq_true rfl) rfl (fun μ3 hOw hF4 => ?_)
    have hFr : Fr r (r + 2) μ μ3 := hFr.tr hF4
    have hO := hOw
    refine x_istore_n (lv' := [(3, .int (zI 0)), (2, .int (zI 0)), (1, .ref d), (0, .ref a)]) C dJx4a65c_clear_da8c8_26 rfl (by decide) rfl ?_
    refine x_iload_n C dJx4a65c_clear_da8c8_27 rfl 0 rfl ?_
    refine x_iload_n C dJx4a65c_clear_da8c8_28 rfl 1 rfl ?_
    refine z_icmp_ge (tgt := 42) C dJx4a65c_clear_da8c8_29 (by decide) (rg_of (by omega) (by omega)) (rg_of (by omega) (by omega)) (fun c_5 => ?_) (fun c_5 => ?_)
    · exact x_vret C R dJx4a65c_clear_da8c8_42 (Nat.le_of_ble_eq_true rfl) (Nat.le_of_ble_eq_true rfl) (⟨rfl, fun ys => ⟨_, d, hO, by omega, Or.inl ⟨hdz, rfl⟩⟩, hFr⟩)
    · exfalso; omega
  · refine x_aload_n C dJx4a65c_clear_da8c8_0 rfl 0 rfl ?_
    refine x_dup C dJx4a65c_clear_da8c8_1 rfl ?_
    refine x_getU (ci := 0) (Cn := RJx4a65c) (T := TJx4a65c) (N := 3) (ref := "java/util/ArrayList") C dJx4a65c_clear_da8c8_2 in_Jx4a65c rfl hO 0 (by decide) (by decide +kernel) (by decide +kernel) rfl ?_
    refine z_iconst C dJx4a65c_clear_da8c8_5 ?_
    refine z_iadd C dJx4a65c_clear_da8c8_6 rfl ?_
    refine z_putU (ci := 0) (Cn := RJx4a65c) (T := TJx4a65c) (N := 3) (ref := "java/util/ArrayList") (fs' := [.int (zI (m + 1)), .ref d, .int (zI (n : Int))]) C dJx4a65c_clear_da8c8_7 in_Jx4a65c rfl tyJx4a65c tyJx4a65c_ok nmJx4a65c hO 0 (by decide) (by decide +kernel) (by decide +kernel) rfl rfl rfl rfl (Nat.le_of_ble_eq_true rfl) rfl (fun μ6 hOw hF7 => ?_)
    have hf := hF7.at hf
    have hFr : Fr r (r + 2) μ μ6 := hFr.tr hF7
    have hO := hOw
    refine x_aload_n C dJx4a65c_clear_da8c8_10 rfl 0 rfl ?_
    refine x_get (ci := 0) (Cn := RJx4a65c) (T := TJx4a65c) (N := 3) (ref := "java/util/ArrayList") C dJx4a65c_clear_da8c8_11 in_Jx4a65c rfl hO 1 (by decide) (by decide +kernel) rfl rfl ?_
    refine x_astore_n (lv' := [(1, .ref d), (0, .ref a)]) C dJx4a65c_clear_da8c8_14 rfl (by decide) rfl ?_
    refine x_aload_n C dJx4a65c_clear_da8c8_15 rfl 1 rfl ?_
    refine x_get (ci := 0) (Cn := RJx4a65c) (T := TJx4a65c) (N := 3) (ref := "java/util/ArrayList") C dJx4a65c_clear_da8c8_16 in_Jx4a65c rfl hO 2 (by decide) (by decide +kernel) rfl rfl ?_
    refine x_istore_n (lv' := [(2, .int (zI (n : Int))), (1, .ref d), (0, .ref a)]) C dJx4a65c_clear_da8c8_19 rfl (by decide) rfl ?_
    refine x_aload_n C dJx4a65c_clear_da8c8_20 rfl 2 rfl ?_
    refine z_iconst C dJx4a65c_clear_da8c8_21 ?_
    refine x_dup_x1 C dJx4a65c_clear_da8c8_22 rfl rfl ?_
    refine z_put (ci := 0) (Cn := RJx4a65c) (T := TJx4a65c) (N := 3) (ref := "java/util/ArrayList") (fs' := [.int (zI (m + 1)), .ref d, .int (zI 0)]) C dJx4a65c_clear_da8c8_23 in_Jx4a65c rfl tyJx4a65c tyJx4a65c_ok nmJx4a65c hO 2 (by decide) (by decide +kernel) rfl rfl rfl rfl rfl (Nat.le_of_ble_eq_true rfl) rfl (fun μ8 hOw hF9 => ?_)
    have hf := hF9.at hf
    have hFr : Fr r (r + 2) μ μ8 := hFr.tr hF9
    have hO := hOw
    refine x_istore_n (lv' := [(3, .int (zI 0)), (2, .int (zI (n : Int))), (1, .ref d), (0, .ref a)]) C dJx4a65c_clear_da8c8_26 rfl (by decide) rfl ?_
    have L27 : ∀ (M9 : Nat) (μk : Mm) (k : Nat) (kz : Int) (hkz : kz = (k : Int)) (g : Nat → Option Nat) (hO : OB μk a r 0 [.int (zI (m + 1)), .ref d, .int (zI 0)]) (hf : μk d = some (r + 1, eO G 10 g)) (hFr : Fr r (r + 2) μ μk) (hk : k ≤ n) (hM9 : n - k = M9), Wx E G 0 0 27 [(3, .int (zI kz)), (2, .int (zI (n : Int))), (1, .ref d), (0, .ref a)] [] μk := by
      intro M9
      induction M9 using Nat.strongRecOn with
      | ind M9 ih27 =>
        intro μk k kz hkz g hO hf hFr hk hM9
        subst hkz
        refine x_iload_n C dJx4a65c_clear_da8c8_27 rfl 0 rfl ?_
        refine x_iload_n C dJx4a65c_clear_da8c8_28 rfl 1 rfl ?_
        refine z_icmp_ge (tgt := 42) C dJx4a65c_clear_da8c8_29 (by decide) (rg_of (by omega) (by omega)) (rg_of (by omega) (by omega)) (fun c_10 => ?_) (fun c_10 => ?_)
        · exact x_vret C R dJx4a65c_clear_da8c8_42 (Nat.le_of_ble_eq_true rfl) (Nat.le_of_ble_eq_true rfl) (⟨rfl, fun ys => ⟨_, d, hO, by omega, Or.inr ⟨_, hf, fun j hj => absurd hj (Nat.not_lt_zero j)⟩⟩, hFr⟩)
        · refine x_aload_n C dJx4a65c_clear_da8c8_32 rfl 2 rfl ?_
          refine x_iload_n C dJx4a65c_clear_da8c8_33 rfl 0 rfl ?_
          refine x_null C dJx4a65c_clear_da8c8_34 ?_
          refine x_aastN (j := k) C dJx4a65c_clear_da8c8_35 hf (ix_z (by omega) (by omega) (by decide)) rfl ?_
          obtain ⟨μ11, hμμ11⟩ : ∃ m9, m9 = mU μk d (r + 1) (eO G 10 (va_up g k none)) := ⟨_, rfl⟩
          have hF12 : Fr (r + 1) (r + 1 + 1) μk μ11 := by rw [hμμ11]; exact mU_fr hf
          have hfw : μ11 d = some (r + 1, eO G 10 (va_up g k none)) := by rw [hμμ11]; exact mU_at
          rw [← hμμ11]
          have hO := hF12.ob hO
          have hFr : Fr r (r + 2) μ μ11 := hFr.tr hF12
          have hf := hfw
          refine z_iinc (lv' := [(3, .int (zI ((k : Int) + 1))), (2, .int (zI (n : Int))), (1, .ref d), (0, .ref a)]) C dJx4a65c_clear_da8c8_36 0 rfl rfl (by decide) rfl ?_
          refine x_goto (tgt := 27) C dJx4a65c_clear_da8c8_39 (by decide) ?_
          exact ih27 _ (by omega) _ (k + 1) _ (by omega) _ hO hf hFr (by omega) rfl
    exact L27 _ _ (0) _ (by omega) _ hO hf hFr (by omega) rfl
