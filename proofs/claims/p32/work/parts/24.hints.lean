abbrev rm_X2_init : Room := { frames := 4, cells := 1, slots := 3, locals := 80 }
set_option maxHeartbeats 4000000 in
set_option maxRecDepth 100000 in
theorem c_X2_init (l : Launch) (hst : l.stackTraces = false) (G : GG) (z : Nat) (μ : Mm) (a b : Nat) (q : Nat → Nat → Int) (H : Nat → Int) (hO : OB μ a b 3 [.null]) : Ct l yX2_init wsX2_init rm_X2_init G z [.ref a] μ (rV (fun μ' => HintsR G z μ' a b 0 q H ∧ Fr b (b + 3) μ μ')) (nX) := by
  refine ct_of (cc := cX2_init) (maxL := 1) (ret := none) (own := RX2) (by decide) rfl rfl hst (Nat.le_of_ble_eq_true rfl) ?_
  intro E hLl hnm C R hT
  have in_Jx4a65c : ∀ w ∈ u_ws RJx4a65c TJx4a65c 3, w ∈ wsX2_init := by decide +kernel
  have in_X2 : ∀ w ∈ u_ws RX2 TX2 1, w ∈ wsX2_init := by decide +kernel
  have hFr : Fr b (b + 3) μ μ := Fr.rf
  refine x_eq (lv' := [(0, .ref a)]) rfl rfl ?_
  refine x_aload_n C dX2_init_0 rfl 0 rfl ?_
  refine x_objInit C dX2_init_1 (by decide +kernel) (by decide +kernel) (by decide +kernel) (Nat.le_of_ble_eq_true rfl) (Nat.le_of_ble_eq_true rfl) ?_
  refine x_aload_n C dX2_init_4 rfl 0 rfl ?_
  refine z_new (ci := 0) (Cn := RJx4a65c) (T := TJx4a65c) (N := 3) (cc9 := 1) (ss9 := 3) (fs := [.int (zI 0), .null, .int (zI 0)]) C (b + 1) dX2_init_5 in_Jx4a65c rfl tyJx4a65c tyJx4a65c_ok (by decide +kernel) (by decide +kernel) (by decide +kernel) (fun j hj => by rcases (show j = 0 ∨ j = 1 ∨ j = 2 by omega) with rfl | rfl | rfl <;> rfl) rfl rfl (Nat.le_of_ble_eq_true rfl) (Nat.le_of_ble_eq_true rfl) (fun a1 μ2 hq3 hO4 hF5 => ?_)
  have hF6 : Fr 0 0 μ μ2 := hF5 _ _
  have hO := (hF5 0 0).ob hO (Or.inr (Nat.zero_le _))
  have hFr : Fr b (b + 3) μ μ2 := hFr.tr (hF5 b (b + 3))
  refine x_dup C dX2_init_8 rfl ?_
  refine x_callI (n := 0) (cc9 := 1) (ss9 := 3) (rest := [.ref a1, .ref a]) C dX2_init_9 (c_Jx4a65c_init_da8c8 (kxL E) C.st G z μ2 a1 (b + 1) hO4) gX2_init_Jx4a65c_init_da8c8 rfl (by decide +kernel) (by decide +kernel) (by decide +kernel) rfl (by decide +kernel) ⟨(Nat.le_of_ble_eq_true rfl), (Nat.le_of_ble_eq_true rfl)⟩ rfl rfl (Nat.le_of_ble_eq_true rfl) rfl rfl ⟨(Nat.le_of_ble_eq_true rfl), (Nat.le_of_ble_eq_true rfl)⟩ nX_no (fun v7 μ8 hv9 => ?_)
  obtain ⟨hw13, h11⟩ := hv9
  subst hw13
  obtain ⟨hL9, hF9⟩ := h11
  have hF14 := hF9
  have hO := hF14.ob hO
  have hFr : Fr b (b + 3) μ μ8 := hFr.tr hF14
  refine x_stk (stk' := [.ref a1, .ref a]) rfl ?_
  refine z_putF (ci := 3) (Cn := RX2) (T := TX2) (N := 1) (ref := "CairnCipher$Hints") (fs' := [.ref a1]) C dX2_init_12 hnm in_X2 rfl tyX2 tyX2_ok nmX2 hO 0 (by decide) (by decide +kernel) rfl rfl rfl rfl rfl rfl (Nat.le_of_ble_eq_true rfl) rfl (fun μ15 hOw hF16 => ?_)
  have hL9 : ∀ xs, ListR G z μ15 a1 (b + 1) 0 xs := (fun xs => hF16.list (hL9 xs))
  have hFr : Fr b (b + 3) μ μ15 := hFr.tr hF16
  have hO := hOw
  exact x_vret C R dX2_init_15 (Nat.le_of_ble_eq_true rfl) (Nat.le_of_ble_eq_true rfl) (⟨rfl, ⟨_, fun _ => 0, fun _ => 0, hO, hL9 _, by omega, fun j hj => absurd hj (Nat.not_lt_zero j)⟩, hFr⟩)
abbrev rm_X2_count : Room := { frames := 1, cells := 0, slots := 0, locals := 20 }
set_option maxHeartbeats 4000000 in
set_option maxRecDepth 100000 in
theorem c_X2_count (l : Launch) (hst : l.stackTraces = false) (G : GG) (z : Nat) (μ : Mm) (a b n : Nat) (q : Nat → Nat → Int) (H : Nat → Int) (hH9 : HintsR G z μ a b n q H) : Ct l yX2_count wsX2_count rm_X2_count G z [.ref a] μ (rP μ (fun r9 => r9 = (n : Int))) (nX) := by
  refine ct_of (cc := cX2_count) (maxL := 1) (ret := (some .int)) (own := RX2) (by decide) rfl rfl hst (Nat.le_of_ble_eq_true rfl) ?_
  intro E hLl hnm C R hT
  have in_X2 : ∀ w ∈ u_ws RX2 TX2 1, w ∈ wsX2_count := by decide +kernel
  have hH8 := hH9
  obtain ⟨al, xs, K, hO, hLs, hn, hJ⟩ := hH9
  refine x_eq (lv' := [(0, .ref a)]) rfl rfl ?_
  refine x_aload_n C dX2_count_0 rfl 0 rfl ?_
  refine x_get (ci := 3) (Cn := RX2) (T := TX2) (N := 1) (ref := "CairnCipher$Hints") C dX2_count_1 in_X2 rfl hO 0 (by decide) (by decide +kernel) rfl rfl ?_
  refine x_callV (n := 0) (ci := 0) (Cn := RJx4a65c) (T := TJx4a65c) (N := 3) (cc9 := 0) (ss9 := 0) (rest := []) C dX2_count_4 (c_Jx4a65c_size_8abf5 (kxL E) C.st G z μ _ _ _ _ hLs) gX2_count_Jx4a65c_size_8abf5 rfl (by decide +kernel) ⟨(Nat.le_of_ble_eq_true rfl), (Nat.le_of_ble_eq_true rfl)⟩ rfl hLs.ob rfl rfl (Nat.le_of_ble_eq_true rfl) rfl rfl ⟨(Nat.le_of_ble_eq_true rfl), (Nat.le_of_ble_eq_true rfl)⟩ nX_no (fun v1 μ2 hv3 => ?_)
  obtain ⟨r4, hw7, h5, hm6⟩ := hv3
  subst hw7
  rw [hm6]
  refine x_stk (stk' := [.int (zI r4)]) rfl ?_
  exact x_iret C R dX2_count_7 (Nat.le_of_ble_eq_true rfl) (Nat.le_of_ble_eq_true rfl) (⟨_, rfl, by assumption, rfl⟩)
abbrev rm_X2_empty : Room := { frames := 1, cells := 0, slots := 0, locals := 23 }
set_option maxHeartbeats 4000000 in
set_option maxRecDepth 100000 in
theorem c_X2_empty (l : Launch) (hst : l.stackTraces = false) (G : GG) (z : Nat) (μ : Mm) (a b n : Nat) (q : Nat → Nat → Int) (H : Nat → Int) (hH9 : HintsR G z μ a b n q H) : Ct l yX2_empty wsX2_empty rm_X2_empty G z [.ref a] μ (rV (fun μ' => (∀ q' H', HintsR G z μ' a b 0 q' H') ∧ Fr b (b + 3) μ μ')) (nX) := by
  refine ct_of (cc := cX2_empty) (maxL := 1) (ret := none) (own := RX2) (by decide) rfl rfl hst (Nat.le_of_ble_eq_true rfl) ?_
  intro E hLl hnm C R hT
  have in_X2 : ∀ w ∈ u_ws RX2 TX2 1, w ∈ wsX2_empty := by decide +kernel
  have hH8 := hH9
  obtain ⟨al, xs, K, hO, hLs, hn, hJ⟩ := hH9
  have hFr : Fr b (b + 3) μ μ := Fr.rf
  refine x_eq (lv' := [(0, .ref a)]) rfl rfl ?_
  refine x_aload_n C dX2_empty_0 rfl 0 rfl ?_
  refine x_get (ci := 3) (Cn := RX2) (T := TX2) (N := 1) (ref := "CairnCipher$Hints") C dX2_empty_1 in_X2 rfl hO 0 (by decide) (by decide +kernel) rfl rfl ?_
  refine x_callV (n := 0) (ci := 0) (Cn := RJx4a65c) (T := TJx4a65c) (N := 3) (cc9 := 0) (ss9 := 0) (rest := []) C dX2_empty_4 (c_Jx4a65c_clear_da8c8 (kxL E) C.st G z μ _ _ _ _ hLs) gX2_empty_Jx4a65c_clear_da8c8 rfl (by decide +kernel) ⟨(Nat.le_of_ble_eq_true rfl), (Nat.le_of_ble_eq_true rfl)⟩ rfl hLs.ob rfl rfl (Nat.le_of_ble_eq_true rfl) rfl rfl ⟨(Nat.le_of_ble_eq_true rfl), (Nat.le_of_ble_eq_true rfl)⟩ nX_no (fun v1 μ2 hv3 => ?_)
  obtain ⟨hw7, h5⟩ := hv3
  subst hw7
  obtain ⟨hL9, hF9⟩ := h5
  have hF8 := hF9
  have hO := hF8.ob hO
  have hFr : Fr b (b + 3) μ μ2 := hFr.tr hF8
  refine x_stk (stk' := []) rfl ?_
  exact x_vret C R dX2_empty_7 (Nat.le_of_ble_eq_true rfl) (Nat.le_of_ble_eq_true rfl) (⟨rfl, fun q' H' => ⟨_, fun _ => 0, fun _ => 0, hO, hL9 _, by omega, fun j hj => absurd hj (Nat.not_lt_zero j)⟩, hFr⟩)
abbrev rm_X2_allHoldAt : Room := { frames := 3, cells := 0, slots := 0, locals := 65 }
set_option maxHeartbeats 4000000 in
set_option maxRecDepth 100000 in
theorem c_X2_allHoldAt (l : Launch) (hst : l.stackTraces = false) (G : GG) (z : Nat) (μ : Mm) (a b n : Nat) (q : Nat → Nat → Int) (H : Nat → Int) (p h : Int) (hH9 : HintsR G z μ a b n q H) (hp : 0 ≤ p ∧ p < 64) (hh : 0 ≤ h ∧ h ≤ 9) : Ct l yX2_allHoldAt wsX2_allHoldAt rm_X2_allHoldAt G z [.ref a, .int (zI p), .int (zI h)] μ (rP μ (fun r9 => (r9 = 1 ∧ alw (fun j => hb h (q j) p) (-1) n = true) ∨ (r9 = 0 ∧ alw (fun j => hb h (q j) p) (-1) n = false))) (nX) := by
  refine ct_of (cc := cX2_allHoldAt) (maxL := 4) (ret := (some .boolean)) (own := RX2) (by decide) rfl rfl hst (Nat.le_of_ble_eq_true rfl) ?_
  intro E hLl hnm C R hT
  have in_X2 : ∀ w ∈ u_ws RX2 TX2 1, w ∈ wsX2_allHoldAt := by decide +kernel
  have hH8 := hH9
  obtain ⟨al, xs, K, hO, hLs, hn, hJ⟩ := hH9
  refine x_eq (lv' := [(0, .ref a), (1, .int (zI p)), (2, .int (zI h))]) rfl rfl ?_
  refine z_iconst C dX2_allHoldAt_0 ?_
  refine x_istore_n (lv' := [(3, .int (zI 0)), (0, .ref a), (1, .int (zI p)), (2, .int (zI h))]) C dX2_allHoldAt_1 rfl (by decide) rfl ?_
  have L2 : ∀ (M9 : Nat) (k : Nat) (kz : Int) (hkz : kz = (k : Int)) (hk : k ≤ n) (hs9 : alw (fun j => hb h (q j) p) (-1) k = true) (hM9 : n - k = M9), Wx E G 0 0 2 [(3, .int (zI kz)), (0, .ref a), (1, .int (zI p)), (2, .int (zI h))] [] μ := by
    intro M9
    induction M9 using Nat.strongRecOn with
    | ind M9 ih2 =>
      intro k kz hkz hk hs9 hM9
      subst hkz
      refine x_iload_n C dX2_allHoldAt_2 rfl 0 rfl ?_
      refine x_aload_n C dX2_allHoldAt_3 rfl 1 rfl ?_
      refine x_get (ci := 3) (Cn := RX2) (T := TX2) (N := 1) (ref := "CairnCipher$Hints") C dX2_allHoldAt_4 in_X2 rfl hO 0 (by decide) (by decide +kernel) rfl rfl ?_
      refine x_callV (n := 0) (ci := 0) (Cn := RJx4a65c) (T := TJx4a65c) (N := 3) (cc9 := 0) (ss9 := 0) (rest := [.int (zI (k : Int))]) C dX2_allHoldAt_7 (c_Jx4a65c_size_8abf5 (kxL E) C.st G z μ _ _ _ _ hLs) gX2_allHoldAt_Jx4a65c_size_8abf5 rfl (by decide +kernel) ⟨(Nat.le_of_ble_eq_true rfl), (Nat.le_of_ble_eq_true rfl)⟩ rfl hLs.ob rfl rfl (Nat.le_of_ble_eq_true rfl) rfl rfl ⟨(Nat.le_of_ble_eq_true rfl), (Nat.le_of_ble_eq_true rfl)⟩ nX_no (fun v1 μ2 hv3 => ?_)
      obtain ⟨r4, hw7, h5, hm6⟩ := hv3
      subst hw7
      rw [hm6]
      refine x_stk (stk' := [.int (zI r4), .int (zI (k : Int))]) rfl ?_
      refine z_icmp_ge (tgt := 40) C dX2_allHoldAt_10 (by decide) (rg_of (by omega) (by omega)) (rg_of (by omega) (by omega)) (fun c_8 => ?_) (fun c_8 => ?_)
      · refine z_iconst C dX2_allHoldAt_40 ?_
        exact x_zret C R dX2_allHoldAt_41 (nar_z (by omega)) (Nat.le_of_ble_eq_true rfl) (Nat.le_of_ble_eq_true rfl) (⟨_, rfl, Or.inl ⟨rfl, by (obtain rfl : k = n := (by omega); exact hs9)⟩, rfl⟩)
      · refine x_aload_n C dX2_allHoldAt_13 rfl 1 rfl ?_
        refine x_get (ci := 3) (Cn := RX2) (T := TX2) (N := 1) (ref := "CairnCipher$Hints") C dX2_allHoldAt_14 in_X2 rfl hO 0 (by decide) (by decide +kernel) rfl rfl ?_
        refine x_iload_n C dX2_allHoldAt_17 rfl 0 rfl ?_
        refine x_callV (n := 1) (ci := 0) (Cn := RJx4a65c) (T := TJx4a65c) (N := 3) (cc9 := 0) (ss9 := 0) (rest := []) C dX2_allHoldAt_18 (c_Jx4a65c_get_915e3 (kxL E) C.st G z μ _ _ _ _ k hLs (by omega)) gX2_allHoldAt_Jx4a65c_get_915e3 rfl (by decide +kernel) ⟨(Nat.le_of_ble_eq_true rfl), (Nat.le_of_ble_eq_true rfl)⟩ rfl hLs.ob rfl rfl (Nat.le_of_ble_eq_true rfl) rfl rfl ⟨(Nat.le_of_ble_eq_true rfl), (Nat.le_of_ble_eq_true rfl)⟩ nX_no (fun v9 μ10 hv11 => ?_)
        obtain ⟨r12, hw15, h13, hm14⟩ := hv11
        subst hw15
        rw [hm14]
        have hK7 : HK μ r12 (b + 10 + k) (q k) (K k) := by rw [h13]; exact (hJ k (by omega)).1
        refine x_stk (stk' := [.ref r12]) rfl ?_
        refine x_cast (ci := 2) (Cn := RX1) (T := TX1) (N := 5) C dX2_allHoldAt_21 rfl hK7.ob (by decide +kernel) ?_
        refine x_iload_n C dX2_allHoldAt_24 rfl 2 rfl ?_
        refine x_iload_n C dX2_allHoldAt_25 rfl 3 rfl ?_
        refine x_callV (n := 2) (ci := 2) (Cn := RX1) (T := TX1) (N := 5) (cc9 := 0) (ss9 := 0) (rest := []) C dX2_allHoldAt_26 (c_X1_holdsAt (kxL E) C.st G z μ _ _ _ _ p h hK7 (by omega) (by omega)) gX2_allHoldAt_X1_holdsAt rfl (by decide +kernel) ⟨(Nat.le_of_ble_eq_true rfl), (Nat.le_of_ble_eq_true rfl)⟩ rfl hK7.ob rfl rfl (Nat.le_of_ble_eq_true rfl) rfl rfl ⟨(Nat.le_of_ble_eq_true rfl), (Nat.le_of_ble_eq_true rfl)⟩ nX_no (fun v16 μ17 hv18 => ?_)
        obtain ⟨r19, hw22, h20, hm21⟩ := hv18
        subst hw22
        rw [hm21]
        have hb9 := h20
        refine x_stk (stk' := [.int (zI r19)]) rfl ?_
        refine z_if_ne (tgt := 34) C dX2_allHoldAt_29 (by decide) (rg_of (by omega) (by omega)) (fun c_23 => ?_) (fun c_23 => ?_)
        · refine z_iinc (lv' := [(3, .int (zI ((k : Int) + 1))), (0, .ref a), (1, .int (zI p)), (2, .int (zI h))]) C dX2_allHoldAt_34 0 rfl rfl (by decide) rfl ?_
          refine x_goto (tgt := 2) C dX2_allHoldAt_37 (by decide) ?_
          exact ih2 _ (by omega) (k + 1) _ (by omega) (by omega) (by rw [show alw (fun j => hb h (q j) p) (-1) (k + 1) = (alw (fun j => hb h (q j) p) (-1) k && (decide ((k : Int) = -1) || hb h (q k) p)) from rfl, hs9]; rcases hb9 with ⟨h1, h2⟩ | ⟨h1, h2⟩; simp [h2]; exfalso; omega) rfl
        · refine z_iconst C dX2_allHoldAt_32 ?_
          exact x_zret C R dX2_allHoldAt_33 (nar_z (by omega)) (Nat.le_of_ble_eq_true rfl) (Nat.le_of_ble_eq_true rfl) (⟨_, rfl, Or.inr ⟨rfl, by (cases w : alw (fun j => hb h (q j) p) (-1) n; rfl; exfalso; rcases hb9 with ⟨h1, h2⟩ | ⟨h1, h2⟩; omega; have := (alw_t.mp w) k (by omega) (by omega); rw [h2] at this; cases this)⟩, rfl⟩)
  exact L2 _ (0) _ (by omega) (by omega) rfl rfl
abbrev rm_X2_keptPlacesWithout : Room := { frames := 3, cells := 0, slots := 0, locals := 64 }
set_option maxHeartbeats 4000000 in
set_option maxRecDepth 100000 in
theorem c_X2_keptPlacesWithout (l : Launch) (hst : l.stackTraces = false) (G : GG) (z : Nat) (μ : Mm) (a b n : Nat) (q : Nat → Nat → Int) (H : Nat → Int) (left : Int) (hH9 : HintsR G z μ a b n q H) (hl : -2147483648 ≤ left ∧ left < 2147483648) : Ct l yX2_keptPlacesWithout wsX2_keptPlacesWithout rm_X2_keptPlacesWithout G z [.ref a, .int (zI left)] μ (fun v μ' => ∃ r9 : Int64, v = some (.long r9) ∧ (∀ p, p < 64 → kb r9 p = allat H q left n p) ∧ μ' = μ) (nX) := by
  refine ct_of (cc := cX2_keptPlacesWithout) (maxL := 5) (ret := (some .long)) (own := RX2) (by decide) rfl rfl hst (Nat.le_of_ble_eq_true rfl) ?_
  intro E hLl hnm C R hT
  have in_X2 : ∀ w ∈ u_ws RX2 TX2 1, w ∈ wsX2_keptPlacesWithout := by decide +kernel
  have hH8 := hH9
  obtain ⟨al, xs, K, hO, hLs, hn, hJ⟩ := hH9
  refine x_eq (lv' := [(0, .ref a), (1, .int (zI left))]) rfl rfl ?_
  refine x_ldc2 (v := (-1)) C dX2_keptPlacesWithout_0 (by decide +kernel) ?_
  refine x_lstore_n (lv' := [(2, .long (-1 : Int64)), (0, .ref a), (1, .int (zI left))]) C dX2_keptPlacesWithout_3 rfl (by decide) rfl ?_
  refine z_iconst C dX2_keptPlacesWithout_4 ?_
  refine x_istore (lv' := [(4, .int (zI 0)), (2, .long (-1 : Int64)), (0, .ref a), (1, .int (zI left))]) C dX2_keptPlacesWithout_5 (by decide) rfl ?_
  have L7 : ∀ (M9 : Nat) (k : Nat) (kz : Int) (hkz : kz = (k : Int)) (Rk : Int64) (hk : k ≤ n) (hs9 : ∀ p, p < 64 → kb Rk p = allat H q left k p) (hM9 : n - k = M9), Wx E G 0 0 7 [(4, .int (zI kz)), (2, .long Rk), (0, .ref a), (1, .int (zI left))] [] μ := by
    intro M9
    induction M9 using Nat.strongRecOn with
    | ind M9 ih7 =>
      intro k kz hkz Rk hk hs9 hM9
      subst hkz
      refine x_iload C dX2_keptPlacesWithout_7 0 rfl ?_
      refine x_aload_n C dX2_keptPlacesWithout_9 rfl 2 rfl ?_
      refine x_get (ci := 3) (Cn := RX2) (T := TX2) (N := 1) (ref := "CairnCipher$Hints") C dX2_keptPlacesWithout_10 in_X2 rfl hO 0 (by decide) (by decide +kernel) rfl rfl ?_
      refine x_callV (n := 0) (ci := 0) (Cn := RJx4a65c) (T := TJx4a65c) (N := 3) (cc9 := 0) (ss9 := 0) (rest := [.int (zI (k : Int))]) C dX2_keptPlacesWithout_13 (c_Jx4a65c_size_8abf5 (kxL E) C.st G z μ _ _ _ _ hLs) gX2_keptPlacesWithout_Jx4a65c_size_8abf5 rfl (by decide +kernel) ⟨(Nat.le_of_ble_eq_true rfl), (Nat.le_of_ble_eq_true rfl)⟩ rfl hLs.ob rfl rfl (Nat.le_of_ble_eq_true rfl) rfl rfl ⟨(Nat.le_of_ble_eq_true rfl), (Nat.le_of_ble_eq_true rfl)⟩ nX_no (fun v1 μ2 hv3 => ?_)
      obtain ⟨r4, hw7, h5, hm6⟩ := hv3
      subst hw7
      rw [hm6]
      refine x_stk (stk' := [.int (zI r4), .int (zI (k : Int))]) rfl ?_
      refine z_icmp_ge (tgt := 49) C dX2_keptPlacesWithout_16 (by decide) (rg_of (by omega) (by omega)) (rg_of (by omega) (by omega)) (fun c_8 => ?_) (fun c_8 => ?_)
      · refine x_lload_n C dX2_keptPlacesWithout_49 rfl 1 rfl ?_
        exact x_lret C R dX2_keptPlacesWithout_50 (Nat.le_of_ble_eq_true rfl) (Nat.le_of_ble_eq_true rfl) (⟨_, rfl, fun p hp => by (obtain rfl : k = n := (by omega); exact hs9 p hp), rfl⟩)
      · refine x_iload C dX2_keptPlacesWithout_19 0 rfl ?_
        refine x_iload_n C dX2_keptPlacesWithout_21 rfl 3 rfl ?_
        refine z_icmp_eq (tgt := 43) C dX2_keptPlacesWithout_22 (by decide) (rg_of (by omega) (by omega)) (rg_of (by omega) (by omega)) (fun c_9 => ?_) (fun c_9 => ?_)
        · have c_z : (k : Int) = left := by omega
          refine z_iinc (lv' := [(4, .int (zI ((k : Int) + 1))), (2, .long Rk), (0, .ref a), (1, .int (zI left))]) C dX2_keptPlacesWithout_43 0 rfl rfl (by decide) rfl ?_
          refine x_goto (tgt := 7) C dX2_keptPlacesWithout_46 (by decide) ?_
          exact ih7 _ (by omega) (k + 1) _ (by omega) _ (by omega) (fun p hp => by rw [show allat H q left (k + 1) p = (allat H q left k p && (decide ((k : Int) = left) || hb (H p) (q k) p)) from rfl, ← hs9 p hp]; simp [c_z]) rfl
        · have c_z : ¬ ((k : Int) = left) := by omega
          refine x_lload_n C dX2_keptPlacesWithout_25 rfl 1 rfl ?_
          refine x_aload_n C dX2_keptPlacesWithout_26 rfl 2 rfl ?_
          refine x_get (ci := 3) (Cn := RX2) (T := TX2) (N := 1) (ref := "CairnCipher$Hints") C dX2_keptPlacesWithout_27 in_X2 rfl hO 0 (by decide) (by decide +kernel) rfl rfl ?_
          refine x_iload C dX2_keptPlacesWithout_30 0 rfl ?_
          refine x_callV (n := 1) (ci := 0) (Cn := RJx4a65c) (T := TJx4a65c) (N := 3) (cc9 := 0) (ss9 := 0) (rest := [.long Rk]) C dX2_keptPlacesWithout_32 (c_Jx4a65c_get_915e3 (kxL E) C.st G z μ _ _ _ _ k hLs (by omega)) gX2_keptPlacesWithout_Jx4a65c_get_915e3 rfl (by decide +kernel) ⟨(Nat.le_of_ble_eq_true rfl), (Nat.le_of_ble_eq_true rfl)⟩ rfl hLs.ob rfl rfl (Nat.le_of_ble_eq_true rfl) rfl rfl ⟨(Nat.le_of_ble_eq_true rfl), (Nat.le_of_ble_eq_true rfl)⟩ nX_no (fun v10 μ11 hv12 => ?_)
          obtain ⟨r13, hw16, h14, hm15⟩ := hv12
          subst hw16
          rw [hm15]
          have hK7 : HK μ r13 (b + 10 + k) (q k) (K k) := by rw [h14]; exact (hJ k (by omega)).1
          refine x_stk (stk' := [.ref r13, .long Rk]) rfl ?_
          refine x_cast (ci := 2) (Cn := RX1) (T := TX1) (N := 5) C dX2_keptPlacesWithout_35 rfl hK7.ob (by decide +kernel) ?_
          refine x_callV (n := 0) (ci := 2) (Cn := RX1) (T := TX1) (N := 5) (cc9 := 0) (ss9 := 0) (rest := [.long Rk]) C dX2_keptPlacesWithout_38 (c_X1_keptPlaces (kxL E) C.st G z μ _ _ _ _ hK7) gX2_keptPlacesWithout_X1_keptPlaces rfl (by decide +kernel) ⟨(Nat.le_of_ble_eq_true rfl), (Nat.le_of_ble_eq_true rfl)⟩ rfl hK7.ob rfl rfl (Nat.le_of_ble_eq_true rfl) rfl rfl ⟨(Nat.le_of_ble_eq_true rfl), (Nat.le_of_ble_eq_true rfl)⟩ nX_no (fun v17 μ18 hv19 => ?_)
          obtain ⟨r20, hw23, h21, hm22⟩ := hv19
          subst hw23
          rw [hm22]
          have hkp : ∀ p, p < 64 → kb r20 p = hb (H p) (q k) (p : Int) := fun p hp => by rw [h21]; exact (hJ k (by omega)).2 p hp
          refine x_stk (stk' := [.long r20, .long Rk]) rfl ?_
          refine x_land C dX2_keptPlacesWithout_41 rfl ?_
          refine x_lstore_n (lv' := [(2, .long (Rk &&& r20)), (4, .int (zI (k : Int))), (0, .ref a), (1, .int (zI left))]) C dX2_keptPlacesWithout_42 rfl (by decide) rfl ?_
          refine z_iinc (lv' := [(4, .int (zI ((k : Int) + 1))), (2, .long (Rk &&& r20)), (0, .ref a), (1, .int (zI left))]) C dX2_keptPlacesWithout_43 1 rfl rfl (by decide) rfl ?_
          refine x_goto (tgt := 7) C dX2_keptPlacesWithout_46 (by decide) ?_
          exact ih7 _ (by omega) (k + 1) _ (by omega) _ (by omega) (fun p hp => by rw [show allat H q left (k + 1) p = (allat H q left k p && (decide ((k : Int) = left) || hb (H p) (q k) p)) from rfl, ← hs9 p hp]; rw [kb_and, hkp p hp]; simp [c_z]) rfl
  exact L7 _ (0) _ (by omega) _ (by omega) (fun p hp => kb_m1 hp) rfl
abbrev rm_X2_keptPlaces : Room := { frames := 4, cells := 0, slots := 0, locals := 88 }
set_option maxHeartbeats 4000000 in
set_option maxRecDepth 100000 in
theorem c_X2_keptPlaces (l : Launch) (hst : l.stackTraces = false) (G : GG) (z : Nat) (μ : Mm) (a b n : Nat) (q : Nat → Nat → Int) (H : Nat → Int) (hH9 : HintsR G z μ a b n q H) : Ct l yX2_keptPlaces wsX2_keptPlaces rm_X2_keptPlaces G z [.ref a] μ (fun v μ' => ∃ r9 : Int64, v = some (.long r9) ∧ (∀ p, p < 64 → kb r9 p = allat H q (-1) n p) ∧ μ' = μ) (nX) := by
  refine ct_of (cc := cX2_keptPlaces) (maxL := 1) (ret := (some .long)) (own := RX2) (by decide) rfl rfl hst (Nat.le_of_ble_eq_true rfl) ?_
  intro E hLl hnm C R hT
  have hH8 := hH9
  obtain ⟨al, xs, K, hO, hLs, hn, hJ⟩ := hH9
  refine x_eq (lv' := [(0, .ref a)]) rfl rfl ?_
  refine x_aload_n C dX2_keptPlaces_0 rfl 0 rfl ?_
  refine z_iconst C dX2_keptPlaces_1 ?_
  refine x_callV (n := 1) (ci := 3) (Cn := RX2) (T := TX2) (N := 1) (cc9 := 0) (ss9 := 0) (rest := []) C dX2_keptPlaces_2 (c_X2_keptPlacesWithout (kxL E) C.st G z μ _ _ _ _ _ (-1) hH8 (by omega)) gX2_keptPlaces_X2_keptPlacesWithout rfl (by decide +kernel) ⟨(Nat.le_of_ble_eq_true rfl), (Nat.le_of_ble_eq_true rfl)⟩ rfl ⟨_, _, hO⟩ rfl rfl (Nat.le_of_ble_eq_true rfl) rfl rfl ⟨(Nat.le_of_ble_eq_true rfl), (Nat.le_of_ble_eq_true rfl)⟩ nX_no (fun v1 μ2 hv3 => ?_)
  obtain ⟨r4, hw7, h5, hm6⟩ := hv3
  subst hw7
  rw [hm6]
  refine x_stk (stk' := [.long r4]) rfl ?_
  exact x_lret C R dX2_keptPlaces_5 (Nat.le_of_ble_eq_true rfl) (Nat.le_of_ble_eq_true rfl) (⟨_, rfl, by assumption, rfl⟩)
abbrev rm_X2_keptPlace : Room := { frames := 5, cells := 0, slots := 0, locals := 108 }
set_option maxHeartbeats 4000000 in
set_option maxRecDepth 100000 in
theorem c_X2_keptPlace (l : Launch) (hst : l.stackTraces = false) (G : GG) (z : Nat) (μ : Mm) (a b n : Nat) (q : Nat → Nat → Int) (H : Nat → Int) (hH9 : HintsR G z μ a b n q H) : Ct l yX2_keptPlace wsX2_keptPlace rm_X2_keptPlace G z [.ref a] μ (rP μ (fun r9 => UQ (allat H q (-1) n) r9)) (nX) := by
  refine ct_of (cc := cX2_keptPlace) (maxL := 1) (ret := (some .int)) (own := RX2) (by decide) rfl rfl hst (Nat.le_of_ble_eq_true rfl) ?_
  intro E hLl hnm C R hT
  have hH8 := hH9
  obtain ⟨al, xs, K, hO, hLs, hn, hJ⟩ := hH9
  refine x_eq (lv' := [(0, .ref a)]) rfl rfl ?_
  refine x_aload_n C dX2_keptPlace_0 rfl 0 rfl ?_
  refine x_callV (n := 0) (ci := 3) (Cn := RX2) (T := TX2) (N := 1) (cc9 := 0) (ss9 := 0) (rest := []) C dX2_keptPlace_1 (c_X2_keptPlaces (kxL E) C.st G z μ _ _ _ _ _ hH8 ) gX2_keptPlace_X2_keptPlaces rfl (by decide +kernel) ⟨(Nat.le_of_ble_eq_true rfl), (Nat.le_of_ble_eq_true rfl)⟩ rfl ⟨_, _, hO⟩ rfl rfl (Nat.le_of_ble_eq_true rfl) rfl rfl ⟨(Nat.le_of_ble_eq_true rfl), (Nat.le_of_ble_eq_true rfl)⟩ nX_no (fun v1 μ2 hv3 => ?_)
  obtain ⟨r4, hw7, h5, hm6⟩ := hv3
  subst hw7
  rw [hm6]
  have hk9 := h5
  refine x_stk (stk' := [.long r4]) rfl ?_
  refine x_callSN (n := 1) (host := "CairnCipher") (cc9 := 0) (ss9 := 0) (rest := []) C dX2_keptPlace_4 (c_X8_onlyPlaceIn (kxL E) C.st G z μ r4) gX2_keptPlace_X8_onlyPlaceIn_n53 rfl (by decide +kernel) (by decide +kernel) (by decide +kernel) (by decide +kernel) ⟨(Nat.le_of_ble_eq_true rfl), (Nat.le_of_ble_eq_true rfl)⟩ rfl rfl (Nat.le_of_ble_eq_true rfl) rfl rfl ⟨(Nat.le_of_ble_eq_true rfl), (Nat.le_of_ble_eq_true rfl)⟩ nX_no (fun v8 μ9 hv10 => ?_)
  obtain ⟨r11, hw14, h12, hm13⟩ := hv10
  subst hw14
  rw [hm13]
  have hu9 := h12
  refine x_stk (stk' := [.int (zI r11)]) rfl ?_
  exact x_iret C R dX2_keptPlace_7 (Nat.le_of_ble_eq_true rfl) (Nat.le_of_ble_eq_true rfl) (⟨_, rfl, hu9.cong hk9, rfl⟩)
abbrev rm_X2_hasNeedlessHint : Room := { frames := 4, cells := 0, slots := 0, locals := 88 }
set_option maxHeartbeats 4000000 in
set_option maxRecDepth 100000 in
theorem c_X2_hasNeedlessHint (l : Launch) (hst : l.stackTraces = false) (G : GG) (z : Nat) (μ : Mm) (a b n : Nat) (q : Nat → Nat → Int) (H : Nat → Int) (hH9 : HintsR G z μ a b n q H) : Ct l yX2_hasNeedlessHint wsX2_hasNeedlessHint rm_X2_hasNeedlessHint G z [.ref a] μ (rP μ (fun r9 => (r9 = 1 ∧ ∃ j x, j < n ∧ UQ (allat H q (j : Nat) n) x ∧ x ≠ -1) ∨ (r9 = 0 ∧ ∀ j, j < n → UQ (allat H q (j : Nat) n) (-1)))) (nX) := by
  refine ct_of (cc := cX2_hasNeedlessHint) (maxL := 2) (ret := (some .boolean)) (own := RX2) (by decide) rfl rfl hst (Nat.le_of_ble_eq_true rfl) ?_
  intro E hLl hnm C R hT
  have in_X2 : ∀ w ∈ u_ws RX2 TX2 1, w ∈ wsX2_hasNeedlessHint := by decide +kernel
  have hH8 := hH9
  obtain ⟨al, xs, K, hO, hLs, hn, hJ⟩ := hH9
  refine x_eq (lv' := [(0, .ref a)]) rfl rfl ?_
  refine z_iconst C dX2_hasNeedlessHint_0 ?_
  refine x_istore_n (lv' := [(1, .int (zI 0)), (0, .ref a)]) C dX2_hasNeedlessHint_1 rfl (by decide) rfl ?_
  have L2 : ∀ (M9 : Nat) (k : Nat) (kz : Int) (hkz : kz = (k : Int)) (hk : k ≤ n) (hs9 : ∀ j, j < k → UQ (allat H q (j : Nat) n) (-1)) (hM9 : n - k = M9), Wx E G 0 0 2 [(1, .int (zI kz)), (0, .ref a)] [] μ := by
    intro M9
    induction M9 using Nat.strongRecOn with
    | ind M9 ih2 =>
      intro k kz hkz hk hs9 hM9
      subst hkz
      refine x_iload_n C dX2_hasNeedlessHint_2 rfl 0 rfl ?_
      refine x_aload_n C dX2_hasNeedlessHint_3 rfl 1 rfl ?_
      refine x_get (ci := 3) (Cn := RX2) (T := TX2) (N := 1) (ref := "CairnCipher$Hints") C dX2_hasNeedlessHint_4 in_X2 rfl hO 0 (by decide) (by decide +kernel) rfl rfl ?_
      refine x_callV (n := 0) (ci := 0) (Cn := RJx4a65c) (T := TJx4a65c) (N := 3) (cc9 := 0) (ss9 := 0) (rest := [.int (zI (k : Int))]) C dX2_hasNeedlessHint_7 (c_Jx4a65c_size_8abf5 (kxL E) C.st G z μ _ _ _ _ hLs) gX2_hasNeedlessHint_Jx4a65c_size_8abf5 rfl (by decide +kernel) ⟨(Nat.le_of_ble_eq_true rfl), (Nat.le_of_ble_eq_true rfl)⟩ rfl hLs.ob rfl rfl (Nat.le_of_ble_eq_true rfl) rfl rfl ⟨(Nat.le_of_ble_eq_true rfl), (Nat.le_of_ble_eq_true rfl)⟩ nX_no (fun v1 μ2 hv3 => ?_)
      obtain ⟨r4, hw7, h5, hm6⟩ := hv3
      subst hw7
      rw [hm6]
      refine x_stk (stk' := [.int (zI r4), .int (zI (k : Int))]) rfl ?_
      refine z_icmp_ge (tgt := 33) C dX2_hasNeedlessHint_10 (by decide) (rg_of (by omega) (by omega)) (rg_of (by omega) (by omega)) (fun c_8 => ?_) (fun c_8 => ?_)
      · refine z_iconst C dX2_hasNeedlessHint_33 ?_
        exact x_zret C R dX2_hasNeedlessHint_34 (nar_z (by omega)) (Nat.le_of_ble_eq_true rfl) (Nat.le_of_ble_eq_true rfl) (⟨_, rfl, Or.inr ⟨rfl, fun j hj => hs9 j (by omega)⟩, rfl⟩)
      · refine x_aload_n C dX2_hasNeedlessHint_13 rfl 1 rfl ?_
        refine x_iload_n C dX2_hasNeedlessHint_14 rfl 0 rfl ?_
        refine x_callV (n := 1) (ci := 3) (Cn := RX2) (T := TX2) (N := 1) (cc9 := 0) (ss9 := 0) (rest := []) C dX2_hasNeedlessHint_15 (c_X2_keptPlacesWithout (kxL E) C.st G z μ _ _ _ _ _ (k : Int) hH8 (by omega)) gX2_hasNeedlessHint_X2_keptPlacesWithout rfl (by decide +kernel) ⟨(Nat.le_of_ble_eq_true rfl), (Nat.le_of_ble_eq_true rfl)⟩ rfl ⟨_, _, hO⟩ rfl rfl (Nat.le_of_ble_eq_true rfl) rfl rfl ⟨(Nat.le_of_ble_eq_true rfl), (Nat.le_of_ble_eq_true rfl)⟩ nX_no (fun v9 μ10 hv11 => ?_)
        obtain ⟨r12, hw15, h13, hm14⟩ := hv11
        subst hw15
        rw [hm14]
        have hk9 := h13
        refine x_stk (stk' := [.long r12]) rfl ?_
        refine x_callSN (n := 1) (host := "CairnCipher") (cc9 := 0) (ss9 := 0) (rest := []) C dX2_hasNeedlessHint_18 (c_X8_onlyPlaceIn (kxL E) C.st G z μ r12) gX2_hasNeedlessHint_X8_onlyPlaceIn_n53 rfl (by decide +kernel) (by decide +kernel) (by decide +kernel) (by decide +kernel) ⟨(Nat.le_of_ble_eq_true rfl), (Nat.le_of_ble_eq_true rfl)⟩ rfl rfl (Nat.le_of_ble_eq_true rfl) rfl rfl ⟨(Nat.le_of_ble_eq_true rfl), (Nat.le_of_ble_eq_true rfl)⟩ nX_no (fun v16 μ17 hv18 => ?_)
        obtain ⟨r19, hw22, h20, hm21⟩ := hv18
        subst hw22
        rw [hm21]
        have hu9 := h20
        have hr9 := hu9.rg
        refine x_stk (stk' := [.int (zI r19)]) rfl ?_
        refine z_iconst C dX2_hasNeedlessHint_21 ?_
        refine z_icmp_eq (tgt := 27) C dX2_hasNeedlessHint_22 (by decide) (rg_of (by omega) (by omega)) (rg_of (by omega) (by omega)) (fun c_23 => ?_) (fun c_23 => ?_)
        · have hu8 : r19 = -1 := by omega
          refine z_iinc (lv' := [(1, .int (zI ((k : Int) + 1))), (0, .ref a)]) C dX2_hasNeedlessHint_27 0 rfl rfl (by decide) rfl ?_
          refine x_goto (tgt := 2) C dX2_hasNeedlessHint_30 (by decide) ?_
          exact ih2 _ (by omega) (k + 1) _ (by omega) (by omega) (fun j hj => (Nat.lt_or_ge j k).elim (hs9 j) (fun w => by rw [show j = k by omega]; have hu := hu9.cong hk9; rw [hu8] at hu; exact hu)) rfl
        · refine z_iconst C dX2_hasNeedlessHint_25 ?_
          exact x_zret C R dX2_hasNeedlessHint_26 (nar_z (by omega)) (Nat.le_of_ble_eq_true rfl) (Nat.le_of_ble_eq_true rfl) (⟨_, rfl, Or.inl ⟨rfl, k, _, by omega, hu9.cong hk9, by omega⟩, rfl⟩)
  exact L2 _ (0) _ (by omega) (by omega) (fun j hj => absurd hj (Nat.not_lt_zero j)) rfl
abbrev rm_X2_placeAskedOf : Room := { frames := 4, cells := 0, slots := 0, locals := 88 }
set_option maxHeartbeats 4000000 in
set_option maxRecDepth 100000 in
theorem c_X2_placeAskedOf (l : Launch) (hst : l.stackTraces = false) (G : GG) (z : Nat) (μ : Mm) (a b n : Nat) (q : Nat → Nat → Int) (H : Nat → Int) (ld : Nat) (Z : Nat → Int) (hH9 : HintsR G z μ a b n q H) (hL : LandR G μ ld H Z) : Ct l yX2_placeAskedOf wsX2_placeAskedOf rm_X2_placeAskedOf G z [.ref a, .ref ld] μ (rP μ (fun r9 => UQ (allat H q (-1) n) r9)) (nX) := by
  refine ct_of (cc := cX2_placeAskedOf) (maxL := 4) (ret := (some .int)) (own := RX2) (by decide) rfl rfl hst (Nat.le_of_ble_eq_true rfl) ?_
  intro E hLl hnm C R hT
  have hH8 := hH9
  obtain ⟨al, xs, K, hO, hLs, hn, hJ⟩ := hH9
  have hHr := hL.hr
  refine x_eq (lv' := [(0, .ref a), (1, .ref ld)]) rfl rfl ?_
  refine z_iconst C dX2_placeAskedOf_0 ?_
  refine x_istore_n (lv' := [(2, .int (zI (-1))), (0, .ref a), (1, .ref ld)]) C dX2_placeAskedOf_1 rfl (by decide) rfl ?_
  refine z_iconst C dX2_placeAskedOf_2 ?_
  refine x_istore_n (lv' := [(3, .int (zI 0)), (2, .int (zI (-1))), (0, .ref a), (1, .ref ld)]) C dX2_placeAskedOf_3 rfl (by decide) rfl ?_
  have L4 : ∀ (M9 : Nat) (k : Nat) (kz : Int) (hkz : kz = (k : Int)) (f : Int) (hk : k ≤ 64) (hs9 : (f = -1 ∧ ∀ p, p < k → allat H q (-1) n p = false) ∨ (∃ p0, p0 < k ∧ f = (p0 : Int) ∧ allat H q (-1) n p0 = true ∧ ∀ p, p < k → allat H q (-1) n p = true → p = p0)) (hM9 : 64 - k = M9), Wx E G 0 0 4 [(3, .int (zI kz)), (2, .int (zI f)), (0, .ref a), (1, .ref ld)] [] μ := by
    intro M9
    induction M9 using Nat.strongRecOn with
    | ind M9 ih4 =>
      intro k kz hkz f hk hs9 hM9
      subst hkz
      have hf9 : -1 ≤ f ∧ f < 64 := by rcases hs9 with ⟨h1, -⟩ | ⟨p0, h1, h2, -⟩ <;> omega
      refine x_iload_n C dX2_placeAskedOf_4 rfl 0 rfl ?_
      refine z_bipush C dX2_placeAskedOf_5 (by decide) ?_
      refine z_icmp_ge (tgt := 38) C dX2_placeAskedOf_7 (by decide) (rg_of (by omega) (by omega)) (rg_of (by omega) (by omega)) (fun c_1 => ?_) (fun c_1 => ?_)
      · refine x_iload_n C dX2_placeAskedOf_38 rfl 1 rfl ?_
        exact x_iret C R dX2_placeAskedOf_39 (Nat.le_of_ble_eq_true rfl) (Nat.le_of_ble_eq_true rfl) (⟨_, rfl, ask_end hs9 (by omega), rfl⟩)
      · refine x_aload_n C dX2_placeAskedOf_10 rfl 2 rfl ?_
        refine x_iload_n C dX2_placeAskedOf_11 rfl 0 rfl ?_
        refine x_aload_n C dX2_placeAskedOf_12 rfl 3 rfl ?_
        refine x_iload_n C dX2_placeAskedOf_13 rfl 0 rfl ?_
        refine x_callV (n := 1) (ci := 4) (Cn := RX3) (T := TX3) (N := 2) (cc9 := 0) (ss9 := 0) (rest := [.int (zI (k : Int)), .ref a]) C dX2_placeAskedOf_14 (c_X3_heightOf (kxL E) C.st G z μ _ _ _ (k : Int) hL (by omega)) gX2_placeAskedOf_X3_heightOf rfl (by decide +kernel) ⟨(Nat.le_of_ble_eq_true rfl), (Nat.le_of_ble_eq_true rfl)⟩ rfl hL.ob rfl rfl (Nat.le_of_ble_eq_true rfl) rfl rfl ⟨(Nat.le_of_ble_eq_true rfl), (Nat.le_of_ble_eq_true rfl)⟩ nX_no (fun v2 μ3 hv4 => ?_)
        obtain ⟨r5, hw8, h6, hm7⟩ := hv4
        subst hw8
        rw [hm7]
        rw [Int.toNat_natCast] at h6
        have hq9 := hHr k (by omega)
        have hr8 : r5 = H k := h6
        refine x_stk (stk' := [.int (zI r5), .int (zI (k : Int)), .ref a]) rfl ?_
        refine x_callV (n := 2) (ci := 3) (Cn := RX2) (T := TX2) (N := 1) (cc9 := 0) (ss9 := 0) (rest := []) C dX2_placeAskedOf_17 (c_X2_allHoldAt (kxL E) C.st G z μ _ _ _ _ _ (k : Int) r5 hH8 (by omega) (by omega)) gX2_placeAskedOf_X2_allHoldAt rfl (by decide +kernel) ⟨(Nat.le_of_ble_eq_true rfl), (Nat.le_of_ble_eq_true rfl)⟩ rfl ⟨_, _, hO⟩ rfl rfl (Nat.le_of_ble_eq_true rfl) rfl rfl ⟨(Nat.le_of_ble_eq_true rfl), (Nat.le_of_ble_eq_true rfl)⟩ nX_no (fun v9 μ10 hv11 => ?_)
        obtain ⟨r12, hw15, h13, hm14⟩ := hv11
        subst hw15
        rw [hm14]
        have hb9 : (r12 = 1 ∧ allat H q (-1) n k = true) ∨ (r12 = 0 ∧ allat H q (-1) n k = false) := by rw [hr8] at h13; exact h13
        refine x_stk (stk' := [.int (zI r12)]) rfl ?_
        refine z_if_eq (tgt := 32) C dX2_placeAskedOf_20 (by decide) (rg_of (by omega) (by omega)) (fun c_16 => ?_) (fun c_16 => ?_)
        · refine z_iinc (lv' := [(3, .int (zI ((k : Int) + 1))), (2, .int (zI f)), (0, .ref a), (1, .ref ld)]) C dX2_placeAskedOf_32 0 rfl rfl (by decide) rfl ?_
          refine x_goto (tgt := 4) C dX2_placeAskedOf_35 (by decide) ?_
          exact ih4 _ (by omega) (k + 1) _ (by omega) _ (by omega) (ask_no hs9 (by rcases hb9 with ⟨h1, h2⟩ | ⟨h1, h2⟩; exfalso; omega; exact h2)) rfl
        · refine x_iload_n C dX2_placeAskedOf_23 rfl 1 rfl ?_
          refine z_iconst C dX2_placeAskedOf_24 ?_
          refine z_icmp_eq (tgt := 30) C dX2_placeAskedOf_25 (by decide) (rg_of (by omega) (by omega)) (rg_of (by omega) (by omega)) (fun c_17 => ?_) (fun c_17 => ?_)
          · refine x_iload_n C dX2_placeAskedOf_30 rfl 0 rfl ?_
            refine x_istore_n (lv' := [(2, .int (zI (k : Int))), (3, .int (zI (k : Int))), (0, .ref a), (1, .ref ld)]) C dX2_placeAskedOf_31 rfl (by decide) rfl ?_
            refine z_iinc (lv' := [(3, .int (zI ((k : Int) + 1))), (2, .int (zI (k : Int))), (0, .ref a), (1, .ref ld)]) C dX2_placeAskedOf_32 1 rfl rfl (by decide) rfl ?_
            refine x_goto (tgt := 4) C dX2_placeAskedOf_35 (by decide) ?_
            exact ih4 _ (by omega) (k + 1) _ (by omega) _ (by omega) (ask_yes hs9 (by rcases hb9 with ⟨h1, h2⟩ | ⟨h1, h2⟩; exact h2; exfalso; omega) (by omega)) rfl
          · refine z_iconst C dX2_placeAskedOf_28 ?_
            exact x_iret C R dX2_placeAskedOf_29 (Nat.le_of_ble_eq_true rfl) (Nat.le_of_ble_eq_true rfl) (⟨_, rfl, ask_two hs9 (by rcases hb9 with ⟨h1, h2⟩ | ⟨h1, h2⟩; exact h2; exfalso; omega) (by omega) (by omega), rfl⟩)
  exact L4 _ (0) _ (by omega) _ (by omega) (Or.inl ⟨rfl, fun p hp => absurd hp (Nat.not_lt_zero p)⟩) rfl
abbrev rm_X2_lookAgainAt : Room := { frames := 4, cells := 0, slots := 0, locals := 87 }
set_option maxHeartbeats 4000000 in
set_option maxRecDepth 100000 in
theorem c_X2_lookAgainAt (l : Launch) (hst : l.stackTraces = false) (G : GG) (z : Nat) (μ : Mm) (a b n : Nat) (q : Nat → Nat → Int) (H : Nat → Int) (p : Nat) (h : Int) (hH9 : HintsR G z μ a b n q H) (hp : p < 64) (hh : 0 ≤ h ∧ h ≤ 9) : Ct l yX2_lookAgainAt wsX2_lookAgainAt rm_X2_lookAgainAt G z [.ref a, .int (zI (p : Int)), .int (zI h)] μ (rV (fun μ' => HintsR G z μ' a b n q (wr H p h) ∧ Fr (b + 10) (b + 15) μ μ')) (nX) := by
  refine ct_of (cc := cX2_lookAgainAt) (maxL := 4) (ret := none) (own := RX2) (by decide) rfl rfl hst (Nat.le_of_ble_eq_true rfl) ?_
  intro E hLl hnm C R hT
  have in_X2 : ∀ w ∈ u_ws RX2 TX2 1, w ∈ wsX2_lookAgainAt := by decide +kernel
  obtain ⟨al, xs, K, hO, hLs, hn, hJ⟩ := hH9
  have hJ0 := fun j hj => (hJ j hj).1
  have hFr : Fr (b + 10) (b + 15) μ μ := Fr.rf
  refine x_eq (lv' := [(0, .ref a), (1, .int (zI (p : Int))), (2, .int (zI h))]) rfl rfl ?_
  refine z_iconst C dX2_lookAgainAt_0 ?_
  refine x_istore_n (lv' := [(3, .int (zI 0)), (0, .ref a), (1, .int (zI (p : Int))), (2, .int (zI h))]) C dX2_lookAgainAt_1 rfl (by decide) rfl ?_
  have L2 : ∀ (M9 : Nat) (μk : Mm) (k : Nat) (kz : Int) (hkz : kz = (k : Int)) (Kk : Nat → Int64) (hO : OB μk a b 3 [.ref al]) (hLs : ListR G z μk al (b + 1) n xs) (hJ0 : ∀ j, j < n → HK μk (xs j) (b + 10 + j) (q j) (Kk j)) (hFr : Fr (b + 10) (b + 15) μ μk) (hk : k ≤ n) (hA : ∀ j, j < k → KOK (wr H p h) (q j) (Kk j)) (hB : ∀ j, k ≤ j → j < n → KOK H (q j) (Kk j)) (hM9 : n - k = M9), Wx E G 0 0 2 [(3, .int (zI kz)), (0, .ref a), (1, .int (zI (p : Int))), (2, .int (zI h))] [] μk := by
    intro M9
    induction M9 using Nat.strongRecOn with
    | ind M9 ih2 =>
      intro μk k kz hkz Kk hO hLs hJ0 hFr hk hA hB hM9
      subst hkz
      refine x_iload_n C dX2_lookAgainAt_2 rfl 0 rfl ?_
      refine x_aload_n C dX2_lookAgainAt_3 rfl 1 rfl ?_
      refine x_get (ci := 3) (Cn := RX2) (T := TX2) (N := 1) (ref := "CairnCipher$Hints") C dX2_lookAgainAt_4 in_X2 rfl hO 0 (by decide) (by decide +kernel) rfl rfl ?_
      refine x_callV (n := 0) (ci := 0) (Cn := RJx4a65c) (T := TJx4a65c) (N := 3) (cc9 := 0) (ss9 := 0) (rest := [.int (zI (k : Int))]) C dX2_lookAgainAt_7 (c_Jx4a65c_size_8abf5 (kxL E) C.st G z μk _ _ _ _ hLs) gX2_lookAgainAt_Jx4a65c_size_8abf5 rfl (by decide +kernel) ⟨(Nat.le_of_ble_eq_true rfl), (Nat.le_of_ble_eq_true rfl)⟩ rfl hLs.ob rfl rfl (Nat.le_of_ble_eq_true rfl) rfl rfl ⟨(Nat.le_of_ble_eq_true rfl), (Nat.le_of_ble_eq_true rfl)⟩ nX_no (fun v1 μ2 hv3 => ?_)
      obtain ⟨r4, hw7, h5, hm6⟩ := hv3
      subst hw7
      rw [hm6]
      refine x_stk (stk' := [.int (zI r4), .int (zI (k : Int))]) rfl ?_
      refine z_icmp_ge (tgt := 35) C dX2_lookAgainAt_10 (by decide) (rg_of (by omega) (by omega)) (rg_of (by omega) (by omega)) (fun c_8 => ?_) (fun c_8 => ?_)
      · exact x_vret C R dX2_lookAgainAt_35 (Nat.le_of_ble_eq_true rfl) (Nat.le_of_ble_eq_true rfl) (⟨rfl, ⟨al, xs, Kk, hO, hLs, hn, fun j hj => ⟨hJ0 j hj, hA j (by omega)⟩⟩, hFr⟩)
      · refine x_aload_n C dX2_lookAgainAt_13 rfl 1 rfl ?_
        refine x_get (ci := 3) (Cn := RX2) (T := TX2) (N := 1) (ref := "CairnCipher$Hints") C dX2_lookAgainAt_14 in_X2 rfl hO 0 (by decide) (by decide +kernel) rfl rfl ?_
        refine x_iload_n C dX2_lookAgainAt_17 rfl 0 rfl ?_
        refine x_callV (n := 1) (ci := 0) (Cn := RJx4a65c) (T := TJx4a65c) (N := 3) (cc9 := 0) (ss9 := 0) (rest := []) C dX2_lookAgainAt_18 (c_Jx4a65c_get_915e3 (kxL E) C.st G z μk _ _ _ _ k hLs (by omega)) gX2_lookAgainAt_Jx4a65c_get_915e3 rfl (by decide +kernel) ⟨(Nat.le_of_ble_eq_true rfl), (Nat.le_of_ble_eq_true rfl)⟩ rfl hLs.ob rfl rfl (Nat.le_of_ble_eq_true rfl) rfl rfl ⟨(Nat.le_of_ble_eq_true rfl), (Nat.le_of_ble_eq_true rfl)⟩ nX_no (fun v9 μ10 hv11 => ?_)
        obtain ⟨r12, hw15, h13, hm14⟩ := hv11
        subst hw15
        rw [hm14]
        have hK7 : HK μk r12 (b + 10 + k) (q k) (Kk k) := by rw [h13]; exact hJ0 k (by omega)
        refine x_stk (stk' := [.ref r12]) rfl ?_
        refine x_cast (ci := 2) (Cn := RX1) (T := TX1) (N := 5) C dX2_lookAgainAt_21 rfl hK7.ob (by decide +kernel) ?_
        refine x_iload_n C dX2_lookAgainAt_24 rfl 2 rfl ?_
        refine x_iload_n C dX2_lookAgainAt_25 rfl 3 rfl ?_
        refine x_callV (n := 2) (ci := 2) (Cn := RX1) (T := TX1) (N := 5) (cc9 := 0) (ss9 := 0) (rest := []) C dX2_lookAgainAt_26 (c_X1_keep (kxL E) C.st G z μk r12 (b + 10 + k) (q k) (Kk k) p h hK7 hp hh) gX2_lookAgainAt_X1_keep rfl (by decide +kernel) ⟨(Nat.le_of_ble_eq_true rfl), (Nat.le_of_ble_eq_true rfl)⟩ rfl hK7.ob rfl rfl (Nat.le_of_ble_eq_true rfl) rfl rfl ⟨(Nat.le_of_ble_eq_true rfl), (Nat.le_of_ble_eq_true rfl)⟩ nX_no (fun v16 μ17 hv18 => ?_)
        obtain ⟨hw22, h20⟩ := hv18
        subst hw22
        obtain ⟨⟨K9, hK9, hk1, hk2⟩, hF9⟩ := h20
        have hF23 := hF9
        have hO := hF23.ob hO
        have hLs : ListR G z μ17 al (b + 1) n xs := hF23.list hLs
        have hFr : Fr (b + 10) (b + 15) μ μ17 := hFr.tr hF23
        have hJ0 : ∀ j, j < n → HK μ17 (xs j) (b + 10 + j) (q j) (va_up Kk k K9 j) := fun j hj => by (by_cases e : j = k); subst e; rw [va_up_self, ← h13]; exact hK9; rw [va_up_ne _ _ e]; exact hF9.hk (hJ0 j hj) (by omega)
        refine x_stk (stk' := []) rfl ?_
        refine z_iinc (lv' := [(3, .int (zI ((k : Int) + 1))), (0, .ref a), (1, .int (zI (p : Int))), (2, .int (zI h))]) C dX2_lookAgainAt_29 0 rfl rfl (by decide) rfl ?_
        refine x_goto (tgt := 2) C dX2_lookAgainAt_32 (by decide) ?_
        exact ih2 _ (by omega) _ (k + 1) _ (by omega) (va_up Kk k K9) hO hLs hJ0 hFr (by omega) (fun j hj => by (by_cases e : j = k); subst e; rw [va_up_self]; exact (hB j (Nat.le_refl j) (by omega)).wr hk1 hk2; rw [va_up_ne _ _ e]; exact hA j (by omega)) (fun j hj hj2 => by rw [va_up_ne _ _ (by omega)]; exact hB j (by omega) hj2) rfl
  exact L2 _ _ (0) _ (by omega) K hO hLs hJ0 hFr (by omega) (fun j hj => absurd hj (Nat.not_lt_zero j)) (fun j _ hj => (hJ j hj).2) rfl
abbrev rm_X2_add : Room := { frames := 5, cells := 1, slots := 10, locals := 108 }
set_option maxHeartbeats 4000000 in
set_option maxRecDepth 100000 in
theorem c_X2_add (l : Launch) (hst : l.stackTraces = false) (G : GG) (z : Nat) (μ : Mm) (a b n : Nat) (q : Nat → Nat → Int) (H : Nat → Int) (x ld : Nat) (Z : Nat → Int) (q0 : Nat → Int) (hH9 : HintsR G z μ a b n q H) (hn4 : n < 5) (hK9 : HK μ x (b + 10 + n) q0 0) (hL : LandR G μ ld H Z) (hb4 : 4 ≤ b) : Ct l yX2_add wsX2_add rm_X2_add G z [.ref a, .ref x, .ref ld] μ (rV (fun μ' => (∀ q', (∀ j, j < n → q' j = q j) → q' n = q0 → HintsR G z μ' a b (n + 1) q' H) ∧ Fr b (b + 15) μ μ')) (nX) := by
  refine ct_of (cc := cX2_add) (maxL := 4) (ret := none) (own := RX2) (by decide) rfl rfl hst (Nat.le_of_ble_eq_true rfl) ?_
  intro E hLl hnm C R hT
  have in_X2 : ∀ w ∈ u_ws RX2 TX2 1, w ∈ wsX2_add := by decide +kernel
  obtain ⟨al, xs, K, hO, hLs, hn, hJ⟩ := hH9
  have hHr := hL.hr
  have hFr : Fr b (b + 15) μ μ := Fr.rf
  refine x_eq (lv' := [(0, .ref a), (1, .ref x), (2, .ref ld)]) rfl rfl ?_
  refine z_iconst C dX2_add_0 ?_
  refine x_istore_n (lv' := [(3, .int (zI 0)), (0, .ref a), (1, .ref x), (2, .ref ld)]) C dX2_add_1 rfl (by decide) rfl ?_
  have L2 : ∀ (M9 : Nat) (μk : Mm) (k : Nat) (kz : Int) (hkz : kz = (k : Int)) (Kk : Int64) (hO : OB μk a b 3 [.ref al]) (hLs : ListR G z μk al (b + 1) n xs) (hJ : ∀ j, j < n → HK μk (xs j) (b + 10 + j) (q j) (K j) ∧ KOK H (q j) (K j)) (hL : LandR G μk ld H Z) (hK9 : HK μk x (b + 10 + n) q0 Kk) (hFr : Fr b (b + 15) μ μk) (hk : k ≤ 64) (hA : ∀ p, p < k → kb Kk p = hb (H p) q0 (p : Int)) (hM9 : 64 - k = M9), Wx E G 0 0 2 [(3, .int (zI kz)), (0, .ref a), (1, .ref x), (2, .ref ld)] [] μk := by
    intro M9
    induction M9 using Nat.strongRecOn with
    | ind M9 ih2 =>
      intro μk k kz hkz Kk hO hLs hJ hL hK9 hFr hk hA hM9
      subst hkz
      refine x_iload_n C dX2_add_2 rfl 0 rfl ?_
      refine z_bipush C dX2_add_3 (by decide) ?_
      refine z_icmp_ge (tgt := 24) C dX2_add_5 (by decide) (rg_of (by omega) (by omega)) (rg_of (by omega) (by omega)) (fun c_1 => ?_) (fun c_1 => ?_)
      · refine x_aload_n C dX2_add_24 rfl 1 rfl ?_
        refine x_get (ci := 3) (Cn := RX2) (T := TX2) (N := 1) (ref := "CairnCipher$Hints") C dX2_add_25 in_X2 rfl hO 0 (by decide) (by decide +kernel) rfl rfl ?_
        refine x_aload_n C dX2_add_28 rfl 2 rfl ?_
        refine x_callV (n := 1) (ci := 0) (Cn := RJx4a65c) (T := TJx4a65c) (N := 3) (cc9 := 1) (ss9 := 10) (rest := []) C dX2_add_29 (c_Jx4a65c_add_9ea2d (kxL E) C.st G z μk al (b + 1) n x 2 xs RX1 TX1 5 hLs (by omega) ⟨_, _, hK9.1, by omega⟩ rfl (by decide +kernel)) gX2_add_Jx4a65c_add_9ea2d rfl (by decide +kernel) ⟨(Nat.le_of_ble_eq_true rfl), (Nat.le_of_ble_eq_true rfl)⟩ rfl hLs.ob rfl rfl (Nat.le_of_ble_eq_true rfl) rfl rfl ⟨(Nat.le_of_ble_eq_true rfl), (Nat.le_of_ble_eq_true rfl)⟩ nX_no (fun v2 μ3 hv4 => ?_)
        obtain ⟨r5, hw8, h6⟩ := hv4
        subst hw8
        obtain ⟨hLs, hF9⟩ := h6
        have hF9 := hF9
        have hO := hF9.ob hO
        have hJ : ∀ j, j < n → HK μ3 (xs j) (b + 10 + j) (q j) (K j) ∧ KOK H (q j) (K j) := (fun j hj => ⟨hF9.hk (hJ j hj).1, (hJ j hj).2⟩)
        have hL : LandR G μ3 ld H Z := hF9.land hL
        have hK9 : HK μ3 x (b + 10 + n) q0 Kk := hF9.hk hK9
        have hFr : Fr b (b + 15) μ μ3 := hFr.tr hF9
        refine x_stk (stk' := [.int (zI r5)]) rfl ?_
        refine x_pop C dX2_add_32 rfl ?_
        exact x_vret C R dX2_add_33 (Nat.le_of_ble_eq_true rfl) (Nat.le_of_ble_eq_true rfl) (⟨rfl, fun q' h1 h2 => ⟨al, fun j => if j = n then x else xs j, fun j => if j = n then Kk else K j, hO, hLs _ (fun j hj => if_neg (by omega)) (if_pos rfl), by omega, fun j hj => by (by_cases e : j = n); subst e; dsimp only; rw [if_pos rfl, if_pos rfl, h2]; exact ⟨hK9, fun p hp => hA p (by omega)⟩; dsimp only; rw [if_neg e, if_neg e, h1 j (by omega)]; exact hJ j (by omega)⟩, hFr⟩)
      · refine x_aload_n C dX2_add_8 rfl 2 rfl ?_
        refine x_iload_n C dX2_add_9 rfl 0 rfl ?_
        refine x_aload_n C dX2_add_10 rfl 3 rfl ?_
        refine x_iload_n C dX2_add_11 rfl 0 rfl ?_
        refine x_callV (n := 1) (ci := 4) (Cn := RX3) (T := TX3) (N := 2) (cc9 := 0) (ss9 := 0) (rest := [.int (zI (k : Int)), .ref x]) C dX2_add_12 (c_X3_heightOf (kxL E) C.st G z μk _ _ _ (k : Int) hL (by omega)) gX2_add_X3_heightOf rfl (by decide +kernel) ⟨(Nat.le_of_ble_eq_true rfl), (Nat.le_of_ble_eq_true rfl)⟩ rfl hL.ob rfl rfl (Nat.le_of_ble_eq_true rfl) rfl rfl ⟨(Nat.le_of_ble_eq_true rfl), (Nat.le_of_ble_eq_true rfl)⟩ nX_no (fun v10 μ11 hv12 => ?_)
        obtain ⟨r13, hw16, h14, hm15⟩ := hv12
        subst hw16
        rw [hm15]
        rw [Int.toNat_natCast] at h14
        have hq9 := hHr k (by omega)
        have hr8 : r13 = H k := h14
        refine x_stk (stk' := [.int (zI r13), .int (zI (k : Int)), .ref x]) rfl ?_
        refine x_callV (n := 2) (ci := 2) (Cn := RX1) (T := TX1) (N := 5) (cc9 := 0) (ss9 := 0) (rest := []) C dX2_add_15 (c_X1_keep (kxL E) C.st G z μk x (b + 10 + n) q0 Kk k r13 hK9 (by omega) (by omega)) gX2_add_X1_keep rfl (by decide +kernel) ⟨(Nat.le_of_ble_eq_true rfl), (Nat.le_of_ble_eq_true rfl)⟩ rfl hK9.ob rfl rfl (Nat.le_of_ble_eq_true rfl) rfl rfl ⟨(Nat.le_of_ble_eq_true rfl), (Nat.le_of_ble_eq_true rfl)⟩ nX_no (fun v17 μ18 hv19 => ?_)
        obtain ⟨hw23, h21⟩ := hv19
        subst hw23
        obtain ⟨⟨K8, hK9, hk1, hk2⟩, hF9⟩ := h21
        have hF24 := hF9
        have hO := hF24.ob hO
        have hLs : ListR G z μ18 al (b + 1) n xs := hF24.list hLs
        have hJ : ∀ j, j < n → HK μ18 (xs j) (b + 10 + j) (q j) (K j) ∧ KOK H (q j) (K j) := (fun j hj => ⟨hF24.hk (hJ j hj).1, (hJ j hj).2⟩)
        have hL : LandR G μ18 ld H Z := hF24.land hL
        have hFr : Fr b (b + 15) μ μ18 := hFr.tr hF24
        refine x_stk (stk' := []) rfl ?_
        refine z_iinc (lv' := [(3, .int (zI ((k : Int) + 1))), (0, .ref a), (1, .ref x), (2, .ref ld)]) C dX2_add_18 0 rfl rfl (by decide) rfl ?_
        refine x_goto (tgt := 2) C dX2_add_21 (by decide) ?_
        exact ih2 _ (by omega) _ (k + 1) _ (by omega) K8 hO hLs hJ hL hK9 hFr (by omega) (fun j hj => by (by_cases e : j = k); subst e; rw [hk1, hr8]; rw [hk2 j (by omega) e]; exact hA j (by omega)) rfl
  exact L2 _ _ (0) _ (by omega) 0 hO hLs hJ hL hK9 hFr (by omega) (fun j hj => absurd hj (Nat.not_lt_zero j)) rfl
