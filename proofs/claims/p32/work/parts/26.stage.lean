abbrev rm_X4_init : Room := { frames := 6, cells := 0, slots := 0, locals := 128 }
set_option maxHeartbeats 4000000 in
set_option maxRecDepth 100000 in
theorem c_X4_init (l : Launch) (hst : l.stackTraces = false) (G : GG) (z : Nat) (μ : Mm) (a b n : Nat) (q : Nat → Nat → Int) (H : Nat → Int) (hi wd m : Nat) (W : Nat → Int) (hO : OB μ a (b + 50) 5 [.null, .null, .int (zI 0), .int (zI 0)]) (hHi : HintsR G z μ hi b n q H) (hWd : TextR G μ wd (b + 51) m W) : Ct l yX4_init wsX4_init rm_X4_init G z [.ref a, .ref hi, .ref wd] μ (rV (fun μ' => (∃ p, StageR G z μ' a b n q H m W p 0) ∧ Fr (b + 50) (b + 53) μ μ')) (nX) := by
  refine ct_of (cc := cX4_init) (maxL := 3) (ret := none) (own := RX4) (by decide) rfl rfl hst (Nat.le_of_ble_eq_true rfl) ?_
  intro E hLl hnm C R hT
  have in_X4 : ∀ w ∈ u_ws RX4 TX4 4, w ∈ wsX4_init := by decide +kernel
  have hFr : Fr (b + 50) (b + 53) μ μ := Fr.rf
  refine x_eq (lv' := [(0, .ref a), (1, .ref hi), (2, .ref wd)]) rfl rfl ?_
  refine x_aload_n C dX4_init_0 rfl 0 rfl ?_
  refine x_objInit C dX4_init_1 (by decide +kernel) (by decide +kernel) (by decide +kernel) (Nat.le_of_ble_eq_true rfl) (Nat.le_of_ble_eq_true rfl) ?_
  refine x_aload_n C dX4_init_4 rfl 0 rfl ?_
  refine z_iconst C dX4_init_5 ?_
  refine z_put (ci := 5) (Cn := RX4) (T := TX4) (N := 4) (ref := "CairnCipher$Stage") (fs' := [.null, .null, .int (zI 0), .int (zI 0)]) C dX4_init_6 in_X4 rfl tyX4 tyX4_ok nmX4 hO 3 (by decide) (by decide +kernel) rfl rfl rfl rfl rfl (Nat.le_of_ble_eq_true rfl) rfl (fun μ1 hOw hF2 => ?_)
  have hHi : HintsR G z μ1 hi b n q H := hF2.hints hHi
  have hWd : TextR G μ1 wd (b + 51) m W := hF2.text hWd
  have hFr : Fr (b + 50) (b + 53) μ μ1 := hFr.tr hF2
  have hO := hOw
  refine x_aload_n C dX4_init_9 rfl 0 rfl ?_
  refine x_aload_n C dX4_init_10 rfl 1 rfl ?_
  refine z_putF (ci := 5) (Cn := RX4) (T := TX4) (N := 4) (ref := "CairnCipher$Stage") (fs' := [.ref hi, .null, .int (zI 0), .int (zI 0)]) C dX4_init_11 hnm in_X4 rfl tyX4 tyX4_ok nmX4 hO 0 (by decide) (by decide +kernel) rfl rfl rfl rfl rfl rfl (Nat.le_of_ble_eq_true rfl) rfl (fun μ3 hOw hF4 => ?_)
  have hHi : HintsR G z μ3 hi b n q H := hF4.hints hHi
  have hWd : TextR G μ3 wd (b + 51) m W := hF4.text hWd
  have hFr : Fr (b + 50) (b + 53) μ μ3 := hFr.tr hF4
  have hO := hOw
  refine x_aload_n C dX4_init_14 rfl 0 rfl ?_
  refine x_aload_n C dX4_init_15 rfl 2 rfl ?_
  refine z_putF (ci := 5) (Cn := RX4) (T := TX4) (N := 4) (ref := "CairnCipher$Stage") (fs' := [.ref hi, .ref wd, .int (zI 0), .int (zI 0)]) C dX4_init_16 hnm in_X4 rfl tyX4 tyX4_ok nmX4 hO 1 (by decide) (by decide +kernel) rfl rfl rfl rfl rfl rfl (Nat.le_of_ble_eq_true rfl) rfl (fun μ5 hOw hF6 => ?_)
  have hHi : HintsR G z μ5 hi b n q H := hF6.hints hHi
  have hWd : TextR G μ5 wd (b + 51) m W := hF6.text hWd
  have hFr : Fr (b + 50) (b + 53) μ μ5 := hFr.tr hF6
  have hO := hOw
  refine x_aload_n C dX4_init_19 rfl 0 rfl ?_
  refine x_aload_n C dX4_init_20 rfl 1 rfl ?_
  refine x_callV (n := 0) (ci := 3) (Cn := RX2) (T := TX2) (N := 1) (cc9 := 0) (ss9 := 0) (rest := [.ref a]) C dX4_init_21 (c_X2_keptPlace (kxL E) C.st G z μ5 _ _ _ _ _ hHi ) gX4_init_X2_keptPlace rfl (by decide +kernel) ⟨(Nat.le_of_ble_eq_true rfl), (Nat.le_of_ble_eq_true rfl)⟩ rfl hHi.ob rfl rfl (Nat.le_of_ble_eq_true rfl) rfl rfl ⟨(Nat.le_of_ble_eq_true rfl), (Nat.le_of_ble_eq_true rfl)⟩ nX_no (fun v7 μ8 hv9 => ?_)
  obtain ⟨r10, hw13, h11, hm12⟩ := hv9
  subst hw13
  rw [hm12]
  have hu9 := h11
  refine x_stk (stk' := [.int (zI r10), .ref a]) rfl ?_
  refine z_put (ci := 5) (Cn := RX4) (T := TX4) (N := 4) (ref := "CairnCipher$Stage") (fs' := [.ref hi, .ref wd, .int (zI r10), .int (zI 0)]) C dX4_init_24 in_X4 rfl tyX4 tyX4_ok nmX4 hO 2 (by decide) (by decide +kernel) rfl rfl rfl rfl rfl (Nat.le_of_ble_eq_true rfl) rfl (fun μ14 hOw hF15 => ?_)
  have hHi : HintsR G z μ14 hi b n q H := hF15.hints hHi
  have hWd : TextR G μ14 wd (b + 51) m W := hF15.text hWd
  have hFr : Fr (b + 50) (b + 53) μ μ14 := hFr.tr hF15
  have hO := hOw
  exact x_vret C R dX4_init_27 (Nat.le_of_ble_eq_true rfl) (Nat.le_of_ble_eq_true rfl) (⟨rfl, ⟨_, ⟨hi, wd, hO, hHi, hWd, hu9⟩⟩, hFr⟩)
abbrev rm_X4_hints : Room := { frames := 0, cells := 0, slots := 0, locals := 0 }
set_option maxHeartbeats 4000000 in
set_option maxRecDepth 100000 in
theorem c_X4_hints (l : Launch) (hst : l.stackTraces = false) (G : GG) (z : Nat) (μ : Mm) (a b n : Nat) (q : Nat → Nat → Int) (H : Nat → Int) (m : Nat) (W : Nat → Int) (p mv : Int) (hS9 : StageR G z μ a b n q H m W p mv) : Ct l yX4_hints wsX4_hints rm_X4_hints G z [.ref a] μ (fun v μ' => ∃ r9, v = some (.ref r9) ∧ HintsR G z μ r9 b n q H ∧ μ' = μ) (nX) := by
  refine ct_of (cc := cX4_hints) (maxL := 1) (ret := (some (.object "CairnCipher$Hints"))) (own := RX4) (by decide) rfl rfl hst (Nat.le_of_ble_eq_true rfl) ?_
  intro E hLl hnm C R hT
  have in_X4 : ∀ w ∈ u_ws RX4 TX4 4, w ∈ wsX4_hints := by decide +kernel
  have hS8 := hS9
  obtain ⟨hi, wd, hO, hHi, hWd, hU⟩ := hS9
  have hU8 := hU.rg
  refine x_eq (lv' := [(0, .ref a)]) rfl rfl ?_
  refine x_aload_n C dX4_hints_0 rfl 0 rfl ?_
  refine x_get (ci := 5) (Cn := RX4) (T := TX4) (N := 4) (ref := "CairnCipher$Stage") C dX4_hints_1 in_X4 rfl hO 0 (by decide) (by decide +kernel) rfl rfl ?_
  exact x_aret C R dX4_hints_4 (by first | exact Or.inl ⟨_, rfl⟩ | exact Or.inr ⟨_, rfl⟩) (Nat.le_of_ble_eq_true rfl) (Nat.le_of_ble_eq_true rfl) (⟨_, rfl, hHi, rfl⟩)
abbrev rm_X4_word : Room := { frames := 0, cells := 0, slots := 0, locals := 0 }
set_option maxHeartbeats 4000000 in
set_option maxRecDepth 100000 in
theorem c_X4_word (l : Launch) (hst : l.stackTraces = false) (G : GG) (z : Nat) (μ : Mm) (a b n : Nat) (q : Nat → Nat → Int) (H : Nat → Int) (m : Nat) (W : Nat → Int) (p mv : Int) (hS9 : StageR G z μ a b n q H m W p mv) : Ct l yX4_word wsX4_word rm_X4_word G z [.ref a] μ (fun v μ' => ∃ r9, v = some (.ref r9) ∧ TextR G μ r9 (b + 51) m W ∧ μ' = μ) (nX) := by
  refine ct_of (cc := cX4_word) (maxL := 1) (ret := (some (.object "CairnCipher$Text"))) (own := RX4) (by decide) rfl rfl hst (Nat.le_of_ble_eq_true rfl) ?_
  intro E hLl hnm C R hT
  have in_X4 : ∀ w ∈ u_ws RX4 TX4 4, w ∈ wsX4_word := by decide +kernel
  have hS8 := hS9
  obtain ⟨hi, wd, hO, hHi, hWd, hU⟩ := hS9
  have hU8 := hU.rg
  refine x_eq (lv' := [(0, .ref a)]) rfl rfl ?_
  refine x_aload_n C dX4_word_0 rfl 0 rfl ?_
  refine x_get (ci := 5) (Cn := RX4) (T := TX4) (N := 4) (ref := "CairnCipher$Stage") C dX4_word_1 in_X4 rfl hO 1 (by decide) (by decide +kernel) rfl rfl ?_
  exact x_aret C R dX4_word_4 (by first | exact Or.inl ⟨_, rfl⟩ | exact Or.inr ⟨_, rfl⟩) (Nat.le_of_ble_eq_true rfl) (Nat.le_of_ble_eq_true rfl) (⟨_, rfl, hWd, rfl⟩)
abbrev rm_X4_standsAt : Room := { frames := 0, cells := 0, slots := 0, locals := 0 }
set_option maxHeartbeats 4000000 in
set_option maxRecDepth 100000 in
theorem c_X4_standsAt (l : Launch) (hst : l.stackTraces = false) (G : GG) (z : Nat) (μ : Mm) (a b n : Nat) (q : Nat → Nat → Int) (H : Nat → Int) (m : Nat) (W : Nat → Int) (p mv : Int) (hS9 : StageR G z μ a b n q H m W p mv) : Ct l yX4_standsAt wsX4_standsAt rm_X4_standsAt G z [.ref a] μ (rP μ (fun r9 => r9 = p)) (nX) := by
  refine ct_of (cc := cX4_standsAt) (maxL := 1) (ret := (some .int)) (own := RX4) (by decide) rfl rfl hst (Nat.le_of_ble_eq_true rfl) ?_
  intro E hLl hnm C R hT
  have in_X4 : ∀ w ∈ u_ws RX4 TX4 4, w ∈ wsX4_standsAt := by decide +kernel
  have hS8 := hS9
  obtain ⟨hi, wd, hO, hHi, hWd, hU⟩ := hS9
  have hU8 := hU.rg
  refine x_eq (lv' := [(0, .ref a)]) rfl rfl ?_
  refine x_aload_n C dX4_standsAt_0 rfl 0 rfl ?_
  refine x_get (ci := 5) (Cn := RX4) (T := TX4) (N := 4) (ref := "CairnCipher$Stage") C dX4_standsAt_1 in_X4 rfl hO 2 (by decide) (by decide +kernel) rfl rfl ?_
  exact x_iret C R dX4_standsAt_4 (Nat.le_of_ble_eq_true rfl) (Nat.le_of_ble_eq_true rfl) (⟨_, rfl, rfl, rfl⟩)
abbrev rm_X4_moveCount : Room := { frames := 0, cells := 0, slots := 0, locals := 0 }
set_option maxHeartbeats 4000000 in
set_option maxRecDepth 100000 in
theorem c_X4_moveCount (l : Launch) (hst : l.stackTraces = false) (G : GG) (z : Nat) (μ : Mm) (a b n : Nat) (q : Nat → Nat → Int) (H : Nat → Int) (m : Nat) (W : Nat → Int) (p mv : Int) (hS9 : StageR G z μ a b n q H m W p mv) : Ct l yX4_moveCount wsX4_moveCount rm_X4_moveCount G z [.ref a] μ (rP μ (fun r9 => r9 = mv)) (nX) := by
  refine ct_of (cc := cX4_moveCount) (maxL := 1) (ret := (some .int)) (own := RX4) (by decide) rfl rfl hst (Nat.le_of_ble_eq_true rfl) ?_
  intro E hLl hnm C R hT
  have in_X4 : ∀ w ∈ u_ws RX4 TX4 4, w ∈ wsX4_moveCount := by decide +kernel
  have hS8 := hS9
  obtain ⟨hi, wd, hO, hHi, hWd, hU⟩ := hS9
  have hU8 := hU.rg
  refine x_eq (lv' := [(0, .ref a)]) rfl rfl ?_
  refine x_aload_n C dX4_moveCount_0 rfl 0 rfl ?_
  refine x_get (ci := 5) (Cn := RX4) (T := TX4) (N := 4) (ref := "CairnCipher$Stage") C dX4_moveCount_1 in_X4 rfl hO 3 (by decide) (by decide +kernel) rfl rfl ?_
  exact x_iret C R dX4_moveCount_4 (Nat.le_of_ble_eq_true rfl) (Nat.le_of_ble_eq_true rfl) (⟨_, rfl, rfl, rfl⟩)
abbrev rm_X4_cipherCount : Room := { frames := 1, cells := 0, slots := 0, locals := 20 }
set_option maxHeartbeats 4000000 in
set_option maxRecDepth 100000 in
theorem c_X4_cipherCount (l : Launch) (hst : l.stackTraces = false) (G : GG) (z : Nat) (μ : Mm) (a b n : Nat) (q : Nat → Nat → Int) (H : Nat → Int) (m : Nat) (W : Nat → Int) (p mv : Int) (hS9 : StageR G z μ a b n q H m W p mv) : Ct l yX4_cipherCount wsX4_cipherCount rm_X4_cipherCount G z [.ref a] μ (rP μ (fun r9 => r9 = (m : Int) + 1)) (nX) := by
  refine ct_of (cc := cX4_cipherCount) (maxL := 1) (ret := (some .int)) (own := RX4) (by decide) rfl rfl hst (Nat.le_of_ble_eq_true rfl) ?_
  intro E hLl hnm C R hT
  have in_X4 : ∀ w ∈ u_ws RX4 TX4 4, w ∈ wsX4_cipherCount := by decide +kernel
  have hS8 := hS9
  obtain ⟨hi, wd, hO, hHi, hWd, hU⟩ := hS9
  have hU8 := hU.rg
  refine x_eq (lv' := [(0, .ref a)]) rfl rfl ?_
  refine x_aload_n C dX4_cipherCount_0 rfl 0 rfl ?_
  refine x_get (ci := 5) (Cn := RX4) (T := TX4) (N := 4) (ref := "CairnCipher$Stage") C dX4_cipherCount_1 in_X4 rfl hO 1 (by decide) (by decide +kernel) rfl rfl ?_
  refine x_callV (n := 0) (ci := 6) (Cn := RX5) (T := TX5) (N := 2) (cc9 := 0) (ss9 := 0) (rest := []) C dX4_cipherCount_4 (c_X5_count (kxL E) C.st G z μ _ _ _ _ hWd ) gX4_cipherCount_X5_count rfl (by decide +kernel) ⟨(Nat.le_of_ble_eq_true rfl), (Nat.le_of_ble_eq_true rfl)⟩ rfl hWd.ob rfl rfl (Nat.le_of_ble_eq_true rfl) rfl rfl ⟨(Nat.le_of_ble_eq_true rfl), (Nat.le_of_ble_eq_true rfl)⟩ nX_no (fun v1 μ2 hv3 => ?_)
  obtain ⟨r4, hw7, h5, hm6⟩ := hv3
  subst hw7
  rw [hm6]
  refine x_stk (stk' := [.int (zI r4)]) rfl ?_
  refine z_iconst C dX4_cipherCount_7 ?_
  refine z_iadd C dX4_cipherCount_8 rfl ?_
  exact x_iret C R dX4_cipherCount_9 (Nat.le_of_ble_eq_true rfl) (Nat.le_of_ble_eq_true rfl) (⟨_, rfl, by omega, rfl⟩)
abbrev rm_X4_insertedAt : Room := { frames := 2, cells := 0, slots := 0, locals := 40 }
set_option maxHeartbeats 4000000 in
set_option maxRecDepth 100000 in
theorem c_X4_insertedAt (l : Launch) (hst : l.stackTraces = false) (G : GG) (z : Nat) (μ : Mm) (a b n : Nat) (q : Nat → Nat → Int) (H : Nat → Int) (m : Nat) (W : Nat → Int) (p mv : Int) (hS9 : StageR G z μ a b n q H m W p mv) (hp : 0 ≤ p) : Ct l yX4_insertedAt wsX4_insertedAt rm_X4_insertedAt G z [.ref a] μ (rP μ (fun r9 => r9 = p % ((m : Int) + 1))) (nX) := by
  refine ct_of (cc := cX4_insertedAt) (maxL := 2) (ret := (some .int)) (own := RX4) (by decide) rfl rfl hst (Nat.le_of_ble_eq_true rfl) ?_
  intro E hLl hnm C R hT
  have in_X4 : ∀ w ∈ u_ws RX4 TX4 4, w ∈ wsX4_insertedAt := by decide +kernel
  have hS8 := hS9
  obtain ⟨hi, wd, hO, hHi, hWd, hU⟩ := hS9
  have hU8 := hU.rg
  have hm5 := hWd.le
  refine x_eq (lv' := [(0, .ref a)]) rfl rfl ?_
  refine x_aload_n C dX4_insertedAt_0 rfl 0 rfl ?_
  refine x_callV (n := 0) (ci := 5) (Cn := RX4) (T := TX4) (N := 4) (cc9 := 0) (ss9 := 0) (rest := []) C dX4_insertedAt_1 (c_X4_cipherCount (kxL E) C.st G z μ _ _ _ _ _ _ _ _ _  hS8 ) gX4_insertedAt_X4_cipherCount rfl (by decide +kernel) ⟨(Nat.le_of_ble_eq_true rfl), (Nat.le_of_ble_eq_true rfl)⟩ rfl ⟨_, _, hO⟩ rfl rfl (Nat.le_of_ble_eq_true rfl) rfl rfl ⟨(Nat.le_of_ble_eq_true rfl), (Nat.le_of_ble_eq_true rfl)⟩ nX_no (fun v1 μ2 hv3 => ?_)
  obtain ⟨r4, hw7, h5, hm6⟩ := hv3
  subst hw7
  rw [hm6]
  have hc9 := h5
  refine x_stk (stk' := [.int (zI r4)]) rfl ?_
  refine x_istore_n (lv' := [(1, .int (zI r4)), (0, .ref a)]) C dX4_insertedAt_4 rfl (by decide) rfl ?_
  refine x_iload_n C dX4_insertedAt_5 rfl 0 rfl ?_
  refine z_if_le (tgt := 18) C dX4_insertedAt_6 (by decide) (rg_of (by omega) (by omega)) (fun c_8 => ?_) (fun c_8 => ?_)
  · exfalso; omega
  · refine x_aload_n C dX4_insertedAt_9 rfl 1 rfl ?_
    refine x_get (ci := 5) (Cn := RX4) (T := TX4) (N := 4) (ref := "CairnCipher$Stage") C dX4_insertedAt_10 in_X4 rfl hO 2 (by decide) (by decide +kernel) rfl rfl ?_
    refine x_iload_n C dX4_insertedAt_13 rfl 0 rfl ?_
    refine z_irem C dX4_insertedAt_14 (rg_of (by omega) (by omega)) (by omega) (rg_of (by omega) (by omega)) (by omega) rfl ?_
    refine x_goto (tgt := 19) C dX4_insertedAt_15 (by decide) ?_
    exact x_iret C R dX4_insertedAt_19 (Nat.le_of_ble_eq_true rfl) (Nat.le_of_ble_eq_true rfl) (⟨_, rfl, by rw [hc9], rfl⟩)
abbrev rm_X4_cipherLetter : Room := { frames := 3, cells := 0, slots := 0, locals := 61 }
set_option maxHeartbeats 4000000 in
set_option maxRecDepth 100000 in
theorem c_X4_cipherLetter (l : Launch) (hst : l.stackTraces = false) (G : GG) (z : Nat) (μ : Mm) (a b n : Nat) (q : Nat → Nat → Int) (H : Nat → Int) (m : Nat) (W : Nat → Int) (p mv : Int) (i : Int) (hS9 : StageR G z μ a b n q H m W p mv) (hp : 0 ≤ p) (hi5 : 0 ≤ i ∧ i ≤ m) (hm1 : 1 ≤ m) : Ct l yX4_cipherLetter wsX4_cipherLetter rm_X4_cipherLetter G z [.ref a, .int (zI i)] μ (rP μ (fun r9 => r9 = cil W m p i ∧ 0 ≤ r9 ∧ r9 ≤ 26)) (nX) := by
  refine ct_of (cc := cX4_cipherLetter) (maxL := 5) (ret := (some .int)) (own := RX4) (by decide) rfl rfl hst (Nat.le_of_ble_eq_true rfl) ?_
  intro E hLl hnm C R hT
  have in_X4 : ∀ w ∈ u_ws RX4 TX4 4, w ∈ wsX4_cipherLetter := by decide +kernel
  have hS8 := hS9
  obtain ⟨hi, wd, hO, hHi, hWd, hU⟩ := hS9
  have hU8 := hU.rg
  have hm5 := hWd.le
  have hwr := hWd.wr
  refine x_eq (lv' := [(0, .ref a), (1, .int (zI i))]) rfl rfl ?_
  refine x_aload_n C dX4_cipherLetter_0 rfl 0 rfl ?_
  refine x_callV (n := 0) (ci := 5) (Cn := RX4) (T := TX4) (N := 4) (cc9 := 0) (ss9 := 0) (rest := []) C dX4_cipherLetter_1 (c_X4_insertedAt (kxL E) C.st G z μ _ _ _ _ _ _ _ _ _  hS8 (by omega)) gX4_cipherLetter_X4_insertedAt rfl (by decide +kernel) ⟨(Nat.le_of_ble_eq_true rfl), (Nat.le_of_ble_eq_true rfl)⟩ rfl ⟨_, _, hO⟩ rfl rfl (Nat.le_of_ble_eq_true rfl) rfl rfl ⟨(Nat.le_of_ble_eq_true rfl), (Nat.le_of_ble_eq_true rfl)⟩ nX_no (fun v1 μ2 hv3 => ?_)
  obtain ⟨r4, hw7, h5, hm6⟩ := hv3
  subst hw7
  rw [hm6]
  have hc9 := h5
  have hc8 : 0 ≤ p % ((m : Int) + 1) ∧ p % ((m : Int) + 1) ≤ m := ⟨Int.emod_nonneg _ (by omega), by have := Int.emod_lt_of_pos p (show (0 : Int) < (m : Int) + 1 by omega); omega⟩
  refine x_stk (stk' := [.int (zI r4)]) rfl ?_
  refine x_istore_n (lv' := [(2, .int (zI r4)), (0, .ref a), (1, .int (zI i))]) C dX4_cipherLetter_4 rfl (by decide) rfl ?_
  refine x_iload_n C dX4_cipherLetter_5 rfl 2 rfl ?_
  refine x_iload_n C dX4_cipherLetter_6 rfl 0 rfl ?_
  refine z_icmp_ne (tgt := 18) C dX4_cipherLetter_7 (by decide) (rg_of (by omega) (by omega)) (rg_of (by omega) (by omega)) (fun c_8 => ?_) (fun c_8 => ?_)
  · refine x_iload_n C dX4_cipherLetter_18 rfl 2 rfl ?_
    refine x_iload_n C dX4_cipherLetter_19 rfl 0 rfl ?_
    refine z_icmp_ge (tgt := 27) C dX4_cipherLetter_20 (by decide) (rg_of (by omega) (by omega)) (rg_of (by omega) (by omega)) (fun c_9 => ?_) (fun c_9 => ?_)
    · refine x_iload_n C dX4_cipherLetter_27 rfl 2 rfl ?_
      refine z_iconst C dX4_cipherLetter_28 ?_
      refine z_isub C dX4_cipherLetter_29 rfl ?_
      refine x_istore_n (lv' := [(3, .int (zI (i - 1))), (2, .int (zI r4)), (0, .ref a), (1, .int (zI i))]) C dX4_cipherLetter_30 rfl (by decide) rfl ?_
      refine x_aload_n C dX4_cipherLetter_31 rfl 2 rfl ?_
      refine x_get (ci := 5) (Cn := RX4) (T := TX4) (N := 4) (ref := "CairnCipher$Stage") C dX4_cipherLetter_32 in_X4 rfl hO 2 (by decide) (by decide +kernel) rfl rfl ?_
      refine z_iconst C dX4_cipherLetter_35 ?_
      refine z_irem C dX4_cipherLetter_36 (rg_of (by omega) (by omega)) (by omega) (rg_of (by omega) (by omega)) (by omega) rfl ?_
      refine z_iconst C dX4_cipherLetter_37 ?_
      refine z_icmp_ne (tgt := 55) C dX4_cipherLetter_38 (by decide) (rg_of (by omega) (by omega)) (rg_of (by omega) (by omega)) (fun c_10 => ?_) (fun c_10 => ?_)
      · refine x_iload_n C dX4_cipherLetter_55 rfl 0 rfl ?_
        refine x_istore (lv' := [(4, .int (zI (i - 1))), (3, .int (zI (i - 1))), (2, .int (zI r4)), (0, .ref a), (1, .int (zI i))]) C dX4_cipherLetter_56 (by decide) rfl ?_
        refine x_aload_n C dX4_cipherLetter_58 rfl 3 rfl ?_
        refine x_get (ci := 5) (Cn := RX4) (T := TX4) (N := 4) (ref := "CairnCipher$Stage") C dX4_cipherLetter_59 in_X4 rfl hO 1 (by decide) (by decide +kernel) rfl rfl ?_
        refine x_iload C dX4_cipherLetter_62 0 rfl ?_
        refine x_callV (n := 1) (ci := 6) (Cn := RX5) (T := TX5) (N := 2) (cc9 := 0) (ss9 := 0) (rest := []) C dX4_cipherLetter_64 (c_X5_letterAt (kxL E) C.st G z μ _ _ _ _ (i - 1) hWd (by omega)) gX4_cipherLetter_X5_letterAt rfl (by decide +kernel) ⟨(Nat.le_of_ble_eq_true rfl), (Nat.le_of_ble_eq_true rfl)⟩ rfl hWd.ob rfl rfl (Nat.le_of_ble_eq_true rfl) rfl rfl ⟨(Nat.le_of_ble_eq_true rfl), (Nat.le_of_ble_eq_true rfl)⟩ nX_no (fun v11 μ12 hv13 => ?_)
        obtain ⟨r14, hw17, h15, hm16⟩ := hv13
        subst hw17
        rw [hm16]
        have hl9 := h15.1 (by omega)
        have hl8 := hwr (i - 1).toNat (by omega)
        refine x_stk (stk' := [.int (zI r14)]) rfl ?_
        refine x_aload_n C dX4_cipherLetter_67 rfl 3 rfl ?_
        refine x_get (ci := 5) (Cn := RX4) (T := TX4) (N := 4) (ref := "CairnCipher$Stage") C dX4_cipherLetter_68 in_X4 rfl hO 2 (by decide) (by decide +kernel) rfl rfl ?_
        refine z_iadd C dX4_cipherLetter_71 rfl ?_
        refine z_bipush C dX4_cipherLetter_72 (by decide) ?_
        refine z_irem C dX4_cipherLetter_74 (rg_of (by omega) (by omega)) (by omega) (rg_of (by omega) (by omega)) (by omega) rfl ?_
        exact x_iret C R dX4_cipherLetter_75 (Nat.le_of_ble_eq_true rfl) (Nat.le_of_ble_eq_true rfl) (⟨_, rfl, ⟨by unfold cil; rw [if_neg (by omega), hl9]; congr 2; congr 2; split <;> split <;> omega, by omega, by omega⟩, rfl⟩)
      · refine x_aload_n C dX4_cipherLetter_41 rfl 2 rfl ?_
        refine x_get (ci := 5) (Cn := RX4) (T := TX4) (N := 4) (ref := "CairnCipher$Stage") C dX4_cipherLetter_42 in_X4 rfl hO 1 (by decide) (by decide +kernel) rfl rfl ?_
        refine x_callV (n := 0) (ci := 6) (Cn := RX5) (T := TX5) (N := 2) (cc9 := 0) (ss9 := 0) (rest := []) C dX4_cipherLetter_45 (c_X5_count (kxL E) C.st G z μ _ _ _ _ hWd ) gX4_cipherLetter_X5_count rfl (by decide +kernel) ⟨(Nat.le_of_ble_eq_true rfl), (Nat.le_of_ble_eq_true rfl)⟩ rfl hWd.ob rfl rfl (Nat.le_of_ble_eq_true rfl) rfl rfl ⟨(Nat.le_of_ble_eq_true rfl), (Nat.le_of_ble_eq_true rfl)⟩ nX_no (fun v18 μ19 hv20 => ?_)
        obtain ⟨r21, hw24, h22, hm23⟩ := hv20
        subst hw24
        rw [hm23]
        have hn9 := h22
        refine x_stk (stk' := [.int (zI r21)]) rfl ?_
        refine z_iconst C dX4_cipherLetter_48 ?_
        refine z_isub C dX4_cipherLetter_49 rfl ?_
        refine x_iload_n C dX4_cipherLetter_50 rfl 0 rfl ?_
        refine z_isub C dX4_cipherLetter_51 rfl ?_
        refine x_goto (tgt := 56) C dX4_cipherLetter_52 (by decide) ?_
        refine x_istore (lv' := [(4, .int (zI ((r21 - 1) - (i - 1)))), (3, .int (zI (i - 1))), (2, .int (zI r4)), (0, .ref a), (1, .int (zI i))]) C dX4_cipherLetter_56 (by decide) rfl ?_
        refine x_aload_n C dX4_cipherLetter_58 rfl 3 rfl ?_
        refine x_get (ci := 5) (Cn := RX4) (T := TX4) (N := 4) (ref := "CairnCipher$Stage") C dX4_cipherLetter_59 in_X4 rfl hO 1 (by decide) (by decide +kernel) rfl rfl ?_
        refine x_iload C dX4_cipherLetter_62 0 rfl ?_
        refine x_callV (n := 1) (ci := 6) (Cn := RX5) (T := TX5) (N := 2) (cc9 := 0) (ss9 := 0) (rest := []) C dX4_cipherLetter_64 (c_X5_letterAt (kxL E) C.st G z μ _ _ _ _ ((r21 - 1) - (i - 1)) hWd (by omega)) gX4_cipherLetter_X5_letterAt rfl (by decide +kernel) ⟨(Nat.le_of_ble_eq_true rfl), (Nat.le_of_ble_eq_true rfl)⟩ rfl hWd.ob rfl rfl (Nat.le_of_ble_eq_true rfl) rfl rfl ⟨(Nat.le_of_ble_eq_true rfl), (Nat.le_of_ble_eq_true rfl)⟩ nX_no (fun v25 μ26 hv27 => ?_)
        obtain ⟨r28, hw31, h29, hm30⟩ := hv27
        subst hw31
        rw [hm30]
        have hl9 := h29.1 (by omega)
        have hl8 := hwr ((r21 - 1) - (i - 1)).toNat (by omega)
        refine x_stk (stk' := [.int (zI r28)]) rfl ?_
        refine x_aload_n C dX4_cipherLetter_67 rfl 3 rfl ?_
        refine x_get (ci := 5) (Cn := RX4) (T := TX4) (N := 4) (ref := "CairnCipher$Stage") C dX4_cipherLetter_68 in_X4 rfl hO 2 (by decide) (by decide +kernel) rfl rfl ?_
        refine z_iadd C dX4_cipherLetter_71 rfl ?_
        refine z_bipush C dX4_cipherLetter_72 (by decide) ?_
        refine z_irem C dX4_cipherLetter_74 (rg_of (by omega) (by omega)) (by omega) (rg_of (by omega) (by omega)) (by omega) rfl ?_
        exact x_iret C R dX4_cipherLetter_75 (Nat.le_of_ble_eq_true rfl) (Nat.le_of_ble_eq_true rfl) (⟨_, rfl, ⟨by unfold cil; rw [if_neg (by omega), hl9]; congr 2; congr 2; split <;> split <;> omega, by omega, by omega⟩, rfl⟩)
    · refine x_iload_n C dX4_cipherLetter_23 rfl 2 rfl ?_
      refine x_goto (tgt := 30) C dX4_cipherLetter_24 (by decide) ?_
      refine x_istore_n (lv' := [(3, .int (zI i)), (2, .int (zI r4)), (0, .ref a), (1, .int (zI i))]) C dX4_cipherLetter_30 rfl (by decide) rfl ?_
      refine x_aload_n C dX4_cipherLetter_31 rfl 2 rfl ?_
      refine x_get (ci := 5) (Cn := RX4) (T := TX4) (N := 4) (ref := "CairnCipher$Stage") C dX4_cipherLetter_32 in_X4 rfl hO 2 (by decide) (by decide +kernel) rfl rfl ?_
      refine z_iconst C dX4_cipherLetter_35 ?_
      refine z_irem C dX4_cipherLetter_36 (rg_of (by omega) (by omega)) (by omega) (rg_of (by omega) (by omega)) (by omega) rfl ?_
      refine z_iconst C dX4_cipherLetter_37 ?_
      refine z_icmp_ne (tgt := 55) C dX4_cipherLetter_38 (by decide) (rg_of (by omega) (by omega)) (rg_of (by omega) (by omega)) (fun c_32 => ?_) (fun c_32 => ?_)
      · refine x_iload_n C dX4_cipherLetter_55 rfl 0 rfl ?_
        refine x_istore (lv' := [(4, .int (zI i)), (3, .int (zI i)), (2, .int (zI r4)), (0, .ref a), (1, .int (zI i))]) C dX4_cipherLetter_56 (by decide) rfl ?_
        refine x_aload_n C dX4_cipherLetter_58 rfl 3 rfl ?_
        refine x_get (ci := 5) (Cn := RX4) (T := TX4) (N := 4) (ref := "CairnCipher$Stage") C dX4_cipherLetter_59 in_X4 rfl hO 1 (by decide) (by decide +kernel) rfl rfl ?_
        refine x_iload C dX4_cipherLetter_62 0 rfl ?_
        refine x_callV (n := 1) (ci := 6) (Cn := RX5) (T := TX5) (N := 2) (cc9 := 0) (ss9 := 0) (rest := []) C dX4_cipherLetter_64 (c_X5_letterAt (kxL E) C.st G z μ _ _ _ _ i hWd (by omega)) gX4_cipherLetter_X5_letterAt rfl (by decide +kernel) ⟨(Nat.le_of_ble_eq_true rfl), (Nat.le_of_ble_eq_true rfl)⟩ rfl hWd.ob rfl rfl (Nat.le_of_ble_eq_true rfl) rfl rfl ⟨(Nat.le_of_ble_eq_true rfl), (Nat.le_of_ble_eq_true rfl)⟩ nX_no (fun v33 μ34 hv35 => ?_)
        obtain ⟨r36, hw39, h37, hm38⟩ := hv35
        subst hw39
        rw [hm38]
        have hl9 := h37.1 (by omega)
        have hl8 := hwr (i).toNat (by omega)
        refine x_stk (stk' := [.int (zI r36)]) rfl ?_
        refine x_aload_n C dX4_cipherLetter_67 rfl 3 rfl ?_
        refine x_get (ci := 5) (Cn := RX4) (T := TX4) (N := 4) (ref := "CairnCipher$Stage") C dX4_cipherLetter_68 in_X4 rfl hO 2 (by decide) (by decide +kernel) rfl rfl ?_
        refine z_iadd C dX4_cipherLetter_71 rfl ?_
        refine z_bipush C dX4_cipherLetter_72 (by decide) ?_
        refine z_irem C dX4_cipherLetter_74 (rg_of (by omega) (by omega)) (by omega) (rg_of (by omega) (by omega)) (by omega) rfl ?_
        exact x_iret C R dX4_cipherLetter_75 (Nat.le_of_ble_eq_true rfl) (Nat.le_of_ble_eq_true rfl) (⟨_, rfl, ⟨by unfold cil; rw [if_neg (by omega), hl9]; congr 2; congr 2; split <;> split <;> omega, by omega, by omega⟩, rfl⟩)
      · refine x_aload_n C dX4_cipherLetter_41 rfl 2 rfl ?_
        refine x_get (ci := 5) (Cn := RX4) (T := TX4) (N := 4) (ref := "CairnCipher$Stage") C dX4_cipherLetter_42 in_X4 rfl hO 1 (by decide) (by decide +kernel) rfl rfl ?_
        refine x_callV (n := 0) (ci := 6) (Cn := RX5) (T := TX5) (N := 2) (cc9 := 0) (ss9 := 0) (rest := []) C dX4_cipherLetter_45 (c_X5_count (kxL E) C.st G z μ _ _ _ _ hWd ) gX4_cipherLetter_X5_count rfl (by decide +kernel) ⟨(Nat.le_of_ble_eq_true rfl), (Nat.le_of_ble_eq_true rfl)⟩ rfl hWd.ob rfl rfl (Nat.le_of_ble_eq_true rfl) rfl rfl ⟨(Nat.le_of_ble_eq_true rfl), (Nat.le_of_ble_eq_true rfl)⟩ nX_no (fun v40 μ41 hv42 => ?_)
        obtain ⟨r43, hw46, h44, hm45⟩ := hv42
        subst hw46
        rw [hm45]
        have hn9 := h44
        refine x_stk (stk' := [.int (zI r43)]) rfl ?_
        refine z_iconst C dX4_cipherLetter_48 ?_
        refine z_isub C dX4_cipherLetter_49 rfl ?_
        refine x_iload_n C dX4_cipherLetter_50 rfl 0 rfl ?_
        refine z_isub C dX4_cipherLetter_51 rfl ?_
        refine x_goto (tgt := 56) C dX4_cipherLetter_52 (by decide) ?_
        refine x_istore (lv' := [(4, .int (zI ((r43 - 1) - i))), (3, .int (zI i)), (2, .int (zI r4)), (0, .ref a), (1, .int (zI i))]) C dX4_cipherLetter_56 (by decide) rfl ?_
        refine x_aload_n C dX4_cipherLetter_58 rfl 3 rfl ?_
        refine x_get (ci := 5) (Cn := RX4) (T := TX4) (N := 4) (ref := "CairnCipher$Stage") C dX4_cipherLetter_59 in_X4 rfl hO 1 (by decide) (by decide +kernel) rfl rfl ?_
        refine x_iload C dX4_cipherLetter_62 0 rfl ?_
        refine x_callV (n := 1) (ci := 6) (Cn := RX5) (T := TX5) (N := 2) (cc9 := 0) (ss9 := 0) (rest := []) C dX4_cipherLetter_64 (c_X5_letterAt (kxL E) C.st G z μ _ _ _ _ ((r43 - 1) - i) hWd (by omega)) gX4_cipherLetter_X5_letterAt rfl (by decide +kernel) ⟨(Nat.le_of_ble_eq_true rfl), (Nat.le_of_ble_eq_true rfl)⟩ rfl hWd.ob rfl rfl (Nat.le_of_ble_eq_true rfl) rfl rfl ⟨(Nat.le_of_ble_eq_true rfl), (Nat.le_of_ble_eq_true rfl)⟩ nX_no (fun v47 μ48 hv49 => ?_)
        obtain ⟨r50, hw53, h51, hm52⟩ := hv49
        subst hw53
        rw [hm52]
        have hl9 := h51.1 (by omega)
        have hl8 := hwr ((r43 - 1) - i).toNat (by omega)
        refine x_stk (stk' := [.int (zI r50)]) rfl ?_
        refine x_aload_n C dX4_cipherLetter_67 rfl 3 rfl ?_
        refine x_get (ci := 5) (Cn := RX4) (T := TX4) (N := 4) (ref := "CairnCipher$Stage") C dX4_cipherLetter_68 in_X4 rfl hO 2 (by decide) (by decide +kernel) rfl rfl ?_
        refine z_iadd C dX4_cipherLetter_71 rfl ?_
        refine z_bipush C dX4_cipherLetter_72 (by decide) ?_
        refine z_irem C dX4_cipherLetter_74 (rg_of (by omega) (by omega)) (by omega) (rg_of (by omega) (by omega)) (by omega) rfl ?_
        exact x_iret C R dX4_cipherLetter_75 (Nat.le_of_ble_eq_true rfl) (Nat.le_of_ble_eq_true rfl) (⟨_, rfl, ⟨by unfold cil; rw [if_neg (by omega), hl9]; congr 2; congr 2; split <;> split <;> omega, by omega, by omega⟩, rfl⟩)
  · refine x_aload_n C dX4_cipherLetter_10 rfl 1 rfl ?_
    refine x_get (ci := 5) (Cn := RX4) (T := TX4) (N := 4) (ref := "CairnCipher$Stage") C dX4_cipherLetter_11 in_X4 rfl hO 2 (by decide) (by decide +kernel) rfl rfl ?_
    refine z_bipush C dX4_cipherLetter_14 (by decide) ?_
    refine z_irem C dX4_cipherLetter_16 (rg_of (by omega) (by omega)) (by omega) (rg_of (by omega) (by omega)) (by omega) rfl ?_
    exact x_iret C R dX4_cipherLetter_17 (Nat.le_of_ble_eq_true rfl) (Nat.le_of_ble_eq_true rfl) (⟨_, rfl, ⟨by unfold cil; rw [if_pos (by omega)], by omega, by omega⟩, rfl⟩)
abbrev rm_X4_follow : Room := { frames := 6, cells := 0, slots := 0, locals := 128 }
set_option maxHeartbeats 4000000 in
set_option maxRecDepth 100000 in
theorem c_X4_follow (l : Launch) (hst : l.stackTraces = false) (G : GG) (z : Nat) (μ : Mm) (a b n : Nat) (q : Nat → Nat → Int) (H : Nat → Int) (m : Nat) (W : Nat → Int) (p mv : Int) (c : Nat) (h : Int) (hS9 : StageR G z μ a b n q H m W p mv) (hc : c < 64) (hh : 0 ≤ h ∧ h ≤ 9) : Ct l yX4_follow wsX4_follow rm_X4_follow G z [.ref a, .int (zI (c : Int)), .int (zI h)] μ (rS (fun r9 μ' => (∃ p' mv', StageR G z μ' a b n q (wr H c h) m W p' mv' ∧ ((r9 = 0 ∧ p' = p ∧ mv' = mv) ∨ (r9 = 1 ∧ p' ≠ p ∧ mv' = mv + 1))) ∧ Fr b (b + 53) μ μ')) (nX) := by
  refine ct_of (cc := cX4_follow) (maxL := 4) (ret := (some .boolean)) (own := RX4) (by decide) rfl rfl hst (Nat.le_of_ble_eq_true rfl) ?_
  intro E hLl hnm C R hT
  have in_X4 : ∀ w ∈ u_ws RX4 TX4 4, w ∈ wsX4_follow := by decide +kernel
  have hS8 := hS9
  obtain ⟨hi, wd, hO, hHi, hWd, hU⟩ := hS9
  have hU8 := hU.rg
  have hFr : Fr b (b + 53) μ μ := Fr.rf
  refine x_eq (lv' := [(0, .ref a), (1, .int (zI (c : Int))), (2, .int (zI h))]) rfl rfl ?_
  refine x_aload_n C dX4_follow_0 rfl 0 rfl ?_
  refine x_get (ci := 5) (Cn := RX4) (T := TX4) (N := 4) (ref := "CairnCipher$Stage") C dX4_follow_1 in_X4 rfl hO 0 (by decide) (by decide +kernel) rfl rfl ?_
  refine x_iload_n C dX4_follow_4 rfl 1 rfl ?_
  refine x_iload_n C dX4_follow_5 rfl 2 rfl ?_
  refine x_callV (n := 2) (ci := 3) (Cn := RX2) (T := TX2) (N := 1) (cc9 := 0) (ss9 := 0) (rest := []) C dX4_follow_6 (c_X2_lookAgainAt (kxL E) C.st G z μ _ _ _ _ _ c h hHi (by omega) (by omega)) gX4_follow_X2_lookAgainAt rfl (by decide +kernel) ⟨(Nat.le_of_ble_eq_true rfl), (Nat.le_of_ble_eq_true rfl)⟩ rfl hHi.ob rfl rfl (Nat.le_of_ble_eq_true rfl) rfl rfl ⟨(Nat.le_of_ble_eq_true rfl), (Nat.le_of_ble_eq_true rfl)⟩ nX_no (fun v1 μ2 hv3 => ?_)
  obtain ⟨hw7, h5⟩ := hv3
  subst hw7
  obtain ⟨hHi, hF9⟩ := h5
  have hF8 := hF9
  have hO := hF8.ob hO
  have hWd : TextR G μ2 wd (b + 51) m W := hF8.text hWd
  have hFr : Fr b (b + 53) μ μ2 := hFr.tr hF8
  refine x_stk (stk' := []) rfl ?_
  refine x_aload_n C dX4_follow_9 rfl 0 rfl ?_
  refine x_get (ci := 5) (Cn := RX4) (T := TX4) (N := 4) (ref := "CairnCipher$Stage") C dX4_follow_10 in_X4 rfl hO 0 (by decide) (by decide +kernel) rfl rfl ?_
  refine x_callV (n := 0) (ci := 3) (Cn := RX2) (T := TX2) (N := 1) (cc9 := 0) (ss9 := 0) (rest := []) C dX4_follow_13 (c_X2_keptPlace (kxL E) C.st G z μ2 _ _ _ _ _ hHi ) gX4_follow_X2_keptPlace rfl (by decide +kernel) ⟨(Nat.le_of_ble_eq_true rfl), (Nat.le_of_ble_eq_true rfl)⟩ rfl hHi.ob rfl rfl (Nat.le_of_ble_eq_true rfl) rfl rfl ⟨(Nat.le_of_ble_eq_true rfl), (Nat.le_of_ble_eq_true rfl)⟩ nX_no (fun v9 μ10 hv11 => ?_)
  obtain ⟨r12, hw15, h13, hm14⟩ := hv11
  subst hw15
  rw [hm14]
  have hu9 := h13
  have hu8 := hu9.rg
  refine x_stk (stk' := [.int (zI r12)]) rfl ?_
  refine x_istore_n (lv' := [(3, .int (zI r12)), (0, .ref a), (1, .int (zI (c : Int))), (2, .int (zI h))]) C dX4_follow_16 rfl (by decide) rfl ?_
  refine x_iload_n C dX4_follow_17 rfl 0 rfl ?_
  refine x_aload_n C dX4_follow_18 rfl 1 rfl ?_
  refine x_get (ci := 5) (Cn := RX4) (T := TX4) (N := 4) (ref := "CairnCipher$Stage") C dX4_follow_19 in_X4 rfl hO 2 (by decide) (by decide +kernel) rfl rfl ?_
  refine z_icmp_ne (tgt := 27) C dX4_follow_22 (by decide) (rg_of (by omega) (by omega)) (rg_of (by omega) (by omega)) (fun c_16 => ?_) (fun c_16 => ?_)
  · refine x_aload_n C dX4_follow_27 rfl 1 rfl ?_
    refine x_iload_n C dX4_follow_28 rfl 0 rfl ?_
    refine z_put (ci := 5) (Cn := RX4) (T := TX4) (N := 4) (ref := "CairnCipher$Stage") (fs' := [.ref hi, .ref wd, .int (zI r12), .int (zI mv)]) C dX4_follow_29 in_X4 rfl tyX4 tyX4_ok nmX4 hO 2 (by decide) (by decide +kernel) rfl rfl rfl rfl rfl (Nat.le_of_ble_eq_true rfl) rfl (fun μ17 hOw hF18 => ?_)
    have hWd : TextR G μ17 wd (b + 51) m W := hF18.text hWd
    have hHi : HintsR G z μ17 hi b n q (wr H c h) := hF18.hints hHi
    have hFr : Fr b (b + 53) μ μ17 := hFr.tr hF18
    have hO := hOw
    refine x_aload_n C dX4_follow_32 rfl 1 rfl ?_
    refine x_dup C dX4_follow_33 rfl ?_
    refine x_get (ci := 5) (Cn := RX4) (T := TX4) (N := 4) (ref := "CairnCipher$Stage") C dX4_follow_34 in_X4 rfl hO 3 (by decide) (by decide +kernel) rfl rfl ?_
    refine z_iconst C dX4_follow_37 ?_
    refine z_iadd C dX4_follow_38 rfl ?_
    refine z_put (ci := 5) (Cn := RX4) (T := TX4) (N := 4) (ref := "CairnCipher$Stage") (fs' := [.ref hi, .ref wd, .int (zI r12), .int (zI (mv + 1))]) C dX4_follow_39 in_X4 rfl tyX4 tyX4_ok nmX4 hO 3 (by decide) (by decide +kernel) rfl rfl rfl rfl rfl (Nat.le_of_ble_eq_true rfl) rfl (fun μ19 hOw hF20 => ?_)
    have hWd : TextR G μ19 wd (b + 51) m W := hF20.text hWd
    have hHi : HintsR G z μ19 hi b n q (wr H c h) := hF20.hints hHi
    have hFr : Fr b (b + 53) μ μ19 := hFr.tr hF20
    have hO := hOw
    refine z_iconst C dX4_follow_42 ?_
    exact x_zret C R dX4_follow_43 (nar_z (by omega)) (Nat.le_of_ble_eq_true rfl) (Nat.le_of_ble_eq_true rfl) (⟨_, rfl, ⟨_, _, ⟨hi, wd, hO, hHi, hWd, hu9⟩, by omega⟩, hFr⟩)
  · refine z_iconst C dX4_follow_25 ?_
    exact x_zret C R dX4_follow_26 (nar_z (by omega)) (Nat.le_of_ble_eq_true rfl) (Nat.le_of_ble_eq_true rfl) (⟨_, rfl, ⟨p, mv, ⟨hi, wd, hO, hHi, hWd, by (rw [show p = r12 by omega]; exact hu9)⟩, by omega⟩, hFr⟩)
