set_option maxHeartbeats 4000000 in
set_option maxRecDepth 100000 in
/-- the law's turns -/
theorem law_loop {E : EE} {G : GG} {z b L : Nat} {xs : Nat → Int32} (C : Cx E G z cL_law RL wsL_law room_1 7) (hX : Sc E b L xs) (kend : ∀ (cells slots : Nat) (lv : List (Nat × Value)) (μ : Mm), cells ≤ 601024 → slots ≤ 7293034 → Wx E G cells slots 1807 lv [] μ) {xa md ou : Nat} : ∀ (M n : Nat) (σ : SS) (tm : Int) (μ : Mm), L - 5 * n = M → n ≤ 512 → RepC G z μ xa σ n → RepM G μ md σ tm → OJx G μ ou → Kv σ n → Wx E G (100 + 8 * n) (2000 + 64 * n) 23 [(4, .int (zI ((5 * n : Nat) : Int))), (3, .ref ou), (2, .ref md), (1, .ref xa), (0, .ref b)] [] μ := by
  intro M
  induction M using Nat.strongRecOn with
  | ind M ih =>
    intro n σ tm μ hM hn hC hRM hOJ hK
    have hL4 := hX.2.2.2
    refine x_iload C dL_law_23 0 rfl ?_
    refine x_aload_n C dL_law_25 rfl 4 rfl ?_
    refine z_slen C hX dL_law_26 ?_
    refine z_iconst C dL_law_27 ?_
    refine z_isub C dL_law_28 rfl ?_
    refine z_icmp_gt (tgt := 1807) C dL_law_29 (by decide) (rg_of (by omega) (by omega)) (rg_of (by omega) (by omega)) (fun c1 => ?_) (fun c1 => ?_)
    · exact kend _ _ _ _ (by omega) (by omega)
    · have hend : 5 * n + 5 ≤ L := by omega
      have hn5 : n < 512 := by omega
      refine x_aload_n C dL_law_32 rfl 4 rfl ?_
      refine x_iload C dL_law_33 0 rfl ?_
      refine z_sld C hX (5 * n) dL_law_35 rfl (by omega) ?_
      refine z_bipush C dL_law_36 (by decide) ?_
      obtain ⟨v, hv⟩ : ∃ v : Int32, zI (xs (5 * n)).toInt &&& zI 31 = v := ⟨_, rfl⟩
      refine x_iand C dL_law_38 hv ?_
      have hcs : 100 + 8 * n + 64 ≤ room_1.cells ∧ 2000 + 64 * n + 256 ≤ room_1.slots := ⟨Nat.le_trans (show _ ≤ 601024 by omega) (Nat.le_of_ble_eq_true rfl), Nat.le_trans (show _ ≤ 7293034 by omega) (Nat.le_of_ble_eq_true rfl)⟩
      have K1 : ∀ (μ' : Mm) (σ' : SS) (tm' : Int), RepC G z μ' xa σ' (n + 1) → RepM G μ' md σ' tm' → OJx G μ' ou → Kv σ' (n + 1) → Wx E G (100 + 8 * n + 8) (2000 + 64 * n + 64) 1801 [(4, .int (zI ((5 * n : Nat) : Int))), (3, .ref ou), (2, .ref md), (1, .ref xa), (0, .ref b)] [] μ' := fun μ' σ' tm' h1 h2 h3 h4 => by
        refine z_iinc (v := ((5 * (n + 1) : Nat) : Int)) (lv' := [(4, .int (zI ((5 * (n + 1) : Nat) : Int))), (3, .ref ou), (2, .ref md), (1, .ref xa), (0, .ref b)]) C dL_law_1801 0 rfl (by omega) (by decide) rfl ?_
        refine x_goto (tgt := 23) C dL_law_1804 (by decide) ?_
        have h5 := ih (L - 5 * (n + 1)) (by omega) (n + 1) σ' tm' μ' rfl (by omega) h1 h2 h3 h4
        rw [show 100 + 8 * (n + 1) = 100 + 8 * n + 8 by omega, show 2000 + 64 * (n + 1) = 2000 + 64 * n + 64 by omega] at h5
        exact h5
      rcases (show v.toInt < 0 ∨ v.toInt = 0 ∨ v.toInt = 1 ∨ v.toInt = 2 ∨ v.toInt = 3 ∨ v.toInt = 4 ∨ v.toInt = 5 ∨ v.toInt = 6 ∨ v.toInt = 7 ∨ v.toInt = 8 ∨ v.toInt = 9 ∨ v.toInt = 10 ∨ v.toInt = 11 ∨ v.toInt = 12 ∨ v.toInt = 13 ∨ v.toInt = 14 ∨ v.toInt = 15 ∨ v.toInt = 16 ∨ v.toInt = 17 ∨ v.toInt = 18 ∨ v.toInt = 19 ∨ v.toInt = 20 ∨ v.toInt = 21 ∨ v.toInt = 22 ∨ v.toInt = 23 ∨ v.toInt = 24 ∨ v.toInt = 25 ∨ v.toInt = 26 ∨ v.toInt = 27 ∨ v.toInt = 28 ∨ 28 < v.toInt by omega) with hs | hs | hs | hs | hs | hs | hs | hs | hs | hs | hs | hs | hs | hs | hs | hs | hs | hs | hs | hs | hs | hs | hs | hs | hs | hs | hs | hs | hs | hs | hs
      · exact x_tabOut (tgt := 1801) C dL_law_39 (Or.inl hs) (by decide) (x_wid (by omega) (by omega) (K1 _ _ _ hC.mono hRM hOJ hK.mono))
      · exact x_tabIn (off := 129) (tgt := 168) C dL_law_39 (by omega) (by omega) (by rw [hs]; rfl) (by decide) (law_setHeight C hX hcs hend hn5 hC hRM hOJ hK K1)
      · exact x_tabIn (off := 197) (tgt := 236) C dL_law_39 (by omega) (by omega) (by rw [hs]; rfl) (by decide) (law_close C hX hcs hend hn5 hC hRM hOJ hK K1)
      · exact x_tabIn (off := 260) (tgt := 299) C dL_law_39 (by omega) (by omega) (by rw [hs]; rfl) (by decide) (law_hint C hX hcs hend hn5 hC hRM hOJ hK K1)
      · exact x_tabIn (off := 368) (tgt := 407) C dL_law_39 (by omega) (by omega) (by rw [hs]; rfl) (by decide) (law_clearDraft C hX hcs hend hn5 hC hRM hOJ hK K1)
      · exact x_tabIn (off := 381) (tgt := 420) C dL_law_39 (by omega) (by omega) (by rw [hs]; rfl) (by decide) (law_stage C hX hcs hend hn5 hC hRM hOJ hK K1)
      · exact x_tabIn (off := 425) (tgt := 464) C dL_law_39 (by omega) (by omega) (by rw [hs]; rfl) (by decide) (law_fits C hX hcs hend hn5 hC hRM hOJ hK K1)
      · exact x_tabIn (off := 481) (tgt := 520) C dL_law_39 (by omega) (by omega) (by rw [hs]; rfl) (by decide) (law_placeOf C hX hcs hend hn5 hC hRM hOJ hK K1)
      · exact x_tabIn (off := 537) (tgt := 576) C dL_law_39 (by omega) (by omega) (by rw [hs]; rfl) (by decide) (law_placeByAll C hX hcs hend hn5 hC hRM hOJ hK K1)
      · exact x_tabIn (off := 593) (tgt := 632) C dL_law_39 (by omega) (by omega) (by rw [hs]; rfl) (by decide) (law_moves C hX hcs hend hn5 hC hRM hOJ hK K1)
      · exact x_tabIn (off := 649) (tgt := 688) C dL_law_39 (by omega) (by omega) (by rw [hs]; rfl) (by decide) (law_spell C hX hcs hend hn5 hC hRM hOJ hK K1)
      · exact x_tabIn (off := 705) (tgt := 744) C dL_law_39 (by omega) (by omega) (by rw [hs]; rfl) (by decide) (law_clearSpelled C hX hcs hend hn5 hC hRM hOJ hK K1)
      · exact x_tabIn (off := 718) (tgt := 757) C dL_law_39 (by omega) (by omega) (by rw [hs]; rfl) (by decide) (law_cipherLength C hX hcs hend hn5 hC hRM hOJ hK K1)
      · exact x_tabIn (off := 774) (tgt := 813) C dL_law_39 (by omega) (by omega) (by rw [hs]; rfl) (by decide) (law_cipherAt C hX hcs hend hn5 hC hRM hOJ hK K1)
      · exact x_tabIn (off := 842) (tgt := 881) C dL_law_39 (by omega) (by omega) (by rw [hs]; rfl) (by decide) (law_pass C hX hcs hend hn5 hC hRM hOJ hK K1)
      · exact x_tabIn (off := 898) (tgt := 937) C dL_law_39 (by omega) (by omega) (by rw [hs]; rfl) (by decide) (law_now C hX hcs hend hn5 hC hRM hOJ hK K1)
      · exact x_tabIn (off := 911) (tgt := 950) C dL_law_39 (by omega) (by omega) (by rw [hs]; rfl) (by decide) (law_addWalker C hX hcs hend hn5 hC hRM hOJ hK K1)
      · exact x_tabIn (off := 979) (tgt := 1018) C dL_law_39 (by omega) (by omega) (by rw [hs]; rfl) (by decide) (law_send C hX hcs hend hn5 hC hRM hOJ hK K1)
      · exact x_tabIn (off := 1047) (tgt := 1086) C dL_law_39 (by omega) (by omega) (by rw [hs]; rfl) (by decide) (law_at C hX hcs hend hn5 hC hRM hOJ hK K1)
      · exact x_tabIn (off := 1103) (tgt := 1142) C dL_law_39 (by omega) (by omega) (by rw [hs]; rfl) (by decide) (law_rests C hX hcs hend hn5 hC hRM hOJ hK K1)
      · exact x_tabIn (off := 1166) (tgt := 1205) C dL_law_39 (by omega) (by omega) (by rw [hs]; rfl) (by decide) (law_way C hX hcs hend hn5 hC hRM hOJ hK K1)
      · exact x_tabIn (off := 1234) (tgt := 1273) C dL_law_39 (by omega) (by omega) (by rw [hs]; rfl) (by decide) (law_wayByRounds C hX hcs hend hn5 hC hRM hOJ hK K1)
      · exact x_tabIn (off := 1302) (tgt := 1341) C dL_law_39 (by omega) (by omega) (by rw [hs]; rfl) (by decide) (law_addWarden C hX hcs hend hn5 hC hRM hOJ hK K1)
      · exact x_tabIn (off := 1358) (tgt := 1397) C dL_law_39 (by omega) (by omega) (by rw [hs]; rfl) (by decide) (law_sees C hX hcs hend hn5 hC hRM hOJ hK K1)
      · exact x_tabIn (off := 1414) (tgt := 1453) C dL_law_39 (by omega) (by omega) (by rw [hs]; rfl) (by decide) (law_answer C hX hcs hend hn5 hC hRM hOJ hK K1)
      · exact x_tabIn (off := 1489) (tgt := 1528) C dL_law_39 (by omega) (by omega) (by rw [hs]; rfl) (by decide) (law_tell C hX hcs hend hn5 hC hRM hOJ hK K1)
      · exact x_tabIn (off := 1569) (tgt := 1608) C dL_law_39 (by omega) (by omega) (by rw [hs]; rfl) (by decide) (law_solved C hX hcs hend hn5 hC hRM hOJ hK K1)
      · exact x_tabIn (off := 1625) (tgt := 1664) C dL_law_39 (by omega) (by omega) (by rw [hs]; rfl) (by decide) (law_score C hX hcs hend hn5 hC hRM hOJ hK K1)
      · exact x_tabIn (off := 1681) (tgt := 1720) C dL_law_39 (by omega) (by omega) (by rw [hs]; rfl) (by decide) (law_scoreAnew C hX hcs hend hn5 hC hRM hOJ hK K1)
      · exact x_tabIn (off := 1737) (tgt := 1776) C dL_law_39 (by omega) (by omega) (by rw [hs]; rfl) (by decide) (law_walkerAt C hX hcs hend hn5 hC hRM hOJ hK K1)
      · exact x_tabOut (tgt := 1801) C dL_law_39 (Or.inr hs) (by decide) (x_wid (by omega) (by omega) (K1 _ _ _ hC.mono hRM hOJ hK.mono))
/-- array classes that the tables say are there -/
theorem arr_of {args : Array Value} {s : State} {ty : FieldType} (h : (Cond.arrayClass ty).before args s = true) (ht : ty = .int ∨ ty = .boolean ∨ ty = .long) : ∃ cA, ArrOfT s cA ty ∧ va_RA s cA ty := by
  obtain ⟨cA, kA, comp, h1, h2, h3⟩ := Cond.arrayClass_spec h
  refine ⟨cA, fun n z => ⟨fun k h => (by cases h), kA, h2, comp, h3⟩, ?_⟩
  rcases ht with rfl | rfl | rfl <;> exact h1
theorem arr_ofO {args : Array Value} {s : State} {C : String} (h : (Cond.arrayOver (.object C)).before args s = true) : ∃ cA, ArrOfT s cA (.object C) ∧ va_RA s cA (.object C) := by
  obtain ⟨comp, c, k, h1, h2, h3, h4, h5⟩ := Cond.arrayOver_spec h
  exact ⟨c, fun n z => ⟨fun k h => (by cases h), k, h3, comp, h4⟩, ⟨k, comp, h3, h4, h1, h5⟩⟩
theorem NWs_in : ∀ w ∈ NWs, w ∈ lw_tbl := by decide +kernel
theorem nwk_tb {w : Cond} (h : nwk w = true) : w.onTables = true := by
  cases w <;> first | rfl | (cases h)
theorem inl_Jx4a65c : ∀ w ∈ u_ws RJx4a65c TJx4a65c 3, w ∈ lw_tbl := by decide +kernel
theorem inl_X0 : ∀ w ∈ u_ws RX0 TX0 2, w ∈ lw_tbl := by decide +kernel
theorem inl_X1 : ∀ w ∈ u_ws RX1 TX1 5, w ∈ lw_tbl := by decide +kernel
theorem inl_X2 : ∀ w ∈ u_ws RX2 TX2 1, w ∈ lw_tbl := by decide +kernel
theorem inl_X3 : ∀ w ∈ u_ws RX3 TX3 2, w ∈ lw_tbl := by decide +kernel
theorem inl_X4 : ∀ w ∈ u_ws RX4 TX4 4, w ∈ lw_tbl := by decide +kernel
theorem inl_X5 : ∀ w ∈ u_ws RX5 TX5 2, w ∈ lw_tbl := by decide +kernel
theorem inl_X6 : ∀ w ∈ u_ws RX6 TX6 9, w ∈ lw_tbl := by decide +kernel
theorem inl_X7 : ∀ w ∈ u_ws RX7 TX7 2, w ∈ lw_tbl := by decide +kernel
theorem inl_X8 : ∀ w ∈ u_ws RX8 TX8 10, w ∈ lw_tbl := by decide +kernel
theorem inl_X9 : ∀ w ∈ u_ws RX9 TX9 29, w ∈ lw_tbl := by decide +kernel
