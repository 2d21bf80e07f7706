set_option maxHeartbeats 4000000 in
set_option maxRecDepth 100000 in
theorem law_moves {E : EE} {G : GG} {z b L : Nat} {xs : Nat → Int32} (C : Cx E G z cL_law RL wsL_law room_1 7) (hX : Sc E b L xs) {cells slots : Nat} (hcs : cells + 64 ≤ room_1.cells ∧ slots + 256 ≤ room_1.slots) {μ : Mm} {i n : Nat} (hi : i + 5 ≤ L) (hn5 : n < 512) {xa md ou : Nat} {σ : SS} {tm : Int} (hC : RepC G z μ xa σ n) (hM : RepM G μ md σ tm) (hOJ : OJx G μ ou) (hK : Kv σ n) (kk : ∀ (μ' : Mm) (σ' : SS) (tm' : Int), RepC G z μ' xa σ' (n + 1) → RepM G μ' md σ' tm' → OJx G μ' ou → Kv σ' (n + 1) → Wx E G (cells + 8) (slots + 64) 1801 [(4, .int (zI (i : Int))), (3, .ref ou), (2, .ref md), (1, .ref xa), (0, .ref b)] [] μ') : Wx E G cells slots 632 [(4, .int (zI (i : Int))), (3, .ref ou), (2, .ref md), (1, .ref xa), (0, .ref b)] [] μ := by
  have hL4 := hX.2.2.2
  have hi23 := hK.1.n23
  refine x_aload_n C dL_law_632 rfl 3 rfl ?_
  refine x_aload_n C dL_law_633 rfl 4 rfl ?_
  refine x_iload C dL_law_634 0 rfl ?_
  refine z_iconst C dL_law_636 ?_
  refine z_iadd C dL_law_637 rfl ?_
  refine z_sld C hX (i + 1) dL_law_638 (by omega) (by omega) ?_
  have hz1 := zI_rg (xs (i + 1))
  unfold rg at hz1
  refine x_aload_n C dL_law_639 rfl 1 rfl ?_
  refine x_callSX (n := 3) (cc9 := cells + 1) (ss9 := slots + 6) (rest := []) C dL_law_640 (c_L_moves (kxL E) C.st G z μ xa md ou σ n tm ((xs (i + 1)).toInt) hC hM hOJ hK hn5 (by omega)) gL_law_L_moves rfl (by decide +kernel) ⟨(Nat.le_of_ble_eq_true rfl), (Nat.le_of_ble_eq_true rfl)⟩ rfl rfl (Nat.le_of_ble_eq_true rfl) rfl rfl ⟨by omega, by omega⟩ nX_no (fun v2 μ3 hv4 => ?_)
  obtain ⟨r5, hw6, hM, hcase⟩ := hv4
  subst hw6
  have htr : 0 ≤ t_st σ ((xs (i + 1)).toInt) ∧ t_st σ ((xs (i + 1)).toInt) ≤ 3 := by (unfold t_st; (repeat split) <;> omega)
  rcases hcase with ⟨hk0, ht0, hC, hOJ⟩ | ⟨ht, hk, hC, hOJ⟩
  · refine x_stk (stk' := [.int (zI 0)]) (by rw [hk0]; rfl) ?_
    refine x_istore (lv' := [(5, .int (zI 0)), (4, .int (zI (i : Int))), (3, .ref ou), (2, .ref md), (1, .ref xa), (0, .ref b)]) C dL_law_643 (by decide) rfl ?_
    refine x_aload_n C dL_law_645 rfl 3 rfl ?_
    refine x_aload_n C dL_law_646 rfl 5 rfl ?_
    refine x_iload C dL_law_647 1 rfl ?_
    refine z_iconst C dL_law_649 ?_
    refine z_iadd C dL_law_650 rfl ?_
    refine z_sld C hX (i + 1) dL_law_651 (by omega) (by omega) ?_
    obtain ⟨fo9, cm9, Ci9, Su9, A9, hY9⟩ := hM
    refine x_callV (n := 1) (ci := 10) (Cn := RX9) (T := TX9) (N := 29) (cc9 := cells + 1) (ss9 := slots + 6) (rest := []) C dL_law_652 (c_X9_moves (kxL E) C.st G z μ3 _ σ n _ _ _ _ _ _ ((xs (i + 1)).toInt) hY9 hK.1 (by omega) (by omega)) gL_law_X9_moves rfl (by decide +kernel) ⟨(Nat.le_of_ble_eq_true rfl), (Nat.le_of_ble_eq_true rfl)⟩ rfl hY9.ob rfl rfl (Nat.le_of_ble_eq_true rfl) rfl rfl ⟨by omega, by omega⟩ nX_no (fun v7 μ8 hv9 => ?_)
    obtain ⟨r10, hw12, hmr, hF9⟩ := hv9
    subst hw12
    have hC : RepC G z μ8 xa (σ) n := hF9.repc hC
    have hOJ : OJ G μ8 ou ((zI (σ 9 ((xs (i + 1)).toInt).toNat)).toInt64) := hF9.oj hOJ
    obtain ⟨hr6, hM⟩ : r10 = σ 9 ((xs (i + 1)).toInt).toNat ∧ RepM G μ8 md (σ) 0 := by (rcases hmr with ⟨a1, a2, a3⟩ | ⟨a1, a2⟩; exact ⟨a2, a3⟩; exact absurd ht0 a1)
    refine x_stk (stk' := [.int (zI r10)]) rfl ?_
    refine x_istore (lv' := [(6, .int (zI r10)), (5, .int (zI 0)), (4, .int (zI (i : Int))), (3, .ref ou), (2, .ref md), (1, .ref xa), (0, .ref b)]) C dL_law_655 (by decide) rfl ?_
    refine x_aload_n C dL_law_657 rfl 4 rfl ?_
    have hM0 := hM
    obtain ⟨fo9, cm9, Ci9, Su9, A9, hY9⟩ := hM
    refine x_callV (n := 0) (ci := 10) (Cn := RX9) (T := TX9) (N := 29) (cc9 := cells + 1) (ss9 := slots + 6) (rest := []) C dL_law_658 (c_X9_thrown (kxL E) C.st G z μ8 _ _ n _ _ _ _ _ _ hY9) gL_law_X9_thrown rfl (by decide +kernel) ⟨(Nat.le_of_ble_eq_true rfl), (Nat.le_of_ble_eq_true rfl)⟩ rfl hY9.ob rfl rfl (Nat.le_of_ble_eq_true rfl) rfl rfl ⟨by omega, by omega⟩ nX_no (fun v13 μ14 hv15 => ?_)
    obtain ⟨r16, hw19, h17, hm18⟩ := hv15
    subst hw19
    rw [hm18]
    have hM := hM0
    refine x_stk (stk' := [.int (zI 0)]) (by rw [h17]; rfl) ?_
    refine x_iload C dL_law_661 1 rfl ?_
    refine z_icmp_eq (tgt := 668) C dL_law_663 (by decide) (rg_of (by omega) (by omega)) (rg_of (by omega) (by omega)) (fun c_20 => ?_) (fun c_20 => ?_)
    · refine x_iload C dL_law_668 1 rfl ?_
      refine z_if_ne (tgt := 685) C dL_law_670 (by decide) (rg_of (by omega) (by omega)) (fun c_21 => ?_) (fun c_21 => ?_)
      · exfalso; omega
      · refine x_aload_n C dL_law_673 rfl 3 rfl ?_
        refine z_iconst C dL_law_674 ?_
        refine z_lald C dL_law_675 hOJ ?_
        refine x_iload C dL_law_676 0 rfl ?_
        refine z_i2l C dL_law_678 ?_
        refine z_lsame C dL_law_679 (by rw [hr6]) ?_
        refine x_stk (stk' := [.int (zI 0)]) rfl ?_
        refine z_if_eq (tgt := 685) C dL_law_680 (by decide) (rg_of (by omega) (by omega)) (fun c_22 => ?_) (fun c_22 => ?_)
        · refine x_goto (tgt := 1801) C dL_law_685 (by decide) ?_
          refine x_sub (lv' := [(4, .int (zI (i : Int))), (3, .ref ou), (2, .ref md), (1, .ref xa), (0, .ref b)]) [2, 3, 4, 5, 6] rfl ?_
          exact x_wid (by omega) (by omega) (kk _ _ _ hC.mono hM hOJ.x hK.mono)
        · exfalso; omega
    · exfalso; omega
  · refine x_stk (stk' := [.int (zI (t_st σ ((xs (i + 1)).toInt)))]) (by rw [hk]; rfl) ?_
    refine x_istore (lv' := [(5, .int (zI (t_st σ ((xs (i + 1)).toInt)))), (4, .int (zI (i : Int))), (3, .ref ou), (2, .ref md), (1, .ref xa), (0, .ref b)]) C dL_law_643 (by decide) rfl ?_
    refine x_aload_n C dL_law_645 rfl 3 rfl ?_
    refine x_aload_n C dL_law_646 rfl 5 rfl ?_
    refine x_iload C dL_law_647 1 rfl ?_
    refine z_iconst C dL_law_649 ?_
    refine z_iadd C dL_law_650 rfl ?_
    refine z_sld C hX (i + 1) dL_law_651 (by omega) (by omega) ?_
    obtain ⟨fo9, cm9, Ci9, Su9, A9, hY9⟩ := hM
    refine x_callV (n := 1) (ci := 10) (Cn := RX9) (T := TX9) (N := 29) (cc9 := cells + 1) (ss9 := slots + 6) (rest := []) C dL_law_652 (c_X9_moves (kxL E) C.st G z μ3 _ σ n _ _ _ _ _ _ ((xs (i + 1)).toInt) hY9 hK.1 (by omega) (by omega)) gL_law_X9_moves rfl (by decide +kernel) ⟨(Nat.le_of_ble_eq_true rfl), (Nat.le_of_ble_eq_true rfl)⟩ rfl hY9.ob rfl rfl (Nat.le_of_ble_eq_true rfl) rfl rfl ⟨by omega, by omega⟩ nX_no (fun v23 μ24 hv25 => ?_)
    obtain ⟨r26, hw28, hmr, hF9⟩ := hv25
    subst hw28
    have hC : RepC G z μ24 xa σ n := hF9.repc hC
    have hOJ : OJx G μ24 ou := hF9.ojx hOJ
    have hM : RepM G μ24 md σ (t_st σ ((xs (i + 1)).toInt)) := by (rcases hmr with ⟨a1, a2, a3⟩ | ⟨a1, a2⟩; exact absurd a1 ht; exact a2)
    refine x_stk (stk' := [.int (zI r26)]) rfl ?_
    refine x_istore (lv' := [(6, .int (zI r26)), (5, .int (zI (t_st σ ((xs (i + 1)).toInt)))), (4, .int (zI (i : Int))), (3, .ref ou), (2, .ref md), (1, .ref xa), (0, .ref b)]) C dL_law_655 (by decide) rfl ?_
    refine x_aload_n C dL_law_657 rfl 4 rfl ?_
    have hM0 := hM
    obtain ⟨fo9, cm9, Ci9, Su9, A9, hY9⟩ := hM
    refine x_callV (n := 0) (ci := 10) (Cn := RX9) (T := TX9) (N := 29) (cc9 := cells + 1) (ss9 := slots + 6) (rest := []) C dL_law_658 (c_X9_thrown (kxL E) C.st G z μ24 _ _ n _ _ _ _ _ _ hY9) gL_law_X9_thrown rfl (by decide +kernel) ⟨(Nat.le_of_ble_eq_true rfl), (Nat.le_of_ble_eq_true rfl)⟩ rfl hY9.ob rfl rfl (Nat.le_of_ble_eq_true rfl) rfl rfl ⟨by omega, by omega⟩ nX_no (fun v29 μ30 hv31 => ?_)
    obtain ⟨r32, hw35, h33, hm34⟩ := hv31
    subst hw35
    rw [hm34]
    have hM := hM0
    refine x_stk (stk' := [.int (zI (t_st σ ((xs (i + 1)).toInt)))]) (by rw [h33]; rfl) ?_
    refine x_iload C dL_law_661 1 rfl ?_
    refine z_icmp_eq (tgt := 668) C dL_law_663 (by decide) (rg_of (by omega) (by omega)) (rg_of (by omega) (by omega)) (fun c_36 => ?_) (fun c_36 => ?_)
    · refine x_iload C dL_law_668 1 rfl ?_
      refine z_if_ne (tgt := 685) C dL_law_670 (by decide) (rg_of (by omega) (by omega)) (fun c_37 => ?_) (fun c_37 => ?_)
      · refine x_goto (tgt := 1801) C dL_law_685 (by decide) ?_
        refine x_sub (lv' := [(4, .int (zI (i : Int))), (3, .ref ou), (2, .ref md), (1, .ref xa), (0, .ref b)]) [2, 3, 4, 5, 6] rfl ?_
        exact x_wid (by omega) (by omega) (kk _ _ _ hC.mono hM hOJ hK.mono)
      · exfalso; omega
    · refine z_iconst C dL_law_666 ?_
      exfalso; omega
set_option maxHeartbeats 4000000 in
set_option maxRecDepth 100000 in
theorem law_spell {E : EE} {G : GG} {z b L : Nat} {xs : Nat → Int32} (C : Cx E G z cL_law RL wsL_law room_1 7) (hX : Sc E b L xs) {cells slots : Nat} (hcs : cells + 64 ≤ room_1.cells ∧ slots + 256 ≤ room_1.slots) {μ : Mm} {i n : Nat} (hi : i + 5 ≤ L) (hn5 : n < 512) {xa md ou : Nat} {σ : SS} {tm : Int} (hC : RepC G z μ xa σ n) (hM : RepM G μ md σ tm) (hOJ : OJx G μ ou) (hK : Kv σ n) (kk : ∀ (μ' : Mm) (σ' : SS) (tm' : Int), RepC G z μ' xa σ' (n + 1) → RepM G μ' md σ' tm' → OJx G μ' ou → Kv σ' (n + 1) → Wx E G (cells + 8) (slots + 64) 1801 [(4, .int (zI (i : Int))), (3, .ref ou), (2, .ref md), (1, .ref xa), (0, .ref b)] [] μ') : Wx E G cells slots 688 [(4, .int (zI (i : Int))), (3, .ref ou), (2, .ref md), (1, .ref xa), (0, .ref b)] [] μ := by
  have hL4 := hX.2.2.2
  have hi23 := hK.1.n23
  refine x_aload_n C dL_law_688 rfl 3 rfl ?_
  refine x_aload_n C dL_law_689 rfl 4 rfl ?_
  refine x_iload C dL_law_690 0 rfl ?_
  refine z_iconst C dL_law_692 ?_
  refine z_iadd C dL_law_693 rfl ?_
  refine z_sld C hX (i + 1) dL_law_694 (by omega) (by omega) ?_
  have hz1 := zI_rg (xs (i + 1))
  unfold rg at hz1
  refine x_aload_n C dL_law_695 rfl 1 rfl ?_
  refine x_callSX (n := 3) (cc9 := cells + 1) (ss9 := slots + 6) (rest := []) C dL_law_696 (c_L_spell (kxL E) C.st G z μ xa md ou σ n tm ((xs (i + 1)).toInt) hC hM hOJ hK hn5 (by omega)) gL_law_L_spell rfl (by decide +kernel) ⟨(Nat.le_of_ble_eq_true rfl), (Nat.le_of_ble_eq_true rfl)⟩ rfl rfl (Nat.le_of_ble_eq_true rfl) rfl rfl ⟨by omega, by omega⟩ nX_no (fun v2 μ3 hv4 => ?_)
  obtain ⟨r5, hw6, hM, hcase⟩ := hv4
  subst hw6
  have htr : 0 ≤ t_spell σ ((xs (i + 1)).toInt) ∧ t_spell σ ((xs (i + 1)).toInt) ≤ 3 := by (unfold t_spell; (repeat split) <;> omega)
  rcases hcase with ⟨hk0, ht0, hC, hOJ⟩ | ⟨ht, hk, hC, hOJ⟩
  · refine x_stk (stk' := [.int (zI 0)]) (by rw [hk0]; rfl) ?_
    refine x_istore (lv' := [(5, .int (zI 0)), (4, .int (zI (i : Int))), (3, .ref ou), (2, .ref md), (1, .ref xa), (0, .ref b)]) C dL_law_699 (by decide) rfl ?_
    refine x_aload_n C dL_law_701 rfl 3 rfl ?_
    refine x_aload_n C dL_law_702 rfl 5 rfl ?_
    refine x_iload C dL_law_703 1 rfl ?_
    refine z_iconst C dL_law_705 ?_
    refine z_iadd C dL_law_706 rfl ?_
    refine z_sld C hX (i + 1) dL_law_707 (by omega) (by omega) ?_
    obtain ⟨fo9, cm9, Ci9, Su9, A9, hY9⟩ := hM
    refine x_callV (n := 1) (ci := 10) (Cn := RX9) (T := TX9) (N := 29) (cc9 := cells + 1) (ss9 := slots + 6) (rest := []) C dL_law_708 (c_X9_spell (kxL E) C.st G z μ3 _ σ n _ _ _ _ _ _ ((xs (i + 1)).toInt) hY9 hK.1 (by omega)) gL_law_X9_spell rfl (by decide +kernel) ⟨(Nat.le_of_ble_eq_true rfl), (Nat.le_of_ble_eq_true rfl)⟩ rfl hY9.ob rfl rfl (Nat.le_of_ble_eq_true rfl) rfl rfl ⟨by omega, by omega⟩ nX_no (fun v7 μ8 hv9 => ?_)
    obtain ⟨r10, hw12, hmr, hF9⟩ := hv9
    subst hw12
    have hC : RepC G z μ8 xa (n_spell σ ((xs (i + 1)).toInt)) n := hF9.repc hC
    have hOJ : OJ G μ8 ou ((zI (b_spell σ ((xs (i + 1)).toInt))).toInt64) := hF9.oj hOJ
    obtain ⟨hr6, hM⟩ : r10 = b_spell σ ((xs (i + 1)).toInt) ∧ RepM G μ8 md (n_spell σ ((xs (i + 1)).toInt)) 0 := by (rcases hmr with ⟨a1, a2, a3⟩ | ⟨a1, a2⟩; exact ⟨a2, a3⟩; exact absurd ht0 a1)
    refine x_stk (stk' := [.int (zI r10)]) rfl ?_
    refine x_istore (lv' := [(6, .int (zI r10)), (5, .int (zI 0)), (4, .int (zI (i : Int))), (3, .ref ou), (2, .ref md), (1, .ref xa), (0, .ref b)]) C dL_law_711 (by decide) rfl ?_
    refine x_aload_n C dL_law_713 rfl 4 rfl ?_
    have hM0 := hM
    obtain ⟨fo9, cm9, Ci9, Su9, A9, hY9⟩ := hM
    refine x_callV (n := 0) (ci := 10) (Cn := RX9) (T := TX9) (N := 29) (cc9 := cells + 1) (ss9 := slots + 6) (rest := []) C dL_law_714 (c_X9_thrown (kxL E) C.st G z μ8 _ _ n _ _ _ _ _ _ hY9) gL_law_X9_thrown rfl (by decide +kernel) ⟨(Nat.le_of_ble_eq_true rfl), (Nat.le_of_ble_eq_true rfl)⟩ rfl hY9.ob rfl rfl (Nat.le_of_ble_eq_true rfl) rfl rfl ⟨by omega, by omega⟩ nX_no (fun v13 μ14 hv15 => ?_)
    obtain ⟨r16, hw19, h17, hm18⟩ := hv15
    subst hw19
    rw [hm18]
    have hM := hM0
    refine x_stk (stk' := [.int (zI 0)]) (by rw [h17]; rfl) ?_
    refine x_iload C dL_law_717 1 rfl ?_
    refine z_icmp_eq (tgt := 724) C dL_law_719 (by decide) (rg_of (by omega) (by omega)) (rg_of (by omega) (by omega)) (fun c_20 => ?_) (fun c_20 => ?_)
    · refine x_iload C dL_law_724 1 rfl ?_
      refine z_if_ne (tgt := 741) C dL_law_726 (by decide) (rg_of (by omega) (by omega)) (fun c_21 => ?_) (fun c_21 => ?_)
      · exfalso; omega
      · refine x_aload_n C dL_law_729 rfl 3 rfl ?_
        refine z_iconst C dL_law_730 ?_
        refine z_lald C dL_law_731 hOJ ?_
        refine x_iload C dL_law_732 0 rfl ?_
        refine z_i2l C dL_law_734 ?_
        refine z_lsame C dL_law_735 (by rw [hr6]) ?_
        refine x_stk (stk' := [.int (zI 0)]) rfl ?_
        refine z_if_eq (tgt := 741) C dL_law_736 (by decide) (rg_of (by omega) (by omega)) (fun c_22 => ?_) (fun c_22 => ?_)
        · refine x_goto (tgt := 1801) C dL_law_741 (by decide) ?_
          refine x_sub (lv' := [(4, .int (zI (i : Int))), (3, .ref ou), (2, .ref md), (1, .ref xa), (0, .ref b)]) [2, 3, 4, 5, 6] rfl ?_
          exact x_wid (by omega) (by omega) (kk _ _ _ hC.mono hM hOJ.x (Kv_spell hK ht0).mono)
        · exfalso; omega
    · exfalso; omega
  · refine x_stk (stk' := [.int (zI (t_spell σ ((xs (i + 1)).toInt)))]) (by rw [hk]; rfl) ?_
    refine x_istore (lv' := [(5, .int (zI (t_spell σ ((xs (i + 1)).toInt)))), (4, .int (zI (i : Int))), (3, .ref ou), (2, .ref md), (1, .ref xa), (0, .ref b)]) C dL_law_699 (by decide) rfl ?_
    refine x_aload_n C dL_law_701 rfl 3 rfl ?_
    refine x_aload_n C dL_law_702 rfl 5 rfl ?_
    refine x_iload C dL_law_703 1 rfl ?_
    refine z_iconst C dL_law_705 ?_
    refine z_iadd C dL_law_706 rfl ?_
    refine z_sld C hX (i + 1) dL_law_707 (by omega) (by omega) ?_
    obtain ⟨fo9, cm9, Ci9, Su9, A9, hY9⟩ := hM
    refine x_callV (n := 1) (ci := 10) (Cn := RX9) (T := TX9) (N := 29) (cc9 := cells + 1) (ss9 := slots + 6) (rest := []) C dL_law_708 (c_X9_spell (kxL E) C.st G z μ3 _ σ n _ _ _ _ _ _ ((xs (i + 1)).toInt) hY9 hK.1 (by omega)) gL_law_X9_spell rfl (by decide +kernel) ⟨(Nat.le_of_ble_eq_true rfl), (Nat.le_of_ble_eq_true rfl)⟩ rfl hY9.ob rfl rfl (Nat.le_of_ble_eq_true rfl) rfl rfl ⟨by omega, by omega⟩ nX_no (fun v23 μ24 hv25 => ?_)
    obtain ⟨r26, hw28, hmr, hF9⟩ := hv25
    subst hw28
    have hC : RepC G z μ24 xa σ n := hF9.repc hC
    have hOJ : OJx G μ24 ou := hF9.ojx hOJ
    have hM : RepM G μ24 md σ (t_spell σ ((xs (i + 1)).toInt)) := by (rcases hmr with ⟨a1, a2, a3⟩ | ⟨a1, a2⟩; exact absurd a1 ht; exact a2)
    refine x_stk (stk' := [.int (zI r26)]) rfl ?_
    refine x_istore (lv' := [(6, .int (zI r26)), (5, .int (zI (t_spell σ ((xs (i + 1)).toInt)))), (4, .int (zI (i : Int))), (3, .ref ou), (2, .ref md), (1, .ref xa), (0, .ref b)]) C dL_law_711 (by decide) rfl ?_
    refine x_aload_n C dL_law_713 rfl 4 rfl ?_
    have hM0 := hM
    obtain ⟨fo9, cm9, Ci9, Su9, A9, hY9⟩ := hM
    refine x_callV (n := 0) (ci := 10) (Cn := RX9) (T := TX9) (N := 29) (cc9 := cells + 1) (ss9 := slots + 6) (rest := []) C dL_law_714 (c_X9_thrown (kxL E) C.st G z μ24 _ _ n _ _ _ _ _ _ hY9) gL_law_X9_thrown rfl (by decide +kernel) ⟨(Nat.le_of_ble_eq_true rfl), (Nat.le_of_ble_eq_true rfl)⟩ rfl hY9.ob rfl rfl (Nat.le_of_ble_eq_true rfl) rfl rfl ⟨by omega, by omega⟩ nX_no (fun v29 μ30 hv31 => ?_)
    obtain ⟨r32, hw35, h33, hm34⟩ := hv31
    subst hw35
    rw [hm34]
    have hM := hM0
    refine x_stk (stk' := [.int (zI (t_spell σ ((xs (i + 1)).toInt)))]) (by rw [h33]; rfl) ?_
    refine x_iload C dL_law_717 1 rfl ?_
    refine z_icmp_eq (tgt := 724) C dL_law_719 (by decide) (rg_of (by omega) (by omega)) (rg_of (by omega) (by omega)) (fun c_36 => ?_) (fun c_36 => ?_)
    · refine x_iload C dL_law_724 1 rfl ?_
      refine z_if_ne (tgt := 741) C dL_law_726 (by decide) (rg_of (by omega) (by omega)) (fun c_37 => ?_) (fun c_37 => ?_)
      · refine x_goto (tgt := 1801) C dL_law_741 (by decide) ?_
        refine x_sub (lv' := [(4, .int (zI (i : Int))), (3, .ref ou), (2, .ref md), (1, .ref xa), (0, .ref b)]) [2, 3, 4, 5, 6] rfl ?_
        exact x_wid (by omega) (by omega) (kk _ _ _ hC.mono hM hOJ hK.mono)
      · exfalso; omega
    · refine z_iconst C dL_law_722 ?_
      exfalso; omega
set_option maxHeartbeats 4000000 in
set_option maxRecDepth 100000 in
theorem law_clearSpelled {E : EE} {G : GG} {z b L : Nat} {xs : Nat → Int32} (C : Cx E G z cL_law RL wsL_law room_1 7) (hX : Sc E b L xs) {cells slots : Nat} (hcs : cells + 64 ≤ room_1.cells ∧ slots + 256 ≤ room_1.slots) {μ : Mm} {i n : Nat} (hi : i + 5 ≤ L) (hn5 : n < 512) {xa md ou : Nat} {σ : SS} {tm : Int} (hC : RepC G z μ xa σ n) (hM : RepM G μ md σ tm) (hOJ : OJx G μ ou) (hK : Kv σ n) (kk : ∀ (μ' : Mm) (σ' : SS) (tm' : Int), RepC G z μ' xa σ' (n + 1) → RepM G μ' md σ' tm' → OJx G μ' ou → Kv σ' (n + 1) → Wx E G (cells + 8) (slots + 64) 1801 [(4, .int (zI (i : Int))), (3, .ref ou), (2, .ref md), (1, .ref xa), (0, .ref b)] [] μ') : Wx E G cells slots 744 [(4, .int (zI (i : Int))), (3, .ref ou), (2, .ref md), (1, .ref xa), (0, .ref b)] [] μ := by
  have hL4 := hX.2.2.2
  have hi23 := hK.1.n23
  refine x_aload_n C dL_law_744 rfl 3 rfl ?_
  refine x_callV (n := 0) (ci := 9) (Cn := RX8) (T := TX8) (N := 10) (cc9 := cells) (ss9 := slots) (rest := []) C dL_law_745 (c_X8_clearSpelled (kxL E) C.st G z μ xa σ n hC hK.1) gL_law_X8_clearSpelled rfl (by decide +kernel) ⟨(Nat.le_of_ble_eq_true rfl), (Nat.le_of_ble_eq_true rfl)⟩ rfl hC.ob rfl rfl (Nat.le_of_ble_eq_true rfl) rfl rfl ⟨by omega, by omega⟩ nX_no (fun v1 μ2 hv3 => ?_)
  obtain ⟨r4, hw6, ⟨hr8, hC⟩, hF9⟩ := hv3
  subst hw6
  have hM : RepM G μ2 md σ tm := hF9.repm hM
  have hOJ : OJx G μ2 ou := hF9.ojx hOJ
  have hbr := hK.1.r11 0 (by decide)
  refine x_stk (stk' := [.int (zI r4)]) rfl ?_
  refine x_aload_n C dL_law_748 rfl 2 rfl ?_
  obtain ⟨fo9, cm9, Ci9, Su9, A9, hY9⟩ := hM
  refine x_callV (n := 0) (ci := 10) (Cn := RX9) (T := TX9) (N := 29) (cc9 := cells) (ss9 := slots) (rest := [.int (zI r4)]) C dL_law_749 (c_X9_clearSpelled (kxL E) C.st G z μ2 _ σ n _ _ _ _ _ _ hY9 hK.1) gL_law_X9_clearSpelled rfl (by decide +kernel) ⟨(Nat.le_of_ble_eq_true rfl), (Nat.le_of_ble_eq_true rfl)⟩ rfl hY9.ob rfl rfl (Nat.le_of_ble_eq_true rfl) rfl rfl ⟨by omega, by omega⟩ nX_no (fun v8 μ9 hv10 => ?_)
  obtain ⟨r11, hw13, hmr, hF9⟩ := hv10
  subst hw13
  have hOJ : OJx G μ9 ou := hF9.ojx hOJ
  have hC : RepC G z μ9 xa (n_clearSpelled σ) n := hF9.repc hC
  obtain ⟨hr6, hM⟩ := hmr
  refine x_stk (stk' := [.int (zI r11), .int (zI r4)]) rfl ?_
  refine z_icmp_eq (tgt := 1801) C dL_law_752 (by decide) (rg_of (by omega) (by omega)) (rg_of (by omega) (by omega)) (fun c_14 => ?_) (fun c_14 => ?_)
  · exact x_wid (by omega) (by omega) (kk _ _ _ hC.mono hM hOJ (Kv_clearSpelled hK).mono)
  · refine z_iconst C dL_law_755 ?_
    exfalso; omega
set_option maxHeartbeats 4000000 in
set_option maxRecDepth 100000 in
theorem law_cipherLength {E : EE} {G : GG} {z b L : Nat} {xs : Nat → Int32} (C : Cx E G z cL_law RL wsL_law room_1 7) (hX : Sc E b L xs) {cells slots : Nat} (hcs : cells + 64 ≤ room_1.cells ∧ slots + 256 ≤ room_1.slots) {μ : Mm} {i n : Nat} (hi : i + 5 ≤ L) (hn5 : n < 512) {xa md ou : Nat} {σ : SS} {tm : Int} (hC : RepC G z μ xa σ n) (hM : RepM G μ md σ tm) (hOJ : OJx G μ ou) (hK : Kv σ n) (kk : ∀ (μ' : Mm) (σ' : SS) (tm' : Int), RepC G z μ' xa σ' (n + 1) → RepM G μ' md σ' tm' → OJx G μ' ou → Kv σ' (n + 1) → Wx E G (cells + 8) (slots + 64) 1801 [(4, .int (zI (i : Int))), (3, .ref ou), (2, .ref md), (1, .ref xa), (0, .ref b)] [] μ') : Wx E G cells slots 757 [(4, .int (zI (i : Int))), (3, .ref ou), (2, .ref md), (1, .ref xa), (0, .ref b)] [] μ := by
  have hL4 := hX.2.2.2
  have hi23 := hK.1.n23
  refine x_aload_n C dL_law_757 rfl 3 rfl ?_
  refine x_aload_n C dL_law_758 rfl 4 rfl ?_
  refine x_iload C dL_law_759 0 rfl ?_
  refine z_iconst C dL_law_761 ?_
  refine z_iadd C dL_law_762 rfl ?_
  refine z_sld C hX (i + 1) dL_law_763 (by omega) (by omega) ?_
  have hz1 := zI_rg (xs (i + 1))
  unfold rg at hz1
  refine x_aload_n C dL_law_764 rfl 1 rfl ?_
  refine x_callSX (n := 3) (cc9 := cells + 2) (ss9 := slots + 12) (rest := []) C dL_law_765 (c_L_cipherLength (kxL E) C.st G z μ xa md ou σ n tm ((xs (i + 1)).toInt) hC hM hOJ hK hn5 (by omega)) gL_law_L_cipherLength rfl (by decide +kernel) ⟨(Nat.le_of_ble_eq_true rfl), (Nat.le_of_ble_eq_true rfl)⟩ rfl rfl (Nat.le_of_ble_eq_true rfl) rfl rfl ⟨by omega, by omega⟩ nX_no (fun v2 μ3 hv4 => ?_)
  obtain ⟨r5, hw6, hM, hcase⟩ := hv4
  subst hw6
  have htr : 0 ≤ t_cipher σ ((xs (i + 1)).toInt) ∧ t_cipher σ ((xs (i + 1)).toInt) ≤ 3 := by (unfold t_cipher; (repeat split) <;> omega)
  rcases hcase with ⟨hk0, ht0, hC, hOJ⟩ | ⟨ht, hk, hC, hOJ⟩
  · refine x_stk (stk' := [.int (zI 0)]) (by rw [hk0]; rfl) ?_
    refine x_istore (lv' := [(5, .int (zI 0)), (4, .int (zI (i : Int))), (3, .ref ou), (2, .ref md), (1, .ref xa), (0, .ref b)]) C dL_law_768 (by decide) rfl ?_
    refine x_aload_n C dL_law_770 rfl 3 rfl ?_
    refine x_aload_n C dL_law_771 rfl 5 rfl ?_
    refine x_iload C dL_law_772 1 rfl ?_
    refine z_iconst C dL_law_774 ?_
    refine z_iadd C dL_law_775 rfl ?_
    refine z_sld C hX (i + 1) dL_law_776 (by omega) (by omega) ?_
    obtain ⟨fo9, cm9, Ci9, Su9, A9, hY9⟩ := hM
    refine x_callV (n := 1) (ci := 10) (Cn := RX9) (T := TX9) (N := 29) (cc9 := cells + 2) (ss9 := slots + 12) (rest := []) C dL_law_777 (c_X9_cipherLength (kxL E) C.st G z μ3 _ σ n _ _ _ _ _ _ ((xs (i + 1)).toInt) hY9 hK.1 hK.2 (by omega)) gL_law_X9_cipherLength rfl (by decide +kernel) ⟨(Nat.le_of_ble_eq_true rfl), (Nat.le_of_ble_eq_true rfl)⟩ rfl hY9.ob rfl rfl (Nat.le_of_ble_eq_true rfl) rfl rfl ⟨by omega, by omega⟩ nX_no (fun v7 μ8 hv9 => ?_)
    obtain ⟨r10, hw12, hmr, hF9⟩ := hv9
    subst hw12
    have hC : RepC G z μ8 xa (σ) n := hF9.repc hC
    have hOJ : OJ G μ8 ou ((zI (clen σ ((xs (i + 1)).toInt))).toInt64) := hF9.oj hOJ
    obtain ⟨hr6, hM⟩ : r10 = clen σ ((xs (i + 1)).toInt) ∧ RepM G μ8 md (σ) 0 := by (rcases hmr with ⟨a1, a2, a3⟩ | ⟨a1, a2⟩; exact ⟨a2, a3⟩; exact absurd ht0 a1)
    refine x_stk (stk' := [.int (zI r10)]) rfl ?_
    refine x_istore (lv' := [(6, .int (zI r10)), (5, .int (zI 0)), (4, .int (zI (i : Int))), (3, .ref ou), (2, .ref md), (1, .ref xa), (0, .ref b)]) C dL_law_780 (by decide) rfl ?_
    refine x_aload_n C dL_law_782 rfl 4 rfl ?_
    have hM0 := hM
    obtain ⟨fo9, cm9, Ci9, Su9, A9, hY9⟩ := hM
    refine x_callV (n := 0) (ci := 10) (Cn := RX9) (T := TX9) (N := 29) (cc9 := cells + 2) (ss9 := slots + 12) (rest := []) C dL_law_783 (c_X9_thrown (kxL E) C.st G z μ8 _ _ n _ _ _ _ _ _ hY9) gL_law_X9_thrown rfl (by decide +kernel) ⟨(Nat.le_of_ble_eq_true rfl), (Nat.le_of_ble_eq_true rfl)⟩ rfl hY9.ob rfl rfl (Nat.le_of_ble_eq_true rfl) rfl rfl ⟨by omega, by omega⟩ nX_no (fun v13 μ14 hv15 => ?_)
    obtain ⟨r16, hw19, h17, hm18⟩ := hv15
    subst hw19
    rw [hm18]
    have hM := hM0
    refine x_stk (stk' := [.int (zI 0)]) (by rw [h17]; rfl) ?_
    refine x_iload C dL_law_786 1 rfl ?_
    refine z_icmp_eq (tgt := 793) C dL_law_788 (by decide) (rg_of (by omega) (by omega)) (rg_of (by omega) (by omega)) (fun c_20 => ?_) (fun c_20 => ?_)
    · refine x_iload C dL_law_793 1 rfl ?_
      refine z_if_ne (tgt := 810) C dL_law_795 (by decide) (rg_of (by omega) (by omega)) (fun c_21 => ?_) (fun c_21 => ?_)
      · exfalso; omega
      · refine x_aload_n C dL_law_798 rfl 3 rfl ?_
        refine z_iconst C dL_law_799 ?_
        refine z_lald C dL_law_800 hOJ ?_
        refine x_iload C dL_law_801 0 rfl ?_
        refine z_i2l C dL_law_803 ?_
        refine z_lsame C dL_law_804 (by rw [hr6]) ?_
        refine x_stk (stk' := [.int (zI 0)]) rfl ?_
        refine z_if_eq (tgt := 810) C dL_law_805 (by decide) (rg_of (by omega) (by omega)) (fun c_22 => ?_) (fun c_22 => ?_)
        · refine x_goto (tgt := 1801) C dL_law_810 (by decide) ?_
          refine x_sub (lv' := [(4, .int (zI (i : Int))), (3, .ref ou), (2, .ref md), (1, .ref xa), (0, .ref b)]) [2, 3, 4, 5, 6] rfl ?_
          exact x_wid (by omega) (by omega) (kk _ _ _ hC.mono hM hOJ.x hK.mono)
        · exfalso; omega
    · exfalso; omega
  · refine x_stk (stk' := [.int (zI (t_cipher σ ((xs (i + 1)).toInt)))]) (by rw [hk]; rfl) ?_
    refine x_istore (lv' := [(5, .int (zI (t_cipher σ ((xs (i + 1)).toInt)))), (4, .int (zI (i : Int))), (3, .ref ou), (2, .ref md), (1, .ref xa), (0, .ref b)]) C dL_law_768 (by decide) rfl ?_
    refine x_aload_n C dL_law_770 rfl 3 rfl ?_
    refine x_aload_n C dL_law_771 rfl 5 rfl ?_
    refine x_iload C dL_law_772 1 rfl ?_
    refine z_iconst C dL_law_774 ?_
    refine z_iadd C dL_law_775 rfl ?_
    refine z_sld C hX (i + 1) dL_law_776 (by omega) (by omega) ?_
    obtain ⟨fo9, cm9, Ci9, Su9, A9, hY9⟩ := hM
    refine x_callV (n := 1) (ci := 10) (Cn := RX9) (T := TX9) (N := 29) (cc9 := cells + 2) (ss9 := slots + 12) (rest := []) C dL_law_777 (c_X9_cipherLength (kxL E) C.st G z μ3 _ σ n _ _ _ _ _ _ ((xs (i + 1)).toInt) hY9 hK.1 hK.2 (by omega)) gL_law_X9_cipherLength rfl (by decide +kernel) ⟨(Nat.le_of_ble_eq_true rfl), (Nat.le_of_ble_eq_true rfl)⟩ rfl hY9.ob rfl rfl (Nat.le_of_ble_eq_true rfl) rfl rfl ⟨by omega, by omega⟩ nX_no (fun v23 μ24 hv25 => ?_)
    obtain ⟨r26, hw28, hmr, hF9⟩ := hv25
    subst hw28
    have hC : RepC G z μ24 xa σ n := hF9.repc hC
    have hOJ : OJx G μ24 ou := hF9.ojx hOJ
    have hM : RepM G μ24 md σ (t_cipher σ ((xs (i + 1)).toInt)) := by (rcases hmr with ⟨a1, a2, a3⟩ | ⟨a1, a2⟩; exact absurd a1 ht; exact a2)
    refine x_stk (stk' := [.int (zI r26)]) rfl ?_
    refine x_istore (lv' := [(6, .int (zI r26)), (5, .int (zI (t_cipher σ ((xs (i + 1)).toInt)))), (4, .int (zI (i : Int))), (3, .ref ou), (2, .ref md), (1, .ref xa), (0, .ref b)]) C dL_law_780 (by decide) rfl ?_
    refine x_aload_n C dL_law_782 rfl 4 rfl ?_
    have hM0 := hM
    obtain ⟨fo9, cm9, Ci9, Su9, A9, hY9⟩ := hM
    refine x_callV (n := 0) (ci := 10) (Cn := RX9) (T := TX9) (N := 29) (cc9 := cells + 2) (ss9 := slots + 12) (rest := []) C dL_law_783 (c_X9_thrown (kxL E) C.st G z μ24 _ _ n _ _ _ _ _ _ hY9) gL_law_X9_thrown rfl (by decide +kernel) ⟨(Nat.le_of_ble_eq_true rfl), (Nat.le_of_ble_eq_true rfl)⟩ rfl hY9.ob rfl rfl (Nat.le_of_ble_eq_true rfl) rfl rfl ⟨by omega, by omega⟩ nX_no (fun v29 μ30 hv31 => ?_)
    obtain ⟨r32, hw35, h33, hm34⟩ := hv31
    subst hw35
    rw [hm34]
    have hM := hM0
    refine x_stk (stk' := [.int (zI (t_cipher σ ((xs (i + 1)).toInt)))]) (by rw [h33]; rfl) ?_
    refine x_iload C dL_law_786 1 rfl ?_
    refine z_icmp_eq (tgt := 793) C dL_law_788 (by decide) (rg_of (by omega) (by omega)) (rg_of (by omega) (by omega)) (fun c_36 => ?_) (fun c_36 => ?_)
    · refine x_iload C dL_law_793 1 rfl ?_
      refine z_if_ne (tgt := 810) C dL_law_795 (by decide) (rg_of (by omega) (by omega)) (fun c_37 => ?_) (fun c_37 => ?_)
      · refine x_goto (tgt := 1801) C dL_law_810 (by decide) ?_
        refine x_sub (lv' := [(4, .int (zI (i : Int))), (3, .ref ou), (2, .ref md), (1, .ref xa), (0, .ref b)]) [2, 3, 4, 5, 6] rfl ?_
        exact x_wid (by omega) (by omega) (kk _ _ _ hC.mono hM hOJ hK.mono)
      · exfalso; omega
    · refine z_iconst C dL_law_791 ?_
      exfalso; omega
set_option maxHeartbeats 4000000 in
set_option maxRecDepth 100000 in
theorem law_cipherAt {E : EE} {G : GG} {z b L : Nat} {xs : Nat → Int32} (C : Cx E G z cL_law RL wsL_law room_1 7) (hX : Sc E b L xs) {cells slots : Nat} (hcs : cells + 64 ≤ room_1.cells ∧ slots + 256 ≤ room_1.slots) {μ : Mm} {i n : Nat} (hi : i + 5 ≤ L) (hn5 : n < 512) {xa md ou : Nat} {σ : SS} {tm : Int} (hC : RepC G z μ xa σ n) (hM : RepM G μ md σ tm) (hOJ : OJx G μ ou) (hK : Kv σ n) (kk : ∀ (μ' : Mm) (σ' : SS) (tm' : Int), RepC G z μ' xa σ' (n + 1) → RepM G μ' md σ' tm' → OJx G μ' ou → Kv σ' (n + 1) → Wx E G (cells + 8) (slots + 64) 1801 [(4, .int (zI (i : Int))), (3, .ref ou), (2, .ref md), (1, .ref xa), (0, .ref b)] [] μ') : Wx E G cells slots 813 [(4, .int (zI (i : Int))), (3, .ref ou), (2, .ref md), (1, .ref xa), (0, .ref b)] [] μ := by
  have hL4 := hX.2.2.2
  have hi23 := hK.1.n23
  refine x_aload_n C dL_law_813 rfl 3 rfl ?_
  refine x_aload_n C dL_law_814 rfl 4 rfl ?_
  refine x_iload C dL_law_815 0 rfl ?_
  refine z_iconst C dL_law_817 ?_
  refine z_iadd C dL_law_818 rfl ?_
  refine z_sld C hX (i + 1) dL_law_819 (by omega) (by omega) ?_
  have hz1 := zI_rg (xs (i + 1))
  unfold rg at hz1
  refine x_aload_n C dL_law_820 rfl 4 rfl ?_
  refine x_iload C dL_law_821 0 rfl ?_
  refine z_iconst C dL_law_823 ?_
  refine z_iadd C dL_law_824 rfl ?_
  refine z_sld C hX (i + 2) dL_law_825 (by omega) (by omega) ?_
  have hz2 := zI_rg (xs (i + 2))
  unfold rg at hz2
  refine x_aload_n C dL_law_826 rfl 1 rfl ?_
  refine x_callSX (n := 4) (cc9 := cells + 2) (ss9 := slots + 12) (rest := []) C dL_law_827 (c_L_cipherAt (kxL E) C.st G z μ xa md ou σ n tm ((xs (i + 1)).toInt) ((xs (i + 2)).toInt) hC hM hOJ hK hn5 (by omega) (by omega)) gL_law_L_cipherAt rfl (by decide +kernel) ⟨(Nat.le_of_ble_eq_true rfl), (Nat.le_of_ble_eq_true rfl)⟩ rfl rfl (Nat.le_of_ble_eq_true rfl) rfl rfl ⟨by omega, by omega⟩ nX_no (fun v3 μ4 hv5 => ?_)
  obtain ⟨r6, hw7, hM, hcase⟩ := hv5
  subst hw7
  have htr : 0 ≤ t_cipherAt σ ((xs (i + 1)).toInt) ((xs (i + 2)).toInt) ∧ t_cipherAt σ ((xs (i + 1)).toInt) ((xs (i + 2)).toInt) ≤ 3 := by (unfold t_cipherAt; (repeat split) <;> omega)
  rcases hcase with ⟨hk0, ht0, hC, b9, hb9, hOJ⟩ | ⟨ht, hk, hC, hOJ⟩
  · refine x_stk (stk' := [.int (zI 0)]) (by rw [hk0]; rfl) ?_
    refine x_istore (lv' := [(5, .int (zI 0)), (4, .int (zI (i : Int))), (3, .ref ou), (2, .ref md), (1, .ref xa), (0, .ref b)]) C dL_law_830 (by decide) rfl ?_
    refine x_aload_n C dL_law_832 rfl 3 rfl ?_
    refine x_aload_n C dL_law_833 rfl 5 rfl ?_
    refine x_iload C dL_law_834 1 rfl ?_
    refine z_iconst C dL_law_836 ?_
    refine z_iadd C dL_law_837 rfl ?_
    refine z_sld C hX (i + 1) dL_law_838 (by omega) (by omega) ?_
    refine x_aload_n C dL_law_839 rfl 5 rfl ?_
    refine x_iload C dL_law_840 1 rfl ?_
    refine z_iconst C dL_law_842 ?_
    refine z_iadd C dL_law_843 rfl ?_
    refine z_sld C hX (i + 2) dL_law_844 (by omega) (by omega) ?_
    obtain ⟨fo9, cm9, Ci9, Su9, A9, hY9⟩ := hM
    refine x_callV (n := 2) (ci := 10) (Cn := RX9) (T := TX9) (N := 29) (cc9 := cells + 2) (ss9 := slots + 12) (rest := []) C dL_law_845 (c_X9_cipherAt (kxL E) C.st G z μ4 _ σ n _ _ _ _ _ _ ((xs (i + 1)).toInt) ((xs (i + 2)).toInt) hY9 hK.1 hK.2 (by omega) (by omega)) gL_law_X9_cipherAt rfl (by decide +kernel) ⟨(Nat.le_of_ble_eq_true rfl), (Nat.le_of_ble_eq_true rfl)⟩ rfl hY9.ob rfl rfl (Nat.le_of_ble_eq_true rfl) rfl rfl ⟨by omega, by omega⟩ nX_no (fun v8 μ9 hv10 => ?_)
    obtain ⟨r11, hw13, hmr, hF9⟩ := hv10
    subst hw13
    have hC : RepC G z μ9 xa (σ) n := hF9.repc hC
    have hOJ : OJ G μ9 ou ((zI b9).toInt64) := hF9.oj hOJ
    obtain ⟨hr6, hM⟩ : r11 = b9 ∧ RepM G μ9 md (σ) 0 := by (rcases hmr with ⟨a1, a2, a3⟩ | ⟨a1, a2⟩; exact ⟨b_cipherAt_one a2 hb9, a3⟩; exact absurd ht0 a1)
    refine x_stk (stk' := [.int (zI r11)]) rfl ?_
    refine x_istore (lv' := [(6, .int (zI r11)), (5, .int (zI 0)), (4, .int (zI (i : Int))), (3, .ref ou), (2, .ref md), (1, .ref xa), (0, .ref b)]) C dL_law_848 (by decide) rfl ?_
    refine x_aload_n C dL_law_850 rfl 4 rfl ?_
    have hM0 := hM
    obtain ⟨fo9, cm9, Ci9, Su9, A9, hY9⟩ := hM
    refine x_callV (n := 0) (ci := 10) (Cn := RX9) (T := TX9) (N := 29) (cc9 := cells + 2) (ss9 := slots + 12) (rest := []) C dL_law_851 (c_X9_thrown (kxL E) C.st G z μ9 _ _ n _ _ _ _ _ _ hY9) gL_law_X9_thrown rfl (by decide +kernel) ⟨(Nat.le_of_ble_eq_true rfl), (Nat.le_of_ble_eq_true rfl)⟩ rfl hY9.ob rfl rfl (Nat.le_of_ble_eq_true rfl) rfl rfl ⟨by omega, by omega⟩ nX_no (fun v14 μ15 hv16 => ?_)
    obtain ⟨r17, hw20, h18, hm19⟩ := hv16
    subst hw20
    rw [hm19]
    have hM := hM0
    refine x_stk (stk' := [.int (zI 0)]) (by rw [h18]; rfl) ?_
    refine x_iload C dL_law_854 1 rfl ?_
    refine z_icmp_eq (tgt := 861) C dL_law_856 (by decide) (rg_of (by omega) (by omega)) (rg_of (by omega) (by omega)) (fun c_21 => ?_) (fun c_21 => ?_)
    · refine x_iload C dL_law_861 1 rfl ?_
      refine z_if_ne (tgt := 878) C dL_law_863 (by decide) (rg_of (by omega) (by omega)) (fun c_22 => ?_) (fun c_22 => ?_)
      · exfalso; omega
      · refine x_aload_n C dL_law_866 rfl 3 rfl ?_
        refine z_iconst C dL_law_867 ?_
        refine z_lald C dL_law_868 hOJ ?_
        refine x_iload C dL_law_869 0 rfl ?_
        refine z_i2l C dL_law_871 ?_
        refine z_lsame C dL_law_872 (by rw [hr6]) ?_
        refine x_stk (stk' := [.int (zI 0)]) rfl ?_
        refine z_if_eq (tgt := 878) C dL_law_873 (by decide) (rg_of (by omega) (by omega)) (fun c_23 => ?_) (fun c_23 => ?_)
        · refine x_goto (tgt := 1801) C dL_law_878 (by decide) ?_
          refine x_sub (lv' := [(4, .int (zI (i : Int))), (3, .ref ou), (2, .ref md), (1, .ref xa), (0, .ref b)]) [2, 3, 4, 5, 6] rfl ?_
          exact x_wid (by omega) (by omega) (kk _ _ _ hC.mono hM hOJ.x hK.mono)
        · exfalso; omega
    · exfalso; omega
  · refine x_stk (stk' := [.int (zI (t_cipherAt σ ((xs (i + 1)).toInt) ((xs (i + 2)).toInt)))]) (by rw [hk]; rfl) ?_
    refine x_istore (lv' := [(5, .int (zI (t_cipherAt σ ((xs (i + 1)).toInt) ((xs (i + 2)).toInt)))), (4, .int (zI (i : Int))), (3, .ref ou), (2, .ref md), (1, .ref xa), (0, .ref b)]) C dL_law_830 (by decide) rfl ?_
    refine x_aload_n C dL_law_832 rfl 3 rfl ?_
    refine x_aload_n C dL_law_833 rfl 5 rfl ?_
    refine x_iload C dL_law_834 1 rfl ?_
    refine z_iconst C dL_law_836 ?_
    refine z_iadd C dL_law_837 rfl ?_
    refine z_sld C hX (i + 1) dL_law_838 (by omega) (by omega) ?_
    refine x_aload_n C dL_law_839 rfl 5 rfl ?_
    refine x_iload C dL_law_840 1 rfl ?_
    refine z_iconst C dL_law_842 ?_
    refine z_iadd C dL_law_843 rfl ?_
    refine z_sld C hX (i + 2) dL_law_844 (by omega) (by omega) ?_
    obtain ⟨fo9, cm9, Ci9, Su9, A9, hY9⟩ := hM
    refine x_callV (n := 2) (ci := 10) (Cn := RX9) (T := TX9) (N := 29) (cc9 := cells + 2) (ss9 := slots + 12) (rest := []) C dL_law_845 (c_X9_cipherAt (kxL E) C.st G z μ4 _ σ n _ _ _ _ _ _ ((xs (i + 1)).toInt) ((xs (i + 2)).toInt) hY9 hK.1 hK.2 (by omega) (by omega)) gL_law_X9_cipherAt rfl (by decide +kernel) ⟨(Nat.le_of_ble_eq_true rfl), (Nat.le_of_ble_eq_true rfl)⟩ rfl hY9.ob rfl rfl (Nat.le_of_ble_eq_true rfl) rfl rfl ⟨by omega, by omega⟩ nX_no (fun v24 μ25 hv26 => ?_)
    obtain ⟨r27, hw29, hmr, hF9⟩ := hv26
    subst hw29
    have hC : RepC G z μ25 xa σ n := hF9.repc hC
    have hOJ : OJx G μ25 ou := hF9.ojx hOJ
    have hM : RepM G μ25 md σ (t_cipherAt σ ((xs (i + 1)).toInt) ((xs (i + 2)).toInt)) := by (rcases hmr with ⟨a1, a2, a3⟩ | ⟨a1, a2⟩; exact absurd a1 ht; exact a2)
    refine x_stk (stk' := [.int (zI r27)]) rfl ?_
    refine x_istore (lv' := [(6, .int (zI r27)), (5, .int (zI (t_cipherAt σ ((xs (i + 1)).toInt) ((xs (i + 2)).toInt)))), (4, .int (zI (i : Int))), (3, .ref ou), (2, .ref md), (1, .ref xa), (0, .ref b)]) C dL_law_848 (by decide) rfl ?_
    refine x_aload_n C dL_law_850 rfl 4 rfl ?_
    have hM0 := hM
    obtain ⟨fo9, cm9, Ci9, Su9, A9, hY9⟩ := hM
    refine x_callV (n := 0) (ci := 10) (Cn := RX9) (T := TX9) (N := 29) (cc9 := cells + 2) (ss9 := slots + 12) (rest := []) C dL_law_851 (c_X9_thrown (kxL E) C.st G z μ25 _ _ n _ _ _ _ _ _ hY9) gL_law_X9_thrown rfl (by decide +kernel) ⟨(Nat.le_of_ble_eq_true rfl), (Nat.le_of_ble_eq_true rfl)⟩ rfl hY9.ob rfl rfl (Nat.le_of_ble_eq_true rfl) rfl rfl ⟨by omega, by omega⟩ nX_no (fun v30 μ31 hv32 => ?_)
    obtain ⟨r33, hw36, h34, hm35⟩ := hv32
    subst hw36
    rw [hm35]
    have hM := hM0
    refine x_stk (stk' := [.int (zI (t_cipherAt σ ((xs (i + 1)).toInt) ((xs (i + 2)).toInt)))]) (by rw [h34]; rfl) ?_
    refine x_iload C dL_law_854 1 rfl ?_
    refine z_icmp_eq (tgt := 861) C dL_law_856 (by decide) (rg_of (by omega) (by omega)) (rg_of (by omega) (by omega)) (fun c_37 => ?_) (fun c_37 => ?_)
    · refine x_iload C dL_law_861 1 rfl ?_
      refine z_if_ne (tgt := 878) C dL_law_863 (by decide) (rg_of (by omega) (by omega)) (fun c_38 => ?_) (fun c_38 => ?_)
      · refine x_goto (tgt := 1801) C dL_law_878 (by decide) ?_
        refine x_sub (lv' := [(4, .int (zI (i : Int))), (3, .ref ou), (2, .ref md), (1, .ref xa), (0, .ref b)]) [2, 3, 4, 5, 6] rfl ?_
        exact x_wid (by omega) (by omega) (kk _ _ _ hC.mono hM hOJ hK.mono)
      · exfalso; omega
    · refine z_iconst C dL_law_859 ?_
      exfalso; omega
set_option maxHeartbeats 4000000 in
set_option maxRecDepth 100000 in
theorem law_pass {E : EE} {G : GG} {z b L : Nat} {xs : Nat → Int32} (C : Cx E G z cL_law RL wsL_law room_1 7) (hX : Sc E b L xs) {cells slots : Nat} (hcs : cells + 64 ≤ room_1.cells ∧ slots + 256 ≤ room_1.slots) {μ : Mm} {i n : Nat} (hi : i + 5 ≤ L) (hn5 : n < 512) {xa md ou : Nat} {σ : SS} {tm : Int} (hC : RepC G z μ xa σ n) (hM : RepM G μ md σ tm) (hOJ : OJx G μ ou) (hK : Kv σ n) (kk : ∀ (μ' : Mm) (σ' : SS) (tm' : Int), RepC G z μ' xa σ' (n + 1) → RepM G μ' md σ' tm' → OJx G μ' ou → Kv σ' (n + 1) → Wx E G (cells + 8) (slots + 64) 1801 [(4, .int (zI (i : Int))), (3, .ref ou), (2, .ref md), (1, .ref xa), (0, .ref b)] [] μ') : Wx E G cells slots 881 [(4, .int (zI (i : Int))), (3, .ref ou), (2, .ref md), (1, .ref xa), (0, .ref b)] [] μ := by
  have hL4 := hX.2.2.2
  have hi23 := hK.1.n23
  refine x_aload_n C dL_law_881 rfl 3 rfl ?_
  refine x_aload_n C dL_law_882 rfl 4 rfl ?_
  refine x_iload C dL_law_883 0 rfl ?_
  refine z_iconst C dL_law_885 ?_
  refine z_iadd C dL_law_886 rfl ?_
  refine z_sld C hX (i + 1) dL_law_887 (by omega) (by omega) ?_
  have hz1 := zI_rg (xs (i + 1))
  unfold rg at hz1
  refine x_aload_n C dL_law_888 rfl 1 rfl ?_
  refine x_callSX (n := 3) (cc9 := cells + 1) (ss9 := slots + 6) (rest := []) C dL_law_889 (c_L_pass (kxL E) C.st G z μ xa md ou σ n tm ((xs (i + 1)).toInt) hC hM hOJ hK hn5 (by omega)) gL_law_L_pass rfl (by decide +kernel) ⟨(Nat.le_of_ble_eq_true rfl), (Nat.le_of_ble_eq_true rfl)⟩ rfl rfl (Nat.le_of_ble_eq_true rfl) rfl rfl ⟨by omega, by omega⟩ nX_no (fun v2 μ3 hv4 => ?_)
  obtain ⟨r5, hw6, hM, hcase⟩ := hv4
  subst hw6
  have htr : 0 ≤ t_pass σ ((xs (i + 1)).toInt) ∧ t_pass σ ((xs (i + 1)).toInt) ≤ 3 := by (unfold t_pass; (repeat split) <;> omega)
  rcases hcase with ⟨hk0, ht0, hC, hOJ⟩ | ⟨ht, hk, hC, hOJ⟩
  · refine x_stk (stk' := [.int (zI 0)]) (by rw [hk0]; rfl) ?_
    refine x_istore (lv' := [(5, .int (zI 0)), (4, .int (zI (i : Int))), (3, .ref ou), (2, .ref md), (1, .ref xa), (0, .ref b)]) C dL_law_892 (by decide) rfl ?_
    refine x_aload_n C dL_law_894 rfl 3 rfl ?_
    refine x_aload_n C dL_law_895 rfl 5 rfl ?_
    refine x_iload C dL_law_896 1 rfl ?_
    refine z_iconst C dL_law_898 ?_
    refine z_iadd C dL_law_899 rfl ?_
    refine z_sld C hX (i + 1) dL_law_900 (by omega) (by omega) ?_
    obtain ⟨fo9, cm9, Ci9, Su9, A9, hY9⟩ := hM
    refine x_callV (n := 1) (ci := 10) (Cn := RX9) (T := TX9) (N := 29) (cc9 := cells + 1) (ss9 := slots + 6) (rest := []) C dL_law_901 (c_X9_pass (kxL E) C.st G z μ3 _ σ n _ _ _ _ _ _ ((xs (i + 1)).toInt) hY9 hK.1 hK.2 (by omega)) gL_law_X9_pass rfl (by decide +kernel) ⟨(Nat.le_of_ble_eq_true rfl), (Nat.le_of_ble_eq_true rfl)⟩ rfl hY9.ob rfl rfl (Nat.le_of_ble_eq_true rfl) rfl rfl ⟨by omega, by omega⟩ nX_no (fun v7 μ8 hv9 => ?_)
    obtain ⟨r10, hw12, hmr, hF9⟩ := hv9
    subst hw12
    have hC : RepC G z μ8 xa (n_pass σ ((xs (i + 1)).toInt)) n := hF9.repc hC
    have hOJ : OJ G μ8 ou ((zI (b_pass σ ((xs (i + 1)).toInt) (σ 12 0).toNat)).toInt64) := hF9.oj hOJ
    obtain ⟨hr6, hM⟩ : r10 = b_pass σ ((xs (i + 1)).toInt) (σ 12 0).toNat ∧ RepM G μ8 md (n_pass σ ((xs (i + 1)).toInt)) 0 := by (rcases hmr with ⟨a1, a2, a3⟩ | ⟨a1, a2⟩; exact ⟨a2, a3⟩; exact absurd ht0 a1)
    refine x_stk (stk' := [.int (zI r10)]) rfl ?_
    refine x_istore (lv' := [(6, .int (zI r10)), (5, .int (zI 0)), (4, .int (zI (i : Int))), (3, .ref ou), (2, .ref md), (1, .ref xa), (0, .ref b)]) C dL_law_904 (by decide) rfl ?_
    refine x_aload_n C dL_law_906 rfl 4 rfl ?_
    have hM0 := hM
    obtain ⟨fo9, cm9, Ci9, Su9, A9, hY9⟩ := hM
    refine x_callV (n := 0) (ci := 10) (Cn := RX9) (T := TX9) (N := 29) (cc9 := cells + 1) (ss9 := slots + 6) (rest := []) C dL_law_907 (c_X9_thrown (kxL E) C.st G z μ8 _ _ n _ _ _ _ _ _ hY9) gL_law_X9_thrown rfl (by decide +kernel) ⟨(Nat.le_of_ble_eq_true rfl), (Nat.le_of_ble_eq_true rfl)⟩ rfl hY9.ob rfl rfl (Nat.le_of_ble_eq_true rfl) rfl rfl ⟨by omega, by omega⟩ nX_no (fun v13 μ14 hv15 => ?_)
    obtain ⟨r16, hw19, h17, hm18⟩ := hv15
    subst hw19
    rw [hm18]
    have hM := hM0
    refine x_stk (stk' := [.int (zI 0)]) (by rw [h17]; rfl) ?_
    refine x_iload C dL_law_910 1 rfl ?_
    refine z_icmp_eq (tgt := 917) C dL_law_912 (by decide) (rg_of (by omega) (by omega)) (rg_of (by omega) (by omega)) (fun c_20 => ?_) (fun c_20 => ?_)
    · refine x_iload C dL_law_917 1 rfl ?_
      refine z_if_ne (tgt := 934) C dL_law_919 (by decide) (rg_of (by omega) (by omega)) (fun c_21 => ?_) (fun c_21 => ?_)
      · exfalso; omega
      · refine x_aload_n C dL_law_922 rfl 3 rfl ?_
        refine z_iconst C dL_law_923 ?_
        refine z_lald C dL_law_924 hOJ ?_
        refine x_iload C dL_law_925 0 rfl ?_
        refine z_i2l C dL_law_927 ?_
        refine z_lsame C dL_law_928 (by rw [hr6]) ?_
        refine x_stk (stk' := [.int (zI 0)]) rfl ?_
        refine z_if_eq (tgt := 934) C dL_law_929 (by decide) (rg_of (by omega) (by omega)) (fun c_22 => ?_) (fun c_22 => ?_)
        · refine x_goto (tgt := 1801) C dL_law_934 (by decide) ?_
          refine x_sub (lv' := [(4, .int (zI (i : Int))), (3, .ref ou), (2, .ref md), (1, .ref xa), (0, .ref b)]) [2, 3, 4, 5, 6] rfl ?_
          exact x_wid (by omega) (by omega) (kk _ _ _ hC.mono hM hOJ.x (Kv_pass hK ht0).mono)
        · exfalso; omega
    · exfalso; omega
  · refine x_stk (stk' := [.int (zI (t_pass σ ((xs (i + 1)).toInt)))]) (by rw [hk]; rfl) ?_
    refine x_istore (lv' := [(5, .int (zI (t_pass σ ((xs (i + 1)).toInt)))), (4, .int (zI (i : Int))), (3, .ref ou), (2, .ref md), (1, .ref xa), (0, .ref b)]) C dL_law_892 (by decide) rfl ?_
    refine x_aload_n C dL_law_894 rfl 3 rfl ?_
    refine x_aload_n C dL_law_895 rfl 5 rfl ?_
    refine x_iload C dL_law_896 1 rfl ?_
    refine z_iconst C dL_law_898 ?_
    refine z_iadd C dL_law_899 rfl ?_
    refine z_sld C hX (i + 1) dL_law_900 (by omega) (by omega) ?_
    obtain ⟨fo9, cm9, Ci9, Su9, A9, hY9⟩ := hM
    refine x_callV (n := 1) (ci := 10) (Cn := RX9) (T := TX9) (N := 29) (cc9 := cells + 1) (ss9 := slots + 6) (rest := []) C dL_law_901 (c_X9_pass (kxL E) C.st G z μ3 _ σ n _ _ _ _ _ _ ((xs (i + 1)).toInt) hY9 hK.1 hK.2 (by omega)) gL_law_X9_pass rfl (by decide +kernel) ⟨(Nat.le_of_ble_eq_true rfl), (Nat.le_of_ble_eq_true rfl)⟩ rfl hY9.ob rfl rfl (Nat.le_of_ble_eq_true rfl) rfl rfl ⟨by omega, by omega⟩ nX_no (fun v23 μ24 hv25 => ?_)
    obtain ⟨r26, hw28, hmr, hF9⟩ := hv25
    subst hw28
    have hC : RepC G z μ24 xa σ n := hF9.repc hC
    have hOJ : OJx G μ24 ou := hF9.ojx hOJ
    have hM : RepM G μ24 md σ (t_pass σ ((xs (i + 1)).toInt)) := by (rcases hmr with ⟨a1, a2, a3⟩ | ⟨a1, a2⟩; exact absurd a1 ht; exact a2)
    refine x_stk (stk' := [.int (zI r26)]) rfl ?_
    refine x_istore (lv' := [(6, .int (zI r26)), (5, .int (zI (t_pass σ ((xs (i + 1)).toInt)))), (4, .int (zI (i : Int))), (3, .ref ou), (2, .ref md), (1, .ref xa), (0, .ref b)]) C dL_law_904 (by decide) rfl ?_
    refine x_aload_n C dL_law_906 rfl 4 rfl ?_
    have hM0 := hM
    obtain ⟨fo9, cm9, Ci9, Su9, A9, hY9⟩ := hM
    refine x_callV (n := 0) (ci := 10) (Cn := RX9) (T := TX9) (N := 29) (cc9 := cells + 1) (ss9 := slots + 6) (rest := []) C dL_law_907 (c_X9_thrown (kxL E) C.st G z μ24 _ _ n _ _ _ _ _ _ hY9) gL_law_X9_thrown rfl (by decide +kernel) ⟨(Nat.le_of_ble_eq_true rfl), (Nat.le_of_ble_eq_true rfl)⟩ rfl hY9.ob rfl rfl (Nat.le_of_ble_eq_true rfl) rfl rfl ⟨by omega, by omega⟩ nX_no (fun v29 μ30 hv31 => ?_)
    obtain ⟨r32, hw35, h33, hm34⟩ := hv31
    subst hw35
    rw [hm34]
    have hM := hM0
    refine x_stk (stk' := [.int (zI (t_pass σ ((xs (i + 1)).toInt)))]) (by rw [h33]; rfl) ?_
    refine x_iload C dL_law_910 1 rfl ?_
    refine z_icmp_eq (tgt := 917) C dL_law_912 (by decide) (rg_of (by omega) (by omega)) (rg_of (by omega) (by omega)) (fun c_36 => ?_) (fun c_36 => ?_)
    · refine x_iload C dL_law_917 1 rfl ?_
      refine z_if_ne (tgt := 934) C dL_law_919 (by decide) (rg_of (by omega) (by omega)) (fun c_37 => ?_) (fun c_37 => ?_)
      · refine x_goto (tgt := 1801) C dL_law_934 (by decide) ?_
        refine x_sub (lv' := [(4, .int (zI (i : Int))), (3, .ref ou), (2, .ref md), (1, .ref xa), (0, .ref b)]) [2, 3, 4, 5, 6] rfl ?_
        exact x_wid (by omega) (by omega) (kk _ _ _ hC.mono hM hOJ hK.mono)
      · exfalso; omega
    · refine z_iconst C dL_law_915 ?_
      exfalso; omega
set_option maxHeartbeats 4000000 in
set_option maxRecDepth 100000 in
theorem law_now {E : EE} {G : GG} {z b L : Nat} {xs : Nat → Int32} (C : Cx E G z cL_law RL wsL_law room_1 7) (hX : Sc E b L xs) {cells slots : Nat} (hcs : cells + 64 ≤ room_1.cells ∧ slots + 256 ≤ room_1.slots) {μ : Mm} {i n : Nat} (hi : i + 5 ≤ L) (hn5 : n < 512) {xa md ou : Nat} {σ : SS} {tm : Int} (hC : RepC G z μ xa σ n) (hM : RepM G μ md σ tm) (hOJ : OJx G μ ou) (hK : Kv σ n) (kk : ∀ (μ' : Mm) (σ' : SS) (tm' : Int), RepC G z μ' xa σ' (n + 1) → RepM G μ' md σ' tm' → OJx G μ' ou → Kv σ' (n + 1) → Wx E G (cells + 8) (slots + 64) 1801 [(4, .int (zI (i : Int))), (3, .ref ou), (2, .ref md), (1, .ref xa), (0, .ref b)] [] μ') : Wx E G cells slots 937 [(4, .int (zI (i : Int))), (3, .ref ou), (2, .ref md), (1, .ref xa), (0, .ref b)] [] μ := by
  have hL4 := hX.2.2.2
  have hi23 := hK.1.n23
  refine x_aload_n C dL_law_937 rfl 3 rfl ?_
  refine x_callV (n := 0) (ci := 9) (Cn := RX8) (T := TX8) (N := 10) (cc9 := cells) (ss9 := slots) (rest := []) C dL_law_938 (c_X8_now (kxL E) C.st G z μ xa σ n hC hK.1) gL_law_X8_now rfl (by decide +kernel) ⟨(Nat.le_of_ble_eq_true rfl), (Nat.le_of_ble_eq_true rfl)⟩ rfl hC.ob rfl rfl (Nat.le_of_ble_eq_true rfl) rfl rfl ⟨by omega, by omega⟩ nX_no (fun v1 μ2 hv3 => ?_)
  obtain ⟨r4, hw6, h5, hm7⟩ := hv3
  subst hw6
  rw [hm7]
  refine x_stk (stk' := [.int (zI r4)]) rfl ?_
  refine x_aload_n C dL_law_941 rfl 2 rfl ?_
  obtain ⟨fo9, cm9, Ci9, Su9, A9, hY9⟩ := hM
  refine x_callV (n := 0) (ci := 10) (Cn := RX9) (T := TX9) (N := 29) (cc9 := cells) (ss9 := slots) (rest := [.int (zI r4)]) C dL_law_942 (c_X9_now (kxL E) C.st G z μ _ σ n _ _ _ _ _ _ hY9 hK.1) gL_law_X9_now rfl (by decide +kernel) ⟨(Nat.le_of_ble_eq_true rfl), (Nat.le_of_ble_eq_true rfl)⟩ rfl hY9.ob rfl rfl (Nat.le_of_ble_eq_true rfl) rfl rfl ⟨by omega, by omega⟩ nX_no (fun v8 μ9 hv10 => ?_)
  obtain ⟨r11, hw13, hmr, hF9⟩ := hv10
  subst hw13
  have hC : RepC G z μ9 xa σ n := hF9.repc hC
  have hOJ : OJx G μ9 ou := hF9.ojx hOJ
  obtain ⟨hr6, hM⟩ := hmr
  refine x_stk (stk' := [.int (zI r11), .int (zI r4)]) rfl ?_
  refine z_icmp_eq (tgt := 1801) C dL_law_945 (by decide) (rg_of (by omega) (by omega)) (rg_of (by omega) (by omega)) (fun c_14 => ?_) (fun c_14 => ?_)
  · exact x_wid (by omega) (by omega) (kk _ _ _ hC.mono hM hOJ hK.mono)
  · refine z_iconst C dL_law_948 ?_
    exfalso; omega
set_option maxHeartbeats 4000000 in
set_option maxRecDepth 100000 in
theorem law_addWalker {E : EE} {G : GG} {z b L : Nat} {xs : Nat → Int32} (C : Cx E G z cL_law RL wsL_law room_1 7) (hX : Sc E b L xs) {cells slots : Nat} (hcs : cells + 64 ≤ room_1.cells ∧ slots + 256 ≤ room_1.slots) {μ : Mm} {i n : Nat} (hi : i + 5 ≤ L) (hn5 : n < 512) {xa md ou : Nat} {σ : SS} {tm : Int} (hC : RepC G z μ xa σ n) (hM : RepM G μ md σ tm) (hOJ : OJx G μ ou) (hK : Kv σ n) (kk : ∀ (μ' : Mm) (σ' : SS) (tm' : Int), RepC G z μ' xa σ' (n + 1) → RepM G μ' md σ' tm' → OJx G μ' ou → Kv σ' (n + 1) → Wx E G (cells + 8) (slots + 64) 1801 [(4, .int (zI (i : Int))), (3, .ref ou), (2, .ref md), (1, .ref xa), (0, .ref b)] [] μ') : Wx E G cells slots 950 [(4, .int (zI (i : Int))), (3, .ref ou), (2, .ref md), (1, .ref xa), (0, .ref b)] [] μ := by
  have hL4 := hX.2.2.2
  have hi23 := hK.1.n23
  refine x_aload_n C dL_law_950 rfl 3 rfl ?_
  refine x_aload_n C dL_law_951 rfl 4 rfl ?_
  refine x_iload C dL_law_952 0 rfl ?_
  refine z_iconst C dL_law_954 ?_
  refine z_iadd C dL_law_955 rfl ?_
  refine z_sld C hX (i + 1) dL_law_956 (by omega) (by omega) ?_
  have hz1 := zI_rg (xs (i + 1))
  unfold rg at hz1
  refine x_aload_n C dL_law_957 rfl 4 rfl ?_
  refine x_iload C dL_law_958 0 rfl ?_
  refine z_iconst C dL_law_960 ?_
  refine z_iadd C dL_law_961 rfl ?_
  refine z_sld C hX (i + 2) dL_law_962 (by omega) (by omega) ?_
  have hz2 := zI_rg (xs (i + 2))
  unfold rg at hz2
  refine x_aload_n C dL_law_963 rfl 1 rfl ?_
  refine x_callSX (n := 4) (cc9 := cells + 5) (ss9 := slots + 50) (rest := []) C dL_law_964 (c_L_addWalker (kxL E) C.st G z μ xa md ou σ n tm ((xs (i + 1)).toInt) ((xs (i + 2)).toInt) hC hM hOJ hK hn5 (by omega) (by omega)) gL_law_L_addWalker rfl (by decide +kernel) ⟨(Nat.le_of_ble_eq_true rfl), (Nat.le_of_ble_eq_true rfl)⟩ rfl rfl (Nat.le_of_ble_eq_true rfl) rfl rfl ⟨by omega, by omega⟩ nX_no (fun v3 μ4 hv5 => ?_)
  obtain ⟨r6, hw7, hM, hcase⟩ := hv5
  subst hw7
  have htr : 0 ≤ t_addWalker σ ((xs (i + 1)).toInt) ((xs (i + 2)).toInt) ∧ t_addWalker σ ((xs (i + 1)).toInt) ((xs (i + 2)).toInt) ≤ 3 := by (unfold t_addWalker; (repeat split) <;> omega)
  rcases hcase with ⟨hk0, ht0, hC, hOJ⟩ | ⟨ht, hk, hC, hOJ⟩
  · refine x_stk (stk' := [.int (zI 0)]) (by rw [hk0]; rfl) ?_
    refine x_istore (lv' := [(5, .int (zI 0)), (4, .int (zI (i : Int))), (3, .ref ou), (2, .ref md), (1, .ref xa), (0, .ref b)]) C dL_law_967 (by decide) rfl ?_
    refine x_aload_n C dL_law_969 rfl 3 rfl ?_
    refine x_aload_n C dL_law_970 rfl 5 rfl ?_
    refine x_iload C dL_law_971 1 rfl ?_
    refine z_iconst C dL_law_973 ?_
    refine z_iadd C dL_law_974 rfl ?_
    refine z_sld C hX (i + 1) dL_law_975 (by omega) (by omega) ?_
    refine x_aload_n C dL_law_976 rfl 5 rfl ?_
    refine x_iload C dL_law_977 1 rfl ?_
    refine z_iconst C dL_law_979 ?_
    refine z_iadd C dL_law_980 rfl ?_
    refine z_sld C hX (i + 2) dL_law_981 (by omega) (by omega) ?_
    obtain ⟨fo9, cm9, Ci9, Su9, A9, hY9⟩ := hM
    refine x_callV (n := 2) (ci := 10) (Cn := RX9) (T := TX9) (N := 29) (cc9 := cells + 5) (ss9 := slots + 50) (rest := []) C dL_law_982 (c_X9_addWalker (kxL E) C.st G z μ4 _ σ n _ _ _ _ _ _ ((xs (i + 1)).toInt) ((xs (i + 2)).toInt) hY9 hK.1 (by omega) (by omega)) gL_law_X9_addWalker rfl (by decide +kernel) ⟨(Nat.le_of_ble_eq_true rfl), (Nat.le_of_ble_eq_true rfl)⟩ rfl hY9.ob rfl rfl (Nat.le_of_ble_eq_true rfl) rfl rfl ⟨by omega, by omega⟩ nX_no (fun v8 μ9 hv10 => ?_)
    obtain ⟨r11, hw13, hmr, hF9⟩ := hv10
    subst hw13
    have hC : RepC G z μ9 xa (n_addWalker σ ((xs (i + 1)).toInt) ((xs (i + 2)).toInt)) n := hF9.repc hC
    have hOJ : OJ G μ9 ou ((zI (σ 12 0)).toInt64) := hF9.oj hOJ
    obtain ⟨hr6, hM⟩ : r11 = σ 12 0 ∧ RepM G μ9 md (n_addWalker σ ((xs (i + 1)).toInt) ((xs (i + 2)).toInt)) 0 := by (rcases hmr with ⟨a1, a2, a3⟩ | ⟨a1, a2⟩; exact ⟨a2, a3⟩; exact absurd ht0 a1)
    refine x_stk (stk' := [.int (zI r11)]) rfl ?_
    refine x_istore (lv' := [(6, .int (zI r11)), (5, .int (zI 0)), (4, .int (zI (i : Int))), (3, .ref ou), (2, .ref md), (1, .ref xa), (0, .ref b)]) C dL_law_985 (by decide) rfl ?_
    refine x_aload_n C dL_law_987 rfl 4 rfl ?_
    have hM0 := hM
    obtain ⟨fo9, cm9, Ci9, Su9, A9, hY9⟩ := hM
    refine x_callV (n := 0) (ci := 10) (Cn := RX9) (T := TX9) (N := 29) (cc9 := cells + 5) (ss9 := slots + 50) (rest := []) C dL_law_988 (c_X9_thrown (kxL E) C.st G z μ9 _ _ n _ _ _ _ _ _ hY9) gL_law_X9_thrown rfl (by decide +kernel) ⟨(Nat.le_of_ble_eq_true rfl), (Nat.le_of_ble_eq_true rfl)⟩ rfl hY9.ob rfl rfl (Nat.le_of_ble_eq_true rfl) rfl rfl ⟨by omega, by omega⟩ nX_no (fun v14 μ15 hv16 => ?_)
    obtain ⟨r17, hw20, h18, hm19⟩ := hv16
    subst hw20
    rw [hm19]
    have hM := hM0
    refine x_stk (stk' := [.int (zI 0)]) (by rw [h18]; rfl) ?_
    refine x_iload C dL_law_991 1 rfl ?_
    refine z_icmp_eq (tgt := 998) C dL_law_993 (by decide) (rg_of (by omega) (by omega)) (rg_of (by omega) (by omega)) (fun c_21 => ?_) (fun c_21 => ?_)
    · refine x_iload C dL_law_998 1 rfl ?_
      refine z_if_ne (tgt := 1015) C dL_law_1000 (by decide) (rg_of (by omega) (by omega)) (fun c_22 => ?_) (fun c_22 => ?_)
      · exfalso; omega
      · refine x_aload_n C dL_law_1003 rfl 3 rfl ?_
        refine z_iconst C dL_law_1004 ?_
        refine z_lald C dL_law_1005 hOJ ?_
        refine x_iload C dL_law_1006 0 rfl ?_
        refine z_i2l C dL_law_1008 ?_
        refine z_lsame C dL_law_1009 (by rw [hr6]) ?_
        refine x_stk (stk' := [.int (zI 0)]) rfl ?_
        refine z_if_eq (tgt := 1015) C dL_law_1010 (by decide) (rg_of (by omega) (by omega)) (fun c_23 => ?_) (fun c_23 => ?_)
        · refine x_goto (tgt := 1801) C dL_law_1015 (by decide) ?_
          refine x_sub (lv' := [(4, .int (zI (i : Int))), (3, .ref ou), (2, .ref md), (1, .ref xa), (0, .ref b)]) [2, 3, 4, 5, 6] rfl ?_
          exact x_wid (by omega) (by omega) (kk _ _ _ hC.mono hM hOJ.x (Kv_addWalker hK ht0).mono)
        · exfalso; omega
    · exfalso; omega
  · refine x_stk (stk' := [.int (zI (t_addWalker σ ((xs (i + 1)).toInt) ((xs (i + 2)).toInt)))]) (by rw [hk]; rfl) ?_
    refine x_istore (lv' := [(5, .int (zI (t_addWalker σ ((xs (i + 1)).toInt) ((xs (i + 2)).toInt)))), (4, .int (zI (i : Int))), (3, .ref ou), (2, .ref md), (1, .ref xa), (0, .ref b)]) C dL_law_967 (by decide) rfl ?_
    refine x_aload_n C dL_law_969 rfl 3 rfl ?_
    refine x_aload_n C dL_law_970 rfl 5 rfl ?_
    refine x_iload C dL_law_971 1 rfl ?_
    refine z_iconst C dL_law_973 ?_
    refine z_iadd C dL_law_974 rfl ?_
    refine z_sld C hX (i + 1) dL_law_975 (by omega) (by omega) ?_
    refine x_aload_n C dL_law_976 rfl 5 rfl ?_
    refine x_iload C dL_law_977 1 rfl ?_
    refine z_iconst C dL_law_979 ?_
    refine z_iadd C dL_law_980 rfl ?_
    refine z_sld C hX (i + 2) dL_law_981 (by omega) (by omega) ?_
    obtain ⟨fo9, cm9, Ci9, Su9, A9, hY9⟩ := hM
    refine x_callV (n := 2) (ci := 10) (Cn := RX9) (T := TX9) (N := 29) (cc9 := cells + 5) (ss9 := slots + 50) (rest := []) C dL_law_982 (c_X9_addWalker (kxL E) C.st G z μ4 _ σ n _ _ _ _ _ _ ((xs (i + 1)).toInt) ((xs (i + 2)).toInt) hY9 hK.1 (by omega) (by omega)) gL_law_X9_addWalker rfl (by decide +kernel) ⟨(Nat.le_of_ble_eq_true rfl), (Nat.le_of_ble_eq_true rfl)⟩ rfl hY9.ob rfl rfl (Nat.le_of_ble_eq_true rfl) rfl rfl ⟨by omega, by omega⟩ nX_no (fun v24 μ25 hv26 => ?_)
    obtain ⟨r27, hw29, hmr, hF9⟩ := hv26
    subst hw29
    have hC : RepC G z μ25 xa σ n := hF9.repc hC
    have hOJ : OJx G μ25 ou := hF9.ojx hOJ
    have hM : RepM G μ25 md σ (t_addWalker σ ((xs (i + 1)).toInt) ((xs (i + 2)).toInt)) := by (rcases hmr with ⟨a1, a2, a3⟩ | ⟨a1, a2⟩; exact absurd a1 ht; exact a2)
    refine x_stk (stk' := [.int (zI r27)]) rfl ?_
    refine x_istore (lv' := [(6, .int (zI r27)), (5, .int (zI (t_addWalker σ ((xs (i + 1)).toInt) ((xs (i + 2)).toInt)))), (4, .int (zI (i : Int))), (3, .ref ou), (2, .ref md), (1, .ref xa), (0, .ref b)]) C dL_law_985 (by decide) rfl ?_
    refine x_aload_n C dL_law_987 rfl 4 rfl ?_
    have hM0 := hM
    obtain ⟨fo9, cm9, Ci9, Su9, A9, hY9⟩ := hM
    refine x_callV (n := 0) (ci := 10) (Cn := RX9) (T := TX9) (N := 29) (cc9 := cells + 5) (ss9 := slots + 50) (rest := []) C dL_law_988 (c_X9_thrown (kxL E) C.st G z μ25 _ _ n _ _ _ _ _ _ hY9) gL_law_X9_thrown rfl (by decide +kernel) ⟨(Nat.le_of_ble_eq_true rfl), (Nat.le_of_ble_eq_true rfl)⟩ rfl hY9.ob rfl rfl (Nat.le_of_ble_eq_true rfl) rfl rfl ⟨by omega, by omega⟩ nX_no (fun v30 μ31 hv32 => ?_)
    obtain ⟨r33, hw36, h34, hm35⟩ := hv32
    subst hw36
    rw [hm35]
    have hM := hM0
    refine x_stk (stk' := [.int (zI (t_addWalker σ ((xs (i + 1)).toInt) ((xs (i + 2)).toInt)))]) (by rw [h34]; rfl) ?_
    refine x_iload C dL_law_991 1 rfl ?_
    refine z_icmp_eq (tgt := 998) C dL_law_993 (by decide) (rg_of (by omega) (by omega)) (rg_of (by omega) (by omega)) (fun c_37 => ?_) (fun c_37 => ?_)
    · refine x_iload C dL_law_998 1 rfl ?_
      refine z_if_ne (tgt := 1015) C dL_law_1000 (by decide) (rg_of (by omega) (by omega)) (fun c_38 => ?_) (fun c_38 => ?_)
      · refine x_goto (tgt := 1801) C dL_law_1015 (by decide) ?_
        refine x_sub (lv' := [(4, .int (zI (i : Int))), (3, .ref ou), (2, .ref md), (1, .ref xa), (0, .ref b)]) [2, 3, 4, 5, 6] rfl ?_
        exact x_wid (by omega) (by omega) (kk _ _ _ hC.mono hM hOJ hK.mono)
      · exfalso; omega
    · refine z_iconst C dL_law_996 ?_
      exfalso; omega
