set_option maxHeartbeats 4000000 in
set_option maxRecDepth 100000 in
theorem law_answer {E : EE} {G : GG} {z b L : Nat} {xs : Nat → Int32} (C : Cx E G z cL_law RL wsL_law room_1 7) (hX : Sc E b L xs) {cells slots : Nat} (hcs : cells + 64 ≤ room_1.cells ∧ slots + 256 ≤ room_1.slots) {μ : Mm} {i n : Nat} (hi : i + 5 ≤ L) (hn5 : n < 512) {xa md ou : Nat} {σ : SS} {tm : Int} (hC : RepC G z μ xa σ n) (hM : RepM G μ md σ tm) (hOJ : OJx G μ ou) (hK : Kv σ n) (kk : ∀ (μ' : Mm) (σ' : SS) (tm' : Int), RepC G z μ' xa σ' (n + 1) → RepM G μ' md σ' tm' → OJx G μ' ou → Kv σ' (n + 1) → Wx E G (cells + 8) (slots + 64) 1801 [(4, .int (zI (i : Int))), (3, .ref ou), (2, .ref md), (1, .ref xa), (0, .ref b)] [] μ') : Wx E G cells slots 1453 [(4, .int (zI (i : Int))), (3, .ref ou), (2, .ref md), (1, .ref xa), (0, .ref b)] [] μ := by
  have hL4 := hX.2.2.2
  have hi23 := hK.1.n23
  refine x_aload_n C dL_law_1453 rfl 3 rfl ?_
  refine x_aload_n C dL_law_1454 rfl 4 rfl ?_
  refine x_iload C dL_law_1455 0 rfl ?_
  refine z_iconst C dL_law_1457 ?_
  refine z_iadd C dL_law_1458 rfl ?_
  refine z_sld C hX (i + 1) dL_law_1459 (by omega) (by omega) ?_
  have hz1 := zI_rg (xs (i + 1))
  unfold rg at hz1
  refine x_aload_n C dL_law_1460 rfl 4 rfl ?_
  refine x_iload C dL_law_1461 0 rfl ?_
  refine z_iconst C dL_law_1463 ?_
  refine z_iadd C dL_law_1464 rfl ?_
  refine z_sld C hX (i + 2) dL_law_1465 (by omega) (by omega) ?_
  have hz2 := zI_rg (xs (i + 2))
  unfold rg at hz2
  refine x_aload_n C dL_law_1466 rfl 1 rfl ?_
  refine x_callSX (n := 4) (cc9 := cells + 3) (ss9 := slots + 18) (rest := []) C dL_law_1467 (c_L_answer (kxL E) C.st G z μ xa md ou σ n tm ((xs (i + 1)).toInt) ((xs (i + 2)).toInt) hC hM hOJ hK hn5 (by omega) (by omega)) gL_law_L_answer rfl (by decide +kernel) ⟨(Nat.le_of_ble_eq_true rfl), (Nat.le_of_ble_eq_true rfl)⟩ rfl rfl (Nat.le_of_ble_eq_true rfl) rfl rfl ⟨by omega, by omega⟩ nX_no (fun v3 μ4 hv5 => ?_)
  obtain ⟨r6, hw7, hM, hcase⟩ := hv5
  subst hw7
  have htr : 0 ≤ t_answer σ ((xs (i + 1)).toInt) ((xs (i + 2)).toInt) ∧ t_answer σ ((xs (i + 1)).toInt) ((xs (i + 2)).toInt) ≤ 3 := by (unfold t_answer; (repeat split) <;> omega)
  rcases hcase with ⟨hk0, ht0, hC, hOJ⟩ | ⟨ht, hk, hC, hOJ⟩
  · refine x_stk (stk' := [.int (zI 0)]) (by rw [hk0]; rfl) ?_
    refine x_istore (lv' := [(5, .int (zI 0)), (4, .int (zI (i : Int))), (3, .ref ou), (2, .ref md), (1, .ref xa), (0, .ref b)]) C dL_law_1470 (by decide) rfl ?_
    refine x_aload_n C dL_law_1472 rfl 3 rfl ?_
    refine x_aload_n C dL_law_1473 rfl 5 rfl ?_
    refine x_iload C dL_law_1474 1 rfl ?_
    refine z_iconst C dL_law_1476 ?_
    refine z_iadd C dL_law_1477 rfl ?_
    refine z_sld C hX (i + 1) dL_law_1478 (by omega) (by omega) ?_
    refine x_aload_n C dL_law_1479 rfl 5 rfl ?_
    refine x_iload C dL_law_1480 1 rfl ?_
    refine z_iconst C dL_law_1482 ?_
    refine z_iadd C dL_law_1483 rfl ?_
    refine z_sld C hX (i + 2) dL_law_1484 (by omega) (by omega) ?_
    obtain ⟨fo9, cm9, Ci9, Su9, A9, hY9⟩ := hM
    refine x_callV (n := 2) (ci := 10) (Cn := RX9) (T := TX9) (N := 29) (cc9 := cells + 3) (ss9 := slots + 18) (rest := []) C dL_law_1485 (c_X9_answer (kxL E) C.st G z μ4 _ σ n _ _ _ _ _ _ ((xs (i + 1)).toInt) ((xs (i + 2)).toInt) hY9 hK.1 (by omega) (by omega) (by omega)) gL_law_X9_answer rfl (by decide +kernel) ⟨(Nat.le_of_ble_eq_true rfl), (Nat.le_of_ble_eq_true rfl)⟩ rfl hY9.ob rfl rfl (Nat.le_of_ble_eq_true rfl) rfl rfl ⟨by omega, by omega⟩ nX_no (fun v8 μ9 hv10 => ?_)
    obtain ⟨r11, hw13, hmr, hF9⟩ := hv10
    subst hw13
    have hC : RepC G z μ9 xa (n_answer σ ((xs (i + 1)).toInt) ((xs (i + 2)).toInt)) (n + 1) := hF9.repc hC
    have hOJ : OJ G μ9 ou (bJ (isWd σ ((xs (i + 2)).toInt).toNat)) := hF9.oj hOJ
    obtain ⟨hr6, hM⟩ : r11 = isWd σ ((xs (i + 2)).toInt).toNat ∧ RepM G μ9 md (n_answer σ ((xs (i + 1)).toInt) ((xs (i + 2)).toInt)) 0 := by (rcases hmr with ⟨a1, a2, a3⟩ | ⟨a1, a2⟩; exact ⟨a2, a3⟩; exact absurd ht0 a1)
    have hbr := isWd_rg σ (((xs (i + 2)).toInt)).toNat
    refine x_stk (stk' := [.int (zI r11)]) rfl ?_
    refine x_istore (lv' := [(6, .int (zI r11)), (5, .int (zI 0)), (4, .int (zI (i : Int))), (3, .ref ou), (2, .ref md), (1, .ref xa), (0, .ref b)]) C dL_law_1488 (by decide) rfl ?_
    refine x_aload_n C dL_law_1490 rfl 4 rfl ?_
    have hM0 := hM
    obtain ⟨fo9, cm9, Ci9, Su9, A9, hY9⟩ := hM
    refine x_callV (n := 0) (ci := 10) (Cn := RX9) (T := TX9) (N := 29) (cc9 := cells + 3) (ss9 := slots + 18) (rest := []) C dL_law_1491 (c_X9_thrown (kxL E) C.st G z μ9 _ _ n _ _ _ _ _ _ hY9) gL_law_X9_thrown rfl (by decide +kernel) ⟨(Nat.le_of_ble_eq_true rfl), (Nat.le_of_ble_eq_true rfl)⟩ rfl hY9.ob rfl rfl (Nat.le_of_ble_eq_true rfl) rfl rfl ⟨by omega, by omega⟩ nX_no (fun v14 μ15 hv16 => ?_)
    obtain ⟨r17, hw20, h18, hm19⟩ := hv16
    subst hw20
    rw [hm19]
    have hM := hM0
    refine x_stk (stk' := [.int (zI 0)]) (by rw [h18]; rfl) ?_
    refine x_iload C dL_law_1494 1 rfl ?_
    refine z_icmp_eq (tgt := 1501) C dL_law_1496 (by decide) (rg_of (by omega) (by omega)) (rg_of (by omega) (by omega)) (fun c_21 => ?_) (fun c_21 => ?_)
    · refine x_iload C dL_law_1501 1 rfl ?_
      refine z_if_ne (tgt := 1525) C dL_law_1503 (by decide) (rg_of (by omega) (by omega)) (fun c_22 => ?_) (fun c_22 => ?_)
      · exfalso; omega
      · refine x_aload_n C dL_law_1506 rfl 3 rfl ?_
        refine z_iconst C dL_law_1507 ?_
        refine z_lald C dL_law_1508 hOJ ?_
        refine x_iload C dL_law_1509 0 rfl ?_
        refine z_if_eq (tgt := 1518) C dL_law_1511 (by decide) (rg_of (by omega) (by omega)) (fun c_23 => ?_) (fun c_23 => ?_)
        · refine x_lconst (v := (0 : Int64)) C dL_law_1518 rfl ?_
          refine z_lsame C dL_law_1519 (by first | exact bJ0 (by omega) | exact bJ1 (by omega)) ?_
          refine x_stk (stk' := [.int (zI 0)]) rfl ?_
          refine z_if_eq (tgt := 1525) C dL_law_1520 (by decide) (rg_of (by omega) (by omega)) (fun c_24 => ?_) (fun c_24 => ?_)
          · refine x_goto (tgt := 1801) C dL_law_1525 (by decide) ?_
            refine x_sub (lv' := [(4, .int (zI (i : Int))), (3, .ref ou), (2, .ref md), (1, .ref xa), (0, .ref b)]) [2, 3, 4, 5, 6] rfl ?_
            exact x_wid (by omega) (by omega) (kk _ _ _ hC hM hOJ.x (Kv_answer hK ht0))
          · exfalso; omega
        · refine x_lconst (v := (1 : Int64)) C dL_law_1514 rfl ?_
          refine x_goto (tgt := 1519) C dL_law_1515 (by decide) ?_
          refine z_lsame C dL_law_1519 (by first | exact bJ0 (by omega) | exact bJ1 (by omega)) ?_
          refine x_stk (stk' := [.int (zI 0)]) rfl ?_
          refine z_if_eq (tgt := 1525) C dL_law_1520 (by decide) (rg_of (by omega) (by omega)) (fun c_25 => ?_) (fun c_25 => ?_)
          · refine x_goto (tgt := 1801) C dL_law_1525 (by decide) ?_
            refine x_sub (lv' := [(4, .int (zI (i : Int))), (3, .ref ou), (2, .ref md), (1, .ref xa), (0, .ref b)]) [2, 3, 4, 5, 6] rfl ?_
            exact x_wid (by omega) (by omega) (kk _ _ _ hC hM hOJ.x (Kv_answer hK ht0))
          · exfalso; omega
    · exfalso; omega
  · refine x_stk (stk' := [.int (zI (t_answer σ ((xs (i + 1)).toInt) ((xs (i + 2)).toInt)))]) (by rw [hk]; rfl) ?_
    refine x_istore (lv' := [(5, .int (zI (t_answer σ ((xs (i + 1)).toInt) ((xs (i + 2)).toInt)))), (4, .int (zI (i : Int))), (3, .ref ou), (2, .ref md), (1, .ref xa), (0, .ref b)]) C dL_law_1470 (by decide) rfl ?_
    refine x_aload_n C dL_law_1472 rfl 3 rfl ?_
    refine x_aload_n C dL_law_1473 rfl 5 rfl ?_
    refine x_iload C dL_law_1474 1 rfl ?_
    refine z_iconst C dL_law_1476 ?_
    refine z_iadd C dL_law_1477 rfl ?_
    refine z_sld C hX (i + 1) dL_law_1478 (by omega) (by omega) ?_
    refine x_aload_n C dL_law_1479 rfl 5 rfl ?_
    refine x_iload C dL_law_1480 1 rfl ?_
    refine z_iconst C dL_law_1482 ?_
    refine z_iadd C dL_law_1483 rfl ?_
    refine z_sld C hX (i + 2) dL_law_1484 (by omega) (by omega) ?_
    obtain ⟨fo9, cm9, Ci9, Su9, A9, hY9⟩ := hM
    refine x_callV (n := 2) (ci := 10) (Cn := RX9) (T := TX9) (N := 29) (cc9 := cells + 3) (ss9 := slots + 18) (rest := []) C dL_law_1485 (c_X9_answer (kxL E) C.st G z μ4 _ σ n _ _ _ _ _ _ ((xs (i + 1)).toInt) ((xs (i + 2)).toInt) hY9 hK.1 (by omega) (by omega) (by omega)) gL_law_X9_answer rfl (by decide +kernel) ⟨(Nat.le_of_ble_eq_true rfl), (Nat.le_of_ble_eq_true rfl)⟩ rfl hY9.ob rfl rfl (Nat.le_of_ble_eq_true rfl) rfl rfl ⟨by omega, by omega⟩ nX_no (fun v26 μ27 hv28 => ?_)
    obtain ⟨r29, hw31, hmr, hF9⟩ := hv28
    subst hw31
    have hC : RepC G z μ27 xa σ n := hF9.repc hC
    have hOJ : OJx G μ27 ou := hF9.ojx hOJ
    have hM : RepM G μ27 md σ (t_answer σ ((xs (i + 1)).toInt) ((xs (i + 2)).toInt)) := by (rcases hmr with ⟨a1, a2, a3⟩ | ⟨a1, a2⟩; exact absurd a1 ht; exact a2)
    refine x_stk (stk' := [.int (zI r29)]) rfl ?_
    refine x_istore (lv' := [(6, .int (zI r29)), (5, .int (zI (t_answer σ ((xs (i + 1)).toInt) ((xs (i + 2)).toInt)))), (4, .int (zI (i : Int))), (3, .ref ou), (2, .ref md), (1, .ref xa), (0, .ref b)]) C dL_law_1488 (by decide) rfl ?_
    refine x_aload_n C dL_law_1490 rfl 4 rfl ?_
    have hM0 := hM
    obtain ⟨fo9, cm9, Ci9, Su9, A9, hY9⟩ := hM
    refine x_callV (n := 0) (ci := 10) (Cn := RX9) (T := TX9) (N := 29) (cc9 := cells + 3) (ss9 := slots + 18) (rest := []) C dL_law_1491 (c_X9_thrown (kxL E) C.st G z μ27 _ _ n _ _ _ _ _ _ hY9) gL_law_X9_thrown rfl (by decide +kernel) ⟨(Nat.le_of_ble_eq_true rfl), (Nat.le_of_ble_eq_true rfl)⟩ rfl hY9.ob rfl rfl (Nat.le_of_ble_eq_true rfl) rfl rfl ⟨by omega, by omega⟩ nX_no (fun v32 μ33 hv34 => ?_)
    obtain ⟨r35, hw38, h36, hm37⟩ := hv34
    subst hw38
    rw [hm37]
    have hM := hM0
    refine x_stk (stk' := [.int (zI (t_answer σ ((xs (i + 1)).toInt) ((xs (i + 2)).toInt)))]) (by rw [h36]; rfl) ?_
    refine x_iload C dL_law_1494 1 rfl ?_
    refine z_icmp_eq (tgt := 1501) C dL_law_1496 (by decide) (rg_of (by omega) (by omega)) (rg_of (by omega) (by omega)) (fun c_39 => ?_) (fun c_39 => ?_)
    · refine x_iload C dL_law_1501 1 rfl ?_
      refine z_if_ne (tgt := 1525) C dL_law_1503 (by decide) (rg_of (by omega) (by omega)) (fun c_40 => ?_) (fun c_40 => ?_)
      · refine x_goto (tgt := 1801) C dL_law_1525 (by decide) ?_
        refine x_sub (lv' := [(4, .int (zI (i : Int))), (3, .ref ou), (2, .ref md), (1, .ref xa), (0, .ref b)]) [2, 3, 4, 5, 6] rfl ?_
        exact x_wid (by omega) (by omega) (kk _ _ _ hC.mono hM hOJ hK.mono)
      · exfalso; omega
    · refine z_iconst C dL_law_1499 ?_
      exfalso; omega
set_option maxHeartbeats 4000000 in
set_option maxRecDepth 100000 in
theorem law_tell {E : EE} {G : GG} {z b L : Nat} {xs : Nat → Int32} (C : Cx E G z cL_law RL wsL_law room_1 7) (hX : Sc E b L xs) {cells slots : Nat} (hcs : cells + 64 ≤ room_1.cells ∧ slots + 256 ≤ room_1.slots) {μ : Mm} {i n : Nat} (hi : i + 5 ≤ L) (hn5 : n < 512) {xa md ou : Nat} {σ : SS} {tm : Int} (hC : RepC G z μ xa σ n) (hM : RepM G μ md σ tm) (hOJ : OJx G μ ou) (hK : Kv σ n) (kk : ∀ (μ' : Mm) (σ' : SS) (tm' : Int), RepC G z μ' xa σ' (n + 1) → RepM G μ' md σ' tm' → OJx G μ' ou → Kv σ' (n + 1) → Wx E G (cells + 8) (slots + 64) 1801 [(4, .int (zI (i : Int))), (3, .ref ou), (2, .ref md), (1, .ref xa), (0, .ref b)] [] μ') : Wx E G cells slots 1528 [(4, .int (zI (i : Int))), (3, .ref ou), (2, .ref md), (1, .ref xa), (0, .ref b)] [] μ := by
  have hL4 := hX.2.2.2
  have hi23 := hK.1.n23
  refine x_aload_n C dL_law_1528 rfl 3 rfl ?_
  refine x_aload_n C dL_law_1529 rfl 4 rfl ?_
  refine x_iload C dL_law_1530 0 rfl ?_
  refine z_iconst C dL_law_1532 ?_
  refine z_iadd C dL_law_1533 rfl ?_
  refine z_sld C hX (i + 1) dL_law_1534 (by omega) (by omega) ?_
  have hz1 := zI_rg (xs (i + 1))
  unfold rg at hz1
  refine x_aload_n C dL_law_1535 rfl 4 rfl ?_
  refine x_iload C dL_law_1536 0 rfl ?_
  refine z_iconst C dL_law_1538 ?_
  refine z_iadd C dL_law_1539 rfl ?_
  refine z_sld C hX (i + 2) dL_law_1540 (by omega) (by omega) ?_
  have hz2 := zI_rg (xs (i + 2))
  unfold rg at hz2
  refine x_aload_n C dL_law_1541 rfl 4 rfl ?_
  refine x_iload C dL_law_1542 0 rfl ?_
  refine z_iconst C dL_law_1544 ?_
  refine z_iadd C dL_law_1545 rfl ?_
  refine z_sld C hX (i + 3) dL_law_1546 (by omega) (by omega) ?_
  have hz3 := zI_rg (xs (i + 3))
  unfold rg at hz3
  refine x_aload_n C dL_law_1547 rfl 1 rfl ?_
  refine x_callSX (n := 5) (cc9 := cells + 4) (ss9 := slots + 24) (rest := []) C dL_law_1548 (c_L_tell (kxL E) C.st G z μ xa md ou σ n tm ((xs (i + 1)).toInt) ((xs (i + 2)).toInt) ((xs (i + 3)).toInt) hC hM hOJ hK hn5 (by omega) (by omega) (by omega)) gL_law_L_tell rfl (by decide +kernel) ⟨(Nat.le_of_ble_eq_true rfl), (Nat.le_of_ble_eq_true rfl)⟩ rfl rfl (Nat.le_of_ble_eq_true rfl) rfl rfl ⟨by omega, by omega⟩ nX_no (fun v4 μ5 hv6 => ?_)
  obtain ⟨r7, hw8, hM, hcase⟩ := hv6
  subst hw8
  have htr : 0 ≤ t_tell σ ((xs (i + 1)).toInt) ((xs (i + 2)).toInt) ((xs (i + 3)).toInt) ∧ t_tell σ ((xs (i + 1)).toInt) ((xs (i + 2)).toInt) ((xs (i + 3)).toInt) ≤ 3 := by (unfold t_tell; (repeat split) <;> omega)
  rcases hcase with ⟨hk0, ht0, hC, hOJ⟩ | ⟨ht, hk, hC, hOJ⟩
  · refine x_stk (stk' := [.int (zI 0)]) (by rw [hk0]; rfl) ?_
    refine x_istore (lv' := [(5, .int (zI 0)), (4, .int (zI (i : Int))), (3, .ref ou), (2, .ref md), (1, .ref xa), (0, .ref b)]) C dL_law_1551 (by decide) rfl ?_
    refine x_aload_n C dL_law_1553 rfl 3 rfl ?_
    refine x_aload_n C dL_law_1554 rfl 5 rfl ?_
    refine x_iload C dL_law_1555 1 rfl ?_
    refine z_iconst C dL_law_1557 ?_
    refine z_iadd C dL_law_1558 rfl ?_
    refine z_sld C hX (i + 1) dL_law_1559 (by omega) (by omega) ?_
    refine x_aload_n C dL_law_1560 rfl 5 rfl ?_
    refine x_iload C dL_law_1561 1 rfl ?_
    refine z_iconst C dL_law_1563 ?_
    refine z_iadd C dL_law_1564 rfl ?_
    refine z_sld C hX (i + 2) dL_law_1565 (by omega) (by omega) ?_
    refine x_aload_n C dL_law_1566 rfl 5 rfl ?_
    refine x_iload C dL_law_1567 1 rfl ?_
    refine z_iconst C dL_law_1569 ?_
    refine z_iadd C dL_law_1570 rfl ?_
    refine z_sld C hX (i + 3) dL_law_1571 (by omega) (by omega) ?_
    obtain ⟨fo9, cm9, Ci9, Su9, A9, hY9⟩ := hM
    refine x_callV (n := 3) (ci := 10) (Cn := RX9) (T := TX9) (N := 29) (cc9 := cells + 4) (ss9 := slots + 24) (rest := []) C dL_law_1572 (c_X9_tell (kxL E) C.st G z μ5 _ σ n _ _ _ _ _ _ ((xs (i + 1)).toInt) ((xs (i + 2)).toInt) ((xs (i + 3)).toInt) hY9 hK.1 (by omega) (by omega) (by omega) (by omega)) gL_law_X9_tell rfl (by decide +kernel) ⟨(Nat.le_of_ble_eq_true rfl), (Nat.le_of_ble_eq_true rfl)⟩ rfl hY9.ob rfl rfl (Nat.le_of_ble_eq_true rfl) rfl rfl ⟨by omega, by omega⟩ nX_no (fun v9 μ10 hv11 => ?_)
    obtain ⟨r12, hw14, hmr, hF9⟩ := hv11
    subst hw14
    have hC : RepC G z μ10 xa (n_tell σ ((xs (i + 2)).toInt) ((xs (i + 3)).toInt)) (n + 1) := hF9.repc hC
    have hOJ : OJ G μ10 ou ((zI (b_tell σ ((xs (i + 2)).toInt) ((xs (i + 3)).toInt))).toInt64) := hF9.oj hOJ
    obtain ⟨hr6, hM⟩ : r12 = b_tell σ ((xs (i + 2)).toInt) ((xs (i + 3)).toInt) ∧ RepM G μ10 md (n_tell σ ((xs (i + 2)).toInt) ((xs (i + 3)).toInt)) 0 := by (rcases hmr with ⟨a1, a2, a3⟩ | ⟨a1, a2⟩; exact ⟨a2, a3⟩; exact absurd ht0 a1)
    refine x_stk (stk' := [.int (zI r12)]) rfl ?_
    refine x_istore (lv' := [(6, .int (zI r12)), (5, .int (zI 0)), (4, .int (zI (i : Int))), (3, .ref ou), (2, .ref md), (1, .ref xa), (0, .ref b)]) C dL_law_1575 (by decide) rfl ?_
    refine x_aload_n C dL_law_1577 rfl 4 rfl ?_
    have hM0 := hM
    obtain ⟨fo9, cm9, Ci9, Su9, A9, hY9⟩ := hM
    refine x_callV (n := 0) (ci := 10) (Cn := RX9) (T := TX9) (N := 29) (cc9 := cells + 4) (ss9 := slots + 24) (rest := []) C dL_law_1578 (c_X9_thrown (kxL E) C.st G z μ10 _ _ n _ _ _ _ _ _ hY9) gL_law_X9_thrown rfl (by decide +kernel) ⟨(Nat.le_of_ble_eq_true rfl), (Nat.le_of_ble_eq_true rfl)⟩ rfl hY9.ob rfl rfl (Nat.le_of_ble_eq_true rfl) rfl rfl ⟨by omega, by omega⟩ nX_no (fun v15 μ16 hv17 => ?_)
    obtain ⟨r18, hw21, h19, hm20⟩ := hv17
    subst hw21
    rw [hm20]
    have hM := hM0
    refine x_stk (stk' := [.int (zI 0)]) (by rw [h19]; rfl) ?_
    refine x_iload C dL_law_1581 1 rfl ?_
    refine z_icmp_eq (tgt := 1588) C dL_law_1583 (by decide) (rg_of (by omega) (by omega)) (rg_of (by omega) (by omega)) (fun c_22 => ?_) (fun c_22 => ?_)
    · refine x_iload C dL_law_1588 1 rfl ?_
      refine z_if_ne (tgt := 1605) C dL_law_1590 (by decide) (rg_of (by omega) (by omega)) (fun c_23 => ?_) (fun c_23 => ?_)
      · exfalso; omega
      · refine x_aload_n C dL_law_1593 rfl 3 rfl ?_
        refine z_iconst C dL_law_1594 ?_
        refine z_lald C dL_law_1595 hOJ ?_
        refine x_iload C dL_law_1596 0 rfl ?_
        refine z_i2l C dL_law_1598 ?_
        refine z_lsame C dL_law_1599 (by rw [hr6]) ?_
        refine x_stk (stk' := [.int (zI 0)]) rfl ?_
        refine z_if_eq (tgt := 1605) C dL_law_1600 (by decide) (rg_of (by omega) (by omega)) (fun c_24 => ?_) (fun c_24 => ?_)
        · refine x_goto (tgt := 1801) C dL_law_1605 (by decide) ?_
          refine x_sub (lv' := [(4, .int (zI (i : Int))), (3, .ref ou), (2, .ref md), (1, .ref xa), (0, .ref b)]) [2, 3, 4, 5, 6] rfl ?_
          exact x_wid (by omega) (by omega) (kk _ _ _ hC hM hOJ.x (Kv_tell hK ht0).mono)
        · exfalso; omega
    · exfalso; omega
  · refine x_stk (stk' := [.int (zI (t_tell σ ((xs (i + 1)).toInt) ((xs (i + 2)).toInt) ((xs (i + 3)).toInt)))]) (by rw [hk]; rfl) ?_
    refine x_istore (lv' := [(5, .int (zI (t_tell σ ((xs (i + 1)).toInt) ((xs (i + 2)).toInt) ((xs (i + 3)).toInt)))), (4, .int (zI (i : Int))), (3, .ref ou), (2, .ref md), (1, .ref xa), (0, .ref b)]) C dL_law_1551 (by decide) rfl ?_
    refine x_aload_n C dL_law_1553 rfl 3 rfl ?_
    refine x_aload_n C dL_law_1554 rfl 5 rfl ?_
    refine x_iload C dL_law_1555 1 rfl ?_
    refine z_iconst C dL_law_1557 ?_
    refine z_iadd C dL_law_1558 rfl ?_
    refine z_sld C hX (i + 1) dL_law_1559 (by omega) (by omega) ?_
    refine x_aload_n C dL_law_1560 rfl 5 rfl ?_
    refine x_iload C dL_law_1561 1 rfl ?_
    refine z_iconst C dL_law_1563 ?_
    refine z_iadd C dL_law_1564 rfl ?_
    refine z_sld C hX (i + 2) dL_law_1565 (by omega) (by omega) ?_
    refine x_aload_n C dL_law_1566 rfl 5 rfl ?_
    refine x_iload C dL_law_1567 1 rfl ?_
    refine z_iconst C dL_law_1569 ?_
    refine z_iadd C dL_law_1570 rfl ?_
    refine z_sld C hX (i + 3) dL_law_1571 (by omega) (by omega) ?_
    obtain ⟨fo9, cm9, Ci9, Su9, A9, hY9⟩ := hM
    refine x_callV (n := 3) (ci := 10) (Cn := RX9) (T := TX9) (N := 29) (cc9 := cells + 4) (ss9 := slots + 24) (rest := []) C dL_law_1572 (c_X9_tell (kxL E) C.st G z μ5 _ σ n _ _ _ _ _ _ ((xs (i + 1)).toInt) ((xs (i + 2)).toInt) ((xs (i + 3)).toInt) hY9 hK.1 (by omega) (by omega) (by omega) (by omega)) gL_law_X9_tell rfl (by decide +kernel) ⟨(Nat.le_of_ble_eq_true rfl), (Nat.le_of_ble_eq_true rfl)⟩ rfl hY9.ob rfl rfl (Nat.le_of_ble_eq_true rfl) rfl rfl ⟨by omega, by omega⟩ nX_no (fun v25 μ26 hv27 => ?_)
    obtain ⟨r28, hw30, hmr, hF9⟩ := hv27
    subst hw30
    have hC : RepC G z μ26 xa σ n := hF9.repc hC
    have hOJ : OJx G μ26 ou := hF9.ojx hOJ
    have hM : RepM G μ26 md σ (t_tell σ ((xs (i + 1)).toInt) ((xs (i + 2)).toInt) ((xs (i + 3)).toInt)) := by (rcases hmr with ⟨a1, a2, a3⟩ | ⟨a1, a2⟩; exact absurd a1 ht; exact a2)
    refine x_stk (stk' := [.int (zI r28)]) rfl ?_
    refine x_istore (lv' := [(6, .int (zI r28)), (5, .int (zI (t_tell σ ((xs (i + 1)).toInt) ((xs (i + 2)).toInt) ((xs (i + 3)).toInt)))), (4, .int (zI (i : Int))), (3, .ref ou), (2, .ref md), (1, .ref xa), (0, .ref b)]) C dL_law_1575 (by decide) rfl ?_
    refine x_aload_n C dL_law_1577 rfl 4 rfl ?_
    have hM0 := hM
    obtain ⟨fo9, cm9, Ci9, Su9, A9, hY9⟩ := hM
    refine x_callV (n := 0) (ci := 10) (Cn := RX9) (T := TX9) (N := 29) (cc9 := cells + 4) (ss9 := slots + 24) (rest := []) C dL_law_1578 (c_X9_thrown (kxL E) C.st G z μ26 _ _ n _ _ _ _ _ _ hY9) gL_law_X9_thrown rfl (by decide +kernel) ⟨(Nat.le_of_ble_eq_true rfl), (Nat.le_of_ble_eq_true rfl)⟩ rfl hY9.ob rfl rfl (Nat.le_of_ble_eq_true rfl) rfl rfl ⟨by omega, by omega⟩ nX_no (fun v31 μ32 hv33 => ?_)
    obtain ⟨r34, hw37, h35, hm36⟩ := hv33
    subst hw37
    rw [hm36]
    have hM := hM0
    refine x_stk (stk' := [.int (zI (t_tell σ ((xs (i + 1)).toInt) ((xs (i + 2)).toInt) ((xs (i + 3)).toInt)))]) (by rw [h35]; rfl) ?_
    refine x_iload C dL_law_1581 1 rfl ?_
    refine z_icmp_eq (tgt := 1588) C dL_law_1583 (by decide) (rg_of (by omega) (by omega)) (rg_of (by omega) (by omega)) (fun c_38 => ?_) (fun c_38 => ?_)
    · refine x_iload C dL_law_1588 1 rfl ?_
      refine z_if_ne (tgt := 1605) C dL_law_1590 (by decide) (rg_of (by omega) (by omega)) (fun c_39 => ?_) (fun c_39 => ?_)
      · refine x_goto (tgt := 1801) C dL_law_1605 (by decide) ?_
        refine x_sub (lv' := [(4, .int (zI (i : Int))), (3, .ref ou), (2, .ref md), (1, .ref xa), (0, .ref b)]) [2, 3, 4, 5, 6] rfl ?_
        exact x_wid (by omega) (by omega) (kk _ _ _ hC.mono hM hOJ hK.mono)
      · exfalso; omega
    · refine z_iconst C dL_law_1586 ?_
      exfalso; omega
set_option maxHeartbeats 4000000 in
set_option maxRecDepth 100000 in
theorem law_solved {E : EE} {G : GG} {z b L : Nat} {xs : Nat → Int32} (C : Cx E G z cL_law RL wsL_law room_1 7) (hX : Sc E b L xs) {cells slots : Nat} (hcs : cells + 64 ≤ room_1.cells ∧ slots + 256 ≤ room_1.slots) {μ : Mm} {i n : Nat} (hi : i + 5 ≤ L) (hn5 : n < 512) {xa md ou : Nat} {σ : SS} {tm : Int} (hC : RepC G z μ xa σ n) (hM : RepM G μ md σ tm) (hOJ : OJx G μ ou) (hK : Kv σ n) (kk : ∀ (μ' : Mm) (σ' : SS) (tm' : Int), RepC G z μ' xa σ' (n + 1) → RepM G μ' md σ' tm' → OJx G μ' ou → Kv σ' (n + 1) → Wx E G (cells + 8) (slots + 64) 1801 [(4, .int (zI (i : Int))), (3, .ref ou), (2, .ref md), (1, .ref xa), (0, .ref b)] [] μ') : Wx E G cells slots 1608 [(4, .int (zI (i : Int))), (3, .ref ou), (2, .ref md), (1, .ref xa), (0, .ref b)] [] μ := by
  have hL4 := hX.2.2.2
  have hi23 := hK.1.n23
  refine x_aload_n C dL_law_1608 rfl 3 rfl ?_
  refine x_aload_n C dL_law_1609 rfl 4 rfl ?_
  refine x_iload C dL_law_1610 0 rfl ?_
  refine z_iconst C dL_law_1612 ?_
  refine z_iadd C dL_law_1613 rfl ?_
  refine z_sld C hX (i + 1) dL_law_1614 (by omega) (by omega) ?_
  have hz1 := zI_rg (xs (i + 1))
  unfold rg at hz1
  refine x_aload_n C dL_law_1615 rfl 1 rfl ?_
  refine x_callSX (n := 3) (cc9 := cells + 1) (ss9 := slots + 6) (rest := []) C dL_law_1616 (c_L_solved (kxL E) C.st G z μ xa md ou σ n tm ((xs (i + 1)).toInt) hC hM hOJ hK hn5 (by omega)) gL_law_L_solved rfl (by decide +kernel) ⟨(Nat.le_of_ble_eq_true rfl), (Nat.le_of_ble_eq_true rfl)⟩ rfl rfl (Nat.le_of_ble_eq_true rfl) rfl rfl ⟨by omega, by omega⟩ nX_no (fun v2 μ3 hv4 => ?_)
  obtain ⟨r5, hw6, hM, hcase⟩ := hv4
  subst hw6
  have htr : 0 ≤ t_wk σ ((xs (i + 1)).toInt) ∧ t_wk σ ((xs (i + 1)).toInt) ≤ 3 := by (unfold t_wk; (repeat split) <;> omega)
  rcases hcase with ⟨hk0, ht0, hC, hOJ⟩ | ⟨ht, hk, hC, hOJ⟩
  · refine x_stk (stk' := [.int (zI 0)]) (by rw [hk0]; rfl) ?_
    refine x_istore (lv' := [(5, .int (zI 0)), (4, .int (zI (i : Int))), (3, .ref ou), (2, .ref md), (1, .ref xa), (0, .ref b)]) C dL_law_1619 (by decide) rfl ?_
    refine x_aload_n C dL_law_1621 rfl 3 rfl ?_
    refine x_aload_n C dL_law_1622 rfl 5 rfl ?_
    refine x_iload C dL_law_1623 1 rfl ?_
    refine z_iconst C dL_law_1625 ?_
    refine z_iadd C dL_law_1626 rfl ?_
    refine z_sld C hX (i + 1) dL_law_1627 (by omega) (by omega) ?_
    obtain ⟨fo9, cm9, Ci9, Su9, A9, hY9⟩ := hM
    refine x_callV (n := 1) (ci := 10) (Cn := RX9) (T := TX9) (N := 29) (cc9 := cells + 1) (ss9 := slots + 6) (rest := []) C dL_law_1628 (c_X9_solved (kxL E) C.st G z μ3 _ σ n _ _ _ _ _ _ ((xs (i + 1)).toInt) hY9 hK.1 (by omega)) gL_law_X9_solved rfl (by decide +kernel) ⟨(Nat.le_of_ble_eq_true rfl), (Nat.le_of_ble_eq_true rfl)⟩ rfl hY9.ob rfl rfl (Nat.le_of_ble_eq_true rfl) rfl rfl ⟨by omega, by omega⟩ nX_no (fun v7 μ8 hv9 => ?_)
    obtain ⟨r10, hw12, hmr, hF9⟩ := hv9
    subst hw12
    have hC : RepC G z μ8 xa (σ) n := hF9.repc hC
    have hOJ : OJ G μ8 ou ((zI (b_solved σ ((xs (i + 1)).toInt).toNat)).toInt64) := hF9.oj hOJ
    obtain ⟨hr6, hM⟩ : r10 = b_solved σ ((xs (i + 1)).toInt).toNat ∧ RepM G μ8 md (σ) 0 := by (rcases hmr with ⟨a1, a2, a3⟩ | ⟨a1, a2⟩; exact ⟨a2, a3⟩; exact absurd ht0 a1)
    refine x_stk (stk' := [.int (zI r10)]) rfl ?_
    refine x_istore (lv' := [(6, .int (zI r10)), (5, .int (zI 0)), (4, .int (zI (i : Int))), (3, .ref ou), (2, .ref md), (1, .ref xa), (0, .ref b)]) C dL_law_1631 (by decide) rfl ?_
    refine x_aload_n C dL_law_1633 rfl 4 rfl ?_
    have hM0 := hM
    obtain ⟨fo9, cm9, Ci9, Su9, A9, hY9⟩ := hM
    refine x_callV (n := 0) (ci := 10) (Cn := RX9) (T := TX9) (N := 29) (cc9 := cells + 1) (ss9 := slots + 6) (rest := []) C dL_law_1634 (c_X9_thrown (kxL E) C.st G z μ8 _ _ n _ _ _ _ _ _ hY9) gL_law_X9_thrown rfl (by decide +kernel) ⟨(Nat.le_of_ble_eq_true rfl), (Nat.le_of_ble_eq_true rfl)⟩ rfl hY9.ob rfl rfl (Nat.le_of_ble_eq_true rfl) rfl rfl ⟨by omega, by omega⟩ nX_no (fun v13 μ14 hv15 => ?_)
    obtain ⟨r16, hw19, h17, hm18⟩ := hv15
    subst hw19
    rw [hm18]
    have hM := hM0
    refine x_stk (stk' := [.int (zI 0)]) (by rw [h17]; rfl) ?_
    refine x_iload C dL_law_1637 1 rfl ?_
    refine z_icmp_eq (tgt := 1644) C dL_law_1639 (by decide) (rg_of (by omega) (by omega)) (rg_of (by omega) (by omega)) (fun c_20 => ?_) (fun c_20 => ?_)
    · refine x_iload C dL_law_1644 1 rfl ?_
      refine z_if_ne (tgt := 1661) C dL_law_1646 (by decide) (rg_of (by omega) (by omega)) (fun c_21 => ?_) (fun c_21 => ?_)
      · exfalso; omega
      · refine x_aload_n C dL_law_1649 rfl 3 rfl ?_
        refine z_iconst C dL_law_1650 ?_
        refine z_lald C dL_law_1651 hOJ ?_
        refine x_iload C dL_law_1652 0 rfl ?_
        refine z_i2l C dL_law_1654 ?_
        refine z_lsame C dL_law_1655 (by rw [hr6]) ?_
        refine x_stk (stk' := [.int (zI 0)]) rfl ?_
        refine z_if_eq (tgt := 1661) C dL_law_1656 (by decide) (rg_of (by omega) (by omega)) (fun c_22 => ?_) (fun c_22 => ?_)
        · refine x_goto (tgt := 1801) C dL_law_1661 (by decide) ?_
          refine x_sub (lv' := [(4, .int (zI (i : Int))), (3, .ref ou), (2, .ref md), (1, .ref xa), (0, .ref b)]) [2, 3, 4, 5, 6] rfl ?_
          exact x_wid (by omega) (by omega) (kk _ _ _ hC.mono hM hOJ.x hK.mono)
        · exfalso; omega
    · exfalso; omega
  · refine x_stk (stk' := [.int (zI (t_wk σ ((xs (i + 1)).toInt)))]) (by rw [hk]; rfl) ?_
    refine x_istore (lv' := [(5, .int (zI (t_wk σ ((xs (i + 1)).toInt)))), (4, .int (zI (i : Int))), (3, .ref ou), (2, .ref md), (1, .ref xa), (0, .ref b)]) C dL_law_1619 (by decide) rfl ?_
    refine x_aload_n C dL_law_1621 rfl 3 rfl ?_
    refine x_aload_n C dL_law_1622 rfl 5 rfl ?_
    refine x_iload C dL_law_1623 1 rfl ?_
    refine z_iconst C dL_law_1625 ?_
    refine z_iadd C dL_law_1626 rfl ?_
    refine z_sld C hX (i + 1) dL_law_1627 (by omega) (by omega) ?_
    obtain ⟨fo9, cm9, Ci9, Su9, A9, hY9⟩ := hM
    refine x_callV (n := 1) (ci := 10) (Cn := RX9) (T := TX9) (N := 29) (cc9 := cells + 1) (ss9 := slots + 6) (rest := []) C dL_law_1628 (c_X9_solved (kxL E) C.st G z μ3 _ σ n _ _ _ _ _ _ ((xs (i + 1)).toInt) hY9 hK.1 (by omega)) gL_law_X9_solved rfl (by decide +kernel) ⟨(Nat.le_of_ble_eq_true rfl), (Nat.le_of_ble_eq_true rfl)⟩ rfl hY9.ob rfl rfl (Nat.le_of_ble_eq_true rfl) rfl rfl ⟨by omega, by omega⟩ nX_no (fun v23 μ24 hv25 => ?_)
    obtain ⟨r26, hw28, hmr, hF9⟩ := hv25
    subst hw28
    have hC : RepC G z μ24 xa σ n := hF9.repc hC
    have hOJ : OJx G μ24 ou := hF9.ojx hOJ
    have hM : RepM G μ24 md σ (t_wk σ ((xs (i + 1)).toInt)) := by (rcases hmr with ⟨a1, a2, a3⟩ | ⟨a1, a2⟩; exact absurd a1 ht; exact a2)
    refine x_stk (stk' := [.int (zI r26)]) rfl ?_
    refine x_istore (lv' := [(6, .int (zI r26)), (5, .int (zI (t_wk σ ((xs (i + 1)).toInt)))), (4, .int (zI (i : Int))), (3, .ref ou), (2, .ref md), (1, .ref xa), (0, .ref b)]) C dL_law_1631 (by decide) rfl ?_
    refine x_aload_n C dL_law_1633 rfl 4 rfl ?_
    have hM0 := hM
    obtain ⟨fo9, cm9, Ci9, Su9, A9, hY9⟩ := hM
    refine x_callV (n := 0) (ci := 10) (Cn := RX9) (T := TX9) (N := 29) (cc9 := cells + 1) (ss9 := slots + 6) (rest := []) C dL_law_1634 (c_X9_thrown (kxL E) C.st G z μ24 _ _ n _ _ _ _ _ _ hY9) gL_law_X9_thrown rfl (by decide +kernel) ⟨(Nat.le_of_ble_eq_true rfl), (Nat.le_of_ble_eq_true rfl)⟩ rfl hY9.ob rfl rfl (Nat.le_of_ble_eq_true rfl) rfl rfl ⟨by omega, by omega⟩ nX_no (fun v29 μ30 hv31 => ?_)
    obtain ⟨r32, hw35, h33, hm34⟩ := hv31
    subst hw35
    rw [hm34]
    have hM := hM0
    refine x_stk (stk' := [.int (zI (t_wk σ ((xs (i + 1)).toInt)))]) (by rw [h33]; rfl) ?_
    refine x_iload C dL_law_1637 1 rfl ?_
    refine z_icmp_eq (tgt := 1644) C dL_law_1639 (by decide) (rg_of (by omega) (by omega)) (rg_of (by omega) (by omega)) (fun c_36 => ?_) (fun c_36 => ?_)
    · refine x_iload C dL_law_1644 1 rfl ?_
      refine z_if_ne (tgt := 1661) C dL_law_1646 (by decide) (rg_of (by omega) (by omega)) (fun c_37 => ?_) (fun c_37 => ?_)
      · refine x_goto (tgt := 1801) C dL_law_1661 (by decide) ?_
        refine x_sub (lv' := [(4, .int (zI (i : Int))), (3, .ref ou), (2, .ref md), (1, .ref xa), (0, .ref b)]) [2, 3, 4, 5, 6] rfl ?_
        exact x_wid (by omega) (by omega) (kk _ _ _ hC.mono hM hOJ hK.mono)
      · exfalso; omega
    · refine z_iconst C dL_law_1642 ?_
      exfalso; omega
set_option maxHeartbeats 4000000 in
set_option maxRecDepth 100000 in
theorem law_score {E : EE} {G : GG} {z b L : Nat} {xs : Nat → Int32} (C : Cx E G z cL_law RL wsL_law room_1 7) (hX : Sc E b L xs) {cells slots : Nat} (hcs : cells + 64 ≤ room_1.cells ∧ slots + 256 ≤ room_1.slots) {μ : Mm} {i n : Nat} (hi : i + 5 ≤ L) (hn5 : n < 512) {xa md ou : Nat} {σ : SS} {tm : Int} (hC : RepC G z μ xa σ n) (hM : RepM G μ md σ tm) (hOJ : OJx G μ ou) (hK : Kv σ n) (kk : ∀ (μ' : Mm) (σ' : SS) (tm' : Int), RepC G z μ' xa σ' (n + 1) → RepM G μ' md σ' tm' → OJx G μ' ou → Kv σ' (n + 1) → Wx E G (cells + 8) (slots + 64) 1801 [(4, .int (zI (i : Int))), (3, .ref ou), (2, .ref md), (1, .ref xa), (0, .ref b)] [] μ') : Wx E G cells slots 1664 [(4, .int (zI (i : Int))), (3, .ref ou), (2, .ref md), (1, .ref xa), (0, .ref b)] [] μ := by
  have hL4 := hX.2.2.2
  have hi23 := hK.1.n23
  refine x_aload_n C dL_law_1664 rfl 3 rfl ?_
  refine x_aload_n C dL_law_1665 rfl 4 rfl ?_
  refine x_iload C dL_law_1666 0 rfl ?_
  refine z_iconst C dL_law_1668 ?_
  refine z_iadd C dL_law_1669 rfl ?_
  refine z_sld C hX (i + 1) dL_law_1670 (by omega) (by omega) ?_
  have hz1 := zI_rg (xs (i + 1))
  unfold rg at hz1
  refine x_aload_n C dL_law_1671 rfl 1 rfl ?_
  refine x_callSX (n := 3) (cc9 := cells + 1) (ss9 := slots + 6) (rest := []) C dL_law_1672 (c_L_score (kxL E) C.st G z μ xa md ou σ n tm ((xs (i + 1)).toInt) hC hM hOJ hK hn5 (by omega)) gL_law_L_score rfl (by decide +kernel) ⟨(Nat.le_of_ble_eq_true rfl), (Nat.le_of_ble_eq_true rfl)⟩ rfl rfl (Nat.le_of_ble_eq_true rfl) rfl rfl ⟨by omega, by omega⟩ nX_no (fun v2 μ3 hv4 => ?_)
  obtain ⟨r5, hw6, hM, hcase⟩ := hv4
  subst hw6
  have htr : 0 ≤ t_wk σ ((xs (i + 1)).toInt) ∧ t_wk σ ((xs (i + 1)).toInt) ≤ 3 := by (unfold t_wk; (repeat split) <;> omega)
  rcases hcase with ⟨hk0, ht0, hC, hOJ⟩ | ⟨ht, hk, hC, hOJ⟩
  · refine x_stk (stk' := [.int (zI 0)]) (by rw [hk0]; rfl) ?_
    refine x_istore (lv' := [(5, .int (zI 0)), (4, .int (zI (i : Int))), (3, .ref ou), (2, .ref md), (1, .ref xa), (0, .ref b)]) C dL_law_1675 (by decide) rfl ?_
    refine x_aload_n C dL_law_1677 rfl 3 rfl ?_
    refine x_aload_n C dL_law_1678 rfl 5 rfl ?_
    refine x_iload C dL_law_1679 1 rfl ?_
    refine z_iconst C dL_law_1681 ?_
    refine z_iadd C dL_law_1682 rfl ?_
    refine z_sld C hX (i + 1) dL_law_1683 (by omega) (by omega) ?_
    obtain ⟨fo9, cm9, Ci9, Su9, A9, hY9⟩ := hM
    refine x_callV (n := 1) (ci := 10) (Cn := RX9) (T := TX9) (N := 29) (cc9 := cells + 1) (ss9 := slots + 6) (rest := []) C dL_law_1684 (c_X9_score (kxL E) C.st G z μ3 _ σ n _ _ _ _ _ _ ((xs (i + 1)).toInt) hY9 hK.1 (by omega) (by omega)) gL_law_X9_score rfl (by decide +kernel) ⟨(Nat.le_of_ble_eq_true rfl), (Nat.le_of_ble_eq_true rfl)⟩ rfl hY9.ob rfl rfl (Nat.le_of_ble_eq_true rfl) rfl rfl ⟨by omega, by omega⟩ nX_no (fun v7 μ8 hv9 => ?_)
    obtain ⟨r10, hw12, hmr, hF9⟩ := hv9
    subst hw12
    have hC : RepC G z μ8 xa (σ) n := hF9.repc hC
    have hOJ : OJ G μ8 ou ((zI (b_score σ ((xs (i + 1)).toInt).toNat)).toInt64) := hF9.oj hOJ
    obtain ⟨hr6, hM⟩ : r10 = b_score σ ((xs (i + 1)).toInt).toNat ∧ RepM G μ8 md (σ) 0 := by (rcases hmr with ⟨a1, a2, a3⟩ | ⟨a1, a2⟩; exact ⟨a2, a3⟩; exact absurd ht0 a1)
    refine x_stk (stk' := [.int (zI r10)]) rfl ?_
    refine x_istore (lv' := [(6, .int (zI r10)), (5, .int (zI 0)), (4, .int (zI (i : Int))), (3, .ref ou), (2, .ref md), (1, .ref xa), (0, .ref b)]) C dL_law_1687 (by decide) rfl ?_
    refine x_aload_n C dL_law_1689 rfl 4 rfl ?_
    have hM0 := hM
    obtain ⟨fo9, cm9, Ci9, Su9, A9, hY9⟩ := hM
    refine x_callV (n := 0) (ci := 10) (Cn := RX9) (T := TX9) (N := 29) (cc9 := cells + 1) (ss9 := slots + 6) (rest := []) C dL_law_1690 (c_X9_thrown (kxL E) C.st G z μ8 _ _ n _ _ _ _ _ _ hY9) gL_law_X9_thrown rfl (by decide +kernel) ⟨(Nat.le_of_ble_eq_true rfl), (Nat.le_of_ble_eq_true rfl)⟩ rfl hY9.ob rfl rfl (Nat.le_of_ble_eq_true rfl) rfl rfl ⟨by omega, by omega⟩ nX_no (fun v13 μ14 hv15 => ?_)
    obtain ⟨r16, hw19, h17, hm18⟩ := hv15
    subst hw19
    rw [hm18]
    have hM := hM0
    refine x_stk (stk' := [.int (zI 0)]) (by rw [h17]; rfl) ?_
    refine x_iload C dL_law_1693 1 rfl ?_
    refine z_icmp_eq (tgt := 1700) C dL_law_1695 (by decide) (rg_of (by omega) (by omega)) (rg_of (by omega) (by omega)) (fun c_20 => ?_) (fun c_20 => ?_)
    · refine x_iload C dL_law_1700 1 rfl ?_
      refine z_if_ne (tgt := 1717) C dL_law_1702 (by decide) (rg_of (by omega) (by omega)) (fun c_21 => ?_) (fun c_21 => ?_)
      · exfalso; omega
      · refine x_aload_n C dL_law_1705 rfl 3 rfl ?_
        refine z_iconst C dL_law_1706 ?_
        refine z_lald C dL_law_1707 hOJ ?_
        refine x_iload C dL_law_1708 0 rfl ?_
        refine z_i2l C dL_law_1710 ?_
        refine z_lsame C dL_law_1711 (by rw [hr6]) ?_
        refine x_stk (stk' := [.int (zI 0)]) rfl ?_
        refine z_if_eq (tgt := 1717) C dL_law_1712 (by decide) (rg_of (by omega) (by omega)) (fun c_22 => ?_) (fun c_22 => ?_)
        · refine x_goto (tgt := 1801) C dL_law_1717 (by decide) ?_
          refine x_sub (lv' := [(4, .int (zI (i : Int))), (3, .ref ou), (2, .ref md), (1, .ref xa), (0, .ref b)]) [2, 3, 4, 5, 6] rfl ?_
          exact x_wid (by omega) (by omega) (kk _ _ _ hC.mono hM hOJ.x hK.mono)
        · exfalso; omega
    · exfalso; omega
  · refine x_stk (stk' := [.int (zI (t_wk σ ((xs (i + 1)).toInt)))]) (by rw [hk]; rfl) ?_
    refine x_istore (lv' := [(5, .int (zI (t_wk σ ((xs (i + 1)).toInt)))), (4, .int (zI (i : Int))), (3, .ref ou), (2, .ref md), (1, .ref xa), (0, .ref b)]) C dL_law_1675 (by decide) rfl ?_
    refine x_aload_n C dL_law_1677 rfl 3 rfl ?_
    refine x_aload_n C dL_law_1678 rfl 5 rfl ?_
    refine x_iload C dL_law_1679 1 rfl ?_
    refine z_iconst C dL_law_1681 ?_
    refine z_iadd C dL_law_1682 rfl ?_
    refine z_sld C hX (i + 1) dL_law_1683 (by omega) (by omega) ?_
    obtain ⟨fo9, cm9, Ci9, Su9, A9, hY9⟩ := hM
    refine x_callV (n := 1) (ci := 10) (Cn := RX9) (T := TX9) (N := 29) (cc9 := cells + 1) (ss9 := slots + 6) (rest := []) C dL_law_1684 (c_X9_score (kxL E) C.st G z μ3 _ σ n _ _ _ _ _ _ ((xs (i + 1)).toInt) hY9 hK.1 (by omega) (by omega)) gL_law_X9_score rfl (by decide +kernel) ⟨(Nat.le_of_ble_eq_true rfl), (Nat.le_of_ble_eq_true rfl)⟩ rfl hY9.ob rfl rfl (Nat.le_of_ble_eq_true rfl) rfl rfl ⟨by omega, by omega⟩ nX_no (fun v23 μ24 hv25 => ?_)
    obtain ⟨r26, hw28, hmr, hF9⟩ := hv25
    subst hw28
    have hC : RepC G z μ24 xa σ n := hF9.repc hC
    have hOJ : OJx G μ24 ou := hF9.ojx hOJ
    have hM : RepM G μ24 md σ (t_wk σ ((xs (i + 1)).toInt)) := by (rcases hmr with ⟨a1, a2, a3⟩ | ⟨a1, a2⟩; exact absurd a1 ht; exact a2)
    refine x_stk (stk' := [.int (zI r26)]) rfl ?_
    refine x_istore (lv' := [(6, .int (zI r26)), (5, .int (zI (t_wk σ ((xs (i + 1)).toInt)))), (4, .int (zI (i : Int))), (3, .ref ou), (2, .ref md), (1, .ref xa), (0, .ref b)]) C dL_law_1687 (by decide) rfl ?_
    refine x_aload_n C dL_law_1689 rfl 4 rfl ?_
    have hM0 := hM
    obtain ⟨fo9, cm9, Ci9, Su9, A9, hY9⟩ := hM
    refine x_callV (n := 0) (ci := 10) (Cn := RX9) (T := TX9) (N := 29) (cc9 := cells + 1) (ss9 := slots + 6) (rest := []) C dL_law_1690 (c_X9_thrown (kxL E) C.st G z μ24 _ _ n _ _ _ _ _ _ hY9) gL_law_X9_thrown rfl (by decide +kernel) ⟨(Nat.le_of_ble_eq_true rfl), (Nat.le_of_ble_eq_true rfl)⟩ rfl hY9.ob rfl rfl (Nat.le_of_ble_eq_true rfl) rfl rfl ⟨by omega, by omega⟩ nX_no (fun v29 μ30 hv31 => ?_)
    obtain ⟨r32, hw35, h33, hm34⟩ := hv31
    subst hw35
    rw [hm34]
    have hM := hM0
    refine x_stk (stk' := [.int (zI (t_wk σ ((xs (i + 1)).toInt)))]) (by rw [h33]; rfl) ?_
    refine x_iload C dL_law_1693 1 rfl ?_
    refine z_icmp_eq (tgt := 1700) C dL_law_1695 (by decide) (rg_of (by omega) (by omega)) (rg_of (by omega) (by omega)) (fun c_36 => ?_) (fun c_36 => ?_)
    · refine x_iload C dL_law_1700 1 rfl ?_
      refine z_if_ne (tgt := 1717) C dL_law_1702 (by decide) (rg_of (by omega) (by omega)) (fun c_37 => ?_) (fun c_37 => ?_)
      · refine x_goto (tgt := 1801) C dL_law_1717 (by decide) ?_
        refine x_sub (lv' := [(4, .int (zI (i : Int))), (3, .ref ou), (2, .ref md), (1, .ref xa), (0, .ref b)]) [2, 3, 4, 5, 6] rfl ?_
        exact x_wid (by omega) (by omega) (kk _ _ _ hC.mono hM hOJ hK.mono)
      · exfalso; omega
    · refine z_iconst C dL_law_1698 ?_
      exfalso; omega
set_option maxHeartbeats 4000000 in
set_option maxRecDepth 100000 in
theorem law_scoreAnew {E : EE} {G : GG} {z b L : Nat} {xs : Nat → Int32} (C : Cx E G z cL_law RL wsL_law room_1 7) (hX : Sc E b L xs) {cells slots : Nat} (hcs : cells + 64 ≤ room_1.cells ∧ slots + 256 ≤ room_1.slots) {μ : Mm} {i n : Nat} (hi : i + 5 ≤ L) (hn5 : n < 512) {xa md ou : Nat} {σ : SS} {tm : Int} (hC : RepC G z μ xa σ n) (hM : RepM G μ md σ tm) (hOJ : OJx G μ ou) (hK : Kv σ n) (kk : ∀ (μ' : Mm) (σ' : SS) (tm' : Int), RepC G z μ' xa σ' (n + 1) → RepM G μ' md σ' tm' → OJx G μ' ou → Kv σ' (n + 1) → Wx E G (cells + 8) (slots + 64) 1801 [(4, .int (zI (i : Int))), (3, .ref ou), (2, .ref md), (1, .ref xa), (0, .ref b)] [] μ') : Wx E G cells slots 1720 [(4, .int (zI (i : Int))), (3, .ref ou), (2, .ref md), (1, .ref xa), (0, .ref b)] [] μ := by
  have hL4 := hX.2.2.2
  have hi23 := hK.1.n23
  refine x_aload_n C dL_law_1720 rfl 3 rfl ?_
  refine x_aload_n C dL_law_1721 rfl 4 rfl ?_
  refine x_iload C dL_law_1722 0 rfl ?_
  refine z_iconst C dL_law_1724 ?_
  refine z_iadd C dL_law_1725 rfl ?_
  refine z_sld C hX (i + 1) dL_law_1726 (by omega) (by omega) ?_
  have hz1 := zI_rg (xs (i + 1))
  unfold rg at hz1
  refine x_aload_n C dL_law_1727 rfl 1 rfl ?_
  refine x_callSX (n := 3) (cc9 := cells + 1) (ss9 := slots + 6) (rest := []) C dL_law_1728 (c_L_scoreAnew (kxL E) C.st G z μ xa md ou σ n tm ((xs (i + 1)).toInt) hC hM hOJ hK hn5 (by omega)) gL_law_L_scoreAnew rfl (by decide +kernel) ⟨(Nat.le_of_ble_eq_true rfl), (Nat.le_of_ble_eq_true rfl)⟩ rfl rfl (Nat.le_of_ble_eq_true rfl) rfl rfl ⟨by omega, by omega⟩ nX_no (fun v2 μ3 hv4 => ?_)
  obtain ⟨r5, hw6, hM, hcase⟩ := hv4
  subst hw6
  have htr : 0 ≤ t_wk σ ((xs (i + 1)).toInt) ∧ t_wk σ ((xs (i + 1)).toInt) ≤ 3 := by (unfold t_wk; (repeat split) <;> omega)
  rcases hcase with ⟨hk0, ht0, hC, hOJ⟩ | ⟨ht, hk, hC, hOJ⟩
  · refine x_stk (stk' := [.int (zI 0)]) (by rw [hk0]; rfl) ?_
    refine x_istore (lv' := [(5, .int (zI 0)), (4, .int (zI (i : Int))), (3, .ref ou), (2, .ref md), (1, .ref xa), (0, .ref b)]) C dL_law_1731 (by decide) rfl ?_
    refine x_aload_n C dL_law_1733 rfl 3 rfl ?_
    refine x_aload_n C dL_law_1734 rfl 5 rfl ?_
    refine x_iload C dL_law_1735 1 rfl ?_
    refine z_iconst C dL_law_1737 ?_
    refine z_iadd C dL_law_1738 rfl ?_
    refine z_sld C hX (i + 1) dL_law_1739 (by omega) (by omega) ?_
    obtain ⟨fo9, cm9, Ci9, Su9, A9, hY9⟩ := hM
    refine x_callV (n := 1) (ci := 10) (Cn := RX9) (T := TX9) (N := 29) (cc9 := cells + 1) (ss9 := slots + 6) (rest := []) C dL_law_1740 (c_X9_scoreAnew (kxL E) C.st G z μ3 _ σ n _ _ _ _ _ _ ((xs (i + 1)).toInt) hY9 hK.1 (by omega) (by omega)) gL_law_X9_scoreAnew rfl (by decide +kernel) ⟨(Nat.le_of_ble_eq_true rfl), (Nat.le_of_ble_eq_true rfl)⟩ rfl hY9.ob rfl rfl (Nat.le_of_ble_eq_true rfl) rfl rfl ⟨by omega, by omega⟩ nX_no (fun v7 μ8 hv9 => ?_)
    obtain ⟨r10, hw12, hmr, hF9⟩ := hv9
    subst hw12
    have hC : RepC G z μ8 xa (σ) n := hF9.repc hC
    have hOJ : OJ G μ8 ou ((zI (b_score σ ((xs (i + 1)).toInt).toNat)).toInt64) := hF9.oj hOJ
    obtain ⟨hr6, hM⟩ : r10 = b_score σ ((xs (i + 1)).toInt).toNat ∧ RepM G μ8 md (σ) 0 := by (rcases hmr with ⟨a1, a2, a3⟩ | ⟨a1, a2⟩; exact ⟨a2, a3⟩; exact absurd ht0 a1)
    refine x_stk (stk' := [.int (zI r10)]) rfl ?_
    refine x_istore (lv' := [(6, .int (zI r10)), (5, .int (zI 0)), (4, .int (zI (i : Int))), (3, .ref ou), (2, .ref md), (1, .ref xa), (0, .ref b)]) C dL_law_1743 (by decide) rfl ?_
    refine x_aload_n C dL_law_1745 rfl 4 rfl ?_
    have hM0 := hM
    obtain ⟨fo9, cm9, Ci9, Su9, A9, hY9⟩ := hM
    refine x_callV (n := 0) (ci := 10) (Cn := RX9) (T := TX9) (N := 29) (cc9 := cells + 1) (ss9 := slots + 6) (rest := []) C dL_law_1746 (c_X9_thrown (kxL E) C.st G z μ8 _ _ n _ _ _ _ _ _ hY9) gL_law_X9_thrown rfl (by decide +kernel) ⟨(Nat.le_of_ble_eq_true rfl), (Nat.le_of_ble_eq_true rfl)⟩ rfl hY9.ob rfl rfl (Nat.le_of_ble_eq_true rfl) rfl rfl ⟨by omega, by omega⟩ nX_no (fun v13 μ14 hv15 => ?_)
    obtain ⟨r16, hw19, h17, hm18⟩ := hv15
    subst hw19
    rw [hm18]
    have hM := hM0
    refine x_stk (stk' := [.int (zI 0)]) (by rw [h17]; rfl) ?_
    refine x_iload C dL_law_1749 1 rfl ?_
    refine z_icmp_eq (tgt := 1756) C dL_law_1751 (by decide) (rg_of (by omega) (by omega)) (rg_of (by omega) (by omega)) (fun c_20 => ?_) (fun c_20 => ?_)
    · refine x_iload C dL_law_1756 1 rfl ?_
      refine z_if_ne (tgt := 1773) C dL_law_1758 (by decide) (rg_of (by omega) (by omega)) (fun c_21 => ?_) (fun c_21 => ?_)
      · exfalso; omega
      · refine x_aload_n C dL_law_1761 rfl 3 rfl ?_
        refine z_iconst C dL_law_1762 ?_
        refine z_lald C dL_law_1763 hOJ ?_
        refine x_iload C dL_law_1764 0 rfl ?_
        refine z_i2l C dL_law_1766 ?_
        refine z_lsame C dL_law_1767 (by rw [hr6]) ?_
        refine x_stk (stk' := [.int (zI 0)]) rfl ?_
        refine z_if_eq (tgt := 1773) C dL_law_1768 (by decide) (rg_of (by omega) (by omega)) (fun c_22 => ?_) (fun c_22 => ?_)
        · refine x_goto (tgt := 1801) C dL_law_1773 (by decide) ?_
          refine x_sub (lv' := [(4, .int (zI (i : Int))), (3, .ref ou), (2, .ref md), (1, .ref xa), (0, .ref b)]) [2, 3, 4, 5, 6] rfl ?_
          exact x_wid (by omega) (by omega) (kk _ _ _ hC.mono hM hOJ.x hK.mono)
        · exfalso; omega
    · exfalso; omega
  · refine x_stk (stk' := [.int (zI (t_wk σ ((xs (i + 1)).toInt)))]) (by rw [hk]; rfl) ?_
    refine x_istore (lv' := [(5, .int (zI (t_wk σ ((xs (i + 1)).toInt)))), (4, .int (zI (i : Int))), (3, .ref ou), (2, .ref md), (1, .ref xa), (0, .ref b)]) C dL_law_1731 (by decide) rfl ?_
    refine x_aload_n C dL_law_1733 rfl 3 rfl ?_
    refine x_aload_n C dL_law_1734 rfl 5 rfl ?_
    refine x_iload C dL_law_1735 1 rfl ?_
    refine z_iconst C dL_law_1737 ?_
    refine z_iadd C dL_law_1738 rfl ?_
    refine z_sld C hX (i + 1) dL_law_1739 (by omega) (by omega) ?_
    obtain ⟨fo9, cm9, Ci9, Su9, A9, hY9⟩ := hM
    refine x_callV (n := 1) (ci := 10) (Cn := RX9) (T := TX9) (N := 29) (cc9 := cells + 1) (ss9 := slots + 6) (rest := []) C dL_law_1740 (c_X9_scoreAnew (kxL E) C.st G z μ3 _ σ n _ _ _ _ _ _ ((xs (i + 1)).toInt) hY9 hK.1 (by omega) (by omega)) gL_law_X9_scoreAnew rfl (by decide +kernel) ⟨(Nat.le_of_ble_eq_true rfl), (Nat.le_of_ble_eq_true rfl)⟩ rfl hY9.ob rfl rfl (Nat.le_of_ble_eq_true rfl) rfl rfl ⟨by omega, by omega⟩ nX_no (fun v23 μ24 hv25 => ?_)
    obtain ⟨r26, hw28, hmr, hF9⟩ := hv25
    subst hw28
    have hC : RepC G z μ24 xa σ n := hF9.repc hC
    have hOJ : OJx G μ24 ou := hF9.ojx hOJ
    have hM : RepM G μ24 md σ (t_wk σ ((xs (i + 1)).toInt)) := by (rcases hmr with ⟨a1, a2, a3⟩ | ⟨a1, a2⟩; exact absurd a1 ht; exact a2)
    refine x_stk (stk' := [.int (zI r26)]) rfl ?_
    refine x_istore (lv' := [(6, .int (zI r26)), (5, .int (zI (t_wk σ ((xs (i + 1)).toInt)))), (4, .int (zI (i : Int))), (3, .ref ou), (2, .ref md), (1, .ref xa), (0, .ref b)]) C dL_law_1743 (by decide) rfl ?_
    refine x_aload_n C dL_law_1745 rfl 4 rfl ?_
    have hM0 := hM
    obtain ⟨fo9, cm9, Ci9, Su9, A9, hY9⟩ := hM
    refine x_callV (n := 0) (ci := 10) (Cn := RX9) (T := TX9) (N := 29) (cc9 := cells + 1) (ss9 := slots + 6) (rest := []) C dL_law_1746 (c_X9_thrown (kxL E) C.st G z μ24 _ _ n _ _ _ _ _ _ hY9) gL_law_X9_thrown rfl (by decide +kernel) ⟨(Nat.le_of_ble_eq_true rfl), (Nat.le_of_ble_eq_true rfl)⟩ rfl hY9.ob rfl rfl (Nat.le_of_ble_eq_true rfl) rfl rfl ⟨by omega, by omega⟩ nX_no (fun v29 μ30 hv31 => ?_)
    obtain ⟨r32, hw35, h33, hm34⟩ := hv31
    subst hw35
    rw [hm34]
    have hM := hM0
    refine x_stk (stk' := [.int (zI (t_wk σ ((xs (i + 1)).toInt)))]) (by rw [h33]; rfl) ?_
    refine x_iload C dL_law_1749 1 rfl ?_
    refine z_icmp_eq (tgt := 1756) C dL_law_1751 (by decide) (rg_of (by omega) (by omega)) (rg_of (by omega) (by omega)) (fun c_36 => ?_) (fun c_36 => ?_)
    · refine x_iload C dL_law_1756 1 rfl ?_
      refine z_if_ne (tgt := 1773) C dL_law_1758 (by decide) (rg_of (by omega) (by omega)) (fun c_37 => ?_) (fun c_37 => ?_)
      · refine x_goto (tgt := 1801) C dL_law_1773 (by decide) ?_
        refine x_sub (lv' := [(4, .int (zI (i : Int))), (3, .ref ou), (2, .ref md), (1, .ref xa), (0, .ref b)]) [2, 3, 4, 5, 6] rfl ?_
        exact x_wid (by omega) (by omega) (kk _ _ _ hC.mono hM hOJ hK.mono)
      · exfalso; omega
    · refine z_iconst C dL_law_1754 ?_
      exfalso; omega
set_option maxHeartbeats 4000000 in
set_option maxRecDepth 100000 in
theorem law_walkerAt {E : EE} {G : GG} {z b L : Nat} {xs : Nat → Int32} (C : Cx E G z cL_law RL wsL_law room_1 7) (hX : Sc E b L xs) {cells slots : Nat} (hcs : cells + 64 ≤ room_1.cells ∧ slots + 256 ≤ room_1.slots) {μ : Mm} {i n : Nat} (hi : i + 5 ≤ L) (hn5 : n < 512) {xa md ou : Nat} {σ : SS} {tm : Int} (hC : RepC G z μ xa σ n) (hM : RepM G μ md σ tm) (hOJ : OJx G μ ou) (hK : Kv σ n) (kk : ∀ (μ' : Mm) (σ' : SS) (tm' : Int), RepC G z μ' xa σ' (n + 1) → RepM G μ' md σ' tm' → OJx G μ' ou → Kv σ' (n + 1) → Wx E G (cells + 8) (slots + 64) 1801 [(4, .int (zI (i : Int))), (3, .ref ou), (2, .ref md), (1, .ref xa), (0, .ref b)] [] μ') : Wx E G cells slots 1776 [(4, .int (zI (i : Int))), (3, .ref ou), (2, .ref md), (1, .ref xa), (0, .ref b)] [] μ := by
  have hL4 := hX.2.2.2
  have hi23 := hK.1.n23
  refine x_aload_n C dL_law_1776 rfl 3 rfl ?_
  refine x_aload_n C dL_law_1777 rfl 4 rfl ?_
  refine x_iload C dL_law_1778 0 rfl ?_
  refine z_iconst C dL_law_1780 ?_
  refine z_iadd C dL_law_1781 rfl ?_
  refine z_sld C hX (i + 1) dL_law_1782 (by omega) (by omega) ?_
  have hz1 := zI_rg (xs (i + 1))
  unfold rg at hz1
  refine x_callV (n := 1) (ci := 9) (Cn := RX8) (T := TX8) (N := 10) (cc9 := cells) (ss9 := slots) (rest := []) C dL_law_1783 (c_X8_walkerAt (kxL E) C.st G z μ xa σ n ((xs (i + 1)).toInt) hC hK.1 (by omega)) gL_law_X8_walkerAt rfl (by decide +kernel) ⟨(Nat.le_of_ble_eq_true rfl), (Nat.le_of_ble_eq_true rfl)⟩ rfl hC.ob rfl rfl (Nat.le_of_ble_eq_true rfl) rfl rfl ⟨by omega, by omega⟩ nX_no (fun v2 μ3 hv4 => ?_)
  obtain ⟨r5, hw7, h6, hm8⟩ := hv4
  subst hw7
  rw [hm8]
  have hwr := b_walkerAt_rg hK.1 h6
  refine x_stk (stk' := [.int (zI r5)]) rfl ?_
  refine x_aload_n C dL_law_1786 rfl 2 rfl ?_
  refine x_aload_n C dL_law_1787 rfl 4 rfl ?_
  refine x_iload C dL_law_1788 0 rfl ?_
  refine z_iconst C dL_law_1790 ?_
  refine z_iadd C dL_law_1791 rfl ?_
  refine z_sld C hX (i + 1) dL_law_1792 (by omega) (by omega) ?_
  obtain ⟨fo9, cm9, Ci9, Su9, A9, hY9⟩ := hM
  refine x_callV (n := 1) (ci := 10) (Cn := RX9) (T := TX9) (N := 29) (cc9 := cells) (ss9 := slots) (rest := [.int (zI r5)]) C dL_law_1793 (c_X9_walkerAt (kxL E) C.st G z μ _ σ n _ _ _ _ _ _ ((xs (i + 1)).toInt) hY9 hK.1 (by omega) (by omega)) gL_law_X9_walkerAt rfl (by decide +kernel) ⟨(Nat.le_of_ble_eq_true rfl), (Nat.le_of_ble_eq_true rfl)⟩ rfl hY9.ob rfl rfl (Nat.le_of_ble_eq_true rfl) rfl rfl ⟨by omega, by omega⟩ nX_no (fun v9 μ10 hv11 => ?_)
  obtain ⟨r12, hw14, hmr, hF9⟩ := hv11
  subst hw14
  have hC : RepC G z μ10 xa σ n := hF9.repc hC
  have hOJ : OJx G μ10 ou := hF9.ojx hOJ
  obtain ⟨hr6, hM⟩ := hmr
  have hone := b_walkerAt_one h6 hr6
  refine x_stk (stk' := [.int (zI r12), .int (zI r5)]) rfl ?_
  refine z_icmp_eq (tgt := 1801) C dL_law_1796 (by decide) (rg_of (by omega) (by omega)) (rg_of (by omega) (by omega)) (fun c_15 => ?_) (fun c_15 => ?_)
  · exact x_wid (by omega) (by omega) (kk _ _ _ hC.mono hM hOJ hK.mono)
  · refine z_iconst C dL_law_1799 ?_
    exfalso; omega
