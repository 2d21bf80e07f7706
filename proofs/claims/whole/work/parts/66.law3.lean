set_option maxHeartbeats 4000000 in
set_option maxRecDepth 100000 in
theorem law_send {E : EE} {G : GG} {z b L : Nat} {xs : Nat → Int32} (C : Cx E G z cL_law RL wsL_law room_1 7) (hX : Sc E b L xs) {cells slots : Nat} (hcs : cells + 64 ≤ room_1.cells ∧ slots + 256 ≤ room_1.slots) {μ : Mm} {i n : Nat} (hi : i + 5 ≤ L) (hn5 : n < 512) {xa md ou : Nat} {σ : SS} {tm : Int} (hC : RepC G z μ xa σ n) (hM : RepM G μ md σ tm) (hOJ : OJx G μ ou) (hK : Kv σ n) (kk : ∀ (μ' : Mm) (σ' : SS) (tm' : Int), RepC G z μ' xa σ' (n + 1) → RepM G μ' md σ' tm' → OJx G μ' ou → Kv σ' (n + 1) → Wx E G (cells + 8) (slots + 64) 1801 [(4, .int (zI (i : Int))), (3, .ref ou), (2, .ref md), (1, .ref xa), (0, .ref b)] [] μ') : Wx E G cells slots 1018 [(4, .int (zI (i : Int))), (3, .ref ou), (2, .ref md), (1, .ref xa), (0, .ref b)] [] μ := by
  have hL4 := hX.2.2.2
  have hi23 := hK.1.n23
  refine x_aload_n C dL_law_1018 rfl 3 rfl ?_
  refine x_aload_n C dL_law_1019 rfl 4 rfl ?_
  refine x_iload C dL_law_1020 0 rfl ?_
  refine z_iconst C dL_law_1022 ?_
  refine z_iadd C dL_law_1023 rfl ?_
  refine z_sld C hX (i + 1) dL_law_1024 (by omega) (by omega) ?_
  have hz1 := zI_rg (xs (i + 1))
  unfold rg at hz1
  refine x_aload_n C dL_law_1025 rfl 4 rfl ?_
  refine x_iload C dL_law_1026 0 rfl ?_
  refine z_iconst C dL_law_1028 ?_
  refine z_iadd C dL_law_1029 rfl ?_
  refine z_sld C hX (i + 2) dL_law_1030 (by omega) (by omega) ?_
  have hz2 := zI_rg (xs (i + 2))
  unfold rg at hz2
  refine x_aload_n C dL_law_1031 rfl 1 rfl ?_
  refine x_callSX (n := 4) (cc9 := cells + 2) (ss9 := slots + 12) (rest := []) C dL_law_1032 (c_L_send (kxL E) C.st G z μ xa md ou σ n tm ((xs (i + 1)).toInt) ((xs (i + 2)).toInt) hC hM hOJ hK hn5 (by omega) (by omega)) gL_law_L_send rfl (by decide +kernel) ⟨(Nat.le_of_ble_eq_true rfl), (Nat.le_of_ble_eq_true rfl)⟩ rfl rfl (Nat.le_of_ble_eq_true rfl) rfl rfl ⟨by omega, by omega⟩ nX_no (fun v3 μ4 hv5 => ?_)
  obtain ⟨r6, hw7, hM, hcase⟩ := hv5
  subst hw7
  have htr : 0 ≤ t_send σ ((xs (i + 1)).toInt) ((xs (i + 2)).toInt) ∧ t_send σ ((xs (i + 1)).toInt) ((xs (i + 2)).toInt) ≤ 3 := by (unfold t_send; (repeat split) <;> omega)
  rcases hcase with ⟨hk0, ht0, hC, hOJ⟩ | ⟨ht, hk, hC, hOJ⟩
  · refine x_stk (stk' := [.int (zI 0)]) (by rw [hk0]; rfl) ?_
    refine x_istore (lv' := [(5, .int (zI 0)), (4, .int (zI (i : Int))), (3, .ref ou), (2, .ref md), (1, .ref xa), (0, .ref b)]) C dL_law_1035 (by decide) rfl ?_
    refine x_aload_n C dL_law_1037 rfl 3 rfl ?_
    refine x_aload_n C dL_law_1038 rfl 5 rfl ?_
    refine x_iload C dL_law_1039 1 rfl ?_
    refine z_iconst C dL_law_1041 ?_
    refine z_iadd C dL_law_1042 rfl ?_
    refine z_sld C hX (i + 1) dL_law_1043 (by omega) (by omega) ?_
    refine x_aload_n C dL_law_1044 rfl 5 rfl ?_
    refine x_iload C dL_law_1045 1 rfl ?_
    refine z_iconst C dL_law_1047 ?_
    refine z_iadd C dL_law_1048 rfl ?_
    refine z_sld C hX (i + 2) dL_law_1049 (by omega) (by omega) ?_
    obtain ⟨fo9, cm9, Ci9, Su9, A9, hY9⟩ := hM
    refine x_callV (n := 2) (ci := 10) (Cn := RX9) (T := TX9) (N := 29) (cc9 := cells + 2) (ss9 := slots + 12) (rest := []) C dL_law_1050 (c_X9_send (kxL E) C.st G z μ4 _ σ n _ _ _ _ _ _ ((xs (i + 1)).toInt) ((xs (i + 2)).toInt) hY9 hK.1 (by omega) (by omega)) gL_law_X9_send rfl (by decide +kernel) ⟨(Nat.le_of_ble_eq_true rfl), (Nat.le_of_ble_eq_true rfl)⟩ rfl hY9.ob rfl rfl (Nat.le_of_ble_eq_true rfl) rfl rfl ⟨by omega, by omega⟩ nX_no (fun v8 μ9 hv10 => ?_)
    obtain ⟨r11, hw13, hmr, hF9⟩ := hv10
    subst hw13
    have hC : RepC G z μ9 xa (n_send σ ((xs (i + 1)).toInt) ((xs (i + 2)).toInt)) n := hF9.repc hC
    have hOJ : OJ G μ9 ou ((zI (b_way σ (σ 14 ((xs (i + 1)).toInt).toNat) ((xs (i + 2)).toInt))).toInt64) := hF9.oj hOJ
    obtain ⟨hr6, hM⟩ : r11 = b_way σ (σ 14 ((xs (i + 1)).toInt).toNat) ((xs (i + 2)).toInt) ∧ RepM G μ9 md (n_send σ ((xs (i + 1)).toInt) ((xs (i + 2)).toInt)) 0 := by (rcases hmr with ⟨a1, a2, a3⟩ | ⟨a1, a2⟩; exact ⟨a2, a3⟩; exact absurd ht0 a1)
    refine x_stk (stk' := [.int (zI r11)]) rfl ?_
    refine x_istore (lv' := [(6, .int (zI r11)), (5, .int (zI 0)), (4, .int (zI (i : Int))), (3, .ref ou), (2, .ref md), (1, .ref xa), (0, .ref b)]) C dL_law_1053 (by decide) rfl ?_
    refine x_aload_n C dL_law_1055 rfl 4 rfl ?_
    have hM0 := hM
    obtain ⟨fo9, cm9, Ci9, Su9, A9, hY9⟩ := hM
    refine x_callV (n := 0) (ci := 10) (Cn := RX9) (T := TX9) (N := 29) (cc9 := cells + 2) (ss9 := slots + 12) (rest := []) C dL_law_1056 (c_X9_thrown (kxL E) C.st G z μ9 _ _ n _ _ _ _ _ _ hY9) gL_law_X9_thrown rfl (by decide +kernel) ⟨(Nat.le_of_ble_eq_true rfl), (Nat.le_of_ble_eq_true rfl)⟩ rfl hY9.ob rfl rfl (Nat.le_of_ble_eq_true rfl) rfl rfl ⟨by omega, by omega⟩ nX_no (fun v14 μ15 hv16 => ?_)
    obtain ⟨r17, hw20, h18, hm19⟩ := hv16
    subst hw20
    rw [hm19]
    have hM := hM0
    refine x_stk (stk' := [.int (zI 0)]) (by rw [h18]; rfl) ?_
    refine x_iload C dL_law_1059 1 rfl ?_
    refine z_icmp_eq (tgt := 1066) C dL_law_1061 (by decide) (rg_of (by omega) (by omega)) (rg_of (by omega) (by omega)) (fun c_21 => ?_) (fun c_21 => ?_)
    · refine x_iload C dL_law_1066 1 rfl ?_
      refine z_if_ne (tgt := 1083) C dL_law_1068 (by decide) (rg_of (by omega) (by omega)) (fun c_22 => ?_) (fun c_22 => ?_)
      · exfalso; omega
      · refine x_aload_n C dL_law_1071 rfl 3 rfl ?_
        refine z_iconst C dL_law_1072 ?_
        refine z_lald C dL_law_1073 hOJ ?_
        refine x_iload C dL_law_1074 0 rfl ?_
        refine z_i2l C dL_law_1076 ?_
        refine z_lsame C dL_law_1077 (by rw [hr6]) ?_
        refine x_stk (stk' := [.int (zI 0)]) rfl ?_
        refine z_if_eq (tgt := 1083) C dL_law_1078 (by decide) (rg_of (by omega) (by omega)) (fun c_23 => ?_) (fun c_23 => ?_)
        · refine x_goto (tgt := 1801) C dL_law_1083 (by decide) ?_
          refine x_sub (lv' := [(4, .int (zI (i : Int))), (3, .ref ou), (2, .ref md), (1, .ref xa), (0, .ref b)]) [2, 3, 4, 5, 6] rfl ?_
          exact x_wid (by omega) (by omega) (kk _ _ _ hC.mono hM hOJ.x (Kv_send hK ht0).mono)
        · exfalso; omega
    · exfalso; omega
  · refine x_stk (stk' := [.int (zI (t_send σ ((xs (i + 1)).toInt) ((xs (i + 2)).toInt)))]) (by rw [hk]; rfl) ?_
    refine x_istore (lv' := [(5, .int (zI (t_send σ ((xs (i + 1)).toInt) ((xs (i + 2)).toInt)))), (4, .int (zI (i : Int))), (3, .ref ou), (2, .ref md), (1, .ref xa), (0, .ref b)]) C dL_law_1035 (by decide) rfl ?_
    refine x_aload_n C dL_law_1037 rfl 3 rfl ?_
    refine x_aload_n C dL_law_1038 rfl 5 rfl ?_
    refine x_iload C dL_law_1039 1 rfl ?_
    refine z_iconst C dL_law_1041 ?_
    refine z_iadd C dL_law_1042 rfl ?_
    refine z_sld C hX (i + 1) dL_law_1043 (by omega) (by omega) ?_
    refine x_aload_n C dL_law_1044 rfl 5 rfl ?_
    refine x_iload C dL_law_1045 1 rfl ?_
    refine z_iconst C dL_law_1047 ?_
    refine z_iadd C dL_law_1048 rfl ?_
    refine z_sld C hX (i + 2) dL_law_1049 (by omega) (by omega) ?_
    obtain ⟨fo9, cm9, Ci9, Su9, A9, hY9⟩ := hM
    refine x_callV (n := 2) (ci := 10) (Cn := RX9) (T := TX9) (N := 29) (cc9 := cells + 2) (ss9 := slots + 12) (rest := []) C dL_law_1050 (c_X9_send (kxL E) C.st G z μ4 _ σ n _ _ _ _ _ _ ((xs (i + 1)).toInt) ((xs (i + 2)).toInt) hY9 hK.1 (by omega) (by omega)) gL_law_X9_send rfl (by decide +kernel) ⟨(Nat.le_of_ble_eq_true rfl), (Nat.le_of_ble_eq_true rfl)⟩ rfl hY9.ob rfl rfl (Nat.le_of_ble_eq_true rfl) rfl rfl ⟨by omega, by omega⟩ nX_no (fun v24 μ25 hv26 => ?_)
    obtain ⟨r27, hw29, hmr, hF9⟩ := hv26
    subst hw29
    have hC : RepC G z μ25 xa σ n := hF9.repc hC
    have hOJ : OJx G μ25 ou := hF9.ojx hOJ
    have hM : RepM G μ25 md σ (t_send σ ((xs (i + 1)).toInt) ((xs (i + 2)).toInt)) := by (rcases hmr with ⟨a1, a2, a3⟩ | ⟨a1, a2⟩; exact absurd a1 ht; exact a2)
    refine x_stk (stk' := [.int (zI r27)]) rfl ?_
    refine x_istore (lv' := [(6, .int (zI r27)), (5, .int (zI (t_send σ ((xs (i + 1)).toInt) ((xs (i + 2)).toInt)))), (4, .int (zI (i : Int))), (3, .ref ou), (2, .ref md), (1, .ref xa), (0, .ref b)]) C dL_law_1053 (by decide) rfl ?_
    refine x_aload_n C dL_law_1055 rfl 4 rfl ?_
    have hM0 := hM
    obtain ⟨fo9, cm9, Ci9, Su9, A9, hY9⟩ := hM
    refine x_callV (n := 0) (ci := 10) (Cn := RX9) (T := TX9) (N := 29) (cc9 := cells + 2) (ss9 := slots + 12) (rest := []) C dL_law_1056 (c_X9_thrown (kxL E) C.st G z μ25 _ _ n _ _ _ _ _ _ hY9) gL_law_X9_thrown rfl (by decide +kernel) ⟨(Nat.le_of_ble_eq_true rfl), (Nat.le_of_ble_eq_true rfl)⟩ rfl hY9.ob rfl rfl (Nat.le_of_ble_eq_true rfl) rfl rfl ⟨by omega, by omega⟩ nX_no (fun v30 μ31 hv32 => ?_)
    obtain ⟨r33, hw36, h34, hm35⟩ := hv32
    subst hw36
    rw [hm35]
    have hM := hM0
    refine x_stk (stk' := [.int (zI (t_send σ ((xs (i + 1)).toInt) ((xs (i + 2)).toInt)))]) (by rw [h34]; rfl) ?_
    refine x_iload C dL_law_1059 1 rfl ?_
    refine z_icmp_eq (tgt := 1066) C dL_law_1061 (by decide) (rg_of (by omega) (by omega)) (rg_of (by omega) (by omega)) (fun c_37 => ?_) (fun c_37 => ?_)
    · refine x_iload C dL_law_1066 1 rfl ?_
      refine z_if_ne (tgt := 1083) C dL_law_1068 (by decide) (rg_of (by omega) (by omega)) (fun c_38 => ?_) (fun c_38 => ?_)
      · refine x_goto (tgt := 1801) C dL_law_1083 (by decide) ?_
        refine x_sub (lv' := [(4, .int (zI (i : Int))), (3, .ref ou), (2, .ref md), (1, .ref xa), (0, .ref b)]) [2, 3, 4, 5, 6] rfl ?_
        exact x_wid (by omega) (by omega) (kk _ _ _ hC.mono hM hOJ hK.mono)
      · exfalso; omega
    · refine z_iconst C dL_law_1064 ?_
      exfalso; omega
set_option maxHeartbeats 4000000 in
set_option maxRecDepth 100000 in
theorem law_at {E : EE} {G : GG} {z b L : Nat} {xs : Nat → Int32} (C : Cx E G z cL_law RL wsL_law room_1 7) (hX : Sc E b L xs) {cells slots : Nat} (hcs : cells + 64 ≤ room_1.cells ∧ slots + 256 ≤ room_1.slots) {μ : Mm} {i n : Nat} (hi : i + 5 ≤ L) (hn5 : n < 512) {xa md ou : Nat} {σ : SS} {tm : Int} (hC : RepC G z μ xa σ n) (hM : RepM G μ md σ tm) (hOJ : OJx G μ ou) (hK : Kv σ n) (kk : ∀ (μ' : Mm) (σ' : SS) (tm' : Int), RepC G z μ' xa σ' (n + 1) → RepM G μ' md σ' tm' → OJx G μ' ou → Kv σ' (n + 1) → Wx E G (cells + 8) (slots + 64) 1801 [(4, .int (zI (i : Int))), (3, .ref ou), (2, .ref md), (1, .ref xa), (0, .ref b)] [] μ') : Wx E G cells slots 1086 [(4, .int (zI (i : Int))), (3, .ref ou), (2, .ref md), (1, .ref xa), (0, .ref b)] [] μ := by
  have hL4 := hX.2.2.2
  have hi23 := hK.1.n23
  refine x_aload_n C dL_law_1086 rfl 3 rfl ?_
  refine x_aload_n C dL_law_1087 rfl 4 rfl ?_
  refine x_iload C dL_law_1088 0 rfl ?_
  refine z_iconst C dL_law_1090 ?_
  refine z_iadd C dL_law_1091 rfl ?_
  refine z_sld C hX (i + 1) dL_law_1092 (by omega) (by omega) ?_
  have hz1 := zI_rg (xs (i + 1))
  unfold rg at hz1
  refine x_aload_n C dL_law_1093 rfl 1 rfl ?_
  refine x_callSX (n := 3) (cc9 := cells + 1) (ss9 := slots + 6) (rest := []) C dL_law_1094 (c_L_at (kxL E) C.st G z μ xa md ou σ n tm ((xs (i + 1)).toInt) hC hM hOJ hK hn5 (by omega)) gL_law_L_at rfl (by decide +kernel) ⟨(Nat.le_of_ble_eq_true rfl), (Nat.le_of_ble_eq_true rfl)⟩ rfl rfl (Nat.le_of_ble_eq_true rfl) rfl rfl ⟨by omega, by omega⟩ nX_no (fun v2 μ3 hv4 => ?_)
  obtain ⟨r5, hw6, hM, hcase⟩ := hv4
  subst hw6
  have htr : 0 ≤ t_wk σ ((xs (i + 1)).toInt) ∧ t_wk σ ((xs (i + 1)).toInt) ≤ 3 := by (unfold t_wk; (repeat split) <;> omega)
  rcases hcase with ⟨hk0, ht0, hC, hOJ⟩ | ⟨ht, hk, hC, hOJ⟩
  · refine x_stk (stk' := [.int (zI 0)]) (by rw [hk0]; rfl) ?_
    refine x_istore (lv' := [(5, .int (zI 0)), (4, .int (zI (i : Int))), (3, .ref ou), (2, .ref md), (1, .ref xa), (0, .ref b)]) C dL_law_1097 (by decide) rfl ?_
    refine x_aload_n C dL_law_1099 rfl 3 rfl ?_
    refine x_aload_n C dL_law_1100 rfl 5 rfl ?_
    refine x_iload C dL_law_1101 1 rfl ?_
    refine z_iconst C dL_law_1103 ?_
    refine z_iadd C dL_law_1104 rfl ?_
    refine z_sld C hX (i + 1) dL_law_1105 (by omega) (by omega) ?_
    obtain ⟨fo9, cm9, Ci9, Su9, A9, hY9⟩ := hM
    refine x_callV (n := 1) (ci := 10) (Cn := RX9) (T := TX9) (N := 29) (cc9 := cells + 1) (ss9 := slots + 6) (rest := []) C dL_law_1106 (c_X9_at (kxL E) C.st G z μ3 _ σ n _ _ _ _ _ _ ((xs (i + 1)).toInt) hY9 hK.1 (by omega)) gL_law_X9_at rfl (by decide +kernel) ⟨(Nat.le_of_ble_eq_true rfl), (Nat.le_of_ble_eq_true rfl)⟩ rfl hY9.ob rfl rfl (Nat.le_of_ble_eq_true rfl) rfl rfl ⟨by omega, by omega⟩ nX_no (fun v7 μ8 hv9 => ?_)
    obtain ⟨r10, hw12, hmr, hF9⟩ := hv9
    subst hw12
    have hC : RepC G z μ8 xa (σ) n := hF9.repc hC
    have hOJ : OJ G μ8 ou ((zI (σ 14 ((xs (i + 1)).toInt).toNat)).toInt64) := hF9.oj hOJ
    obtain ⟨hr6, hM⟩ : r10 = σ 14 ((xs (i + 1)).toInt).toNat ∧ RepM G μ8 md (σ) 0 := by (rcases hmr with ⟨a1, a2, a3⟩ | ⟨a1, a2⟩; exact ⟨a2, a3⟩; exact absurd ht0 a1)
    refine x_stk (stk' := [.int (zI r10)]) rfl ?_
    refine x_istore (lv' := [(6, .int (zI r10)), (5, .int (zI 0)), (4, .int (zI (i : Int))), (3, .ref ou), (2, .ref md), (1, .ref xa), (0, .ref b)]) C dL_law_1109 (by decide) rfl ?_
    refine x_aload_n C dL_law_1111 rfl 4 rfl ?_
    have hM0 := hM
    obtain ⟨fo9, cm9, Ci9, Su9, A9, hY9⟩ := hM
    refine x_callV (n := 0) (ci := 10) (Cn := RX9) (T := TX9) (N := 29) (cc9 := cells + 1) (ss9 := slots + 6) (rest := []) C dL_law_1112 (c_X9_thrown (kxL E) C.st G z μ8 _ _ n _ _ _ _ _ _ hY9) gL_law_X9_thrown rfl (by decide +kernel) ⟨(Nat.le_of_ble_eq_true rfl), (Nat.le_of_ble_eq_true rfl)⟩ rfl hY9.ob rfl rfl (Nat.le_of_ble_eq_true rfl) rfl rfl ⟨by omega, by omega⟩ nX_no (fun v13 μ14 hv15 => ?_)
    obtain ⟨r16, hw19, h17, hm18⟩ := hv15
    subst hw19
    rw [hm18]
    have hM := hM0
    refine x_stk (stk' := [.int (zI 0)]) (by rw [h17]; rfl) ?_
    refine x_iload C dL_law_1115 1 rfl ?_
    refine z_icmp_eq (tgt := 1122) C dL_law_1117 (by decide) (rg_of (by omega) (by omega)) (rg_of (by omega) (by omega)) (fun c_20 => ?_) (fun c_20 => ?_)
    · refine x_iload C dL_law_1122 1 rfl ?_
      refine z_if_ne (tgt := 1139) C dL_law_1124 (by decide) (rg_of (by omega) (by omega)) (fun c_21 => ?_) (fun c_21 => ?_)
      · exfalso; omega
      · refine x_aload_n C dL_law_1127 rfl 3 rfl ?_
        refine z_iconst C dL_law_1128 ?_
        refine z_lald C dL_law_1129 hOJ ?_
        refine x_iload C dL_law_1130 0 rfl ?_
        refine z_i2l C dL_law_1132 ?_
        refine z_lsame C dL_law_1133 (by rw [hr6]) ?_
        refine x_stk (stk' := [.int (zI 0)]) rfl ?_
        refine z_if_eq (tgt := 1139) C dL_law_1134 (by decide) (rg_of (by omega) (by omega)) (fun c_22 => ?_) (fun c_22 => ?_)
        · refine x_goto (tgt := 1801) C dL_law_1139 (by decide) ?_
          refine x_sub (lv' := [(4, .int (zI (i : Int))), (3, .ref ou), (2, .ref md), (1, .ref xa), (0, .ref b)]) [2, 3, 4, 5, 6] rfl ?_
          exact x_wid (by omega) (by omega) (kk _ _ _ hC.mono hM hOJ.x hK.mono)
        · exfalso; omega
    · exfalso; omega
  · refine x_stk (stk' := [.int (zI (t_wk σ ((xs (i + 1)).toInt)))]) (by rw [hk]; rfl) ?_
    refine x_istore (lv' := [(5, .int (zI (t_wk σ ((xs (i + 1)).toInt)))), (4, .int (zI (i : Int))), (3, .ref ou), (2, .ref md), (1, .ref xa), (0, .ref b)]) C dL_law_1097 (by decide) rfl ?_
    refine x_aload_n C dL_law_1099 rfl 3 rfl ?_
    refine x_aload_n C dL_law_1100 rfl 5 rfl ?_
    refine x_iload C dL_law_1101 1 rfl ?_
    refine z_iconst C dL_law_1103 ?_
    refine z_iadd C dL_law_1104 rfl ?_
    refine z_sld C hX (i + 1) dL_law_1105 (by omega) (by omega) ?_
    obtain ⟨fo9, cm9, Ci9, Su9, A9, hY9⟩ := hM
    refine x_callV (n := 1) (ci := 10) (Cn := RX9) (T := TX9) (N := 29) (cc9 := cells + 1) (ss9 := slots + 6) (rest := []) C dL_law_1106 (c_X9_at (kxL E) C.st G z μ3 _ σ n _ _ _ _ _ _ ((xs (i + 1)).toInt) hY9 hK.1 (by omega)) gL_law_X9_at rfl (by decide +kernel) ⟨(Nat.le_of_ble_eq_true rfl), (Nat.le_of_ble_eq_true rfl)⟩ rfl hY9.ob rfl rfl (Nat.le_of_ble_eq_true rfl) rfl rfl ⟨by omega, by omega⟩ nX_no (fun v23 μ24 hv25 => ?_)
    obtain ⟨r26, hw28, hmr, hF9⟩ := hv25
    subst hw28
    have hC : RepC G z μ24 xa σ n := hF9.repc hC
    have hOJ : OJx G μ24 ou := hF9.ojx hOJ
    have hM : RepM G μ24 md σ (t_wk σ ((xs (i + 1)).toInt)) := by (rcases hmr with ⟨a1, a2, a3⟩ | ⟨a1, a2⟩; exact absurd a1 ht; exact a2)
    refine x_stk (stk' := [.int (zI r26)]) rfl ?_
    refine x_istore (lv' := [(6, .int (zI r26)), (5, .int (zI (t_wk σ ((xs (i + 1)).toInt)))), (4, .int (zI (i : Int))), (3, .ref ou), (2, .ref md), (1, .ref xa), (0, .ref b)]) C dL_law_1109 (by decide) rfl ?_
    refine x_aload_n C dL_law_1111 rfl 4 rfl ?_
    have hM0 := hM
    obtain ⟨fo9, cm9, Ci9, Su9, A9, hY9⟩ := hM
    refine x_callV (n := 0) (ci := 10) (Cn := RX9) (T := TX9) (N := 29) (cc9 := cells + 1) (ss9 := slots + 6) (rest := []) C dL_law_1112 (c_X9_thrown (kxL E) C.st G z μ24 _ _ n _ _ _ _ _ _ hY9) gL_law_X9_thrown rfl (by decide +kernel) ⟨(Nat.le_of_ble_eq_true rfl), (Nat.le_of_ble_eq_true rfl)⟩ rfl hY9.ob rfl rfl (Nat.le_of_ble_eq_true rfl) rfl rfl ⟨by omega, by omega⟩ nX_no (fun v29 μ30 hv31 => ?_)
    obtain ⟨r32, hw35, h33, hm34⟩ := hv31
    subst hw35
    rw [hm34]
    have hM := hM0
    refine x_stk (stk' := [.int (zI (t_wk σ ((xs (i + 1)).toInt)))]) (by rw [h33]; rfl) ?_
    refine x_iload C dL_law_1115 1 rfl ?_
    refine z_icmp_eq (tgt := 1122) C dL_law_1117 (by decide) (rg_of (by omega) (by omega)) (rg_of (by omega) (by omega)) (fun c_36 => ?_) (fun c_36 => ?_)
    · refine x_iload C dL_law_1122 1 rfl ?_
      refine z_if_ne (tgt := 1139) C dL_law_1124 (by decide) (rg_of (by omega) (by omega)) (fun c_37 => ?_) (fun c_37 => ?_)
      · refine x_goto (tgt := 1801) C dL_law_1139 (by decide) ?_
        refine x_sub (lv' := [(4, .int (zI (i : Int))), (3, .ref ou), (2, .ref md), (1, .ref xa), (0, .ref b)]) [2, 3, 4, 5, 6] rfl ?_
        exact x_wid (by omega) (by omega) (kk _ _ _ hC.mono hM hOJ hK.mono)
      · exfalso; omega
    · refine z_iconst C dL_law_1120 ?_
      exfalso; omega
set_option maxHeartbeats 4000000 in
set_option maxRecDepth 100000 in
theorem law_rests {E : EE} {G : GG} {z b L : Nat} {xs : Nat → Int32} (C : Cx E G z cL_law RL wsL_law room_1 7) (hX : Sc E b L xs) {cells slots : Nat} (hcs : cells + 64 ≤ room_1.cells ∧ slots + 256 ≤ room_1.slots) {μ : Mm} {i n : Nat} (hi : i + 5 ≤ L) (hn5 : n < 512) {xa md ou : Nat} {σ : SS} {tm : Int} (hC : RepC G z μ xa σ n) (hM : RepM G μ md σ tm) (hOJ : OJx G μ ou) (hK : Kv σ n) (kk : ∀ (μ' : Mm) (σ' : SS) (tm' : Int), RepC G z μ' xa σ' (n + 1) → RepM G μ' md σ' tm' → OJx G μ' ou → Kv σ' (n + 1) → Wx E G (cells + 8) (slots + 64) 1801 [(4, .int (zI (i : Int))), (3, .ref ou), (2, .ref md), (1, .ref xa), (0, .ref b)] [] μ') : Wx E G cells slots 1142 [(4, .int (zI (i : Int))), (3, .ref ou), (2, .ref md), (1, .ref xa), (0, .ref b)] [] μ := by
  have hL4 := hX.2.2.2
  have hi23 := hK.1.n23
  refine x_aload_n C dL_law_1142 rfl 3 rfl ?_
  refine x_aload_n C dL_law_1143 rfl 4 rfl ?_
  refine x_iload C dL_law_1144 0 rfl ?_
  refine z_iconst C dL_law_1146 ?_
  refine z_iadd C dL_law_1147 rfl ?_
  refine z_sld C hX (i + 1) dL_law_1148 (by omega) (by omega) ?_
  have hz1 := zI_rg (xs (i + 1))
  unfold rg at hz1
  refine x_aload_n C dL_law_1149 rfl 1 rfl ?_
  refine x_callSX (n := 3) (cc9 := cells + 1) (ss9 := slots + 6) (rest := []) C dL_law_1150 (c_L_rests (kxL E) C.st G z μ xa md ou σ n tm ((xs (i + 1)).toInt) hC hM hOJ hK hn5 (by omega)) gL_law_L_rests rfl (by decide +kernel) ⟨(Nat.le_of_ble_eq_true rfl), (Nat.le_of_ble_eq_true rfl)⟩ rfl rfl (Nat.le_of_ble_eq_true rfl) rfl rfl ⟨by omega, by omega⟩ nX_no (fun v2 μ3 hv4 => ?_)
  obtain ⟨r5, hw6, hM, hcase⟩ := hv4
  subst hw6
  have htr : 0 ≤ t_wk σ ((xs (i + 1)).toInt) ∧ t_wk σ ((xs (i + 1)).toInt) ≤ 3 := by (unfold t_wk; (repeat split) <;> omega)
  rcases hcase with ⟨hk0, ht0, hC, hOJ⟩ | ⟨ht, hk, hC, hOJ⟩
  · refine x_stk (stk' := [.int (zI 0)]) (by rw [hk0]; rfl) ?_
    refine x_istore (lv' := [(5, .int (zI 0)), (4, .int (zI (i : Int))), (3, .ref ou), (2, .ref md), (1, .ref xa), (0, .ref b)]) C dL_law_1153 (by decide) rfl ?_
    refine x_aload_n C dL_law_1155 rfl 3 rfl ?_
    refine x_aload_n C dL_law_1156 rfl 5 rfl ?_
    refine x_iload C dL_law_1157 1 rfl ?_
    refine z_iconst C dL_law_1159 ?_
    refine z_iadd C dL_law_1160 rfl ?_
    refine z_sld C hX (i + 1) dL_law_1161 (by omega) (by omega) ?_
    obtain ⟨fo9, cm9, Ci9, Su9, A9, hY9⟩ := hM
    refine x_callV (n := 1) (ci := 10) (Cn := RX9) (T := TX9) (N := 29) (cc9 := cells + 1) (ss9 := slots + 6) (rest := []) C dL_law_1162 (c_X9_rests (kxL E) C.st G z μ3 _ σ n _ _ _ _ _ _ ((xs (i + 1)).toInt) hY9 hK.1 (by omega)) gL_law_X9_rests rfl (by decide +kernel) ⟨(Nat.le_of_ble_eq_true rfl), (Nat.le_of_ble_eq_true rfl)⟩ rfl hY9.ob rfl rfl (Nat.le_of_ble_eq_true rfl) rfl rfl ⟨by omega, by omega⟩ nX_no (fun v7 μ8 hv9 => ?_)
    obtain ⟨r10, hw12, hmr, hF9⟩ := hv9
    subst hw12
    have hC : RepC G z μ8 xa (σ) n := hF9.repc hC
    have hOJ : OJ G μ8 ou (bJ ((if σ 15 ((xs (i + 1)).toInt).toNat = -1 ∧ σ 16 ((xs (i + 1)).toInt).toNat = -1 then 1 else 0))) := hF9.oj hOJ
    obtain ⟨hr6, hM⟩ : r10 = (if σ 15 ((xs (i + 1)).toInt).toNat = -1 ∧ σ 16 ((xs (i + 1)).toInt).toNat = -1 then 1 else 0) ∧ RepM G μ8 md (σ) 0 := by (rcases hmr with ⟨a1, a2, a3⟩ | ⟨a1, a2⟩; exact ⟨a2, a3⟩; exact absurd ht0 a1)
    have hbr : (if σ 15 ((xs (i + 1)).toInt).toNat = -1 ∧ σ 16 ((xs (i + 1)).toInt).toNat = -1 then 1 else 0) = (0 : Int) ∨ (if σ 15 ((xs (i + 1)).toInt).toNat = -1 ∧ σ 16 ((xs (i + 1)).toInt).toNat = -1 then 1 else 0) = (1 : Int) := by (split <;> omega)
    refine x_stk (stk' := [.int (zI r10)]) rfl ?_
    refine x_istore (lv' := [(6, .int (zI r10)), (5, .int (zI 0)), (4, .int (zI (i : Int))), (3, .ref ou), (2, .ref md), (1, .ref xa), (0, .ref b)]) C dL_law_1165 (by decide) rfl ?_
    refine x_aload_n C dL_law_1167 rfl 4 rfl ?_
    have hM0 := hM
    obtain ⟨fo9, cm9, Ci9, Su9, A9, hY9⟩ := hM
    refine x_callV (n := 0) (ci := 10) (Cn := RX9) (T := TX9) (N := 29) (cc9 := cells + 1) (ss9 := slots + 6) (rest := []) C dL_law_1168 (c_X9_thrown (kxL E) C.st G z μ8 _ _ n _ _ _ _ _ _ hY9) gL_law_X9_thrown rfl (by decide +kernel) ⟨(Nat.le_of_ble_eq_true rfl), (Nat.le_of_ble_eq_true rfl)⟩ rfl hY9.ob rfl rfl (Nat.le_of_ble_eq_true rfl) rfl rfl ⟨by omega, by omega⟩ nX_no (fun v13 μ14 hv15 => ?_)
    obtain ⟨r16, hw19, h17, hm18⟩ := hv15
    subst hw19
    rw [hm18]
    have hM := hM0
    refine x_stk (stk' := [.int (zI 0)]) (by rw [h17]; rfl) ?_
    refine x_iload C dL_law_1171 1 rfl ?_
    refine z_icmp_eq (tgt := 1178) C dL_law_1173 (by decide) (rg_of (by omega) (by omega)) (rg_of (by omega) (by omega)) (fun c_20 => ?_) (fun c_20 => ?_)
    · refine x_iload C dL_law_1178 1 rfl ?_
      refine z_if_ne (tgt := 1202) C dL_law_1180 (by decide) (rg_of (by omega) (by omega)) (fun c_21 => ?_) (fun c_21 => ?_)
      · exfalso; omega
      · refine x_aload_n C dL_law_1183 rfl 3 rfl ?_
        refine z_iconst C dL_law_1184 ?_
        refine z_lald C dL_law_1185 hOJ ?_
        refine x_iload C dL_law_1186 0 rfl ?_
        refine z_if_eq (tgt := 1195) C dL_law_1188 (by decide) (rg_of (by omega) (by omega)) (fun c_22 => ?_) (fun c_22 => ?_)
        · refine x_lconst (v := (0 : Int64)) C dL_law_1195 rfl ?_
          refine z_lsame C dL_law_1196 (by first | exact bJ0 (by omega) | exact bJ1 (by omega)) ?_
          refine x_stk (stk' := [.int (zI 0)]) rfl ?_
          refine z_if_eq (tgt := 1202) C dL_law_1197 (by decide) (rg_of (by omega) (by omega)) (fun c_23 => ?_) (fun c_23 => ?_)
          · refine x_goto (tgt := 1801) C dL_law_1202 (by decide) ?_
            refine x_sub (lv' := [(4, .int (zI (i : Int))), (3, .ref ou), (2, .ref md), (1, .ref xa), (0, .ref b)]) [2, 3, 4, 5, 6] rfl ?_
            exact x_wid (by omega) (by omega) (kk _ _ _ hC.mono hM hOJ.x hK.mono)
          · exfalso; omega
        · refine x_lconst (v := (1 : Int64)) C dL_law_1191 rfl ?_
          refine x_goto (tgt := 1196) C dL_law_1192 (by decide) ?_
          refine z_lsame C dL_law_1196 (by first | exact bJ0 (by omega) | exact bJ1 (by omega)) ?_
          refine x_stk (stk' := [.int (zI 0)]) rfl ?_
          refine z_if_eq (tgt := 1202) C dL_law_1197 (by decide) (rg_of (by omega) (by omega)) (fun c_24 => ?_) (fun c_24 => ?_)
          · refine x_goto (tgt := 1801) C dL_law_1202 (by decide) ?_
            refine x_sub (lv' := [(4, .int (zI (i : Int))), (3, .ref ou), (2, .ref md), (1, .ref xa), (0, .ref b)]) [2, 3, 4, 5, 6] rfl ?_
            exact x_wid (by omega) (by omega) (kk _ _ _ hC.mono hM hOJ.x hK.mono)
          · exfalso; omega
    · exfalso; omega
  · refine x_stk (stk' := [.int (zI (t_wk σ ((xs (i + 1)).toInt)))]) (by rw [hk]; rfl) ?_
    refine x_istore (lv' := [(5, .int (zI (t_wk σ ((xs (i + 1)).toInt)))), (4, .int (zI (i : Int))), (3, .ref ou), (2, .ref md), (1, .ref xa), (0, .ref b)]) C dL_law_1153 (by decide) rfl ?_
    refine x_aload_n C dL_law_1155 rfl 3 rfl ?_
    refine x_aload_n C dL_law_1156 rfl 5 rfl ?_
    refine x_iload C dL_law_1157 1 rfl ?_
    refine z_iconst C dL_law_1159 ?_
    refine z_iadd C dL_law_1160 rfl ?_
    refine z_sld C hX (i + 1) dL_law_1161 (by omega) (by omega) ?_
    obtain ⟨fo9, cm9, Ci9, Su9, A9, hY9⟩ := hM
    refine x_callV (n := 1) (ci := 10) (Cn := RX9) (T := TX9) (N := 29) (cc9 := cells + 1) (ss9 := slots + 6) (rest := []) C dL_law_1162 (c_X9_rests (kxL E) C.st G z μ3 _ σ n _ _ _ _ _ _ ((xs (i + 1)).toInt) hY9 hK.1 (by omega)) gL_law_X9_rests rfl (by decide +kernel) ⟨(Nat.le_of_ble_eq_true rfl), (Nat.le_of_ble_eq_true rfl)⟩ rfl hY9.ob rfl rfl (Nat.le_of_ble_eq_true rfl) rfl rfl ⟨by omega, by omega⟩ nX_no (fun v25 μ26 hv27 => ?_)
    obtain ⟨r28, hw30, hmr, hF9⟩ := hv27
    subst hw30
    have hC : RepC G z μ26 xa σ n := hF9.repc hC
    have hOJ : OJx G μ26 ou := hF9.ojx hOJ
    have hM : RepM G μ26 md σ (t_wk σ ((xs (i + 1)).toInt)) := by (rcases hmr with ⟨a1, a2, a3⟩ | ⟨a1, a2⟩; exact absurd a1 ht; exact a2)
    refine x_stk (stk' := [.int (zI r28)]) rfl ?_
    refine x_istore (lv' := [(6, .int (zI r28)), (5, .int (zI (t_wk σ ((xs (i + 1)).toInt)))), (4, .int (zI (i : Int))), (3, .ref ou), (2, .ref md), (1, .ref xa), (0, .ref b)]) C dL_law_1165 (by decide) rfl ?_
    refine x_aload_n C dL_law_1167 rfl 4 rfl ?_
    have hM0 := hM
    obtain ⟨fo9, cm9, Ci9, Su9, A9, hY9⟩ := hM
    refine x_callV (n := 0) (ci := 10) (Cn := RX9) (T := TX9) (N := 29) (cc9 := cells + 1) (ss9 := slots + 6) (rest := []) C dL_law_1168 (c_X9_thrown (kxL E) C.st G z μ26 _ _ n _ _ _ _ _ _ hY9) gL_law_X9_thrown rfl (by decide +kernel) ⟨(Nat.le_of_ble_eq_true rfl), (Nat.le_of_ble_eq_true rfl)⟩ rfl hY9.ob rfl rfl (Nat.le_of_ble_eq_true rfl) rfl rfl ⟨by omega, by omega⟩ nX_no (fun v31 μ32 hv33 => ?_)
    obtain ⟨r34, hw37, h35, hm36⟩ := hv33
    subst hw37
    rw [hm36]
    have hM := hM0
    refine x_stk (stk' := [.int (zI (t_wk σ ((xs (i + 1)).toInt)))]) (by rw [h35]; rfl) ?_
    refine x_iload C dL_law_1171 1 rfl ?_
    refine z_icmp_eq (tgt := 1178) C dL_law_1173 (by decide) (rg_of (by omega) (by omega)) (rg_of (by omega) (by omega)) (fun c_38 => ?_) (fun c_38 => ?_)
    · refine x_iload C dL_law_1178 1 rfl ?_
      refine z_if_ne (tgt := 1202) C dL_law_1180 (by decide) (rg_of (by omega) (by omega)) (fun c_39 => ?_) (fun c_39 => ?_)
      · refine x_goto (tgt := 1801) C dL_law_1202 (by decide) ?_
        refine x_sub (lv' := [(4, .int (zI (i : Int))), (3, .ref ou), (2, .ref md), (1, .ref xa), (0, .ref b)]) [2, 3, 4, 5, 6] rfl ?_
        exact x_wid (by omega) (by omega) (kk _ _ _ hC.mono hM hOJ hK.mono)
      · exfalso; omega
    · refine z_iconst C dL_law_1176 ?_
      exfalso; omega
set_option maxHeartbeats 4000000 in
set_option maxRecDepth 100000 in
theorem law_way {E : EE} {G : GG} {z b L : Nat} {xs : Nat → Int32} (C : Cx E G z cL_law RL wsL_law room_1 7) (hX : Sc E b L xs) {cells slots : Nat} (hcs : cells + 64 ≤ room_1.cells ∧ slots + 256 ≤ room_1.slots) {μ : Mm} {i n : Nat} (hi : i + 5 ≤ L) (hn5 : n < 512) {xa md ou : Nat} {σ : SS} {tm : Int} (hC : RepC G z μ xa σ n) (hM : RepM G μ md σ tm) (hOJ : OJx G μ ou) (hK : Kv σ n) (kk : ∀ (μ' : Mm) (σ' : SS) (tm' : Int), RepC G z μ' xa σ' (n + 1) → RepM G μ' md σ' tm' → OJx G μ' ou → Kv σ' (n + 1) → Wx E G (cells + 8) (slots + 64) 1801 [(4, .int (zI (i : Int))), (3, .ref ou), (2, .ref md), (1, .ref xa), (0, .ref b)] [] μ') : Wx E G cells slots 1205 [(4, .int (zI (i : Int))), (3, .ref ou), (2, .ref md), (1, .ref xa), (0, .ref b)] [] μ := by
  have hL4 := hX.2.2.2
  have hi23 := hK.1.n23
  refine x_aload_n C dL_law_1205 rfl 3 rfl ?_
  refine x_aload_n C dL_law_1206 rfl 4 rfl ?_
  refine x_iload C dL_law_1207 0 rfl ?_
  refine z_iconst C dL_law_1209 ?_
  refine z_iadd C dL_law_1210 rfl ?_
  refine z_sld C hX (i + 1) dL_law_1211 (by omega) (by omega) ?_
  have hz1 := zI_rg (xs (i + 1))
  unfold rg at hz1
  refine x_aload_n C dL_law_1212 rfl 4 rfl ?_
  refine x_iload C dL_law_1213 0 rfl ?_
  refine z_iconst C dL_law_1215 ?_
  refine z_iadd C dL_law_1216 rfl ?_
  refine z_sld C hX (i + 2) dL_law_1217 (by omega) (by omega) ?_
  have hz2 := zI_rg (xs (i + 2))
  unfold rg at hz2
  refine x_aload_n C dL_law_1218 rfl 1 rfl ?_
  refine x_callSX (n := 4) (cc9 := cells + 2) (ss9 := slots + 12) (rest := []) C dL_law_1219 (c_L_way (kxL E) C.st G z μ xa md ou σ n tm ((xs (i + 1)).toInt) ((xs (i + 2)).toInt) hC hM hOJ hK hn5 (by omega) (by omega)) gL_law_L_way rfl (by decide +kernel) ⟨(Nat.le_of_ble_eq_true rfl), (Nat.le_of_ble_eq_true rfl)⟩ rfl rfl (Nat.le_of_ble_eq_true rfl) rfl rfl ⟨by omega, by omega⟩ nX_no (fun v3 μ4 hv5 => ?_)
  obtain ⟨r6, hw7, hM, hcase⟩ := hv5
  subst hw7
  have htr : 0 ≤ t_pp ((xs (i + 1)).toInt) ((xs (i + 2)).toInt) ∧ t_pp ((xs (i + 1)).toInt) ((xs (i + 2)).toInt) ≤ 3 := by (unfold t_pp; (repeat split) <;> omega)
  rcases hcase with ⟨hk0, ht0, hC, hOJ⟩ | ⟨ht, hk, hC, hOJ⟩
  · refine x_stk (stk' := [.int (zI 0)]) (by rw [hk0]; rfl) ?_
    refine x_istore (lv' := [(5, .int (zI 0)), (4, .int (zI (i : Int))), (3, .ref ou), (2, .ref md), (1, .ref xa), (0, .ref b)]) C dL_law_1222 (by decide) rfl ?_
    refine x_aload_n C dL_law_1224 rfl 3 rfl ?_
    refine x_aload_n C dL_law_1225 rfl 5 rfl ?_
    refine x_iload C dL_law_1226 1 rfl ?_
    refine z_iconst C dL_law_1228 ?_
    refine z_iadd C dL_law_1229 rfl ?_
    refine z_sld C hX (i + 1) dL_law_1230 (by omega) (by omega) ?_
    refine x_aload_n C dL_law_1231 rfl 5 rfl ?_
    refine x_iload C dL_law_1232 1 rfl ?_
    refine z_iconst C dL_law_1234 ?_
    refine z_iadd C dL_law_1235 rfl ?_
    refine z_sld C hX (i + 2) dL_law_1236 (by omega) (by omega) ?_
    obtain ⟨fo9, cm9, Ci9, Su9, A9, hY9⟩ := hM
    refine x_callV (n := 2) (ci := 10) (Cn := RX9) (T := TX9) (N := 29) (cc9 := cells + 2) (ss9 := slots + 12) (rest := []) C dL_law_1237 (c_X9_way (kxL E) C.st G z μ4 _ σ n _ _ _ _ _ _ ((xs (i + 1)).toInt) ((xs (i + 2)).toInt) hY9 hK.1 (by omega) (by omega)) gL_law_X9_way rfl (by decide +kernel) ⟨(Nat.le_of_ble_eq_true rfl), (Nat.le_of_ble_eq_true rfl)⟩ rfl hY9.ob rfl rfl (Nat.le_of_ble_eq_true rfl) rfl rfl ⟨by omega, by omega⟩ nX_no (fun v8 μ9 hv10 => ?_)
    obtain ⟨r11, hw13, hmr, hF9⟩ := hv10
    subst hw13
    have hC : RepC G z μ9 xa (σ) n := hF9.repc hC
    have hOJ : OJ G μ9 ou ((zI (b_way σ ((xs (i + 1)).toInt) ((xs (i + 2)).toInt))).toInt64) := hF9.oj hOJ
    obtain ⟨hr6, hM⟩ : r11 = b_way σ ((xs (i + 1)).toInt) ((xs (i + 2)).toInt) ∧ RepM G μ9 md (σ) 0 := by (rcases hmr with ⟨a1, a2, a3⟩ | ⟨a1, a2⟩; exact ⟨a2, a3⟩; exact absurd ht0 a1)
    refine x_stk (stk' := [.int (zI r11)]) rfl ?_
    refine x_istore (lv' := [(6, .int (zI r11)), (5, .int (zI 0)), (4, .int (zI (i : Int))), (3, .ref ou), (2, .ref md), (1, .ref xa), (0, .ref b)]) C dL_law_1240 (by decide) rfl ?_
    refine x_aload_n C dL_law_1242 rfl 4 rfl ?_
    have hM0 := hM
    obtain ⟨fo9, cm9, Ci9, Su9, A9, hY9⟩ := hM
    refine x_callV (n := 0) (ci := 10) (Cn := RX9) (T := TX9) (N := 29) (cc9 := cells + 2) (ss9 := slots + 12) (rest := []) C dL_law_1243 (c_X9_thrown (kxL E) C.st G z μ9 _ _ n _ _ _ _ _ _ hY9) gL_law_X9_thrown rfl (by decide +kernel) ⟨(Nat.le_of_ble_eq_true rfl), (Nat.le_of_ble_eq_true rfl)⟩ rfl hY9.ob rfl rfl (Nat.le_of_ble_eq_true rfl) rfl rfl ⟨by omega, by omega⟩ nX_no (fun v14 μ15 hv16 => ?_)
    obtain ⟨r17, hw20, h18, hm19⟩ := hv16
    subst hw20
    rw [hm19]
    have hM := hM0
    refine x_stk (stk' := [.int (zI 0)]) (by rw [h18]; rfl) ?_
    refine x_iload C dL_law_1246 1 rfl ?_
    refine z_icmp_eq (tgt := 1253) C dL_law_1248 (by decide) (rg_of (by omega) (by omega)) (rg_of (by omega) (by omega)) (fun c_21 => ?_) (fun c_21 => ?_)
    · refine x_iload C dL_law_1253 1 rfl ?_
      refine z_if_ne (tgt := 1270) C dL_law_1255 (by decide) (rg_of (by omega) (by omega)) (fun c_22 => ?_) (fun c_22 => ?_)
      · exfalso; omega
      · refine x_aload_n C dL_law_1258 rfl 3 rfl ?_
        refine z_iconst C dL_law_1259 ?_
        refine z_lald C dL_law_1260 hOJ ?_
        refine x_iload C dL_law_1261 0 rfl ?_
        refine z_i2l C dL_law_1263 ?_
        refine z_lsame C dL_law_1264 (by rw [hr6]) ?_
        refine x_stk (stk' := [.int (zI 0)]) rfl ?_
        refine z_if_eq (tgt := 1270) C dL_law_1265 (by decide) (rg_of (by omega) (by omega)) (fun c_23 => ?_) (fun c_23 => ?_)
        · refine x_goto (tgt := 1801) C dL_law_1270 (by decide) ?_
          refine x_sub (lv' := [(4, .int (zI (i : Int))), (3, .ref ou), (2, .ref md), (1, .ref xa), (0, .ref b)]) [2, 3, 4, 5, 6] rfl ?_
          exact x_wid (by omega) (by omega) (kk _ _ _ hC.mono hM hOJ.x hK.mono)
        · exfalso; omega
    · exfalso; omega
  · refine x_stk (stk' := [.int (zI (t_pp ((xs (i + 1)).toInt) ((xs (i + 2)).toInt)))]) (by rw [hk]; rfl) ?_
    refine x_istore (lv' := [(5, .int (zI (t_pp ((xs (i + 1)).toInt) ((xs (i + 2)).toInt)))), (4, .int (zI (i : Int))), (3, .ref ou), (2, .ref md), (1, .ref xa), (0, .ref b)]) C dL_law_1222 (by decide) rfl ?_
    refine x_aload_n C dL_law_1224 rfl 3 rfl ?_
    refine x_aload_n C dL_law_1225 rfl 5 rfl ?_
    refine x_iload C dL_law_1226 1 rfl ?_
    refine z_iconst C dL_law_1228 ?_
    refine z_iadd C dL_law_1229 rfl ?_
    refine z_sld C hX (i + 1) dL_law_1230 (by omega) (by omega) ?_
    refine x_aload_n C dL_law_1231 rfl 5 rfl ?_
    refine x_iload C dL_law_1232 1 rfl ?_
    refine z_iconst C dL_law_1234 ?_
    refine z_iadd C dL_law_1235 rfl ?_
    refine z_sld C hX (i + 2) dL_law_1236 (by omega) (by omega) ?_
    obtain ⟨fo9, cm9, Ci9, Su9, A9, hY9⟩ := hM
    refine x_callV (n := 2) (ci := 10) (Cn := RX9) (T := TX9) (N := 29) (cc9 := cells + 2) (ss9 := slots + 12) (rest := []) C dL_law_1237 (c_X9_way (kxL E) C.st G z μ4 _ σ n _ _ _ _ _ _ ((xs (i + 1)).toInt) ((xs (i + 2)).toInt) hY9 hK.1 (by omega) (by omega)) gL_law_X9_way rfl (by decide +kernel) ⟨(Nat.le_of_ble_eq_true rfl), (Nat.le_of_ble_eq_true rfl)⟩ rfl hY9.ob rfl rfl (Nat.le_of_ble_eq_true rfl) rfl rfl ⟨by omega, by omega⟩ nX_no (fun v24 μ25 hv26 => ?_)
    obtain ⟨r27, hw29, hmr, hF9⟩ := hv26
    subst hw29
    have hC : RepC G z μ25 xa σ n := hF9.repc hC
    have hOJ : OJx G μ25 ou := hF9.ojx hOJ
    have hM : RepM G μ25 md σ (t_pp ((xs (i + 1)).toInt) ((xs (i + 2)).toInt)) := by (rcases hmr with ⟨a1, a2, a3⟩ | ⟨a1, a2⟩; exact absurd a1 ht; exact a2)
    refine x_stk (stk' := [.int (zI r27)]) rfl ?_
    refine x_istore (lv' := [(6, .int (zI r27)), (5, .int (zI (t_pp ((xs (i + 1)).toInt) ((xs (i + 2)).toInt)))), (4, .int (zI (i : Int))), (3, .ref ou), (2, .ref md), (1, .ref xa), (0, .ref b)]) C dL_law_1240 (by decide) rfl ?_
    refine x_aload_n C dL_law_1242 rfl 4 rfl ?_
    have hM0 := hM
    obtain ⟨fo9, cm9, Ci9, Su9, A9, hY9⟩ := hM
    refine x_callV (n := 0) (ci := 10) (Cn := RX9) (T := TX9) (N := 29) (cc9 := cells + 2) (ss9 := slots + 12) (rest := []) C dL_law_1243 (c_X9_thrown (kxL E) C.st G z μ25 _ _ n _ _ _ _ _ _ hY9) gL_law_X9_thrown rfl (by decide +kernel) ⟨(Nat.le_of_ble_eq_true rfl), (Nat.le_of_ble_eq_true rfl)⟩ rfl hY9.ob rfl rfl (Nat.le_of_ble_eq_true rfl) rfl rfl ⟨by omega, by omega⟩ nX_no (fun v30 μ31 hv32 => ?_)
    obtain ⟨r33, hw36, h34, hm35⟩ := hv32
    subst hw36
    rw [hm35]
    have hM := hM0
    refine x_stk (stk' := [.int (zI (t_pp ((xs (i + 1)).toInt) ((xs (i + 2)).toInt)))]) (by rw [h34]; rfl) ?_
    refine x_iload C dL_law_1246 1 rfl ?_
    refine z_icmp_eq (tgt := 1253) C dL_law_1248 (by decide) (rg_of (by omega) (by omega)) (rg_of (by omega) (by omega)) (fun c_37 => ?_) (fun c_37 => ?_)
    · refine x_iload C dL_law_1253 1 rfl ?_
      refine z_if_ne (tgt := 1270) C dL_law_1255 (by decide) (rg_of (by omega) (by omega)) (fun c_38 => ?_) (fun c_38 => ?_)
      · refine x_goto (tgt := 1801) C dL_law_1270 (by decide) ?_
        refine x_sub (lv' := [(4, .int (zI (i : Int))), (3, .ref ou), (2, .ref md), (1, .ref xa), (0, .ref b)]) [2, 3, 4, 5, 6] rfl ?_
        exact x_wid (by omega) (by omega) (kk _ _ _ hC.mono hM hOJ hK.mono)
      · exfalso; omega
    · refine z_iconst C dL_law_1251 ?_
      exfalso; omega
set_option maxHeartbeats 4000000 in
set_option maxRecDepth 100000 in
theorem law_wayByRounds {E : EE} {G : GG} {z b L : Nat} {xs : Nat → Int32} (C : Cx E G z cL_law RL wsL_law room_1 7) (hX : Sc E b L xs) {cells slots : Nat} (hcs : cells + 64 ≤ room_1.cells ∧ slots + 256 ≤ room_1.slots) {μ : Mm} {i n : Nat} (hi : i + 5 ≤ L) (hn5 : n < 512) {xa md ou : Nat} {σ : SS} {tm : Int} (hC : RepC G z μ xa σ n) (hM : RepM G μ md σ tm) (hOJ : OJx G μ ou) (hK : Kv σ n) (kk : ∀ (μ' : Mm) (σ' : SS) (tm' : Int), RepC G z μ' xa σ' (n + 1) → RepM G μ' md σ' tm' → OJx G μ' ou → Kv σ' (n + 1) → Wx E G (cells + 8) (slots + 64) 1801 [(4, .int (zI (i : Int))), (3, .ref ou), (2, .ref md), (1, .ref xa), (0, .ref b)] [] μ') : Wx E G cells slots 1273 [(4, .int (zI (i : Int))), (3, .ref ou), (2, .ref md), (1, .ref xa), (0, .ref b)] [] μ := by
  have hL4 := hX.2.2.2
  have hi23 := hK.1.n23
  refine x_aload_n C dL_law_1273 rfl 3 rfl ?_
  refine x_aload_n C dL_law_1274 rfl 4 rfl ?_
  refine x_iload C dL_law_1275 0 rfl ?_
  refine z_iconst C dL_law_1277 ?_
  refine z_iadd C dL_law_1278 rfl ?_
  refine z_sld C hX (i + 1) dL_law_1279 (by omega) (by omega) ?_
  have hz1 := zI_rg (xs (i + 1))
  unfold rg at hz1
  refine x_aload_n C dL_law_1280 rfl 4 rfl ?_
  refine x_iload C dL_law_1281 0 rfl ?_
  refine z_iconst C dL_law_1283 ?_
  refine z_iadd C dL_law_1284 rfl ?_
  refine z_sld C hX (i + 2) dL_law_1285 (by omega) (by omega) ?_
  have hz2 := zI_rg (xs (i + 2))
  unfold rg at hz2
  refine x_aload_n C dL_law_1286 rfl 1 rfl ?_
  refine x_callSX (n := 4) (cc9 := cells + 2) (ss9 := slots + 12) (rest := []) C dL_law_1287 (c_L_wayByRounds (kxL E) C.st G z μ xa md ou σ n tm ((xs (i + 1)).toInt) ((xs (i + 2)).toInt) hC hM hOJ hK hn5 (by omega) (by omega)) gL_law_L_wayByRounds rfl (by decide +kernel) ⟨(Nat.le_of_ble_eq_true rfl), (Nat.le_of_ble_eq_true rfl)⟩ rfl rfl (Nat.le_of_ble_eq_true rfl) rfl rfl ⟨by omega, by omega⟩ nX_no (fun v3 μ4 hv5 => ?_)
  obtain ⟨r6, hw7, hM, hcase⟩ := hv5
  subst hw7
  have htr : 0 ≤ t_pp ((xs (i + 1)).toInt) ((xs (i + 2)).toInt) ∧ t_pp ((xs (i + 1)).toInt) ((xs (i + 2)).toInt) ≤ 3 := by (unfold t_pp; (repeat split) <;> omega)
  rcases hcase with ⟨hk0, ht0, hC, hOJ⟩ | ⟨ht, hk, hC, hOJ⟩
  · refine x_stk (stk' := [.int (zI 0)]) (by rw [hk0]; rfl) ?_
    refine x_istore (lv' := [(5, .int (zI 0)), (4, .int (zI (i : Int))), (3, .ref ou), (2, .ref md), (1, .ref xa), (0, .ref b)]) C dL_law_1290 (by decide) rfl ?_
    refine x_aload_n C dL_law_1292 rfl 3 rfl ?_
    refine x_aload_n C dL_law_1293 rfl 5 rfl ?_
    refine x_iload C dL_law_1294 1 rfl ?_
    refine z_iconst C dL_law_1296 ?_
    refine z_iadd C dL_law_1297 rfl ?_
    refine z_sld C hX (i + 1) dL_law_1298 (by omega) (by omega) ?_
    refine x_aload_n C dL_law_1299 rfl 5 rfl ?_
    refine x_iload C dL_law_1300 1 rfl ?_
    refine z_iconst C dL_law_1302 ?_
    refine z_iadd C dL_law_1303 rfl ?_
    refine z_sld C hX (i + 2) dL_law_1304 (by omega) (by omega) ?_
    obtain ⟨fo9, cm9, Ci9, Su9, A9, hY9⟩ := hM
    refine x_callV (n := 2) (ci := 10) (Cn := RX9) (T := TX9) (N := 29) (cc9 := cells + 2) (ss9 := slots + 12) (rest := []) C dL_law_1305 (c_X9_wayByRounds (kxL E) C.st G z μ4 _ σ n _ _ _ _ _ _ ((xs (i + 1)).toInt) ((xs (i + 2)).toInt) hY9 hK.1 (by omega) (by omega)) gL_law_X9_wayByRounds rfl (by decide +kernel) ⟨(Nat.le_of_ble_eq_true rfl), (Nat.le_of_ble_eq_true rfl)⟩ rfl hY9.ob rfl rfl (Nat.le_of_ble_eq_true rfl) rfl rfl ⟨by omega, by omega⟩ nX_no (fun v8 μ9 hv10 => ?_)
    obtain ⟨r11, hw13, hmr, hF9⟩ := hv10
    subst hw13
    have hC : RepC G z μ9 xa (σ) n := hF9.repc hC
    have hOJ : OJ G μ9 ou ((zI (b_way σ ((xs (i + 1)).toInt) ((xs (i + 2)).toInt))).toInt64) := hF9.oj hOJ
    obtain ⟨hr6, hM⟩ : r11 = b_way σ ((xs (i + 1)).toInt) ((xs (i + 2)).toInt) ∧ RepM G μ9 md (σ) 0 := by (rcases hmr with ⟨a1, a2, a3⟩ | ⟨a1, a2⟩; exact ⟨a2, a3⟩; exact absurd ht0 a1)
    refine x_stk (stk' := [.int (zI r11)]) rfl ?_
    refine x_istore (lv' := [(6, .int (zI r11)), (5, .int (zI 0)), (4, .int (zI (i : Int))), (3, .ref ou), (2, .ref md), (1, .ref xa), (0, .ref b)]) C dL_law_1308 (by decide) rfl ?_
    refine x_aload_n C dL_law_1310 rfl 4 rfl ?_
    have hM0 := hM
    obtain ⟨fo9, cm9, Ci9, Su9, A9, hY9⟩ := hM
    refine x_callV (n := 0) (ci := 10) (Cn := RX9) (T := TX9) (N := 29) (cc9 := cells + 2) (ss9 := slots + 12) (rest := []) C dL_law_1311 (c_X9_thrown (kxL E) C.st G z μ9 _ _ n _ _ _ _ _ _ hY9) gL_law_X9_thrown rfl (by decide +kernel) ⟨(Nat.le_of_ble_eq_true rfl), (Nat.le_of_ble_eq_true rfl)⟩ rfl hY9.ob rfl rfl (Nat.le_of_ble_eq_true rfl) rfl rfl ⟨by omega, by omega⟩ nX_no (fun v14 μ15 hv16 => ?_)
    obtain ⟨r17, hw20, h18, hm19⟩ := hv16
    subst hw20
    rw [hm19]
    have hM := hM0
    refine x_stk (stk' := [.int (zI 0)]) (by rw [h18]; rfl) ?_
    refine x_iload C dL_law_1314 1 rfl ?_
    refine z_icmp_eq (tgt := 1321) C dL_law_1316 (by decide) (rg_of (by omega) (by omega)) (rg_of (by omega) (by omega)) (fun c_21 => ?_) (fun c_21 => ?_)
    · refine x_iload C dL_law_1321 1 rfl ?_
      refine z_if_ne (tgt := 1338) C dL_law_1323 (by decide) (rg_of (by omega) (by omega)) (fun c_22 => ?_) (fun c_22 => ?_)
      · exfalso; omega
      · refine x_aload_n C dL_law_1326 rfl 3 rfl ?_
        refine z_iconst C dL_law_1327 ?_
        refine z_lald C dL_law_1328 hOJ ?_
        refine x_iload C dL_law_1329 0 rfl ?_
        refine z_i2l C dL_law_1331 ?_
        refine z_lsame C dL_law_1332 (by rw [hr6]) ?_
        refine x_stk (stk' := [.int (zI 0)]) rfl ?_
        refine z_if_eq (tgt := 1338) C dL_law_1333 (by decide) (rg_of (by omega) (by omega)) (fun c_23 => ?_) (fun c_23 => ?_)
        · refine x_goto (tgt := 1801) C dL_law_1338 (by decide) ?_
          refine x_sub (lv' := [(4, .int (zI (i : Int))), (3, .ref ou), (2, .ref md), (1, .ref xa), (0, .ref b)]) [2, 3, 4, 5, 6] rfl ?_
          exact x_wid (by omega) (by omega) (kk _ _ _ hC.mono hM hOJ.x hK.mono)
        · exfalso; omega
    · exfalso; omega
  · refine x_stk (stk' := [.int (zI (t_pp ((xs (i + 1)).toInt) ((xs (i + 2)).toInt)))]) (by rw [hk]; rfl) ?_
    refine x_istore (lv' := [(5, .int (zI (t_pp ((xs (i + 1)).toInt) ((xs (i + 2)).toInt)))), (4, .int (zI (i : Int))), (3, .ref ou), (2, .ref md), (1, .ref xa), (0, .ref b)]) C dL_law_1290 (by decide) rfl ?_
    refine x_aload_n C dL_law_1292 rfl 3 rfl ?_
    refine x_aload_n C dL_law_1293 rfl 5 rfl ?_
    refine x_iload C dL_law_1294 1 rfl ?_
    refine z_iconst C dL_law_1296 ?_
    refine z_iadd C dL_law_1297 rfl ?_
    refine z_sld C hX (i + 1) dL_law_1298 (by omega) (by omega) ?_
    refine x_aload_n C dL_law_1299 rfl 5 rfl ?_
    refine x_iload C dL_law_1300 1 rfl ?_
    refine z_iconst C dL_law_1302 ?_
    refine z_iadd C dL_law_1303 rfl ?_
    refine z_sld C hX (i + 2) dL_law_1304 (by omega) (by omega) ?_
    obtain ⟨fo9, cm9, Ci9, Su9, A9, hY9⟩ := hM
    refine x_callV (n := 2) (ci := 10) (Cn := RX9) (T := TX9) (N := 29) (cc9 := cells + 2) (ss9 := slots + 12) (rest := []) C dL_law_1305 (c_X9_wayByRounds (kxL E) C.st G z μ4 _ σ n _ _ _ _ _ _ ((xs (i + 1)).toInt) ((xs (i + 2)).toInt) hY9 hK.1 (by omega) (by omega)) gL_law_X9_wayByRounds rfl (by decide +kernel) ⟨(Nat.le_of_ble_eq_true rfl), (Nat.le_of_ble_eq_true rfl)⟩ rfl hY9.ob rfl rfl (Nat.le_of_ble_eq_true rfl) rfl rfl ⟨by omega, by omega⟩ nX_no (fun v24 μ25 hv26 => ?_)
    obtain ⟨r27, hw29, hmr, hF9⟩ := hv26
    subst hw29
    have hC : RepC G z μ25 xa σ n := hF9.repc hC
    have hOJ : OJx G μ25 ou := hF9.ojx hOJ
    have hM : RepM G μ25 md σ (t_pp ((xs (i + 1)).toInt) ((xs (i + 2)).toInt)) := by (rcases hmr with ⟨a1, a2, a3⟩ | ⟨a1, a2⟩; exact absurd a1 ht; exact a2)
    refine x_stk (stk' := [.int (zI r27)]) rfl ?_
    refine x_istore (lv' := [(6, .int (zI r27)), (5, .int (zI (t_pp ((xs (i + 1)).toInt) ((xs (i + 2)).toInt)))), (4, .int (zI (i : Int))), (3, .ref ou), (2, .ref md), (1, .ref xa), (0, .ref b)]) C dL_law_1308 (by decide) rfl ?_
    refine x_aload_n C dL_law_1310 rfl 4 rfl ?_
    have hM0 := hM
    obtain ⟨fo9, cm9, Ci9, Su9, A9, hY9⟩ := hM
    refine x_callV (n := 0) (ci := 10) (Cn := RX9) (T := TX9) (N := 29) (cc9 := cells + 2) (ss9 := slots + 12) (rest := []) C dL_law_1311 (c_X9_thrown (kxL E) C.st G z μ25 _ _ n _ _ _ _ _ _ hY9) gL_law_X9_thrown rfl (by decide +kernel) ⟨(Nat.le_of_ble_eq_true rfl), (Nat.le_of_ble_eq_true rfl)⟩ rfl hY9.ob rfl rfl (Nat.le_of_ble_eq_true rfl) rfl rfl ⟨by omega, by omega⟩ nX_no (fun v30 μ31 hv32 => ?_)
    obtain ⟨r33, hw36, h34, hm35⟩ := hv32
    subst hw36
    rw [hm35]
    have hM := hM0
    refine x_stk (stk' := [.int (zI (t_pp ((xs (i + 1)).toInt) ((xs (i + 2)).toInt)))]) (by rw [h34]; rfl) ?_
    refine x_iload C dL_law_1314 1 rfl ?_
    refine z_icmp_eq (tgt := 1321) C dL_law_1316 (by decide) (rg_of (by omega) (by omega)) (rg_of (by omega) (by omega)) (fun c_37 => ?_) (fun c_37 => ?_)
    · refine x_iload C dL_law_1321 1 rfl ?_
      refine z_if_ne (tgt := 1338) C dL_law_1323 (by decide) (rg_of (by omega) (by omega)) (fun c_38 => ?_) (fun c_38 => ?_)
      · refine x_goto (tgt := 1801) C dL_law_1338 (by decide) ?_
        refine x_sub (lv' := [(4, .int (zI (i : Int))), (3, .ref ou), (2, .ref md), (1, .ref xa), (0, .ref b)]) [2, 3, 4, 5, 6] rfl ?_
        exact x_wid (by omega) (by omega) (kk _ _ _ hC.mono hM hOJ hK.mono)
      · exfalso; omega
    · refine z_iconst C dL_law_1319 ?_
      exfalso; omega
set_option maxHeartbeats 4000000 in
set_option maxRecDepth 100000 in
theorem law_addWarden {E : EE} {G : GG} {z b L : Nat} {xs : Nat → Int32} (C : Cx E G z cL_law RL wsL_law room_1 7) (hX : Sc E b L xs) {cells slots : Nat} (hcs : cells + 64 ≤ room_1.cells ∧ slots + 256 ≤ room_1.slots) {μ : Mm} {i n : Nat} (hi : i + 5 ≤ L) (hn5 : n < 512) {xa md ou : Nat} {σ : SS} {tm : Int} (hC : RepC G z μ xa σ n) (hM : RepM G μ md σ tm) (hOJ : OJx G μ ou) (hK : Kv σ n) (kk : ∀ (μ' : Mm) (σ' : SS) (tm' : Int), RepC G z μ' xa σ' (n + 1) → RepM G μ' md σ' tm' → OJx G μ' ou → Kv σ' (n + 1) → Wx E G (cells + 8) (slots + 64) 1801 [(4, .int (zI (i : Int))), (3, .ref ou), (2, .ref md), (1, .ref xa), (0, .ref b)] [] μ') : Wx E G cells slots 1341 [(4, .int (zI (i : Int))), (3, .ref ou), (2, .ref md), (1, .ref xa), (0, .ref b)] [] μ := by
  have hL4 := hX.2.2.2
  have hi23 := hK.1.n23
  refine x_aload_n C dL_law_1341 rfl 3 rfl ?_
  refine x_aload_n C dL_law_1342 rfl 4 rfl ?_
  refine x_iload C dL_law_1343 0 rfl ?_
  refine z_iconst C dL_law_1345 ?_
  refine z_iadd C dL_law_1346 rfl ?_
  refine z_sld C hX (i + 1) dL_law_1347 (by omega) (by omega) ?_
  have hz1 := zI_rg (xs (i + 1))
  unfold rg at hz1
  refine x_aload_n C dL_law_1348 rfl 1 rfl ?_
  refine x_callSX (n := 3) (cc9 := cells + 2) (ss9 := slots + 12) (rest := []) C dL_law_1349 (c_L_addWarden (kxL E) C.st G z μ xa md ou σ n tm ((xs (i + 1)).toInt) hC hM hOJ hK hn5 (by omega)) gL_law_L_addWarden rfl (by decide +kernel) ⟨(Nat.le_of_ble_eq_true rfl), (Nat.le_of_ble_eq_true rfl)⟩ rfl rfl (Nat.le_of_ble_eq_true rfl) rfl rfl ⟨by omega, by omega⟩ nX_no (fun v2 μ3 hv4 => ?_)
  obtain ⟨r5, hw6, hM, hcase⟩ := hv4
  subst hw6
  have htr : 0 ≤ t_addWarden σ ((xs (i + 1)).toInt) ∧ t_addWarden σ ((xs (i + 1)).toInt) ≤ 3 := by (unfold t_addWarden; (repeat split) <;> omega)
  rcases hcase with ⟨hk0, ht0, hC, hOJ⟩ | ⟨ht, hk, hC, hOJ⟩
  · refine x_stk (stk' := [.int (zI 0)]) (by rw [hk0]; rfl) ?_
    refine x_istore (lv' := [(5, .int (zI 0)), (4, .int (zI (i : Int))), (3, .ref ou), (2, .ref md), (1, .ref xa), (0, .ref b)]) C dL_law_1352 (by decide) rfl ?_
    refine x_aload_n C dL_law_1354 rfl 3 rfl ?_
    refine x_aload_n C dL_law_1355 rfl 5 rfl ?_
    refine x_iload C dL_law_1356 1 rfl ?_
    refine z_iconst C dL_law_1358 ?_
    refine z_iadd C dL_law_1359 rfl ?_
    refine z_sld C hX (i + 1) dL_law_1360 (by omega) (by omega) ?_
    obtain ⟨fo9, cm9, Ci9, Su9, A9, hY9⟩ := hM
    refine x_callV (n := 1) (ci := 10) (Cn := RX9) (T := TX9) (N := 29) (cc9 := cells + 2) (ss9 := slots + 12) (rest := []) C dL_law_1361 (c_X9_addWarden (kxL E) C.st G z μ3 _ σ n _ _ _ _ _ _ ((xs (i + 1)).toInt) hY9 hK.1 (by omega)) gL_law_X9_addWarden rfl (by decide +kernel) ⟨(Nat.le_of_ble_eq_true rfl), (Nat.le_of_ble_eq_true rfl)⟩ rfl hY9.ob rfl rfl (Nat.le_of_ble_eq_true rfl) rfl rfl ⟨by omega, by omega⟩ nX_no (fun v7 μ8 hv9 => ?_)
    obtain ⟨r10, hw12, hmr, hF9⟩ := hv9
    subst hw12
    have hC : RepC G z μ8 xa (n_addWarden σ ((xs (i + 1)).toInt)) n := hF9.repc hC
    have hOJ : OJ G μ8 ou ((zI (σ 18 0)).toInt64) := hF9.oj hOJ
    obtain ⟨hr6, hM⟩ : r10 = σ 18 0 ∧ RepM G μ8 md (n_addWarden σ ((xs (i + 1)).toInt)) 0 := by (rcases hmr with ⟨a1, a2, a3⟩ | ⟨a1, a2⟩; exact ⟨a2, a3⟩; exact absurd ht0 a1)
    refine x_stk (stk' := [.int (zI r10)]) rfl ?_
    refine x_istore (lv' := [(6, .int (zI r10)), (5, .int (zI 0)), (4, .int (zI (i : Int))), (3, .ref ou), (2, .ref md), (1, .ref xa), (0, .ref b)]) C dL_law_1364 (by decide) rfl ?_
    refine x_aload_n C dL_law_1366 rfl 4 rfl ?_
    have hM0 := hM
    obtain ⟨fo9, cm9, Ci9, Su9, A9, hY9⟩ := hM
    refine x_callV (n := 0) (ci := 10) (Cn := RX9) (T := TX9) (N := 29) (cc9 := cells + 2) (ss9 := slots + 12) (rest := []) C dL_law_1367 (c_X9_thrown (kxL E) C.st G z μ8 _ _ n _ _ _ _ _ _ hY9) gL_law_X9_thrown rfl (by decide +kernel) ⟨(Nat.le_of_ble_eq_true rfl), (Nat.le_of_ble_eq_true rfl)⟩ rfl hY9.ob rfl rfl (Nat.le_of_ble_eq_true rfl) rfl rfl ⟨by omega, by omega⟩ nX_no (fun v13 μ14 hv15 => ?_)
    obtain ⟨r16, hw19, h17, hm18⟩ := hv15
    subst hw19
    rw [hm18]
    have hM := hM0
    refine x_stk (stk' := [.int (zI 0)]) (by rw [h17]; rfl) ?_
    refine x_iload C dL_law_1370 1 rfl ?_
    refine z_icmp_eq (tgt := 1377) C dL_law_1372 (by decide) (rg_of (by omega) (by omega)) (rg_of (by omega) (by omega)) (fun c_20 => ?_) (fun c_20 => ?_)
    · refine x_iload C dL_law_1377 1 rfl ?_
      refine z_if_ne (tgt := 1394) C dL_law_1379 (by decide) (rg_of (by omega) (by omega)) (fun c_21 => ?_) (fun c_21 => ?_)
      · exfalso; omega
      · refine x_aload_n C dL_law_1382 rfl 3 rfl ?_
        refine z_iconst C dL_law_1383 ?_
        refine z_lald C dL_law_1384 hOJ ?_
        refine x_iload C dL_law_1385 0 rfl ?_
        refine z_i2l C dL_law_1387 ?_
        refine z_lsame C dL_law_1388 (by rw [hr6]) ?_
        refine x_stk (stk' := [.int (zI 0)]) rfl ?_
        refine z_if_eq (tgt := 1394) C dL_law_1389 (by decide) (rg_of (by omega) (by omega)) (fun c_22 => ?_) (fun c_22 => ?_)
        · refine x_goto (tgt := 1801) C dL_law_1394 (by decide) ?_
          refine x_sub (lv' := [(4, .int (zI (i : Int))), (3, .ref ou), (2, .ref md), (1, .ref xa), (0, .ref b)]) [2, 3, 4, 5, 6] rfl ?_
          exact x_wid (by omega) (by omega) (kk _ _ _ hC.mono hM hOJ.x (Kv_addWarden hK ht0).mono)
        · exfalso; omega
    · exfalso; omega
  · refine x_stk (stk' := [.int (zI (t_addWarden σ ((xs (i + 1)).toInt)))]) (by rw [hk]; rfl) ?_
    refine x_istore (lv' := [(5, .int (zI (t_addWarden σ ((xs (i + 1)).toInt)))), (4, .int (zI (i : Int))), (3, .ref ou), (2, .ref md), (1, .ref xa), (0, .ref b)]) C dL_law_1352 (by decide) rfl ?_
    refine x_aload_n C dL_law_1354 rfl 3 rfl ?_
    refine x_aload_n C dL_law_1355 rfl 5 rfl ?_
    refine x_iload C dL_law_1356 1 rfl ?_
    refine z_iconst C dL_law_1358 ?_
    refine z_iadd C dL_law_1359 rfl ?_
    refine z_sld C hX (i + 1) dL_law_1360 (by omega) (by omega) ?_
    obtain ⟨fo9, cm9, Ci9, Su9, A9, hY9⟩ := hM
    refine x_callV (n := 1) (ci := 10) (Cn := RX9) (T := TX9) (N := 29) (cc9 := cells + 2) (ss9 := slots + 12) (rest := []) C dL_law_1361 (c_X9_addWarden (kxL E) C.st G z μ3 _ σ n _ _ _ _ _ _ ((xs (i + 1)).toInt) hY9 hK.1 (by omega)) gL_law_X9_addWarden rfl (by decide +kernel) ⟨(Nat.le_of_ble_eq_true rfl), (Nat.le_of_ble_eq_true rfl)⟩ rfl hY9.ob rfl rfl (Nat.le_of_ble_eq_true rfl) rfl rfl ⟨by omega, by omega⟩ nX_no (fun v23 μ24 hv25 => ?_)
    obtain ⟨r26, hw28, hmr, hF9⟩ := hv25
    subst hw28
    have hC : RepC G z μ24 xa σ n := hF9.repc hC
    have hOJ : OJx G μ24 ou := hF9.ojx hOJ
    have hM : RepM G μ24 md σ (t_addWarden σ ((xs (i + 1)).toInt)) := by (rcases hmr with ⟨a1, a2, a3⟩ | ⟨a1, a2⟩; exact absurd a1 ht; exact a2)
    refine x_stk (stk' := [.int (zI r26)]) rfl ?_
    refine x_istore (lv' := [(6, .int (zI r26)), (5, .int (zI (t_addWarden σ ((xs (i + 1)).toInt)))), (4, .int (zI (i : Int))), (3, .ref ou), (2, .ref md), (1, .ref xa), (0, .ref b)]) C dL_law_1364 (by decide) rfl ?_
    refine x_aload_n C dL_law_1366 rfl 4 rfl ?_
    have hM0 := hM
    obtain ⟨fo9, cm9, Ci9, Su9, A9, hY9⟩ := hM
    refine x_callV (n := 0) (ci := 10) (Cn := RX9) (T := TX9) (N := 29) (cc9 := cells + 2) (ss9 := slots + 12) (rest := []) C dL_law_1367 (c_X9_thrown (kxL E) C.st G z μ24 _ _ n _ _ _ _ _ _ hY9) gL_law_X9_thrown rfl (by decide +kernel) ⟨(Nat.le_of_ble_eq_true rfl), (Nat.le_of_ble_eq_true rfl)⟩ rfl hY9.ob rfl rfl (Nat.le_of_ble_eq_true rfl) rfl rfl ⟨by omega, by omega⟩ nX_no (fun v29 μ30 hv31 => ?_)
    obtain ⟨r32, hw35, h33, hm34⟩ := hv31
    subst hw35
    rw [hm34]
    have hM := hM0
    refine x_stk (stk' := [.int (zI (t_addWarden σ ((xs (i + 1)).toInt)))]) (by rw [h33]; rfl) ?_
    refine x_iload C dL_law_1370 1 rfl ?_
    refine z_icmp_eq (tgt := 1377) C dL_law_1372 (by decide) (rg_of (by omega) (by omega)) (rg_of (by omega) (by omega)) (fun c_36 => ?_) (fun c_36 => ?_)
    · refine x_iload C dL_law_1377 1 rfl ?_
      refine z_if_ne (tgt := 1394) C dL_law_1379 (by decide) (rg_of (by omega) (by omega)) (fun c_37 => ?_) (fun c_37 => ?_)
      · refine x_goto (tgt := 1801) C dL_law_1394 (by decide) ?_
        refine x_sub (lv' := [(4, .int (zI (i : Int))), (3, .ref ou), (2, .ref md), (1, .ref xa), (0, .ref b)]) [2, 3, 4, 5, 6] rfl ?_
        exact x_wid (by omega) (by omega) (kk _ _ _ hC.mono hM hOJ hK.mono)
      · exfalso; omega
    · refine z_iconst C dL_law_1375 ?_
      exfalso; omega
set_option maxHeartbeats 4000000 in
set_option maxRecDepth 100000 in
theorem law_sees {E : EE} {G : GG} {z b L : Nat} {xs : Nat → Int32} (C : Cx E G z cL_law RL wsL_law room_1 7) (hX : Sc E b L xs) {cells slots : Nat} (hcs : cells + 64 ≤ room_1.cells ∧ slots + 256 ≤ room_1.slots) {μ : Mm} {i n : Nat} (hi : i + 5 ≤ L) (hn5 : n < 512) {xa md ou : Nat} {σ : SS} {tm : Int} (hC : RepC G z μ xa σ n) (hM : RepM G μ md σ tm) (hOJ : OJx G μ ou) (hK : Kv σ n) (kk : ∀ (μ' : Mm) (σ' : SS) (tm' : Int), RepC G z μ' xa σ' (n + 1) → RepM G μ' md σ' tm' → OJx G μ' ou → Kv σ' (n + 1) → Wx E G (cells + 8) (slots + 64) 1801 [(4, .int (zI (i : Int))), (3, .ref ou), (2, .ref md), (1, .ref xa), (0, .ref b)] [] μ') : Wx E G cells slots 1397 [(4, .int (zI (i : Int))), (3, .ref ou), (2, .ref md), (1, .ref xa), (0, .ref b)] [] μ := by
  have hL4 := hX.2.2.2
  have hi23 := hK.1.n23
  refine x_aload_n C dL_law_1397 rfl 3 rfl ?_
  refine x_aload_n C dL_law_1398 rfl 4 rfl ?_
  refine x_iload C dL_law_1399 0 rfl ?_
  refine z_iconst C dL_law_1401 ?_
  refine z_iadd C dL_law_1402 rfl ?_
  refine z_sld C hX (i + 1) dL_law_1403 (by omega) (by omega) ?_
  have hz1 := zI_rg (xs (i + 1))
  unfold rg at hz1
  refine x_aload_n C dL_law_1404 rfl 1 rfl ?_
  refine x_callSX (n := 3) (cc9 := cells + 1) (ss9 := slots + 6) (rest := []) C dL_law_1405 (c_L_sees (kxL E) C.st G z μ xa md ou σ n tm ((xs (i + 1)).toInt) hC hM hOJ hK hn5 (by omega)) gL_law_L_sees rfl (by decide +kernel) ⟨(Nat.le_of_ble_eq_true rfl), (Nat.le_of_ble_eq_true rfl)⟩ rfl rfl (Nat.le_of_ble_eq_true rfl) rfl rfl ⟨by omega, by omega⟩ nX_no (fun v2 μ3 hv4 => ?_)
  obtain ⟨r5, hw6, hM, hcase⟩ := hv4
  subst hw6
  have htr : 0 ≤ t_sees σ ((xs (i + 1)).toInt) ∧ t_sees σ ((xs (i + 1)).toInt) ≤ 3 := by (unfold t_sees; (repeat split) <;> omega)
  rcases hcase with ⟨hk0, ht0, hC, hOJ⟩ | ⟨ht, hk, hC, hOJ⟩
  · refine x_stk (stk' := [.int (zI 0)]) (by rw [hk0]; rfl) ?_
    refine x_istore (lv' := [(5, .int (zI 0)), (4, .int (zI (i : Int))), (3, .ref ou), (2, .ref md), (1, .ref xa), (0, .ref b)]) C dL_law_1408 (by decide) rfl ?_
    refine x_aload_n C dL_law_1410 rfl 3 rfl ?_
    refine x_aload_n C dL_law_1411 rfl 5 rfl ?_
    refine x_iload C dL_law_1412 1 rfl ?_
    refine z_iconst C dL_law_1414 ?_
    refine z_iadd C dL_law_1415 rfl ?_
    refine z_sld C hX (i + 1) dL_law_1416 (by omega) (by omega) ?_
    obtain ⟨fo9, cm9, Ci9, Su9, A9, hY9⟩ := hM
    refine x_callV (n := 1) (ci := 10) (Cn := RX9) (T := TX9) (N := 29) (cc9 := cells + 1) (ss9 := slots + 6) (rest := []) C dL_law_1417 (c_X9_sees (kxL E) C.st G z μ3 _ σ n _ _ _ _ _ _ ((xs (i + 1)).toInt) hY9 hK.1 (by omega)) gL_law_X9_sees rfl (by decide +kernel) ⟨(Nat.le_of_ble_eq_true rfl), (Nat.le_of_ble_eq_true rfl)⟩ rfl hY9.ob rfl rfl (Nat.le_of_ble_eq_true rfl) rfl rfl ⟨by omega, by omega⟩ nX_no (fun v7 μ8 hv9 => ?_)
    obtain ⟨r10, hw12, hmr, hF9⟩ := hv9
    subst hw12
    have hC : RepC G z μ8 xa (σ) n := hF9.repc hC
    have hOJ : OJ G μ8 ou ((zI (seeN σ (σ 19 ((xs (i + 1)).toInt).toNat) (σ 12 0).toNat)).toInt64) := hF9.oj hOJ
    obtain ⟨hr6, hM⟩ : r10 = seeN σ (σ 19 ((xs (i + 1)).toInt).toNat) (σ 12 0).toNat ∧ RepM G μ8 md (σ) 0 := by (rcases hmr with ⟨a1, a2, a3⟩ | ⟨a1, a2⟩; exact ⟨a2, a3⟩; exact absurd ht0 a1)
    refine x_stk (stk' := [.int (zI r10)]) rfl ?_
    refine x_istore (lv' := [(6, .int (zI r10)), (5, .int (zI 0)), (4, .int (zI (i : Int))), (3, .ref ou), (2, .ref md), (1, .ref xa), (0, .ref b)]) C dL_law_1420 (by decide) rfl ?_
    refine x_aload_n C dL_law_1422 rfl 4 rfl ?_
    have hM0 := hM
    obtain ⟨fo9, cm9, Ci9, Su9, A9, hY9⟩ := hM
    refine x_callV (n := 0) (ci := 10) (Cn := RX9) (T := TX9) (N := 29) (cc9 := cells + 1) (ss9 := slots + 6) (rest := []) C dL_law_1423 (c_X9_thrown (kxL E) C.st G z μ8 _ _ n _ _ _ _ _ _ hY9) gL_law_X9_thrown rfl (by decide +kernel) ⟨(Nat.le_of_ble_eq_true rfl), (Nat.le_of_ble_eq_true rfl)⟩ rfl hY9.ob rfl rfl (Nat.le_of_ble_eq_true rfl) rfl rfl ⟨by omega, by omega⟩ nX_no (fun v13 μ14 hv15 => ?_)
    obtain ⟨r16, hw19, h17, hm18⟩ := hv15
    subst hw19
    rw [hm18]
    have hM := hM0
    refine x_stk (stk' := [.int (zI 0)]) (by rw [h17]; rfl) ?_
    refine x_iload C dL_law_1426 1 rfl ?_
    refine z_icmp_eq (tgt := 1433) C dL_law_1428 (by decide) (rg_of (by omega) (by omega)) (rg_of (by omega) (by omega)) (fun c_20 => ?_) (fun c_20 => ?_)
    · refine x_iload C dL_law_1433 1 rfl ?_
      refine z_if_ne (tgt := 1450) C dL_law_1435 (by decide) (rg_of (by omega) (by omega)) (fun c_21 => ?_) (fun c_21 => ?_)
      · exfalso; omega
      · refine x_aload_n C dL_law_1438 rfl 3 rfl ?_
        refine z_iconst C dL_law_1439 ?_
        refine z_lald C dL_law_1440 hOJ ?_
        refine x_iload C dL_law_1441 0 rfl ?_
        refine z_i2l C dL_law_1443 ?_
        refine z_lsame C dL_law_1444 (by rw [hr6]) ?_
        refine x_stk (stk' := [.int (zI 0)]) rfl ?_
        refine z_if_eq (tgt := 1450) C dL_law_1445 (by decide) (rg_of (by omega) (by omega)) (fun c_22 => ?_) (fun c_22 => ?_)
        · refine x_goto (tgt := 1801) C dL_law_1450 (by decide) ?_
          refine x_sub (lv' := [(4, .int (zI (i : Int))), (3, .ref ou), (2, .ref md), (1, .ref xa), (0, .ref b)]) [2, 3, 4, 5, 6] rfl ?_
          exact x_wid (by omega) (by omega) (kk _ _ _ hC.mono hM hOJ.x hK.mono)
        · exfalso; omega
    · exfalso; omega
  · refine x_stk (stk' := [.int (zI (t_sees σ ((xs (i + 1)).toInt)))]) (by rw [hk]; rfl) ?_
    refine x_istore (lv' := [(5, .int (zI (t_sees σ ((xs (i + 1)).toInt)))), (4, .int (zI (i : Int))), (3, .ref ou), (2, .ref md), (1, .ref xa), (0, .ref b)]) C dL_law_1408 (by decide) rfl ?_
    refine x_aload_n C dL_law_1410 rfl 3 rfl ?_
    refine x_aload_n C dL_law_1411 rfl 5 rfl ?_
    refine x_iload C dL_law_1412 1 rfl ?_
    refine z_iconst C dL_law_1414 ?_
    refine z_iadd C dL_law_1415 rfl ?_
    refine z_sld C hX (i + 1) dL_law_1416 (by omega) (by omega) ?_
    obtain ⟨fo9, cm9, Ci9, Su9, A9, hY9⟩ := hM
    refine x_callV (n := 1) (ci := 10) (Cn := RX9) (T := TX9) (N := 29) (cc9 := cells + 1) (ss9 := slots + 6) (rest := []) C dL_law_1417 (c_X9_sees (kxL E) C.st G z μ3 _ σ n _ _ _ _ _ _ ((xs (i + 1)).toInt) hY9 hK.1 (by omega)) gL_law_X9_sees rfl (by decide +kernel) ⟨(Nat.le_of_ble_eq_true rfl), (Nat.le_of_ble_eq_true rfl)⟩ rfl hY9.ob rfl rfl (Nat.le_of_ble_eq_true rfl) rfl rfl ⟨by omega, by omega⟩ nX_no (fun v23 μ24 hv25 => ?_)
    obtain ⟨r26, hw28, hmr, hF9⟩ := hv25
    subst hw28
    have hC : RepC G z μ24 xa σ n := hF9.repc hC
    have hOJ : OJx G μ24 ou := hF9.ojx hOJ
    have hM : RepM G μ24 md σ (t_sees σ ((xs (i + 1)).toInt)) := by (rcases hmr with ⟨a1, a2, a3⟩ | ⟨a1, a2⟩; exact absurd a1 ht; exact a2)
    refine x_stk (stk' := [.int (zI r26)]) rfl ?_
    refine x_istore (lv' := [(6, .int (zI r26)), (5, .int (zI (t_sees σ ((xs (i + 1)).toInt)))), (4, .int (zI (i : Int))), (3, .ref ou), (2, .ref md), (1, .ref xa), (0, .ref b)]) C dL_law_1420 (by decide) rfl ?_
    refine x_aload_n C dL_law_1422 rfl 4 rfl ?_
    have hM0 := hM
    obtain ⟨fo9, cm9, Ci9, Su9, A9, hY9⟩ := hM
    refine x_callV (n := 0) (ci := 10) (Cn := RX9) (T := TX9) (N := 29) (cc9 := cells + 1) (ss9 := slots + 6) (rest := []) C dL_law_1423 (c_X9_thrown (kxL E) C.st G z μ24 _ _ n _ _ _ _ _ _ hY9) gL_law_X9_thrown rfl (by decide +kernel) ⟨(Nat.le_of_ble_eq_true rfl), (Nat.le_of_ble_eq_true rfl)⟩ rfl hY9.ob rfl rfl (Nat.le_of_ble_eq_true rfl) rfl rfl ⟨by omega, by omega⟩ nX_no (fun v29 μ30 hv31 => ?_)
    obtain ⟨r32, hw35, h33, hm34⟩ := hv31
    subst hw35
    rw [hm34]
    have hM := hM0
    refine x_stk (stk' := [.int (zI (t_sees σ ((xs (i + 1)).toInt)))]) (by rw [h33]; rfl) ?_
    refine x_iload C dL_law_1426 1 rfl ?_
    refine z_icmp_eq (tgt := 1433) C dL_law_1428 (by decide) (rg_of (by omega) (by omega)) (rg_of (by omega) (by omega)) (fun c_36 => ?_) (fun c_36 => ?_)
    · refine x_iload C dL_law_1433 1 rfl ?_
      refine z_if_ne (tgt := 1450) C dL_law_1435 (by decide) (rg_of (by omega) (by omega)) (fun c_37 => ?_) (fun c_37 => ?_)
      · refine x_goto (tgt := 1801) C dL_law_1450 (by decide) ?_
        refine x_sub (lv' := [(4, .int (zI (i : Int))), (3, .ref ou), (2, .ref md), (1, .ref xa), (0, .ref b)]) [2, 3, 4, 5, 6] rfl ?_
        exact x_wid (by omega) (by omega) (kk _ _ _ hC.mono hM hOJ hK.mono)
      · exfalso; omega
    · refine z_iconst C dL_law_1431 ?_
      exfalso; omega
