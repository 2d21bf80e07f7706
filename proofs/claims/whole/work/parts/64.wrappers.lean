abbrev rm_L_setHeight : Room := { frames := 8, cells := 2, slots := 12, locals := 175 }
set_option maxHeartbeats 4000000 in
set_option maxRecDepth 100000 in
theorem c_L_setHeight (l : Launch) (hst : l.stackTraces = false) (G : GG) (z : Nat) (μ : Mm) (xa md ou : Nat) (σ : SS) (n : Nat) (tm : Int) (p h : Int) (hC : RepC G z μ xa σ n) (hM : RepM G μ md σ tm) (hOJ : OJx G μ ou) (hK : Kv σ n) (hn5 : n < 512) (h_p : -2147483648 ≤ p ∧ p < 2147483648) (h_h : -2147483648 ≤ h ∧ h < 2147483648) : Ct l yL_setHeight wsL_setHeight rm_L_setHeight G z [.ref xa, .int (zI p), .int (zI h), .ref ou] μ (rS (fun r9 μ' => RepM G μ' md σ tm ∧ ((r9 = 0 ∧ t_setHeight p h = 0 ∧ RepC G z μ' xa (n_setHeight σ p.toNat h) n ∧ OJ G μ' ou ((zI (b_setHeight σ p.toNat h (σ 7 0).toNat)).toInt64)) ∨ (t_setHeight p h ≠ 0 ∧ r9 = t_setHeight p h ∧ RepC G z μ' xa σ n ∧ OJx G μ' ou)))) (nX) := by
  refine ct_ofH (cc := cL_setHeight) (maxL := 5) (ret := (some .int)) (own := RL) (hh := [(0, 10, 13, 13), (0, 10, 17, 15)]) (by decide) rfl rfl hst (Nat.le_of_ble_eq_true rfl) ?_
  intro E hLl hnm C R hT
  have htr : 0 ≤ t_setHeight p h ∧ t_setHeight p h ≤ 3 := by (unfold t_setHeight; (repeat split) <;> omega)
  refine x_eq (lv' := [(0, .ref xa), (1, .int (zI p)), (2, .int (zI h)), (3, .ref ou)]) rfl rfl ?_
  refine x_aload_n C dL_setHeight_0 rfl 3 rfl ?_
  refine z_iconst C dL_setHeight_1 ?_
  refine x_aload_n C dL_setHeight_2 rfl 0 rfl ?_
  refine x_iload_n C dL_setHeight_3 rfl 1 rfl ?_
  refine x_iload_n C dL_setHeight_4 rfl 2 rfl ?_
  refine x_callV (n := 2) (ci := 9) (Cn := RX8) (T := TX8) (N := 10) (cc9 := 2) (ss9 := 12) (rest := [.int (zI 0), .ref ou]) C dL_setHeight_5 (c_X8_setHeight (kxL E) C.st G z μ xa σ n p h hC hK.1 (by omega) (by omega)) gL_setHeight_X8_setHeight rfl (by decide +kernel) ⟨(Nat.le_of_ble_eq_true rfl), (Nat.le_of_ble_eq_true rfl)⟩ rfl hC.ob rfl rfl (Nat.le_of_ble_eq_true rfl) rfl rfl ⟨(Nat.le_of_ble_eq_true rfl), (Nat.le_of_ble_eq_true rfl)⟩ (fun En hEn => by (rcases hEn with ⟨rfl, ht9⟩ | ⟨rfl, ht9⟩; exact x_catch (name := "java/lang/IndexOutOfBoundsException") C [] ⟨0, 10, 13, 13⟩ [⟨0, 10, 17, 15⟩] hT (fun y hy => absurd hy List.not_mem_nil) (by decide) (by decide) (by decide +kernel) (by decide +kernel) (fun q9 => x_astore (lv' := [(4, .ref q9), (0, .ref xa), (1, .int (zI p)), (2, .int (zI h)), (3, .ref ou)]) C dL_setHeight_13 (by decide) rfl (z_iconst C dL_setHeight_15 (x_iret C R dL_setHeight_16 (Nat.le_of_ble_eq_true rfl) (Nat.le_of_ble_eq_true rfl) ⟨_, rfl, hM, Or.inr ⟨by omega, by omega, hC, hOJ⟩⟩))); exact x_catch (name := "java/lang/IllegalArgumentException") C [⟨0, 10, 13, 13⟩] ⟨0, 10, 17, 15⟩ [] hT (fun y hy => by (rcases List.mem_cons.mp hy with rfl | hy; exact Or.inr ⟨by decide, "java/lang/IndexOutOfBoundsException", by decide +kernel, by decide +kernel⟩; exact absurd hy List.not_mem_nil)) (by decide) (by decide) (by decide +kernel) (by decide +kernel) (fun q9 => x_astore (lv' := [(4, .ref q9), (0, .ref xa), (1, .int (zI p)), (2, .int (zI h)), (3, .ref ou)]) C dL_setHeight_17 (by decide) rfl (z_iconst C dL_setHeight_19 (x_iret C R dL_setHeight_20 (Nat.le_of_ble_eq_true rfl) (Nat.le_of_ble_eq_true rfl) ⟨_, rfl, hM, Or.inr ⟨by omega, by omega, hC, hOJ⟩⟩))))) (fun v1 μ2 hv3 => ?_)
  obtain ⟨r4, hw7, h5⟩ := hv3
  subst hw7
  obtain ⟨⟨ht9, hb9, hC⟩, hF9⟩ := h5
  have hF8 := hF9
  have hM : RepM G μ2 md σ tm := hF8.repm hM
  have hOJ : OJx G μ2 ou := hF8.ojx hOJ
  refine x_stk (stk' := [.int (zI r4), .int (zI 0), .ref ou]) rfl ?_
  refine z_i2l C dL_setHeight_8 ?_
  refine z_last C dL_setHeight_9 hOJ (fun μ9 hOJw hF10 => ?_)
  have hM : RepM G μ9 md σ tm := hF10.repm hM
  have hC : RepC G z μ9 xa (n_setHeight σ p.toNat h) n := hF10.repc hC
  have hOJ := hOJw
  refine x_goto (tgt := 21) C dL_setHeight_10 (by decide) ?_
  refine z_iconst C dL_setHeight_21 ?_
  exact x_iret C R dL_setHeight_22 (Nat.le_of_ble_eq_true rfl) (Nat.le_of_ble_eq_true rfl) (⟨_, rfl, hM, Or.inl ⟨rfl, ht9, hC, (by (rw [hb9] at hOJ; exact hOJ))⟩⟩)
abbrev rm_L_close : Room := { frames := 8, cells := 1, slots := 6, locals := 130 }
set_option maxHeartbeats 4000000 in
set_option maxRecDepth 100000 in
theorem c_L_close (l : Launch) (hst : l.stackTraces = false) (G : GG) (z : Nat) (μ : Mm) (xa md ou : Nat) (σ : SS) (n : Nat) (tm : Int) (p : Int) (hC : RepC G z μ xa σ n) (hM : RepM G μ md σ tm) (hOJ : OJx G μ ou) (hK : Kv σ n) (hn5 : n < 512) (h_p : -2147483648 ≤ p ∧ p < 2147483648) : Ct l yL_close wsL_close rm_L_close G z [.ref xa, .int (zI p), .ref ou] μ (rS (fun r9 μ' => RepM G μ' md σ tm ∧ ((r9 = 0 ∧ t_p p = 0 ∧ RepC G z μ' xa (n_close σ p) n ∧ OJ G μ' ou (bJ (1 - σ 1 p.toNat))) ∨ (t_p p ≠ 0 ∧ r9 = t_p p ∧ RepC G z μ' xa σ n ∧ OJx G μ' ou)))) (nX) := by
  refine ct_ofH (cc := cL_close) (maxL := 4) (ret := (some .int)) (own := RL) (hh := [(0, 16, 19, 13)]) (by decide) rfl rfl hst (Nat.le_of_ble_eq_true rfl) ?_
  intro E hLl hnm C R hT
  have htr : 0 ≤ t_p p ∧ t_p p ≤ 3 := by (unfold t_p; (repeat split) <;> omega)
  have hbr := hK.1.r1 p.toNat
  refine x_eq (lv' := [(0, .ref xa), (1, .int (zI p)), (2, .ref ou)]) rfl rfl ?_
  refine x_aload_n C dL_close_0 rfl 2 rfl ?_
  refine z_iconst C dL_close_1 ?_
  refine x_aload_n C dL_close_2 rfl 0 rfl ?_
  refine x_iload_n C dL_close_3 rfl 1 rfl ?_
  refine x_callV (n := 1) (ci := 9) (Cn := RX8) (T := TX8) (N := 10) (cc9 := 1) (ss9 := 6) (rest := [.int (zI 0), .ref ou]) C dL_close_4 (c_X8_close (kxL E) C.st G z μ xa σ n p hC hK.1 (by omega)) gL_close_X8_close rfl (by decide +kernel) ⟨(Nat.le_of_ble_eq_true rfl), (Nat.le_of_ble_eq_true rfl)⟩ rfl hC.ob rfl rfl (Nat.le_of_ble_eq_true rfl) rfl rfl ⟨(Nat.le_of_ble_eq_true rfl), (Nat.le_of_ble_eq_true rfl)⟩ (fun En hEn => by (obtain ⟨rfl, ht9⟩ := hEn; exact x_catch (name := "java/lang/IndexOutOfBoundsException") C [] ⟨0, 16, 19, 13⟩ [] hT (fun y hy => absurd hy List.not_mem_nil) (by decide) (by decide) (by decide +kernel) (by decide +kernel) (fun q9 => x_astore_n (lv' := [(3, .ref q9), (0, .ref xa), (1, .int (zI p)), (2, .ref ou)]) C dL_close_19 rfl (by decide) rfl (z_iconst C dL_close_20 (x_iret C R dL_close_21 (Nat.le_of_ble_eq_true rfl) (Nat.le_of_ble_eq_true rfl) ⟨_, rfl, hM, Or.inr ⟨by omega, by omega, hC, hOJ⟩⟩))))) (fun v1 μ2 hv3 => ?_)
  obtain ⟨r4, hw7, h5⟩ := hv3
  subst hw7
  obtain ⟨⟨ht9, hb9, hC⟩, hF9⟩ := h5
  have hF8 := hF9
  have hM : RepM G μ2 md σ tm := hF8.repm hM
  have hOJ : OJx G μ2 ou := hF8.ojx hOJ
  have hq9 := ht9
  unfold t_p at hq9
  have hbq : 0 ≤ p ∧ p < 64 := by (split at hq9 <;> omega)
  have hbr9 := hbr (by omega)
  refine x_stk (stk' := [.int (zI r4), .int (zI 0), .ref ou]) rfl ?_
  refine z_if_eq (tgt := 14) C dL_close_7 (by decide) (rg_of (by omega) (by omega)) (fun c_9 => ?_) (fun c_9 => ?_)
  · refine x_lconst (v := (0 : Int64)) C dL_close_14 rfl ?_
    refine z_last C dL_close_15 hOJ (fun μ10 hOJw hF11 => ?_)
    have hM : RepM G μ10 md σ tm := hF11.repm hM
    have hC : RepC G z μ10 xa (n_close σ p) n := hF11.repc hC
    have hOJ := hOJw
    refine x_goto (tgt := 22) C dL_close_16 (by decide) ?_
    refine z_iconst C dL_close_22 ?_
    exact x_iret C R dL_close_23 (Nat.le_of_ble_eq_true rfl) (Nat.le_of_ble_eq_true rfl) (⟨_, rfl, hM, Or.inl ⟨rfl, ht9, hC, (by (rw [bJ0 (b := 1 - σ 1 p.toNat) (by omega)]; exact hOJ))⟩⟩)
  · refine x_lconst (v := (1 : Int64)) C dL_close_10 rfl ?_
    refine x_goto (tgt := 15) C dL_close_11 (by decide) ?_
    refine z_last C dL_close_15 hOJ (fun μ12 hOJw hF13 => ?_)
    have hM : RepM G μ12 md σ tm := hF13.repm hM
    have hC : RepC G z μ12 xa (n_close σ p) n := hF13.repc hC
    have hOJ := hOJw
    refine x_goto (tgt := 22) C dL_close_16 (by decide) ?_
    refine z_iconst C dL_close_22 ?_
    exact x_iret C R dL_close_23 (Nat.le_of_ble_eq_true rfl) (Nat.le_of_ble_eq_true rfl) (⟨_, rfl, hM, Or.inl ⟨rfl, ht9, hC, (by (rw [bJ1 (b := 1 - σ 1 p.toNat) (by omega)]; exact hOJ))⟩⟩)
abbrev rm_L_hint : Room := { frames := 8, cells := 3, slots := 21, locals := 155 }
set_option maxHeartbeats 4000000 in
set_option maxRecDepth 100000 in
theorem c_L_hint (l : Launch) (hst : l.stackTraces = false) (G : GG) (z : Nat) (μ : Mm) (xa md ou : Nat) (σ : SS) (n : Nat) (tm : Int) (k v mk d : Int) (hC : RepC G z μ xa σ n) (hM : RepM G μ md σ tm) (hOJ : OJx G μ ou) (hK : Kv σ n) (hn5 : n < 512) (h_k : -2147483648 ≤ k ∧ k < 2147483648) (h_v : -2147483648 ≤ v ∧ v < 2147483648) (h_mk : -2147483648 ≤ mk ∧ mk < 2147483648) (h_d : d = 0 ∨ d = 1) : Ct l yL_hint wsL_hint rm_L_hint G z [.ref xa, .int (zI k), .int (zI v), .int (zI mk), .int (zI d), .ref ou] μ (rS (fun r9 μ' => RepM G μ' md σ tm ∧ ((r9 = 0 ∧ t_hint σ k v mk = 0 ∧ RepC G z μ' xa (n_hint σ k v mk d) n ∧ OJ G μ' ou ((zI (b_fits (n_hint σ k v mk d) 0)).toInt64)) ∨ (t_hint σ k v mk ≠ 0 ∧ r9 = t_hint σ k v mk ∧ RepC G z μ' xa σ n ∧ OJx G μ' ou)))) (nX) := by
  refine ct_ofH (cc := cL_hint) (maxL := 7) (ret := (some .int)) (own := RL) (hh := [(0, 14, 17, 13), (0, 14, 21, 15), (0, 14, 25, 25)]) (by decide) rfl rfl hst (Nat.le_of_ble_eq_true rfl) ?_
  intro E hLl hnm C R hT
  have htr : 0 ≤ t_hint σ k v mk ∧ t_hint σ k v mk ≤ 3 := by (unfold t_hint; (repeat split) <;> omega)
  refine x_eq (lv' := [(0, .ref xa), (1, .int (zI k)), (2, .int (zI v)), (3, .int (zI mk)), (4, .int (zI d)), (5, .ref ou)]) rfl rfl ?_
  refine x_aload C dL_hint_0 5 rfl ?_
  refine z_iconst C dL_hint_2 ?_
  refine x_aload_n C dL_hint_3 rfl 0 rfl ?_
  refine x_iload_n C dL_hint_4 rfl 1 rfl ?_
  refine x_iload_n C dL_hint_5 rfl 2 rfl ?_
  refine x_iload_n C dL_hint_6 rfl 3 rfl ?_
  refine x_iload C dL_hint_7 4 rfl ?_
  refine x_callV (n := 4) (ci := 9) (Cn := RX8) (T := TX8) (N := 10) (cc9 := 3) (ss9 := 21) (rest := [.int (zI 0), .ref ou]) C dL_hint_9 (c_X8_hint (kxL E) C.st G z μ xa σ n k v mk d hC hK.1 (by omega) (by omega) (by omega) (by omega)) gL_hint_X8_hint rfl (by decide +kernel) ⟨(Nat.le_of_ble_eq_true rfl), (Nat.le_of_ble_eq_true rfl)⟩ rfl hC.ob rfl rfl (Nat.le_of_ble_eq_true rfl) rfl rfl ⟨(Nat.le_of_ble_eq_true rfl), (Nat.le_of_ble_eq_true rfl)⟩ (fun En hEn => by (rcases hEn with ⟨rfl, ht9⟩ | ⟨rfl, ht9⟩ | ⟨rfl, ht9⟩; exact x_catch (name := "java/lang/IndexOutOfBoundsException") C [] ⟨0, 14, 17, 13⟩ [⟨0, 14, 21, 15⟩, ⟨0, 14, 25, 25⟩] hT (fun y hy => absurd hy List.not_mem_nil) (by decide) (by decide) (by decide +kernel) (by decide +kernel) (fun q9 => x_astore (lv' := [(6, .ref q9), (0, .ref xa), (1, .int (zI k)), (2, .int (zI v)), (3, .int (zI mk)), (4, .int (zI d)), (5, .ref ou)]) C dL_hint_17 (by decide) rfl (z_iconst C dL_hint_19 (x_iret C R dL_hint_20 (Nat.le_of_ble_eq_true rfl) (Nat.le_of_ble_eq_true rfl) ⟨_, rfl, hM, Or.inr ⟨by omega, by omega, hC, hOJ⟩⟩))); exact x_catch (name := "java/lang/IllegalArgumentException") C [⟨0, 14, 17, 13⟩] ⟨0, 14, 21, 15⟩ [⟨0, 14, 25, 25⟩] hT (fun y hy => by (rcases List.mem_cons.mp hy with rfl | hy; exact Or.inr ⟨by decide, "java/lang/IndexOutOfBoundsException", by decide +kernel, by decide +kernel⟩; exact absurd hy List.not_mem_nil)) (by decide) (by decide) (by decide +kernel) (by decide +kernel) (fun q9 => x_astore (lv' := [(6, .ref q9), (0, .ref xa), (1, .int (zI k)), (2, .int (zI v)), (3, .int (zI mk)), (4, .int (zI d)), (5, .ref ou)]) C dL_hint_21 (by decide) rfl (z_iconst C dL_hint_23 (x_iret C R dL_hint_24 (Nat.le_of_ble_eq_true rfl) (Nat.le_of_ble_eq_true rfl) ⟨_, rfl, hM, Or.inr ⟨by omega, by omega, hC, hOJ⟩⟩))); exact x_catch (name := "java/lang/IllegalStateException") C [⟨0, 14, 17, 13⟩, ⟨0, 14, 21, 15⟩] ⟨0, 14, 25, 25⟩ [] hT (fun y hy => by (rcases List.mem_cons.mp hy with rfl | hy; exact Or.inr ⟨by decide, "java/lang/IndexOutOfBoundsException", by decide +kernel, by decide +kernel⟩; rcases List.mem_cons.mp hy with rfl | hy; exact Or.inr ⟨by decide, "java/lang/IllegalArgumentException", by decide +kernel, by decide +kernel⟩; exact absurd hy List.not_mem_nil)) (by decide) (by decide) (by decide +kernel) (by decide +kernel) (fun q9 => x_astore (lv' := [(6, .ref q9), (0, .ref xa), (1, .int (zI k)), (2, .int (zI v)), (3, .int (zI mk)), (4, .int (zI d)), (5, .ref ou)]) C dL_hint_25 (by decide) rfl (z_iconst C dL_hint_27 (x_iret C R dL_hint_28 (Nat.le_of_ble_eq_true rfl) (Nat.le_of_ble_eq_true rfl) ⟨_, rfl, hM, Or.inr ⟨by omega, by omega, hC, hOJ⟩⟩))))) (fun v1 μ2 hv3 => ?_)
  obtain ⟨r4, hw7, h5⟩ := hv3
  subst hw7
  obtain ⟨⟨ht9, hb9, hC⟩, hF9⟩ := h5
  have hF8 := hF9
  have hM : RepM G μ2 md σ tm := hF8.repm hM
  have hOJ : OJx G μ2 ou := hF8.ojx hOJ
  refine x_stk (stk' := [.int (zI r4), .int (zI 0), .ref ou]) rfl ?_
  refine z_i2l C dL_hint_12 ?_
  refine z_last C dL_hint_13 hOJ (fun μ9 hOJw hF10 => ?_)
  have hM : RepM G μ9 md σ tm := hF10.repm hM
  have hC : RepC G z μ9 xa (n_hint σ k v mk d) n := hF10.repc hC
  have hOJ := hOJw
  refine x_goto (tgt := 29) C dL_hint_14 (by decide) ?_
  refine z_iconst C dL_hint_29 ?_
  exact x_iret C R dL_hint_30 (Nat.le_of_ble_eq_true rfl) (Nat.le_of_ble_eq_true rfl) (⟨_, rfl, hM, Or.inl ⟨rfl, ht9, hC, (by (rw [hb9] at hOJ; exact hOJ))⟩⟩)
abbrev rm_L_stage : Room := { frames := 8, cells := 6, slots := 25, locals := 170 }
set_option maxHeartbeats 4000000 in
set_option maxRecDepth 100000 in
theorem c_L_stage (l : Launch) (hst : l.stackTraces = false) (G : GG) (z : Nat) (μ : Mm) (xa md ou : Nat) (σ : SS) (n : Nat) (tm : Int) (hC : RepC G z μ xa σ n) (hM : RepM G μ md σ tm) (hOJ : OJx G μ ou) (hK : Kv σ n) (hn5 : n < 512) : Ct l yL_stage wsL_stage rm_L_stage G z [.ref xa, .ref ou] μ (rS (fun r9 μ' => RepM G μ' md σ tm ∧ ((r9 = 0 ∧ t_stage σ = 0 ∧ RepC G z μ' xa (n_stage σ) n ∧ OJ G μ' ou ((zI (σ 7 0)).toInt64)) ∨ (t_stage σ ≠ 0 ∧ r9 = t_stage σ ∧ RepC G z μ' xa σ n ∧ OJx G μ' ou)))) (nX) := by
  refine ct_ofH (cc := cL_stage) (maxL := 3) (ret := (some .int)) (own := RL) (hh := [(0, 8, 11, 25)]) (by decide) rfl rfl hst (Nat.le_of_ble_eq_true rfl) ?_
  intro E hLl hnm C R hT
  have htr : 0 ≤ t_stage σ ∧ t_stage σ ≤ 3 := by (unfold t_stage; (repeat split) <;> omega)
  refine x_eq (lv' := [(0, .ref xa), (1, .ref ou)]) rfl rfl ?_
  refine x_aload_n C dL_stage_0 rfl 1 rfl ?_
  refine z_iconst C dL_stage_1 ?_
  refine x_aload_n C dL_stage_2 rfl 0 rfl ?_
  refine x_callV (n := 0) (ci := 9) (Cn := RX8) (T := TX8) (N := 10) (cc9 := 6) (ss9 := 25) (rest := [.int (zI 0), .ref ou]) C dL_stage_3 (c_X8_stage (kxL E) C.st G z μ xa σ n hC hK.1 hK.2) gL_stage_X8_stage rfl (by decide +kernel) ⟨(Nat.le_of_ble_eq_true rfl), (Nat.le_of_ble_eq_true rfl)⟩ rfl hC.ob rfl rfl (Nat.le_of_ble_eq_true rfl) rfl rfl ⟨(Nat.le_of_ble_eq_true rfl), (Nat.le_of_ble_eq_true rfl)⟩ (fun En hEn => by (obtain ⟨rfl, ht9⟩ := hEn; exact x_catch (name := "java/lang/IllegalStateException") C [] ⟨0, 8, 11, 25⟩ [] hT (fun y hy => absurd hy List.not_mem_nil) (by decide) (by decide) (by decide +kernel) (by decide +kernel) (fun q9 => x_astore_n (lv' := [(2, .ref q9), (0, .ref xa), (1, .ref ou)]) C dL_stage_11 rfl (by decide) rfl (z_iconst C dL_stage_12 (x_iret C R dL_stage_13 (Nat.le_of_ble_eq_true rfl) (Nat.le_of_ble_eq_true rfl) ⟨_, rfl, hM, Or.inr ⟨by omega, by omega, hC, hOJ⟩⟩))))) (fun v1 μ2 hv3 => ?_)
  obtain ⟨r4, hw7, h5⟩ := hv3
  subst hw7
  obtain ⟨⟨ht9, hb9, hC⟩, hF9⟩ := h5
  have hF8 := hF9
  have hM : RepM G μ2 md σ tm := hF8.repm hM
  have hOJ : OJx G μ2 ou := hF8.ojx hOJ
  refine x_stk (stk' := [.int (zI r4), .int (zI 0), .ref ou]) rfl ?_
  refine z_i2l C dL_stage_6 ?_
  refine z_last C dL_stage_7 hOJ (fun μ9 hOJw hF10 => ?_)
  have hM : RepM G μ9 md σ tm := hF10.repm hM
  have hC : RepC G z μ9 xa (n_stage σ) n := hF10.repc hC
  have hOJ := hOJw
  refine x_goto (tgt := 14) C dL_stage_8 (by decide) ?_
  refine z_iconst C dL_stage_14 ?_
  exact x_iret C R dL_stage_15 (Nat.le_of_ble_eq_true rfl) (Nat.le_of_ble_eq_true rfl) (⟨_, rfl, hM, Or.inl ⟨rfl, ht9, hC, (by (rw [hb9] at hOJ; exact hOJ))⟩⟩)
abbrev rm_L_fits : Room := { frames := 8, cells := 1, slots := 6, locals := 131 }
set_option maxHeartbeats 4000000 in
set_option maxRecDepth 100000 in
theorem c_L_fits (l : Launch) (hst : l.stackTraces = false) (G : GG) (z : Nat) (μ : Mm) (xa md ou : Nat) (σ : SS) (n : Nat) (tm : Int) (k : Int) (hC : RepC G z μ xa σ n) (hM : RepM G μ md σ tm) (hOJ : OJx G μ ou) (hK : Kv σ n) (hn5 : n < 512) (h_k : -2147483648 ≤ k ∧ k < 2147483648) : Ct l yL_fits wsL_fits rm_L_fits G z [.ref xa, .int (zI k), .ref ou] μ (rS (fun r9 μ' => RepM G μ' md σ tm ∧ ((r9 = 0 ∧ t_st σ k = 0 ∧ RepC G z μ' xa (σ) n ∧ OJ G μ' ou ((zI (b_fits σ (k.toNat + 1))).toInt64)) ∨ (t_st σ k ≠ 0 ∧ r9 = t_st σ k ∧ RepC G z μ' xa σ n ∧ OJx G μ' ou)))) (nX) := by
  refine ct_ofH (cc := cL_fits) (maxL := 4) (ret := (some .int)) (own := RL) (hh := [(0, 9, 12, 13)]) (by decide) rfl rfl hst (Nat.le_of_ble_eq_true rfl) ?_
  intro E hLl hnm C R hT
  have htr : 0 ≤ t_st σ k ∧ t_st σ k ≤ 3 := by (unfold t_st; (repeat split) <;> omega)
  refine x_eq (lv' := [(0, .ref xa), (1, .int (zI k)), (2, .ref ou)]) rfl rfl ?_
  refine x_aload_n C dL_fits_0 rfl 2 rfl ?_
  refine z_iconst C dL_fits_1 ?_
  refine x_aload_n C dL_fits_2 rfl 0 rfl ?_
  refine x_iload_n C dL_fits_3 rfl 1 rfl ?_
  refine x_callV (n := 1) (ci := 9) (Cn := RX8) (T := TX8) (N := 10) (cc9 := 1) (ss9 := 6) (rest := [.int (zI 0), .ref ou]) C dL_fits_4 (c_X8_fits (kxL E) C.st G z μ xa σ n k hC hK.1 (by omega)) gL_fits_X8_fits rfl (by decide +kernel) ⟨(Nat.le_of_ble_eq_true rfl), (Nat.le_of_ble_eq_true rfl)⟩ rfl hC.ob rfl rfl (Nat.le_of_ble_eq_true rfl) rfl rfl ⟨(Nat.le_of_ble_eq_true rfl), (Nat.le_of_ble_eq_true rfl)⟩ (fun En hEn => by (obtain ⟨rfl, ht9⟩ := hEn; exact x_catch (name := "java/lang/IndexOutOfBoundsException") C [] ⟨0, 9, 12, 13⟩ [] hT (fun y hy => absurd hy List.not_mem_nil) (by decide) (by decide) (by decide +kernel) (by decide +kernel) (fun q9 => x_astore_n (lv' := [(3, .ref q9), (0, .ref xa), (1, .int (zI k)), (2, .ref ou)]) C dL_fits_12 rfl (by decide) rfl (z_iconst C dL_fits_13 (x_iret C R dL_fits_14 (Nat.le_of_ble_eq_true rfl) (Nat.le_of_ble_eq_true rfl) ⟨_, rfl, hM, Or.inr ⟨by omega, by omega, hC, hOJ⟩⟩))))) (fun v1 μ2 hv3 => ?_)
  obtain ⟨r4, hw7, h5, hm6⟩ := hv3
  subst hw7
  rw [hm6]
  have ht9 := h5.1
  have hb9 := h5.2
  refine x_stk (stk' := [.int (zI r4), .int (zI 0), .ref ou]) rfl ?_
  refine z_i2l C dL_fits_7 ?_
  refine z_last C dL_fits_8 hOJ (fun μ8 hOJw hF9 => ?_)
  have hC : RepC G z μ8 xa σ n := hF9.repc hC
  have hM : RepM G μ8 md σ tm := hF9.repm hM
  have hOJ := hOJw
  refine x_goto (tgt := 15) C dL_fits_9 (by decide) ?_
  refine z_iconst C dL_fits_15 ?_
  exact x_iret C R dL_fits_16 (Nat.le_of_ble_eq_true rfl) (Nat.le_of_ble_eq_true rfl) (⟨_, rfl, hM, Or.inl ⟨rfl, ht9, hC, (by (rw [hb9] at hOJ; exact hOJ))⟩⟩)
abbrev rm_L_placeOf : Room := { frames := 8, cells := 1, slots := 6, locals := 131 }
set_option maxHeartbeats 4000000 in
set_option maxRecDepth 100000 in
theorem c_L_placeOf (l : Launch) (hst : l.stackTraces = false) (G : GG) (z : Nat) (μ : Mm) (xa md ou : Nat) (σ : SS) (n : Nat) (tm : Int) (k : Int) (hC : RepC G z μ xa σ n) (hM : RepM G μ md σ tm) (hOJ : OJx G μ ou) (hK : Kv σ n) (hn5 : n < 512) (h_k : -2147483648 ≤ k ∧ k < 2147483648) : Ct l yL_placeOf wsL_placeOf rm_L_placeOf G z [.ref xa, .int (zI k), .ref ou] μ (rS (fun r9 μ' => RepM G μ' md σ tm ∧ ((r9 = 0 ∧ t_st σ k = 0 ∧ RepC G z μ' xa (σ) n ∧ OJ G μ' ou ((zI (σ 8 k.toNat)).toInt64)) ∨ (t_st σ k ≠ 0 ∧ r9 = t_st σ k ∧ RepC G z μ' xa σ n ∧ OJx G μ' ou)))) (nX) := by
  refine ct_ofH (cc := cL_placeOf) (maxL := 4) (ret := (some .int)) (own := RL) (hh := [(0, 9, 12, 13)]) (by decide) rfl rfl hst (Nat.le_of_ble_eq_true rfl) ?_
  intro E hLl hnm C R hT
  have htr : 0 ≤ t_st σ k ∧ t_st σ k ≤ 3 := by (unfold t_st; (repeat split) <;> omega)
  refine x_eq (lv' := [(0, .ref xa), (1, .int (zI k)), (2, .ref ou)]) rfl rfl ?_
  refine x_aload_n C dL_placeOf_0 rfl 2 rfl ?_
  refine z_iconst C dL_placeOf_1 ?_
  refine x_aload_n C dL_placeOf_2 rfl 0 rfl ?_
  refine x_iload_n C dL_placeOf_3 rfl 1 rfl ?_
  refine x_callV (n := 1) (ci := 9) (Cn := RX8) (T := TX8) (N := 10) (cc9 := 1) (ss9 := 6) (rest := [.int (zI 0), .ref ou]) C dL_placeOf_4 (c_X8_placeOf (kxL E) C.st G z μ xa σ n k hC hK.1 (by omega)) gL_placeOf_X8_placeOf rfl (by decide +kernel) ⟨(Nat.le_of_ble_eq_true rfl), (Nat.le_of_ble_eq_true rfl)⟩ rfl hC.ob rfl rfl (Nat.le_of_ble_eq_true rfl) rfl rfl ⟨(Nat.le_of_ble_eq_true rfl), (Nat.le_of_ble_eq_true rfl)⟩ (fun En hEn => by (obtain ⟨rfl, ht9⟩ := hEn; exact x_catch (name := "java/lang/IndexOutOfBoundsException") C [] ⟨0, 9, 12, 13⟩ [] hT (fun y hy => absurd hy List.not_mem_nil) (by decide) (by decide) (by decide +kernel) (by decide +kernel) (fun q9 => x_astore_n (lv' := [(3, .ref q9), (0, .ref xa), (1, .int (zI k)), (2, .ref ou)]) C dL_placeOf_12 rfl (by decide) rfl (z_iconst C dL_placeOf_13 (x_iret C R dL_placeOf_14 (Nat.le_of_ble_eq_true rfl) (Nat.le_of_ble_eq_true rfl) ⟨_, rfl, hM, Or.inr ⟨by omega, by omega, hC, hOJ⟩⟩))))) (fun v1 μ2 hv3 => ?_)
  obtain ⟨r4, hw7, h5, hm6⟩ := hv3
  subst hw7
  rw [hm6]
  have ht9 := h5.1
  have hb9 := h5.2
  refine x_stk (stk' := [.int (zI r4), .int (zI 0), .ref ou]) rfl ?_
  refine z_i2l C dL_placeOf_7 ?_
  refine z_last C dL_placeOf_8 hOJ (fun μ8 hOJw hF9 => ?_)
  have hC : RepC G z μ8 xa σ n := hF9.repc hC
  have hM : RepM G μ8 md σ tm := hF9.repm hM
  have hOJ := hOJw
  refine x_goto (tgt := 15) C dL_placeOf_9 (by decide) ?_
  refine z_iconst C dL_placeOf_15 ?_
  exact x_iret C R dL_placeOf_16 (Nat.le_of_ble_eq_true rfl) (Nat.le_of_ble_eq_true rfl) (⟨_, rfl, hM, Or.inl ⟨rfl, ht9, hC, (by (rw [hb9] at hOJ; exact hOJ))⟩⟩)
abbrev rm_L_placeByAll : Room := { frames := 8, cells := 1, slots := 6, locals := 132 }
set_option maxHeartbeats 4000000 in
set_option maxRecDepth 100000 in
theorem c_L_placeByAll (l : Launch) (hst : l.stackTraces = false) (G : GG) (z : Nat) (μ : Mm) (xa md ou : Nat) (σ : SS) (n : Nat) (tm : Int) (k : Int) (hC : RepC G z μ xa σ n) (hM : RepM G μ md σ tm) (hOJ : OJx G μ ou) (hK : Kv σ n) (hn5 : n < 512) (h_k : -2147483648 ≤ k ∧ k < 2147483648) : Ct l yL_placeByAll wsL_placeByAll rm_L_placeByAll G z [.ref xa, .int (zI k), .ref ou] μ (rS (fun r9 μ' => RepM G μ' md σ tm ∧ ((r9 = 0 ∧ t_st σ k = 0 ∧ RepC G z μ' xa (σ) n ∧ OJ G μ' ou ((zI (uq (fitb σ (k.toNat + 1) (-1)))).toInt64)) ∨ (t_st σ k ≠ 0 ∧ r9 = t_st σ k ∧ RepC G z μ' xa σ n ∧ OJx G μ' ou)))) (nX) := by
  refine ct_ofH (cc := cL_placeByAll) (maxL := 4) (ret := (some .int)) (own := RL) (hh := [(0, 9, 12, 13)]) (by decide) rfl rfl hst (Nat.le_of_ble_eq_true rfl) ?_
  intro E hLl hnm C R hT
  have htr : 0 ≤ t_st σ k ∧ t_st σ k ≤ 3 := by (unfold t_st; (repeat split) <;> omega)
  refine x_eq (lv' := [(0, .ref xa), (1, .int (zI k)), (2, .ref ou)]) rfl rfl ?_
  refine x_aload_n C dL_placeByAll_0 rfl 2 rfl ?_
  refine z_iconst C dL_placeByAll_1 ?_
  refine x_aload_n C dL_placeByAll_2 rfl 0 rfl ?_
  refine x_iload_n C dL_placeByAll_3 rfl 1 rfl ?_
  refine x_callV (n := 1) (ci := 9) (Cn := RX8) (T := TX8) (N := 10) (cc9 := 1) (ss9 := 6) (rest := [.int (zI 0), .ref ou]) C dL_placeByAll_4 (c_X8_placeByAll (kxL E) C.st G z μ xa σ n k hC hK.1 (by omega)) gL_placeByAll_X8_placeByAll rfl (by decide +kernel) ⟨(Nat.le_of_ble_eq_true rfl), (Nat.le_of_ble_eq_true rfl)⟩ rfl hC.ob rfl rfl (Nat.le_of_ble_eq_true rfl) rfl rfl ⟨(Nat.le_of_ble_eq_true rfl), (Nat.le_of_ble_eq_true rfl)⟩ (fun En hEn => by (obtain ⟨rfl, ht9⟩ := hEn; exact x_catch (name := "java/lang/IndexOutOfBoundsException") C [] ⟨0, 9, 12, 13⟩ [] hT (fun y hy => absurd hy List.not_mem_nil) (by decide) (by decide) (by decide +kernel) (by decide +kernel) (fun q9 => x_astore_n (lv' := [(3, .ref q9), (0, .ref xa), (1, .int (zI k)), (2, .ref ou)]) C dL_placeByAll_12 rfl (by decide) rfl (z_iconst C dL_placeByAll_13 (x_iret C R dL_placeByAll_14 (Nat.le_of_ble_eq_true rfl) (Nat.le_of_ble_eq_true rfl) ⟨_, rfl, hM, Or.inr ⟨by omega, by omega, hC, hOJ⟩⟩))))) (fun v1 μ2 hv3 => ?_)
  obtain ⟨r4, hw7, h5, hm6⟩ := hv3
  subst hw7
  rw [hm6]
  have ht9 := h5.1
  have hb9 := h5.2
  refine x_stk (stk' := [.int (zI r4), .int (zI 0), .ref ou]) rfl ?_
  refine z_i2l C dL_placeByAll_7 ?_
  refine z_last C dL_placeByAll_8 hOJ (fun μ8 hOJw hF9 => ?_)
  have hC : RepC G z μ8 xa σ n := hF9.repc hC
  have hM : RepM G μ8 md σ tm := hF9.repm hM
  have hOJ := hOJw
  refine x_goto (tgt := 15) C dL_placeByAll_9 (by decide) ?_
  refine z_iconst C dL_placeByAll_15 ?_
  exact x_iret C R dL_placeByAll_16 (Nat.le_of_ble_eq_true rfl) (Nat.le_of_ble_eq_true rfl) (⟨_, rfl, hM, Or.inl ⟨rfl, ht9, hC, (by (rw [hb9] at hOJ; exact hOJ))⟩⟩)
abbrev rm_L_moves : Room := { frames := 8, cells := 1, slots := 6, locals := 131 }
set_option maxHeartbeats 4000000 in
set_option maxRecDepth 100000 in
theorem c_L_moves (l : Launch) (hst : l.stackTraces = false) (G : GG) (z : Nat) (μ : Mm) (xa md ou : Nat) (σ : SS) (n : Nat) (tm : Int) (k : Int) (hC : RepC G z μ xa σ n) (hM : RepM G μ md σ tm) (hOJ : OJx G μ ou) (hK : Kv σ n) (hn5 : n < 512) (h_k : -2147483648 ≤ k ∧ k < 2147483648) : Ct l yL_moves wsL_moves rm_L_moves G z [.ref xa, .int (zI k), .ref ou] μ (rS (fun r9 μ' => RepM G μ' md σ tm ∧ ((r9 = 0 ∧ t_st σ k = 0 ∧ RepC G z μ' xa (σ) n ∧ OJ G μ' ou ((zI (σ 9 k.toNat)).toInt64)) ∨ (t_st σ k ≠ 0 ∧ r9 = t_st σ k ∧ RepC G z μ' xa σ n ∧ OJx G μ' ou)))) (nX) := by
  refine ct_ofH (cc := cL_moves) (maxL := 4) (ret := (some .int)) (own := RL) (hh := [(0, 9, 12, 13)]) (by decide) rfl rfl hst (Nat.le_of_ble_eq_true rfl) ?_
  intro E hLl hnm C R hT
  have htr : 0 ≤ t_st σ k ∧ t_st σ k ≤ 3 := by (unfold t_st; (repeat split) <;> omega)
  refine x_eq (lv' := [(0, .ref xa), (1, .int (zI k)), (2, .ref ou)]) rfl rfl ?_
  refine x_aload_n C dL_moves_0 rfl 2 rfl ?_
  refine z_iconst C dL_moves_1 ?_
  refine x_aload_n C dL_moves_2 rfl 0 rfl ?_
  refine x_iload_n C dL_moves_3 rfl 1 rfl ?_
  refine x_callV (n := 1) (ci := 9) (Cn := RX8) (T := TX8) (N := 10) (cc9 := 1) (ss9 := 6) (rest := [.int (zI 0), .ref ou]) C dL_moves_4 (c_X8_moves (kxL E) C.st G z μ xa σ n k hC hK.1 (by omega)) gL_moves_X8_moves rfl (by decide +kernel) ⟨(Nat.le_of_ble_eq_true rfl), (Nat.le_of_ble_eq_true rfl)⟩ rfl hC.ob rfl rfl (Nat.le_of_ble_eq_true rfl) rfl rfl ⟨(Nat.le_of_ble_eq_true rfl), (Nat.le_of_ble_eq_true rfl)⟩ (fun En hEn => by (obtain ⟨rfl, ht9⟩ := hEn; exact x_catch (name := "java/lang/IndexOutOfBoundsException") C [] ⟨0, 9, 12, 13⟩ [] hT (fun y hy => absurd hy List.not_mem_nil) (by decide) (by decide) (by decide +kernel) (by decide +kernel) (fun q9 => x_astore_n (lv' := [(3, .ref q9), (0, .ref xa), (1, .int (zI k)), (2, .ref ou)]) C dL_moves_12 rfl (by decide) rfl (z_iconst C dL_moves_13 (x_iret C R dL_moves_14 (Nat.le_of_ble_eq_true rfl) (Nat.le_of_ble_eq_true rfl) ⟨_, rfl, hM, Or.inr ⟨by omega, by omega, hC, hOJ⟩⟩))))) (fun v1 μ2 hv3 => ?_)
  obtain ⟨r4, hw7, h5, hm6⟩ := hv3
  subst hw7
  rw [hm6]
  have ht9 := h5.1
  have hb9 := h5.2
  refine x_stk (stk' := [.int (zI r4), .int (zI 0), .ref ou]) rfl ?_
  refine z_i2l C dL_moves_7 ?_
  refine z_last C dL_moves_8 hOJ (fun μ8 hOJw hF9 => ?_)
  have hC : RepC G z μ8 xa σ n := hF9.repc hC
  have hM : RepM G μ8 md σ tm := hF9.repm hM
  have hOJ := hOJw
  refine x_goto (tgt := 15) C dL_moves_9 (by decide) ?_
  refine z_iconst C dL_moves_15 ?_
  exact x_iret C R dL_moves_16 (Nat.le_of_ble_eq_true rfl) (Nat.le_of_ble_eq_true rfl) (⟨_, rfl, hM, Or.inl ⟨rfl, ht9, hC, (by (rw [hb9] at hOJ; exact hOJ))⟩⟩)
abbrev rm_L_spell : Room := { frames := 7, cells := 1, slots := 6, locals := 110 }
set_option maxHeartbeats 4000000 in
set_option maxRecDepth 100000 in
theorem c_L_spell (l : Launch) (hst : l.stackTraces = false) (G : GG) (z : Nat) (μ : Mm) (xa md ou : Nat) (σ : SS) (n : Nat) (tm : Int) (c : Int) (hC : RepC G z μ xa σ n) (hM : RepM G μ md σ tm) (hOJ : OJx G μ ou) (hK : Kv σ n) (hn5 : n < 512) (h_c : -2147483648 ≤ c ∧ c < 2147483648) : Ct l yL_spell wsL_spell rm_L_spell G z [.ref xa, .int (zI c), .ref ou] μ (rS (fun r9 μ' => RepM G μ' md σ tm ∧ ((r9 = 0 ∧ t_spell σ c = 0 ∧ RepC G z μ' xa (n_spell σ c) n ∧ OJ G μ' ou ((zI (b_spell σ c)).toInt64)) ∨ (t_spell σ c ≠ 0 ∧ r9 = t_spell σ c ∧ RepC G z μ' xa σ n ∧ OJx G μ' ou)))) (nX) := by
  refine ct_ofH (cc := cL_spell) (maxL := 4) (ret := (some .int)) (own := RL) (hh := [(0, 9, 12, 13), (0, 9, 15, 25)]) (by decide) rfl rfl hst (Nat.le_of_ble_eq_true rfl) ?_
  intro E hLl hnm C R hT
  have htr : 0 ≤ t_spell σ c ∧ t_spell σ c ≤ 3 := by (unfold t_spell; (repeat split) <;> omega)
  refine x_eq (lv' := [(0, .ref xa), (1, .int (zI c)), (2, .ref ou)]) rfl rfl ?_
  refine x_aload_n C dL_spell_0 rfl 2 rfl ?_
  refine z_iconst C dL_spell_1 ?_
  refine x_aload_n C dL_spell_2 rfl 0 rfl ?_
  refine x_iload_n C dL_spell_3 rfl 1 rfl ?_
  refine x_callV (n := 1) (ci := 9) (Cn := RX8) (T := TX8) (N := 10) (cc9 := 1) (ss9 := 6) (rest := [.int (zI 0), .ref ou]) C dL_spell_4 (c_X8_spell (kxL E) C.st G z μ xa σ n c hC hK.1 (by omega)) gL_spell_X8_spell rfl (by decide +kernel) ⟨(Nat.le_of_ble_eq_true rfl), (Nat.le_of_ble_eq_true rfl)⟩ rfl hC.ob rfl rfl (Nat.le_of_ble_eq_true rfl) rfl rfl ⟨(Nat.le_of_ble_eq_true rfl), (Nat.le_of_ble_eq_true rfl)⟩ (fun En hEn => by (rcases hEn with ⟨rfl, ht9⟩ | ⟨rfl, ht9⟩; exact x_catch (name := "java/lang/IndexOutOfBoundsException") C [] ⟨0, 9, 12, 13⟩ [⟨0, 9, 15, 25⟩] hT (fun y hy => absurd hy List.not_mem_nil) (by decide) (by decide) (by decide +kernel) (by decide +kernel) (fun q9 => x_astore_n (lv' := [(3, .ref q9), (0, .ref xa), (1, .int (zI c)), (2, .ref ou)]) C dL_spell_12 rfl (by decide) rfl (z_iconst C dL_spell_13 (x_iret C R dL_spell_14 (Nat.le_of_ble_eq_true rfl) (Nat.le_of_ble_eq_true rfl) ⟨_, rfl, hM, Or.inr ⟨by omega, by omega, hC, hOJ⟩⟩))); exact x_catch (name := "java/lang/IllegalStateException") C [⟨0, 9, 12, 13⟩] ⟨0, 9, 15, 25⟩ [] hT (fun y hy => by (rcases List.mem_cons.mp hy with rfl | hy; exact Or.inr ⟨by decide, "java/lang/IndexOutOfBoundsException", by decide +kernel, by decide +kernel⟩; exact absurd hy List.not_mem_nil)) (by decide) (by decide) (by decide +kernel) (by decide +kernel) (fun q9 => x_astore_n (lv' := [(3, .ref q9), (0, .ref xa), (1, .int (zI c)), (2, .ref ou)]) C dL_spell_15 rfl (by decide) rfl (z_iconst C dL_spell_16 (x_iret C R dL_spell_17 (Nat.le_of_ble_eq_true rfl) (Nat.le_of_ble_eq_true rfl) ⟨_, rfl, hM, Or.inr ⟨by omega, by omega, hC, hOJ⟩⟩))))) (fun v1 μ2 hv3 => ?_)
  obtain ⟨r4, hw7, h5⟩ := hv3
  subst hw7
  obtain ⟨⟨ht9, hb9, hC⟩, hF9⟩ := h5
  have hF8 := hF9
  have hM : RepM G μ2 md σ tm := hF8.repm hM
  have hOJ : OJx G μ2 ou := hF8.ojx hOJ
  refine x_stk (stk' := [.int (zI r4), .int (zI 0), .ref ou]) rfl ?_
  refine z_i2l C dL_spell_7 ?_
  refine z_last C dL_spell_8 hOJ (fun μ9 hOJw hF10 => ?_)
  have hM : RepM G μ9 md σ tm := hF10.repm hM
  have hC : RepC G z μ9 xa (n_spell σ c) n := hF10.repc hC
  have hOJ := hOJw
  refine x_goto (tgt := 18) C dL_spell_9 (by decide) ?_
  refine z_iconst C dL_spell_18 ?_
  exact x_iret C R dL_spell_19 (Nat.le_of_ble_eq_true rfl) (Nat.le_of_ble_eq_true rfl) (⟨_, rfl, hM, Or.inl ⟨rfl, ht9, hC, (by (rw [hb9] at hOJ; exact hOJ))⟩⟩)
abbrev rm_L_cipherLength : Room := { frames := 8, cells := 2, slots := 12, locals := 134 }
set_option maxHeartbeats 4000000 in
set_option maxRecDepth 100000 in
theorem c_L_cipherLength (l : Launch) (hst : l.stackTraces = false) (G : GG) (z : Nat) (μ : Mm) (xa md ou : Nat) (σ : SS) (n : Nat) (tm : Int) (k : Int) (hC : RepC G z μ xa σ n) (hM : RepM G μ md σ tm) (hOJ : OJx G μ ou) (hK : Kv σ n) (hn5 : n < 512) (h_k : -2147483648 ≤ k ∧ k < 2147483648) : Ct l yL_cipherLength wsL_cipherLength rm_L_cipherLength G z [.ref xa, .int (zI k), .ref ou] μ (rS (fun r9 μ' => RepM G μ' md σ tm ∧ ((r9 = 0 ∧ t_cipher σ k = 0 ∧ RepC G z μ' xa (σ) n ∧ OJ G μ' ou ((zI (clen σ k)).toInt64)) ∨ (t_cipher σ k ≠ 0 ∧ r9 = t_cipher σ k ∧ RepC G z μ' xa σ n ∧ OJx G μ' ou)))) (nX) := by
  refine ct_ofH (cc := cL_cipherLength) (maxL := 4) (ret := (some .int)) (own := RL) (hh := [(0, 9, 12, 13), (0, 9, 15, 50)]) (by decide) rfl rfl hst (Nat.le_of_ble_eq_true rfl) ?_
  intro E hLl hnm C R hT
  have htr : 0 ≤ t_cipher σ k ∧ t_cipher σ k ≤ 3 := by (unfold t_cipher; (repeat split) <;> omega)
  refine x_eq (lv' := [(0, .ref xa), (1, .int (zI k)), (2, .ref ou)]) rfl rfl ?_
  refine x_aload_n C dL_cipherLength_0 rfl 2 rfl ?_
  refine z_iconst C dL_cipherLength_1 ?_
  refine x_aload_n C dL_cipherLength_2 rfl 0 rfl ?_
  refine x_iload_n C dL_cipherLength_3 rfl 1 rfl ?_
  refine x_callV (n := 1) (ci := 9) (Cn := RX8) (T := TX8) (N := 10) (cc9 := 2) (ss9 := 12) (rest := [.int (zI 0), .ref ou]) C dL_cipherLength_4 (c_X8_cipherLength (kxL E) C.st G z μ xa σ n k hC hK.1 hK.2 (by omega)) gL_cipherLength_X8_cipherLength rfl (by decide +kernel) ⟨(Nat.le_of_ble_eq_true rfl), (Nat.le_of_ble_eq_true rfl)⟩ rfl hC.ob rfl rfl (Nat.le_of_ble_eq_true rfl) rfl rfl ⟨(Nat.le_of_ble_eq_true rfl), (Nat.le_of_ble_eq_true rfl)⟩ (fun En hEn => by (rcases hEn with ⟨rfl, ht9⟩ | ⟨rfl, ht9⟩; exact x_catch (name := "java/lang/IndexOutOfBoundsException") C [] ⟨0, 9, 12, 13⟩ [⟨0, 9, 15, 50⟩] hT (fun y hy => absurd hy List.not_mem_nil) (by decide) (by decide) (by decide +kernel) (by decide +kernel) (fun q9 => x_astore_n (lv' := [(3, .ref q9), (0, .ref xa), (1, .int (zI k)), (2, .ref ou)]) C dL_cipherLength_12 rfl (by decide) rfl (z_iconst C dL_cipherLength_13 (x_iret C R dL_cipherLength_14 (Nat.le_of_ble_eq_true rfl) (Nat.le_of_ble_eq_true rfl) ⟨_, rfl, hM, Or.inr ⟨by omega, by omega, hC, hOJ⟩⟩))); exact x_catch (name := "java/util/NoSuchElementException") C [⟨0, 9, 12, 13⟩] ⟨0, 9, 15, 50⟩ [] hT (fun y hy => by (rcases List.mem_cons.mp hy with rfl | hy; exact Or.inr ⟨by decide, "java/lang/IndexOutOfBoundsException", by decide +kernel, by decide +kernel⟩; exact absurd hy List.not_mem_nil)) (by decide) (by decide) (by decide +kernel) (by decide +kernel) (fun q9 => x_astore_n (lv' := [(3, .ref q9), (0, .ref xa), (1, .int (zI k)), (2, .ref ou)]) C dL_cipherLength_15 rfl (by decide) rfl (z_iconst C dL_cipherLength_16 (x_iret C R dL_cipherLength_17 (Nat.le_of_ble_eq_true rfl) (Nat.le_of_ble_eq_true rfl) ⟨_, rfl, hM, Or.inr ⟨by omega, by omega, hC, hOJ⟩⟩))))) (fun v1 μ2 hv3 => ?_)
  obtain ⟨r4, hw7, h5, hm6⟩ := hv3
  subst hw7
  rw [hm6]
  have ht9 := h5.1
  have hb9 := h5.2
  refine x_stk (stk' := [.int (zI r4), .int (zI 0), .ref ou]) rfl ?_
  refine z_i2l C dL_cipherLength_7 ?_
  refine z_last C dL_cipherLength_8 hOJ (fun μ8 hOJw hF9 => ?_)
  have hC : RepC G z μ8 xa σ n := hF9.repc hC
  have hM : RepM G μ8 md σ tm := hF9.repm hM
  have hOJ := hOJw
  refine x_goto (tgt := 18) C dL_cipherLength_9 (by decide) ?_
  refine z_iconst C dL_cipherLength_18 ?_
  exact x_iret C R dL_cipherLength_19 (Nat.le_of_ble_eq_true rfl) (Nat.le_of_ble_eq_true rfl) (⟨_, rfl, hM, Or.inl ⟨rfl, ht9, hC, (by (rw [hb9] at hOJ; exact hOJ))⟩⟩)
abbrev rm_L_cipherAt : Room := { frames := 8, cells := 2, slots := 12, locals := 136 }
set_option maxHeartbeats 4000000 in
set_option maxRecDepth 100000 in
theorem c_L_cipherAt (l : Launch) (hst : l.stackTraces = false) (G : GG) (z : Nat) (μ : Mm) (xa md ou : Nat) (σ : SS) (n : Nat) (tm : Int) (k c : Int) (hC : RepC G z μ xa σ n) (hM : RepM G μ md σ tm) (hOJ : OJx G μ ou) (hK : Kv σ n) (hn5 : n < 512) (h_k : -2147483648 ≤ k ∧ k < 2147483648) (h_c : -2147483648 ≤ c ∧ c < 2147483648) : Ct l yL_cipherAt wsL_cipherAt rm_L_cipherAt G z [.ref xa, .int (zI k), .int (zI c), .ref ou] μ (rS (fun r9 μ' => RepM G μ' md σ tm ∧ ((r9 = 0 ∧ t_cipherAt σ k c = 0 ∧ RepC G z μ' xa (σ) n ∧ ∃ b9, b_cipherAt σ k c b9 ∧ OJ G μ' ou ((zI b9).toInt64)) ∨ (t_cipherAt σ k c ≠ 0 ∧ r9 = t_cipherAt σ k c ∧ RepC G z μ' xa σ n ∧ OJx G μ' ou)))) (nX) := by
  refine ct_ofH (cc := cL_cipherAt) (maxL := 5) (ret := (some .int)) (own := RL) (hh := [(0, 10, 13, 13), (0, 10, 17, 50)]) (by decide) rfl rfl hst (Nat.le_of_ble_eq_true rfl) ?_
  intro E hLl hnm C R hT
  have htr : 0 ≤ t_cipherAt σ k c ∧ t_cipherAt σ k c ≤ 3 := by (unfold t_cipherAt; (repeat split) <;> omega)
  refine x_eq (lv' := [(0, .ref xa), (1, .int (zI k)), (2, .int (zI c)), (3, .ref ou)]) rfl rfl ?_
  refine x_aload_n C dL_cipherAt_0 rfl 3 rfl ?_
  refine z_iconst C dL_cipherAt_1 ?_
  refine x_aload_n C dL_cipherAt_2 rfl 0 rfl ?_
  refine x_iload_n C dL_cipherAt_3 rfl 1 rfl ?_
  refine x_iload_n C dL_cipherAt_4 rfl 2 rfl ?_
  refine x_callV (n := 2) (ci := 9) (Cn := RX8) (T := TX8) (N := 10) (cc9 := 2) (ss9 := 12) (rest := [.int (zI 0), .ref ou]) C dL_cipherAt_5 (c_X8_cipherAt (kxL E) C.st G z μ xa σ n k c hC hK.1 hK.2 (by omega) (by omega)) gL_cipherAt_X8_cipherAt rfl (by decide +kernel) ⟨(Nat.le_of_ble_eq_true rfl), (Nat.le_of_ble_eq_true rfl)⟩ rfl hC.ob rfl rfl (Nat.le_of_ble_eq_true rfl) rfl rfl ⟨(Nat.le_of_ble_eq_true rfl), (Nat.le_of_ble_eq_true rfl)⟩ (fun En hEn => by (rcases hEn with ⟨rfl, ht9⟩ | ⟨rfl, ht9⟩; exact x_catch (name := "java/lang/IndexOutOfBoundsException") C [] ⟨0, 10, 13, 13⟩ [⟨0, 10, 17, 50⟩] hT (fun y hy => absurd hy List.not_mem_nil) (by decide) (by decide) (by decide +kernel) (by decide +kernel) (fun q9 => x_astore (lv' := [(4, .ref q9), (0, .ref xa), (1, .int (zI k)), (2, .int (zI c)), (3, .ref ou)]) C dL_cipherAt_13 (by decide) rfl (z_iconst C dL_cipherAt_15 (x_iret C R dL_cipherAt_16 (Nat.le_of_ble_eq_true rfl) (Nat.le_of_ble_eq_true rfl) ⟨_, rfl, hM, Or.inr ⟨by omega, by omega, hC, hOJ⟩⟩))); exact x_catch (name := "java/util/NoSuchElementException") C [⟨0, 10, 13, 13⟩] ⟨0, 10, 17, 50⟩ [] hT (fun y hy => by (rcases List.mem_cons.mp hy with rfl | hy; exact Or.inr ⟨by decide, "java/lang/IndexOutOfBoundsException", by decide +kernel, by decide +kernel⟩; exact absurd hy List.not_mem_nil)) (by decide) (by decide) (by decide +kernel) (by decide +kernel) (fun q9 => x_astore (lv' := [(4, .ref q9), (0, .ref xa), (1, .int (zI k)), (2, .int (zI c)), (3, .ref ou)]) C dL_cipherAt_17 (by decide) rfl (z_iconst C dL_cipherAt_19 (x_iret C R dL_cipherAt_20 (Nat.le_of_ble_eq_true rfl) (Nat.le_of_ble_eq_true rfl) ⟨_, rfl, hM, Or.inr ⟨by omega, by omega, hC, hOJ⟩⟩))))) (fun v1 μ2 hv3 => ?_)
  obtain ⟨r4, hw7, h5, hm6⟩ := hv3
  subst hw7
  rw [hm6]
  have ht9 := h5.1
  have hb9 := h5.2
  refine x_stk (stk' := [.int (zI r4), .int (zI 0), .ref ou]) rfl ?_
  refine z_i2l C dL_cipherAt_8 ?_
  refine z_last C dL_cipherAt_9 hOJ (fun μ8 hOJw hF9 => ?_)
  have hC : RepC G z μ8 xa σ n := hF9.repc hC
  have hM : RepM G μ8 md σ tm := hF9.repm hM
  have hOJ := hOJw
  refine x_goto (tgt := 21) C dL_cipherAt_10 (by decide) ?_
  refine z_iconst C dL_cipherAt_21 ?_
  exact x_iret C R dL_cipherAt_22 (Nat.le_of_ble_eq_true rfl) (Nat.le_of_ble_eq_true rfl) (⟨_, rfl, hM, Or.inl ⟨rfl, ht9, hC, ⟨_, hb9, hOJ⟩⟩⟩)
abbrev rm_L_pass : Room := { frames := 7, cells := 1, slots := 6, locals := 162 }
set_option maxHeartbeats 4000000 in
set_option maxRecDepth 100000 in
theorem c_L_pass (l : Launch) (hst : l.stackTraces = false) (G : GG) (z : Nat) (μ : Mm) (xa md ou : Nat) (σ : SS) (n : Nat) (tm : Int) (mm : Int) (hC : RepC G z μ xa σ n) (hM : RepM G μ md σ tm) (hOJ : OJx G μ ou) (hK : Kv σ n) (hn5 : n < 512) (h_mm : -2147483648 ≤ mm ∧ mm < 2147483648) : Ct l yL_pass wsL_pass rm_L_pass G z [.ref xa, .int (zI mm), .ref ou] μ (rS (fun r9 μ' => RepM G μ' md σ tm ∧ ((r9 = 0 ∧ t_pass σ mm = 0 ∧ RepC G z μ' xa (n_pass σ mm) n ∧ OJ G μ' ou ((zI (b_pass σ mm (σ 12 0).toNat)).toInt64)) ∨ (t_pass σ mm ≠ 0 ∧ r9 = t_pass σ mm ∧ RepC G z μ' xa σ n ∧ OJx G μ' ou)))) (nX) := by
  refine ct_ofH (cc := cL_pass) (maxL := 4) (ret := (some .int)) (own := RL) (hh := [(0, 9, 12, 15), (0, 9, 15, 25)]) (by decide) rfl rfl hst (Nat.le_of_ble_eq_true rfl) ?_
  intro E hLl hnm C R hT
  have htr : 0 ≤ t_pass σ mm ∧ t_pass σ mm ≤ 3 := by (unfold t_pass; (repeat split) <;> omega)
  refine x_eq (lv' := [(0, .ref xa), (1, .int (zI mm)), (2, .ref ou)]) rfl rfl ?_
  refine x_aload_n C dL_pass_0 rfl 2 rfl ?_
  refine z_iconst C dL_pass_1 ?_
  refine x_aload_n C dL_pass_2 rfl 0 rfl ?_
  refine x_iload_n C dL_pass_3 rfl 1 rfl ?_
  refine x_callV (n := 1) (ci := 9) (Cn := RX8) (T := TX8) (N := 10) (cc9 := 1) (ss9 := 6) (rest := [.int (zI 0), .ref ou]) C dL_pass_4 (c_X8_pass (kxL E) C.st G z μ xa σ n mm hC hK.1 hK.2 (by omega)) gL_pass_X8_pass rfl (by decide +kernel) ⟨(Nat.le_of_ble_eq_true rfl), (Nat.le_of_ble_eq_true rfl)⟩ rfl hC.ob rfl rfl (Nat.le_of_ble_eq_true rfl) rfl rfl ⟨(Nat.le_of_ble_eq_true rfl), (Nat.le_of_ble_eq_true rfl)⟩ (fun En hEn => by (rcases hEn with ⟨rfl, ht9⟩ | ⟨rfl, ht9⟩; exact x_catch (name := "java/lang/IllegalArgumentException") C [] ⟨0, 9, 12, 15⟩ [⟨0, 9, 15, 25⟩] hT (fun y hy => absurd hy List.not_mem_nil) (by decide) (by decide) (by decide +kernel) (by decide +kernel) (fun q9 => x_astore_n (lv' := [(3, .ref q9), (0, .ref xa), (1, .int (zI mm)), (2, .ref ou)]) C dL_pass_12 rfl (by decide) rfl (z_iconst C dL_pass_13 (x_iret C R dL_pass_14 (Nat.le_of_ble_eq_true rfl) (Nat.le_of_ble_eq_true rfl) ⟨_, rfl, hM, Or.inr ⟨by omega, by omega, hC, hOJ⟩⟩))); exact x_catch (name := "java/lang/IllegalStateException") C [⟨0, 9, 12, 15⟩] ⟨0, 9, 15, 25⟩ [] hT (fun y hy => by (rcases List.mem_cons.mp hy with rfl | hy; exact Or.inr ⟨by decide, "java/lang/IllegalArgumentException", by decide +kernel, by decide +kernel⟩; exact absurd hy List.not_mem_nil)) (by decide) (by decide) (by decide +kernel) (by decide +kernel) (fun q9 => x_astore_n (lv' := [(3, .ref q9), (0, .ref xa), (1, .int (zI mm)), (2, .ref ou)]) C dL_pass_15 rfl (by decide) rfl (z_iconst C dL_pass_16 (x_iret C R dL_pass_17 (Nat.le_of_ble_eq_true rfl) (Nat.le_of_ble_eq_true rfl) ⟨_, rfl, hM, Or.inr ⟨by omega, by omega, hC, hOJ⟩⟩))))) (fun v1 μ2 hv3 => ?_)
  obtain ⟨r4, hw7, h5⟩ := hv3
  subst hw7
  obtain ⟨⟨ht9, hb9, hC⟩, hF9⟩ := h5
  have hF8 := hF9
  have hM : RepM G μ2 md σ tm := hF8.repm hM
  have hOJ : OJx G μ2 ou := hF8.ojx hOJ
  refine x_stk (stk' := [.int (zI r4), .int (zI 0), .ref ou]) rfl ?_
  refine z_i2l C dL_pass_7 ?_
  refine z_last C dL_pass_8 hOJ (fun μ9 hOJw hF10 => ?_)
  have hM : RepM G μ9 md σ tm := hF10.repm hM
  have hC : RepC G z μ9 xa (n_pass σ mm) n := hF10.repc hC
  have hOJ := hOJw
  refine x_goto (tgt := 18) C dL_pass_9 (by decide) ?_
  refine z_iconst C dL_pass_18 ?_
  exact x_iret C R dL_pass_19 (Nat.le_of_ble_eq_true rfl) (Nat.le_of_ble_eq_true rfl) (⟨_, rfl, hM, Or.inl ⟨rfl, ht9, hC, (by (rw [hb9] at hOJ; exact hOJ))⟩⟩)
abbrev rm_L_addWalker : Room := { frames := 8, cells := 5, slots := 50, locals := 131 }
set_option maxHeartbeats 4000000 in
set_option maxRecDepth 100000 in
theorem c_L_addWalker (l : Launch) (hst : l.stackTraces = false) (G : GG) (z : Nat) (μ : Mm) (xa md ou : Nat) (σ : SS) (n : Nat) (tm : Int) (p c : Int) (hC : RepC G z μ xa σ n) (hM : RepM G μ md σ tm) (hOJ : OJx G μ ou) (hK : Kv σ n) (hn5 : n < 512) (h_p : -2147483648 ≤ p ∧ p < 2147483648) (h_c : -2147483648 ≤ c ∧ c < 2147483648) : Ct l yL_addWalker wsL_addWalker rm_L_addWalker G z [.ref xa, .int (zI p), .int (zI c), .ref ou] μ (rS (fun r9 μ' => RepM G μ' md σ tm ∧ ((r9 = 0 ∧ t_addWalker σ p c = 0 ∧ RepC G z μ' xa (n_addWalker σ p c) n ∧ OJ G μ' ou ((zI (σ 12 0)).toInt64)) ∨ (t_addWalker σ p c ≠ 0 ∧ r9 = t_addWalker σ p c ∧ RepC G z μ' xa σ n ∧ OJx G μ' ou)))) (nX) := by
  refine ct_ofH (cc := cL_addWalker) (maxL := 5) (ret := (some .int)) (own := RL) (hh := [(0, 10, 13, 13), (0, 10, 17, 15), (0, 10, 21, 25)]) (by decide) rfl rfl hst (Nat.le_of_ble_eq_true rfl) ?_
  intro E hLl hnm C R hT
  have htr : 0 ≤ t_addWalker σ p c ∧ t_addWalker σ p c ≤ 3 := by (unfold t_addWalker; (repeat split) <;> omega)
  refine x_eq (lv' := [(0, .ref xa), (1, .int (zI p)), (2, .int (zI c)), (3, .ref ou)]) rfl rfl ?_
  refine x_aload_n C dL_addWalker_0 rfl 3 rfl ?_
  refine z_iconst C dL_addWalker_1 ?_
  refine x_aload_n C dL_addWalker_2 rfl 0 rfl ?_
  refine x_iload_n C dL_addWalker_3 rfl 1 rfl ?_
  refine x_iload_n C dL_addWalker_4 rfl 2 rfl ?_
  refine x_callV (n := 2) (ci := 9) (Cn := RX8) (T := TX8) (N := 10) (cc9 := 5) (ss9 := 50) (rest := [.int (zI 0), .ref ou]) C dL_addWalker_5 (c_X8_addWalker (kxL E) C.st G z μ xa σ n p c hC hK.1 hK.2 (by omega) (by omega)) gL_addWalker_X8_addWalker rfl (by decide +kernel) ⟨(Nat.le_of_ble_eq_true rfl), (Nat.le_of_ble_eq_true rfl)⟩ rfl hC.ob rfl rfl (Nat.le_of_ble_eq_true rfl) rfl rfl ⟨(Nat.le_of_ble_eq_true rfl), (Nat.le_of_ble_eq_true rfl)⟩ (fun En hEn => by (rcases hEn with ⟨rfl, ht9⟩ | ⟨rfl, ht9⟩ | ⟨rfl, ht9⟩; exact x_catch (name := "java/lang/IndexOutOfBoundsException") C [] ⟨0, 10, 13, 13⟩ [⟨0, 10, 17, 15⟩, ⟨0, 10, 21, 25⟩] hT (fun y hy => absurd hy List.not_mem_nil) (by decide) (by decide) (by decide +kernel) (by decide +kernel) (fun q9 => x_astore (lv' := [(4, .ref q9), (0, .ref xa), (1, .int (zI p)), (2, .int (zI c)), (3, .ref ou)]) C dL_addWalker_13 (by decide) rfl (z_iconst C dL_addWalker_15 (x_iret C R dL_addWalker_16 (Nat.le_of_ble_eq_true rfl) (Nat.le_of_ble_eq_true rfl) ⟨_, rfl, hM, Or.inr ⟨by omega, by omega, hC, hOJ⟩⟩))); exact x_catch (name := "java/lang/IllegalArgumentException") C [⟨0, 10, 13, 13⟩] ⟨0, 10, 17, 15⟩ [⟨0, 10, 21, 25⟩] hT (fun y hy => by (rcases List.mem_cons.mp hy with rfl | hy; exact Or.inr ⟨by decide, "java/lang/IndexOutOfBoundsException", by decide +kernel, by decide +kernel⟩; exact absurd hy List.not_mem_nil)) (by decide) (by decide) (by decide +kernel) (by decide +kernel) (fun q9 => x_astore (lv' := [(4, .ref q9), (0, .ref xa), (1, .int (zI p)), (2, .int (zI c)), (3, .ref ou)]) C dL_addWalker_17 (by decide) rfl (z_iconst C dL_addWalker_19 (x_iret C R dL_addWalker_20 (Nat.le_of_ble_eq_true rfl) (Nat.le_of_ble_eq_true rfl) ⟨_, rfl, hM, Or.inr ⟨by omega, by omega, hC, hOJ⟩⟩))); exact x_catch (name := "java/lang/IllegalStateException") C [⟨0, 10, 13, 13⟩, ⟨0, 10, 17, 15⟩] ⟨0, 10, 21, 25⟩ [] hT (fun y hy => by (rcases List.mem_cons.mp hy with rfl | hy; exact Or.inr ⟨by decide, "java/lang/IndexOutOfBoundsException", by decide +kernel, by decide +kernel⟩; rcases List.mem_cons.mp hy with rfl | hy; exact Or.inr ⟨by decide, "java/lang/IllegalArgumentException", by decide +kernel, by decide +kernel⟩; exact absurd hy List.not_mem_nil)) (by decide) (by decide) (by decide +kernel) (by decide +kernel) (fun q9 => x_astore (lv' := [(4, .ref q9), (0, .ref xa), (1, .int (zI p)), (2, .int (zI c)), (3, .ref ou)]) C dL_addWalker_21 (by decide) rfl (z_iconst C dL_addWalker_23 (x_iret C R dL_addWalker_24 (Nat.le_of_ble_eq_true rfl) (Nat.le_of_ble_eq_true rfl) ⟨_, rfl, hM, Or.inr ⟨by omega, by omega, hC, hOJ⟩⟩))))) (fun v1 μ2 hv3 => ?_)
  obtain ⟨r4, hw7, h5⟩ := hv3
  subst hw7
  obtain ⟨⟨ht9, hb9, hC⟩, hF9⟩ := h5
  have hF8 := hF9
  have hM : RepM G μ2 md σ tm := hF8.repm hM
  have hOJ : OJx G μ2 ou := hF8.ojx hOJ
  refine x_stk (stk' := [.int (zI r4), .int (zI 0), .ref ou]) rfl ?_
  refine z_i2l C dL_addWalker_8 ?_
  refine z_last C dL_addWalker_9 hOJ (fun μ9 hOJw hF10 => ?_)
  have hM : RepM G μ9 md σ tm := hF10.repm hM
  have hC : RepC G z μ9 xa (n_addWalker σ p c) n := hF10.repc hC
  have hOJ := hOJw
  refine x_goto (tgt := 25) C dL_addWalker_10 (by decide) ?_
  refine z_iconst C dL_addWalker_25 ?_
  exact x_iret C R dL_addWalker_26 (Nat.le_of_ble_eq_true rfl) (Nat.le_of_ble_eq_true rfl) (⟨_, rfl, hM, Or.inl ⟨rfl, ht9, hC, (by (rw [hb9] at hOJ; exact hOJ))⟩⟩)
abbrev rm_L_send : Room := { frames := 8, cells := 2, slots := 12, locals := 137 }
set_option maxHeartbeats 4000000 in
set_option maxRecDepth 100000 in
theorem c_L_send (l : Launch) (hst : l.stackTraces = false) (G : GG) (z : Nat) (μ : Mm) (xa md ou : Nat) (σ : SS) (n : Nat) (tm : Int) (k q : Int) (hC : RepC G z μ xa σ n) (hM : RepM G μ md σ tm) (hOJ : OJx G μ ou) (hK : Kv σ n) (hn5 : n < 512) (h_k : -2147483648 ≤ k ∧ k < 2147483648) (h_q : -2147483648 ≤ q ∧ q < 2147483648) : Ct l yL_send wsL_send rm_L_send G z [.ref xa, .int (zI k), .int (zI q), .ref ou] μ (rS (fun r9 μ' => RepM G μ' md σ tm ∧ ((r9 = 0 ∧ t_send σ k q = 0 ∧ RepC G z μ' xa (n_send σ k q) n ∧ OJ G μ' ou ((zI (b_way σ (σ 14 k.toNat) q)).toInt64)) ∨ (t_send σ k q ≠ 0 ∧ r9 = t_send σ k q ∧ RepC G z μ' xa σ n ∧ OJx G μ' ou)))) (nX) := by
  refine ct_ofH (cc := cL_send) (maxL := 5) (ret := (some .int)) (own := RL) (hh := [(0, 10, 13, 13)]) (by decide) rfl rfl hst (Nat.le_of_ble_eq_true rfl) ?_
  intro E hLl hnm C R hT
  have htr : 0 ≤ t_send σ k q ∧ t_send σ k q ≤ 3 := by (unfold t_send; (repeat split) <;> omega)
  refine x_eq (lv' := [(0, .ref xa), (1, .int (zI k)), (2, .int (zI q)), (3, .ref ou)]) rfl rfl ?_
  refine x_aload_n C dL_send_0 rfl 3 rfl ?_
  refine z_iconst C dL_send_1 ?_
  refine x_aload_n C dL_send_2 rfl 0 rfl ?_
  refine x_iload_n C dL_send_3 rfl 1 rfl ?_
  refine x_iload_n C dL_send_4 rfl 2 rfl ?_
  refine x_callV (n := 2) (ci := 9) (Cn := RX8) (T := TX8) (N := 10) (cc9 := 2) (ss9 := 12) (rest := [.int (zI 0), .ref ou]) C dL_send_5 (c_X8_send (kxL E) C.st G z μ xa σ n k q hC hK.1 (by omega) (by omega)) gL_send_X8_send rfl (by decide +kernel) ⟨(Nat.le_of_ble_eq_true rfl), (Nat.le_of_ble_eq_true rfl)⟩ rfl hC.ob rfl rfl (Nat.le_of_ble_eq_true rfl) rfl rfl ⟨(Nat.le_of_ble_eq_true rfl), (Nat.le_of_ble_eq_true rfl)⟩ (fun En hEn => by (obtain ⟨rfl, ht9⟩ := hEn; exact x_catch (name := "java/lang/IndexOutOfBoundsException") C [] ⟨0, 10, 13, 13⟩ [] hT (fun y hy => absurd hy List.not_mem_nil) (by decide) (by decide) (by decide +kernel) (by decide +kernel) (fun q9 => x_astore (lv' := [(4, .ref q9), (0, .ref xa), (1, .int (zI k)), (2, .int (zI q)), (3, .ref ou)]) C dL_send_13 (by decide) rfl (z_iconst C dL_send_15 (x_iret C R dL_send_16 (Nat.le_of_ble_eq_true rfl) (Nat.le_of_ble_eq_true rfl) ⟨_, rfl, hM, Or.inr ⟨by omega, by omega, hC, hOJ⟩⟩))))) (fun v1 μ2 hv3 => ?_)
  obtain ⟨r4, hw7, h5⟩ := hv3
  subst hw7
  obtain ⟨⟨ht9, hb9, hC⟩, hF9⟩ := h5
  have hF8 := hF9
  have hM : RepM G μ2 md σ tm := hF8.repm hM
  have hOJ : OJx G μ2 ou := hF8.ojx hOJ
  refine x_stk (stk' := [.int (zI r4), .int (zI 0), .ref ou]) rfl ?_
  refine z_i2l C dL_send_8 ?_
  refine z_last C dL_send_9 hOJ (fun μ9 hOJw hF10 => ?_)
  have hM : RepM G μ9 md σ tm := hF10.repm hM
  have hC : RepC G z μ9 xa (n_send σ k q) n := hF10.repc hC
  have hOJ := hOJw
  refine x_goto (tgt := 17) C dL_send_10 (by decide) ?_
  refine z_iconst C dL_send_17 ?_
  exact x_iret C R dL_send_18 (Nat.le_of_ble_eq_true rfl) (Nat.le_of_ble_eq_true rfl) (⟨_, rfl, hM, Or.inl ⟨rfl, ht9, hC, (by (rw [hb9] at hOJ; exact hOJ))⟩⟩)
abbrev rm_L_at : Room := { frames := 8, cells := 1, slots := 6, locals := 131 }
set_option maxHeartbeats 4000000 in
set_option maxRecDepth 100000 in
theorem c_L_at (l : Launch) (hst : l.stackTraces = false) (G : GG) (z : Nat) (μ : Mm) (xa md ou : Nat) (σ : SS) (n : Nat) (tm : Int) (k : Int) (hC : RepC G z μ xa σ n) (hM : RepM G μ md σ tm) (hOJ : OJx G μ ou) (hK : Kv σ n) (hn5 : n < 512) (h_k : -2147483648 ≤ k ∧ k < 2147483648) : Ct l yL_at wsL_at rm_L_at G z [.ref xa, .int (zI k), .ref ou] μ (rS (fun r9 μ' => RepM G μ' md σ tm ∧ ((r9 = 0 ∧ t_wk σ k = 0 ∧ RepC G z μ' xa (σ) n ∧ OJ G μ' ou ((zI (σ 14 k.toNat)).toInt64)) ∨ (t_wk σ k ≠ 0 ∧ r9 = t_wk σ k ∧ RepC G z μ' xa σ n ∧ OJx G μ' ou)))) (nX) := by
  refine ct_ofH (cc := cL_at) (maxL := 4) (ret := (some .int)) (own := RL) (hh := [(0, 9, 12, 13)]) (by decide) rfl rfl hst (Nat.le_of_ble_eq_true rfl) ?_
  intro E hLl hnm C R hT
  have htr : 0 ≤ t_wk σ k ∧ t_wk σ k ≤ 3 := by (unfold t_wk; (repeat split) <;> omega)
  refine x_eq (lv' := [(0, .ref xa), (1, .int (zI k)), (2, .ref ou)]) rfl rfl ?_
  refine x_aload_n C dL_at_0 rfl 2 rfl ?_
  refine z_iconst C dL_at_1 ?_
  refine x_aload_n C dL_at_2 rfl 0 rfl ?_
  refine x_iload_n C dL_at_3 rfl 1 rfl ?_
  refine x_callV (n := 1) (ci := 9) (Cn := RX8) (T := TX8) (N := 10) (cc9 := 1) (ss9 := 6) (rest := [.int (zI 0), .ref ou]) C dL_at_4 (c_X8_at (kxL E) C.st G z μ xa σ n k hC hK.1 (by omega)) gL_at_X8_at rfl (by decide +kernel) ⟨(Nat.le_of_ble_eq_true rfl), (Nat.le_of_ble_eq_true rfl)⟩ rfl hC.ob rfl rfl (Nat.le_of_ble_eq_true rfl) rfl rfl ⟨(Nat.le_of_ble_eq_true rfl), (Nat.le_of_ble_eq_true rfl)⟩ (fun En hEn => by (obtain ⟨rfl, ht9⟩ := hEn; exact x_catch (name := "java/lang/IndexOutOfBoundsException") C [] ⟨0, 9, 12, 13⟩ [] hT (fun y hy => absurd hy List.not_mem_nil) (by decide) (by decide) (by decide +kernel) (by decide +kernel) (fun q9 => x_astore_n (lv' := [(3, .ref q9), (0, .ref xa), (1, .int (zI k)), (2, .ref ou)]) C dL_at_12 rfl (by decide) rfl (z_iconst C dL_at_13 (x_iret C R dL_at_14 (Nat.le_of_ble_eq_true rfl) (Nat.le_of_ble_eq_true rfl) ⟨_, rfl, hM, Or.inr ⟨by omega, by omega, hC, hOJ⟩⟩))))) (fun v1 μ2 hv3 => ?_)
  obtain ⟨r4, hw7, h5, hm6⟩ := hv3
  subst hw7
  rw [hm6]
  have ht9 := h5.1
  have hb9 := h5.2
  refine x_stk (stk' := [.int (zI r4), .int (zI 0), .ref ou]) rfl ?_
  refine z_i2l C dL_at_7 ?_
  refine z_last C dL_at_8 hOJ (fun μ8 hOJw hF9 => ?_)
  have hC : RepC G z μ8 xa σ n := hF9.repc hC
  have hM : RepM G μ8 md σ tm := hF9.repm hM
  have hOJ := hOJw
  refine x_goto (tgt := 15) C dL_at_9 (by decide) ?_
  refine z_iconst C dL_at_15 ?_
  exact x_iret C R dL_at_16 (Nat.le_of_ble_eq_true rfl) (Nat.le_of_ble_eq_true rfl) (⟨_, rfl, hM, Or.inl ⟨rfl, ht9, hC, (by (rw [hb9] at hOJ; exact hOJ))⟩⟩)
abbrev rm_L_rests : Room := { frames := 8, cells := 1, slots := 6, locals := 131 }
set_option maxHeartbeats 4000000 in
set_option maxRecDepth 100000 in
theorem c_L_rests (l : Launch) (hst : l.stackTraces = false) (G : GG) (z : Nat) (μ : Mm) (xa md ou : Nat) (σ : SS) (n : Nat) (tm : Int) (k : Int) (hC : RepC G z μ xa σ n) (hM : RepM G μ md σ tm) (hOJ : OJx G μ ou) (hK : Kv σ n) (hn5 : n < 512) (h_k : -2147483648 ≤ k ∧ k < 2147483648) : Ct l yL_rests wsL_rests rm_L_rests G z [.ref xa, .int (zI k), .ref ou] μ (rS (fun r9 μ' => RepM G μ' md σ tm ∧ ((r9 = 0 ∧ t_wk σ k = 0 ∧ RepC G z μ' xa (σ) n ∧ OJ G μ' ou (bJ ((if σ 15 k.toNat = -1 ∧ σ 16 k.toNat = -1 then 1 else 0)))) ∨ (t_wk σ k ≠ 0 ∧ r9 = t_wk σ k ∧ RepC G z μ' xa σ n ∧ OJx G μ' ou)))) (nX) := by
  refine ct_ofH (cc := cL_rests) (maxL := 4) (ret := (some .int)) (own := RL) (hh := [(0, 16, 19, 13)]) (by decide) rfl rfl hst (Nat.le_of_ble_eq_true rfl) ?_
  intro E hLl hnm C R hT
  have htr : 0 ≤ t_wk σ k ∧ t_wk σ k ≤ 3 := by (unfold t_wk; (repeat split) <;> omega)
  have hbr : (if σ 15 k.toNat = -1 ∧ σ 16 k.toNat = -1 then (1 : Int) else 0) = 0 ∨ (if σ 15 k.toNat = -1 ∧ σ 16 k.toNat = -1 then (1 : Int) else 0) = 1 := by (split <;> omega)
  refine x_eq (lv' := [(0, .ref xa), (1, .int (zI k)), (2, .ref ou)]) rfl rfl ?_
  refine x_aload_n C dL_rests_0 rfl 2 rfl ?_
  refine z_iconst C dL_rests_1 ?_
  refine x_aload_n C dL_rests_2 rfl 0 rfl ?_
  refine x_iload_n C dL_rests_3 rfl 1 rfl ?_
  refine x_callV (n := 1) (ci := 9) (Cn := RX8) (T := TX8) (N := 10) (cc9 := 1) (ss9 := 6) (rest := [.int (zI 0), .ref ou]) C dL_rests_4 (c_X8_rests (kxL E) C.st G z μ xa σ n k hC hK.1 (by omega)) gL_rests_X8_rests rfl (by decide +kernel) ⟨(Nat.le_of_ble_eq_true rfl), (Nat.le_of_ble_eq_true rfl)⟩ rfl hC.ob rfl rfl (Nat.le_of_ble_eq_true rfl) rfl rfl ⟨(Nat.le_of_ble_eq_true rfl), (Nat.le_of_ble_eq_true rfl)⟩ (fun En hEn => by (obtain ⟨rfl, ht9⟩ := hEn; exact x_catch (name := "java/lang/IndexOutOfBoundsException") C [] ⟨0, 16, 19, 13⟩ [] hT (fun y hy => absurd hy List.not_mem_nil) (by decide) (by decide) (by decide +kernel) (by decide +kernel) (fun q9 => x_astore_n (lv' := [(3, .ref q9), (0, .ref xa), (1, .int (zI k)), (2, .ref ou)]) C dL_rests_19 rfl (by decide) rfl (z_iconst C dL_rests_20 (x_iret C R dL_rests_21 (Nat.le_of_ble_eq_true rfl) (Nat.le_of_ble_eq_true rfl) ⟨_, rfl, hM, Or.inr ⟨by omega, by omega, hC, hOJ⟩⟩))))) (fun v1 μ2 hv3 => ?_)
  obtain ⟨r4, hw7, h5, hm6⟩ := hv3
  subst hw7
  rw [hm6]
  have ht9 := h5.1
  have hb9 := h5.2
  refine x_stk (stk' := [.int (zI r4), .int (zI 0), .ref ou]) rfl ?_
  refine z_if_eq (tgt := 14) C dL_rests_7 (by decide) (rg_of (by omega) (by omega)) (fun c_8 => ?_) (fun c_8 => ?_)
  · refine x_lconst (v := (0 : Int64)) C dL_rests_14 rfl ?_
    refine z_last C dL_rests_15 hOJ (fun μ9 hOJw hF10 => ?_)
    have hC : RepC G z μ9 xa σ n := hF10.repc hC
    have hM : RepM G μ9 md σ tm := hF10.repm hM
    have hOJ := hOJw
    refine x_goto (tgt := 22) C dL_rests_16 (by decide) ?_
    refine z_iconst C dL_rests_22 ?_
    exact x_iret C R dL_rests_23 (Nat.le_of_ble_eq_true rfl) (Nat.le_of_ble_eq_true rfl) (⟨_, rfl, hM, Or.inl ⟨rfl, ht9, hC, (by (rw [bJ0 (b := (if σ 15 k.toNat = -1 ∧ σ 16 k.toNat = -1 then 1 else 0)) (by omega)]; exact hOJ))⟩⟩)
  · refine x_lconst (v := (1 : Int64)) C dL_rests_10 rfl ?_
    refine x_goto (tgt := 15) C dL_rests_11 (by decide) ?_
    refine z_last C dL_rests_15 hOJ (fun μ11 hOJw hF12 => ?_)
    have hC : RepC G z μ11 xa σ n := hF12.repc hC
    have hM : RepM G μ11 md σ tm := hF12.repm hM
    have hOJ := hOJw
    refine x_goto (tgt := 22) C dL_rests_16 (by decide) ?_
    refine z_iconst C dL_rests_22 ?_
    exact x_iret C R dL_rests_23 (Nat.le_of_ble_eq_true rfl) (Nat.le_of_ble_eq_true rfl) (⟨_, rfl, hM, Or.inl ⟨rfl, ht9, hC, (by (rw [bJ1 (b := (if σ 15 k.toNat = -1 ∧ σ 16 k.toNat = -1 then 1 else 0)) (by omega)]; exact hOJ))⟩⟩)
abbrev rm_L_way : Room := { frames := 8, cells := 2, slots := 12, locals := 136 }
set_option maxHeartbeats 4000000 in
set_option maxRecDepth 100000 in
theorem c_L_way (l : Launch) (hst : l.stackTraces = false) (G : GG) (z : Nat) (μ : Mm) (xa md ou : Nat) (σ : SS) (n : Nat) (tm : Int) (p q : Int) (hC : RepC G z μ xa σ n) (hM : RepM G μ md σ tm) (hOJ : OJx G μ ou) (hK : Kv σ n) (hn5 : n < 512) (h_p : -2147483648 ≤ p ∧ p < 2147483648) (h_q : -2147483648 ≤ q ∧ q < 2147483648) : Ct l yL_way wsL_way rm_L_way G z [.ref xa, .int (zI p), .int (zI q), .ref ou] μ (rS (fun r9 μ' => RepM G μ' md σ tm ∧ ((r9 = 0 ∧ t_pp p q = 0 ∧ RepC G z μ' xa (σ) n ∧ OJ G μ' ou ((zI (b_way σ p q)).toInt64)) ∨ (t_pp p q ≠ 0 ∧ r9 = t_pp p q ∧ RepC G z μ' xa σ n ∧ OJx G μ' ou)))) (nX) := by
  refine ct_ofH (cc := cL_way) (maxL := 5) (ret := (some .int)) (own := RL) (hh := [(0, 10, 13, 13)]) (by decide) rfl rfl hst (Nat.le_of_ble_eq_true rfl) ?_
  intro E hLl hnm C R hT
  have htr : 0 ≤ t_pp p q ∧ t_pp p q ≤ 3 := by (unfold t_pp; (repeat split) <;> omega)
  refine x_eq (lv' := [(0, .ref xa), (1, .int (zI p)), (2, .int (zI q)), (3, .ref ou)]) rfl rfl ?_
  refine x_aload_n C dL_way_0 rfl 3 rfl ?_
  refine z_iconst C dL_way_1 ?_
  refine x_aload_n C dL_way_2 rfl 0 rfl ?_
  refine x_iload_n C dL_way_3 rfl 1 rfl ?_
  refine x_iload_n C dL_way_4 rfl 2 rfl ?_
  refine x_callV (n := 2) (ci := 9) (Cn := RX8) (T := TX8) (N := 10) (cc9 := 2) (ss9 := 12) (rest := [.int (zI 0), .ref ou]) C dL_way_5 (c_X8_way (kxL E) C.st G z μ xa σ n p q hC hK.1 (by omega) (by omega)) gL_way_X8_way rfl (by decide +kernel) ⟨(Nat.le_of_ble_eq_true rfl), (Nat.le_of_ble_eq_true rfl)⟩ rfl hC.ob rfl rfl (Nat.le_of_ble_eq_true rfl) rfl rfl ⟨(Nat.le_of_ble_eq_true rfl), (Nat.le_of_ble_eq_true rfl)⟩ (fun En hEn => by (obtain ⟨rfl, ht9⟩ := hEn; exact x_catch (name := "java/lang/IndexOutOfBoundsException") C [] ⟨0, 10, 13, 13⟩ [] hT (fun y hy => absurd hy List.not_mem_nil) (by decide) (by decide) (by decide +kernel) (by decide +kernel) (fun q9 => x_astore (lv' := [(4, .ref q9), (0, .ref xa), (1, .int (zI p)), (2, .int (zI q)), (3, .ref ou)]) C dL_way_13 (by decide) rfl (z_iconst C dL_way_15 (x_iret C R dL_way_16 (Nat.le_of_ble_eq_true rfl) (Nat.le_of_ble_eq_true rfl) ⟨_, rfl, hM, Or.inr ⟨by omega, by omega, hC, hOJ⟩⟩))))) (fun v1 μ2 hv3 => ?_)
  obtain ⟨r4, hw7, h5⟩ := hv3
  subst hw7
  obtain ⟨⟨ht9, hb9, hC⟩, hF9⟩ := h5
  have hF8 := hF9
  have hM : RepM G μ2 md σ tm := hF8.repm hM
  have hOJ : OJx G μ2 ou := hF8.ojx hOJ
  refine x_stk (stk' := [.int (zI r4), .int (zI 0), .ref ou]) rfl ?_
  refine z_i2l C dL_way_8 ?_
  refine z_last C dL_way_9 hOJ (fun μ9 hOJw hF10 => ?_)
  have hM : RepM G μ9 md σ tm := hF10.repm hM
  have hC : RepC G z μ9 xa (σ) n := hF10.repc hC
  have hOJ := hOJw
  refine x_goto (tgt := 17) C dL_way_10 (by decide) ?_
  refine z_iconst C dL_way_17 ?_
  exact x_iret C R dL_way_18 (Nat.le_of_ble_eq_true rfl) (Nat.le_of_ble_eq_true rfl) (⟨_, rfl, hM, Or.inl ⟨rfl, ht9, hC, (by (rw [hb9] at hOJ; exact hOJ))⟩⟩)
abbrev rm_L_wayByRounds : Room := { frames := 8, cells := 2, slots := 12, locals := 163 }
set_option maxHeartbeats 4000000 in
set_option maxRecDepth 100000 in
theorem c_L_wayByRounds (l : Launch) (hst : l.stackTraces = false) (G : GG) (z : Nat) (μ : Mm) (xa md ou : Nat) (σ : SS) (n : Nat) (tm : Int) (p q : Int) (hC : RepC G z μ xa σ n) (hM : RepM G μ md σ tm) (hOJ : OJx G μ ou) (hK : Kv σ n) (hn5 : n < 512) (h_p : -2147483648 ≤ p ∧ p < 2147483648) (h_q : -2147483648 ≤ q ∧ q < 2147483648) : Ct l yL_wayByRounds wsL_wayByRounds rm_L_wayByRounds G z [.ref xa, .int (zI p), .int (zI q), .ref ou] μ (rS (fun r9 μ' => RepM G μ' md σ tm ∧ ((r9 = 0 ∧ t_pp p q = 0 ∧ RepC G z μ' xa (σ) n ∧ OJ G μ' ou ((zI (b_way σ p q)).toInt64)) ∨ (t_pp p q ≠ 0 ∧ r9 = t_pp p q ∧ RepC G z μ' xa σ n ∧ OJx G μ' ou)))) (nX) := by
  refine ct_ofH (cc := cL_wayByRounds) (maxL := 5) (ret := (some .int)) (own := RL) (hh := [(0, 10, 13, 13)]) (by decide) rfl rfl hst (Nat.le_of_ble_eq_true rfl) ?_
  intro E hLl hnm C R hT
  have htr : 0 ≤ t_pp p q ∧ t_pp p q ≤ 3 := by (unfold t_pp; (repeat split) <;> omega)
  refine x_eq (lv' := [(0, .ref xa), (1, .int (zI p)), (2, .int (zI q)), (3, .ref ou)]) rfl rfl ?_
  refine x_aload_n C dL_wayByRounds_0 rfl 3 rfl ?_
  refine z_iconst C dL_wayByRounds_1 ?_
  refine x_aload_n C dL_wayByRounds_2 rfl 0 rfl ?_
  refine x_iload_n C dL_wayByRounds_3 rfl 1 rfl ?_
  refine x_iload_n C dL_wayByRounds_4 rfl 2 rfl ?_
  refine x_callV (n := 2) (ci := 9) (Cn := RX8) (T := TX8) (N := 10) (cc9 := 2) (ss9 := 12) (rest := [.int (zI 0), .ref ou]) C dL_wayByRounds_5 (c_X8_wayByRounds (kxL E) C.st G z μ xa σ n p q hC hK.1 (by omega) (by omega)) gL_wayByRounds_X8_wayByRounds rfl (by decide +kernel) ⟨(Nat.le_of_ble_eq_true rfl), (Nat.le_of_ble_eq_true rfl)⟩ rfl hC.ob rfl rfl (Nat.le_of_ble_eq_true rfl) rfl rfl ⟨(Nat.le_of_ble_eq_true rfl), (Nat.le_of_ble_eq_true rfl)⟩ (fun En hEn => by (obtain ⟨rfl, ht9⟩ := hEn; exact x_catch (name := "java/lang/IndexOutOfBoundsException") C [] ⟨0, 10, 13, 13⟩ [] hT (fun y hy => absurd hy List.not_mem_nil) (by decide) (by decide) (by decide +kernel) (by decide +kernel) (fun q9 => x_astore (lv' := [(4, .ref q9), (0, .ref xa), (1, .int (zI p)), (2, .int (zI q)), (3, .ref ou)]) C dL_wayByRounds_13 (by decide) rfl (z_iconst C dL_wayByRounds_15 (x_iret C R dL_wayByRounds_16 (Nat.le_of_ble_eq_true rfl) (Nat.le_of_ble_eq_true rfl) ⟨_, rfl, hM, Or.inr ⟨by omega, by omega, hC, hOJ⟩⟩))))) (fun v1 μ2 hv3 => ?_)
  obtain ⟨r4, hw7, h5⟩ := hv3
  subst hw7
  obtain ⟨⟨ht9, hb9, hC⟩, hF9⟩ := h5
  have hF8 := hF9
  have hM : RepM G μ2 md σ tm := hF8.repm hM
  have hOJ : OJx G μ2 ou := hF8.ojx hOJ
  refine x_stk (stk' := [.int (zI r4), .int (zI 0), .ref ou]) rfl ?_
  refine z_i2l C dL_wayByRounds_8 ?_
  refine z_last C dL_wayByRounds_9 hOJ (fun μ9 hOJw hF10 => ?_)
  have hM : RepM G μ9 md σ tm := hF10.repm hM
  have hC : RepC G z μ9 xa (σ) n := hF10.repc hC
  have hOJ := hOJw
  refine x_goto (tgt := 17) C dL_wayByRounds_10 (by decide) ?_
  refine z_iconst C dL_wayByRounds_17 ?_
  exact x_iret C R dL_wayByRounds_18 (Nat.le_of_ble_eq_true rfl) (Nat.le_of_ble_eq_true rfl) (⟨_, rfl, hM, Or.inl ⟨rfl, ht9, hC, (by (rw [hb9] at hOJ; exact hOJ))⟩⟩)
abbrev rm_L_addWarden : Room := { frames := 8, cells := 2, slots := 12, locals := 130 }
set_option maxHeartbeats 4000000 in
set_option maxRecDepth 100000 in
theorem c_L_addWarden (l : Launch) (hst : l.stackTraces = false) (G : GG) (z : Nat) (μ : Mm) (xa md ou : Nat) (σ : SS) (n : Nat) (tm : Int) (p : Int) (hC : RepC G z μ xa σ n) (hM : RepM G μ md σ tm) (hOJ : OJx G μ ou) (hK : Kv σ n) (hn5 : n < 512) (h_p : -2147483648 ≤ p ∧ p < 2147483648) : Ct l yL_addWarden wsL_addWarden rm_L_addWarden G z [.ref xa, .int (zI p), .ref ou] μ (rS (fun r9 μ' => RepM G μ' md σ tm ∧ ((r9 = 0 ∧ t_addWarden σ p = 0 ∧ RepC G z μ' xa (n_addWarden σ p) n ∧ OJ G μ' ou ((zI (σ 18 0)).toInt64)) ∨ (t_addWarden σ p ≠ 0 ∧ r9 = t_addWarden σ p ∧ RepC G z μ' xa σ n ∧ OJx G μ' ou)))) (nX) := by
  refine ct_ofH (cc := cL_addWarden) (maxL := 4) (ret := (some .int)) (own := RL) (hh := [(0, 9, 12, 13), (0, 9, 15, 25)]) (by decide) rfl rfl hst (Nat.le_of_ble_eq_true rfl) ?_
  intro E hLl hnm C R hT
  have htr : 0 ≤ t_addWarden σ p ∧ t_addWarden σ p ≤ 3 := by (unfold t_addWarden; (repeat split) <;> omega)
  refine x_eq (lv' := [(0, .ref xa), (1, .int (zI p)), (2, .ref ou)]) rfl rfl ?_
  refine x_aload_n C dL_addWarden_0 rfl 2 rfl ?_
  refine z_iconst C dL_addWarden_1 ?_
  refine x_aload_n C dL_addWarden_2 rfl 0 rfl ?_
  refine x_iload_n C dL_addWarden_3 rfl 1 rfl ?_
  refine x_callV (n := 1) (ci := 9) (Cn := RX8) (T := TX8) (N := 10) (cc9 := 2) (ss9 := 12) (rest := [.int (zI 0), .ref ou]) C dL_addWarden_4 (c_X8_addWarden (kxL E) C.st G z μ xa σ n p hC hK.1 (by omega)) gL_addWarden_X8_addWarden rfl (by decide +kernel) ⟨(Nat.le_of_ble_eq_true rfl), (Nat.le_of_ble_eq_true rfl)⟩ rfl hC.ob rfl rfl (Nat.le_of_ble_eq_true rfl) rfl rfl ⟨(Nat.le_of_ble_eq_true rfl), (Nat.le_of_ble_eq_true rfl)⟩ (fun En hEn => by (rcases hEn with ⟨rfl, ht9⟩ | ⟨rfl, ht9⟩; exact x_catch (name := "java/lang/IndexOutOfBoundsException") C [] ⟨0, 9, 12, 13⟩ [⟨0, 9, 15, 25⟩] hT (fun y hy => absurd hy List.not_mem_nil) (by decide) (by decide) (by decide +kernel) (by decide +kernel) (fun q9 => x_astore_n (lv' := [(3, .ref q9), (0, .ref xa), (1, .int (zI p)), (2, .ref ou)]) C dL_addWarden_12 rfl (by decide) rfl (z_iconst C dL_addWarden_13 (x_iret C R dL_addWarden_14 (Nat.le_of_ble_eq_true rfl) (Nat.le_of_ble_eq_true rfl) ⟨_, rfl, hM, Or.inr ⟨by omega, by omega, hC, hOJ⟩⟩))); exact x_catch (name := "java/lang/IllegalStateException") C [⟨0, 9, 12, 13⟩] ⟨0, 9, 15, 25⟩ [] hT (fun y hy => by (rcases List.mem_cons.mp hy with rfl | hy; exact Or.inr ⟨by decide, "java/lang/IndexOutOfBoundsException", by decide +kernel, by decide +kernel⟩; exact absurd hy List.not_mem_nil)) (by decide) (by decide) (by decide +kernel) (by decide +kernel) (fun q9 => x_astore_n (lv' := [(3, .ref q9), (0, .ref xa), (1, .int (zI p)), (2, .ref ou)]) C dL_addWarden_15 rfl (by decide) rfl (z_iconst C dL_addWarden_16 (x_iret C R dL_addWarden_17 (Nat.le_of_ble_eq_true rfl) (Nat.le_of_ble_eq_true rfl) ⟨_, rfl, hM, Or.inr ⟨by omega, by omega, hC, hOJ⟩⟩))))) (fun v1 μ2 hv3 => ?_)
  obtain ⟨r4, hw7, h5⟩ := hv3
  subst hw7
  obtain ⟨⟨ht9, hb9, hC⟩, hF9⟩ := h5
  have hF8 := hF9
  have hM : RepM G μ2 md σ tm := hF8.repm hM
  have hOJ : OJx G μ2 ou := hF8.ojx hOJ
  refine x_stk (stk' := [.int (zI r4), .int (zI 0), .ref ou]) rfl ?_
  refine z_i2l C dL_addWarden_7 ?_
  refine z_last C dL_addWarden_8 hOJ (fun μ9 hOJw hF10 => ?_)
  have hM : RepM G μ9 md σ tm := hF10.repm hM
  have hC : RepC G z μ9 xa (n_addWarden σ p) n := hF10.repc hC
  have hOJ := hOJw
  refine x_goto (tgt := 18) C dL_addWarden_9 (by decide) ?_
  refine z_iconst C dL_addWarden_18 ?_
  exact x_iret C R dL_addWarden_19 (Nat.le_of_ble_eq_true rfl) (Nat.le_of_ble_eq_true rfl) (⟨_, rfl, hM, Or.inl ⟨rfl, ht9, hC, (by (rw [hb9] at hOJ; exact hOJ))⟩⟩)
abbrev rm_L_sees : Room := { frames := 7, cells := 1, slots := 6, locals := 112 }
set_option maxHeartbeats 4000000 in
set_option maxRecDepth 100000 in
theorem c_L_sees (l : Launch) (hst : l.stackTraces = false) (G : GG) (z : Nat) (μ : Mm) (xa md ou : Nat) (σ : SS) (n : Nat) (tm : Int) (w : Int) (hC : RepC G z μ xa σ n) (hM : RepM G μ md σ tm) (hOJ : OJx G μ ou) (hK : Kv σ n) (hn5 : n < 512) (h_w : -2147483648 ≤ w ∧ w < 2147483648) : Ct l yL_sees wsL_sees rm_L_sees G z [.ref xa, .int (zI w), .ref ou] μ (rS (fun r9 μ' => RepM G μ' md σ tm ∧ ((r9 = 0 ∧ t_sees σ w = 0 ∧ RepC G z μ' xa (σ) n ∧ OJ G μ' ou ((zI (seeN σ (σ 19 w.toNat) (σ 12 0).toNat)).toInt64)) ∨ (t_sees σ w ≠ 0 ∧ r9 = t_sees σ w ∧ RepC G z μ' xa σ n ∧ OJx G μ' ou)))) (nX) := by
  refine ct_ofH (cc := cL_sees) (maxL := 4) (ret := (some .int)) (own := RL) (hh := [(0, 9, 12, 13)]) (by decide) rfl rfl hst (Nat.le_of_ble_eq_true rfl) ?_
  intro E hLl hnm C R hT
  have htr : 0 ≤ t_sees σ w ∧ t_sees σ w ≤ 3 := by (unfold t_sees; (repeat split) <;> omega)
  refine x_eq (lv' := [(0, .ref xa), (1, .int (zI w)), (2, .ref ou)]) rfl rfl ?_
  refine x_aload_n C dL_sees_0 rfl 2 rfl ?_
  refine z_iconst C dL_sees_1 ?_
  refine x_aload_n C dL_sees_2 rfl 0 rfl ?_
  refine x_iload_n C dL_sees_3 rfl 1 rfl ?_
  refine x_callV (n := 1) (ci := 9) (Cn := RX8) (T := TX8) (N := 10) (cc9 := 1) (ss9 := 6) (rest := [.int (zI 0), .ref ou]) C dL_sees_4 (c_X8_sees (kxL E) C.st G z μ xa σ n w hC hK.1 (by omega)) gL_sees_X8_sees rfl (by decide +kernel) ⟨(Nat.le_of_ble_eq_true rfl), (Nat.le_of_ble_eq_true rfl)⟩ rfl hC.ob rfl rfl (Nat.le_of_ble_eq_true rfl) rfl rfl ⟨(Nat.le_of_ble_eq_true rfl), (Nat.le_of_ble_eq_true rfl)⟩ (fun En hEn => by (obtain ⟨rfl, ht9⟩ := hEn; exact x_catch (name := "java/lang/IndexOutOfBoundsException") C [] ⟨0, 9, 12, 13⟩ [] hT (fun y hy => absurd hy List.not_mem_nil) (by decide) (by decide) (by decide +kernel) (by decide +kernel) (fun q9 => x_astore_n (lv' := [(3, .ref q9), (0, .ref xa), (1, .int (zI w)), (2, .ref ou)]) C dL_sees_12 rfl (by decide) rfl (z_iconst C dL_sees_13 (x_iret C R dL_sees_14 (Nat.le_of_ble_eq_true rfl) (Nat.le_of_ble_eq_true rfl) ⟨_, rfl, hM, Or.inr ⟨by omega, by omega, hC, hOJ⟩⟩))))) (fun v1 μ2 hv3 => ?_)
  obtain ⟨r4, hw7, h5, hm6⟩ := hv3
  subst hw7
  rw [hm6]
  have ht9 := h5.1
  have hb9 := h5.2
  refine x_stk (stk' := [.int (zI r4), .int (zI 0), .ref ou]) rfl ?_
  refine z_i2l C dL_sees_7 ?_
  refine z_last C dL_sees_8 hOJ (fun μ8 hOJw hF9 => ?_)
  have hC : RepC G z μ8 xa σ n := hF9.repc hC
  have hM : RepM G μ8 md σ tm := hF9.repm hM
  have hOJ := hOJw
  refine x_goto (tgt := 15) C dL_sees_9 (by decide) ?_
  refine z_iconst C dL_sees_15 ?_
  exact x_iret C R dL_sees_16 (Nat.le_of_ble_eq_true rfl) (Nat.le_of_ble_eq_true rfl) (⟨_, rfl, hM, Or.inl ⟨rfl, ht9, hC, (by (rw [hb9] at hOJ; exact hOJ))⟩⟩)
abbrev rm_L_answer : Room := { frames := 8, cells := 3, slots := 18, locals := 135 }
set_option maxHeartbeats 4000000 in
set_option maxRecDepth 100000 in
theorem c_L_answer (l : Launch) (hst : l.stackTraces = false) (G : GG) (z : Nat) (μ : Mm) (xa md ou : Nat) (σ : SS) (n : Nat) (tm : Int) (w s : Int) (hC : RepC G z μ xa σ n) (hM : RepM G μ md σ tm) (hOJ : OJx G μ ou) (hK : Kv σ n) (hn5 : n < 512) (h_w : -2147483648 ≤ w ∧ w < 2147483648) (h_s : -2147483648 ≤ s ∧ s < 2147483648) : Ct l yL_answer wsL_answer rm_L_answer G z [.ref xa, .int (zI w), .int (zI s), .ref ou] μ (rS (fun r9 μ' => RepM G μ' md σ tm ∧ ((r9 = 0 ∧ t_answer σ w s = 0 ∧ RepC G z μ' xa (n_answer σ w s) (n + 1) ∧ OJ G μ' ou (bJ (isWd σ s.toNat))) ∨ (t_answer σ w s ≠ 0 ∧ r9 = t_answer σ w s ∧ RepC G z μ' xa σ n ∧ OJx G μ' ou)))) (nX) := by
  refine ct_ofH (cc := cL_answer) (maxL := 5) (ret := (some .int)) (own := RL) (hh := [(0, 17, 20, 13), (0, 17, 24, 25)]) (by decide) rfl rfl hst (Nat.le_of_ble_eq_true rfl) ?_
  intro E hLl hnm C R hT
  have htr : 0 ≤ t_answer σ w s ∧ t_answer σ w s ≤ 3 := by (unfold t_answer; (repeat split) <;> omega)
  have hbr := isWd_rg σ s.toNat
  refine x_eq (lv' := [(0, .ref xa), (1, .int (zI w)), (2, .int (zI s)), (3, .ref ou)]) rfl rfl ?_
  refine x_aload_n C dL_answer_0 rfl 3 rfl ?_
  refine z_iconst C dL_answer_1 ?_
  refine x_aload_n C dL_answer_2 rfl 0 rfl ?_
  refine x_iload_n C dL_answer_3 rfl 1 rfl ?_
  refine x_iload_n C dL_answer_4 rfl 2 rfl ?_
  refine x_callV (n := 2) (ci := 9) (Cn := RX8) (T := TX8) (N := 10) (cc9 := 3) (ss9 := 18) (rest := [.int (zI 0), .ref ou]) C dL_answer_5 (c_X8_answer (kxL E) C.st G z μ xa σ n w s hC hK.1 hn5 (by omega) (by omega)) gL_answer_X8_answer rfl (by decide +kernel) ⟨(Nat.le_of_ble_eq_true rfl), (Nat.le_of_ble_eq_true rfl)⟩ rfl hC.ob rfl rfl (Nat.le_of_ble_eq_true rfl) rfl rfl ⟨(Nat.le_of_ble_eq_true rfl), (Nat.le_of_ble_eq_true rfl)⟩ (fun En hEn => by (rcases hEn with ⟨rfl, ht9⟩ | ⟨rfl, ht9⟩; exact x_catch (name := "java/lang/IndexOutOfBoundsException") C [] ⟨0, 17, 20, 13⟩ [⟨0, 17, 24, 25⟩] hT (fun y hy => absurd hy List.not_mem_nil) (by decide) (by decide) (by decide +kernel) (by decide +kernel) (fun q9 => x_astore (lv' := [(4, .ref q9), (0, .ref xa), (1, .int (zI w)), (2, .int (zI s)), (3, .ref ou)]) C dL_answer_20 (by decide) rfl (z_iconst C dL_answer_22 (x_iret C R dL_answer_23 (Nat.le_of_ble_eq_true rfl) (Nat.le_of_ble_eq_true rfl) ⟨_, rfl, hM, Or.inr ⟨by omega, by omega, hC, hOJ⟩⟩))); exact x_catch (name := "java/lang/IllegalStateException") C [⟨0, 17, 20, 13⟩] ⟨0, 17, 24, 25⟩ [] hT (fun y hy => by (rcases List.mem_cons.mp hy with rfl | hy; exact Or.inr ⟨by decide, "java/lang/IndexOutOfBoundsException", by decide +kernel, by decide +kernel⟩; exact absurd hy List.not_mem_nil)) (by decide) (by decide) (by decide +kernel) (by decide +kernel) (fun q9 => x_astore (lv' := [(4, .ref q9), (0, .ref xa), (1, .int (zI w)), (2, .int (zI s)), (3, .ref ou)]) C dL_answer_24 (by decide) rfl (z_iconst C dL_answer_26 (x_iret C R dL_answer_27 (Nat.le_of_ble_eq_true rfl) (Nat.le_of_ble_eq_true rfl) ⟨_, rfl, hM, Or.inr ⟨by omega, by omega, hC, hOJ⟩⟩))))) (fun v1 μ2 hv3 => ?_)
  obtain ⟨r4, hw7, h5⟩ := hv3
  subst hw7
  obtain ⟨⟨ht9, hb9, hC⟩, hF9⟩ := h5
  have hF8 := hF9
  have hM : RepM G μ2 md σ tm := hF8.repm hM
  have hOJ : OJx G μ2 ou := hF8.ojx hOJ
  refine x_stk (stk' := [.int (zI r4), .int (zI 0), .ref ou]) rfl ?_
  refine z_if_eq (tgt := 15) C dL_answer_8 (by decide) (rg_of (by omega) (by omega)) (fun c_9 => ?_) (fun c_9 => ?_)
  · refine x_lconst (v := (0 : Int64)) C dL_answer_15 rfl ?_
    refine z_last C dL_answer_16 hOJ (fun μ10 hOJw hF11 => ?_)
    have hM : RepM G μ10 md σ tm := hF11.repm hM
    have hC : RepC G z μ10 xa (n_answer σ w s) (n + 1) := hF11.repc hC
    have hOJ := hOJw
    refine x_goto (tgt := 28) C dL_answer_17 (by decide) ?_
    refine z_iconst C dL_answer_28 ?_
    exact x_iret C R dL_answer_29 (Nat.le_of_ble_eq_true rfl) (Nat.le_of_ble_eq_true rfl) (⟨_, rfl, hM, Or.inl ⟨rfl, ht9, hC, (by (rw [bJ0 (b := isWd σ s.toNat) (by omega)]; exact hOJ))⟩⟩)
  · refine x_lconst (v := (1 : Int64)) C dL_answer_11 rfl ?_
    refine x_goto (tgt := 16) C dL_answer_12 (by decide) ?_
    refine z_last C dL_answer_16 hOJ (fun μ12 hOJw hF13 => ?_)
    have hM : RepM G μ12 md σ tm := hF13.repm hM
    have hC : RepC G z μ12 xa (n_answer σ w s) (n + 1) := hF13.repc hC
    have hOJ := hOJw
    refine x_goto (tgt := 28) C dL_answer_17 (by decide) ?_
    refine z_iconst C dL_answer_28 ?_
    exact x_iret C R dL_answer_29 (Nat.le_of_ble_eq_true rfl) (Nat.le_of_ble_eq_true rfl) (⟨_, rfl, hM, Or.inl ⟨rfl, ht9, hC, (by (rw [bJ1 (b := isWd σ s.toNat) (by omega)]; exact hOJ))⟩⟩)
abbrev rm_L_tell : Room := { frames := 8, cells := 4, slots := 24, locals := 135 }
set_option maxHeartbeats 4000000 in
set_option maxRecDepth 100000 in
theorem c_L_tell (l : Launch) (hst : l.stackTraces = false) (G : GG) (z : Nat) (μ : Mm) (xa md ou : Nat) (σ : SS) (n : Nat) (tm : Int) (w ot s : Int) (hC : RepC G z μ xa σ n) (hM : RepM G μ md σ tm) (hOJ : OJx G μ ou) (hK : Kv σ n) (hn5 : n < 512) (h_w : -2147483648 ≤ w ∧ w < 2147483648) (h_ot : -2147483648 ≤ ot ∧ ot < 2147483648) (h_s : -2147483648 ≤ s ∧ s < 2147483648) : Ct l yL_tell wsL_tell rm_L_tell G z [.ref xa, .int (zI w), .int (zI ot), .int (zI s), .ref ou] μ (rS (fun r9 μ' => RepM G μ' md σ tm ∧ ((r9 = 0 ∧ t_tell σ w ot s = 0 ∧ RepC G z μ' xa (n_tell σ ot s) (n + 1) ∧ OJ G μ' ou ((zI (b_tell σ ot s)).toInt64)) ∨ (t_tell σ w ot s ≠ 0 ∧ r9 = t_tell σ w ot s ∧ RepC G z μ' xa σ n ∧ OJx G μ' ou)))) (nX) := by
  refine ct_ofH (cc := cL_tell) (maxL := 6) (ret := (some .int)) (own := RL) (hh := [(0, 12, 15, 13), (0, 12, 19, 15), (0, 12, 23, 25)]) (by decide) rfl rfl hst (Nat.le_of_ble_eq_true rfl) ?_
  intro E hLl hnm C R hT
  have htr : 0 ≤ t_tell σ w ot s ∧ t_tell σ w ot s ≤ 3 := by (unfold t_tell; (repeat split) <;> omega)
  refine x_eq (lv' := [(0, .ref xa), (1, .int (zI w)), (2, .int (zI ot)), (3, .int (zI s)), (4, .ref ou)]) rfl rfl ?_
  refine x_aload C dL_tell_0 4 rfl ?_
  refine z_iconst C dL_tell_2 ?_
  refine x_aload_n C dL_tell_3 rfl 0 rfl ?_
  refine x_iload_n C dL_tell_4 rfl 1 rfl ?_
  refine x_iload_n C dL_tell_5 rfl 2 rfl ?_
  refine x_iload_n C dL_tell_6 rfl 3 rfl ?_
  refine x_callV (n := 3) (ci := 9) (Cn := RX8) (T := TX8) (N := 10) (cc9 := 4) (ss9 := 24) (rest := [.int (zI 0), .ref ou]) C dL_tell_7 (c_X8_tell (kxL E) C.st G z μ xa σ n w ot s hC hK.1 hn5 (by omega) (by omega) (by omega)) gL_tell_X8_tell rfl (by decide +kernel) ⟨(Nat.le_of_ble_eq_true rfl), (Nat.le_of_ble_eq_true rfl)⟩ rfl hC.ob rfl rfl (Nat.le_of_ble_eq_true rfl) rfl rfl ⟨(Nat.le_of_ble_eq_true rfl), (Nat.le_of_ble_eq_true rfl)⟩ (fun En hEn => by (rcases hEn with ⟨rfl, ht9⟩ | ⟨rfl, ht9⟩ | ⟨rfl, ht9⟩; exact x_catch (name := "java/lang/IndexOutOfBoundsException") C [] ⟨0, 12, 15, 13⟩ [⟨0, 12, 19, 15⟩, ⟨0, 12, 23, 25⟩] hT (fun y hy => absurd hy List.not_mem_nil) (by decide) (by decide) (by decide +kernel) (by decide +kernel) (fun q9 => x_astore (lv' := [(5, .ref q9), (0, .ref xa), (1, .int (zI w)), (2, .int (zI ot)), (3, .int (zI s)), (4, .ref ou)]) C dL_tell_15 (by decide) rfl (z_iconst C dL_tell_17 (x_iret C R dL_tell_18 (Nat.le_of_ble_eq_true rfl) (Nat.le_of_ble_eq_true rfl) ⟨_, rfl, hM, Or.inr ⟨by omega, by omega, hC, hOJ⟩⟩))); exact x_catch (name := "java/lang/IllegalArgumentException") C [⟨0, 12, 15, 13⟩] ⟨0, 12, 19, 15⟩ [⟨0, 12, 23, 25⟩] hT (fun y hy => by (rcases List.mem_cons.mp hy with rfl | hy; exact Or.inr ⟨by decide, "java/lang/IndexOutOfBoundsException", by decide +kernel, by decide +kernel⟩; exact absurd hy List.not_mem_nil)) (by decide) (by decide) (by decide +kernel) (by decide +kernel) (fun q9 => x_astore (lv' := [(5, .ref q9), (0, .ref xa), (1, .int (zI w)), (2, .int (zI ot)), (3, .int (zI s)), (4, .ref ou)]) C dL_tell_19 (by decide) rfl (z_iconst C dL_tell_21 (x_iret C R dL_tell_22 (Nat.le_of_ble_eq_true rfl) (Nat.le_of_ble_eq_true rfl) ⟨_, rfl, hM, Or.inr ⟨by omega, by omega, hC, hOJ⟩⟩))); exact x_catch (name := "java/lang/IllegalStateException") C [⟨0, 12, 15, 13⟩, ⟨0, 12, 19, 15⟩] ⟨0, 12, 23, 25⟩ [] hT (fun y hy => by (rcases List.mem_cons.mp hy with rfl | hy; exact Or.inr ⟨by decide, "java/lang/IndexOutOfBoundsException", by decide +kernel, by decide +kernel⟩; rcases List.mem_cons.mp hy with rfl | hy; exact Or.inr ⟨by decide, "java/lang/IllegalArgumentException", by decide +kernel, by decide +kernel⟩; exact absurd hy List.not_mem_nil)) (by decide) (by decide) (by decide +kernel) (by decide +kernel) (fun q9 => x_astore (lv' := [(5, .ref q9), (0, .ref xa), (1, .int (zI w)), (2, .int (zI ot)), (3, .int (zI s)), (4, .ref ou)]) C dL_tell_23 (by decide) rfl (z_iconst C dL_tell_25 (x_iret C R dL_tell_26 (Nat.le_of_ble_eq_true rfl) (Nat.le_of_ble_eq_true rfl) ⟨_, rfl, hM, Or.inr ⟨by omega, by omega, hC, hOJ⟩⟩))))) (fun v1 μ2 hv3 => ?_)
  obtain ⟨r4, hw7, h5⟩ := hv3
  subst hw7
  obtain ⟨⟨ht9, hb9, hC⟩, hF9⟩ := h5
  have hF8 := hF9
  have hM : RepM G μ2 md σ tm := hF8.repm hM
  have hOJ : OJx G μ2 ou := hF8.ojx hOJ
  refine x_stk (stk' := [.int (zI r4), .int (zI 0), .ref ou]) rfl ?_
  refine z_i2l C dL_tell_10 ?_
  refine z_last C dL_tell_11 hOJ (fun μ9 hOJw hF10 => ?_)
  have hM : RepM G μ9 md σ tm := hF10.repm hM
  have hC : RepC G z μ9 xa (n_tell σ ot s) (n + 1) := hF10.repc hC
  have hOJ := hOJw
  refine x_goto (tgt := 27) C dL_tell_12 (by decide) ?_
  refine z_iconst C dL_tell_27 ?_
  exact x_iret C R dL_tell_28 (Nat.le_of_ble_eq_true rfl) (Nat.le_of_ble_eq_true rfl) (⟨_, rfl, hM, Or.inl ⟨rfl, ht9, hC, (by (rw [hb9] at hOJ; exact hOJ))⟩⟩)
abbrev rm_L_solved : Room := { frames := 8, cells := 1, slots := 6, locals := 131 }
set_option maxHeartbeats 4000000 in
set_option maxRecDepth 100000 in
theorem c_L_solved (l : Launch) (hst : l.stackTraces = false) (G : GG) (z : Nat) (μ : Mm) (xa md ou : Nat) (σ : SS) (n : Nat) (tm : Int) (k : Int) (hC : RepC G z μ xa σ n) (hM : RepM G μ md σ tm) (hOJ : OJx G μ ou) (hK : Kv σ n) (hn5 : n < 512) (h_k : -2147483648 ≤ k ∧ k < 2147483648) : Ct l yL_solved wsL_solved rm_L_solved G z [.ref xa, .int (zI k), .ref ou] μ (rS (fun r9 μ' => RepM G μ' md σ tm ∧ ((r9 = 0 ∧ t_wk σ k = 0 ∧ RepC G z μ' xa (σ) n ∧ OJ G μ' ou ((zI (b_solved σ k.toNat)).toInt64)) ∨ (t_wk σ k ≠ 0 ∧ r9 = t_wk σ k ∧ RepC G z μ' xa σ n ∧ OJx G μ' ou)))) (nX) := by
  refine ct_ofH (cc := cL_solved) (maxL := 4) (ret := (some .int)) (own := RL) (hh := [(0, 9, 12, 13)]) (by decide) rfl rfl hst (Nat.le_of_ble_eq_true rfl) ?_
  intro E hLl hnm C R hT
  have htr : 0 ≤ t_wk σ k ∧ t_wk σ k ≤ 3 := by (unfold t_wk; (repeat split) <;> omega)
  refine x_eq (lv' := [(0, .ref xa), (1, .int (zI k)), (2, .ref ou)]) rfl rfl ?_
  refine x_aload_n C dL_solved_0 rfl 2 rfl ?_
  refine z_iconst C dL_solved_1 ?_
  refine x_aload_n C dL_solved_2 rfl 0 rfl ?_
  refine x_iload_n C dL_solved_3 rfl 1 rfl ?_
  refine x_callV (n := 1) (ci := 9) (Cn := RX8) (T := TX8) (N := 10) (cc9 := 1) (ss9 := 6) (rest := [.int (zI 0), .ref ou]) C dL_solved_4 (c_X8_solved (kxL E) C.st G z μ xa σ n k hC hK.1 (by omega)) gL_solved_X8_solved rfl (by decide +kernel) ⟨(Nat.le_of_ble_eq_true rfl), (Nat.le_of_ble_eq_true rfl)⟩ rfl hC.ob rfl rfl (Nat.le_of_ble_eq_true rfl) rfl rfl ⟨(Nat.le_of_ble_eq_true rfl), (Nat.le_of_ble_eq_true rfl)⟩ (fun En hEn => by (obtain ⟨rfl, ht9⟩ := hEn; exact x_catch (name := "java/lang/IndexOutOfBoundsException") C [] ⟨0, 9, 12, 13⟩ [] hT (fun y hy => absurd hy List.not_mem_nil) (by decide) (by decide) (by decide +kernel) (by decide +kernel) (fun q9 => x_astore_n (lv' := [(3, .ref q9), (0, .ref xa), (1, .int (zI k)), (2, .ref ou)]) C dL_solved_12 rfl (by decide) rfl (z_iconst C dL_solved_13 (x_iret C R dL_solved_14 (Nat.le_of_ble_eq_true rfl) (Nat.le_of_ble_eq_true rfl) ⟨_, rfl, hM, Or.inr ⟨by omega, by omega, hC, hOJ⟩⟩))))) (fun v1 μ2 hv3 => ?_)
  obtain ⟨r4, hw7, h5, hm6⟩ := hv3
  subst hw7
  rw [hm6]
  have ht9 := h5.1
  have hb9 := h5.2
  refine x_stk (stk' := [.int (zI r4), .int (zI 0), .ref ou]) rfl ?_
  refine z_i2l C dL_solved_7 ?_
  refine z_last C dL_solved_8 hOJ (fun μ8 hOJw hF9 => ?_)
  have hC : RepC G z μ8 xa σ n := hF9.repc hC
  have hM : RepM G μ8 md σ tm := hF9.repm hM
  have hOJ := hOJw
  refine x_goto (tgt := 15) C dL_solved_9 (by decide) ?_
  refine z_iconst C dL_solved_15 ?_
  exact x_iret C R dL_solved_16 (Nat.le_of_ble_eq_true rfl) (Nat.le_of_ble_eq_true rfl) (⟨_, rfl, hM, Or.inl ⟨rfl, ht9, hC, (by (rw [hb9] at hOJ; exact hOJ))⟩⟩)
abbrev rm_L_score : Room := { frames := 8, cells := 1, slots := 6, locals := 131 }
set_option maxHeartbeats 4000000 in
set_option maxRecDepth 100000 in
theorem c_L_score (l : Launch) (hst : l.stackTraces = false) (G : GG) (z : Nat) (μ : Mm) (xa md ou : Nat) (σ : SS) (n : Nat) (tm : Int) (k : Int) (hC : RepC G z μ xa σ n) (hM : RepM G μ md σ tm) (hOJ : OJx G μ ou) (hK : Kv σ n) (hn5 : n < 512) (h_k : -2147483648 ≤ k ∧ k < 2147483648) : Ct l yL_score wsL_score rm_L_score G z [.ref xa, .int (zI k), .ref ou] μ (rS (fun r9 μ' => RepM G μ' md σ tm ∧ ((r9 = 0 ∧ t_wk σ k = 0 ∧ RepC G z μ' xa (σ) n ∧ OJ G μ' ou ((zI (b_score σ k.toNat)).toInt64)) ∨ (t_wk σ k ≠ 0 ∧ r9 = t_wk σ k ∧ RepC G z μ' xa σ n ∧ OJx G μ' ou)))) (nX) := by
  refine ct_ofH (cc := cL_score) (maxL := 4) (ret := (some .int)) (own := RL) (hh := [(0, 9, 12, 13)]) (by decide) rfl rfl hst (Nat.le_of_ble_eq_true rfl) ?_
  intro E hLl hnm C R hT
  have htr : 0 ≤ t_wk σ k ∧ t_wk σ k ≤ 3 := by (unfold t_wk; (repeat split) <;> omega)
  refine x_eq (lv' := [(0, .ref xa), (1, .int (zI k)), (2, .ref ou)]) rfl rfl ?_
  refine x_aload_n C dL_score_0 rfl 2 rfl ?_
  refine z_iconst C dL_score_1 ?_
  refine x_aload_n C dL_score_2 rfl 0 rfl ?_
  refine x_iload_n C dL_score_3 rfl 1 rfl ?_
  refine x_callV (n := 1) (ci := 9) (Cn := RX8) (T := TX8) (N := 10) (cc9 := 1) (ss9 := 6) (rest := [.int (zI 0), .ref ou]) C dL_score_4 (c_X8_score (kxL E) C.st G z μ xa σ n k hC hK.1 (by omega)) gL_score_X8_score rfl (by decide +kernel) ⟨(Nat.le_of_ble_eq_true rfl), (Nat.le_of_ble_eq_true rfl)⟩ rfl hC.ob rfl rfl (Nat.le_of_ble_eq_true rfl) rfl rfl ⟨(Nat.le_of_ble_eq_true rfl), (Nat.le_of_ble_eq_true rfl)⟩ (fun En hEn => by (obtain ⟨rfl, ht9⟩ := hEn; exact x_catch (name := "java/lang/IndexOutOfBoundsException") C [] ⟨0, 9, 12, 13⟩ [] hT (fun y hy => absurd hy List.not_mem_nil) (by decide) (by decide) (by decide +kernel) (by decide +kernel) (fun q9 => x_astore_n (lv' := [(3, .ref q9), (0, .ref xa), (1, .int (zI k)), (2, .ref ou)]) C dL_score_12 rfl (by decide) rfl (z_iconst C dL_score_13 (x_iret C R dL_score_14 (Nat.le_of_ble_eq_true rfl) (Nat.le_of_ble_eq_true rfl) ⟨_, rfl, hM, Or.inr ⟨by omega, by omega, hC, hOJ⟩⟩))))) (fun v1 μ2 hv3 => ?_)
  obtain ⟨r4, hw7, h5, hm6⟩ := hv3
  subst hw7
  rw [hm6]
  have ht9 := h5.1
  have hb9 := h5.2
  refine x_stk (stk' := [.int (zI r4), .int (zI 0), .ref ou]) rfl ?_
  refine z_i2l C dL_score_7 ?_
  refine z_last C dL_score_8 hOJ (fun μ8 hOJw hF9 => ?_)
  have hC : RepC G z μ8 xa σ n := hF9.repc hC
  have hM : RepM G μ8 md σ tm := hF9.repm hM
  have hOJ := hOJw
  refine x_goto (tgt := 15) C dL_score_9 (by decide) ?_
  refine z_iconst C dL_score_15 ?_
  exact x_iret C R dL_score_16 (Nat.le_of_ble_eq_true rfl) (Nat.le_of_ble_eq_true rfl) (⟨_, rfl, hM, Or.inl ⟨rfl, ht9, hC, (by (rw [hb9] at hOJ; exact hOJ))⟩⟩)
abbrev rm_L_scoreAnew : Room := { frames := 8, cells := 1, slots := 6, locals := 131 }
set_option maxHeartbeats 4000000 in
set_option maxRecDepth 100000 in
theorem c_L_scoreAnew (l : Launch) (hst : l.stackTraces = false) (G : GG) (z : Nat) (μ : Mm) (xa md ou : Nat) (σ : SS) (n : Nat) (tm : Int) (k : Int) (hC : RepC G z μ xa σ n) (hM : RepM G μ md σ tm) (hOJ : OJx G μ ou) (hK : Kv σ n) (hn5 : n < 512) (h_k : -2147483648 ≤ k ∧ k < 2147483648) : Ct l yL_scoreAnew wsL_scoreAnew rm_L_scoreAnew G z [.ref xa, .int (zI k), .ref ou] μ (rS (fun r9 μ' => RepM G μ' md σ tm ∧ ((r9 = 0 ∧ t_wk σ k = 0 ∧ RepC G z μ' xa (σ) n ∧ OJ G μ' ou ((zI (b_score σ k.toNat)).toInt64)) ∨ (t_wk σ k ≠ 0 ∧ r9 = t_wk σ k ∧ RepC G z μ' xa σ n ∧ OJx G μ' ou)))) (nX) := by
  refine ct_ofH (cc := cL_scoreAnew) (maxL := 4) (ret := (some .int)) (own := RL) (hh := [(0, 9, 12, 13)]) (by decide) rfl rfl hst (Nat.le_of_ble_eq_true rfl) ?_
  intro E hLl hnm C R hT
  have htr : 0 ≤ t_wk σ k ∧ t_wk σ k ≤ 3 := by (unfold t_wk; (repeat split) <;> omega)
  refine x_eq (lv' := [(0, .ref xa), (1, .int (zI k)), (2, .ref ou)]) rfl rfl ?_
  refine x_aload_n C dL_scoreAnew_0 rfl 2 rfl ?_
  refine z_iconst C dL_scoreAnew_1 ?_
  refine x_aload_n C dL_scoreAnew_2 rfl 0 rfl ?_
  refine x_iload_n C dL_scoreAnew_3 rfl 1 rfl ?_
  refine x_callV (n := 1) (ci := 9) (Cn := RX8) (T := TX8) (N := 10) (cc9 := 1) (ss9 := 6) (rest := [.int (zI 0), .ref ou]) C dL_scoreAnew_4 (c_X8_scoreAnew (kxL E) C.st G z μ xa σ n k hC hK.1 (by omega)) gL_scoreAnew_X8_scoreAnew rfl (by decide +kernel) ⟨(Nat.le_of_ble_eq_true rfl), (Nat.le_of_ble_eq_true rfl)⟩ rfl hC.ob rfl rfl (Nat.le_of_ble_eq_true rfl) rfl rfl ⟨(Nat.le_of_ble_eq_true rfl), (Nat.le_of_ble_eq_true rfl)⟩ (fun En hEn => by (obtain ⟨rfl, ht9⟩ := hEn; exact x_catch (name := "java/lang/IndexOutOfBoundsException") C [] ⟨0, 9, 12, 13⟩ [] hT (fun y hy => absurd hy List.not_mem_nil) (by decide) (by decide) (by decide +kernel) (by decide +kernel) (fun q9 => x_astore_n (lv' := [(3, .ref q9), (0, .ref xa), (1, .int (zI k)), (2, .ref ou)]) C dL_scoreAnew_12 rfl (by decide) rfl (z_iconst C dL_scoreAnew_13 (x_iret C R dL_scoreAnew_14 (Nat.le_of_ble_eq_true rfl) (Nat.le_of_ble_eq_true rfl) ⟨_, rfl, hM, Or.inr ⟨by omega, by omega, hC, hOJ⟩⟩))))) (fun v1 μ2 hv3 => ?_)
  obtain ⟨r4, hw7, h5, hm6⟩ := hv3
  subst hw7
  rw [hm6]
  have ht9 := h5.1
  have hb9 := h5.2
  refine x_stk (stk' := [.int (zI r4), .int (zI 0), .ref ou]) rfl ?_
  refine z_i2l C dL_scoreAnew_7 ?_
  refine z_last C dL_scoreAnew_8 hOJ (fun μ8 hOJw hF9 => ?_)
  have hC : RepC G z μ8 xa σ n := hF9.repc hC
  have hM : RepM G μ8 md σ tm := hF9.repm hM
  have hOJ := hOJw
  refine x_goto (tgt := 15) C dL_scoreAnew_9 (by decide) ?_
  refine z_iconst C dL_scoreAnew_15 ?_
  exact x_iret C R dL_scoreAnew_16 (Nat.le_of_ble_eq_true rfl) (Nat.le_of_ble_eq_true rfl) (⟨_, rfl, hM, Or.inl ⟨rfl, ht9, hC, (by (rw [hb9] at hOJ; exact hOJ))⟩⟩)
