/-! p32: the law -/
abbrev rm_L_does_0 : Room := { frames := 8, cells := 3, slots := 21, locals := 170 }
set_option maxHeartbeats 4000000 in
set_option maxRecDepth 100000 in
theorem c_L_does_0 (l : Launch) (hst : l.stackTraces = false) (G : GG) (z : Nat) (μ : Mm) (a : Nat) (σ : SS) (n : Nat) (x y u d : Int) (hC : RepC G z μ a σ n) (hK : Kv σ n) (hn5 : n < 512) (hx : 0 ≤ x ∧ x < 16384) (hy : -2147483648 ≤ y ∧ y < 2147483648) (hu : -2147483648 ≤ u ∧ u < 2147483648) (hd : (8191 < x ∧ d = 1) ∨ (x ≤ 8191 ∧ d = 0)) : Ct l yL_does wsL_does rm_L_does_0 G z [.ref a, .int (zI 0), .int (zI x), .int (zI y), .int (zI u)] μ (rS (fun r9 μ' => ((t_hint σ (x % 8) (x / 8 % 16) (x / 128 % 64) = 0 ∧ r9 = b_fits (n_hint σ (x % 8) (x / 8 % 16) (x / 128 % 64) d) 0 ∧ RepC G z μ' a (n_hint σ (x % 8) (x / 8 % 16) (x / 128 % 64) d) n) ∨ (((t_hint σ (x % 8) (x / 8 % 16) (x / 128 % 64) = 1 ∧ r9 = (-11)) ∨ (t_hint σ (x % 8) (x / 8 % 16) (x / 128 % 64) = 2 ∧ r9 = (-12)) ∨ (t_hint σ (x % 8) (x / 8 % 16) (x / 128 % 64) = 3 ∧ r9 = (-13))) ∧ RepC G z μ' a σ n)) ∧ Fr 0 2999 μ μ')) (nX) := by
  refine ct_ofH (cc := cL_does) (maxL := 6) (ret := (some .int)) (own := RL) (hh := [(0, 153, 154, 72), (0, 153, 159, 74), (0, 153, 164, 76), (0, 153, 169, 78)]) (by decide) rfl rfl hst (Nat.le_of_ble_eq_true rfl) ?_
  intro E hLl hnm C R hT
  have hFr : Fr 0 2999 μ μ := Fr.rf
  refine x_eq (lv' := [(0, .ref a), (1, .int (zI 0)), (2, .int (zI x)), (3, .int (zI y)), (4, .int (zI u))]) rfl rfl ?_
  refine x_iload_n C dL_does_0 rfl 1 rfl ?_
  refine z_if_ne (tgt := 42) C dL_does_1 (by decide) (rg_of (by omega) (by omega)) (fun c_1 => ?_) (fun c_1 => ?_)
  · exfalso; omega
  · refine x_aload_n C dL_does_4 rfl 0 rfl ?_
    refine x_iload_n C dL_does_5 rfl 2 rfl ?_
    refine z_bipush C dL_does_6 (by decide) ?_
    refine z_irem C dL_does_8 (rg_of (by omega) (by omega)) (by omega) (rg_of (by omega) (by omega)) (by omega) rfl ?_
    refine x_iload_n C dL_does_9 rfl 2 rfl ?_
    refine z_bipush C dL_does_10 (by decide) ?_
    refine z_idiv C dL_does_12 (rg_of (by omega) (by omega)) (by omega) (rg_of (by omega) (by omega)) (by omega) rfl ?_
    refine z_bipush C dL_does_13 (by decide) ?_
    refine z_irem C dL_does_15 (rg_of (by omega) (by omega)) (by omega) (rg_of (by omega) (by omega)) (by omega) rfl ?_
    refine x_iload_n C dL_does_16 rfl 2 rfl ?_
    refine z_sipush C dL_does_17 (by decide) ?_
    refine z_idiv C dL_does_20 (rg_of (by omega) (by omega)) (by omega) (rg_of (by omega) (by omega)) (by omega) rfl ?_
    refine z_bipush C dL_does_21 (by decide) ?_
    refine z_irem C dL_does_23 (rg_of (by omega) (by omega)) (by omega) (rg_of (by omega) (by omega)) (by omega) rfl ?_
    refine x_iload_n C dL_does_24 rfl 2 rfl ?_
    refine z_sipush C dL_does_25 (by decide) ?_
    refine z_icmp_le (tgt := 35) C dL_does_28 (by decide) (rg_of (by omega) (by omega)) (rg_of (by omega) (by omega)) (fun c_2 => ?_) (fun c_2 => ?_)
    · refine z_iconst C dL_does_35 ?_
      refine x_stk (stk' := [.int (zI d), .int (zI ((x / 128) % 64)), .int (zI ((x / 8) % 16)), .int (zI (x % 8)), .ref a]) (by rw [show d = 0 by omega]) ?_
      refine x_callV (n := 4) (ci := 9) (Cn := RX8) (T := TX8) (N := 10) (cc9 := 3) (ss9 := 21) (rest := []) C dL_does_36 (c_X8_hint (kxL E) C.st G z μ a σ n (x % 8) (x / 8 % 16) (x / 128 % 64) d hC hK.1 (by omega) (by omega) (by omega) (by omega)) gL_does_X8_hint rfl (by decide +kernel) ⟨(Nat.le_of_ble_eq_true rfl), (Nat.le_of_ble_eq_true rfl)⟩ rfl hC.ob rfl rfl (Nat.le_of_ble_eq_true rfl) rfl rfl ⟨(Nat.le_of_ble_eq_true rfl), (Nat.le_of_ble_eq_true rfl)⟩ (fun En hEn => by (rcases hEn with ⟨rfl, ht9⟩ | ⟨rfl, ht9⟩ | ⟨rfl, ht9⟩; exact x_catch (name := "java/lang/IndexOutOfBoundsException") C [⟨0, 153, 154, 72⟩] ⟨0, 153, 159, 74⟩ [⟨0, 153, 164, 76⟩, ⟨0, 153, 169, 78⟩] hT (fun y hy => by (rcases List.mem_cons.mp hy with rfl | hy; exact Or.inr ⟨by decide, "java/util/NoSuchElementException", by decide +kernel, by decide +kernel⟩; exact absurd hy List.not_mem_nil)) (by decide) (by decide) (by decide +kernel) (by decide +kernel) (fun q9 => x_astore (lv' := [(5, .ref q9), (0, .ref a), (1, .int (zI 0)), (2, .int (zI x)), (3, .int (zI y)), (4, .int (zI u))]) C dL_does_159 (by decide) rfl (z_bipush C dL_does_161 (by decide) (x_iret C R dL_does_163 (Nat.le_of_ble_eq_true rfl) (Nat.le_of_ble_eq_true rfl) ⟨_, rfl, ⟨Or.inr ⟨Or.inl ⟨ht9, rfl⟩, hC⟩, Fr.rf⟩⟩))); exact x_catch (name := "java/lang/IllegalArgumentException") C [⟨0, 153, 154, 72⟩, ⟨0, 153, 159, 74⟩] ⟨0, 153, 164, 76⟩ [⟨0, 153, 169, 78⟩] hT (fun y hy => by (rcases List.mem_cons.mp hy with rfl | hy; exact Or.inr ⟨by decide, "java/util/NoSuchElementException", by decide +kernel, by decide +kernel⟩; rcases List.mem_cons.mp hy with rfl | hy; exact Or.inr ⟨by decide, "java/lang/IndexOutOfBoundsException", by decide +kernel, by decide +kernel⟩; exact absurd hy List.not_mem_nil)) (by decide) (by decide) (by decide +kernel) (by decide +kernel) (fun q9 => x_astore (lv' := [(5, .ref q9), (0, .ref a), (1, .int (zI 0)), (2, .int (zI x)), (3, .int (zI y)), (4, .int (zI u))]) C dL_does_164 (by decide) rfl (z_bipush C dL_does_166 (by decide) (x_iret C R dL_does_168 (Nat.le_of_ble_eq_true rfl) (Nat.le_of_ble_eq_true rfl) ⟨_, rfl, ⟨Or.inr ⟨Or.inr (Or.inl ⟨ht9, rfl⟩), hC⟩, Fr.rf⟩⟩))); exact x_catch (name := "java/lang/IllegalStateException") C [⟨0, 153, 154, 72⟩, ⟨0, 153, 159, 74⟩, ⟨0, 153, 164, 76⟩] ⟨0, 153, 169, 78⟩ [] hT (fun y hy => by (rcases List.mem_cons.mp hy with rfl | hy; exact Or.inr ⟨by decide, "java/util/NoSuchElementException", by decide +kernel, by decide +kernel⟩; rcases List.mem_cons.mp hy with rfl | hy; exact Or.inr ⟨by decide, "java/lang/IndexOutOfBoundsException", by decide +kernel, by decide +kernel⟩; rcases List.mem_cons.mp hy with rfl | hy; exact Or.inr ⟨by decide, "java/lang/IllegalArgumentException", by decide +kernel, by decide +kernel⟩; exact absurd hy List.not_mem_nil)) (by decide) (by decide) (by decide +kernel) (by decide +kernel) (fun q9 => x_astore (lv' := [(5, .ref q9), (0, .ref a), (1, .int (zI 0)), (2, .int (zI x)), (3, .int (zI y)), (4, .int (zI u))]) C dL_does_169 (by decide) rfl (z_bipush C dL_does_171 (by decide) (x_iret C R dL_does_173 (Nat.le_of_ble_eq_true rfl) (Nat.le_of_ble_eq_true rfl) ⟨_, rfl, ⟨Or.inr ⟨Or.inr (Or.inr (⟨ht9, rfl⟩)), hC⟩, Fr.rf⟩⟩))))) (fun v3 μ4 hv5 => ?_)
      obtain ⟨r6, hw9, h7⟩ := hv5
      subst hw9
      obtain ⟨⟨ht9, hb9, hC⟩, hF9⟩ := h7
      have hF10 := hF9
      have hFr : Fr 0 2999 μ μ4 := hFr.tr hF10
      refine x_stk (stk' := [.int (zI r6)]) rfl ?_
      refine x_goto (tgt := 153) C dL_does_39 (by decide) ?_
      exact x_iret C R dL_does_153 (Nat.le_of_ble_eq_true rfl) (Nat.le_of_ble_eq_true rfl) (⟨_, rfl, ⟨Or.inl ⟨ht9, hb9, hC⟩, hFr⟩⟩)
    · refine z_iconst C dL_does_31 ?_
      refine x_goto (tgt := 36) C dL_does_32 (by decide) ?_
      refine x_stk (stk' := [.int (zI d), .int (zI ((x / 128) % 64)), .int (zI ((x / 8) % 16)), .int (zI (x % 8)), .ref a]) (by rw [show d = 1 by omega]) ?_
      refine x_callV (n := 4) (ci := 9) (Cn := RX8) (T := TX8) (N := 10) (cc9 := 3) (ss9 := 21) (rest := []) C dL_does_36 (c_X8_hint (kxL E) C.st G z μ a σ n (x % 8) (x / 8 % 16) (x / 128 % 64) d hC hK.1 (by omega) (by omega) (by omega) (by omega)) gL_does_X8_hint rfl (by decide +kernel) ⟨(Nat.le_of_ble_eq_true rfl), (Nat.le_of_ble_eq_true rfl)⟩ rfl hC.ob rfl rfl (Nat.le_of_ble_eq_true rfl) rfl rfl ⟨(Nat.le_of_ble_eq_true rfl), (Nat.le_of_ble_eq_true rfl)⟩ (fun En hEn => by (rcases hEn with ⟨rfl, ht9⟩ | ⟨rfl, ht9⟩ | ⟨rfl, ht9⟩; exact x_catch (name := "java/lang/IndexOutOfBoundsException") C [⟨0, 153, 154, 72⟩] ⟨0, 153, 159, 74⟩ [⟨0, 153, 164, 76⟩, ⟨0, 153, 169, 78⟩] hT (fun y hy => by (rcases List.mem_cons.mp hy with rfl | hy; exact Or.inr ⟨by decide, "java/util/NoSuchElementException", by decide +kernel, by decide +kernel⟩; exact absurd hy List.not_mem_nil)) (by decide) (by decide) (by decide +kernel) (by decide +kernel) (fun q9 => x_astore (lv' := [(5, .ref q9), (0, .ref a), (1, .int (zI 0)), (2, .int (zI x)), (3, .int (zI y)), (4, .int (zI u))]) C dL_does_159 (by decide) rfl (z_bipush C dL_does_161 (by decide) (x_iret C R dL_does_163 (Nat.le_of_ble_eq_true rfl) (Nat.le_of_ble_eq_true rfl) ⟨_, rfl, ⟨Or.inr ⟨Or.inl ⟨ht9, rfl⟩, hC⟩, Fr.rf⟩⟩))); exact x_catch (name := "java/lang/IllegalArgumentException") C [⟨0, 153, 154, 72⟩, ⟨0, 153, 159, 74⟩] ⟨0, 153, 164, 76⟩ [⟨0, 153, 169, 78⟩] hT (fun y hy => by (rcases List.mem_cons.mp hy with rfl | hy; exact Or.inr ⟨by decide, "java/util/NoSuchElementException", by decide +kernel, by decide +kernel⟩; rcases List.mem_cons.mp hy with rfl | hy; exact Or.inr ⟨by decide, "java/lang/IndexOutOfBoundsException", by decide +kernel, by decide +kernel⟩; exact absurd hy List.not_mem_nil)) (by decide) (by decide) (by decide +kernel) (by decide +kernel) (fun q9 => x_astore (lv' := [(5, .ref q9), (0, .ref a), (1, .int (zI 0)), (2, .int (zI x)), (3, .int (zI y)), (4, .int (zI u))]) C dL_does_164 (by decide) rfl (z_bipush C dL_does_166 (by decide) (x_iret C R dL_does_168 (Nat.le_of_ble_eq_true rfl) (Nat.le_of_ble_eq_true rfl) ⟨_, rfl, ⟨Or.inr ⟨Or.inr (Or.inl ⟨ht9, rfl⟩), hC⟩, Fr.rf⟩⟩))); exact x_catch (name := "java/lang/IllegalStateException") C [⟨0, 153, 154, 72⟩, ⟨0, 153, 159, 74⟩, ⟨0, 153, 164, 76⟩] ⟨0, 153, 169, 78⟩ [] hT (fun y hy => by (rcases List.mem_cons.mp hy with rfl | hy; exact Or.inr ⟨by decide, "java/util/NoSuchElementException", by decide +kernel, by decide +kernel⟩; rcases List.mem_cons.mp hy with rfl | hy; exact Or.inr ⟨by decide, "java/lang/IndexOutOfBoundsException", by decide +kernel, by decide +kernel⟩; rcases List.mem_cons.mp hy with rfl | hy; exact Or.inr ⟨by decide, "java/lang/IllegalArgumentException", by decide +kernel, by decide +kernel⟩; exact absurd hy List.not_mem_nil)) (by decide) (by decide) (by decide +kernel) (by decide +kernel) (fun q9 => x_astore (lv' := [(5, .ref q9), (0, .ref a), (1, .int (zI 0)), (2, .int (zI x)), (3, .int (zI y)), (4, .int (zI u))]) C dL_does_169 (by decide) rfl (z_bipush C dL_does_171 (by decide) (x_iret C R dL_does_173 (Nat.le_of_ble_eq_true rfl) (Nat.le_of_ble_eq_true rfl) ⟨_, rfl, ⟨Or.inr ⟨Or.inr (Or.inr (⟨ht9, rfl⟩)), hC⟩, Fr.rf⟩⟩))))) (fun v11 μ12 hv13 => ?_)
      obtain ⟨r14, hw17, h15⟩ := hv13
      subst hw17
      obtain ⟨⟨ht9, hb9, hC⟩, hF9⟩ := h15
      have hF18 := hF9
      have hFr : Fr 0 2999 μ μ12 := hFr.tr hF18
      refine x_stk (stk' := [.int (zI r14)]) rfl ?_
      refine x_goto (tgt := 153) C dL_does_39 (by decide) ?_
      exact x_iret C R dL_does_153 (Nat.le_of_ble_eq_true rfl) (Nat.le_of_ble_eq_true rfl) (⟨_, rfl, ⟨Or.inl ⟨ht9, hb9, hC⟩, hFr⟩⟩)
abbrev rm_L_does_1 : Room := { frames := 8, cells := 6, slots := 25, locals := 170 }
set_option maxHeartbeats 4000000 in
set_option maxRecDepth 100000 in
theorem c_L_does_1 (l : Launch) (hst : l.stackTraces = false) (G : GG) (z : Nat) (μ : Mm) (a : Nat) (σ : SS) (n : Nat) (x y u : Int) (hC : RepC G z μ a σ n) (hK : Kv σ n) (hn5 : n < 512) (hx : -2147483648 ≤ x ∧ x < 2147483648) (hy : -2147483648 ≤ y ∧ y < 2147483648) (hu : -2147483648 ≤ u ∧ u < 2147483648) : Ct l yL_does wsL_does rm_L_does_1 G z [.ref a, .int (zI 1), .int (zI x), .int (zI y), .int (zI u)] μ (rS (fun r9 μ' => ((t_stage σ = 0 ∧ r9 = σ 7 0 ∧ RepC G z μ' a (n_stage σ) n) ∨ (((t_stage σ = 1 ∧ r9 = (-13))) ∧ RepC G z μ' a σ n)) ∧ Fr 0 2999 μ μ')) (nX) := by
  refine ct_ofH (cc := cL_does) (maxL := 6) (ret := (some .int)) (own := RL) (hh := [(0, 153, 154, 72), (0, 153, 159, 74), (0, 153, 164, 76), (0, 153, 169, 78)]) (by decide) rfl rfl hst (Nat.le_of_ble_eq_true rfl) ?_
  intro E hLl hnm C R hT
  have hFr : Fr 0 2999 μ μ := Fr.rf
  refine x_eq (lv' := [(0, .ref a), (1, .int (zI 1)), (2, .int (zI x)), (3, .int (zI y)), (4, .int (zI u))]) rfl rfl ?_
  refine x_iload_n C dL_does_0 rfl 1 rfl ?_
  refine z_if_ne (tgt := 42) C dL_does_1 (by decide) (rg_of (by omega) (by omega)) (fun c_1 => ?_) (fun c_1 => ?_)
  · refine x_iload_n C dL_does_42 rfl 1 rfl ?_
    refine z_iconst C dL_does_43 ?_
    refine z_icmp_ne (tgt := 54) C dL_does_44 (by decide) (rg_of (by omega) (by omega)) (rg_of (by omega) (by omega)) (fun c_2 => ?_) (fun c_2 => ?_)
    · exfalso; omega
    · refine x_aload_n C dL_does_47 rfl 0 rfl ?_
      refine x_callV (n := 0) (ci := 9) (Cn := RX8) (T := TX8) (N := 10) (cc9 := 6) (ss9 := 25) (rest := []) C dL_does_48 (c_X8_stage (kxL E) C.st G z μ a σ n hC hK.1 hK.2) gL_does_X8_stage rfl (by decide +kernel) ⟨(Nat.le_of_ble_eq_true rfl), (Nat.le_of_ble_eq_true rfl)⟩ rfl hC.ob rfl rfl (Nat.le_of_ble_eq_true rfl) rfl rfl ⟨(Nat.le_of_ble_eq_true rfl), (Nat.le_of_ble_eq_true rfl)⟩ (fun En hEn => by (obtain ⟨rfl, ht9⟩ := hEn; exact x_catch (name := "java/lang/IllegalStateException") C [⟨0, 153, 154, 72⟩, ⟨0, 153, 159, 74⟩, ⟨0, 153, 164, 76⟩] ⟨0, 153, 169, 78⟩ [] hT (fun y hy => by (rcases List.mem_cons.mp hy with rfl | hy; exact Or.inr ⟨by decide, "java/util/NoSuchElementException", by decide +kernel, by decide +kernel⟩; rcases List.mem_cons.mp hy with rfl | hy; exact Or.inr ⟨by decide, "java/lang/IndexOutOfBoundsException", by decide +kernel, by decide +kernel⟩; rcases List.mem_cons.mp hy with rfl | hy; exact Or.inr ⟨by decide, "java/lang/IllegalArgumentException", by decide +kernel, by decide +kernel⟩; exact absurd hy List.not_mem_nil)) (by decide) (by decide) (by decide +kernel) (by decide +kernel) (fun q9 => x_astore (lv' := [(5, .ref q9), (0, .ref a), (1, .int (zI 1)), (2, .int (zI x)), (3, .int (zI y)), (4, .int (zI u))]) C dL_does_169 (by decide) rfl (z_bipush C dL_does_171 (by decide) (x_iret C R dL_does_173 (Nat.le_of_ble_eq_true rfl) (Nat.le_of_ble_eq_true rfl) ⟨_, rfl, ⟨Or.inr ⟨⟨ht9, rfl⟩, hC⟩, Fr.rf⟩⟩))))) (fun v3 μ4 hv5 => ?_)
      obtain ⟨r6, hw9, h7⟩ := hv5
      subst hw9
      obtain ⟨⟨ht9, hb9, hC⟩, hF9⟩ := h7
      have hF10 := hF9
      have hFr : Fr 0 2999 μ μ4 := hFr.tr hF10
      refine x_stk (stk' := [.int (zI r6)]) rfl ?_
      refine x_goto (tgt := 153) C dL_does_51 (by decide) ?_
      exact x_iret C R dL_does_153 (Nat.le_of_ble_eq_true rfl) (Nat.le_of_ble_eq_true rfl) (⟨_, rfl, ⟨Or.inl ⟨ht9, hb9, hC⟩, hFr⟩⟩)
  · exfalso; omega
abbrev rm_L_does_2 : Room := { frames := 8, cells := 1, slots := 6, locals := 170 }
set_option maxHeartbeats 4000000 in
set_option maxRecDepth 100000 in
theorem c_L_does_2 (l : Launch) (hst : l.stackTraces = false) (G : GG) (z : Nat) (μ : Mm) (a : Nat) (σ : SS) (n : Nat) (x y u : Int) (hC : RepC G z μ a σ n) (hK : Kv σ n) (hn5 : n < 512) (hx : -2147483648 ≤ x ∧ x < 2147483648) (hy : -2147483648 ≤ y ∧ y < 2147483648) (hu : -2147483648 ≤ u ∧ u < 2147483648) : Ct l yL_does wsL_does rm_L_does_2 G z [.ref a, .int (zI 2), .int (zI x), .int (zI y), .int (zI u)] μ (rS (fun r9 μ' => ((t_spell σ x = 0 ∧ r9 = b_spell σ x ∧ RepC G z μ' a (n_spell σ x) n) ∨ (((t_spell σ x = 1 ∧ r9 = (-11)) ∨ (t_spell σ x = 2 ∧ r9 = (-13))) ∧ RepC G z μ' a σ n)) ∧ Fr 0 2999 μ μ')) (nX) := by
  refine ct_ofH (cc := cL_does) (maxL := 6) (ret := (some .int)) (own := RL) (hh := [(0, 153, 154, 72), (0, 153, 159, 74), (0, 153, 164, 76), (0, 153, 169, 78)]) (by decide) rfl rfl hst (Nat.le_of_ble_eq_true rfl) ?_
  intro E hLl hnm C R hT
  have hFr : Fr 0 2999 μ μ := Fr.rf
  refine x_eq (lv' := [(0, .ref a), (1, .int (zI 2)), (2, .int (zI x)), (3, .int (zI y)), (4, .int (zI u))]) rfl rfl ?_
  refine x_iload_n C dL_does_0 rfl 1 rfl ?_
  refine z_if_ne (tgt := 42) C dL_does_1 (by decide) (rg_of (by omega) (by omega)) (fun c_1 => ?_) (fun c_1 => ?_)
  · refine x_iload_n C dL_does_42 rfl 1 rfl ?_
    refine z_iconst C dL_does_43 ?_
    refine z_icmp_ne (tgt := 54) C dL_does_44 (by decide) (rg_of (by omega) (by omega)) (rg_of (by omega) (by omega)) (fun c_2 => ?_) (fun c_2 => ?_)
    · refine x_iload_n C dL_does_54 rfl 1 rfl ?_
      refine z_iconst C dL_does_55 ?_
      refine z_icmp_ne (tgt := 67) C dL_does_56 (by decide) (rg_of (by omega) (by omega)) (rg_of (by omega) (by omega)) (fun c_3 => ?_) (fun c_3 => ?_)
      · exfalso; omega
      · refine x_aload_n C dL_does_59 rfl 0 rfl ?_
        refine x_iload_n C dL_does_60 rfl 2 rfl ?_
        refine x_callV (n := 1) (ci := 9) (Cn := RX8) (T := TX8) (N := 10) (cc9 := 1) (ss9 := 6) (rest := []) C dL_does_61 (c_X8_spell (kxL E) C.st G z μ a σ n x hC hK.1 (by omega)) gL_does_X8_spell rfl (by decide +kernel) ⟨(Nat.le_of_ble_eq_true rfl), (Nat.le_of_ble_eq_true rfl)⟩ rfl hC.ob rfl rfl (Nat.le_of_ble_eq_true rfl) rfl rfl ⟨(Nat.le_of_ble_eq_true rfl), (Nat.le_of_ble_eq_true rfl)⟩ (fun En hEn => by (rcases hEn with ⟨rfl, ht9⟩ | ⟨rfl, ht9⟩; exact x_catch (name := "java/lang/IndexOutOfBoundsException") C [⟨0, 153, 154, 72⟩] ⟨0, 153, 159, 74⟩ [⟨0, 153, 164, 76⟩, ⟨0, 153, 169, 78⟩] hT (fun y hy => by (rcases List.mem_cons.mp hy with rfl | hy; exact Or.inr ⟨by decide, "java/util/NoSuchElementException", by decide +kernel, by decide +kernel⟩; exact absurd hy List.not_mem_nil)) (by decide) (by decide) (by decide +kernel) (by decide +kernel) (fun q9 => x_astore (lv' := [(5, .ref q9), (0, .ref a), (1, .int (zI 2)), (2, .int (zI x)), (3, .int (zI y)), (4, .int (zI u))]) C dL_does_159 (by decide) rfl (z_bipush C dL_does_161 (by decide) (x_iret C R dL_does_163 (Nat.le_of_ble_eq_true rfl) (Nat.le_of_ble_eq_true rfl) ⟨_, rfl, ⟨Or.inr ⟨Or.inl ⟨ht9, rfl⟩, hC⟩, Fr.rf⟩⟩))); exact x_catch (name := "java/lang/IllegalStateException") C [⟨0, 153, 154, 72⟩, ⟨0, 153, 159, 74⟩, ⟨0, 153, 164, 76⟩] ⟨0, 153, 169, 78⟩ [] hT (fun y hy => by (rcases List.mem_cons.mp hy with rfl | hy; exact Or.inr ⟨by decide, "java/util/NoSuchElementException", by decide +kernel, by decide +kernel⟩; rcases List.mem_cons.mp hy with rfl | hy; exact Or.inr ⟨by decide, "java/lang/IndexOutOfBoundsException", by decide +kernel, by decide +kernel⟩; rcases List.mem_cons.mp hy with rfl | hy; exact Or.inr ⟨by decide, "java/lang/IllegalArgumentException", by decide +kernel, by decide +kernel⟩; exact absurd hy List.not_mem_nil)) (by decide) (by decide) (by decide +kernel) (by decide +kernel) (fun q9 => x_astore (lv' := [(5, .ref q9), (0, .ref a), (1, .int (zI 2)), (2, .int (zI x)), (3, .int (zI y)), (4, .int (zI u))]) C dL_does_169 (by decide) rfl (z_bipush C dL_does_171 (by decide) (x_iret C R dL_does_173 (Nat.le_of_ble_eq_true rfl) (Nat.le_of_ble_eq_true rfl) ⟨_, rfl, ⟨Or.inr ⟨Or.inr (⟨ht9, rfl⟩), hC⟩, Fr.rf⟩⟩))))) (fun v4 μ5 hv6 => ?_)
        obtain ⟨r7, hw10, h8⟩ := hv6
        subst hw10
        obtain ⟨⟨ht9, hb9, hC⟩, hF9⟩ := h8
        have hF11 := hF9
        have hFr : Fr 0 2999 μ μ5 := hFr.tr hF11
        refine x_stk (stk' := [.int (zI r7)]) rfl ?_
        refine x_goto (tgt := 153) C dL_does_64 (by decide) ?_
        exact x_iret C R dL_does_153 (Nat.le_of_ble_eq_true rfl) (Nat.le_of_ble_eq_true rfl) (⟨_, rfl, ⟨Or.inl ⟨ht9, hb9, hC⟩, hFr⟩⟩)
    · exfalso; omega
  · exfalso; omega
abbrev rm_L_does_3 : Room := { frames := 8, cells := 2, slots := 12, locals := 170 }
set_option maxHeartbeats 4000000 in
set_option maxRecDepth 100000 in
theorem c_L_does_3 (l : Launch) (hst : l.stackTraces = false) (G : GG) (z : Nat) (μ : Mm) (a : Nat) (σ : SS) (n : Nat) (x y u : Int) (hC : RepC G z μ a σ n) (hK : Kv σ n) (hn5 : n < 512) (hx : -2147483648 ≤ x ∧ x < 2147483648) (hy : -2147483648 ≤ y ∧ y < 2147483648) (hu : -2147483648 ≤ u ∧ u < 2147483648) : Ct l yL_does wsL_does rm_L_does_3 G z [.ref a, .int (zI 3), .int (zI x), .int (zI y), .int (zI u)] μ (rS (fun r9 μ' => ((t_cipher σ x = 0 ∧ r9 = clen σ x ∧ RepC G z μ' a (σ) n) ∨ (((t_cipher σ x = 1 ∧ r9 = (-11)) ∨ (t_cipher σ x = 2 ∧ r9 = (-14))) ∧ RepC G z μ' a σ n)) ∧ Fr 0 2999 μ μ')) (nX) := by
  refine ct_ofH (cc := cL_does) (maxL := 6) (ret := (some .int)) (own := RL) (hh := [(0, 153, 154, 72), (0, 153, 159, 74), (0, 153, 164, 76), (0, 153, 169, 78)]) (by decide) rfl rfl hst (Nat.le_of_ble_eq_true rfl) ?_
  intro E hLl hnm C R hT
  have hFr : Fr 0 2999 μ μ := Fr.rf
  refine x_eq (lv' := [(0, .ref a), (1, .int (zI 3)), (2, .int (zI x)), (3, .int (zI y)), (4, .int (zI u))]) rfl rfl ?_
  refine x_iload_n C dL_does_0 rfl 1 rfl ?_
  refine z_if_ne (tgt := 42) C dL_does_1 (by decide) (rg_of (by omega) (by omega)) (fun c_1 => ?_) (fun c_1 => ?_)
  · refine x_iload_n C dL_does_42 rfl 1 rfl ?_
    refine z_iconst C dL_does_43 ?_
    refine z_icmp_ne (tgt := 54) C dL_does_44 (by decide) (rg_of (by omega) (by omega)) (rg_of (by omega) (by omega)) (fun c_2 => ?_) (fun c_2 => ?_)
    · refine x_iload_n C dL_does_54 rfl 1 rfl ?_
      refine z_iconst C dL_does_55 ?_
      refine z_icmp_ne (tgt := 67) C dL_does_56 (by decide) (rg_of (by omega) (by omega)) (rg_of (by omega) (by omega)) (fun c_3 => ?_) (fun c_3 => ?_)
      · refine x_iload_n C dL_does_67 rfl 1 rfl ?_
        refine z_iconst C dL_does_68 ?_
        refine z_icmp_ne (tgt := 80) C dL_does_69 (by decide) (rg_of (by omega) (by omega)) (rg_of (by omega) (by omega)) (fun c_4 => ?_) (fun c_4 => ?_)
        · exfalso; omega
        · refine x_aload_n C dL_does_72 rfl 0 rfl ?_
          refine x_iload_n C dL_does_73 rfl 2 rfl ?_
          refine x_callV (n := 1) (ci := 9) (Cn := RX8) (T := TX8) (N := 10) (cc9 := 2) (ss9 := 12) (rest := []) C dL_does_74 (c_X8_cipherLength (kxL E) C.st G z μ a σ n x hC hK.1 hK.2 (by omega)) gL_does_X8_cipherLength rfl (by decide +kernel) ⟨(Nat.le_of_ble_eq_true rfl), (Nat.le_of_ble_eq_true rfl)⟩ rfl hC.ob rfl rfl (Nat.le_of_ble_eq_true rfl) rfl rfl ⟨(Nat.le_of_ble_eq_true rfl), (Nat.le_of_ble_eq_true rfl)⟩ (fun En hEn => by (rcases hEn with ⟨rfl, ht9⟩ | ⟨rfl, ht9⟩; exact x_catch (name := "java/lang/IndexOutOfBoundsException") C [⟨0, 153, 154, 72⟩] ⟨0, 153, 159, 74⟩ [⟨0, 153, 164, 76⟩, ⟨0, 153, 169, 78⟩] hT (fun y hy => by (rcases List.mem_cons.mp hy with rfl | hy; exact Or.inr ⟨by decide, "java/util/NoSuchElementException", by decide +kernel, by decide +kernel⟩; exact absurd hy List.not_mem_nil)) (by decide) (by decide) (by decide +kernel) (by decide +kernel) (fun q9 => x_astore (lv' := [(5, .ref q9), (0, .ref a), (1, .int (zI 3)), (2, .int (zI x)), (3, .int (zI y)), (4, .int (zI u))]) C dL_does_159 (by decide) rfl (z_bipush C dL_does_161 (by decide) (x_iret C R dL_does_163 (Nat.le_of_ble_eq_true rfl) (Nat.le_of_ble_eq_true rfl) ⟨_, rfl, ⟨Or.inr ⟨Or.inl ⟨ht9, rfl⟩, hC⟩, Fr.rf⟩⟩))); exact x_catch (name := "java/util/NoSuchElementException") C [] ⟨0, 153, 154, 72⟩ [⟨0, 153, 159, 74⟩, ⟨0, 153, 164, 76⟩, ⟨0, 153, 169, 78⟩] hT (fun y hy => absurd hy List.not_mem_nil) (by decide) (by decide) (by decide +kernel) (by decide +kernel) (fun q9 => x_astore (lv' := [(5, .ref q9), (0, .ref a), (1, .int (zI 3)), (2, .int (zI x)), (3, .int (zI y)), (4, .int (zI u))]) C dL_does_154 (by decide) rfl (z_bipush C dL_does_156 (by decide) (x_iret C R dL_does_158 (Nat.le_of_ble_eq_true rfl) (Nat.le_of_ble_eq_true rfl) ⟨_, rfl, ⟨Or.inr ⟨Or.inr (⟨ht9, rfl⟩), hC⟩, Fr.rf⟩⟩))))) (fun v5 μ6 hv7 => ?_)
          obtain ⟨r8, hw11, h9, hm10⟩ := hv7
          subst hw11
          rw [hm10]
          have ht9 := h9.1
          have hb9 := h9.2
          refine x_stk (stk' := [.int (zI r8)]) rfl ?_
          refine x_goto (tgt := 153) C dL_does_77 (by decide) ?_
          exact x_iret C R dL_does_153 (Nat.le_of_ble_eq_true rfl) (Nat.le_of_ble_eq_true rfl) (⟨_, rfl, ⟨Or.inl ⟨ht9, hb9, hC⟩, hFr⟩⟩)
      · exfalso; omega
    · exfalso; omega
  · exfalso; omega
abbrev rm_L_does_4 : Room := { frames := 8, cells := 2, slots := 12, locals := 170 }
set_option maxHeartbeats 4000000 in
set_option maxRecDepth 100000 in
theorem c_L_does_4 (l : Launch) (hst : l.stackTraces = false) (G : GG) (z : Nat) (μ : Mm) (a : Nat) (σ : SS) (n : Nat) (x y u : Int) (hC : RepC G z μ a σ n) (hK : Kv σ n) (hn5 : n < 512) (hx : -2147483648 ≤ x ∧ x < 2147483648) (hy : -2147483648 ≤ y ∧ y < 2147483648) (hu : -2147483648 ≤ u ∧ u < 2147483648) : Ct l yL_does wsL_does rm_L_does_4 G z [.ref a, .int (zI 4), .int (zI x), .int (zI y), .int (zI u)] μ (rS (fun r9 μ' => ((t_cipherAt σ x y = 0 ∧ b_cipherAt σ x y r9 ∧ RepC G z μ' a (σ) n) ∨ (((t_cipherAt σ x y = 1 ∧ r9 = (-11)) ∨ (t_cipherAt σ x y = 2 ∧ r9 = (-14))) ∧ RepC G z μ' a σ n)) ∧ Fr 0 2999 μ μ')) (nX) := by
  refine ct_ofH (cc := cL_does) (maxL := 6) (ret := (some .int)) (own := RL) (hh := [(0, 153, 154, 72), (0, 153, 159, 74), (0, 153, 164, 76), (0, 153, 169, 78)]) (by decide) rfl rfl hst (Nat.le_of_ble_eq_true rfl) ?_
  intro E hLl hnm C R hT
  have hFr : Fr 0 2999 μ μ := Fr.rf
  refine x_eq (lv' := [(0, .ref a), (1, .int (zI 4)), (2, .int (zI x)), (3, .int (zI y)), (4, .int (zI u))]) rfl rfl ?_
  refine x_iload_n C dL_does_0 rfl 1 rfl ?_
  refine z_if_ne (tgt := 42) C dL_does_1 (by decide) (rg_of (by omega) (by omega)) (fun c_1 => ?_) (fun c_1 => ?_)
  · refine x_iload_n C dL_does_42 rfl 1 rfl ?_
    refine z_iconst C dL_does_43 ?_
    refine z_icmp_ne (tgt := 54) C dL_does_44 (by decide) (rg_of (by omega) (by omega)) (rg_of (by omega) (by omega)) (fun c_2 => ?_) (fun c_2 => ?_)
    · refine x_iload_n C dL_does_54 rfl 1 rfl ?_
      refine z_iconst C dL_does_55 ?_
      refine z_icmp_ne (tgt := 67) C dL_does_56 (by decide) (rg_of (by omega) (by omega)) (rg_of (by omega) (by omega)) (fun c_3 => ?_) (fun c_3 => ?_)
      · refine x_iload_n C dL_does_67 rfl 1 rfl ?_
        refine z_iconst C dL_does_68 ?_
        refine z_icmp_ne (tgt := 80) C dL_does_69 (by decide) (rg_of (by omega) (by omega)) (rg_of (by omega) (by omega)) (fun c_4 => ?_) (fun c_4 => ?_)
        · refine x_iload_n C dL_does_80 rfl 1 rfl ?_
          refine z_iconst C dL_does_81 ?_
          refine z_icmp_ne (tgt := 94) C dL_does_82 (by decide) (rg_of (by omega) (by omega)) (rg_of (by omega) (by omega)) (fun c_5 => ?_) (fun c_5 => ?_)
          · exfalso; omega
          · refine x_aload_n C dL_does_85 rfl 0 rfl ?_
            refine x_iload_n C dL_does_86 rfl 2 rfl ?_
            refine x_iload_n C dL_does_87 rfl 3 rfl ?_
            refine x_callV (n := 2) (ci := 9) (Cn := RX8) (T := TX8) (N := 10) (cc9 := 2) (ss9 := 12) (rest := []) C dL_does_88 (c_X8_cipherAt (kxL E) C.st G z μ a σ n x y hC hK.1 hK.2 (by omega) (by omega)) gL_does_X8_cipherAt rfl (by decide +kernel) ⟨(Nat.le_of_ble_eq_true rfl), (Nat.le_of_ble_eq_true rfl)⟩ rfl hC.ob rfl rfl (Nat.le_of_ble_eq_true rfl) rfl rfl ⟨(Nat.le_of_ble_eq_true rfl), (Nat.le_of_ble_eq_true rfl)⟩ (fun En hEn => by (rcases hEn with ⟨rfl, ht9⟩ | ⟨rfl, ht9⟩; exact x_catch (name := "java/lang/IndexOutOfBoundsException") C [⟨0, 153, 154, 72⟩] ⟨0, 153, 159, 74⟩ [⟨0, 153, 164, 76⟩, ⟨0, 153, 169, 78⟩] hT (fun y hy => by (rcases List.mem_cons.mp hy with rfl | hy; exact Or.inr ⟨by decide, "java/util/NoSuchElementException", by decide +kernel, by decide +kernel⟩; exact absurd hy List.not_mem_nil)) (by decide) (by decide) (by decide +kernel) (by decide +kernel) (fun q9 => x_astore (lv' := [(5, .ref q9), (0, .ref a), (1, .int (zI 4)), (2, .int (zI x)), (3, .int (zI y)), (4, .int (zI u))]) C dL_does_159 (by decide) rfl (z_bipush C dL_does_161 (by decide) (x_iret C R dL_does_163 (Nat.le_of_ble_eq_true rfl) (Nat.le_of_ble_eq_true rfl) ⟨_, rfl, ⟨Or.inr ⟨Or.inl ⟨ht9, rfl⟩, hC⟩, Fr.rf⟩⟩))); exact x_catch (name := "java/util/NoSuchElementException") C [] ⟨0, 153, 154, 72⟩ [⟨0, 153, 159, 74⟩, ⟨0, 153, 164, 76⟩, ⟨0, 153, 169, 78⟩] hT (fun y hy => absurd hy List.not_mem_nil) (by decide) (by decide) (by decide +kernel) (by decide +kernel) (fun q9 => x_astore (lv' := [(5, .ref q9), (0, .ref a), (1, .int (zI 4)), (2, .int (zI x)), (3, .int (zI y)), (4, .int (zI u))]) C dL_does_154 (by decide) rfl (z_bipush C dL_does_156 (by decide) (x_iret C R dL_does_158 (Nat.le_of_ble_eq_true rfl) (Nat.le_of_ble_eq_true rfl) ⟨_, rfl, ⟨Or.inr ⟨Or.inr (⟨ht9, rfl⟩), hC⟩, Fr.rf⟩⟩))))) (fun v6 μ7 hv8 => ?_)
            obtain ⟨r9, hw12, h10, hm11⟩ := hv8
            subst hw12
            rw [hm11]
            have ht9 := h10.1
            have hb9 := h10.2
            refine x_stk (stk' := [.int (zI r9)]) rfl ?_
            refine x_goto (tgt := 153) C dL_does_91 (by decide) ?_
            exact x_iret C R dL_does_153 (Nat.le_of_ble_eq_true rfl) (Nat.le_of_ble_eq_true rfl) (⟨_, rfl, ⟨Or.inl ⟨ht9, hb9, hC⟩, hFr⟩⟩)
        · exfalso; omega
      · exfalso; omega
    · exfalso; omega
  · exfalso; omega
abbrev rm_L_does_5 : Room := { frames := 8, cells := 5, slots := 50, locals := 170 }
set_option maxHeartbeats 4000000 in
set_option maxRecDepth 100000 in
theorem c_L_does_5 (l : Launch) (hst : l.stackTraces = false) (G : GG) (z : Nat) (μ : Mm) (a : Nat) (σ : SS) (n : Nat) (x y u : Int) (hC : RepC G z μ a σ n) (hK : Kv σ n) (hn5 : n < 512) (hx : -2147483648 ≤ x ∧ x < 2147483648) (hy : -2147483648 ≤ y ∧ y < 2147483648) (hu : -2147483648 ≤ u ∧ u < 2147483648) : Ct l yL_does wsL_does rm_L_does_5 G z [.ref a, .int (zI 5), .int (zI x), .int (zI y), .int (zI u)] μ (rS (fun r9 μ' => ((t_addWalker σ x y = 0 ∧ r9 = σ 12 0 ∧ RepC G z μ' a (n_addWalker σ x y) n) ∨ (((t_addWalker σ x y = 1 ∧ r9 = (-11)) ∨ (t_addWalker σ x y = 2 ∧ r9 = (-12)) ∨ (t_addWalker σ x y = 3 ∧ r9 = (-13))) ∧ RepC G z μ' a σ n)) ∧ Fr 0 2999 μ μ')) (nX) := by
  refine ct_ofH (cc := cL_does) (maxL := 6) (ret := (some .int)) (own := RL) (hh := [(0, 153, 154, 72), (0, 153, 159, 74), (0, 153, 164, 76), (0, 153, 169, 78)]) (by decide) rfl rfl hst (Nat.le_of_ble_eq_true rfl) ?_
  intro E hLl hnm C R hT
  have hFr : Fr 0 2999 μ μ := Fr.rf
  refine x_eq (lv' := [(0, .ref a), (1, .int (zI 5)), (2, .int (zI x)), (3, .int (zI y)), (4, .int (zI u))]) rfl rfl ?_
  refine x_iload_n C dL_does_0 rfl 1 rfl ?_
  refine z_if_ne (tgt := 42) C dL_does_1 (by decide) (rg_of (by omega) (by omega)) (fun c_1 => ?_) (fun c_1 => ?_)
  · refine x_iload_n C dL_does_42 rfl 1 rfl ?_
    refine z_iconst C dL_does_43 ?_
    refine z_icmp_ne (tgt := 54) C dL_does_44 (by decide) (rg_of (by omega) (by omega)) (rg_of (by omega) (by omega)) (fun c_2 => ?_) (fun c_2 => ?_)
    · refine x_iload_n C dL_does_54 rfl 1 rfl ?_
      refine z_iconst C dL_does_55 ?_
      refine z_icmp_ne (tgt := 67) C dL_does_56 (by decide) (rg_of (by omega) (by omega)) (rg_of (by omega) (by omega)) (fun c_3 => ?_) (fun c_3 => ?_)
      · refine x_iload_n C dL_does_67 rfl 1 rfl ?_
        refine z_iconst C dL_does_68 ?_
        refine z_icmp_ne (tgt := 80) C dL_does_69 (by decide) (rg_of (by omega) (by omega)) (rg_of (by omega) (by omega)) (fun c_4 => ?_) (fun c_4 => ?_)
        · refine x_iload_n C dL_does_80 rfl 1 rfl ?_
          refine z_iconst C dL_does_81 ?_
          refine z_icmp_ne (tgt := 94) C dL_does_82 (by decide) (rg_of (by omega) (by omega)) (rg_of (by omega) (by omega)) (fun c_5 => ?_) (fun c_5 => ?_)
          · refine x_iload_n C dL_does_94 rfl 1 rfl ?_
            refine z_iconst C dL_does_95 ?_
            refine z_icmp_ne (tgt := 108) C dL_does_96 (by decide) (rg_of (by omega) (by omega)) (rg_of (by omega) (by omega)) (fun c_6 => ?_) (fun c_6 => ?_)
            · exfalso; omega
            · refine x_aload_n C dL_does_99 rfl 0 rfl ?_
              refine x_iload_n C dL_does_100 rfl 2 rfl ?_
              refine x_iload_n C dL_does_101 rfl 3 rfl ?_
              refine x_callV (n := 2) (ci := 9) (Cn := RX8) (T := TX8) (N := 10) (cc9 := 5) (ss9 := 50) (rest := []) C dL_does_102 (c_X8_addWalker (kxL E) C.st G z μ a σ n x y hC hK.1 hK.2 (by omega) (by omega)) gL_does_X8_addWalker rfl (by decide +kernel) ⟨(Nat.le_of_ble_eq_true rfl), (Nat.le_of_ble_eq_true rfl)⟩ rfl hC.ob rfl rfl (Nat.le_of_ble_eq_true rfl) rfl rfl ⟨(Nat.le_of_ble_eq_true rfl), (Nat.le_of_ble_eq_true rfl)⟩ (fun En hEn => by (rcases hEn with ⟨rfl, ht9⟩ | ⟨rfl, ht9⟩ | ⟨rfl, ht9⟩; exact x_catch (name := "java/lang/IndexOutOfBoundsException") C [⟨0, 153, 154, 72⟩] ⟨0, 153, 159, 74⟩ [⟨0, 153, 164, 76⟩, ⟨0, 153, 169, 78⟩] hT (fun y hy => by (rcases List.mem_cons.mp hy with rfl | hy; exact Or.inr ⟨by decide, "java/util/NoSuchElementException", by decide +kernel, by decide +kernel⟩; exact absurd hy List.not_mem_nil)) (by decide) (by decide) (by decide +kernel) (by decide +kernel) (fun q9 => x_astore (lv' := [(5, .ref q9), (0, .ref a), (1, .int (zI 5)), (2, .int (zI x)), (3, .int (zI y)), (4, .int (zI u))]) C dL_does_159 (by decide) rfl (z_bipush C dL_does_161 (by decide) (x_iret C R dL_does_163 (Nat.le_of_ble_eq_true rfl) (Nat.le_of_ble_eq_true rfl) ⟨_, rfl, ⟨Or.inr ⟨Or.inl ⟨ht9, rfl⟩, hC⟩, Fr.rf⟩⟩))); exact x_catch (name := "java/lang/IllegalArgumentException") C [⟨0, 153, 154, 72⟩, ⟨0, 153, 159, 74⟩] ⟨0, 153, 164, 76⟩ [⟨0, 153, 169, 78⟩] hT (fun y hy => by (rcases List.mem_cons.mp hy with rfl | hy; exact Or.inr ⟨by decide, "java/util/NoSuchElementException", by decide +kernel, by decide +kernel⟩; rcases List.mem_cons.mp hy with rfl | hy; exact Or.inr ⟨by decide, "java/lang/IndexOutOfBoundsException", by decide +kernel, by decide +kernel⟩; exact absurd hy List.not_mem_nil)) (by decide) (by decide) (by decide +kernel) (by decide +kernel) (fun q9 => x_astore (lv' := [(5, .ref q9), (0, .ref a), (1, .int (zI 5)), (2, .int (zI x)), (3, .int (zI y)), (4, .int (zI u))]) C dL_does_164 (by decide) rfl (z_bipush C dL_does_166 (by decide) (x_iret C R dL_does_168 (Nat.le_of_ble_eq_true rfl) (Nat.le_of_ble_eq_true rfl) ⟨_, rfl, ⟨Or.inr ⟨Or.inr (Or.inl ⟨ht9, rfl⟩), hC⟩, Fr.rf⟩⟩))); exact x_catch (name := "java/lang/IllegalStateException") C [⟨0, 153, 154, 72⟩, ⟨0, 153, 159, 74⟩, ⟨0, 153, 164, 76⟩] ⟨0, 153, 169, 78⟩ [] hT (fun y hy => by (rcases List.mem_cons.mp hy with rfl | hy; exact Or.inr ⟨by decide, "java/util/NoSuchElementException", by decide +kernel, by decide +kernel⟩; rcases List.mem_cons.mp hy with rfl | hy; exact Or.inr ⟨by decide, "java/lang/IndexOutOfBoundsException", by decide +kernel, by decide +kernel⟩; rcases List.mem_cons.mp hy with rfl | hy; exact Or.inr ⟨by decide, "java/lang/IllegalArgumentException", by decide +kernel, by decide +kernel⟩; exact absurd hy List.not_mem_nil)) (by decide) (by decide) (by decide +kernel) (by decide +kernel) (fun q9 => x_astore (lv' := [(5, .ref q9), (0, .ref a), (1, .int (zI 5)), (2, .int (zI x)), (3, .int (zI y)), (4, .int (zI u))]) C dL_does_169 (by decide) rfl (z_bipush C dL_does_171 (by decide) (x_iret C R dL_does_173 (Nat.le_of_ble_eq_true rfl) (Nat.le_of_ble_eq_true rfl) ⟨_, rfl, ⟨Or.inr ⟨Or.inr (Or.inr (⟨ht9, rfl⟩)), hC⟩, Fr.rf⟩⟩))))) (fun v7 μ8 hv9 => ?_)
              obtain ⟨r10, hw13, h11⟩ := hv9
              subst hw13
              obtain ⟨⟨ht9, hb9, hC⟩, hF9⟩ := h11
              have hF14 := hF9
              have hFr : Fr 0 2999 μ μ8 := hFr.tr hF14
              refine x_stk (stk' := [.int (zI r10)]) rfl ?_
              refine x_goto (tgt := 153) C dL_does_105 (by decide) ?_
              exact x_iret C R dL_does_153 (Nat.le_of_ble_eq_true rfl) (Nat.le_of_ble_eq_true rfl) (⟨_, rfl, ⟨Or.inl ⟨ht9, hb9, hC⟩, hFr⟩⟩)
          · exfalso; omega
        · exfalso; omega
      · exfalso; omega
    · exfalso; omega
  · exfalso; omega
abbrev rm_L_does_6 : Room := { frames := 8, cells := 2, slots := 12, locals := 170 }
set_option maxHeartbeats 4000000 in
set_option maxRecDepth 100000 in
theorem c_L_does_6 (l : Launch) (hst : l.stackTraces = false) (G : GG) (z : Nat) (μ : Mm) (a : Nat) (σ : SS) (n : Nat) (x y u : Int) (hC : RepC G z μ a σ n) (hK : Kv σ n) (hn5 : n < 512) (hx : -2147483648 ≤ x ∧ x < 2147483648) (hy : -2147483648 ≤ y ∧ y < 2147483648) (hu : -2147483648 ≤ u ∧ u < 2147483648) : Ct l yL_does wsL_does rm_L_does_6 G z [.ref a, .int (zI 6), .int (zI x), .int (zI y), .int (zI u)] μ (rS (fun r9 μ' => ((t_addWarden σ x = 0 ∧ r9 = σ 18 0 ∧ RepC G z μ' a (n_addWarden σ x) n) ∨ (((t_addWarden σ x = 1 ∧ r9 = (-11)) ∨ (t_addWarden σ x = 2 ∧ r9 = (-13))) ∧ RepC G z μ' a σ n)) ∧ Fr 0 2999 μ μ')) (nX) := by
  refine ct_ofH (cc := cL_does) (maxL := 6) (ret := (some .int)) (own := RL) (hh := [(0, 153, 154, 72), (0, 153, 159, 74), (0, 153, 164, 76), (0, 153, 169, 78)]) (by decide) rfl rfl hst (Nat.le_of_ble_eq_true rfl) ?_
  intro E hLl hnm C R hT
  have hFr : Fr 0 2999 μ μ := Fr.rf
  refine x_eq (lv' := [(0, .ref a), (1, .int (zI 6)), (2, .int (zI x)), (3, .int (zI y)), (4, .int (zI u))]) rfl rfl ?_
  refine x_iload_n C dL_does_0 rfl 1 rfl ?_
  refine z_if_ne (tgt := 42) C dL_does_1 (by decide) (rg_of (by omega) (by omega)) (fun c_1 => ?_) (fun c_1 => ?_)
  · refine x_iload_n C dL_does_42 rfl 1 rfl ?_
    refine z_iconst C dL_does_43 ?_
    refine z_icmp_ne (tgt := 54) C dL_does_44 (by decide) (rg_of (by omega) (by omega)) (rg_of (by omega) (by omega)) (fun c_2 => ?_) (fun c_2 => ?_)
    · refine x_iload_n C dL_does_54 rfl 1 rfl ?_
      refine z_iconst C dL_does_55 ?_
      refine z_icmp_ne (tgt := 67) C dL_does_56 (by decide) (rg_of (by omega) (by omega)) (rg_of (by omega) (by omega)) (fun c_3 => ?_) (fun c_3 => ?_)
      · refine x_iload_n C dL_does_67 rfl 1 rfl ?_
        refine z_iconst C dL_does_68 ?_
        refine z_icmp_ne (tgt := 80) C dL_does_69 (by decide) (rg_of (by omega) (by omega)) (rg_of (by omega) (by omega)) (fun c_4 => ?_) (fun c_4 => ?_)
        · refine x_iload_n C dL_does_80 rfl 1 rfl ?_
          refine z_iconst C dL_does_81 ?_
          refine z_icmp_ne (tgt := 94) C dL_does_82 (by decide) (rg_of (by omega) (by omega)) (rg_of (by omega) (by omega)) (fun c_5 => ?_) (fun c_5 => ?_)
          · refine x_iload_n C dL_does_94 rfl 1 rfl ?_
            refine z_iconst C dL_does_95 ?_
            refine z_icmp_ne (tgt := 108) C dL_does_96 (by decide) (rg_of (by omega) (by omega)) (rg_of (by omega) (by omega)) (fun c_6 => ?_) (fun c_6 => ?_)
            · refine x_iload_n C dL_does_108 rfl 1 rfl ?_
              refine z_bipush C dL_does_109 (by decide) ?_
              refine z_icmp_ne (tgt := 122) C dL_does_111 (by decide) (rg_of (by omega) (by omega)) (rg_of (by omega) (by omega)) (fun c_7 => ?_) (fun c_7 => ?_)
              · exfalso; omega
              · refine x_aload_n C dL_does_114 rfl 0 rfl ?_
                refine x_iload_n C dL_does_115 rfl 2 rfl ?_
                refine x_callV (n := 1) (ci := 9) (Cn := RX8) (T := TX8) (N := 10) (cc9 := 2) (ss9 := 12) (rest := []) C dL_does_116 (c_X8_addWarden (kxL E) C.st G z μ a σ n x hC hK.1 (by omega)) gL_does_X8_addWarden rfl (by decide +kernel) ⟨(Nat.le_of_ble_eq_true rfl), (Nat.le_of_ble_eq_true rfl)⟩ rfl hC.ob rfl rfl (Nat.le_of_ble_eq_true rfl) rfl rfl ⟨(Nat.le_of_ble_eq_true rfl), (Nat.le_of_ble_eq_true rfl)⟩ (fun En hEn => by (rcases hEn with ⟨rfl, ht9⟩ | ⟨rfl, ht9⟩; exact x_catch (name := "java/lang/IndexOutOfBoundsException") C [⟨0, 153, 154, 72⟩] ⟨0, 153, 159, 74⟩ [⟨0, 153, 164, 76⟩, ⟨0, 153, 169, 78⟩] hT (fun y hy => by (rcases List.mem_cons.mp hy with rfl | hy; exact Or.inr ⟨by decide, "java/util/NoSuchElementException", by decide +kernel, by decide +kernel⟩; exact absurd hy List.not_mem_nil)) (by decide) (by decide) (by decide +kernel) (by decide +kernel) (fun q9 => x_astore (lv' := [(5, .ref q9), (0, .ref a), (1, .int (zI 6)), (2, .int (zI x)), (3, .int (zI y)), (4, .int (zI u))]) C dL_does_159 (by decide) rfl (z_bipush C dL_does_161 (by decide) (x_iret C R dL_does_163 (Nat.le_of_ble_eq_true rfl) (Nat.le_of_ble_eq_true rfl) ⟨_, rfl, ⟨Or.inr ⟨Or.inl ⟨ht9, rfl⟩, hC⟩, Fr.rf⟩⟩))); exact x_catch (name := "java/lang/IllegalStateException") C [⟨0, 153, 154, 72⟩, ⟨0, 153, 159, 74⟩, ⟨0, 153, 164, 76⟩] ⟨0, 153, 169, 78⟩ [] hT (fun y hy => by (rcases List.mem_cons.mp hy with rfl | hy; exact Or.inr ⟨by decide, "java/util/NoSuchElementException", by decide +kernel, by decide +kernel⟩; rcases List.mem_cons.mp hy with rfl | hy; exact Or.inr ⟨by decide, "java/lang/IndexOutOfBoundsException", by decide +kernel, by decide +kernel⟩; rcases List.mem_cons.mp hy with rfl | hy; exact Or.inr ⟨by decide, "java/lang/IllegalArgumentException", by decide +kernel, by decide +kernel⟩; exact absurd hy List.not_mem_nil)) (by decide) (by decide) (by decide +kernel) (by decide +kernel) (fun q9 => x_astore (lv' := [(5, .ref q9), (0, .ref a), (1, .int (zI 6)), (2, .int (zI x)), (3, .int (zI y)), (4, .int (zI u))]) C dL_does_169 (by decide) rfl (z_bipush C dL_does_171 (by decide) (x_iret C R dL_does_173 (Nat.le_of_ble_eq_true rfl) (Nat.le_of_ble_eq_true rfl) ⟨_, rfl, ⟨Or.inr ⟨Or.inr (⟨ht9, rfl⟩), hC⟩, Fr.rf⟩⟩))))) (fun v8 μ9 hv10 => ?_)
                obtain ⟨r11, hw14, h12⟩ := hv10
                subst hw14
                obtain ⟨⟨ht9, hb9, hC⟩, hF9⟩ := h12
                have hF15 := hF9
                have hFr : Fr 0 2999 μ μ9 := hFr.tr hF15
                refine x_stk (stk' := [.int (zI r11)]) rfl ?_
                refine x_goto (tgt := 153) C dL_does_119 (by decide) ?_
                exact x_iret C R dL_does_153 (Nat.le_of_ble_eq_true rfl) (Nat.le_of_ble_eq_true rfl) (⟨_, rfl, ⟨Or.inl ⟨ht9, hb9, hC⟩, hFr⟩⟩)
            · exfalso; omega
          · exfalso; omega
        · exfalso; omega
      · exfalso; omega
    · exfalso; omega
  · exfalso; omega
abbrev rm_L_does_7 : Room := { frames := 8, cells := 3, slots := 18, locals := 170 }
set_option maxHeartbeats 4000000 in
set_option maxRecDepth 100000 in
theorem c_L_does_7 (l : Launch) (hst : l.stackTraces = false) (G : GG) (z : Nat) (μ : Mm) (a : Nat) (σ : SS) (n : Nat) (x y u : Int) (hC : RepC G z μ a σ n) (hK : Kv σ n) (hn5 : n < 512) (hx : -2147483648 ≤ x ∧ x < 2147483648) (hy : -2147483648 ≤ y ∧ y < 2147483648) (hu : -2147483648 ≤ u ∧ u < 2147483648) : Ct l yL_does wsL_does rm_L_does_7 G z [.ref a, .int (zI 7), .int (zI x), .int (zI y), .int (zI u)] μ (rS (fun r9 μ' => ((t_answer σ x y = 0 ∧ r9 = isWd σ y.toNat ∧ RepC G z μ' a (n_answer σ x y) (n + 1)) ∨ (((t_answer σ x y = 1 ∧ r9 = (-11)) ∨ (t_answer σ x y = 2 ∧ r9 = (-13))) ∧ RepC G z μ' a σ n)) ∧ Fr 0 2999 μ μ')) (nX) := by
  refine ct_ofH (cc := cL_does) (maxL := 6) (ret := (some .int)) (own := RL) (hh := [(0, 153, 154, 72), (0, 153, 159, 74), (0, 153, 164, 76), (0, 153, 169, 78)]) (by decide) rfl rfl hst (Nat.le_of_ble_eq_true rfl) ?_
  intro E hLl hnm C R hT
  have hbr := isWd_rg σ y.toNat
  have hFr : Fr 0 2999 μ μ := Fr.rf
  refine x_eq (lv' := [(0, .ref a), (1, .int (zI 7)), (2, .int (zI x)), (3, .int (zI y)), (4, .int (zI u))]) rfl rfl ?_
  refine x_iload_n C dL_does_0 rfl 1 rfl ?_
  refine z_if_ne (tgt := 42) C dL_does_1 (by decide) (rg_of (by omega) (by omega)) (fun c_1 => ?_) (fun c_1 => ?_)
  · refine x_iload_n C dL_does_42 rfl 1 rfl ?_
    refine z_iconst C dL_does_43 ?_
    refine z_icmp_ne (tgt := 54) C dL_does_44 (by decide) (rg_of (by omega) (by omega)) (rg_of (by omega) (by omega)) (fun c_2 => ?_) (fun c_2 => ?_)
    · refine x_iload_n C dL_does_54 rfl 1 rfl ?_
      refine z_iconst C dL_does_55 ?_
      refine z_icmp_ne (tgt := 67) C dL_does_56 (by decide) (rg_of (by omega) (by omega)) (rg_of (by omega) (by omega)) (fun c_3 => ?_) (fun c_3 => ?_)
      · refine x_iload_n C dL_does_67 rfl 1 rfl ?_
        refine z_iconst C dL_does_68 ?_
        refine z_icmp_ne (tgt := 80) C dL_does_69 (by decide) (rg_of (by omega) (by omega)) (rg_of (by omega) (by omega)) (fun c_4 => ?_) (fun c_4 => ?_)
        · refine x_iload_n C dL_does_80 rfl 1 rfl ?_
          refine z_iconst C dL_does_81 ?_
          refine z_icmp_ne (tgt := 94) C dL_does_82 (by decide) (rg_of (by omega) (by omega)) (rg_of (by omega) (by omega)) (fun c_5 => ?_) (fun c_5 => ?_)
          · refine x_iload_n C dL_does_94 rfl 1 rfl ?_
            refine z_iconst C dL_does_95 ?_
            refine z_icmp_ne (tgt := 108) C dL_does_96 (by decide) (rg_of (by omega) (by omega)) (rg_of (by omega) (by omega)) (fun c_6 => ?_) (fun c_6 => ?_)
            · refine x_iload_n C dL_does_108 rfl 1 rfl ?_
              refine z_bipush C dL_does_109 (by decide) ?_
              refine z_icmp_ne (tgt := 122) C dL_does_111 (by decide) (rg_of (by omega) (by omega)) (rg_of (by omega) (by omega)) (fun c_7 => ?_) (fun c_7 => ?_)
              · refine x_iload_n C dL_does_122 rfl 1 rfl ?_
                refine z_bipush C dL_does_123 (by decide) ?_
                refine z_icmp_ne (tgt := 145) C dL_does_125 (by decide) (rg_of (by omega) (by omega)) (rg_of (by omega) (by omega)) (fun c_8 => ?_) (fun c_8 => ?_)
                · exfalso; omega
                · refine x_aload_n C dL_does_128 rfl 0 rfl ?_
                  refine x_iload_n C dL_does_129 rfl 2 rfl ?_
                  refine x_iload_n C dL_does_130 rfl 3 rfl ?_
                  refine x_callV (n := 2) (ci := 9) (Cn := RX8) (T := TX8) (N := 10) (cc9 := 3) (ss9 := 18) (rest := []) C dL_does_131 (c_X8_answer (kxL E) C.st G z μ a σ n x y hC hK.1 hn5 (by omega) (by omega)) gL_does_X8_answer rfl (by decide +kernel) ⟨(Nat.le_of_ble_eq_true rfl), (Nat.le_of_ble_eq_true rfl)⟩ rfl hC.ob rfl rfl (Nat.le_of_ble_eq_true rfl) rfl rfl ⟨(Nat.le_of_ble_eq_true rfl), (Nat.le_of_ble_eq_true rfl)⟩ (fun En hEn => by (rcases hEn with ⟨rfl, ht9⟩ | ⟨rfl, ht9⟩; exact x_catch (name := "java/lang/IndexOutOfBoundsException") C [⟨0, 153, 154, 72⟩] ⟨0, 153, 159, 74⟩ [⟨0, 153, 164, 76⟩, ⟨0, 153, 169, 78⟩] hT (fun y hy => by (rcases List.mem_cons.mp hy with rfl | hy; exact Or.inr ⟨by decide, "java/util/NoSuchElementException", by decide +kernel, by decide +kernel⟩; exact absurd hy List.not_mem_nil)) (by decide) (by decide) (by decide +kernel) (by decide +kernel) (fun q9 => x_astore (lv' := [(5, .ref q9), (0, .ref a), (1, .int (zI 7)), (2, .int (zI x)), (3, .int (zI y)), (4, .int (zI u))]) C dL_does_159 (by decide) rfl (z_bipush C dL_does_161 (by decide) (x_iret C R dL_does_163 (Nat.le_of_ble_eq_true rfl) (Nat.le_of_ble_eq_true rfl) ⟨_, rfl, ⟨Or.inr ⟨Or.inl ⟨ht9, rfl⟩, hC⟩, Fr.rf⟩⟩))); exact x_catch (name := "java/lang/IllegalStateException") C [⟨0, 153, 154, 72⟩, ⟨0, 153, 159, 74⟩, ⟨0, 153, 164, 76⟩] ⟨0, 153, 169, 78⟩ [] hT (fun y hy => by (rcases List.mem_cons.mp hy with rfl | hy; exact Or.inr ⟨by decide, "java/util/NoSuchElementException", by decide +kernel, by decide +kernel⟩; rcases List.mem_cons.mp hy with rfl | hy; exact Or.inr ⟨by decide, "java/lang/IndexOutOfBoundsException", by decide +kernel, by decide +kernel⟩; rcases List.mem_cons.mp hy with rfl | hy; exact Or.inr ⟨by decide, "java/lang/IllegalArgumentException", by decide +kernel, by decide +kernel⟩; exact absurd hy List.not_mem_nil)) (by decide) (by decide) (by decide +kernel) (by decide +kernel) (fun q9 => x_astore (lv' := [(5, .ref q9), (0, .ref a), (1, .int (zI 7)), (2, .int (zI x)), (3, .int (zI y)), (4, .int (zI u))]) C dL_does_169 (by decide) rfl (z_bipush C dL_does_171 (by decide) (x_iret C R dL_does_173 (Nat.le_of_ble_eq_true rfl) (Nat.le_of_ble_eq_true rfl) ⟨_, rfl, ⟨Or.inr ⟨Or.inr (⟨ht9, rfl⟩), hC⟩, Fr.rf⟩⟩))))) (fun v9 μ10 hv11 => ?_)
                  obtain ⟨r12, hw15, h13⟩ := hv11
                  subst hw15
                  obtain ⟨⟨ht9, hb9, hC⟩, hF9⟩ := h13
                  have hF16 := hF9
                  have hFr : Fr 0 2999 μ μ10 := hFr.tr hF16
                  refine x_stk (stk' := [.int (zI r12)]) rfl ?_
                  refine z_if_eq (tgt := 141) C dL_does_134 (by decide) (rg_of (by omega) (by omega)) (fun c_17 => ?_) (fun c_17 => ?_)
                  · refine z_iconst C dL_does_141 ?_
                    refine x_goto (tgt := 153) C dL_does_142 (by decide) ?_
                    exact x_iret C R dL_does_153 (Nat.le_of_ble_eq_true rfl) (Nat.le_of_ble_eq_true rfl) (⟨_, rfl, ⟨Or.inl ⟨ht9, (by omega), hC⟩, hFr⟩⟩)
                  · refine z_iconst C dL_does_137 ?_
                    refine x_goto (tgt := 153) C dL_does_138 (by decide) ?_
                    exact x_iret C R dL_does_153 (Nat.le_of_ble_eq_true rfl) (Nat.le_of_ble_eq_true rfl) (⟨_, rfl, ⟨Or.inl ⟨ht9, (by omega), hC⟩, hFr⟩⟩)
              · exfalso; omega
            · exfalso; omega
          · exfalso; omega
        · exfalso; omega
      · exfalso; omega
    · exfalso; omega
  · exfalso; omega
abbrev rm_L_does_8 : Room := { frames := 8, cells := 4, slots := 24, locals := 170 }
set_option maxHeartbeats 4000000 in
set_option maxRecDepth 100000 in
theorem c_L_does_8 (l : Launch) (hst : l.stackTraces = false) (G : GG) (z : Nat) (μ : Mm) (a : Nat) (σ : SS) (n : Nat) (x y u : Int) (hC : RepC G z μ a σ n) (hK : Kv σ n) (hn5 : n < 512) (hx : -2147483648 ≤ x ∧ x < 2147483648) (hy : -2147483648 ≤ y ∧ y < 2147483648) (hu : -2147483648 ≤ u ∧ u < 2147483648) : Ct l yL_does wsL_does rm_L_does_8 G z [.ref a, .int (zI 8), .int (zI x), .int (zI y), .int (zI u)] μ (rS (fun r9 μ' => ((t_tell σ x y u = 0 ∧ r9 = b_tell σ y u ∧ RepC G z μ' a (n_tell σ y u) (n + 1)) ∨ (((t_tell σ x y u = 1 ∧ r9 = (-11)) ∨ (t_tell σ x y u = 2 ∧ r9 = (-12)) ∨ (t_tell σ x y u = 3 ∧ r9 = (-13))) ∧ RepC G z μ' a σ n)) ∧ Fr 0 2999 μ μ')) (nX) := by
  refine ct_ofH (cc := cL_does) (maxL := 6) (ret := (some .int)) (own := RL) (hh := [(0, 153, 154, 72), (0, 153, 159, 74), (0, 153, 164, 76), (0, 153, 169, 78)]) (by decide) rfl rfl hst (Nat.le_of_ble_eq_true rfl) ?_
  intro E hLl hnm C R hT
  have hFr : Fr 0 2999 μ μ := Fr.rf
  refine x_eq (lv' := [(0, .ref a), (1, .int (zI 8)), (2, .int (zI x)), (3, .int (zI y)), (4, .int (zI u))]) rfl rfl ?_
  refine x_iload_n C dL_does_0 rfl 1 rfl ?_
  refine z_if_ne (tgt := 42) C dL_does_1 (by decide) (rg_of (by omega) (by omega)) (fun c_1 => ?_) (fun c_1 => ?_)
  · refine x_iload_n C dL_does_42 rfl 1 rfl ?_
    refine z_iconst C dL_does_43 ?_
    refine z_icmp_ne (tgt := 54) C dL_does_44 (by decide) (rg_of (by omega) (by omega)) (rg_of (by omega) (by omega)) (fun c_2 => ?_) (fun c_2 => ?_)
    · refine x_iload_n C dL_does_54 rfl 1 rfl ?_
      refine z_iconst C dL_does_55 ?_
      refine z_icmp_ne (tgt := 67) C dL_does_56 (by decide) (rg_of (by omega) (by omega)) (rg_of (by omega) (by omega)) (fun c_3 => ?_) (fun c_3 => ?_)
      · refine x_iload_n C dL_does_67 rfl 1 rfl ?_
        refine z_iconst C dL_does_68 ?_
        refine z_icmp_ne (tgt := 80) C dL_does_69 (by decide) (rg_of (by omega) (by omega)) (rg_of (by omega) (by omega)) (fun c_4 => ?_) (fun c_4 => ?_)
        · refine x_iload_n C dL_does_80 rfl 1 rfl ?_
          refine z_iconst C dL_does_81 ?_
          refine z_icmp_ne (tgt := 94) C dL_does_82 (by decide) (rg_of (by omega) (by omega)) (rg_of (by omega) (by omega)) (fun c_5 => ?_) (fun c_5 => ?_)
          · refine x_iload_n C dL_does_94 rfl 1 rfl ?_
            refine z_iconst C dL_does_95 ?_
            refine z_icmp_ne (tgt := 108) C dL_does_96 (by decide) (rg_of (by omega) (by omega)) (rg_of (by omega) (by omega)) (fun c_6 => ?_) (fun c_6 => ?_)
            · refine x_iload_n C dL_does_108 rfl 1 rfl ?_
              refine z_bipush C dL_does_109 (by decide) ?_
              refine z_icmp_ne (tgt := 122) C dL_does_111 (by decide) (rg_of (by omega) (by omega)) (rg_of (by omega) (by omega)) (fun c_7 => ?_) (fun c_7 => ?_)
              · refine x_iload_n C dL_does_122 rfl 1 rfl ?_
                refine z_bipush C dL_does_123 (by decide) ?_
                refine z_icmp_ne (tgt := 145) C dL_does_125 (by decide) (rg_of (by omega) (by omega)) (rg_of (by omega) (by omega)) (fun c_8 => ?_) (fun c_8 => ?_)
                · refine x_aload_n C dL_does_145 rfl 0 rfl ?_
                  refine x_iload_n C dL_does_146 rfl 2 rfl ?_
                  refine x_iload_n C dL_does_147 rfl 3 rfl ?_
                  refine x_iload C dL_does_148 4 rfl ?_
                  refine x_callV (n := 3) (ci := 9) (Cn := RX8) (T := TX8) (N := 10) (cc9 := 4) (ss9 := 24) (rest := []) C dL_does_150 (c_X8_tell (kxL E) C.st G z μ a σ n x y u hC hK.1 hn5 (by omega) (by omega) (by omega)) gL_does_X8_tell rfl (by decide +kernel) ⟨(Nat.le_of_ble_eq_true rfl), (Nat.le_of_ble_eq_true rfl)⟩ rfl hC.ob rfl rfl (Nat.le_of_ble_eq_true rfl) rfl rfl ⟨(Nat.le_of_ble_eq_true rfl), (Nat.le_of_ble_eq_true rfl)⟩ (fun En hEn => by (rcases hEn with ⟨rfl, ht9⟩ | ⟨rfl, ht9⟩ | ⟨rfl, ht9⟩; exact x_catch (name := "java/lang/IndexOutOfBoundsException") C [⟨0, 153, 154, 72⟩] ⟨0, 153, 159, 74⟩ [⟨0, 153, 164, 76⟩, ⟨0, 153, 169, 78⟩] hT (fun y hy => by (rcases List.mem_cons.mp hy with rfl | hy; exact Or.inr ⟨by decide, "java/util/NoSuchElementException", by decide +kernel, by decide +kernel⟩; exact absurd hy List.not_mem_nil)) (by decide) (by decide) (by decide +kernel) (by decide +kernel) (fun q9 => x_astore (lv' := [(5, .ref q9), (0, .ref a), (1, .int (zI 8)), (2, .int (zI x)), (3, .int (zI y)), (4, .int (zI u))]) C dL_does_159 (by decide) rfl (z_bipush C dL_does_161 (by decide) (x_iret C R dL_does_163 (Nat.le_of_ble_eq_true rfl) (Nat.le_of_ble_eq_true rfl) ⟨_, rfl, ⟨Or.inr ⟨Or.inl ⟨ht9, rfl⟩, hC⟩, Fr.rf⟩⟩))); exact x_catch (name := "java/lang/IllegalArgumentException") C [⟨0, 153, 154, 72⟩, ⟨0, 153, 159, 74⟩] ⟨0, 153, 164, 76⟩ [⟨0, 153, 169, 78⟩] hT (fun y hy => by (rcases List.mem_cons.mp hy with rfl | hy; exact Or.inr ⟨by decide, "java/util/NoSuchElementException", by decide +kernel, by decide +kernel⟩; rcases List.mem_cons.mp hy with rfl | hy; exact Or.inr ⟨by decide, "java/lang/IndexOutOfBoundsException", by decide +kernel, by decide +kernel⟩; exact absurd hy List.not_mem_nil)) (by decide) (by decide) (by decide +kernel) (by decide +kernel) (fun q9 => x_astore (lv' := [(5, .ref q9), (0, .ref a), (1, .int (zI 8)), (2, .int (zI x)), (3, .int (zI y)), (4, .int (zI u))]) C dL_does_164 (by decide) rfl (z_bipush C dL_does_166 (by decide) (x_iret C R dL_does_168 (Nat.le_of_ble_eq_true rfl) (Nat.le_of_ble_eq_true rfl) ⟨_, rfl, ⟨Or.inr ⟨Or.inr (Or.inl ⟨ht9, rfl⟩), hC⟩, Fr.rf⟩⟩))); exact x_catch (name := "java/lang/IllegalStateException") C [⟨0, 153, 154, 72⟩, ⟨0, 153, 159, 74⟩, ⟨0, 153, 164, 76⟩] ⟨0, 153, 169, 78⟩ [] hT (fun y hy => by (rcases List.mem_cons.mp hy with rfl | hy; exact Or.inr ⟨by decide, "java/util/NoSuchElementException", by decide +kernel, by decide +kernel⟩; rcases List.mem_cons.mp hy with rfl | hy; exact Or.inr ⟨by decide, "java/lang/IndexOutOfBoundsException", by decide +kernel, by decide +kernel⟩; rcases List.mem_cons.mp hy with rfl | hy; exact Or.inr ⟨by decide, "java/lang/IllegalArgumentException", by decide +kernel, by decide +kernel⟩; exact absurd hy List.not_mem_nil)) (by decide) (by decide) (by decide +kernel) (by decide +kernel) (fun q9 => x_astore (lv' := [(5, .ref q9), (0, .ref a), (1, .int (zI 8)), (2, .int (zI x)), (3, .int (zI y)), (4, .int (zI u))]) C dL_does_169 (by decide) rfl (z_bipush C dL_does_171 (by decide) (x_iret C R dL_does_173 (Nat.le_of_ble_eq_true rfl) (Nat.le_of_ble_eq_true rfl) ⟨_, rfl, ⟨Or.inr ⟨Or.inr (Or.inr (⟨ht9, rfl⟩)), hC⟩, Fr.rf⟩⟩))))) (fun v9 μ10 hv11 => ?_)
                  obtain ⟨r12, hw15, h13⟩ := hv11
                  subst hw15
                  obtain ⟨⟨ht9, hb9, hC⟩, hF9⟩ := h13
                  have hF16 := hF9
                  have hFr : Fr 0 2999 μ μ10 := hFr.tr hF16
                  refine x_stk (stk' := [.int (zI r12)]) rfl ?_
                  exact x_iret C R dL_does_153 (Nat.le_of_ble_eq_true rfl) (Nat.le_of_ble_eq_true rfl) (⟨_, rfl, ⟨Or.inl ⟨ht9, hb9, hC⟩, hFr⟩⟩)
                · exfalso; omega
              · exfalso; omega
            · exfalso; omega
          · exfalso; omega
        · exfalso; omega
      · exfalso; omega
    · exfalso; omega
  · exfalso; omega
