set_option maxHeartbeats 4000000 in
set_option maxRecDepth 100000 in
theorem law_setHeight {E : EE} {G : GG} {z b L : Nat} {xs : Nat → Int32} (C : Cx E G z cL_law RL wsL_law room_1 7) (hX : Sc E b L xs) {cells slots : Nat} (hcs : cells + 64 ≤ room_1.cells ∧ slots + 256 ≤ room_1.slots) {μ : Mm} {i n : Nat} (hi : i + 5 ≤ L) (hn5 : n < 512) {xa md ou : Nat} {σ : SS} {tm : Int} (hC : RepC G z μ xa σ n) (hM : RepM G μ md σ tm) (hOJ : OJx G μ ou) (hK : Kv σ n) (kk : ∀ (μ' : Mm) (σ' : SS) (tm' : Int), RepC G z μ' xa σ' (n + 1) → RepM G μ' md σ' tm' → OJx G μ' ou → Kv σ' (n + 1) → Wx E G (cells + 8) (slots + 64) 1801 [(4, .int (zI (i : Int))), (3, .ref ou), (2, .ref md), (1, .ref xa), (0, .ref b)] [] μ') : Wx E G cells slots 168 [(4, .int (zI (i : Int))), (3, .ref ou), (2, .ref md), (1, .ref xa), (0, .ref b)] [] μ := by
  have hL4 := hX.2.2.2
  have hi23 := hK.1.n23
  refine x_aload_n C dL_law_168 rfl 3 rfl ?_
  refine x_aload_n C dL_law_169 rfl 4 rfl ?_
  refine x_iload C dL_law_170 0 rfl ?_
  refine z_iconst C dL_law_172 ?_
  refine z_iadd C dL_law_173 rfl ?_
  refine z_sld C hX (i + 1) dL_law_174 (by omega) (by omega) ?_
  have hz1 := zI_rg (xs (i + 1))
  unfold rg at hz1
  refine x_aload_n C dL_law_175 rfl 4 rfl ?_
  refine x_iload C dL_law_176 0 rfl ?_
  refine z_iconst C dL_law_178 ?_
  refine z_iadd C dL_law_179 rfl ?_
  refine z_sld C hX (i + 2) dL_law_180 (by omega) (by omega) ?_
  have hz2 := zI_rg (xs (i + 2))
  unfold rg at hz2
  refine x_aload_n C dL_law_181 rfl 1 rfl ?_
  refine x_callSX (n := 4) (cc9 := cells + 2) (ss9 := slots + 12) (rest := []) C dL_law_182 (c_L_setHeight (kxL E) C.st G z μ xa md ou σ n tm ((xs (i + 1)).toInt) ((xs (i + 2)).toInt) hC hM hOJ hK hn5 (by omega) (by omega)) gL_law_L_setHeight rfl (by decide +kernel) ⟨(Nat.le_of_ble_eq_true rfl), (Nat.le_of_ble_eq_true rfl)⟩ rfl rfl (Nat.le_of_ble_eq_true rfl) rfl rfl ⟨by omega, by omega⟩ nX_no (fun v3 μ4 hv5 => ?_)
  obtain ⟨r6, hw7, hM, hcase⟩ := hv5
  subst hw7
  have htr : 0 ≤ t_setHeight ((xs (i + 1)).toInt) ((xs (i + 2)).toInt) ∧ t_setHeight ((xs (i + 1)).toInt) ((xs (i + 2)).toInt) ≤ 3 := by (unfold t_setHeight; (repeat split) <;> omega)
  rcases hcase with ⟨hk0, ht0, hC, hOJ⟩ | ⟨ht, hk, hC, hOJ⟩
  · refine x_stk (stk' := [.int (zI 0)]) (by rw [hk0]; rfl) ?_
    refine x_istore (lv' := [(5, .int (zI 0)), (4, .int (zI (i : Int))), (3, .ref ou), (2, .ref md), (1, .ref xa), (0, .ref b)]) C dL_law_185 (by decide) rfl ?_
    refine x_aload_n C dL_law_187 rfl 3 rfl ?_
    refine x_aload_n C dL_law_188 rfl 5 rfl ?_
    refine x_iload C dL_law_189 1 rfl ?_
    refine z_iconst C dL_law_191 ?_
    refine z_iadd C dL_law_192 rfl ?_
    refine z_sld C hX (i + 1) dL_law_193 (by omega) (by omega) ?_
    refine x_aload_n C dL_law_194 rfl 5 rfl ?_
    refine x_iload C dL_law_195 1 rfl ?_
    refine z_iconst C dL_law_197 ?_
    refine z_iadd C dL_law_198 rfl ?_
    refine z_sld C hX (i + 2) dL_law_199 (by omega) (by omega) ?_
    obtain ⟨fo9, cm9, Ci9, Su9, A9, hY9⟩ := hM
    refine x_callV (n := 2) (ci := 10) (Cn := RX9) (T := TX9) (N := 29) (cc9 := cells + 2) (ss9 := slots + 12) (rest := []) C dL_law_200 (c_X9_setHeight (kxL E) C.st G z μ4 _ σ n _ _ _ _ _ _ ((xs (i + 1)).toInt) ((xs (i + 2)).toInt) hY9 hK.1 (by omega) (by omega) (by omega)) gL_law_X9_setHeight rfl (by decide +kernel) ⟨(Nat.le_of_ble_eq_true rfl), (Nat.le_of_ble_eq_true rfl)⟩ rfl hY9.ob rfl rfl (Nat.le_of_ble_eq_true rfl) rfl rfl ⟨by omega, by omega⟩ nX_no (fun v8 μ9 hv10 => ?_)
    obtain ⟨r11, hw13, hmr, hF9⟩ := hv10
    subst hw13
    have hC : RepC G z μ9 xa (n_setHeight σ ((xs (i + 1)).toInt).toNat ((xs (i + 2)).toInt)) n := hF9.repc hC
    have hOJ : OJ G μ9 ou ((zI (b_setHeight σ ((xs (i + 1)).toInt).toNat ((xs (i + 2)).toInt) (σ 7 0).toNat)).toInt64) := hF9.oj hOJ
    obtain ⟨hr6, hM⟩ : r11 = b_setHeight σ ((xs (i + 1)).toInt).toNat ((xs (i + 2)).toInt) (σ 7 0).toNat ∧ RepM G μ9 md (n_setHeight σ ((xs (i + 1)).toInt).toNat ((xs (i + 2)).toInt)) 0 := by (rcases hmr with ⟨a1, a2, a3⟩ | ⟨a1, a2⟩; exact ⟨a2, a3⟩; exact absurd ht0 a1)
    refine x_stk (stk' := [.int (zI r11)]) rfl ?_
    refine x_istore (lv' := [(6, .int (zI r11)), (5, .int (zI 0)), (4, .int (zI (i : Int))), (3, .ref ou), (2, .ref md), (1, .ref xa), (0, .ref b)]) C dL_law_203 (by decide) rfl ?_
    refine x_aload_n C dL_law_205 rfl 4 rfl ?_
    have hM0 := hM
    obtain ⟨fo9, cm9, Ci9, Su9, A9, hY9⟩ := hM
    refine x_callV (n := 0) (ci := 10) (Cn := RX9) (T := TX9) (N := 29) (cc9 := cells + 2) (ss9 := slots + 12) (rest := []) C dL_law_206 (c_X9_thrown (kxL E) C.st G z μ9 _ _ n _ _ _ _ _ _ hY9) gL_law_X9_thrown rfl (by decide +kernel) ⟨(Nat.le_of_ble_eq_true rfl), (Nat.le_of_ble_eq_true rfl)⟩ rfl hY9.ob rfl rfl (Nat.le_of_ble_eq_true rfl) rfl rfl ⟨by omega, by omega⟩ nX_no (fun v14 μ15 hv16 => ?_)
    obtain ⟨r17, hw20, h18, hm19⟩ := hv16
    subst hw20
    rw [hm19]
    have hM := hM0
    refine x_stk (stk' := [.int (zI 0)]) (by rw [h18]; rfl) ?_
    refine x_iload C dL_law_209 1 rfl ?_
    refine z_icmp_eq (tgt := 216) C dL_law_211 (by decide) (rg_of (by omega) (by omega)) (rg_of (by omega) (by omega)) (fun c_21 => ?_) (fun c_21 => ?_)
    · refine x_iload C dL_law_216 1 rfl ?_
      refine z_if_ne (tgt := 233) C dL_law_218 (by decide) (rg_of (by omega) (by omega)) (fun c_22 => ?_) (fun c_22 => ?_)
      · exfalso; omega
      · refine x_aload_n C dL_law_221 rfl 3 rfl ?_
        refine z_iconst C dL_law_222 ?_
        refine z_lald C dL_law_223 hOJ ?_
        refine x_iload C dL_law_224 0 rfl ?_
        refine z_i2l C dL_law_226 ?_
        refine z_lsame C dL_law_227 (by rw [hr6]) ?_
        refine x_stk (stk' := [.int (zI 0)]) rfl ?_
        refine z_if_eq (tgt := 233) C dL_law_228 (by decide) (rg_of (by omega) (by omega)) (fun c_23 => ?_) (fun c_23 => ?_)
        · refine x_goto (tgt := 1801) C dL_law_233 (by decide) ?_
          refine x_sub (lv' := [(4, .int (zI (i : Int))), (3, .ref ou), (2, .ref md), (1, .ref xa), (0, .ref b)]) [2, 3, 4, 5, 6] rfl ?_
          exact x_wid (by omega) (by omega) (kk _ _ _ hC.mono hM hOJ.x (Kv_setHeight hK ht0))
        · exfalso; omega
    · exfalso; omega
  · refine x_stk (stk' := [.int (zI (t_setHeight ((xs (i + 1)).toInt) ((xs (i + 2)).toInt)))]) (by rw [hk]; rfl) ?_
    refine x_istore (lv' := [(5, .int (zI (t_setHeight ((xs (i + 1)).toInt) ((xs (i + 2)).toInt)))), (4, .int (zI (i : Int))), (3, .ref ou), (2, .ref md), (1, .ref xa), (0, .ref b)]) C dL_law_185 (by decide) rfl ?_
    refine x_aload_n C dL_law_187 rfl 3 rfl ?_
    refine x_aload_n C dL_law_188 rfl 5 rfl ?_
    refine x_iload C dL_law_189 1 rfl ?_
    refine z_iconst C dL_law_191 ?_
    refine z_iadd C dL_law_192 rfl ?_
    refine z_sld C hX (i + 1) dL_law_193 (by omega) (by omega) ?_
    refine x_aload_n C dL_law_194 rfl 5 rfl ?_
    refine x_iload C dL_law_195 1 rfl ?_
    refine z_iconst C dL_law_197 ?_
    refine z_iadd C dL_law_198 rfl ?_
    refine z_sld C hX (i + 2) dL_law_199 (by omega) (by omega) ?_
    obtain ⟨fo9, cm9, Ci9, Su9, A9, hY9⟩ := hM
    refine x_callV (n := 2) (ci := 10) (Cn := RX9) (T := TX9) (N := 29) (cc9 := cells + 2) (ss9 := slots + 12) (rest := []) C dL_law_200 (c_X9_setHeight (kxL E) C.st G z μ4 _ σ n _ _ _ _ _ _ ((xs (i + 1)).toInt) ((xs (i + 2)).toInt) hY9 hK.1 (by omega) (by omega) (by omega)) gL_law_X9_setHeight rfl (by decide +kernel) ⟨(Nat.le_of_ble_eq_true rfl), (Nat.le_of_ble_eq_true rfl)⟩ rfl hY9.ob rfl rfl (Nat.le_of_ble_eq_true rfl) rfl rfl ⟨by omega, by omega⟩ nX_no (fun v24 μ25 hv26 => ?_)
    obtain ⟨r27, hw29, hmr, hF9⟩ := hv26
    subst hw29
    have hC : RepC G z μ25 xa σ n := hF9.repc hC
    have hOJ : OJx G μ25 ou := hF9.ojx hOJ
    have hM : RepM G μ25 md σ (t_setHeight ((xs (i + 1)).toInt) ((xs (i + 2)).toInt)) := by (rcases hmr with ⟨a1, a2, a3⟩ | ⟨a1, a2⟩; exact absurd a1 ht; exact a2)
    refine x_stk (stk' := [.int (zI r27)]) rfl ?_
    refine x_istore (lv' := [(6, .int (zI r27)), (5, .int (zI (t_setHeight ((xs (i + 1)).toInt) ((xs (i + 2)).toInt)))), (4, .int (zI (i : Int))), (3, .ref ou), (2, .ref md), (1, .ref xa), (0, .ref b)]) C dL_law_203 (by decide) rfl ?_
    refine x_aload_n C dL_law_205 rfl 4 rfl ?_
    have hM0 := hM
    obtain ⟨fo9, cm9, Ci9, Su9, A9, hY9⟩ := hM
    refine x_callV (n := 0) (ci := 10) (Cn := RX9) (T := TX9) (N := 29) (cc9 := cells + 2) (ss9 := slots + 12) (rest := []) C dL_law_206 (c_X9_thrown (kxL E) C.st G z μ25 _ _ n _ _ _ _ _ _ hY9) gL_law_X9_thrown rfl (by decide +kernel) ⟨(Nat.le_of_ble_eq_true rfl), (Nat.le_of_ble_eq_true rfl)⟩ rfl hY9.ob rfl rfl (Nat.le_of_ble_eq_true rfl) rfl rfl ⟨by omega, by omega⟩ nX_no (fun v30 μ31 hv32 => ?_)
    obtain ⟨r33, hw36, h34, hm35⟩ := hv32
    subst hw36
    rw [hm35]
    have hM := hM0
    refine x_stk (stk' := [.int (zI (t_setHeight ((xs (i + 1)).toInt) ((xs (i + 2)).toInt)))]) (by rw [h34]; rfl) ?_
    refine x_iload C dL_law_209 1 rfl ?_
    refine z_icmp_eq (tgt := 216) C dL_law_211 (by decide) (rg_of (by omega) (by omega)) (rg_of (by omega) (by omega)) (fun c_37 => ?_) (fun c_37 => ?_)
    · refine x_iload C dL_law_216 1 rfl ?_
      refine z_if_ne (tgt := 233) C dL_law_218 (by decide) (rg_of (by omega) (by omega)) (fun c_38 => ?_) (fun c_38 => ?_)
      · refine x_goto (tgt := 1801) C dL_law_233 (by decide) ?_
        refine x_sub (lv' := [(4, .int (zI (i : Int))), (3, .ref ou), (2, .ref md), (1, .ref xa), (0, .ref b)]) [2, 3, 4, 5, 6] rfl ?_
        exact x_wid (by omega) (by omega) (kk _ _ _ hC.mono hM hOJ hK.mono)
      · exfalso; omega
    · refine z_iconst C dL_law_214 ?_
      exfalso; omega
set_option maxHeartbeats 4000000 in
set_option maxRecDepth 100000 in
theorem law_close {E : EE} {G : GG} {z b L : Nat} {xs : Nat → Int32} (C : Cx E G z cL_law RL wsL_law room_1 7) (hX : Sc E b L xs) {cells slots : Nat} (hcs : cells + 64 ≤ room_1.cells ∧ slots + 256 ≤ room_1.slots) {μ : Mm} {i n : Nat} (hi : i + 5 ≤ L) (hn5 : n < 512) {xa md ou : Nat} {σ : SS} {tm : Int} (hC : RepC G z μ xa σ n) (hM : RepM G μ md σ tm) (hOJ : OJx G μ ou) (hK : Kv σ n) (kk : ∀ (μ' : Mm) (σ' : SS) (tm' : Int), RepC G z μ' xa σ' (n + 1) → RepM G μ' md σ' tm' → OJx G μ' ou → Kv σ' (n + 1) → Wx E G (cells + 8) (slots + 64) 1801 [(4, .int (zI (i : Int))), (3, .ref ou), (2, .ref md), (1, .ref xa), (0, .ref b)] [] μ') : Wx E G cells slots 236 [(4, .int (zI (i : Int))), (3, .ref ou), (2, .ref md), (1, .ref xa), (0, .ref b)] [] μ := by
  have hL4 := hX.2.2.2
  have hi23 := hK.1.n23
  refine x_aload_n C dL_law_236 rfl 3 rfl ?_
  refine x_aload_n C dL_law_237 rfl 4 rfl ?_
  refine x_iload C dL_law_238 0 rfl ?_
  refine z_iconst C dL_law_240 ?_
  refine z_iadd C dL_law_241 rfl ?_
  refine z_sld C hX (i + 1) dL_law_242 (by omega) (by omega) ?_
  have hz1 := zI_rg (xs (i + 1))
  unfold rg at hz1
  refine x_aload_n C dL_law_243 rfl 1 rfl ?_
  refine x_callSX (n := 3) (cc9 := cells + 1) (ss9 := slots + 6) (rest := []) C dL_law_244 (c_L_close (kxL E) C.st G z μ xa md ou σ n tm ((xs (i + 1)).toInt) hC hM hOJ hK hn5 (by omega)) gL_law_L_close rfl (by decide +kernel) ⟨(Nat.le_of_ble_eq_true rfl), (Nat.le_of_ble_eq_true rfl)⟩ rfl rfl (Nat.le_of_ble_eq_true rfl) rfl rfl ⟨by omega, by omega⟩ nX_no (fun v2 μ3 hv4 => ?_)
  obtain ⟨r5, hw6, hM, hcase⟩ := hv4
  subst hw6
  have htr : 0 ≤ t_p ((xs (i + 1)).toInt) ∧ t_p ((xs (i + 1)).toInt) ≤ 3 := by (unfold t_p; (repeat split) <;> omega)
  rcases hcase with ⟨hk0, ht0, hC, hOJ⟩ | ⟨ht, hk, hC, hOJ⟩
  · refine x_stk (stk' := [.int (zI 0)]) (by rw [hk0]; rfl) ?_
    refine x_istore (lv' := [(5, .int (zI 0)), (4, .int (zI (i : Int))), (3, .ref ou), (2, .ref md), (1, .ref xa), (0, .ref b)]) C dL_law_247 (by decide) rfl ?_
    refine x_aload_n C dL_law_249 rfl 3 rfl ?_
    refine x_aload_n C dL_law_250 rfl 5 rfl ?_
    refine x_iload C dL_law_251 1 rfl ?_
    refine z_iconst C dL_law_253 ?_
    refine z_iadd C dL_law_254 rfl ?_
    refine z_sld C hX (i + 1) dL_law_255 (by omega) (by omega) ?_
    obtain ⟨fo9, cm9, Ci9, Su9, A9, hY9⟩ := hM
    refine x_callV (n := 1) (ci := 10) (Cn := RX9) (T := TX9) (N := 29) (cc9 := cells + 1) (ss9 := slots + 6) (rest := []) C dL_law_256 (c_X9_close (kxL E) C.st G z μ3 _ σ n _ _ _ _ _ _ ((xs (i + 1)).toInt) hY9 hK.1 (by omega)) gL_law_X9_close rfl (by decide +kernel) ⟨(Nat.le_of_ble_eq_true rfl), (Nat.le_of_ble_eq_true rfl)⟩ rfl hY9.ob rfl rfl (Nat.le_of_ble_eq_true rfl) rfl rfl ⟨by omega, by omega⟩ nX_no (fun v7 μ8 hv9 => ?_)
    obtain ⟨r10, hw12, hmr, hF9⟩ := hv9
    subst hw12
    have hC : RepC G z μ8 xa (n_close σ ((xs (i + 1)).toInt)) n := hF9.repc hC
    have hOJ : OJ G μ8 ou (bJ (1 - σ 1 ((xs (i + 1)).toInt).toNat)) := hF9.oj hOJ
    obtain ⟨hr6, hM⟩ : r10 = 1 - σ 1 ((xs (i + 1)).toInt).toNat ∧ RepM G μ8 md (n_close σ ((xs (i + 1)).toInt)) 0 := by (rcases hmr with ⟨a1, a2, a3⟩ | ⟨a1, a2⟩; exact ⟨a2, a3⟩; exact absurd ht0 a1)
    have hq9 := ht0
    unfold t_p at hq9
    have hbq : 0 ≤ ((xs (i + 1)).toInt) ∧ ((xs (i + 1)).toInt) < 64 := by (split at hq9 <;> omega)
    have hbr := hK.1.r1 (((xs (i + 1)).toInt)).toNat (by omega)
    refine x_stk (stk' := [.int (zI r10)]) rfl ?_
    refine x_istore (lv' := [(6, .int (zI r10)), (5, .int (zI 0)), (4, .int (zI (i : Int))), (3, .ref ou), (2, .ref md), (1, .ref xa), (0, .ref b)]) C dL_law_259 (by decide) rfl ?_
    refine x_aload_n C dL_law_261 rfl 4 rfl ?_
    have hM0 := hM
    obtain ⟨fo9, cm9, Ci9, Su9, A9, hY9⟩ := hM
    refine x_callV (n := 0) (ci := 10) (Cn := RX9) (T := TX9) (N := 29) (cc9 := cells + 1) (ss9 := slots + 6) (rest := []) C dL_law_262 (c_X9_thrown (kxL E) C.st G z μ8 _ _ n _ _ _ _ _ _ hY9) gL_law_X9_thrown rfl (by decide +kernel) ⟨(Nat.le_of_ble_eq_true rfl), (Nat.le_of_ble_eq_true rfl)⟩ rfl hY9.ob rfl rfl (Nat.le_of_ble_eq_true rfl) rfl rfl ⟨by omega, by omega⟩ nX_no (fun v13 μ14 hv15 => ?_)
    obtain ⟨r16, hw19, h17, hm18⟩ := hv15
    subst hw19
    rw [hm18]
    have hM := hM0
    refine x_stk (stk' := [.int (zI 0)]) (by rw [h17]; rfl) ?_
    refine x_iload C dL_law_265 1 rfl ?_
    refine z_icmp_eq (tgt := 272) C dL_law_267 (by decide) (rg_of (by omega) (by omega)) (rg_of (by omega) (by omega)) (fun c_20 => ?_) (fun c_20 => ?_)
    · refine x_iload C dL_law_272 1 rfl ?_
      refine z_if_ne (tgt := 296) C dL_law_274 (by decide) (rg_of (by omega) (by omega)) (fun c_21 => ?_) (fun c_21 => ?_)
      · exfalso; omega
      · refine x_aload_n C dL_law_277 rfl 3 rfl ?_
        refine z_iconst C dL_law_278 ?_
        refine z_lald C dL_law_279 hOJ ?_
        refine x_iload C dL_law_280 0 rfl ?_
        refine z_if_eq (tgt := 289) C dL_law_282 (by decide) (rg_of (by omega) (by omega)) (fun c_22 => ?_) (fun c_22 => ?_)
        · refine x_lconst (v := (0 : Int64)) C dL_law_289 rfl ?_
          refine z_lsame C dL_law_290 (by first | exact bJ0 (by omega) | exact bJ1 (by omega)) ?_
          refine x_stk (stk' := [.int (zI 0)]) rfl ?_
          refine z_if_eq (tgt := 296) C dL_law_291 (by decide) (rg_of (by omega) (by omega)) (fun c_23 => ?_) (fun c_23 => ?_)
          · refine x_goto (tgt := 1801) C dL_law_296 (by decide) ?_
            refine x_sub (lv' := [(4, .int (zI (i : Int))), (3, .ref ou), (2, .ref md), (1, .ref xa), (0, .ref b)]) [2, 3, 4, 5, 6] rfl ?_
            exact x_wid (by omega) (by omega) (kk _ _ _ hC.mono hM hOJ.x (Kv_close hK ht0).mono)
          · exfalso; omega
        · refine x_lconst (v := (1 : Int64)) C dL_law_285 rfl ?_
          refine x_goto (tgt := 290) C dL_law_286 (by decide) ?_
          refine z_lsame C dL_law_290 (by first | exact bJ0 (by omega) | exact bJ1 (by omega)) ?_
          refine x_stk (stk' := [.int (zI 0)]) rfl ?_
          refine z_if_eq (tgt := 296) C dL_law_291 (by decide) (rg_of (by omega) (by omega)) (fun c_24 => ?_) (fun c_24 => ?_)
          · refine x_goto (tgt := 1801) C dL_law_296 (by decide) ?_
            refine x_sub (lv' := [(4, .int (zI (i : Int))), (3, .ref ou), (2, .ref md), (1, .ref xa), (0, .ref b)]) [2, 3, 4, 5, 6] rfl ?_
            exact x_wid (by omega) (by omega) (kk _ _ _ hC.mono hM hOJ.x (Kv_close hK ht0).mono)
          · exfalso; omega
    · exfalso; omega
  · refine x_stk (stk' := [.int (zI (t_p ((xs (i + 1)).toInt)))]) (by rw [hk]; rfl) ?_
    refine x_istore (lv' := [(5, .int (zI (t_p ((xs (i + 1)).toInt)))), (4, .int (zI (i : Int))), (3, .ref ou), (2, .ref md), (1, .ref xa), (0, .ref b)]) C dL_law_247 (by decide) rfl ?_
    refine x_aload_n C dL_law_249 rfl 3 rfl ?_
    refine x_aload_n C dL_law_250 rfl 5 rfl ?_
    refine x_iload C dL_law_251 1 rfl ?_
    refine z_iconst C dL_law_253 ?_
    refine z_iadd C dL_law_254 rfl ?_
    refine z_sld C hX (i + 1) dL_law_255 (by omega) (by omega) ?_
    obtain ⟨fo9, cm9, Ci9, Su9, A9, hY9⟩ := hM
    refine x_callV (n := 1) (ci := 10) (Cn := RX9) (T := TX9) (N := 29) (cc9 := cells + 1) (ss9 := slots + 6) (rest := []) C dL_law_256 (c_X9_close (kxL E) C.st G z μ3 _ σ n _ _ _ _ _ _ ((xs (i + 1)).toInt) hY9 hK.1 (by omega)) gL_law_X9_close rfl (by decide +kernel) ⟨(Nat.le_of_ble_eq_true rfl), (Nat.le_of_ble_eq_true rfl)⟩ rfl hY9.ob rfl rfl (Nat.le_of_ble_eq_true rfl) rfl rfl ⟨by omega, by omega⟩ nX_no (fun v25 μ26 hv27 => ?_)
    obtain ⟨r28, hw30, hmr, hF9⟩ := hv27
    subst hw30
    have hC : RepC G z μ26 xa σ n := hF9.repc hC
    have hOJ : OJx G μ26 ou := hF9.ojx hOJ
    have hM : RepM G μ26 md σ (t_p ((xs (i + 1)).toInt)) := by (rcases hmr with ⟨a1, a2, a3⟩ | ⟨a1, a2⟩; exact absurd a1 ht; exact a2)
    refine x_stk (stk' := [.int (zI r28)]) rfl ?_
    refine x_istore (lv' := [(6, .int (zI r28)), (5, .int (zI (t_p ((xs (i + 1)).toInt)))), (4, .int (zI (i : Int))), (3, .ref ou), (2, .ref md), (1, .ref xa), (0, .ref b)]) C dL_law_259 (by decide) rfl ?_
    refine x_aload_n C dL_law_261 rfl 4 rfl ?_
    have hM0 := hM
    obtain ⟨fo9, cm9, Ci9, Su9, A9, hY9⟩ := hM
    refine x_callV (n := 0) (ci := 10) (Cn := RX9) (T := TX9) (N := 29) (cc9 := cells + 1) (ss9 := slots + 6) (rest := []) C dL_law_262 (c_X9_thrown (kxL E) C.st G z μ26 _ _ n _ _ _ _ _ _ hY9) gL_law_X9_thrown rfl (by decide +kernel) ⟨(Nat.le_of_ble_eq_true rfl), (Nat.le_of_ble_eq_true rfl)⟩ rfl hY9.ob rfl rfl (Nat.le_of_ble_eq_true rfl) rfl rfl ⟨by omega, by omega⟩ nX_no (fun v31 μ32 hv33 => ?_)
    obtain ⟨r34, hw37, h35, hm36⟩ := hv33
    subst hw37
    rw [hm36]
    have hM := hM0
    refine x_stk (stk' := [.int (zI (t_p ((xs (i + 1)).toInt)))]) (by rw [h35]; rfl) ?_
    refine x_iload C dL_law_265 1 rfl ?_
    refine z_icmp_eq (tgt := 272) C dL_law_267 (by decide) (rg_of (by omega) (by omega)) (rg_of (by omega) (by omega)) (fun c_38 => ?_) (fun c_38 => ?_)
    · refine x_iload C dL_law_272 1 rfl ?_
      refine z_if_ne (tgt := 296) C dL_law_274 (by decide) (rg_of (by omega) (by omega)) (fun c_39 => ?_) (fun c_39 => ?_)
      · refine x_goto (tgt := 1801) C dL_law_296 (by decide) ?_
        refine x_sub (lv' := [(4, .int (zI (i : Int))), (3, .ref ou), (2, .ref md), (1, .ref xa), (0, .ref b)]) [2, 3, 4, 5, 6] rfl ?_
        exact x_wid (by omega) (by omega) (kk _ _ _ hC.mono hM hOJ hK.mono)
      · exfalso; omega
    · refine z_iconst C dL_law_270 ?_
      exfalso; omega
set_option maxHeartbeats 4000000 in
set_option maxRecDepth 100000 in
theorem law_hint {E : EE} {G : GG} {z b L : Nat} {xs : Nat → Int32} (C : Cx E G z cL_law RL wsL_law room_1 7) (hX : Sc E b L xs) {cells slots : Nat} (hcs : cells + 64 ≤ room_1.cells ∧ slots + 256 ≤ room_1.slots) {μ : Mm} {i n : Nat} (hi : i + 5 ≤ L) (hn5 : n < 512) {xa md ou : Nat} {σ : SS} {tm : Int} (hC : RepC G z μ xa σ n) (hM : RepM G μ md σ tm) (hOJ : OJx G μ ou) (hK : Kv σ n) (kk : ∀ (μ' : Mm) (σ' : SS) (tm' : Int), RepC G z μ' xa σ' (n + 1) → RepM G μ' md σ' tm' → OJx G μ' ou → Kv σ' (n + 1) → Wx E G (cells + 8) (slots + 64) 1801 [(4, .int (zI (i : Int))), (3, .ref ou), (2, .ref md), (1, .ref xa), (0, .ref b)] [] μ') : Wx E G cells slots 299 [(4, .int (zI (i : Int))), (3, .ref ou), (2, .ref md), (1, .ref xa), (0, .ref b)] [] μ := by
  have hL4 := hX.2.2.2
  have hi23 := hK.1.n23
  refine x_aload_n C dL_law_299 rfl 3 rfl ?_
  refine x_aload_n C dL_law_300 rfl 4 rfl ?_
  refine x_iload C dL_law_301 0 rfl ?_
  refine z_iconst C dL_law_303 ?_
  refine z_iadd C dL_law_304 rfl ?_
  refine z_sld C hX (i + 1) dL_law_305 (by omega) (by omega) ?_
  have hz1 := zI_rg (xs (i + 1))
  unfold rg at hz1
  refine x_aload_n C dL_law_306 rfl 4 rfl ?_
  refine x_iload C dL_law_307 0 rfl ?_
  refine z_iconst C dL_law_309 ?_
  refine z_iadd C dL_law_310 rfl ?_
  refine z_sld C hX (i + 2) dL_law_311 (by omega) (by omega) ?_
  have hz2 := zI_rg (xs (i + 2))
  unfold rg at hz2
  refine x_aload_n C dL_law_312 rfl 4 rfl ?_
  refine x_iload C dL_law_313 0 rfl ?_
  refine z_iconst C dL_law_315 ?_
  refine z_iadd C dL_law_316 rfl ?_
  refine z_sld C hX (i + 3) dL_law_317 (by omega) (by omega) ?_
  have hz3 := zI_rg (xs (i + 3))
  unfold rg at hz3
  refine x_aload_n C dL_law_318 rfl 4 rfl ?_
  refine x_iload C dL_law_319 0 rfl ?_
  refine z_iconst C dL_law_321 ?_
  refine z_iadd C dL_law_322 rfl ?_
  refine z_sld C hX (i + 4) dL_law_323 (by omega) (by omega) ?_
  have hz4 := zI_rg (xs (i + 4))
  unfold rg at hz4
  refine z_if_eq (tgt := 331) C dL_law_324 (by decide) (rg_of (by omega) (by omega)) (fun c_5 => ?_) (fun c_5 => ?_)
  · refine z_iconst C dL_law_331 ?_
    refine x_aload_n C dL_law_332 rfl 1 rfl ?_
    refine x_callSX (n := 6) (cc9 := cells + 3) (ss9 := slots + 21) (rest := []) C dL_law_333 (c_L_hint (kxL E) C.st G z μ xa md ou σ n tm ((xs (i + 1)).toInt) ((xs (i + 2)).toInt) ((xs (i + 3)).toInt) 0 hC hM hOJ hK hn5 (by omega) (by omega) (by omega) (by omega)) gL_law_L_hint rfl (by decide +kernel) ⟨(Nat.le_of_ble_eq_true rfl), (Nat.le_of_ble_eq_true rfl)⟩ rfl rfl (Nat.le_of_ble_eq_true rfl) rfl rfl ⟨by omega, by omega⟩ nX_no (fun v6 μ7 hv8 => ?_)
    obtain ⟨r9, hw10, hM, hcase⟩ := hv8
    subst hw10
    have htr : 0 ≤ t_hint σ ((xs (i + 1)).toInt) ((xs (i + 2)).toInt) ((xs (i + 3)).toInt) ∧ t_hint σ ((xs (i + 1)).toInt) ((xs (i + 2)).toInt) ((xs (i + 3)).toInt) ≤ 3 := by (unfold t_hint; (repeat split) <;> omega)
    rcases hcase with ⟨hk0, ht0, hC, hOJ⟩ | ⟨ht, hk, hC, hOJ⟩
    · refine x_stk (stk' := [.int (zI 0)]) (by rw [hk0]; rfl) ?_
      refine x_istore (lv' := [(5, .int (zI 0)), (4, .int (zI (i : Int))), (3, .ref ou), (2, .ref md), (1, .ref xa), (0, .ref b)]) C dL_law_336 (by decide) rfl ?_
      refine x_aload_n C dL_law_338 rfl 3 rfl ?_
      refine x_aload_n C dL_law_339 rfl 5 rfl ?_
      refine x_iload C dL_law_340 1 rfl ?_
      refine z_iconst C dL_law_342 ?_
      refine z_iadd C dL_law_343 rfl ?_
      refine z_sld C hX (i + 1) dL_law_344 (by omega) (by omega) ?_
      refine x_aload_n C dL_law_345 rfl 5 rfl ?_
      refine x_iload C dL_law_346 1 rfl ?_
      refine z_iconst C dL_law_348 ?_
      refine z_iadd C dL_law_349 rfl ?_
      refine z_sld C hX (i + 2) dL_law_350 (by omega) (by omega) ?_
      refine x_aload_n C dL_law_351 rfl 5 rfl ?_
      refine x_iload C dL_law_352 1 rfl ?_
      refine z_iconst C dL_law_354 ?_
      refine z_iadd C dL_law_355 rfl ?_
      refine z_sld C hX (i + 3) dL_law_356 (by omega) (by omega) ?_
      refine x_aload_n C dL_law_357 rfl 5 rfl ?_
      refine x_iload C dL_law_358 1 rfl ?_
      refine z_iconst C dL_law_360 ?_
      refine z_iadd C dL_law_361 rfl ?_
      refine z_sld C hX (i + 4) dL_law_362 (by omega) (by omega) ?_
      refine z_if_eq (tgt := 370) C dL_law_363 (by decide) (rg_of (by omega) (by omega)) (fun c_11 => ?_) (fun c_11 => ?_)
      · refine z_iconst C dL_law_370 ?_
        obtain ⟨fo9, cm9, Ci9, Su9, A9, hY9⟩ := hM
        refine x_callV (n := 4) (ci := 10) (Cn := RX9) (T := TX9) (N := 29) (cc9 := cells + 3) (ss9 := slots + 21) (rest := []) C dL_law_371 (c_X9_hint (kxL E) C.st G z μ7 _ σ n _ _ _ _ _ _ ((xs (i + 1)).toInt) ((xs (i + 2)).toInt) ((xs (i + 3)).toInt) 0 hY9 hK.1 (by omega) (by omega) (by omega) (by omega)) gL_law_X9_hint rfl (by decide +kernel) ⟨(Nat.le_of_ble_eq_true rfl), (Nat.le_of_ble_eq_true rfl)⟩ rfl hY9.ob rfl rfl (Nat.le_of_ble_eq_true rfl) rfl rfl ⟨by omega, by omega⟩ nX_no (fun v12 μ13 hv14 => ?_)
        obtain ⟨r15, hw17, hmr, hF9⟩ := hv14
        subst hw17
        have hC : RepC G z μ13 xa (n_hint σ ((xs (i + 1)).toInt) ((xs (i + 2)).toInt) ((xs (i + 3)).toInt) 0) n := hF9.repc hC
        have hOJ : OJ G μ13 ou ((zI (b_fits (n_hint σ ((xs (i + 1)).toInt) ((xs (i + 2)).toInt) ((xs (i + 3)).toInt) 0) 0)).toInt64) := hF9.oj hOJ
        obtain ⟨hr6, hM⟩ : r15 = b_fits (n_hint σ ((xs (i + 1)).toInt) ((xs (i + 2)).toInt) ((xs (i + 3)).toInt) 0) 0 ∧ RepM G μ13 md (n_hint σ ((xs (i + 1)).toInt) ((xs (i + 2)).toInt) ((xs (i + 3)).toInt) 0) 0 := by (rcases hmr with ⟨a1, a2, a3⟩ | ⟨a1, a2⟩; exact ⟨a2, a3⟩; exact absurd ht0 a1)
        refine x_stk (stk' := [.int (zI r15)]) rfl ?_
        refine x_istore (lv' := [(6, .int (zI r15)), (5, .int (zI 0)), (4, .int (zI (i : Int))), (3, .ref ou), (2, .ref md), (1, .ref xa), (0, .ref b)]) C dL_law_374 (by decide) rfl ?_
        refine x_aload_n C dL_law_376 rfl 4 rfl ?_
        have hM0 := hM
        obtain ⟨fo9, cm9, Ci9, Su9, A9, hY9⟩ := hM
        refine x_callV (n := 0) (ci := 10) (Cn := RX9) (T := TX9) (N := 29) (cc9 := cells + 3) (ss9 := slots + 21) (rest := []) C dL_law_377 (c_X9_thrown (kxL E) C.st G z μ13 _ _ n _ _ _ _ _ _ hY9) gL_law_X9_thrown rfl (by decide +kernel) ⟨(Nat.le_of_ble_eq_true rfl), (Nat.le_of_ble_eq_true rfl)⟩ rfl hY9.ob rfl rfl (Nat.le_of_ble_eq_true rfl) rfl rfl ⟨by omega, by omega⟩ nX_no (fun v18 μ19 hv20 => ?_)
        obtain ⟨r21, hw24, h22, hm23⟩ := hv20
        subst hw24
        rw [hm23]
        have hM := hM0
        refine x_stk (stk' := [.int (zI 0)]) (by rw [h22]; rfl) ?_
        refine x_iload C dL_law_380 1 rfl ?_
        refine z_icmp_eq (tgt := 387) C dL_law_382 (by decide) (rg_of (by omega) (by omega)) (rg_of (by omega) (by omega)) (fun c_25 => ?_) (fun c_25 => ?_)
        · refine x_iload C dL_law_387 1 rfl ?_
          refine z_if_ne (tgt := 404) C dL_law_389 (by decide) (rg_of (by omega) (by omega)) (fun c_26 => ?_) (fun c_26 => ?_)
          · exfalso; omega
          · refine x_aload_n C dL_law_392 rfl 3 rfl ?_
            refine z_iconst C dL_law_393 ?_
            refine z_lald C dL_law_394 hOJ ?_
            refine x_iload C dL_law_395 0 rfl ?_
            refine z_i2l C dL_law_397 ?_
            refine z_lsame C dL_law_398 (by rw [hr6]) ?_
            refine x_stk (stk' := [.int (zI 0)]) rfl ?_
            refine z_if_eq (tgt := 404) C dL_law_399 (by decide) (rg_of (by omega) (by omega)) (fun c_27 => ?_) (fun c_27 => ?_)
            · refine x_goto (tgt := 1801) C dL_law_404 (by decide) ?_
              refine x_sub (lv' := [(4, .int (zI (i : Int))), (3, .ref ou), (2, .ref md), (1, .ref xa), (0, .ref b)]) [2, 3, 4, 5, 6] rfl ?_
              exact x_wid (by omega) (by omega) (kk _ _ _ hC.mono hM hOJ.x (Kv_hint (d := 0) hK (by omega) ht0).mono)
            · exfalso; omega
        · exfalso; omega
      · refine z_iconst C dL_law_366 ?_
        refine x_goto (tgt := 371) C dL_law_367 (by decide) ?_
        exfalso; omega
    · refine x_stk (stk' := [.int (zI (t_hint σ ((xs (i + 1)).toInt) ((xs (i + 2)).toInt) ((xs (i + 3)).toInt)))]) (by rw [hk]; rfl) ?_
      refine x_istore (lv' := [(5, .int (zI (t_hint σ ((xs (i + 1)).toInt) ((xs (i + 2)).toInt) ((xs (i + 3)).toInt)))), (4, .int (zI (i : Int))), (3, .ref ou), (2, .ref md), (1, .ref xa), (0, .ref b)]) C dL_law_336 (by decide) rfl ?_
      refine x_aload_n C dL_law_338 rfl 3 rfl ?_
      refine x_aload_n C dL_law_339 rfl 5 rfl ?_
      refine x_iload C dL_law_340 1 rfl ?_
      refine z_iconst C dL_law_342 ?_
      refine z_iadd C dL_law_343 rfl ?_
      refine z_sld C hX (i + 1) dL_law_344 (by omega) (by omega) ?_
      refine x_aload_n C dL_law_345 rfl 5 rfl ?_
      refine x_iload C dL_law_346 1 rfl ?_
      refine z_iconst C dL_law_348 ?_
      refine z_iadd C dL_law_349 rfl ?_
      refine z_sld C hX (i + 2) dL_law_350 (by omega) (by omega) ?_
      refine x_aload_n C dL_law_351 rfl 5 rfl ?_
      refine x_iload C dL_law_352 1 rfl ?_
      refine z_iconst C dL_law_354 ?_
      refine z_iadd C dL_law_355 rfl ?_
      refine z_sld C hX (i + 3) dL_law_356 (by omega) (by omega) ?_
      refine x_aload_n C dL_law_357 rfl 5 rfl ?_
      refine x_iload C dL_law_358 1 rfl ?_
      refine z_iconst C dL_law_360 ?_
      refine z_iadd C dL_law_361 rfl ?_
      refine z_sld C hX (i + 4) dL_law_362 (by omega) (by omega) ?_
      refine z_if_eq (tgt := 370) C dL_law_363 (by decide) (rg_of (by omega) (by omega)) (fun c_28 => ?_) (fun c_28 => ?_)
      · refine z_iconst C dL_law_370 ?_
        obtain ⟨fo9, cm9, Ci9, Su9, A9, hY9⟩ := hM
        refine x_callV (n := 4) (ci := 10) (Cn := RX9) (T := TX9) (N := 29) (cc9 := cells + 3) (ss9 := slots + 21) (rest := []) C dL_law_371 (c_X9_hint (kxL E) C.st G z μ7 _ σ n _ _ _ _ _ _ ((xs (i + 1)).toInt) ((xs (i + 2)).toInt) ((xs (i + 3)).toInt) 0 hY9 hK.1 (by omega) (by omega) (by omega) (by omega)) gL_law_X9_hint rfl (by decide +kernel) ⟨(Nat.le_of_ble_eq_true rfl), (Nat.le_of_ble_eq_true rfl)⟩ rfl hY9.ob rfl rfl (Nat.le_of_ble_eq_true rfl) rfl rfl ⟨by omega, by omega⟩ nX_no (fun v29 μ30 hv31 => ?_)
        obtain ⟨r32, hw34, hmr, hF9⟩ := hv31
        subst hw34
        have hC : RepC G z μ30 xa σ n := hF9.repc hC
        have hOJ : OJx G μ30 ou := hF9.ojx hOJ
        have hM : RepM G μ30 md σ (t_hint σ ((xs (i + 1)).toInt) ((xs (i + 2)).toInt) ((xs (i + 3)).toInt)) := by (rcases hmr with ⟨a1, a2, a3⟩ | ⟨a1, a2⟩; exact absurd a1 ht; exact a2)
        refine x_stk (stk' := [.int (zI r32)]) rfl ?_
        refine x_istore (lv' := [(6, .int (zI r32)), (5, .int (zI (t_hint σ ((xs (i + 1)).toInt) ((xs (i + 2)).toInt) ((xs (i + 3)).toInt)))), (4, .int (zI (i : Int))), (3, .ref ou), (2, .ref md), (1, .ref xa), (0, .ref b)]) C dL_law_374 (by decide) rfl ?_
        refine x_aload_n C dL_law_376 rfl 4 rfl ?_
        have hM0 := hM
        obtain ⟨fo9, cm9, Ci9, Su9, A9, hY9⟩ := hM
        refine x_callV (n := 0) (ci := 10) (Cn := RX9) (T := TX9) (N := 29) (cc9 := cells + 3) (ss9 := slots + 21) (rest := []) C dL_law_377 (c_X9_thrown (kxL E) C.st G z μ30 _ _ n _ _ _ _ _ _ hY9) gL_law_X9_thrown rfl (by decide +kernel) ⟨(Nat.le_of_ble_eq_true rfl), (Nat.le_of_ble_eq_true rfl)⟩ rfl hY9.ob rfl rfl (Nat.le_of_ble_eq_true rfl) rfl rfl ⟨by omega, by omega⟩ nX_no (fun v35 μ36 hv37 => ?_)
        obtain ⟨r38, hw41, h39, hm40⟩ := hv37
        subst hw41
        rw [hm40]
        have hM := hM0
        refine x_stk (stk' := [.int (zI (t_hint σ ((xs (i + 1)).toInt) ((xs (i + 2)).toInt) ((xs (i + 3)).toInt)))]) (by rw [h39]; rfl) ?_
        refine x_iload C dL_law_380 1 rfl ?_
        refine z_icmp_eq (tgt := 387) C dL_law_382 (by decide) (rg_of (by omega) (by omega)) (rg_of (by omega) (by omega)) (fun c_42 => ?_) (fun c_42 => ?_)
        · refine x_iload C dL_law_387 1 rfl ?_
          refine z_if_ne (tgt := 404) C dL_law_389 (by decide) (rg_of (by omega) (by omega)) (fun c_43 => ?_) (fun c_43 => ?_)
          · refine x_goto (tgt := 1801) C dL_law_404 (by decide) ?_
            refine x_sub (lv' := [(4, .int (zI (i : Int))), (3, .ref ou), (2, .ref md), (1, .ref xa), (0, .ref b)]) [2, 3, 4, 5, 6] rfl ?_
            exact x_wid (by omega) (by omega) (kk _ _ _ hC.mono hM hOJ hK.mono)
          · exfalso; omega
        · refine z_iconst C dL_law_385 ?_
          exfalso; omega
      · refine z_iconst C dL_law_366 ?_
        refine x_goto (tgt := 371) C dL_law_367 (by decide) ?_
        exfalso; omega
  · refine z_iconst C dL_law_327 ?_
    refine x_goto (tgt := 332) C dL_law_328 (by decide) ?_
    refine x_aload_n C dL_law_332 rfl 1 rfl ?_
    refine x_callSX (n := 6) (cc9 := cells + 3) (ss9 := slots + 21) (rest := []) C dL_law_333 (c_L_hint (kxL E) C.st G z μ xa md ou σ n tm ((xs (i + 1)).toInt) ((xs (i + 2)).toInt) ((xs (i + 3)).toInt) 1 hC hM hOJ hK hn5 (by omega) (by omega) (by omega) (by omega)) gL_law_L_hint rfl (by decide +kernel) ⟨(Nat.le_of_ble_eq_true rfl), (Nat.le_of_ble_eq_true rfl)⟩ rfl rfl (Nat.le_of_ble_eq_true rfl) rfl rfl ⟨by omega, by omega⟩ nX_no (fun v44 μ45 hv46 => ?_)
    obtain ⟨r47, hw48, hM, hcase⟩ := hv46
    subst hw48
    have htr : 0 ≤ t_hint σ ((xs (i + 1)).toInt) ((xs (i + 2)).toInt) ((xs (i + 3)).toInt) ∧ t_hint σ ((xs (i + 1)).toInt) ((xs (i + 2)).toInt) ((xs (i + 3)).toInt) ≤ 3 := by (unfold t_hint; (repeat split) <;> omega)
    rcases hcase with ⟨hk0, ht0, hC, hOJ⟩ | ⟨ht, hk, hC, hOJ⟩
    · refine x_stk (stk' := [.int (zI 0)]) (by rw [hk0]; rfl) ?_
      refine x_istore (lv' := [(5, .int (zI 0)), (4, .int (zI (i : Int))), (3, .ref ou), (2, .ref md), (1, .ref xa), (0, .ref b)]) C dL_law_336 (by decide) rfl ?_
      refine x_aload_n C dL_law_338 rfl 3 rfl ?_
      refine x_aload_n C dL_law_339 rfl 5 rfl ?_
      refine x_iload C dL_law_340 1 rfl ?_
      refine z_iconst C dL_law_342 ?_
      refine z_iadd C dL_law_343 rfl ?_
      refine z_sld C hX (i + 1) dL_law_344 (by omega) (by omega) ?_
      refine x_aload_n C dL_law_345 rfl 5 rfl ?_
      refine x_iload C dL_law_346 1 rfl ?_
      refine z_iconst C dL_law_348 ?_
      refine z_iadd C dL_law_349 rfl ?_
      refine z_sld C hX (i + 2) dL_law_350 (by omega) (by omega) ?_
      refine x_aload_n C dL_law_351 rfl 5 rfl ?_
      refine x_iload C dL_law_352 1 rfl ?_
      refine z_iconst C dL_law_354 ?_
      refine z_iadd C dL_law_355 rfl ?_
      refine z_sld C hX (i + 3) dL_law_356 (by omega) (by omega) ?_
      refine x_aload_n C dL_law_357 rfl 5 rfl ?_
      refine x_iload C dL_law_358 1 rfl ?_
      refine z_iconst C dL_law_360 ?_
      refine z_iadd C dL_law_361 rfl ?_
      refine z_sld C hX (i + 4) dL_law_362 (by omega) (by omega) ?_
      refine z_if_eq (tgt := 370) C dL_law_363 (by decide) (rg_of (by omega) (by omega)) (fun c_49 => ?_) (fun c_49 => ?_)
      · refine z_iconst C dL_law_370 ?_
        exfalso; omega
      · refine z_iconst C dL_law_366 ?_
        refine x_goto (tgt := 371) C dL_law_367 (by decide) ?_
        obtain ⟨fo9, cm9, Ci9, Su9, A9, hY9⟩ := hM
        refine x_callV (n := 4) (ci := 10) (Cn := RX9) (T := TX9) (N := 29) (cc9 := cells + 3) (ss9 := slots + 21) (rest := []) C dL_law_371 (c_X9_hint (kxL E) C.st G z μ45 _ σ n _ _ _ _ _ _ ((xs (i + 1)).toInt) ((xs (i + 2)).toInt) ((xs (i + 3)).toInt) 1 hY9 hK.1 (by omega) (by omega) (by omega) (by omega)) gL_law_X9_hint rfl (by decide +kernel) ⟨(Nat.le_of_ble_eq_true rfl), (Nat.le_of_ble_eq_true rfl)⟩ rfl hY9.ob rfl rfl (Nat.le_of_ble_eq_true rfl) rfl rfl ⟨by omega, by omega⟩ nX_no (fun v50 μ51 hv52 => ?_)
        obtain ⟨r53, hw55, hmr, hF9⟩ := hv52
        subst hw55
        have hC : RepC G z μ51 xa (n_hint σ ((xs (i + 1)).toInt) ((xs (i + 2)).toInt) ((xs (i + 3)).toInt) 1) n := hF9.repc hC
        have hOJ : OJ G μ51 ou ((zI (b_fits (n_hint σ ((xs (i + 1)).toInt) ((xs (i + 2)).toInt) ((xs (i + 3)).toInt) 1) 0)).toInt64) := hF9.oj hOJ
        obtain ⟨hr6, hM⟩ : r53 = b_fits (n_hint σ ((xs (i + 1)).toInt) ((xs (i + 2)).toInt) ((xs (i + 3)).toInt) 1) 0 ∧ RepM G μ51 md (n_hint σ ((xs (i + 1)).toInt) ((xs (i + 2)).toInt) ((xs (i + 3)).toInt) 1) 0 := by (rcases hmr with ⟨a1, a2, a3⟩ | ⟨a1, a2⟩; exact ⟨a2, a3⟩; exact absurd ht0 a1)
        refine x_stk (stk' := [.int (zI r53)]) rfl ?_
        refine x_istore (lv' := [(6, .int (zI r53)), (5, .int (zI 0)), (4, .int (zI (i : Int))), (3, .ref ou), (2, .ref md), (1, .ref xa), (0, .ref b)]) C dL_law_374 (by decide) rfl ?_
        refine x_aload_n C dL_law_376 rfl 4 rfl ?_
        have hM0 := hM
        obtain ⟨fo9, cm9, Ci9, Su9, A9, hY9⟩ := hM
        refine x_callV (n := 0) (ci := 10) (Cn := RX9) (T := TX9) (N := 29) (cc9 := cells + 3) (ss9 := slots + 21) (rest := []) C dL_law_377 (c_X9_thrown (kxL E) C.st G z μ51 _ _ n _ _ _ _ _ _ hY9) gL_law_X9_thrown rfl (by decide +kernel) ⟨(Nat.le_of_ble_eq_true rfl), (Nat.le_of_ble_eq_true rfl)⟩ rfl hY9.ob rfl rfl (Nat.le_of_ble_eq_true rfl) rfl rfl ⟨by omega, by omega⟩ nX_no (fun v56 μ57 hv58 => ?_)
        obtain ⟨r59, hw62, h60, hm61⟩ := hv58
        subst hw62
        rw [hm61]
        have hM := hM0
        refine x_stk (stk' := [.int (zI 0)]) (by rw [h60]; rfl) ?_
        refine x_iload C dL_law_380 1 rfl ?_
        refine z_icmp_eq (tgt := 387) C dL_law_382 (by decide) (rg_of (by omega) (by omega)) (rg_of (by omega) (by omega)) (fun c_63 => ?_) (fun c_63 => ?_)
        · refine x_iload C dL_law_387 1 rfl ?_
          refine z_if_ne (tgt := 404) C dL_law_389 (by decide) (rg_of (by omega) (by omega)) (fun c_64 => ?_) (fun c_64 => ?_)
          · exfalso; omega
          · refine x_aload_n C dL_law_392 rfl 3 rfl ?_
            refine z_iconst C dL_law_393 ?_
            refine z_lald C dL_law_394 hOJ ?_
            refine x_iload C dL_law_395 0 rfl ?_
            refine z_i2l C dL_law_397 ?_
            refine z_lsame C dL_law_398 (by rw [hr6]) ?_
            refine x_stk (stk' := [.int (zI 0)]) rfl ?_
            refine z_if_eq (tgt := 404) C dL_law_399 (by decide) (rg_of (by omega) (by omega)) (fun c_65 => ?_) (fun c_65 => ?_)
            · refine x_goto (tgt := 1801) C dL_law_404 (by decide) ?_
              refine x_sub (lv' := [(4, .int (zI (i : Int))), (3, .ref ou), (2, .ref md), (1, .ref xa), (0, .ref b)]) [2, 3, 4, 5, 6] rfl ?_
              exact x_wid (by omega) (by omega) (kk _ _ _ hC.mono hM hOJ.x (Kv_hint (d := 1) hK (by omega) ht0).mono)
            · exfalso; omega
        · exfalso; omega
    · refine x_stk (stk' := [.int (zI (t_hint σ ((xs (i + 1)).toInt) ((xs (i + 2)).toInt) ((xs (i + 3)).toInt)))]) (by rw [hk]; rfl) ?_
      refine x_istore (lv' := [(5, .int (zI (t_hint σ ((xs (i + 1)).toInt) ((xs (i + 2)).toInt) ((xs (i + 3)).toInt)))), (4, .int (zI (i : Int))), (3, .ref ou), (2, .ref md), (1, .ref xa), (0, .ref b)]) C dL_law_336 (by decide) rfl ?_
      refine x_aload_n C dL_law_338 rfl 3 rfl ?_
      refine x_aload_n C dL_law_339 rfl 5 rfl ?_
      refine x_iload C dL_law_340 1 rfl ?_
      refine z_iconst C dL_law_342 ?_
      refine z_iadd C dL_law_343 rfl ?_
      refine z_sld C hX (i + 1) dL_law_344 (by omega) (by omega) ?_
      refine x_aload_n C dL_law_345 rfl 5 rfl ?_
      refine x_iload C dL_law_346 1 rfl ?_
      refine z_iconst C dL_law_348 ?_
      refine z_iadd C dL_law_349 rfl ?_
      refine z_sld C hX (i + 2) dL_law_350 (by omega) (by omega) ?_
      refine x_aload_n C dL_law_351 rfl 5 rfl ?_
      refine x_iload C dL_law_352 1 rfl ?_
      refine z_iconst C dL_law_354 ?_
      refine z_iadd C dL_law_355 rfl ?_
      refine z_sld C hX (i + 3) dL_law_356 (by omega) (by omega) ?_
      refine x_aload_n C dL_law_357 rfl 5 rfl ?_
      refine x_iload C dL_law_358 1 rfl ?_
      refine z_iconst C dL_law_360 ?_
      refine z_iadd C dL_law_361 rfl ?_
      refine z_sld C hX (i + 4) dL_law_362 (by omega) (by omega) ?_
      refine z_if_eq (tgt := 370) C dL_law_363 (by decide) (rg_of (by omega) (by omega)) (fun c_66 => ?_) (fun c_66 => ?_)
      · refine z_iconst C dL_law_370 ?_
        exfalso; omega
      · refine z_iconst C dL_law_366 ?_
        refine x_goto (tgt := 371) C dL_law_367 (by decide) ?_
        obtain ⟨fo9, cm9, Ci9, Su9, A9, hY9⟩ := hM
        refine x_callV (n := 4) (ci := 10) (Cn := RX9) (T := TX9) (N := 29) (cc9 := cells + 3) (ss9 := slots + 21) (rest := []) C dL_law_371 (c_X9_hint (kxL E) C.st G z μ45 _ σ n _ _ _ _ _ _ ((xs (i + 1)).toInt) ((xs (i + 2)).toInt) ((xs (i + 3)).toInt) 1 hY9 hK.1 (by omega) (by omega) (by omega) (by omega)) gL_law_X9_hint rfl (by decide +kernel) ⟨(Nat.le_of_ble_eq_true rfl), (Nat.le_of_ble_eq_true rfl)⟩ rfl hY9.ob rfl rfl (Nat.le_of_ble_eq_true rfl) rfl rfl ⟨by omega, by omega⟩ nX_no (fun v67 μ68 hv69 => ?_)
        obtain ⟨r70, hw72, hmr, hF9⟩ := hv69
        subst hw72
        have hC : RepC G z μ68 xa σ n := hF9.repc hC
        have hOJ : OJx G μ68 ou := hF9.ojx hOJ
        have hM : RepM G μ68 md σ (t_hint σ ((xs (i + 1)).toInt) ((xs (i + 2)).toInt) ((xs (i + 3)).toInt)) := by (rcases hmr with ⟨a1, a2, a3⟩ | ⟨a1, a2⟩; exact absurd a1 ht; exact a2)
        refine x_stk (stk' := [.int (zI r70)]) rfl ?_
        refine x_istore (lv' := [(6, .int (zI r70)), (5, .int (zI (t_hint σ ((xs (i + 1)).toInt) ((xs (i + 2)).toInt) ((xs (i + 3)).toInt)))), (4, .int (zI (i : Int))), (3, .ref ou), (2, .ref md), (1, .ref xa), (0, .ref b)]) C dL_law_374 (by decide) rfl ?_
        refine x_aload_n C dL_law_376 rfl 4 rfl ?_
        have hM0 := hM
        obtain ⟨fo9, cm9, Ci9, Su9, A9, hY9⟩ := hM
        refine x_callV (n := 0) (ci := 10) (Cn := RX9) (T := TX9) (N := 29) (cc9 := cells + 3) (ss9 := slots + 21) (rest := []) C dL_law_377 (c_X9_thrown (kxL E) C.st G z μ68 _ _ n _ _ _ _ _ _ hY9) gL_law_X9_thrown rfl (by decide +kernel) ⟨(Nat.le_of_ble_eq_true rfl), (Nat.le_of_ble_eq_true rfl)⟩ rfl hY9.ob rfl rfl (Nat.le_of_ble_eq_true rfl) rfl rfl ⟨by omega, by omega⟩ nX_no (fun v73 μ74 hv75 => ?_)
        obtain ⟨r76, hw79, h77, hm78⟩ := hv75
        subst hw79
        rw [hm78]
        have hM := hM0
        refine x_stk (stk' := [.int (zI (t_hint σ ((xs (i + 1)).toInt) ((xs (i + 2)).toInt) ((xs (i + 3)).toInt)))]) (by rw [h77]; rfl) ?_
        refine x_iload C dL_law_380 1 rfl ?_
        refine z_icmp_eq (tgt := 387) C dL_law_382 (by decide) (rg_of (by omega) (by omega)) (rg_of (by omega) (by omega)) (fun c_80 => ?_) (fun c_80 => ?_)
        · refine x_iload C dL_law_387 1 rfl ?_
          refine z_if_ne (tgt := 404) C dL_law_389 (by decide) (rg_of (by omega) (by omega)) (fun c_81 => ?_) (fun c_81 => ?_)
          · refine x_goto (tgt := 1801) C dL_law_404 (by decide) ?_
            refine x_sub (lv' := [(4, .int (zI (i : Int))), (3, .ref ou), (2, .ref md), (1, .ref xa), (0, .ref b)]) [2, 3, 4, 5, 6] rfl ?_
            exact x_wid (by omega) (by omega) (kk _ _ _ hC.mono hM hOJ hK.mono)
          · exfalso; omega
        · refine z_iconst C dL_law_385 ?_
          exfalso; omega
set_option maxHeartbeats 4000000 in
set_option maxRecDepth 100000 in
theorem law_clearDraft {E : EE} {G : GG} {z b L : Nat} {xs : Nat → Int32} (C : Cx E G z cL_law RL wsL_law room_1 7) (hX : Sc E b L xs) {cells slots : Nat} (hcs : cells + 64 ≤ room_1.cells ∧ slots + 256 ≤ room_1.slots) {μ : Mm} {i n : Nat} (hi : i + 5 ≤ L) (hn5 : n < 512) {xa md ou : Nat} {σ : SS} {tm : Int} (hC : RepC G z μ xa σ n) (hM : RepM G μ md σ tm) (hOJ : OJx G μ ou) (hK : Kv σ n) (kk : ∀ (μ' : Mm) (σ' : SS) (tm' : Int), RepC G z μ' xa σ' (n + 1) → RepM G μ' md σ' tm' → OJx G μ' ou → Kv σ' (n + 1) → Wx E G (cells + 8) (slots + 64) 1801 [(4, .int (zI (i : Int))), (3, .ref ou), (2, .ref md), (1, .ref xa), (0, .ref b)] [] μ') : Wx E G cells slots 407 [(4, .int (zI (i : Int))), (3, .ref ou), (2, .ref md), (1, .ref xa), (0, .ref b)] [] μ := by
  have hL4 := hX.2.2.2
  have hi23 := hK.1.n23
  refine x_aload_n C dL_law_407 rfl 3 rfl ?_
  refine x_callV (n := 0) (ci := 9) (Cn := RX8) (T := TX8) (N := 10) (cc9 := cells) (ss9 := slots) (rest := []) C dL_law_408 (c_X8_clearDraft (kxL E) C.st G z μ xa σ n hC hK.1) gL_law_X8_clearDraft rfl (by decide +kernel) ⟨(Nat.le_of_ble_eq_true rfl), (Nat.le_of_ble_eq_true rfl)⟩ rfl hC.ob rfl rfl (Nat.le_of_ble_eq_true rfl) rfl rfl ⟨by omega, by omega⟩ nX_no (fun v1 μ2 hv3 => ?_)
  obtain ⟨r4, hw6, ⟨hr8, hC⟩, hF9⟩ := hv3
  subst hw6
  have hM : RepM G μ2 md σ tm := hF9.repm hM
  have hOJ : OJx G μ2 ou := hF9.ojx hOJ
  have hbr := hK.1.r6 0 (by decide)
  refine x_stk (stk' := [.int (zI r4)]) rfl ?_
  refine x_aload_n C dL_law_411 rfl 2 rfl ?_
  obtain ⟨fo9, cm9, Ci9, Su9, A9, hY9⟩ := hM
  refine x_callV (n := 0) (ci := 10) (Cn := RX9) (T := TX9) (N := 29) (cc9 := cells) (ss9 := slots) (rest := [.int (zI r4)]) C dL_law_412 (c_X9_clearDraft (kxL E) C.st G z μ2 _ σ n _ _ _ _ _ _ hY9 hK.1) gL_law_X9_clearDraft rfl (by decide +kernel) ⟨(Nat.le_of_ble_eq_true rfl), (Nat.le_of_ble_eq_true rfl)⟩ rfl hY9.ob rfl rfl (Nat.le_of_ble_eq_true rfl) rfl rfl ⟨by omega, by omega⟩ nX_no (fun v8 μ9 hv10 => ?_)
  obtain ⟨r11, hw13, hmr, hF9⟩ := hv10
  subst hw13
  have hOJ : OJx G μ9 ou := hF9.ojx hOJ
  have hC : RepC G z μ9 xa (n_clearDraft σ) n := hF9.repc hC
  obtain ⟨hr6, hM⟩ := hmr
  refine x_stk (stk' := [.int (zI r11), .int (zI r4)]) rfl ?_
  refine z_icmp_eq (tgt := 1801) C dL_law_415 (by decide) (rg_of (by omega) (by omega)) (rg_of (by omega) (by omega)) (fun c_14 => ?_) (fun c_14 => ?_)
  · exact x_wid (by omega) (by omega) (kk _ _ _ hC.mono hM hOJ (Kv_clearDraft hK).mono)
  · refine z_iconst C dL_law_418 ?_
    exfalso; omega
set_option maxHeartbeats 4000000 in
set_option maxRecDepth 100000 in
theorem law_stage {E : EE} {G : GG} {z b L : Nat} {xs : Nat → Int32} (C : Cx E G z cL_law RL wsL_law room_1 7) (hX : Sc E b L xs) {cells slots : Nat} (hcs : cells + 64 ≤ room_1.cells ∧ slots + 256 ≤ room_1.slots) {μ : Mm} {i n : Nat} (hi : i + 5 ≤ L) (hn5 : n < 512) {xa md ou : Nat} {σ : SS} {tm : Int} (hC : RepC G z μ xa σ n) (hM : RepM G μ md σ tm) (hOJ : OJx G μ ou) (hK : Kv σ n) (kk : ∀ (μ' : Mm) (σ' : SS) (tm' : Int), RepC G z μ' xa σ' (n + 1) → RepM G μ' md σ' tm' → OJx G μ' ou → Kv σ' (n + 1) → Wx E G (cells + 8) (slots + 64) 1801 [(4, .int (zI (i : Int))), (3, .ref ou), (2, .ref md), (1, .ref xa), (0, .ref b)] [] μ') : Wx E G cells slots 420 [(4, .int (zI (i : Int))), (3, .ref ou), (2, .ref md), (1, .ref xa), (0, .ref b)] [] μ := by
  have hL4 := hX.2.2.2
  have hi23 := hK.1.n23
  refine x_aload_n C dL_law_420 rfl 3 rfl ?_
  refine x_aload_n C dL_law_421 rfl 1 rfl ?_
  refine x_callSX (n := 2) (cc9 := cells + 6) (ss9 := slots + 25) (rest := []) C dL_law_422 (c_L_stage (kxL E) C.st G z μ xa md ou σ n tm hC hM hOJ hK hn5) gL_law_L_stage rfl (by decide +kernel) ⟨(Nat.le_of_ble_eq_true rfl), (Nat.le_of_ble_eq_true rfl)⟩ rfl rfl (Nat.le_of_ble_eq_true rfl) rfl rfl ⟨by omega, by omega⟩ nX_no (fun v1 μ2 hv3 => ?_)
  obtain ⟨r4, hw5, hM, hcase⟩ := hv3
  subst hw5
  have htr : 0 ≤ t_stage σ ∧ t_stage σ ≤ 3 := by (unfold t_stage; (repeat split) <;> omega)
  rcases hcase with ⟨hk0, ht0, hC, hOJ⟩ | ⟨ht, hk, hC, hOJ⟩
  · refine x_stk (stk' := [.int (zI 0)]) (by rw [hk0]; rfl) ?_
    refine x_istore (lv' := [(5, .int (zI 0)), (4, .int (zI (i : Int))), (3, .ref ou), (2, .ref md), (1, .ref xa), (0, .ref b)]) C dL_law_425 (by decide) rfl ?_
    refine x_aload_n C dL_law_427 rfl 3 rfl ?_
    obtain ⟨fo9, cm9, Ci9, Su9, A9, hY9⟩ := hM
    refine x_callV (n := 0) (ci := 10) (Cn := RX9) (T := TX9) (N := 29) (cc9 := cells + 6) (ss9 := slots + 25) (rest := []) C dL_law_428 (c_X9_stage (kxL E) C.st G z μ2 _ σ n _ _ _ _ _ _ hY9 hK.1) gL_law_X9_stage rfl (by decide +kernel) ⟨(Nat.le_of_ble_eq_true rfl), (Nat.le_of_ble_eq_true rfl)⟩ rfl hY9.ob rfl rfl (Nat.le_of_ble_eq_true rfl) rfl rfl ⟨by omega, by omega⟩ nX_no (fun v6 μ7 hv8 => ?_)
    obtain ⟨r9, hw11, hmr, hF9⟩ := hv8
    subst hw11
    have hC : RepC G z μ7 xa (n_stage σ) n := hF9.repc hC
    have hOJ : OJ G μ7 ou ((zI (σ 7 0)).toInt64) := hF9.oj hOJ
    obtain ⟨hr6, hM⟩ : r9 = σ 7 0 ∧ RepM G μ7 md (n_stage σ) 0 := by (rcases hmr with ⟨a1, a2, a3⟩ | ⟨a1, a2⟩; exact ⟨a2, a3⟩; exact absurd ht0 a1)
    refine x_stk (stk' := [.int (zI r9)]) rfl ?_
    refine x_istore (lv' := [(6, .int (zI r9)), (5, .int (zI 0)), (4, .int (zI (i : Int))), (3, .ref ou), (2, .ref md), (1, .ref xa), (0, .ref b)]) C dL_law_431 (by decide) rfl ?_
    refine x_aload_n C dL_law_433 rfl 4 rfl ?_
    have hM0 := hM
    obtain ⟨fo9, cm9, Ci9, Su9, A9, hY9⟩ := hM
    refine x_callV (n := 0) (ci := 10) (Cn := RX9) (T := TX9) (N := 29) (cc9 := cells + 6) (ss9 := slots + 25) (rest := []) C dL_law_434 (c_X9_thrown (kxL E) C.st G z μ7 _ _ n _ _ _ _ _ _ hY9) gL_law_X9_thrown rfl (by decide +kernel) ⟨(Nat.le_of_ble_eq_true rfl), (Nat.le_of_ble_eq_true rfl)⟩ rfl hY9.ob rfl rfl (Nat.le_of_ble_eq_true rfl) rfl rfl ⟨by omega, by omega⟩ nX_no (fun v12 μ13 hv14 => ?_)
    obtain ⟨r15, hw18, h16, hm17⟩ := hv14
    subst hw18
    rw [hm17]
    have hM := hM0
    refine x_stk (stk' := [.int (zI 0)]) (by rw [h16]; rfl) ?_
    refine x_iload C dL_law_437 1 rfl ?_
    refine z_icmp_eq (tgt := 444) C dL_law_439 (by decide) (rg_of (by omega) (by omega)) (rg_of (by omega) (by omega)) (fun c_19 => ?_) (fun c_19 => ?_)
    · refine x_iload C dL_law_444 1 rfl ?_
      refine z_if_ne (tgt := 461) C dL_law_446 (by decide) (rg_of (by omega) (by omega)) (fun c_20 => ?_) (fun c_20 => ?_)
      · exfalso; omega
      · refine x_aload_n C dL_law_449 rfl 3 rfl ?_
        refine z_iconst C dL_law_450 ?_
        refine z_lald C dL_law_451 hOJ ?_
        refine x_iload C dL_law_452 0 rfl ?_
        refine z_i2l C dL_law_454 ?_
        refine z_lsame C dL_law_455 (by rw [hr6]) ?_
        refine x_stk (stk' := [.int (zI 0)]) rfl ?_
        refine z_if_eq (tgt := 461) C dL_law_456 (by decide) (rg_of (by omega) (by omega)) (fun c_21 => ?_) (fun c_21 => ?_)
        · refine x_goto (tgt := 1801) C dL_law_461 (by decide) ?_
          refine x_sub (lv' := [(4, .int (zI (i : Int))), (3, .ref ou), (2, .ref md), (1, .ref xa), (0, .ref b)]) [2, 3, 4, 5, 6] rfl ?_
          exact x_wid (by omega) (by omega) (kk _ _ _ hC.mono hM hOJ.x (Kv_stage hK ht0).mono)
        · exfalso; omega
    · exfalso; omega
  · refine x_stk (stk' := [.int (zI (t_stage σ))]) (by rw [hk]; rfl) ?_
    refine x_istore (lv' := [(5, .int (zI (t_stage σ))), (4, .int (zI (i : Int))), (3, .ref ou), (2, .ref md), (1, .ref xa), (0, .ref b)]) C dL_law_425 (by decide) rfl ?_
    refine x_aload_n C dL_law_427 rfl 3 rfl ?_
    obtain ⟨fo9, cm9, Ci9, Su9, A9, hY9⟩ := hM
    refine x_callV (n := 0) (ci := 10) (Cn := RX9) (T := TX9) (N := 29) (cc9 := cells + 6) (ss9 := slots + 25) (rest := []) C dL_law_428 (c_X9_stage (kxL E) C.st G z μ2 _ σ n _ _ _ _ _ _ hY9 hK.1) gL_law_X9_stage rfl (by decide +kernel) ⟨(Nat.le_of_ble_eq_true rfl), (Nat.le_of_ble_eq_true rfl)⟩ rfl hY9.ob rfl rfl (Nat.le_of_ble_eq_true rfl) rfl rfl ⟨by omega, by omega⟩ nX_no (fun v22 μ23 hv24 => ?_)
    obtain ⟨r25, hw27, hmr, hF9⟩ := hv24
    subst hw27
    have hC : RepC G z μ23 xa σ n := hF9.repc hC
    have hOJ : OJx G μ23 ou := hF9.ojx hOJ
    have hM : RepM G μ23 md σ (t_stage σ) := by (rcases hmr with ⟨a1, a2, a3⟩ | ⟨a1, a2⟩; exact absurd a1 ht; exact a2)
    refine x_stk (stk' := [.int (zI r25)]) rfl ?_
    refine x_istore (lv' := [(6, .int (zI r25)), (5, .int (zI (t_stage σ))), (4, .int (zI (i : Int))), (3, .ref ou), (2, .ref md), (1, .ref xa), (0, .ref b)]) C dL_law_431 (by decide) rfl ?_
    refine x_aload_n C dL_law_433 rfl 4 rfl ?_
    have hM0 := hM
    obtain ⟨fo9, cm9, Ci9, Su9, A9, hY9⟩ := hM
    refine x_callV (n := 0) (ci := 10) (Cn := RX9) (T := TX9) (N := 29) (cc9 := cells + 6) (ss9 := slots + 25) (rest := []) C dL_law_434 (c_X9_thrown (kxL E) C.st G z μ23 _ _ n _ _ _ _ _ _ hY9) gL_law_X9_thrown rfl (by decide +kernel) ⟨(Nat.le_of_ble_eq_true rfl), (Nat.le_of_ble_eq_true rfl)⟩ rfl hY9.ob rfl rfl (Nat.le_of_ble_eq_true rfl) rfl rfl ⟨by omega, by omega⟩ nX_no (fun v28 μ29 hv30 => ?_)
    obtain ⟨r31, hw34, h32, hm33⟩ := hv30
    subst hw34
    rw [hm33]
    have hM := hM0
    refine x_stk (stk' := [.int (zI (t_stage σ))]) (by rw [h32]; rfl) ?_
    refine x_iload C dL_law_437 1 rfl ?_
    refine z_icmp_eq (tgt := 444) C dL_law_439 (by decide) (rg_of (by omega) (by omega)) (rg_of (by omega) (by omega)) (fun c_35 => ?_) (fun c_35 => ?_)
    · refine x_iload C dL_law_444 1 rfl ?_
      refine z_if_ne (tgt := 461) C dL_law_446 (by decide) (rg_of (by omega) (by omega)) (fun c_36 => ?_) (fun c_36 => ?_)
      · refine x_goto (tgt := 1801) C dL_law_461 (by decide) ?_
        refine x_sub (lv' := [(4, .int (zI (i : Int))), (3, .ref ou), (2, .ref md), (1, .ref xa), (0, .ref b)]) [2, 3, 4, 5, 6] rfl ?_
        exact x_wid (by omega) (by omega) (kk _ _ _ hC.mono hM hOJ hK.mono)
      · exfalso; omega
    · refine z_iconst C dL_law_442 ?_
      exfalso; omega
set_option maxHeartbeats 4000000 in
set_option maxRecDepth 100000 in
theorem law_fits {E : EE} {G : GG} {z b L : Nat} {xs : Nat → Int32} (C : Cx E G z cL_law RL wsL_law room_1 7) (hX : Sc E b L xs) {cells slots : Nat} (hcs : cells + 64 ≤ room_1.cells ∧ slots + 256 ≤ room_1.slots) {μ : Mm} {i n : Nat} (hi : i + 5 ≤ L) (hn5 : n < 512) {xa md ou : Nat} {σ : SS} {tm : Int} (hC : RepC G z μ xa σ n) (hM : RepM G μ md σ tm) (hOJ : OJx G μ ou) (hK : Kv σ n) (kk : ∀ (μ' : Mm) (σ' : SS) (tm' : Int), RepC G z μ' xa σ' (n + 1) → RepM G μ' md σ' tm' → OJx G μ' ou → Kv σ' (n + 1) → Wx E G (cells + 8) (slots + 64) 1801 [(4, .int (zI (i : Int))), (3, .ref ou), (2, .ref md), (1, .ref xa), (0, .ref b)] [] μ') : Wx E G cells slots 464 [(4, .int (zI (i : Int))), (3, .ref ou), (2, .ref md), (1, .ref xa), (0, .ref b)] [] μ := by
  have hL4 := hX.2.2.2
  have hi23 := hK.1.n23
  refine x_aload_n C dL_law_464 rfl 3 rfl ?_
  refine x_aload_n C dL_law_465 rfl 4 rfl ?_
  refine x_iload C dL_law_466 0 rfl ?_
  refine z_iconst C dL_law_468 ?_
  refine z_iadd C dL_law_469 rfl ?_
  refine z_sld C hX (i + 1) dL_law_470 (by omega) (by omega) ?_
  have hz1 := zI_rg (xs (i + 1))
  unfold rg at hz1
  refine x_aload_n C dL_law_471 rfl 1 rfl ?_
  refine x_callSX (n := 3) (cc9 := cells + 1) (ss9 := slots + 6) (rest := []) C dL_law_472 (c_L_fits (kxL E) C.st G z μ xa md ou σ n tm ((xs (i + 1)).toInt) hC hM hOJ hK hn5 (by omega)) gL_law_L_fits rfl (by decide +kernel) ⟨(Nat.le_of_ble_eq_true rfl), (Nat.le_of_ble_eq_true rfl)⟩ rfl rfl (Nat.le_of_ble_eq_true rfl) rfl rfl ⟨by omega, by omega⟩ nX_no (fun v2 μ3 hv4 => ?_)
  obtain ⟨r5, hw6, hM, hcase⟩ := hv4
  subst hw6
  have htr : 0 ≤ t_st σ ((xs (i + 1)).toInt) ∧ t_st σ ((xs (i + 1)).toInt) ≤ 3 := by (unfold t_st; (repeat split) <;> omega)
  rcases hcase with ⟨hk0, ht0, hC, hOJ⟩ | ⟨ht, hk, hC, hOJ⟩
  · refine x_stk (stk' := [.int (zI 0)]) (by rw [hk0]; rfl) ?_
    refine x_istore (lv' := [(5, .int (zI 0)), (4, .int (zI (i : Int))), (3, .ref ou), (2, .ref md), (1, .ref xa), (0, .ref b)]) C dL_law_475 (by decide) rfl ?_
    refine x_aload_n C dL_law_477 rfl 3 rfl ?_
    refine x_aload_n C dL_law_478 rfl 5 rfl ?_
    refine x_iload C dL_law_479 1 rfl ?_
    refine z_iconst C dL_law_481 ?_
    refine z_iadd C dL_law_482 rfl ?_
    refine z_sld C hX (i + 1) dL_law_483 (by omega) (by omega) ?_
    obtain ⟨fo9, cm9, Ci9, Su9, A9, hY9⟩ := hM
    refine x_callV (n := 1) (ci := 10) (Cn := RX9) (T := TX9) (N := 29) (cc9 := cells + 1) (ss9 := slots + 6) (rest := []) C dL_law_484 (c_X9_fits (kxL E) C.st G z μ3 _ σ n _ _ _ _ _ _ ((xs (i + 1)).toInt) hY9 hK.1 (by omega)) gL_law_X9_fits rfl (by decide +kernel) ⟨(Nat.le_of_ble_eq_true rfl), (Nat.le_of_ble_eq_true rfl)⟩ rfl hY9.ob rfl rfl (Nat.le_of_ble_eq_true rfl) rfl rfl ⟨by omega, by omega⟩ nX_no (fun v7 μ8 hv9 => ?_)
    obtain ⟨r10, hw12, hmr, hF9⟩ := hv9
    subst hw12
    have hC : RepC G z μ8 xa (σ) n := hF9.repc hC
    have hOJ : OJ G μ8 ou ((zI (b_fits σ (((xs (i + 1)).toInt).toNat + 1))).toInt64) := hF9.oj hOJ
    obtain ⟨hr6, hM⟩ : r10 = b_fits σ (((xs (i + 1)).toInt).toNat + 1) ∧ RepM G μ8 md (σ) 0 := by (rcases hmr with ⟨a1, a2, a3⟩ | ⟨a1, a2⟩; exact ⟨a2, a3⟩; exact absurd ht0 a1)
    refine x_stk (stk' := [.int (zI r10)]) rfl ?_
    refine x_istore (lv' := [(6, .int (zI r10)), (5, .int (zI 0)), (4, .int (zI (i : Int))), (3, .ref ou), (2, .ref md), (1, .ref xa), (0, .ref b)]) C dL_law_487 (by decide) rfl ?_
    refine x_aload_n C dL_law_489 rfl 4 rfl ?_
    have hM0 := hM
    obtain ⟨fo9, cm9, Ci9, Su9, A9, hY9⟩ := hM
    refine x_callV (n := 0) (ci := 10) (Cn := RX9) (T := TX9) (N := 29) (cc9 := cells + 1) (ss9 := slots + 6) (rest := []) C dL_law_490 (c_X9_thrown (kxL E) C.st G z μ8 _ _ n _ _ _ _ _ _ hY9) gL_law_X9_thrown rfl (by decide +kernel) ⟨(Nat.le_of_ble_eq_true rfl), (Nat.le_of_ble_eq_true rfl)⟩ rfl hY9.ob rfl rfl (Nat.le_of_ble_eq_true rfl) rfl rfl ⟨by omega, by omega⟩ nX_no (fun v13 μ14 hv15 => ?_)
    obtain ⟨r16, hw19, h17, hm18⟩ := hv15
    subst hw19
    rw [hm18]
    have hM := hM0
    refine x_stk (stk' := [.int (zI 0)]) (by rw [h17]; rfl) ?_
    refine x_iload C dL_law_493 1 rfl ?_
    refine z_icmp_eq (tgt := 500) C dL_law_495 (by decide) (rg_of (by omega) (by omega)) (rg_of (by omega) (by omega)) (fun c_20 => ?_) (fun c_20 => ?_)
    · refine x_iload C dL_law_500 1 rfl ?_
      refine z_if_ne (tgt := 517) C dL_law_502 (by decide) (rg_of (by omega) (by omega)) (fun c_21 => ?_) (fun c_21 => ?_)
      · exfalso; omega
      · refine x_aload_n C dL_law_505 rfl 3 rfl ?_
        refine z_iconst C dL_law_506 ?_
        refine z_lald C dL_law_507 hOJ ?_
        refine x_iload C dL_law_508 0 rfl ?_
        refine z_i2l C dL_law_510 ?_
        refine z_lsame C dL_law_511 (by rw [hr6]) ?_
        refine x_stk (stk' := [.int (zI 0)]) rfl ?_
        refine z_if_eq (tgt := 517) C dL_law_512 (by decide) (rg_of (by omega) (by omega)) (fun c_22 => ?_) (fun c_22 => ?_)
        · refine x_goto (tgt := 1801) C dL_law_517 (by decide) ?_
          refine x_sub (lv' := [(4, .int (zI (i : Int))), (3, .ref ou), (2, .ref md), (1, .ref xa), (0, .ref b)]) [2, 3, 4, 5, 6] rfl ?_
          exact x_wid (by omega) (by omega) (kk _ _ _ hC.mono hM hOJ.x hK.mono)
        · exfalso; omega
    · exfalso; omega
  · refine x_stk (stk' := [.int (zI (t_st σ ((xs (i + 1)).toInt)))]) (by rw [hk]; rfl) ?_
    refine x_istore (lv' := [(5, .int (zI (t_st σ ((xs (i + 1)).toInt)))), (4, .int (zI (i : Int))), (3, .ref ou), (2, .ref md), (1, .ref xa), (0, .ref b)]) C dL_law_475 (by decide) rfl ?_
    refine x_aload_n C dL_law_477 rfl 3 rfl ?_
    refine x_aload_n C dL_law_478 rfl 5 rfl ?_
    refine x_iload C dL_law_479 1 rfl ?_
    refine z_iconst C dL_law_481 ?_
    refine z_iadd C dL_law_482 rfl ?_
    refine z_sld C hX (i + 1) dL_law_483 (by omega) (by omega) ?_
    obtain ⟨fo9, cm9, Ci9, Su9, A9, hY9⟩ := hM
    refine x_callV (n := 1) (ci := 10) (Cn := RX9) (T := TX9) (N := 29) (cc9 := cells + 1) (ss9 := slots + 6) (rest := []) C dL_law_484 (c_X9_fits (kxL E) C.st G z μ3 _ σ n _ _ _ _ _ _ ((xs (i + 1)).toInt) hY9 hK.1 (by omega)) gL_law_X9_fits rfl (by decide +kernel) ⟨(Nat.le_of_ble_eq_true rfl), (Nat.le_of_ble_eq_true rfl)⟩ rfl hY9.ob rfl rfl (Nat.le_of_ble_eq_true rfl) rfl rfl ⟨by omega, by omega⟩ nX_no (fun v23 μ24 hv25 => ?_)
    obtain ⟨r26, hw28, hmr, hF9⟩ := hv25
    subst hw28
    have hC : RepC G z μ24 xa σ n := hF9.repc hC
    have hOJ : OJx G μ24 ou := hF9.ojx hOJ
    have hM : RepM G μ24 md σ (t_st σ ((xs (i + 1)).toInt)) := by (rcases hmr with ⟨a1, a2, a3⟩ | ⟨a1, a2⟩; exact absurd a1 ht; exact a2)
    refine x_stk (stk' := [.int (zI r26)]) rfl ?_
    refine x_istore (lv' := [(6, .int (zI r26)), (5, .int (zI (t_st σ ((xs (i + 1)).toInt)))), (4, .int (zI (i : Int))), (3, .ref ou), (2, .ref md), (1, .ref xa), (0, .ref b)]) C dL_law_487 (by decide) rfl ?_
    refine x_aload_n C dL_law_489 rfl 4 rfl ?_
    have hM0 := hM
    obtain ⟨fo9, cm9, Ci9, Su9, A9, hY9⟩ := hM
    refine x_callV (n := 0) (ci := 10) (Cn := RX9) (T := TX9) (N := 29) (cc9 := cells + 1) (ss9 := slots + 6) (rest := []) C dL_law_490 (c_X9_thrown (kxL E) C.st G z μ24 _ _ n _ _ _ _ _ _ hY9) gL_law_X9_thrown rfl (by decide +kernel) ⟨(Nat.le_of_ble_eq_true rfl), (Nat.le_of_ble_eq_true rfl)⟩ rfl hY9.ob rfl rfl (Nat.le_of_ble_eq_true rfl) rfl rfl ⟨by omega, by omega⟩ nX_no (fun v29 μ30 hv31 => ?_)
    obtain ⟨r32, hw35, h33, hm34⟩ := hv31
    subst hw35
    rw [hm34]
    have hM := hM0
    refine x_stk (stk' := [.int (zI (t_st σ ((xs (i + 1)).toInt)))]) (by rw [h33]; rfl) ?_
    refine x_iload C dL_law_493 1 rfl ?_
    refine z_icmp_eq (tgt := 500) C dL_law_495 (by decide) (rg_of (by omega) (by omega)) (rg_of (by omega) (by omega)) (fun c_36 => ?_) (fun c_36 => ?_)
    · refine x_iload C dL_law_500 1 rfl ?_
      refine z_if_ne (tgt := 517) C dL_law_502 (by decide) (rg_of (by omega) (by omega)) (fun c_37 => ?_) (fun c_37 => ?_)
      · refine x_goto (tgt := 1801) C dL_law_517 (by decide) ?_
        refine x_sub (lv' := [(4, .int (zI (i : Int))), (3, .ref ou), (2, .ref md), (1, .ref xa), (0, .ref b)]) [2, 3, 4, 5, 6] rfl ?_
        exact x_wid (by omega) (by omega) (kk _ _ _ hC.mono hM hOJ hK.mono)
      · exfalso; omega
    · refine z_iconst C dL_law_498 ?_
      exfalso; omega
set_option maxHeartbeats 4000000 in
set_option maxRecDepth 100000 in
theorem law_placeOf {E : EE} {G : GG} {z b L : Nat} {xs : Nat → Int32} (C : Cx E G z cL_law RL wsL_law room_1 7) (hX : Sc E b L xs) {cells slots : Nat} (hcs : cells + 64 ≤ room_1.cells ∧ slots + 256 ≤ room_1.slots) {μ : Mm} {i n : Nat} (hi : i + 5 ≤ L) (hn5 : n < 512) {xa md ou : Nat} {σ : SS} {tm : Int} (hC : RepC G z μ xa σ n) (hM : RepM G μ md σ tm) (hOJ : OJx G μ ou) (hK : Kv σ n) (kk : ∀ (μ' : Mm) (σ' : SS) (tm' : Int), RepC G z μ' xa σ' (n + 1) → RepM G μ' md σ' tm' → OJx G μ' ou → Kv σ' (n + 1) → Wx E G (cells + 8) (slots + 64) 1801 [(4, .int (zI (i : Int))), (3, .ref ou), (2, .ref md), (1, .ref xa), (0, .ref b)] [] μ') : Wx E G cells slots 520 [(4, .int (zI (i : Int))), (3, .ref ou), (2, .ref md), (1, .ref xa), (0, .ref b)] [] μ := by
  have hL4 := hX.2.2.2
  have hi23 := hK.1.n23
  refine x_aload_n C dL_law_520 rfl 3 rfl ?_
  refine x_aload_n C dL_law_521 rfl 4 rfl ?_
  refine x_iload C dL_law_522 0 rfl ?_
  refine z_iconst C dL_law_524 ?_
  refine z_iadd C dL_law_525 rfl ?_
  refine z_sld C hX (i + 1) dL_law_526 (by omega) (by omega) ?_
  have hz1 := zI_rg (xs (i + 1))
  unfold rg at hz1
  refine x_aload_n C dL_law_527 rfl 1 rfl ?_
  refine x_callSX (n := 3) (cc9 := cells + 1) (ss9 := slots + 6) (rest := []) C dL_law_528 (c_L_placeOf (kxL E) C.st G z μ xa md ou σ n tm ((xs (i + 1)).toInt) hC hM hOJ hK hn5 (by omega)) gL_law_L_placeOf rfl (by decide +kernel) ⟨(Nat.le_of_ble_eq_true rfl), (Nat.le_of_ble_eq_true rfl)⟩ rfl rfl (Nat.le_of_ble_eq_true rfl) rfl rfl ⟨by omega, by omega⟩ nX_no (fun v2 μ3 hv4 => ?_)
  obtain ⟨r5, hw6, hM, hcase⟩ := hv4
  subst hw6
  have htr : 0 ≤ t_st σ ((xs (i + 1)).toInt) ∧ t_st σ ((xs (i + 1)).toInt) ≤ 3 := by (unfold t_st; (repeat split) <;> omega)
  rcases hcase with ⟨hk0, ht0, hC, hOJ⟩ | ⟨ht, hk, hC, hOJ⟩
  · refine x_stk (stk' := [.int (zI 0)]) (by rw [hk0]; rfl) ?_
    refine x_istore (lv' := [(5, .int (zI 0)), (4, .int (zI (i : Int))), (3, .ref ou), (2, .ref md), (1, .ref xa), (0, .ref b)]) C dL_law_531 (by decide) rfl ?_
    refine x_aload_n C dL_law_533 rfl 3 rfl ?_
    refine x_aload_n C dL_law_534 rfl 5 rfl ?_
    refine x_iload C dL_law_535 1 rfl ?_
    refine z_iconst C dL_law_537 ?_
    refine z_iadd C dL_law_538 rfl ?_
    refine z_sld C hX (i + 1) dL_law_539 (by omega) (by omega) ?_
    obtain ⟨fo9, cm9, Ci9, Su9, A9, hY9⟩ := hM
    refine x_callV (n := 1) (ci := 10) (Cn := RX9) (T := TX9) (N := 29) (cc9 := cells + 1) (ss9 := slots + 6) (rest := []) C dL_law_540 (c_X9_placeOf (kxL E) C.st G z μ3 _ σ n _ _ _ _ _ _ ((xs (i + 1)).toInt) hY9 hK.1 (by omega)) gL_law_X9_placeOf rfl (by decide +kernel) ⟨(Nat.le_of_ble_eq_true rfl), (Nat.le_of_ble_eq_true rfl)⟩ rfl hY9.ob rfl rfl (Nat.le_of_ble_eq_true rfl) rfl rfl ⟨by omega, by omega⟩ nX_no (fun v7 μ8 hv9 => ?_)
    obtain ⟨r10, hw12, hmr, hF9⟩ := hv9
    subst hw12
    have hC : RepC G z μ8 xa (σ) n := hF9.repc hC
    have hOJ : OJ G μ8 ou ((zI (σ 8 ((xs (i + 1)).toInt).toNat)).toInt64) := hF9.oj hOJ
    obtain ⟨hr6, hM⟩ : r10 = σ 8 ((xs (i + 1)).toInt).toNat ∧ RepM G μ8 md (σ) 0 := by (rcases hmr with ⟨a1, a2, a3⟩ | ⟨a1, a2⟩; exact ⟨a2, a3⟩; exact absurd ht0 a1)
    refine x_stk (stk' := [.int (zI r10)]) rfl ?_
    refine x_istore (lv' := [(6, .int (zI r10)), (5, .int (zI 0)), (4, .int (zI (i : Int))), (3, .ref ou), (2, .ref md), (1, .ref xa), (0, .ref b)]) C dL_law_543 (by decide) rfl ?_
    refine x_aload_n C dL_law_545 rfl 4 rfl ?_
    have hM0 := hM
    obtain ⟨fo9, cm9, Ci9, Su9, A9, hY9⟩ := hM
    refine x_callV (n := 0) (ci := 10) (Cn := RX9) (T := TX9) (N := 29) (cc9 := cells + 1) (ss9 := slots + 6) (rest := []) C dL_law_546 (c_X9_thrown (kxL E) C.st G z μ8 _ _ n _ _ _ _ _ _ hY9) gL_law_X9_thrown rfl (by decide +kernel) ⟨(Nat.le_of_ble_eq_true rfl), (Nat.le_of_ble_eq_true rfl)⟩ rfl hY9.ob rfl rfl (Nat.le_of_ble_eq_true rfl) rfl rfl ⟨by omega, by omega⟩ nX_no (fun v13 μ14 hv15 => ?_)
    obtain ⟨r16, hw19, h17, hm18⟩ := hv15
    subst hw19
    rw [hm18]
    have hM := hM0
    refine x_stk (stk' := [.int (zI 0)]) (by rw [h17]; rfl) ?_
    refine x_iload C dL_law_549 1 rfl ?_
    refine z_icmp_eq (tgt := 556) C dL_law_551 (by decide) (rg_of (by omega) (by omega)) (rg_of (by omega) (by omega)) (fun c_20 => ?_) (fun c_20 => ?_)
    · refine x_iload C dL_law_556 1 rfl ?_
      refine z_if_ne (tgt := 573) C dL_law_558 (by decide) (rg_of (by omega) (by omega)) (fun c_21 => ?_) (fun c_21 => ?_)
      · exfalso; omega
      · refine x_aload_n C dL_law_561 rfl 3 rfl ?_
        refine z_iconst C dL_law_562 ?_
        refine z_lald C dL_law_563 hOJ ?_
        refine x_iload C dL_law_564 0 rfl ?_
        refine z_i2l C dL_law_566 ?_
        refine z_lsame C dL_law_567 (by rw [hr6]) ?_
        refine x_stk (stk' := [.int (zI 0)]) rfl ?_
        refine z_if_eq (tgt := 573) C dL_law_568 (by decide) (rg_of (by omega) (by omega)) (fun c_22 => ?_) (fun c_22 => ?_)
        · refine x_goto (tgt := 1801) C dL_law_573 (by decide) ?_
          refine x_sub (lv' := [(4, .int (zI (i : Int))), (3, .ref ou), (2, .ref md), (1, .ref xa), (0, .ref b)]) [2, 3, 4, 5, 6] rfl ?_
          exact x_wid (by omega) (by omega) (kk _ _ _ hC.mono hM hOJ.x hK.mono)
        · exfalso; omega
    · exfalso; omega
  · refine x_stk (stk' := [.int (zI (t_st σ ((xs (i + 1)).toInt)))]) (by rw [hk]; rfl) ?_
    refine x_istore (lv' := [(5, .int (zI (t_st σ ((xs (i + 1)).toInt)))), (4, .int (zI (i : Int))), (3, .ref ou), (2, .ref md), (1, .ref xa), (0, .ref b)]) C dL_law_531 (by decide) rfl ?_
    refine x_aload_n C dL_law_533 rfl 3 rfl ?_
    refine x_aload_n C dL_law_534 rfl 5 rfl ?_
    refine x_iload C dL_law_535 1 rfl ?_
    refine z_iconst C dL_law_537 ?_
    refine z_iadd C dL_law_538 rfl ?_
    refine z_sld C hX (i + 1) dL_law_539 (by omega) (by omega) ?_
    obtain ⟨fo9, cm9, Ci9, Su9, A9, hY9⟩ := hM
    refine x_callV (n := 1) (ci := 10) (Cn := RX9) (T := TX9) (N := 29) (cc9 := cells + 1) (ss9 := slots + 6) (rest := []) C dL_law_540 (c_X9_placeOf (kxL E) C.st G z μ3 _ σ n _ _ _ _ _ _ ((xs (i + 1)).toInt) hY9 hK.1 (by omega)) gL_law_X9_placeOf rfl (by decide +kernel) ⟨(Nat.le_of_ble_eq_true rfl), (Nat.le_of_ble_eq_true rfl)⟩ rfl hY9.ob rfl rfl (Nat.le_of_ble_eq_true rfl) rfl rfl ⟨by omega, by omega⟩ nX_no (fun v23 μ24 hv25 => ?_)
    obtain ⟨r26, hw28, hmr, hF9⟩ := hv25
    subst hw28
    have hC : RepC G z μ24 xa σ n := hF9.repc hC
    have hOJ : OJx G μ24 ou := hF9.ojx hOJ
    have hM : RepM G μ24 md σ (t_st σ ((xs (i + 1)).toInt)) := by (rcases hmr with ⟨a1, a2, a3⟩ | ⟨a1, a2⟩; exact absurd a1 ht; exact a2)
    refine x_stk (stk' := [.int (zI r26)]) rfl ?_
    refine x_istore (lv' := [(6, .int (zI r26)), (5, .int (zI (t_st σ ((xs (i + 1)).toInt)))), (4, .int (zI (i : Int))), (3, .ref ou), (2, .ref md), (1, .ref xa), (0, .ref b)]) C dL_law_543 (by decide) rfl ?_
    refine x_aload_n C dL_law_545 rfl 4 rfl ?_
    have hM0 := hM
    obtain ⟨fo9, cm9, Ci9, Su9, A9, hY9⟩ := hM
    refine x_callV (n := 0) (ci := 10) (Cn := RX9) (T := TX9) (N := 29) (cc9 := cells + 1) (ss9 := slots + 6) (rest := []) C dL_law_546 (c_X9_thrown (kxL E) C.st G z μ24 _ _ n _ _ _ _ _ _ hY9) gL_law_X9_thrown rfl (by decide +kernel) ⟨(Nat.le_of_ble_eq_true rfl), (Nat.le_of_ble_eq_true rfl)⟩ rfl hY9.ob rfl rfl (Nat.le_of_ble_eq_true rfl) rfl rfl ⟨by omega, by omega⟩ nX_no (fun v29 μ30 hv31 => ?_)
    obtain ⟨r32, hw35, h33, hm34⟩ := hv31
    subst hw35
    rw [hm34]
    have hM := hM0
    refine x_stk (stk' := [.int (zI (t_st σ ((xs (i + 1)).toInt)))]) (by rw [h33]; rfl) ?_
    refine x_iload C dL_law_549 1 rfl ?_
    refine z_icmp_eq (tgt := 556) C dL_law_551 (by decide) (rg_of (by omega) (by omega)) (rg_of (by omega) (by omega)) (fun c_36 => ?_) (fun c_36 => ?_)
    · refine x_iload C dL_law_556 1 rfl ?_
      refine z_if_ne (tgt := 573) C dL_law_558 (by decide) (rg_of (by omega) (by omega)) (fun c_37 => ?_) (fun c_37 => ?_)
      · refine x_goto (tgt := 1801) C dL_law_573 (by decide) ?_
        refine x_sub (lv' := [(4, .int (zI (i : Int))), (3, .ref ou), (2, .ref md), (1, .ref xa), (0, .ref b)]) [2, 3, 4, 5, 6] rfl ?_
        exact x_wid (by omega) (by omega) (kk _ _ _ hC.mono hM hOJ hK.mono)
      · exfalso; omega
    · refine z_iconst C dL_law_554 ?_
      exfalso; omega
set_option maxHeartbeats 4000000 in
set_option maxRecDepth 100000 in
theorem law_placeByAll {E : EE} {G : GG} {z b L : Nat} {xs : Nat → Int32} (C : Cx E G z cL_law RL wsL_law room_1 7) (hX : Sc E b L xs) {cells slots : Nat} (hcs : cells + 64 ≤ room_1.cells ∧ slots + 256 ≤ room_1.slots) {μ : Mm} {i n : Nat} (hi : i + 5 ≤ L) (hn5 : n < 512) {xa md ou : Nat} {σ : SS} {tm : Int} (hC : RepC G z μ xa σ n) (hM : RepM G μ md σ tm) (hOJ : OJx G μ ou) (hK : Kv σ n) (kk : ∀ (μ' : Mm) (σ' : SS) (tm' : Int), RepC G z μ' xa σ' (n + 1) → RepM G μ' md σ' tm' → OJx G μ' ou → Kv σ' (n + 1) → Wx E G (cells + 8) (slots + 64) 1801 [(4, .int (zI (i : Int))), (3, .ref ou), (2, .ref md), (1, .ref xa), (0, .ref b)] [] μ') : Wx E G cells slots 576 [(4, .int (zI (i : Int))), (3, .ref ou), (2, .ref md), (1, .ref xa), (0, .ref b)] [] μ := by
  have hL4 := hX.2.2.2
  have hi23 := hK.1.n23
  refine x_aload_n C dL_law_576 rfl 3 rfl ?_
  refine x_aload_n C dL_law_577 rfl 4 rfl ?_
  refine x_iload C dL_law_578 0 rfl ?_
  refine z_iconst C dL_law_580 ?_
  refine z_iadd C dL_law_581 rfl ?_
  refine z_sld C hX (i + 1) dL_law_582 (by omega) (by omega) ?_
  have hz1 := zI_rg (xs (i + 1))
  unfold rg at hz1
  refine x_aload_n C dL_law_583 rfl 1 rfl ?_
  refine x_callSX (n := 3) (cc9 := cells + 1) (ss9 := slots + 6) (rest := []) C dL_law_584 (c_L_placeByAll (kxL E) C.st G z μ xa md ou σ n tm ((xs (i + 1)).toInt) hC hM hOJ hK hn5 (by omega)) gL_law_L_placeByAll rfl (by decide +kernel) ⟨(Nat.le_of_ble_eq_true rfl), (Nat.le_of_ble_eq_true rfl)⟩ rfl rfl (Nat.le_of_ble_eq_true rfl) rfl rfl ⟨by omega, by omega⟩ nX_no (fun v2 μ3 hv4 => ?_)
  obtain ⟨r5, hw6, hM, hcase⟩ := hv4
  subst hw6
  have htr : 0 ≤ t_st σ ((xs (i + 1)).toInt) ∧ t_st σ ((xs (i + 1)).toInt) ≤ 3 := by (unfold t_st; (repeat split) <;> omega)
  rcases hcase with ⟨hk0, ht0, hC, hOJ⟩ | ⟨ht, hk, hC, hOJ⟩
  · refine x_stk (stk' := [.int (zI 0)]) (by rw [hk0]; rfl) ?_
    refine x_istore (lv' := [(5, .int (zI 0)), (4, .int (zI (i : Int))), (3, .ref ou), (2, .ref md), (1, .ref xa), (0, .ref b)]) C dL_law_587 (by decide) rfl ?_
    refine x_aload_n C dL_law_589 rfl 3 rfl ?_
    refine x_aload_n C dL_law_590 rfl 5 rfl ?_
    refine x_iload C dL_law_591 1 rfl ?_
    refine z_iconst C dL_law_593 ?_
    refine z_iadd C dL_law_594 rfl ?_
    refine z_sld C hX (i + 1) dL_law_595 (by omega) (by omega) ?_
    obtain ⟨fo9, cm9, Ci9, Su9, A9, hY9⟩ := hM
    refine x_callV (n := 1) (ci := 10) (Cn := RX9) (T := TX9) (N := 29) (cc9 := cells + 1) (ss9 := slots + 6) (rest := []) C dL_law_596 (c_X9_placeByAll (kxL E) C.st G z μ3 _ σ n _ _ _ _ _ _ ((xs (i + 1)).toInt) hY9 hK.1 (by omega)) gL_law_X9_placeByAll rfl (by decide +kernel) ⟨(Nat.le_of_ble_eq_true rfl), (Nat.le_of_ble_eq_true rfl)⟩ rfl hY9.ob rfl rfl (Nat.le_of_ble_eq_true rfl) rfl rfl ⟨by omega, by omega⟩ nX_no (fun v7 μ8 hv9 => ?_)
    obtain ⟨r10, hw12, hmr, hF9⟩ := hv9
    subst hw12
    have hC : RepC G z μ8 xa (σ) n := hF9.repc hC
    have hOJ : OJ G μ8 ou ((zI (uq (fitb σ (((xs (i + 1)).toInt).toNat + 1) (-1)))).toInt64) := hF9.oj hOJ
    obtain ⟨hr6, hM⟩ : r10 = uq (fitb σ (((xs (i + 1)).toInt).toNat + 1) (-1)) ∧ RepM G μ8 md (σ) 0 := by (rcases hmr with ⟨a1, a2, a3⟩ | ⟨a1, a2⟩; exact ⟨a2, a3⟩; exact absurd ht0 a1)
    refine x_stk (stk' := [.int (zI r10)]) rfl ?_
    refine x_istore (lv' := [(6, .int (zI r10)), (5, .int (zI 0)), (4, .int (zI (i : Int))), (3, .ref ou), (2, .ref md), (1, .ref xa), (0, .ref b)]) C dL_law_599 (by decide) rfl ?_
    refine x_aload_n C dL_law_601 rfl 4 rfl ?_
    have hM0 := hM
    obtain ⟨fo9, cm9, Ci9, Su9, A9, hY9⟩ := hM
    refine x_callV (n := 0) (ci := 10) (Cn := RX9) (T := TX9) (N := 29) (cc9 := cells + 1) (ss9 := slots + 6) (rest := []) C dL_law_602 (c_X9_thrown (kxL E) C.st G z μ8 _ _ n _ _ _ _ _ _ hY9) gL_law_X9_thrown rfl (by decide +kernel) ⟨(Nat.le_of_ble_eq_true rfl), (Nat.le_of_ble_eq_true rfl)⟩ rfl hY9.ob rfl rfl (Nat.le_of_ble_eq_true rfl) rfl rfl ⟨by omega, by omega⟩ nX_no (fun v13 μ14 hv15 => ?_)
    obtain ⟨r16, hw19, h17, hm18⟩ := hv15
    subst hw19
    rw [hm18]
    have hM := hM0
    refine x_stk (stk' := [.int (zI 0)]) (by rw [h17]; rfl) ?_
    refine x_iload C dL_law_605 1 rfl ?_
    refine z_icmp_eq (tgt := 612) C dL_law_607 (by decide) (rg_of (by omega) (by omega)) (rg_of (by omega) (by omega)) (fun c_20 => ?_) (fun c_20 => ?_)
    · refine x_iload C dL_law_612 1 rfl ?_
      refine z_if_ne (tgt := 629) C dL_law_614 (by decide) (rg_of (by omega) (by omega)) (fun c_21 => ?_) (fun c_21 => ?_)
      · exfalso; omega
      · refine x_aload_n C dL_law_617 rfl 3 rfl ?_
        refine z_iconst C dL_law_618 ?_
        refine z_lald C dL_law_619 hOJ ?_
        refine x_iload C dL_law_620 0 rfl ?_
        refine z_i2l C dL_law_622 ?_
        refine z_lsame C dL_law_623 (by rw [hr6]) ?_
        refine x_stk (stk' := [.int (zI 0)]) rfl ?_
        refine z_if_eq (tgt := 629) C dL_law_624 (by decide) (rg_of (by omega) (by omega)) (fun c_22 => ?_) (fun c_22 => ?_)
        · refine x_goto (tgt := 1801) C dL_law_629 (by decide) ?_
          refine x_sub (lv' := [(4, .int (zI (i : Int))), (3, .ref ou), (2, .ref md), (1, .ref xa), (0, .ref b)]) [2, 3, 4, 5, 6] rfl ?_
          exact x_wid (by omega) (by omega) (kk _ _ _ hC.mono hM hOJ.x hK.mono)
        · exfalso; omega
    · exfalso; omega
  · refine x_stk (stk' := [.int (zI (t_st σ ((xs (i + 1)).toInt)))]) (by rw [hk]; rfl) ?_
    refine x_istore (lv' := [(5, .int (zI (t_st σ ((xs (i + 1)).toInt)))), (4, .int (zI (i : Int))), (3, .ref ou), (2, .ref md), (1, .ref xa), (0, .ref b)]) C dL_law_587 (by decide) rfl ?_
    refine x_aload_n C dL_law_589 rfl 3 rfl ?_
    refine x_aload_n C dL_law_590 rfl 5 rfl ?_
    refine x_iload C dL_law_591 1 rfl ?_
    refine z_iconst C dL_law_593 ?_
    refine z_iadd C dL_law_594 rfl ?_
    refine z_sld C hX (i + 1) dL_law_595 (by omega) (by omega) ?_
    obtain ⟨fo9, cm9, Ci9, Su9, A9, hY9⟩ := hM
    refine x_callV (n := 1) (ci := 10) (Cn := RX9) (T := TX9) (N := 29) (cc9 := cells + 1) (ss9 := slots + 6) (rest := []) C dL_law_596 (c_X9_placeByAll (kxL E) C.st G z μ3 _ σ n _ _ _ _ _ _ ((xs (i + 1)).toInt) hY9 hK.1 (by omega)) gL_law_X9_placeByAll rfl (by decide +kernel) ⟨(Nat.le_of_ble_eq_true rfl), (Nat.le_of_ble_eq_true rfl)⟩ rfl hY9.ob rfl rfl (Nat.le_of_ble_eq_true rfl) rfl rfl ⟨by omega, by omega⟩ nX_no (fun v23 μ24 hv25 => ?_)
    obtain ⟨r26, hw28, hmr, hF9⟩ := hv25
    subst hw28
    have hC : RepC G z μ24 xa σ n := hF9.repc hC
    have hOJ : OJx G μ24 ou := hF9.ojx hOJ
    have hM : RepM G μ24 md σ (t_st σ ((xs (i + 1)).toInt)) := by (rcases hmr with ⟨a1, a2, a3⟩ | ⟨a1, a2⟩; exact absurd a1 ht; exact a2)
    refine x_stk (stk' := [.int (zI r26)]) rfl ?_
    refine x_istore (lv' := [(6, .int (zI r26)), (5, .int (zI (t_st σ ((xs (i + 1)).toInt)))), (4, .int (zI (i : Int))), (3, .ref ou), (2, .ref md), (1, .ref xa), (0, .ref b)]) C dL_law_599 (by decide) rfl ?_
    refine x_aload_n C dL_law_601 rfl 4 rfl ?_
    have hM0 := hM
    obtain ⟨fo9, cm9, Ci9, Su9, A9, hY9⟩ := hM
    refine x_callV (n := 0) (ci := 10) (Cn := RX9) (T := TX9) (N := 29) (cc9 := cells + 1) (ss9 := slots + 6) (rest := []) C dL_law_602 (c_X9_thrown (kxL E) C.st G z μ24 _ _ n _ _ _ _ _ _ hY9) gL_law_X9_thrown rfl (by decide +kernel) ⟨(Nat.le_of_ble_eq_true rfl), (Nat.le_of_ble_eq_true rfl)⟩ rfl hY9.ob rfl rfl (Nat.le_of_ble_eq_true rfl) rfl rfl ⟨by omega, by omega⟩ nX_no (fun v29 μ30 hv31 => ?_)
    obtain ⟨r32, hw35, h33, hm34⟩ := hv31
    subst hw35
    rw [hm34]
    have hM := hM0
    refine x_stk (stk' := [.int (zI (t_st σ ((xs (i + 1)).toInt)))]) (by rw [h33]; rfl) ?_
    refine x_iload C dL_law_605 1 rfl ?_
    refine z_icmp_eq (tgt := 612) C dL_law_607 (by decide) (rg_of (by omega) (by omega)) (rg_of (by omega) (by omega)) (fun c_36 => ?_) (fun c_36 => ?_)
    · refine x_iload C dL_law_612 1 rfl ?_
      refine z_if_ne (tgt := 629) C dL_law_614 (by decide) (rg_of (by omega) (by omega)) (fun c_37 => ?_) (fun c_37 => ?_)
      · refine x_goto (tgt := 1801) C dL_law_629 (by decide) ?_
        refine x_sub (lv' := [(4, .int (zI (i : Int))), (3, .ref ou), (2, .ref md), (1, .ref xa), (0, .ref b)]) [2, 3, 4, 5, 6] rfl ?_
        exact x_wid (by omega) (by omega) (kk _ _ _ hC.mono hM hOJ hK.mono)
      · exfalso; omega
    · refine z_iconst C dL_law_610 ?_
      exfalso; omega
