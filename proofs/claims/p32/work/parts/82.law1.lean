/-! p32: the law -/
set_option maxHeartbeats 8000000 in
set_option maxRecDepth 100000 in
theorem law_setHeight {E : EE} {G : GG} {z : Nat} (C : Cx E G z cL_law RL wsL_law room_1 27) {cells slots : Nat} (hcs : cells + 800 ≤ room_1.cells ∧ slots + 47000 ≤ room_1.slots) {μ : Mm} {xa bs : Nat} {A : Nat → Nat} {σ : SS} {n τ : Nat} {f9 kd v : Int} {p w s : Nat} (hS : LwS G z μ xa A σ n) (hn5 : n < 512) (hv9 : 0 ≤ v ∧ v < 100000000) (hp9 : p < 64) (hw9 : (σ 12 0 = 0 ∧ w = 0) ∨ (w : Int) < σ 12 0) (hs9 : (σ 7 0 = 0 ∧ s = 0) ∨ (s : Int) < σ 7 0) (kk : ∀ (μ' : Mm) (σ' : SS), LwS G z μ' xa A σ' (n + 1) → Wx E G (cells + 800) (slots + 47000) 2027 [(0, .ref bs), (1, .ref xa), (2, .ref (A 0)), (3, .ref (A 1)), (4, .ref (A 2)), (5, .ref (A 3)), (6, .ref (A 4)), (7, .ref (A 5)), (8, .ref (A 6)), (9, .ref (A 7)), (10, .ref (A 8)), (11, .ref (A 9)), (12, .ref (A 10)), (13, .ref (A 11)), (14, .ref (A 12)), (15, .int (zI 1)), (16, .int (zI (τ : Int))), (19, .int (zI v))] [] μ') : Wx E G cells slots 269 [(0, .ref bs), (1, .ref xa), (2, .ref (A 0)), (3, .ref (A 1)), (4, .ref (A 2)), (5, .ref (A 3)), (6, .ref (A 4)), (7, .ref (A 5)), (8, .ref (A 6)), (9, .ref (A 7)), (10, .ref (A 8)), (11, .ref (A 9)), (12, .ref (A 10)), (13, .ref (A 11)), (14, .ref (A 12)), (15, .int (zI 1)), (16, .int (zI (τ : Int))), (17, .int (zI f9)), (18, .int (zI kd)), (19, .int (zI v)), (20, .int (zI (p : Int))), (21, .int (zI (w : Int))), (22, .int (zI (s : Int)))] [] μ := by
  obtain ⟨hC, hK, hn, hh, ⟨K, hz, hZB⟩, hd, hy, hg, hu, ⟨W, hw, hWR⟩, hs, ht, he, hb, C9, hcc⟩ := hS
  have hGv := hC.gv
  have h7 := hK.1.n7
  have h12 := hK.1.n12
  have h18 := hK.1.n18
  have h23 := hK.1.n23
  have J300 : ∀ (hg9 : Int) (hh9 : 0 ≤ hg9 ∧ hg9 ≤ 9), Wx E G cells slots 300 [(0, .ref bs), (1, .ref xa), (2, .ref (A 0)), (3, .ref (A 1)), (4, .ref (A 2)), (5, .ref (A 3)), (6, .ref (A 4)), (7, .ref (A 5)), (8, .ref (A 6)), (9, .ref (A 7)), (10, .ref (A 8)), (11, .ref (A 9)), (12, .ref (A 10)), (13, .ref (A 11)), (14, .ref (A 12)), (15, .int (zI 1)), (16, .int (zI (τ : Int))), (17, .int (zI f9)), (18, .int (zI kd)), (19, .int (zI v)), (20, .int (zI (p : Int))), (21, .int (zI (w : Int))), (22, .int (zI (s : Int)))] [.int (zI hg9)] μ := by
    intro hg9 hh9
    refine x_istore (lv' := [(23, .int (zI hg9)), (0, .ref bs), (1, .ref xa), (2, .ref (A 0)), (3, .ref (A 1)), (4, .ref (A 2)), (5, .ref (A 3)), (6, .ref (A 4)), (7, .ref (A 5)), (8, .ref (A 6)), (9, .ref (A 7)), (10, .ref (A 8)), (11, .ref (A 9)), (12, .ref (A 10)), (13, .ref (A 11)), (14, .ref (A 12)), (15, .int (zI 1)), (16, .int (zI (τ : Int))), (17, .int (zI f9)), (18, .int (zI kd)), (19, .int (zI v)), (20, .int (zI (p : Int))), (21, .int (zI (w : Int))), (22, .int (zI (s : Int)))]) C dL_law_300 (by decide) rfl ?_
    refine x_aload_n C dL_law_302 rfl 4 rfl ?_
    refine x_iload C dL_law_303 21 rfl ?_
    refine x_iload C dL_law_305 0 rfl ?_
    refine z_iast (j := p) C dL_law_307 hh (by omega) (by omega) (by decide) (fun μ1 hhw hF2 => ?_)
    have hC : RepC G z μ1 xa σ n := hF2.repc hC
    have hn := hF2.ai hn
    have hz := hF2.ol hz
    have hd := hF2.ai hd
    have hy := hF2.ai hy
    have hg := hF2.ai hg
    have hu := hF2.ai hu
    have hw := hF2.ai hw
    have hs := hF2.ai hs
    have ht := hF2.ai ht
    have he := hF2.ai he
    have hb := hF2.ai hb
    have hcc := hF2.ai hcc
    have hh := hhw
    have hh : AI G μ1 (A 1) 4001 64 ((n_ph σ p hg9) 0) := hh
    have hIp := Iv_ph (p := p) hK.1 hh9
    refine z_iconst C dL_law_308 ?_
    refine x_istore (lv' := [(24, .int (zI 0)), (23, .int (zI hg9)), (0, .ref bs), (1, .ref xa), (2, .ref (A 0)), (3, .ref (A 1)), (4, .ref (A 2)), (5, .ref (A 3)), (6, .ref (A 4)), (7, .ref (A 5)), (8, .ref (A 6)), (9, .ref (A 7)), (10, .ref (A 8)), (11, .ref (A 9)), (12, .ref (A 10)), (13, .ref (A 11)), (14, .ref (A 12)), (15, .int (zI 1)), (16, .int (zI (τ : Int))), (17, .int (zI f9)), (18, .int (zI kd)), (19, .int (zI v)), (20, .int (zI (p : Int))), (21, .int (zI (w : Int))), (22, .int (zI (s : Int)))]) C dL_law_309 (by decide) rfl ?_
    refine z_iconst C dL_law_311 ?_
    refine x_istore (lv' := [(25, .int (zI 0)), (24, .int (zI 0)), (23, .int (zI hg9)), (0, .ref bs), (1, .ref xa), (2, .ref (A 0)), (3, .ref (A 1)), (4, .ref (A 2)), (5, .ref (A 3)), (6, .ref (A 4)), (7, .ref (A 5)), (8, .ref (A 6)), (9, .ref (A 7)), (10, .ref (A 8)), (11, .ref (A 9)), (12, .ref (A 10)), (13, .ref (A 11)), (14, .ref (A 12)), (15, .int (zI 1)), (16, .int (zI (τ : Int))), (17, .int (zI f9)), (18, .int (zI kd)), (19, .int (zI v)), (20, .int (zI (p : Int))), (21, .int (zI (w : Int))), (22, .int (zI (s : Int)))]) C dL_law_312 (by decide) rfl ?_
    have L314 : ∀ (M9 : Nat) (μk : Mm) (mv : Int) (k : Nat) (kz : Int) (hkz : kz = (k : Int)) (hC : RepC G z μk xa σ n) (hn : AI G μk (A 0) 3006 4 (nF σ)) (hh : AI G μk (A 1) 4001 64 ((n_ph σ p hg9) 0)) (hz : OL G μk (A 2) 4002 K) (hd : AI G μk (A 3) 4003 35 (dF σ)) (hy : AI G μk (A 4) 4004 7 (σ 6)) (hg : AI G μk (A 5) 4005 12 (gF (shS σ p hg9 k))) (hu : AI G μk (A 6) 4006 7 (uF σ)) (hw : AI G μk (A 7) 3007 30 W) (hs : AI G μk (A 8) 4008 6 (sF σ)) (ht : AI G μk (A 9) 4009 6 (tF σ)) (he : AI G μk (A 10) 4010 36 (σ 22)) (hb : AI G μk (A 11) 4011 4 (σ 19)) (hcc : AI G μk (A 12) 3010 64 C9) (hk : (k : Int) ≤ σ 7 0) (hmv : mv = b_setHeight σ p hg9 k) (hmr : 0 ≤ mv ∧ mv ≤ k) (hM9 : 6 - k = M9), Wx E G cells slots 314 [(25, .int (zI kz)), (24, .int (zI mv)), (23, .int (zI hg9)), (0, .ref bs), (1, .ref xa), (2, .ref (A 0)), (3, .ref (A 1)), (4, .ref (A 2)), (5, .ref (A 3)), (6, .ref (A 4)), (7, .ref (A 5)), (8, .ref (A 6)), (9, .ref (A 7)), (10, .ref (A 8)), (11, .ref (A 9)), (12, .ref (A 10)), (13, .ref (A 11)), (14, .ref (A 12)), (15, .int (zI 1)), (16, .int (zI (τ : Int))), (17, .int (zI f9)), (18, .int (zI kd)), (19, .int (zI v)), (20, .int (zI (p : Int))), (21, .int (zI (w : Int))), (22, .int (zI (s : Int)))] [] μk := by
      intro M9
      induction M9 using Nat.strongRecOn with
      | ind M9 ih314 =>
        intro μk mv k kz hkz hC hn hh hz hd hy hg hu hw hs ht he hb hcc hk hmv hmr hM9
        subst hkz
        refine x_iload C dL_law_314 0 rfl ?_
        refine x_aload_n C dL_law_316 rfl 5 rfl ?_
        refine z_iconst C dL_law_317 ?_
        refine z_iald (j := 0) C dL_law_318 hn (by omega) (by omega) (by decide) ?_
        refine x_stk (stk' := [.int (zI (σ 7 0)), .int (zI (k : Int))]) (by (rfl)) ?_
        refine z_icmp_ge (tgt := 406) C dL_law_319 (by decide) (rg_of (by omega) (by omega)) (rg_of (by omega) (by omega)) (fun c_3 => ?_) (fun c_3 => ?_)
        · have hkn : (σ 7 0).toNat = k := by omega
          have hts : t_setHeight (p : Int) hg9 = 0 := by (unfold t_setHeight; rw [if_pos ⟨by omega, by omega⟩, if_pos hh9])
          refine x_aload_n C dL_law_406 rfl 4 rfl ?_
          refine x_iload C dL_law_407 23 rfl ?_
          refine x_iload C dL_law_409 2 rfl ?_
          refine x_callV (n := 2) (ci := 9) (Cn := RX8) (T := TX8) (N := 10) (cc9 := (cells + 2)) (ss9 := (slots + 12)) (rest := []) C dL_law_411 (c_X8_setHeight (kxL E) C.st G z μk xa σ n (p : Int) hg9 hC hK.1 (by omega) (by omega)) gL_law_X8_setHeight rfl (by decide +kernel) ⟨(Nat.le_of_ble_eq_true rfl), (Nat.le_of_ble_eq_true rfl)⟩ rfl hC.ob rfl rfl (Nat.le_of_ble_eq_true rfl) rfl rfl ⟨(by omega), (by omega)⟩ (fun En hEn => by (exfalso; rcases hEn with ⟨-, h9⟩ | ⟨-, h9⟩ <;> (rw [hts] at h9; omega))) (fun v4 μ5 hv6 => ?_)
          obtain ⟨r7, hw10, h8⟩ := hv6
          subst hw10
          obtain ⟨⟨hts2, hr9, hC⟩, hF9⟩ := h8
          have hF11 := hF9
          have hn := hF11.ai hn
          have hh := hF11.ai hh
          have hz := hF11.ol hz
          have hd := hF11.ai hd
          have hy := hF11.ai hy
          have hg := hF11.ai hg
          have hu := hF11.ai hu
          have hw := hF11.ai hw
          have hs := hF11.ai hs
          have ht := hF11.ai ht
          have he := hF11.ai he
          have hb := hF11.ai hb
          have hcc := hF11.ai hcc
          rw [Int.toNat_natCast, hkn] at hr9
          refine x_stk (stk' := [.int (zI r7)]) rfl ?_
          refine x_iload C dL_law_414 1 rfl ?_
          refine z_icmp_ne (tgt := 423) C dL_law_416 (by decide) (rg_of (by omega) (by omega)) (rg_of (by omega) (by omega)) (fun c_12 => ?_) (fun c_12 => ?_)
          · exfalso; omega
          · refine z_iconst C dL_law_419 ?_
            refine x_goto (tgt := 424) C dL_law_420 (by decide) ?_
            refine x_istore (lv' := [(15, .int (zI 1)), (25, .int (zI (k : Int))), (24, .int (zI mv)), (23, .int (zI hg9)), (0, .ref bs), (1, .ref xa), (2, .ref (A 0)), (3, .ref (A 1)), (4, .ref (A 2)), (5, .ref (A 3)), (6, .ref (A 4)), (7, .ref (A 5)), (8, .ref (A 6)), (9, .ref (A 7)), (10, .ref (A 8)), (11, .ref (A 9)), (12, .ref (A 10)), (13, .ref (A 11)), (14, .ref (A 12)), (16, .int (zI (τ : Int))), (17, .int (zI f9)), (18, .int (zI kd)), (19, .int (zI v)), (20, .int (zI (p : Int))), (21, .int (zI (w : Int))), (22, .int (zI (s : Int)))]) C dL_law_424 (by decide) rfl ?_
            refine x_goto (tgt := 2027) C dL_law_426 (by decide) ?_
            refine x_sub (lv' := [(0, .ref bs), (1, .ref xa), (2, .ref (A 0)), (3, .ref (A 1)), (4, .ref (A 2)), (5, .ref (A 3)), (6, .ref (A 4)), (7, .ref (A 5)), (8, .ref (A 6)), (9, .ref (A 7)), (10, .ref (A 8)), (11, .ref (A 9)), (12, .ref (A 10)), (13, .ref (A 11)), (14, .ref (A 12)), (15, .int (zI 1)), (16, .int (zI (τ : Int))), (19, .int (zI v))]) [4, 5, 6, 7, 8, 9, 10, 11, 12, 13, 14, 15, 16, 17, 18, 0, 19, 22] rfl ?_
            exact x_wid (by omega) (by omega) (kk _ (n_setHeight σ p hg9) ⟨hC.mono, (Kv_setHeight (p := (p : Int)) hK hts), (by (rw [nF_c (σ := σ) (σ' := (n_setHeight σ p hg9)) rfl rfl rfl rfl]; exact hn)), hh, ⟨_, hz, hZB.c rfl⟩, (by (rw [dF_c (σ := σ) (σ' := (n_setHeight σ p hg9)) rfl rfl rfl rfl]; exact hd)), hy, (by (have hg8 := hg; rw [← hkn] at hg8; exact hg8)), (by (rw [uF_c (σ := σ) (σ' := (n_setHeight σ p hg9)) rfl rfl]; exact hu)), ⟨_, hw, hWR.c rfl rfl rfl rfl rfl rfl⟩, (by (rw [sF_c (σ := σ) (σ' := (n_setHeight σ p hg9)) rfl]; exact hs)), (by (rw [tF_c (σ := σ) (σ' := (n_setHeight σ p hg9)) rfl]; exact ht)), he, hb, _, hcc⟩)
        · have h8 := hK.1.r8 k (by omega)
          have h9 := hK.1.r9 k (by omega)
          refine x_aload_n C dL_law_322 rfl 6 rfl ?_
          refine x_aload C dL_law_323 8 rfl ?_
          refine x_aload C dL_law_325 9 rfl ?_
          refine x_iload C dL_law_327 0 rfl ?_
          refine z_iconst C dL_law_329 ?_
          refine z_iadd C dL_law_330 rfl ?_
          refine x_stk (stk' := [.int (zI ((k + 1 : Nat) : Int)), .ref (A 4), .ref (A 3), .ref (A 1)]) (by rw [show (k : Int) + 1 = ((k + 1 : Nat) : Int) by omega]) ?_
          refine z_iconst C dL_law_331 ?_
          refine x_callS (n := 5) (cc9 := cells) (ss9 := slots) (rest := []) C dL_law_332 (c_L_all (kxL E) C.st G z μk (A 1) (A 3) (A 4) (n_ph σ p hg9) n (k + 1) (-1) hIp hh (by (rw [dF_c (σ := σ) (σ' := (n_ph σ p hg9)) rfl rfl rfl rfl]; exact hd)) hy (by omega) (by omega)) gL_law_L_all rfl (by decide +kernel) ⟨(Nat.le_of_ble_eq_true rfl), (Nat.le_of_ble_eq_true rfl)⟩ rfl rfl (Nat.le_of_ble_eq_true rfl) rfl rfl ⟨(by omega), (by omega)⟩ nX_no (fun v13 μ14 hv15 => ?_)
          obtain ⟨r16, hw19, h17, hm18⟩ := hv15
          subst hw19
          rw [hm18]
          refine x_stk (stk' := [.long r16]) rfl ?_
          refine x_callS (n := 1) (cc9 := cells) (ss9 := slots) (rest := []) C dL_law_335 (c_L_only (kxL E) C.st G z μk r16) gL_law_L_only rfl (by decide +kernel) ⟨(Nat.le_of_ble_eq_true rfl), (Nat.le_of_ble_eq_true rfl)⟩ rfl rfl (Nat.le_of_ble_eq_true rfl) rfl rfl ⟨(by omega), (by omega)⟩ nX_no (fun v20 μ21 hv22 => ?_)
          obtain ⟨r23, hw26, h24, hm25⟩ := hv22
          subst hw26
          rw [hm25]
          have ho1 : r23 = npl σ p hg9 k := h24.trans (uq_cong (fun j hj => h17 j hj))
          have hor : -1 ≤ npl σ p hg9 k ∧ npl σ p hg9 k ≤ 63 := uq_rg _
          refine x_stk (stk' := [.int (zI r23)]) rfl ?_
          refine x_istore (lv' := [(26, .int (zI r23)), (25, .int (zI (k : Int))), (24, .int (zI mv)), (23, .int (zI hg9)), (0, .ref bs), (1, .ref xa), (2, .ref (A 0)), (3, .ref (A 1)), (4, .ref (A 2)), (5, .ref (A 3)), (6, .ref (A 4)), (7, .ref (A 5)), (8, .ref (A 6)), (9, .ref (A 7)), (10, .ref (A 8)), (11, .ref (A 9)), (12, .ref (A 10)), (13, .ref (A 11)), (14, .ref (A 12)), (15, .int (zI 1)), (16, .int (zI (τ : Int))), (17, .int (zI f9)), (18, .int (zI kd)), (19, .int (zI v)), (20, .int (zI (p : Int))), (21, .int (zI (w : Int))), (22, .int (zI (s : Int)))]) C dL_law_338 (by decide) rfl ?_
          refine x_iload C dL_law_340 2 rfl ?_
          refine x_iload C dL_law_342 0 rfl ?_
          refine x_aload C dL_law_344 11 rfl ?_
          refine z_iconst C dL_law_346 ?_
          refine x_iload C dL_law_347 1 rfl ?_
          refine z_imul C dL_law_349 rfl ?_
          refine z_iald (j := 2 * k) C dL_law_350 hg (by omega) (by omega) (by decide) ?_
          refine x_stk (stk' := [.int (zI (σ 8 k)), .int (zI r23), .int (zI mv)]) (by (rw [shS_g0])) ?_
          refine z_icmp_ne (tgt := 358) C dL_law_351 (by decide) (rg_of (by omega) (by omega)) (rg_of (by omega) (by omega)) (fun c_27 => ?_) (fun c_27 => ?_)
          · refine z_iconst C dL_law_358 ?_
            refine z_iadd C dL_law_359 rfl ?_
            refine x_istore (lv' := [(24, .int (zI (mv + 1))), (26, .int (zI r23)), (25, .int (zI (k : Int))), (23, .int (zI hg9)), (0, .ref bs), (1, .ref xa), (2, .ref (A 0)), (3, .ref (A 1)), (4, .ref (A 2)), (5, .ref (A 3)), (6, .ref (A 4)), (7, .ref (A 5)), (8, .ref (A 6)), (9, .ref (A 7)), (10, .ref (A 8)), (11, .ref (A 9)), (12, .ref (A 10)), (13, .ref (A 11)), (14, .ref (A 12)), (15, .int (zI 1)), (16, .int (zI (τ : Int))), (17, .int (zI f9)), (18, .int (zI kd)), (19, .int (zI v)), (20, .int (zI (p : Int))), (21, .int (zI (w : Int))), (22, .int (zI (s : Int)))]) C dL_law_360 (by decide) rfl ?_
            refine x_aload C dL_law_362 11 rfl ?_
            refine z_iconst C dL_law_364 ?_
            refine x_iload C dL_law_365 2 rfl ?_
            refine z_imul C dL_law_367 rfl ?_
            refine z_iconst C dL_law_368 ?_
            refine z_iadd C dL_law_369 rfl ?_
            refine x_dup2 C dL_law_370 rfl rfl ?_
            refine z_iald (j := 2 * k + 1) C dL_law_371 hg (by omega) (by omega) (by decide) ?_
            refine x_stk (stk' := [.int (zI (σ 9 k)), .int (zI ((2 * (k : Int)) + 1)), .ref (A 5)]) (by (rw [shS_g1])) ?_
            refine x_iload C dL_law_372 1 rfl ?_
            refine x_aload C dL_law_374 11 rfl ?_
            refine z_iconst C dL_law_376 ?_
            refine x_iload C dL_law_377 2 rfl ?_
            refine z_imul C dL_law_379 rfl ?_
            refine z_iald (j := 2 * k) C dL_law_380 hg (by omega) (by omega) (by decide) ?_
            refine x_stk (stk' := [.int (zI (σ 8 k)), .int (zI r23), .int (zI (σ 9 k)), .int (zI ((2 * (k : Int)) + 1)), .ref (A 5)]) (by (rw [shS_g0])) ?_
            refine z_icmp_ne (tgt := 388) C dL_law_381 (by decide) (rg_of (by omega) (by omega)) (rg_of (by omega) (by omega)) (fun c_28 => ?_) (fun c_28 => ?_)
            · refine z_iconst C dL_law_388 ?_
              refine z_iadd C dL_law_389 rfl ?_
              refine z_iast (j := 2 * k + 1) C dL_law_390 hg (by omega) (by omega) (by decide) (fun μ29 hgw hF30 => ?_)
              have hC : RepC G z μ29 xa σ n := hF30.repc hC
              have hn := hF30.ai hn
              have hh := hF30.ai hh
              have hz := hF30.ol hz
              have hd := hF30.ai hd
              have hy := hF30.ai hy
              have hu := hF30.ai hu
              have hw := hF30.ai hw
              have hs := hF30.ai hs
              have ht := hF30.ai ht
              have he := hF30.ai he
              have hb := hF30.ai hb
              have hcc := hF30.ai hcc
              have hg := hgw
              refine x_aload C dL_law_391 11 rfl ?_
              refine z_iconst C dL_law_393 ?_
              refine x_iload C dL_law_394 2 rfl ?_
              refine z_imul C dL_law_396 rfl ?_
              refine x_iload C dL_law_397 1 rfl ?_
              refine z_iast (j := 2 * k) C dL_law_399 hg (by omega) (by omega) (by decide) (fun μ31 hgw hF32 => ?_)
              have hC : RepC G z μ31 xa σ n := hF32.repc hC
              have hn := hF32.ai hn
              have hh := hF32.ai hh
              have hz := hF32.ol hz
              have hd := hF32.ai hd
              have hy := hF32.ai hy
              have hu := hF32.ai hu
              have hw := hF32.ai hw
              have hs := hF32.ai hs
              have ht := hF32.ai ht
              have he := hF32.ai he
              have hb := hF32.ai hb
              have hcc := hF32.ai hcc
              have hg := hgw
              refine z_iinc (lv' := [(25, .int (zI ((k : Int) + 1))), (24, .int (zI (mv + 1))), (26, .int (zI r23)), (23, .int (zI hg9)), (0, .ref bs), (1, .ref xa), (2, .ref (A 0)), (3, .ref (A 1)), (4, .ref (A 2)), (5, .ref (A 3)), (6, .ref (A 4)), (7, .ref (A 5)), (8, .ref (A 6)), (9, .ref (A 7)), (10, .ref (A 8)), (11, .ref (A 9)), (12, .ref (A 10)), (13, .ref (A 11)), (14, .ref (A 12)), (15, .int (zI 1)), (16, .int (zI (τ : Int))), (17, .int (zI f9)), (18, .int (zI kd)), (19, .int (zI v)), (20, .int (zI (p : Int))), (21, .int (zI (w : Int))), (22, .int (zI (s : Int)))]) C dL_law_400 2 rfl rfl (by decide) rfl ?_
              refine x_goto (tgt := 314) C dL_law_403 (by decide) ?_
              refine x_sub (lv' := [(25, .int (zI ((k : Int) + 1))), (24, .int (zI (mv + 1))), (23, .int (zI hg9)), (0, .ref bs), (1, .ref xa), (2, .ref (A 0)), (3, .ref (A 1)), (4, .ref (A 2)), (5, .ref (A 3)), (6, .ref (A 4)), (7, .ref (A 5)), (8, .ref (A 6)), (9, .ref (A 7)), (10, .ref (A 8)), (11, .ref (A 9)), (12, .ref (A 10)), (13, .ref (A 11)), (14, .ref (A 12)), (15, .int (zI 1)), (16, .int (zI (τ : Int))), (17, .int (zI f9)), (18, .int (zI kd)), (19, .int (zI v)), (20, .int (zI (p : Int))), (21, .int (zI (w : Int))), (22, .int (zI (s : Int)))]) [0, 1, 3, 4, 5, 6, 7, 8, 9, 10, 11, 12, 13, 14, 15, 16, 17, 18, 19, 20, 21, 22, 23, 24, 25, 26] rfl ?_
              have hg : AI G μ31 (A 5) 4005 12 (gF (shS σ p hg9 (k + 1))) := hg.cong (fun j _ => gS_s ho1 (by omega) j)
              exact ih314 _ (by omega) _ _ (k + 1) _ (by omega) hC hn hh hz hd hy hg hu hw hs ht he hb hcc (by omega) (by (rw [show b_setHeight σ p hg9 (k + 1) = b_setHeight σ p hg9 k + (if npl σ p hg9 k ≠ σ 8 k then 1 else 0) from rfl]; split <;> omega)) (by omega) rfl
            · exfalso; omega
          · refine z_iconst C dL_law_354 ?_
            refine x_goto (tgt := 359) C dL_law_355 (by decide) ?_
            refine z_iadd C dL_law_359 rfl ?_
            refine x_istore (lv' := [(24, .int (zI (mv + 0))), (26, .int (zI r23)), (25, .int (zI (k : Int))), (23, .int (zI hg9)), (0, .ref bs), (1, .ref xa), (2, .ref (A 0)), (3, .ref (A 1)), (4, .ref (A 2)), (5, .ref (A 3)), (6, .ref (A 4)), (7, .ref (A 5)), (8, .ref (A 6)), (9, .ref (A 7)), (10, .ref (A 8)), (11, .ref (A 9)), (12, .ref (A 10)), (13, .ref (A 11)), (14, .ref (A 12)), (15, .int (zI 1)), (16, .int (zI (τ : Int))), (17, .int (zI f9)), (18, .int (zI kd)), (19, .int (zI v)), (20, .int (zI (p : Int))), (21, .int (zI (w : Int))), (22, .int (zI (s : Int)))]) C dL_law_360 (by decide) rfl ?_
            refine x_aload C dL_law_362 11 rfl ?_
            refine z_iconst C dL_law_364 ?_
            refine x_iload C dL_law_365 2 rfl ?_
            refine z_imul C dL_law_367 rfl ?_
            refine z_iconst C dL_law_368 ?_
            refine z_iadd C dL_law_369 rfl ?_
            refine x_dup2 C dL_law_370 rfl rfl ?_
            refine z_iald (j := 2 * k + 1) C dL_law_371 hg (by omega) (by omega) (by decide) ?_
            refine x_stk (stk' := [.int (zI (σ 9 k)), .int (zI ((2 * (k : Int)) + 1)), .ref (A 5)]) (by (rw [shS_g1])) ?_
            refine x_iload C dL_law_372 1 rfl ?_
            refine x_aload C dL_law_374 11 rfl ?_
            refine z_iconst C dL_law_376 ?_
            refine x_iload C dL_law_377 2 rfl ?_
            refine z_imul C dL_law_379 rfl ?_
            refine z_iald (j := 2 * k) C dL_law_380 hg (by omega) (by omega) (by decide) ?_
            refine x_stk (stk' := [.int (zI (σ 8 k)), .int (zI r23), .int (zI (σ 9 k)), .int (zI ((2 * (k : Int)) + 1)), .ref (A 5)]) (by (rw [shS_g0])) ?_
            refine z_icmp_ne (tgt := 388) C dL_law_381 (by decide) (rg_of (by omega) (by omega)) (rg_of (by omega) (by omega)) (fun c_33 => ?_) (fun c_33 => ?_)
            · exfalso; omega
            · refine z_iconst C dL_law_384 ?_
              refine x_goto (tgt := 389) C dL_law_385 (by decide) ?_
              refine z_iadd C dL_law_389 rfl ?_
              refine z_iast (j := 2 * k + 1) C dL_law_390 hg (by omega) (by omega) (by decide) (fun μ34 hgw hF35 => ?_)
              have hC : RepC G z μ34 xa σ n := hF35.repc hC
              have hn := hF35.ai hn
              have hh := hF35.ai hh
              have hz := hF35.ol hz
              have hd := hF35.ai hd
              have hy := hF35.ai hy
              have hu := hF35.ai hu
              have hw := hF35.ai hw
              have hs := hF35.ai hs
              have ht := hF35.ai ht
              have he := hF35.ai he
              have hb := hF35.ai hb
              have hcc := hF35.ai hcc
              have hg := hgw
              refine x_aload C dL_law_391 11 rfl ?_
              refine z_iconst C dL_law_393 ?_
              refine x_iload C dL_law_394 2 rfl ?_
              refine z_imul C dL_law_396 rfl ?_
              refine x_iload C dL_law_397 1 rfl ?_
              refine z_iast (j := 2 * k) C dL_law_399 hg (by omega) (by omega) (by decide) (fun μ36 hgw hF37 => ?_)
              have hC : RepC G z μ36 xa σ n := hF37.repc hC
              have hn := hF37.ai hn
              have hh := hF37.ai hh
              have hz := hF37.ol hz
              have hd := hF37.ai hd
              have hy := hF37.ai hy
              have hu := hF37.ai hu
              have hw := hF37.ai hw
              have hs := hF37.ai hs
              have ht := hF37.ai ht
              have he := hF37.ai he
              have hb := hF37.ai hb
              have hcc := hF37.ai hcc
              have hg := hgw
              refine z_iinc (lv' := [(25, .int (zI ((k : Int) + 1))), (24, .int (zI (mv + 0))), (26, .int (zI r23)), (23, .int (zI hg9)), (0, .ref bs), (1, .ref xa), (2, .ref (A 0)), (3, .ref (A 1)), (4, .ref (A 2)), (5, .ref (A 3)), (6, .ref (A 4)), (7, .ref (A 5)), (8, .ref (A 6)), (9, .ref (A 7)), (10, .ref (A 8)), (11, .ref (A 9)), (12, .ref (A 10)), (13, .ref (A 11)), (14, .ref (A 12)), (15, .int (zI 1)), (16, .int (zI (τ : Int))), (17, .int (zI f9)), (18, .int (zI kd)), (19, .int (zI v)), (20, .int (zI (p : Int))), (21, .int (zI (w : Int))), (22, .int (zI (s : Int)))]) C dL_law_400 2 rfl rfl (by decide) rfl ?_
              refine x_goto (tgt := 314) C dL_law_403 (by decide) ?_
              refine x_sub (lv' := [(25, .int (zI ((k : Int) + 1))), (24, .int (zI (mv + 0))), (23, .int (zI hg9)), (0, .ref bs), (1, .ref xa), (2, .ref (A 0)), (3, .ref (A 1)), (4, .ref (A 2)), (5, .ref (A 3)), (6, .ref (A 4)), (7, .ref (A 5)), (8, .ref (A 6)), (9, .ref (A 7)), (10, .ref (A 8)), (11, .ref (A 9)), (12, .ref (A 10)), (13, .ref (A 11)), (14, .ref (A 12)), (15, .int (zI 1)), (16, .int (zI (τ : Int))), (17, .int (zI f9)), (18, .int (zI kd)), (19, .int (zI v)), (20, .int (zI (p : Int))), (21, .int (zI (w : Int))), (22, .int (zI (s : Int)))]) [0, 1, 3, 4, 5, 6, 7, 8, 9, 10, 11, 12, 13, 14, 15, 16, 17, 18, 19, 20, 21, 22, 23, 24, 25, 26] rfl ?_
              have hg : AI G μ36 (A 5) 4005 12 (gF (shS σ p hg9 (k + 1))) := hg.cong (fun j _ => gS_s ho1 (by omega) j)
              exact ih314 _ (by omega) _ _ (k + 1) _ (by omega) hC hn hh hz hd hy hg hu hw hs ht he hb hcc (by omega) (by (rw [show b_setHeight σ p hg9 (k + 1) = b_setHeight σ p hg9 k + (if npl σ p hg9 k ≠ σ 8 k then 1 else 0) from rfl]; split <;> omega)) (by omega) rfl
    have hg : AI G μ1 (A 5) 4005 12 (gF (shS σ p hg9 0)) := by (rw [gF_s0]; exact hg)
    exact L314 _ _ _ (0) _ (by omega) hC hn hh hz hd hy hg hu hw hs ht he hb hcc (by omega) rfl (by omega) rfl
  refine x_iload C dL_law_269 19 rfl ?_
  refine z_sipush C dL_law_271 (by decide) ?_
  refine z_idiv C dL_law_274 (rg_of (by omega) (by omega)) (by omega) (rg_of (by omega) (by omega)) (by omega) rfl ?_
  refine z_iconst C dL_law_275 ?_
  refine z_irem C dL_law_276 (rg_of (by omega) (by omega)) (by omega) (rg_of (by omega) (by omega)) (by omega) rfl ?_
  refine z_if_ne (tgt := 292) C dL_law_277 (by decide) (rg_of (by omega) (by omega)) (fun c_38 => ?_) (fun c_38 => ?_)
  · refine x_iload C dL_law_292 19 rfl ?_
    refine z_sipush C dL_law_294 (by decide) ?_
    refine z_idiv C dL_law_297 (rg_of (by omega) (by omega)) (by omega) (rg_of (by omega) (by omega)) (by omega) rfl ?_
    refine z_iconst C dL_law_298 ?_
    refine z_irem C dL_law_299 (rg_of (by omega) (by omega)) (by omega) (rg_of (by omega) (by omega)) (by omega) rfl ?_
    exact J300 _ (by omega)
  · refine x_iload C dL_law_280 19 rfl ?_
    refine z_sipush C dL_law_282 (by decide) ?_
    refine z_idiv C dL_law_285 (rg_of (by omega) (by omega)) (by omega) (rg_of (by omega) (by omega)) (by omega) rfl ?_
    refine z_bipush C dL_law_286 (by decide) ?_
    refine z_irem C dL_law_288 (rg_of (by omega) (by omega)) (by omega) (rg_of (by omega) (by omega)) (by omega) rfl ?_
    refine x_goto (tgt := 300) C dL_law_289 (by decide) ?_
    exact J300 _ (by omega)
set_option maxHeartbeats 8000000 in
set_option maxRecDepth 100000 in
theorem law_close {E : EE} {G : GG} {z : Nat} (C : Cx E G z cL_law RL wsL_law room_1 27) {cells slots : Nat} (hcs : cells + 800 ≤ room_1.cells ∧ slots + 47000 ≤ room_1.slots) {μ : Mm} {xa bs : Nat} {A : Nat → Nat} {σ : SS} {n τ : Nat} {f9 kd v : Int} {p w s : Nat} (hS : LwS G z μ xa A σ n) (hn5 : n < 512) (hv9 : 0 ≤ v ∧ v < 100000000) (hp9 : p < 64) (hw9 : (σ 12 0 = 0 ∧ w = 0) ∨ (w : Int) < σ 12 0) (hs9 : (σ 7 0 = 0 ∧ s = 0) ∨ (s : Int) < σ 7 0) (kk : ∀ (μ' : Mm) (σ' : SS), LwS G z μ' xa A σ' (n + 1) → Wx E G (cells + 800) (slots + 47000) 2027 [(0, .ref bs), (1, .ref xa), (2, .ref (A 0)), (3, .ref (A 1)), (4, .ref (A 2)), (5, .ref (A 3)), (6, .ref (A 4)), (7, .ref (A 5)), (8, .ref (A 6)), (9, .ref (A 7)), (10, .ref (A 8)), (11, .ref (A 9)), (12, .ref (A 10)), (13, .ref (A 11)), (14, .ref (A 12)), (15, .int (zI 1)), (16, .int (zI (τ : Int))), (19, .int (zI v))] [] μ') : Wx E G cells slots 435 [(0, .ref bs), (1, .ref xa), (2, .ref (A 0)), (3, .ref (A 1)), (4, .ref (A 2)), (5, .ref (A 3)), (6, .ref (A 4)), (7, .ref (A 5)), (8, .ref (A 6)), (9, .ref (A 7)), (10, .ref (A 8)), (11, .ref (A 9)), (12, .ref (A 10)), (13, .ref (A 11)), (14, .ref (A 12)), (15, .int (zI 1)), (16, .int (zI (τ : Int))), (17, .int (zI f9)), (18, .int (zI kd)), (19, .int (zI v)), (20, .int (zI (p : Int))), (21, .int (zI (w : Int))), (22, .int (zI (s : Int)))] [] μ := by
  obtain ⟨hC, hK, hn, hh, ⟨K, hz, hZB⟩, hd, hy, hg, hu, ⟨W, hw, hWR⟩, hs, ht, he, hb, C9, hcc⟩ := hS
  have hGv := hC.gv
  have h7 := hK.1.n7
  have h12 := hK.1.n12
  have h18 := hK.1.n18
  have h23 := hK.1.n23
  refine x_aload C dL_law_435 4 rfl ?_
  refine z_iconst C dL_law_437 ?_
  refine x_dup2 C dL_law_438 rfl rfl ?_
  refine z_olld C dL_law_439 hz ?_
  refine x_lconst (v := (1 : Int64)) C dL_law_440 rfl ?_
  refine x_iload C dL_law_441 20 rfl ?_
  refine x_lshl (v := bitL p) C dL_law_443 rfl ?_
  refine x_lxor C dL_law_444 rfl ?_
  refine z_olst C dL_law_445 hz (fun μ1 hzw hF2 => ?_)
  have hC : RepC G z μ1 xa σ n := hF2.repc hC
  have hn := hF2.ai hn
  have hh := hF2.ai hh
  have hd := hF2.ai hd
  have hy := hF2.ai hy
  have hg := hF2.ai hg
  have hu := hF2.ai hu
  have hw := hF2.ai hw
  have hs := hF2.ai hs
  have ht := hF2.ai ht
  have he := hF2.ai he
  have hb := hF2.ai hb
  have hcc := hF2.ai hcc
  have hz := hzw
  have hZB2 := ZB_close hK.1 (p := p) (by omega) hZB
  have htp : t_p (p : Int) = 0 := if_pos ⟨by omega, by omega⟩
  have h1p := hK.1.r1 p (by omega)
  have hcp : n_close σ (p : Int) 1 p = 1 - σ 1 p := by (show wr (σ 1) p (1 - σ 1 p) p = _; exact wr_at)
  refine x_aload_n C dL_law_446 rfl 1 rfl ?_
  refine x_iload C dL_law_447 20 rfl ?_
  refine x_callV (n := 1) (ci := 9) (Cn := RX8) (T := TX8) (N := 10) (cc9 := (cells + 1)) (ss9 := (slots + 6)) (rest := []) C dL_law_449 (c_X8_close (kxL E) C.st G z μ1 xa σ n (p : Int) hC hK.1 (by omega)) gL_law_X8_close rfl (by decide +kernel) ⟨(Nat.le_of_ble_eq_true rfl), (Nat.le_of_ble_eq_true rfl)⟩ rfl hC.ob rfl rfl (Nat.le_of_ble_eq_true rfl) rfl rfl ⟨(by omega), (by omega)⟩ (fun En hEn => by (exfalso; have h9 := hEn.2; rw [htp] at h9; omega)) (fun v3 μ4 hv5 => ?_)
  obtain ⟨r6, hw9, h7⟩ := hv5
  subst hw9
  obtain ⟨⟨htc, hr9, hC⟩, hF9⟩ := h7
  have hF10 := hF9
  have hn := hF10.ai hn
  have hh := hF10.ai hh
  have hz := hF10.ol hz
  have hd := hF10.ai hd
  have hy := hF10.ai hy
  have hg := hF10.ai hg
  have hu := hF10.ai hu
  have hw := hF10.ai hw
  have hs := hF10.ai hs
  have ht := hF10.ai ht
  have he := hF10.ai he
  have hb := hF10.ai hb
  have hcc := hF10.ai hcc
  rw [Int.toNat_natCast] at hr9
  refine x_stk (stk' := [.int (zI r6)]) rfl ?_
  refine x_aload C dL_law_452 4 rfl ?_
  refine z_iconst C dL_law_454 ?_
  refine z_olld C dL_law_455 hz ?_
  refine x_iload C dL_law_456 20 rfl ?_
  refine z_bit C p dL_law_458 dL_law_459 dL_law_460 (by omega) (by omega) rfl ?_
  rcases Bool.eq_false_or_eq_true (kb (K ^^^ (bitL p)) p) with hkb11 | hkb11
  · refine x_stk (stk' := [.long (1 : Int64), .int (zI r6)]) (by rw [hkb11]; rfl) ?_
    have hzb12 := hZB2.yes (p := p) (by omega) hkb11
    refine x_lconst (v := (1 : Int64)) C dL_law_461 rfl ?_
    refine x_lcmp (v := zI (0)) C dL_law_462 (by decide) ?_
    refine z_if_ne (tgt := 470) C dL_law_463 (by decide) (rg_of (by omega) (by omega)) (fun c_13 => ?_) (fun c_13 => ?_)
    · exfalso; omega
    · refine z_iconst C dL_law_466 ?_
      refine x_goto (tgt := 471) C dL_law_467 (by decide) ?_
      refine z_icmp_ne (tgt := 478) C dL_law_471 (by decide) (rg_of (by omega) (by omega)) (rg_of (by omega) (by omega)) (fun c_14 => ?_) (fun c_14 => ?_)
      · exfalso; omega
      · refine z_iconst C dL_law_474 ?_
        refine x_goto (tgt := 479) C dL_law_475 (by decide) ?_
        refine x_istore (lv' := [(15, .int (zI 1)), (0, .ref bs), (1, .ref xa), (2, .ref (A 0)), (3, .ref (A 1)), (4, .ref (A 2)), (5, .ref (A 3)), (6, .ref (A 4)), (7, .ref (A 5)), (8, .ref (A 6)), (9, .ref (A 7)), (10, .ref (A 8)), (11, .ref (A 9)), (12, .ref (A 10)), (13, .ref (A 11)), (14, .ref (A 12)), (16, .int (zI (τ : Int))), (17, .int (zI f9)), (18, .int (zI kd)), (19, .int (zI v)), (20, .int (zI (p : Int))), (21, .int (zI (w : Int))), (22, .int (zI (s : Int)))]) C dL_law_479 (by decide) rfl ?_
        refine x_goto (tgt := 2027) C dL_law_481 (by decide) ?_
        refine x_sub (lv' := [(0, .ref bs), (1, .ref xa), (2, .ref (A 0)), (3, .ref (A 1)), (4, .ref (A 2)), (5, .ref (A 3)), (6, .ref (A 4)), (7, .ref (A 5)), (8, .ref (A 6)), (9, .ref (A 7)), (10, .ref (A 8)), (11, .ref (A 9)), (12, .ref (A 10)), (13, .ref (A 11)), (14, .ref (A 12)), (15, .int (zI 1)), (16, .int (zI (τ : Int))), (19, .int (zI v))]) [1, 2, 3, 4, 5, 6, 7, 8, 9, 10, 11, 12, 13, 14, 15, 0, 16, 19] rfl ?_
        exact x_wid (by omega) (by omega) (kk _ (n_close σ (p : Int)) ⟨hC.mono, (Kv_close hK htp).mono, (by (rw [nF_c (σ := σ) (σ' := (n_close σ (p : Int))) rfl rfl rfl rfl]; exact hn)), hh, ⟨_, hz, hZB2⟩, (by (rw [dF_c (σ := σ) (σ' := (n_close σ (p : Int))) rfl rfl rfl rfl]; exact hd)), hy, (by (rw [gF_c (σ := σ) (σ' := (n_close σ (p : Int))) rfl rfl]; exact hg)), (by (rw [uF_c (σ := σ) (σ' := (n_close σ (p : Int))) rfl rfl]; exact hu)), ⟨_, hw, hWR.c rfl rfl rfl rfl rfl rfl⟩, (by (rw [sF_c (σ := σ) (σ' := (n_close σ (p : Int))) rfl]; exact hs)), (by (rw [tF_c (σ := σ) (σ' := (n_close σ (p : Int))) rfl]; exact ht)), he, hb, _, hcc⟩)
  · refine x_stk (stk' := [.long (0 : Int64), .int (zI r6)]) (by rw [hkb11]; rfl) ?_
    have hzb15 := hZB2.no (p := p) (by omega) hkb11
    refine x_lconst (v := (1 : Int64)) C dL_law_461 rfl ?_
    refine x_lcmp (v := zI (-1)) C dL_law_462 (by decide) ?_
    refine z_if_ne (tgt := 470) C dL_law_463 (by decide) (rg_of (by omega) (by omega)) (fun c_16 => ?_) (fun c_16 => ?_)
    · refine z_iconst C dL_law_470 ?_
      refine z_icmp_ne (tgt := 478) C dL_law_471 (by decide) (rg_of (by omega) (by omega)) (rg_of (by omega) (by omega)) (fun c_17 => ?_) (fun c_17 => ?_)
      · exfalso; omega
      · refine z_iconst C dL_law_474 ?_
        refine x_goto (tgt := 479) C dL_law_475 (by decide) ?_
        refine x_istore (lv' := [(15, .int (zI 1)), (0, .ref bs), (1, .ref xa), (2, .ref (A 0)), (3, .ref (A 1)), (4, .ref (A 2)), (5, .ref (A 3)), (6, .ref (A 4)), (7, .ref (A 5)), (8, .ref (A 6)), (9, .ref (A 7)), (10, .ref (A 8)), (11, .ref (A 9)), (12, .ref (A 10)), (13, .ref (A 11)), (14, .ref (A 12)), (16, .int (zI (τ : Int))), (17, .int (zI f9)), (18, .int (zI kd)), (19, .int (zI v)), (20, .int (zI (p : Int))), (21, .int (zI (w : Int))), (22, .int (zI (s : Int)))]) C dL_law_479 (by decide) rfl ?_
        refine x_goto (tgt := 2027) C dL_law_481 (by decide) ?_
        refine x_sub (lv' := [(0, .ref bs), (1, .ref xa), (2, .ref (A 0)), (3, .ref (A 1)), (4, .ref (A 2)), (5, .ref (A 3)), (6, .ref (A 4)), (7, .ref (A 5)), (8, .ref (A 6)), (9, .ref (A 7)), (10, .ref (A 8)), (11, .ref (A 9)), (12, .ref (A 10)), (13, .ref (A 11)), (14, .ref (A 12)), (15, .int (zI 1)), (16, .int (zI (τ : Int))), (19, .int (zI v))]) [1, 2, 3, 4, 5, 6, 7, 8, 9, 10, 11, 12, 13, 14, 15, 0, 16, 19] rfl ?_
        exact x_wid (by omega) (by omega) (kk _ (n_close σ (p : Int)) ⟨hC.mono, (Kv_close hK htp).mono, (by (rw [nF_c (σ := σ) (σ' := (n_close σ (p : Int))) rfl rfl rfl rfl]; exact hn)), hh, ⟨_, hz, hZB2⟩, (by (rw [dF_c (σ := σ) (σ' := (n_close σ (p : Int))) rfl rfl rfl rfl]; exact hd)), hy, (by (rw [gF_c (σ := σ) (σ' := (n_close σ (p : Int))) rfl rfl]; exact hg)), (by (rw [uF_c (σ := σ) (σ' := (n_close σ (p : Int))) rfl rfl]; exact hu)), ⟨_, hw, hWR.c rfl rfl rfl rfl rfl rfl⟩, (by (rw [sF_c (σ := σ) (σ' := (n_close σ (p : Int))) rfl]; exact hs)), (by (rw [tF_c (σ := σ) (σ' := (n_close σ (p : Int))) rfl]; exact ht)), he, hb, _, hcc⟩)
    · exfalso; omega
set_option maxHeartbeats 8000000 in
set_option maxRecDepth 100000 in
theorem law_hint {E : EE} {G : GG} {z : Nat} (C : Cx E G z cL_law RL wsL_law room_1 27) {cells slots : Nat} (hcs : cells + 800 ≤ room_1.cells ∧ slots + 47000 ≤ room_1.slots) {μ : Mm} {xa bs : Nat} {A : Nat → Nat} {σ : SS} {n τ : Nat} {f9 kd v : Int} {p w s : Nat} (hS : LwS G z μ xa A σ n) (hn5 : n < 512) (hv9 : 0 ≤ v ∧ v < 100000000) (hp9 : p < 64) (hw9 : (σ 12 0 = 0 ∧ w = 0) ∨ (w : Int) < σ 12 0) (hs9 : (σ 7 0 = 0 ∧ s = 0) ∨ (s : Int) < σ 7 0) (hkd : 3 < kd ∧ kd < 8) (kk : ∀ (μ' : Mm) (σ' : SS), LwS G z μ' xa A σ' (n + 1) → Wx E G (cells + 800) (slots + 47000) 2027 [(0, .ref bs), (1, .ref xa), (2, .ref (A 0)), (3, .ref (A 1)), (4, .ref (A 2)), (5, .ref (A 3)), (6, .ref (A 4)), (7, .ref (A 5)), (8, .ref (A 6)), (9, .ref (A 7)), (10, .ref (A 8)), (11, .ref (A 9)), (12, .ref (A 10)), (13, .ref (A 11)), (14, .ref (A 12)), (15, .int (zI 1)), (16, .int (zI (τ : Int))), (19, .int (zI v))] [] μ') : Wx E G cells slots 491 [(0, .ref bs), (1, .ref xa), (2, .ref (A 0)), (3, .ref (A 1)), (4, .ref (A 2)), (5, .ref (A 3)), (6, .ref (A 4)), (7, .ref (A 5)), (8, .ref (A 6)), (9, .ref (A 7)), (10, .ref (A 8)), (11, .ref (A 9)), (12, .ref (A 10)), (13, .ref (A 11)), (14, .ref (A 12)), (15, .int (zI 1)), (16, .int (zI (τ : Int))), (17, .int (zI f9)), (18, .int (zI kd)), (19, .int (zI v)), (20, .int (zI (p : Int))), (21, .int (zI (w : Int))), (22, .int (zI (s : Int)))] [] μ := by
  obtain ⟨hC, hK, hn, hh, ⟨K, hz, hZB⟩, hd, hy, hg, hu, ⟨W, hw, hWR⟩, hs, ht, he, hb, C9, hcc⟩ := hS
  have hGv := hC.gv
  have h7 := hK.1.n7
  have h12 := hK.1.n12
  have h18 := hK.1.n18
  have h23 := hK.1.n23
  have J573 : ∀ (its : Int) (hit : (0 ≤ its ∧ its < 16384) ∧ its % 8 ≤ 4 ∧ its / 8 % 16 ≤ 14), Wx E G cells slots 573 [(0, .ref bs), (1, .ref xa), (2, .ref (A 0)), (3, .ref (A 1)), (4, .ref (A 2)), (5, .ref (A 3)), (6, .ref (A 4)), (7, .ref (A 5)), (8, .ref (A 6)), (9, .ref (A 7)), (10, .ref (A 8)), (11, .ref (A 9)), (12, .ref (A 10)), (13, .ref (A 11)), (14, .ref (A 12)), (15, .int (zI 1)), (16, .int (zI (τ : Int))), (17, .int (zI f9)), (18, .int (zI kd)), (19, .int (zI v)), (20, .int (zI (p : Int))), (21, .int (zI (w : Int))), (22, .int (zI (s : Int)))] [.int (zI its)] μ := by
    intro its hit
    refine x_istore (lv' := [(23, .int (zI its)), (0, .ref bs), (1, .ref xa), (2, .ref (A 0)), (3, .ref (A 1)), (4, .ref (A 2)), (5, .ref (A 3)), (6, .ref (A 4)), (7, .ref (A 5)), (8, .ref (A 6)), (9, .ref (A 7)), (10, .ref (A 8)), (11, .ref (A 9)), (12, .ref (A 10)), (13, .ref (A 11)), (14, .ref (A 12)), (15, .int (zI 1)), (16, .int (zI (τ : Int))), (17, .int (zI f9)), (18, .int (zI kd)), (19, .int (zI v)), (20, .int (zI (p : Int))), (21, .int (zI (w : Int))), (22, .int (zI (s : Int)))]) C dL_law_573 (by decide) rfl ?_
    refine z_bipush C dL_law_575 (by decide) ?_
    refine x_istore (lv' := [(24, .int (zI (-13))), (23, .int (zI its)), (0, .ref bs), (1, .ref xa), (2, .ref (A 0)), (3, .ref (A 1)), (4, .ref (A 2)), (5, .ref (A 3)), (6, .ref (A 4)), (7, .ref (A 5)), (8, .ref (A 6)), (9, .ref (A 7)), (10, .ref (A 8)), (11, .ref (A 9)), (12, .ref (A 10)), (13, .ref (A 11)), (14, .ref (A 12)), (15, .int (zI 1)), (16, .int (zI (τ : Int))), (17, .int (zI f9)), (18, .int (zI kd)), (19, .int (zI v)), (20, .int (zI (p : Int))), (21, .int (zI (w : Int))), (22, .int (zI (s : Int)))]) C dL_law_577 (by decide) rfl ?_
    obtain ⟨d9, hd9⟩ : ∃ d9 : Int, (8191 < its ∧ d9 = 1) ∨ (its ≤ 8191 ∧ d9 = 0) := by (by_cases q : 8191 < its; exact ⟨1, Or.inl ⟨q, rfl⟩⟩; exact ⟨0, Or.inr ⟨by omega, rfl⟩⟩)
    have h60 := hK.1.r6 0 (by omega)
    refine x_aload C dL_law_579 8 rfl ?_
    refine z_iconst C dL_law_581 ?_
    refine z_iald (j := 0) C dL_law_582 hy (by omega) (by omega) (by decide) ?_
    refine z_iconst C dL_law_583 ?_
    refine z_icmp_ge (tgt := 619) C dL_law_584 (by decide) (rg_of (by omega) (by omega)) (rg_of (by omega) (by omega)) (fun c_1 => ?_) (fun c_1 => ?_)
    · have hth : t_hint σ (its % 8) (its / 8 % 16) (its / 128 % 64) = 3 := by (unfold t_hint; rw [if_pos ⟨by omega, by omega⟩, if_pos ⟨⟨by omega, by omega⟩, by omega, by omega⟩, if_neg (by omega)])
      refine x_aload_n C dL_law_619 rfl 3 rfl ?_
      refine z_iconst C dL_law_620 ?_
      refine x_iload C dL_law_621 1 rfl ?_
      refine z_iconst C dL_law_623 ?_
      refine z_iconst C dL_law_624 ?_
      refine x_callSX (n := 5) (cc9 := (cells + 3)) (ss9 := (slots + 21)) (rest := []) C dL_law_625 (c_L_does_0 (kxL E) C.st G z μ xa σ n its 0 0 d9 hC hK hn5 hit.1 (by omega) (by omega) hd9) gL_law_L_does rfl (by decide +kernel) ⟨(Nat.le_of_ble_eq_true rfl), (Nat.le_of_ble_eq_true rfl)⟩ rfl rfl (Nat.le_of_ble_eq_true rfl) rfl rfl ⟨(by omega), (by omega)⟩ nX_no (fun v2 μ3 hv4 => ?_)
      obtain ⟨r5, hw8, h6⟩ := hv4
      subst hw8
      obtain ⟨hdo, hF9⟩ := h6
      have hF9 := hF9
      have hn := hF9.ai hn
      have hh := hF9.ai hh
      have hz := hF9.ol hz
      have hd := hF9.ai hd
      have hy := hF9.ai hy
      have hg := hF9.ai hg
      have hu := hF9.ai hu
      have hw := hF9.ai hw
      have hs := hF9.ai hs
      have ht := hF9.ai ht
      have he := hF9.ai he
      have hb := hF9.ai hb
      have hcc := hF9.ai hcc
      obtain ⟨hr9, hC⟩ : r5 = -13 ∧ RepC G z μ3 xa σ n := by (rcases hdo with ⟨h1, -⟩ | ⟨h1, h2⟩; exfalso; omega; exact ⟨by omega, h2⟩)
      refine x_stk (stk' := [.int (zI r5)]) rfl ?_
      refine x_iload C dL_law_628 0 rfl ?_
      refine z_icmp_ne (tgt := 637) C dL_law_630 (by decide) (rg_of (by omega) (by omega)) (rg_of (by omega) (by omega)) (fun c_10 => ?_) (fun c_10 => ?_)
      · exfalso; omega
      · refine z_iconst C dL_law_633 ?_
        refine x_goto (tgt := 638) C dL_law_634 (by decide) ?_
        refine x_istore (lv' := [(15, .int (zI 1)), (24, .int (zI (-13))), (23, .int (zI its)), (0, .ref bs), (1, .ref xa), (2, .ref (A 0)), (3, .ref (A 1)), (4, .ref (A 2)), (5, .ref (A 3)), (6, .ref (A 4)), (7, .ref (A 5)), (8, .ref (A 6)), (9, .ref (A 7)), (10, .ref (A 8)), (11, .ref (A 9)), (12, .ref (A 10)), (13, .ref (A 11)), (14, .ref (A 12)), (16, .int (zI (τ : Int))), (17, .int (zI f9)), (18, .int (zI kd)), (19, .int (zI v)), (20, .int (zI (p : Int))), (21, .int (zI (w : Int))), (22, .int (zI (s : Int)))]) C dL_law_638 (by decide) rfl ?_
        refine x_goto (tgt := 2027) C dL_law_640 (by decide) ?_
        refine x_sub (lv' := [(0, .ref bs), (1, .ref xa), (2, .ref (A 0)), (3, .ref (A 1)), (4, .ref (A 2)), (5, .ref (A 3)), (6, .ref (A 4)), (7, .ref (A 5)), (8, .ref (A 6)), (9, .ref (A 7)), (10, .ref (A 8)), (11, .ref (A 9)), (12, .ref (A 10)), (13, .ref (A 11)), (14, .ref (A 12)), (15, .int (zI 1)), (16, .int (zI (τ : Int))), (19, .int (zI v))]) [3, 4, 5, 6, 7, 8, 9, 10, 11, 12, 13, 14, 15, 16, 17, 0, 18, 21] rfl ?_
        exact x_wid (by omega) (by omega) (kk _ σ ⟨hC.mono, hK.mono, hn, hh, ⟨_, hz, hZB⟩, hd, hy, hg, hu, ⟨_, hw, hWR⟩, hs, ht, he, hb, _, hcc⟩)
    · refine x_aload C dL_law_587 7 rfl ?_
      refine x_aload C dL_law_589 8 rfl ?_
      refine z_iconst C dL_law_591 ?_
      refine z_iald (j := 0) C dL_law_592 hy (by omega) (by omega) (by decide) ?_
      refine x_iload C dL_law_593 1 rfl ?_
      refine z_iast (j := ((σ 6) 0).toNat) C dL_law_595 hd (by omega) (by omega) (by decide) (fun μ11 hdw hF12 => ?_)
      have hC : RepC G z μ11 xa σ n := hF12.repc hC
      have hn := hF12.ai hn
      have hh := hF12.ai hh
      have hz := hF12.ol hz
      have hy := hF12.ai hy
      have hg := hF12.ai hg
      have hu := hF12.ai hu
      have hw := hF12.ai hw
      have hs := hF12.ai hs
      have ht := hF12.ai ht
      have he := hF12.ai he
      have hb := hF12.ai hb
      have hcc := hF12.ai hcc
      have hd := hdw
      refine x_aload C dL_law_596 8 rfl ?_
      refine z_iconst C dL_law_598 ?_
      refine x_dup2 C dL_law_599 rfl rfl ?_
      refine z_iald (j := 0) C dL_law_600 hy (by omega) (by omega) (by decide) ?_
      refine z_iconst C dL_law_601 ?_
      refine z_iadd C dL_law_602 rfl ?_
      refine z_iast (j := 0) C dL_law_603 hy (by omega) (by omega) (by decide) (fun μ13 hyw hF14 => ?_)
      have hC : RepC G z μ13 xa σ n := hF14.repc hC
      have hn := hF14.ai hn
      have hh := hF14.ai hh
      have hz := hF14.ol hz
      have hd := hF14.ai hd
      have hg := hF14.ai hg
      have hu := hF14.ai hu
      have hw := hF14.ai hw
      have hs := hF14.ai hs
      have ht := hF14.ai ht
      have he := hF14.ai he
      have hb := hF14.ai hb
      have hcc := hF14.ai hcc
      have hy := hyw
      have hd : AI G μ13 (A 3) 4003 35 (dF (n_hint σ (its % 8) (its / 8 % 16) (its / 128 % 64) d9)) := by (rw [dF_hint hit.1 hd9]; exact hd)
      have hy : AI G μ13 (A 4) 4004 7 ((n_hint σ (its % 8) (its / 8 % 16) (its / 128 % 64) d9) 6) := hy
      have hth : t_hint σ (its % 8) (its / 8 % 16) (its / 128 % 64) = 0 := by (unfold t_hint; rw [if_pos ⟨by omega, by omega⟩, if_pos ⟨⟨by omega, by omega⟩, by omega, by omega⟩, if_pos (by omega)])
      have hKn := Kv_hint (d := d9) hK (by omega) hth
      have hbf : 0 ≤ b_fits (n_hint σ (its % 8) (its / 8 % 16) (its / 128 % 64) d9) 0 ∧ b_fits (n_hint σ (its % 8) (its / 8 % 16) (its / 128 % 64) d9) 0 ≤ 64 := ctb_rg _ 64
      refine x_aload_n C dL_law_604 rfl 5 rfl ?_
      refine x_aload C dL_law_605 7 rfl ?_
      refine x_aload C dL_law_607 8 rfl ?_
      refine z_iconst C dL_law_609 ?_
      refine x_stk (stk' := [.int (zI ((0 : Nat) : Int)), .ref (A 4), .ref (A 3), .ref (A 1)]) rfl ?_
      refine z_iconst C dL_law_610 ?_
      refine x_callS (n := 5) (cc9 := cells) (ss9 := slots) (rest := []) C dL_law_611 (c_L_all (kxL E) C.st G z μ13 (A 1) (A 3) (A 4) (n_hint σ (its % 8) (its / 8 % 16) (its / 128 % 64) d9) n 0 (-1) hKn.1 hh hd hy (by omega) (by omega)) gL_law_L_all rfl (by decide +kernel) ⟨(Nat.le_of_ble_eq_true rfl), (Nat.le_of_ble_eq_true rfl)⟩ rfl rfl (Nat.le_of_ble_eq_true rfl) rfl rfl ⟨(by omega), (by omega)⟩ nX_no (fun v15 μ16 hv17 => ?_)
      obtain ⟨r18, hw21, h19, hm20⟩ := hv17
      subst hw21
      rw [hm20]
      refine x_stk (stk' := [.long r18]) rfl ?_
      refine x_callS (n := 1) (cc9 := cells) (ss9 := slots) (rest := []) C dL_law_614 (c_L_many (kxL E) C.st G z μ13 r18) gL_law_L_many rfl (by decide +kernel) ⟨(Nat.le_of_ble_eq_true rfl), (Nat.le_of_ble_eq_true rfl)⟩ rfl rfl (Nat.le_of_ble_eq_true rfl) rfl rfl ⟨(by omega), (by omega)⟩ nX_no (fun v22 μ23 hv24 => ?_)
      obtain ⟨r25, hw28, h26, hm27⟩ := hv24
      subst hw28
      rw [hm27]
      have hm1 : r25 = b_fits (n_hint σ (its % 8) (its / 8 % 16) (its / 128 % 64) d9) 0 := h26.trans (ctb_cong (fun j hj => h19 j hj))
      refine x_stk (stk' := [.int (zI r25)]) rfl ?_
      refine x_istore (lv' := [(24, .int (zI r25)), (23, .int (zI its)), (0, .ref bs), (1, .ref xa), (2, .ref (A 0)), (3, .ref (A 1)), (4, .ref (A 2)), (5, .ref (A 3)), (6, .ref (A 4)), (7, .ref (A 5)), (8, .ref (A 6)), (9, .ref (A 7)), (10, .ref (A 8)), (11, .ref (A 9)), (12, .ref (A 10)), (13, .ref (A 11)), (14, .ref (A 12)), (15, .int (zI 1)), (16, .int (zI (τ : Int))), (17, .int (zI f9)), (18, .int (zI kd)), (19, .int (zI v)), (20, .int (zI (p : Int))), (21, .int (zI (w : Int))), (22, .int (zI (s : Int)))]) C dL_law_617 (by decide) rfl ?_
      refine x_aload_n C dL_law_619 rfl 3 rfl ?_
      refine z_iconst C dL_law_620 ?_
      refine x_iload C dL_law_621 1 rfl ?_
      refine z_iconst C dL_law_623 ?_
      refine z_iconst C dL_law_624 ?_
      refine x_callSX (n := 5) (cc9 := (cells + 3)) (ss9 := (slots + 21)) (rest := []) C dL_law_625 (c_L_does_0 (kxL E) C.st G z μ13 xa σ n its 0 0 d9 hC hK hn5 hit.1 (by omega) (by omega) hd9) gL_law_L_does rfl (by decide +kernel) ⟨(Nat.le_of_ble_eq_true rfl), (Nat.le_of_ble_eq_true rfl)⟩ rfl rfl (Nat.le_of_ble_eq_true rfl) rfl rfl ⟨(by omega), (by omega)⟩ nX_no (fun v29 μ30 hv31 => ?_)
      obtain ⟨r32, hw35, h33⟩ := hv31
      subst hw35
      obtain ⟨hdo, hF9⟩ := h33
      have hF36 := hF9
      have hn := hF36.ai hn
      have hh := hF36.ai hh
      have hz := hF36.ol hz
      have hd := hF36.ai hd
      have hy := hF36.ai hy
      have hg := hF36.ai hg
      have hu := hF36.ai hu
      have hw := hF36.ai hw
      have hs := hF36.ai hs
      have ht := hF36.ai ht
      have he := hF36.ai he
      have hb := hF36.ai hb
      have hcc := hF36.ai hcc
      obtain ⟨hr9, hC⟩ : r32 = b_fits (n_hint σ (its % 8) (its / 8 % 16) (its / 128 % 64) d9) 0 ∧ RepC G z μ30 xa (n_hint σ (its % 8) (its / 8 % 16) (its / 128 % 64) d9) n := by (rcases hdo with ⟨-, h1, h2⟩ | ⟨h1, -⟩; exact ⟨h1, h2⟩; exfalso; omega)
      refine x_stk (stk' := [.int (zI r32)]) rfl ?_
      refine x_iload C dL_law_628 0 rfl ?_
      refine z_icmp_ne (tgt := 637) C dL_law_630 (by decide) (rg_of (by omega) (by omega)) (rg_of (by omega) (by omega)) (fun c_37 => ?_) (fun c_37 => ?_)
      · exfalso; omega
      · refine z_iconst C dL_law_633 ?_
        refine x_goto (tgt := 638) C dL_law_634 (by decide) ?_
        refine x_istore (lv' := [(15, .int (zI 1)), (24, .int (zI r25)), (23, .int (zI its)), (0, .ref bs), (1, .ref xa), (2, .ref (A 0)), (3, .ref (A 1)), (4, .ref (A 2)), (5, .ref (A 3)), (6, .ref (A 4)), (7, .ref (A 5)), (8, .ref (A 6)), (9, .ref (A 7)), (10, .ref (A 8)), (11, .ref (A 9)), (12, .ref (A 10)), (13, .ref (A 11)), (14, .ref (A 12)), (16, .int (zI (τ : Int))), (17, .int (zI f9)), (18, .int (zI kd)), (19, .int (zI v)), (20, .int (zI (p : Int))), (21, .int (zI (w : Int))), (22, .int (zI (s : Int)))]) C dL_law_638 (by decide) rfl ?_
        refine x_goto (tgt := 2027) C dL_law_640 (by decide) ?_
        refine x_sub (lv' := [(0, .ref bs), (1, .ref xa), (2, .ref (A 0)), (3, .ref (A 1)), (4, .ref (A 2)), (5, .ref (A 3)), (6, .ref (A 4)), (7, .ref (A 5)), (8, .ref (A 6)), (9, .ref (A 7)), (10, .ref (A 8)), (11, .ref (A 9)), (12, .ref (A 10)), (13, .ref (A 11)), (14, .ref (A 12)), (15, .int (zI 1)), (16, .int (zI (τ : Int))), (19, .int (zI v))]) [3, 4, 5, 6, 7, 8, 9, 10, 11, 12, 13, 14, 15, 16, 17, 0, 18, 21] rfl ?_
        exact x_wid (by omega) (by omega) (kk _ (n_hint σ (its % 8) (its / 8 % 16) (its / 128 % 64) d9) ⟨hC.mono, hKn.mono, (by (rw [nF_c (σ := σ) (σ' := (n_hint σ (its % 8) (its / 8 % 16) (its / 128 % 64) d9)) rfl rfl rfl rfl]; exact hn)), hh, ⟨_, hz, hZB.c rfl⟩, hd, hy, (by (rw [gF_c (σ := σ) (σ' := (n_hint σ (its % 8) (its / 8 % 16) (its / 128 % 64) d9)) rfl rfl]; exact hg)), (by (rw [uF_c (σ := σ) (σ' := (n_hint σ (its % 8) (its / 8 % 16) (its / 128 % 64) d9)) rfl rfl]; exact hu)), ⟨_, hw, hWR.c rfl rfl rfl rfl rfl rfl⟩, (by (rw [sF_c (σ := σ) (σ' := (n_hint σ (its % 8) (its / 8 % 16) (its / 128 % 64) d9)) rfl]; exact hs)), (by (rw [tF_c (σ := σ) (σ' := (n_hint σ (its % 8) (its / 8 % 16) (its / 128 % 64) d9)) rfl]; exact ht)), he, hb, _, hcc⟩)
  refine x_iload C dL_law_491 18 rfl ?_
  refine z_iconst C dL_law_493 ?_
  refine z_icmp_ne (tgt := 508) C dL_law_494 (by decide) (rg_of (by omega) (by omega)) (rg_of (by omega) (by omega)) (fun c_38 => ?_) (fun c_38 => ?_)
  · refine x_iload C dL_law_508 18 rfl ?_
    refine z_iconst C dL_law_510 ?_
    refine z_icmp_ne (tgt := 532) C dL_law_511 (by decide) (rg_of (by omega) (by omega)) (rg_of (by omega) (by omega)) (fun c_39 => ?_) (fun c_39 => ?_)
    · refine x_iload C dL_law_532 19 rfl ?_
      refine z_iconst C dL_law_534 ?_
      refine z_irem C dL_law_535 (rg_of (by omega) (by omega)) (by omega) (rg_of (by omega) (by omega)) (by omega) rfl ?_
      refine z_bipush C dL_law_536 (by decide) ?_
      refine x_iload C dL_law_538 19 rfl ?_
      refine z_iconst C dL_law_540 ?_
      refine z_idiv C dL_law_541 (rg_of (by omega) (by omega)) (by omega) (rg_of (by omega) (by omega)) (by omega) rfl ?_
      refine z_bipush C dL_law_542 (by decide) ?_
      refine z_irem C dL_law_544 (rg_of (by omega) (by omega)) (by omega) (rg_of (by omega) (by omega)) (by omega) rfl ?_
      refine z_imul C dL_law_545 rfl ?_
      refine z_iadd C dL_law_546 rfl ?_
      refine z_sipush C dL_law_547 (by decide) ?_
      refine x_iload C dL_law_550 20 rfl ?_
      refine z_imul C dL_law_552 rfl ?_
      refine z_iadd C dL_law_553 rfl ?_
      refine x_iload C dL_law_554 19 rfl ?_
      refine z_sipush C dL_law_556 (by decide) ?_
      refine z_idiv C dL_law_559 (rg_of (by omega) (by omega)) (by omega) (rg_of (by omega) (by omega)) (by omega) rfl ?_
      refine z_iconst C dL_law_560 ?_
      refine z_irem C dL_law_561 (rg_of (by omega) (by omega)) (by omega) (rg_of (by omega) (by omega)) (by omega) rfl ?_
      refine z_if_ne (tgt := 571) C dL_law_562 (by decide) (rg_of (by omega) (by omega)) (fun c_40 => ?_) (fun c_40 => ?_)
      · refine z_iconst C dL_law_571 ?_
        refine z_iadd C dL_law_572 rfl ?_
        exact J573 _ (by omega)
      · refine z_sipush C dL_law_565 (by decide) ?_
        refine x_goto (tgt := 572) C dL_law_568 (by decide) ?_
        refine z_iadd C dL_law_572 rfl ?_
        exact J573 _ (by omega)
    · refine z_iconst C dL_law_514 ?_
      refine z_bipush C dL_law_515 (by decide) ?_
      refine z_iconst C dL_law_517 ?_
      refine x_iload C dL_law_518 19 rfl ?_
      refine z_sipush C dL_law_520 (by decide) ?_
      refine z_idiv C dL_law_523 (rg_of (by omega) (by omega)) (by omega) (rg_of (by omega) (by omega)) (by omega) rfl ?_
      refine z_iconst C dL_law_524 ?_
      refine z_irem C dL_law_525 (rg_of (by omega) (by omega)) (by omega) (rg_of (by omega) (by omega)) (by omega) rfl ?_
      refine z_iadd C dL_law_526 rfl ?_
      refine z_imul C dL_law_527 rfl ?_
      refine z_iadd C dL_law_528 rfl ?_
      refine x_goto (tgt := 573) C dL_law_529 (by decide) ?_
      exact J573 _ (by omega)
  · refine z_iconst C dL_law_497 ?_
    refine z_sipush C dL_law_498 (by decide) ?_
    refine x_iload C dL_law_501 20 rfl ?_
    refine z_imul C dL_law_503 rfl ?_
    refine z_iadd C dL_law_504 rfl ?_
    refine x_goto (tgt := 573) C dL_law_505 (by decide) ?_
    exact J573 _ (by omega)
set_option maxHeartbeats 8000000 in
set_option maxRecDepth 100000 in
theorem law_clearDraft {E : EE} {G : GG} {z : Nat} (C : Cx E G z cL_law RL wsL_law room_1 27) {cells slots : Nat} (hcs : cells + 800 ≤ room_1.cells ∧ slots + 47000 ≤ room_1.slots) {μ : Mm} {xa bs : Nat} {A : Nat → Nat} {σ : SS} {n τ : Nat} {f9 kd v : Int} {p w s : Nat} (hS : LwS G z μ xa A σ n) (hn5 : n < 512) (hv9 : 0 ≤ v ∧ v < 100000000) (hp9 : p < 64) (hw9 : (σ 12 0 = 0 ∧ w = 0) ∨ (w : Int) < σ 12 0) (hs9 : (σ 7 0 = 0 ∧ s = 0) ∨ (s : Int) < σ 7 0) (kk : ∀ (μ' : Mm) (σ' : SS), LwS G z μ' xa A σ' (n + 1) → Wx E G (cells + 800) (slots + 47000) 2027 [(0, .ref bs), (1, .ref xa), (2, .ref (A 0)), (3, .ref (A 1)), (4, .ref (A 2)), (5, .ref (A 3)), (6, .ref (A 4)), (7, .ref (A 5)), (8, .ref (A 6)), (9, .ref (A 7)), (10, .ref (A 8)), (11, .ref (A 9)), (12, .ref (A 10)), (13, .ref (A 11)), (14, .ref (A 12)), (15, .int (zI 1)), (16, .int (zI (τ : Int))), (19, .int (zI v))] [] μ') : Wx E G cells slots 650 [(0, .ref bs), (1, .ref xa), (2, .ref (A 0)), (3, .ref (A 1)), (4, .ref (A 2)), (5, .ref (A 3)), (6, .ref (A 4)), (7, .ref (A 5)), (8, .ref (A 6)), (9, .ref (A 7)), (10, .ref (A 8)), (11, .ref (A 9)), (12, .ref (A 10)), (13, .ref (A 11)), (14, .ref (A 12)), (15, .int (zI 1)), (16, .int (zI (τ : Int))), (17, .int (zI f9)), (18, .int (zI kd)), (19, .int (zI v)), (20, .int (zI (p : Int))), (21, .int (zI (w : Int))), (22, .int (zI (s : Int)))] [] μ := by
  obtain ⟨hC, hK, hn, hh, ⟨K, hz, hZB⟩, hd, hy, hg, hu, ⟨W, hw, hWR⟩, hs, ht, he, hb, C9, hcc⟩ := hS
  have hGv := hC.gv
  have h7 := hK.1.n7
  have h12 := hK.1.n12
  have h18 := hK.1.n18
  have h23 := hK.1.n23
  have h60 := hK.1.r6 0 (by omega)
  refine x_aload_n C dL_law_650 rfl 1 rfl ?_
  refine x_callV (n := 0) (ci := 9) (Cn := RX8) (T := TX8) (N := 10) (cc9 := cells) (ss9 := slots) (rest := []) C dL_law_651 (c_X8_clearDraft (kxL E) C.st G z μ xa σ n hC hK.1) gL_law_X8_clearDraft rfl (by decide +kernel) ⟨(Nat.le_of_ble_eq_true rfl), (Nat.le_of_ble_eq_true rfl)⟩ rfl hC.ob rfl rfl (Nat.le_of_ble_eq_true rfl) rfl rfl ⟨(by omega), (by omega)⟩ nX_no (fun v1 μ2 hv3 => ?_)
  obtain ⟨r4, hw7, h5⟩ := hv3
  subst hw7
  obtain ⟨⟨hr9, hC⟩, hF9⟩ := h5
  have hF8 := hF9
  have hn := hF8.ai hn
  have hh := hF8.ai hh
  have hz := hF8.ol hz
  have hd := hF8.ai hd
  have hy := hF8.ai hy
  have hg := hF8.ai hg
  have hu := hF8.ai hu
  have hw := hF8.ai hw
  have hs := hF8.ai hs
  have ht := hF8.ai ht
  have he := hF8.ai he
  have hb := hF8.ai hb
  have hcc := hF8.ai hcc
  refine x_stk (stk' := [.int (zI r4)]) rfl ?_
  refine x_aload C dL_law_654 6 rfl ?_
  refine z_iconst C dL_law_656 ?_
  refine z_iald (j := 0) C dL_law_657 hy (by omega) (by omega) (by decide) ?_
  refine z_icmp_ne (tgt := 665) C dL_law_658 (by decide) (rg_of (by omega) (by omega)) (rg_of (by omega) (by omega)) (fun c_9 => ?_) (fun c_9 => ?_)
  · exfalso; omega
  · refine z_iconst C dL_law_661 ?_
    refine x_goto (tgt := 666) C dL_law_662 (by decide) ?_
    refine x_istore (lv' := [(15, .int (zI 1)), (0, .ref bs), (1, .ref xa), (2, .ref (A 0)), (3, .ref (A 1)), (4, .ref (A 2)), (5, .ref (A 3)), (6, .ref (A 4)), (7, .ref (A 5)), (8, .ref (A 6)), (9, .ref (A 7)), (10, .ref (A 8)), (11, .ref (A 9)), (12, .ref (A 10)), (13, .ref (A 11)), (14, .ref (A 12)), (16, .int (zI (τ : Int))), (17, .int (zI f9)), (18, .int (zI kd)), (19, .int (zI v)), (20, .int (zI (p : Int))), (21, .int (zI (w : Int))), (22, .int (zI (s : Int)))]) C dL_law_666 (by decide) rfl ?_
    refine x_aload C dL_law_668 7 rfl ?_
    refine z_iconst C dL_law_670 ?_
    refine z_iconst C dL_law_671 ?_
    refine z_iast (j := 0) C dL_law_672 hy (by omega) (by omega) (by decide) (fun μ10 hyw hF11 => ?_)
    have hn := hF11.ai hn
    have hh := hF11.ai hh
    have hz := hF11.ol hz
    have hd := hF11.ai hd
    have hg := hF11.ai hg
    have hu := hF11.ai hu
    have hw := hF11.ai hw
    have hs := hF11.ai hs
    have ht := hF11.ai ht
    have he := hF11.ai he
    have hb := hF11.ai hb
    have hcc := hF11.ai hcc
    have hC : RepC G z μ10 xa (n_clearDraft σ) n := hF11.repc hC
    have hy := hyw
    refine x_goto (tgt := 2027) C dL_law_673 (by decide) ?_
    refine x_sub (lv' := [(0, .ref bs), (1, .ref xa), (2, .ref (A 0)), (3, .ref (A 1)), (4, .ref (A 2)), (5, .ref (A 3)), (6, .ref (A 4)), (7, .ref (A 5)), (8, .ref (A 6)), (9, .ref (A 7)), (10, .ref (A 8)), (11, .ref (A 9)), (12, .ref (A 10)), (13, .ref (A 11)), (14, .ref (A 12)), (15, .int (zI 1)), (16, .int (zI (τ : Int))), (19, .int (zI v))]) [1, 2, 3, 4, 5, 6, 7, 8, 9, 10, 11, 12, 13, 14, 15, 0, 16, 19] rfl ?_
    exact x_wid (by omega) (by omega) (kk _ (n_clearDraft σ) ⟨hC.mono, (Kv_clearDraft hK).mono, (by (rw [nF_c (σ := σ) (σ' := (n_clearDraft σ)) rfl rfl rfl rfl]; exact hn)), hh, ⟨_, hz, hZB.c rfl⟩, (by (rw [dF_c (σ := σ) (σ' := (n_clearDraft σ)) rfl rfl rfl rfl]; exact hd)), hy, (by (rw [gF_c (σ := σ) (σ' := (n_clearDraft σ)) rfl rfl]; exact hg)), (by (rw [uF_c (σ := σ) (σ' := (n_clearDraft σ)) rfl rfl]; exact hu)), ⟨_, hw, hWR.c rfl rfl rfl rfl rfl rfl⟩, (by (rw [sF_c (σ := σ) (σ' := (n_clearDraft σ)) rfl]; exact hs)), (by (rw [tF_c (σ := σ) (σ' := (n_clearDraft σ)) rfl]; exact ht)), he, hb, _, hcc⟩)
