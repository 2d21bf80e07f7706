/-! p32: the law -/
set_option maxHeartbeats 8000000 in
set_option maxRecDepth 100000 in
theorem law_answer {E : EE} {G : GG} {z : Nat} (C : Cx E G z cL_law RL wsL_law room_1 27) {cells slots : Nat} (hcs : cells + 800 ≤ room_1.cells ∧ slots + 47000 ≤ room_1.slots) {μ : Mm} {xa bs : Nat} {A : Nat → Nat} {σ : SS} {n τ : Nat} {f9 kd v : Int} {p w s : Nat} (hS : LwS G z μ xa A σ n) (hn5 : n < 512) (hv9 : 0 ≤ v ∧ v < 100000000) (hp9 : p < 64) (hw9 : (σ 12 0 = 0 ∧ w = 0) ∨ (w : Int) < σ 12 0) (hs9 : (σ 7 0 = 0 ∧ s = 0) ∨ (s : Int) < σ 7 0) (kk : ∀ (μ' : Mm) (σ' : SS), LwS G z μ' xa A σ' (n + 1) → Wx E G (cells + 800) (slots + 47000) 2027 [(0, .ref bs), (1, .ref xa), (2, .ref (A 0)), (3, .ref (A 1)), (4, .ref (A 2)), (5, .ref (A 3)), (6, .ref (A 4)), (7, .ref (A 5)), (8, .ref (A 6)), (9, .ref (A 7)), (10, .ref (A 8)), (11, .ref (A 9)), (12, .ref (A 10)), (13, .ref (A 11)), (14, .ref (A 12)), (15, .int (zI 1)), (16, .int (zI (τ : Int))), (19, .int (zI v))] [] μ') : Wx E G cells slots 1388 [(0, .ref bs), (1, .ref xa), (2, .ref (A 0)), (3, .ref (A 1)), (4, .ref (A 2)), (5, .ref (A 3)), (6, .ref (A 4)), (7, .ref (A 5)), (8, .ref (A 6)), (9, .ref (A 7)), (10, .ref (A 8)), (11, .ref (A 9)), (12, .ref (A 10)), (13, .ref (A 11)), (14, .ref (A 12)), (15, .int (zI 1)), (16, .int (zI (τ : Int))), (17, .int (zI f9)), (18, .int (zI kd)), (19, .int (zI v)), (20, .int (zI (p : Int))), (21, .int (zI (w : Int))), (22, .int (zI (s : Int)))] [] μ := by
  obtain ⟨hC, hK, hn, hh, ⟨K, hz, hZB⟩, hd, hy, hg, hu, ⟨W, hw, hWR⟩, hs, ht, he, hb, C9, hcc⟩ := hS
  have hGv := hC.gv
  have h7 := hK.1.n7
  have h12 := hK.1.n12
  have h18 := hK.1.n18
  have h23 := hK.1.n23
  have hrf : ∀ u, u < 6 → 0 ≤ σ 20 (6 * w + u) ∧ σ 20 (6 * w + u) ≤ 1 := fun u hu => hK.1.r20 (6 * w + u) (by omega)
  obtain ⟨hL26, hl5⟩ := uF_rg hK.1 (show 0 < 7 by omega)
  have hwr := wv_rg hL26 hl5
  have h110 := hK.1.r11 0 (by omega)
  have hur : (0 ≤ uF σ 0 ∧ uF σ 0 < 234881024) ∧ uF σ 0 / 33554432 = σ 11 0 := ⟨⟨hwr.1, hwr.2.1⟩, by (have e := hwr.2.2; show wv (lw σ 0) (ln σ 0) / 33554432 = σ 11 0; rw [e]; unfold ln; omega)⟩
  refine x_iload C dL_law_1388 19 rfl ?_
  refine z_iconst C dL_law_1390 ?_
  refine z_irem C dL_law_1391 (rg_of (by omega) (by omega)) (by omega) (rg_of (by omega) (by omega)) (by omega) rfl ?_
  refine z_if_le (tgt := 1526) C dL_law_1392 (by decide) (rg_of (by omega) (by omega)) (fun c_1 => ?_) (fun c_1 => ?_)
  · refine x_wid (a := cells + 700) (b := slots + 46300) (by omega) (by omega) ?_
    exact law_ans2 C ⟨by omega, by omega⟩ ⟨hC, hK, hn, hh, ⟨_, hz, hZB⟩, hd, hy, hg, hu, ⟨_, hw, hWR⟩, hs, ht, he, hb, _, hcc⟩ hn5 hv9 hp9 hw9 hs9 (fun μ' σ' h => kk μ' σ' h)
  · refine x_aload_n C dL_law_1395 rfl 2 rfl ?_
    refine z_iconst C dL_law_1396 ?_
    refine z_iald (j := 0) C dL_law_1397 hn (by omega) (by omega) (by decide) ?_
    refine x_stk (stk' := [.int (zI (σ 7 0))]) (by (rfl)) ?_
    refine z_if_le (tgt := 1526) C dL_law_1398 (by decide) (rg_of (by omega) (by omega)) (fun c_2 => ?_) (fun c_2 => ?_)
    · refine x_wid (a := cells + 700) (b := slots + 46300) (by omega) (by omega) ?_
      exact law_ans2 C ⟨by omega, by omega⟩ ⟨hC, hK, hn, hh, ⟨_, hz, hZB⟩, hd, hy, hg, hu, ⟨_, hw, hWR⟩, hs, ht, he, hb, _, hcc⟩ hn5 hv9 hp9 hw9 hs9 (fun μ' σ' h => kk μ' σ' h)
    · refine x_aload_n C dL_law_1401 rfl 2 rfl ?_
      refine z_iconst C dL_law_1402 ?_
      refine z_iald (j := 1) C dL_law_1403 hn (by omega) (by omega) (by decide) ?_
      refine x_stk (stk' := [.int (zI (σ 12 0))]) (by (rfl)) ?_
      refine z_if_le (tgt := 1526) C dL_law_1404 (by decide) (rg_of (by omega) (by omega)) (fun c_3 => ?_) (fun c_3 => ?_)
      · refine x_wid (a := cells + 700) (b := slots + 46300) (by omega) (by omega) ?_
        exact law_ans2 C ⟨by omega, by omega⟩ ⟨hC, hK, hn, hh, ⟨_, hz, hZB⟩, hd, hy, hg, hu, ⟨_, hw, hWR⟩, hs, ht, he, hb, _, hcc⟩ hn5 hv9 hp9 hw9 hs9 (fun μ' σ' h => kk μ' σ' h)
      · have J1436 : ∀ (st9 : Int) (hst9 : 0 ≤ st9 ∧ st9 < σ 7 0), Wx E G cells slots 1436 [(0, .ref bs), (1, .ref xa), (2, .ref (A 0)), (3, .ref (A 1)), (4, .ref (A 2)), (5, .ref (A 3)), (6, .ref (A 4)), (7, .ref (A 5)), (8, .ref (A 6)), (9, .ref (A 7)), (10, .ref (A 8)), (11, .ref (A 9)), (12, .ref (A 10)), (13, .ref (A 11)), (14, .ref (A 12)), (15, .int (zI 1)), (16, .int (zI (τ : Int))), (17, .int (zI f9)), (18, .int (zI kd)), (19, .int (zI v)), (20, .int (zI (p : Int))), (21, .int (zI (w : Int))), (22, .int (zI (s : Int)))] [.int (zI st9)] μ := by
          intro st9 hst9
          obtain ⟨s1, hs1⟩ : ∃ s1 : Nat, st9 = (s1 : Int) := ⟨st9.toNat, by omega⟩
          subst hs1
          refine x_istore (lv' := [(22, .int (zI (s1 : Int))), (0, .ref bs), (1, .ref xa), (2, .ref (A 0)), (3, .ref (A 1)), (4, .ref (A 2)), (5, .ref (A 3)), (6, .ref (A 4)), (7, .ref (A 5)), (8, .ref (A 6)), (9, .ref (A 7)), (10, .ref (A 8)), (11, .ref (A 9)), (12, .ref (A 10)), (13, .ref (A 11)), (14, .ref (A 12)), (15, .int (zI 1)), (16, .int (zI (τ : Int))), (17, .int (zI f9)), (18, .int (zI kd)), (19, .int (zI v)), (20, .int (zI (p : Int))), (21, .int (zI (w : Int)))]) C dL_law_1436 (by decide) rfl ?_
          refine x_aload_n C dL_law_1438 rfl 2 rfl ?_
          refine x_callV (n := 0) (ci := 9) (Cn := RX8) (T := TX8) (N := 10) (cc9 := cells) (ss9 := slots) (rest := []) C dL_law_1439 (c_X8_clearSpelled (kxL E) C.st G z μ xa σ n hC hK.1) gL_law_X8_clearSpelled rfl (by decide +kernel) ⟨(Nat.le_of_ble_eq_true rfl), (Nat.le_of_ble_eq_true rfl)⟩ rfl hC.ob rfl rfl (Nat.le_of_ble_eq_true rfl) rfl rfl ⟨(by omega), (by omega)⟩ nX_no (fun v4 μ5 hv6 => ?_)
          obtain ⟨r7, hw10, h8⟩ := hv6
          subst hw10
          obtain ⟨⟨hr9, hC⟩, hF9⟩ := h8
          have hF11 := hF9
          have hn := hF11.ai hn
          have hh := hF11.ai hh
          have hz := hF11.ol hz
          have hd := hF11.ai hd
          have hy := hF11.ai hy
          have hg := hF11.ai hg
          have hu := hF11.ai hu
          have hw := hF11.ai hw
          have hs := hF11.ai hs
          have ht := hF11.ai ht
          have he := hF11.ai he
          have hb := hF11.ai hb
          have hcc := hF11.ai hcc
          refine x_stk (stk' := [.int (zI r7)]) rfl ?_
          refine x_aload C dL_law_1442 9 rfl ?_
          refine z_iconst C dL_law_1444 ?_
          refine z_iald (j := 0) C dL_law_1445 hu (by omega) (by omega) (by decide) ?_
          refine z_bipush C dL_law_1446 (by decide) ?_
          refine z_ishr (v := ((uF σ) 0) / 33554432) C 25 dL_law_1448 (by omega) (by omega) rfl (by omega) rfl ?_
          refine z_icmp_ne (tgt := 1456) C dL_law_1449 (by decide) (rg_of (by omega) (by omega)) (rg_of (by omega) (by omega)) (fun c_12 => ?_) (fun c_12 => ?_)
          · exfalso; omega
          · refine z_iconst C dL_law_1452 ?_
            refine x_goto (tgt := 1457) C dL_law_1453 (by decide) ?_
            refine x_istore (lv' := [(15, .int (zI 1)), (22, .int (zI (s1 : Int))), (0, .ref bs), (1, .ref xa), (2, .ref (A 0)), (3, .ref (A 1)), (4, .ref (A 2)), (5, .ref (A 3)), (6, .ref (A 4)), (7, .ref (A 5)), (8, .ref (A 6)), (9, .ref (A 7)), (10, .ref (A 8)), (11, .ref (A 9)), (12, .ref (A 10)), (13, .ref (A 11)), (14, .ref (A 12)), (16, .int (zI (τ : Int))), (17, .int (zI f9)), (18, .int (zI kd)), (19, .int (zI v)), (20, .int (zI (p : Int))), (21, .int (zI (w : Int)))]) C dL_law_1457 (by decide) rfl ?_
            refine x_aload C dL_law_1459 10 rfl ?_
            refine z_iconst C dL_law_1461 ?_
            refine z_iconst C dL_law_1462 ?_
            refine z_iast (j := 0) C dL_law_1463 hu (by omega) (by omega) (by decide) (fun μ13 huw hF14 => ?_)
            have hn := hF14.ai hn
            have hh := hF14.ai hh
            have hz := hF14.ol hz
            have hd := hF14.ai hd
            have hy := hF14.ai hy
            have hg := hF14.ai hg
            have hw := hF14.ai hw
            have hs := hF14.ai hs
            have ht := hF14.ai ht
            have he := hF14.ai he
            have hb := hF14.ai hb
            have hcc := hF14.ai hcc
            have hC : RepC G z μ13 xa (n_clearSpelled σ) n := hF14.repc hC
            have hu := huw
            refine x_aload C dL_law_1464 10 rfl ?_
            refine x_iload C dL_law_1466 1 rfl ?_
            refine z_iconst C dL_law_1468 ?_
            refine z_iadd C dL_law_1469 rfl ?_
            refine z_iald (j := s1 + 1) C dL_law_1470 hu (by omega) (by omega) (by decide) ?_
            refine x_stk (stk' := [.int (zI ((uF σ) (s1 + 1)))]) (by (rw [wr_ne (by omega)])) ?_
            refine x_istore (lv' := [(23, .int (zI ((uF σ) (s1 + 1)))), (15, .int (zI 1)), (22, .int (zI (s1 : Int))), (0, .ref bs), (1, .ref xa), (2, .ref (A 0)), (3, .ref (A 1)), (4, .ref (A 2)), (5, .ref (A 3)), (6, .ref (A 4)), (7, .ref (A 5)), (8, .ref (A 6)), (9, .ref (A 7)), (10, .ref (A 8)), (11, .ref (A 9)), (12, .ref (A 10)), (13, .ref (A 11)), (14, .ref (A 12)), (16, .int (zI (τ : Int))), (17, .int (zI f9)), (18, .int (zI kd)), (19, .int (zI v)), (20, .int (zI (p : Int))), (21, .int (zI (w : Int)))]) C dL_law_1471 (by decide) rfl ?_
            obtain ⟨hLs, hls5⟩ := uF_rg hK.1 (show s1 + 1 < 7 by omega)
            have hws := wv_rg hLs hls5
            have hwu : 0 ≤ uF σ (s1 + 1) ∧ uF σ (s1 + 1) < 234881024 := ⟨hws.1, hws.2.1⟩
            have hwm : uF σ (s1 + 1) / 33554432 = ((ln σ (s1 + 1) : Nat) : Int) := hws.2.2
            refine z_iconst C dL_law_1473 ?_
            refine x_istore (lv' := [(24, .int (zI 0)), (23, .int (zI ((uF σ) (s1 + 1)))), (15, .int (zI 1)), (22, .int (zI (s1 : Int))), (0, .ref bs), (1, .ref xa), (2, .ref (A 0)), (3, .ref (A 1)), (4, .ref (A 2)), (5, .ref (A 3)), (6, .ref (A 4)), (7, .ref (A 5)), (8, .ref (A 6)), (9, .ref (A 7)), (10, .ref (A 8)), (11, .ref (A 9)), (12, .ref (A 10)), (13, .ref (A 11)), (14, .ref (A 12)), (16, .int (zI (τ : Int))), (17, .int (zI f9)), (18, .int (zI kd)), (19, .int (zI v)), (20, .int (zI (p : Int))), (21, .int (zI (w : Int)))]) C dL_law_1474 (by decide) rfl ?_
            have L1476 : ∀ (M9 : Nat) (μk : Mm) (k : Nat) (kz : Int) (hkz : kz = (k : Int)) (σk : SS) (hn : AI G μk (A 0) 3006 4 (nF σ)) (hh : AI G μk (A 1) 4001 64 (σ 0)) (hz : OL G μk (A 2) 4002 K) (hd : AI G μk (A 3) 4003 35 (dF σ)) (hy : AI G μk (A 4) 4004 7 (σ 6)) (hg : AI G μk (A 5) 4005 12 (gF σ)) (hu : AI G μk (A 6) 4006 7 (wr (uF σ) 0 0)) (hw : AI G μk (A 7) 3007 30 W) (hs : AI G μk (A 8) 4008 6 (sF σ)) (ht : AI G μk (A 9) 4009 6 (tF σ)) (he : AI G μk (A 10) 4010 36 (σ 22)) (hb : AI G μk (A 11) 4011 4 (σ 19)) (hcc : AI G μk (A 12) 3010 64 C9) (hC : RepC G z μk xa σk n) (hk : k ≤ ln σ (s1 + 1)) (hSp : SpI σ (lw σ (s1 + 1)) k σk) (hKk : Kv σk n) (hM9 : 6 - k = M9), Wx E G (cells + 1 * k) (slots + 6 * k) 1476 [(24, .int (zI kz)), (23, .int (zI ((uF σ) (s1 + 1)))), (15, .int (zI 1)), (22, .int (zI (s1 : Int))), (0, .ref bs), (1, .ref xa), (2, .ref (A 0)), (3, .ref (A 1)), (4, .ref (A 2)), (5, .ref (A 3)), (6, .ref (A 4)), (7, .ref (A 5)), (8, .ref (A 6)), (9, .ref (A 7)), (10, .ref (A 8)), (11, .ref (A 9)), (12, .ref (A 10)), (13, .ref (A 11)), (14, .ref (A 12)), (16, .int (zI (τ : Int))), (17, .int (zI f9)), (18, .int (zI kd)), (19, .int (zI v)), (20, .int (zI (p : Int))), (21, .int (zI (w : Int)))] [] μk := by
              intro M9
              induction M9 using Nat.strongRecOn with
              | ind M9 ih1476 =>
                intro μk k kz hkz σk hn hh hz hd hy hg hu hw hs ht he hb hcc hC hk hSp hKk hM9
                subst hkz
                refine x_iload C dL_law_1476 0 rfl ?_
                refine x_iload C dL_law_1478 1 rfl ?_
                refine z_bipush C dL_law_1480 (by decide) ?_
                refine z_ishr (v := ((uF σ) (s1 + 1)) / 33554432) C 25 dL_law_1482 (by omega) (by omega) rfl (by omega) rfl ?_
                refine z_icmp_ge (tgt := 1520) C dL_law_1483 (by decide) (rg_of (by omega) (by omega)) (rg_of (by omega) (by omega)) (fun c_15 => ?_) (fun c_15 => ?_)
                · refine x_aload C dL_law_1520 12 rfl ?_
                  refine z_iconst C dL_law_1522 ?_
                  refine x_iload C dL_law_1523 1 rfl ?_
                  refine z_iast (j := 0) C dL_law_1525 hu (by omega) (by omega) (by decide) (fun μ16 huw hF17 => ?_)
                  have hn := hF17.ai hn
                  have hh := hF17.ai hh
                  have hz := hF17.ol hz
                  have hd := hF17.ai hd
                  have hy := hF17.ai hy
                  have hg := hF17.ai hg
                  have hw := hF17.ai hw
                  have hs := hF17.ai hs
                  have ht := hF17.ai ht
                  have he := hF17.ai he
                  have hb := hF17.ai hb
                  have hcc := hF17.ai hcc
                  have hC : RepC G z μ16 xa σk n := hF17.repc hC
                  have hu := huw
                  have qr : ∀ r : Nat, r ≠ 10 ∧ r ≠ 11 → σk r = σ r := fun r h => hSp.1 r h.1 h.2
                  have hu8 := hu
                  rw [wr_wr2] at hu8
                  have hu7 := hu8.cong (g' := uF σk) (fun j hj => by (have h9 := uF_sp hK.1 hSp j hj; rw [show k = ln σ (s1 + 1) by omega] at h9; exact h9))
                  refine x_sub (lv' := [(0, .ref bs), (1, .ref xa), (2, .ref (A 0)), (3, .ref (A 1)), (4, .ref (A 2)), (5, .ref (A 3)), (6, .ref (A 4)), (7, .ref (A 5)), (8, .ref (A 6)), (9, .ref (A 7)), (10, .ref (A 8)), (11, .ref (A 9)), (12, .ref (A 10)), (13, .ref (A 11)), (14, .ref (A 12)), (15, .int (zI 1)), (16, .int (zI (τ : Int))), (17, .int (zI f9)), (18, .int (zI kd)), (19, .int (zI v)), (20, .int (zI (p : Int))), (21, .int (zI (w : Int))), (22, .int (zI (s1 : Int)))]) [4, 5, 6, 7, 8, 9, 10, 11, 12, 13, 14, 15, 16, 17, 18, 2, 19, 20, 21, 22, 23, 24, 3] rfl ?_
                  refine x_wid (a := cells + 700) (b := slots + 46300) (by omega) (by omega) ?_
                  exact law_ans2 C ⟨by omega, by omega⟩ ⟨hC, hKk, (by (rw [nF_c (σ := σ) (congrFun (qr 7 (by decide)) 0) (congrFun (qr 12 (by decide)) 0) (congrFun (qr 18 (by decide)) 0) (congrFun (qr 23 (by decide)) 0)]; exact hn)), (by (rw [(qr 0 (by decide))]; exact hh)), ⟨_, hz, hZB.c (qr 1 (by decide))⟩, (by (rw [dF_c (σ := σ) (qr 2 (by decide)) (qr 3 (by decide)) (qr 4 (by decide)) (qr 5 (by decide))]; exact hd)), (by (rw [(qr 6 (by decide))]; exact hy)), (by (rw [gF_c (σ := σ) (qr 8 (by decide)) (qr 9 (by decide))]; exact hg)), hu7, ⟨_, hw, hWR.c (congrFun (qr 12 (by decide)) 0) (qr 13 (by decide)) (qr 14 (by decide)) (qr 15 (by decide)) (qr 16 (by decide)) (qr 17 (by decide))⟩, (by (rw [sF_c (σ := σ) (qr 20 (by decide))]; exact hs)), (by (rw [tF_c (σ := σ) (qr 21 (by decide))]; exact ht)), (by (rw [(qr 22 (by decide))]; exact he)), (by (rw [(qr 19 (by decide))]; exact hb)), _, hcc⟩ hn5 hv9 hp9 (by (rw [congrFun (qr 12 (by decide)) 0]; exact hw9)) (Or.inr (by (rw [congrFun (qr 7 (by decide)) 0]; omega))) (fun μ' σ' h => kk μ' σ' h)
                · refine x_iload C dL_law_1486 2 rfl ?_
                  refine z_if_eq (tgt := 1520) C dL_law_1488 (by decide) (rg_of (by omega) (by omega)) (fun c_18 => ?_) (fun c_18 => ?_)
                  · exfalso; omega
                  · refine x_aload_n C dL_law_1491 rfl 5 rfl ?_
                    refine x_iload C dL_law_1492 1 rfl ?_
                    refine x_iload C dL_law_1494 0 rfl ?_
                    refine x_callS (n := 2) (cc9 := (cells + 1 * k)) (ss9 := (slots + 6 * k)) (rest := [.ref xa]) C dL_law_1496 (c_L_letter (kxL E) C.st G z μk (lw σ (s1 + 1)) (ln σ (s1 + 1)) k hLs (by omega) hls5) gL_law_L_letter rfl (by decide +kernel) ⟨(Nat.le_of_ble_eq_true rfl), (Nat.le_of_ble_eq_true rfl)⟩ rfl rfl (Nat.le_of_ble_eq_true rfl) rfl rfl ⟨(by omega), (by omega)⟩ nX_no (fun v19 μ20 hv21 => ?_)
                    obtain ⟨r22, hw25, h23, hm24⟩ := hv21
                    subst hw25
                    rw [hm24]
                    have hlr : r22 = lw σ (s1 + 1) k := h23
                    have hlk := hLs k (by omega)
                    refine x_stk (stk' := [.int (zI r22), .ref xa]) rfl ?_
                    have hts : t_spell σk r22 = 0 := by (unfold t_spell; rw [if_pos ⟨by omega, by omega⟩, if_pos (by (have := hSp.2.2.2.1; omega))])
                    refine x_callV (n := 1) (ci := 9) (Cn := RX8) (T := TX8) (N := 10) (cc9 := ((cells + 1 * k) + 1)) (ss9 := ((slots + 6 * k) + 6)) (rest := []) C dL_law_1499 (c_X8_spell (kxL E) C.st G z μk xa σk n r22 hC hKk.1 (by omega)) gL_law_X8_spell rfl (by decide +kernel) ⟨(Nat.le_of_ble_eq_true rfl), (Nat.le_of_ble_eq_true rfl)⟩ rfl hC.ob rfl rfl (Nat.le_of_ble_eq_true rfl) rfl rfl ⟨(by omega), (by omega)⟩ (fun En hEn => by (exfalso; rcases hEn with ⟨-, h9⟩ | ⟨-, h9⟩ <;> (rw [hts] at h9; omega))) (fun v26 μ27 hv28 => ?_)
                    obtain ⟨r29, hw32, h30⟩ := hv28
                    subst hw32
                    obtain ⟨⟨hts9, hb9, hC⟩, hF9⟩ := h30
                    have hF33 := hF9
                    have hn := hF33.ai hn
                    have hh := hF33.ai hh
                    have hz := hF33.ol hz
                    have hd := hF33.ai hd
                    have hy := hF33.ai hy
                    have hg := hF33.ai hg
                    have hu := hF33.ai hu
                    have hw := hF33.ai hw
                    have hs := hF33.ai hs
                    have ht := hF33.ai ht
                    have he := hF33.ai he
                    have hb := hF33.ai hb
                    have hcc := hF33.ai hcc
                    have hcg := chs_ge (wr (σk 10) (σk 11 0).toNat r22) ((σk 11 0).toNat + 1)
                    have hcr := chs_rg (wr (σk 10) (σk 11 0).toNat r22) ((σk 11 0).toNat + 1)
                    have hb8 : r29 = chs (wr (σk 10) (σk 11 0).toNat r22) ((σk 11 0).toNat + 1) := hb9
                    have hsk := hSp.2.2.2.1
                    refine x_stk (stk' := [.int (zI r29)]) rfl ?_
                    refine x_iload C dL_law_1502 0 rfl ?_
                    refine z_icmp_le (tgt := 1511) C dL_law_1504 (by decide) (rg_of (by omega) (by omega)) (rg_of (by omega) (by omega)) (fun c_34 => ?_) (fun c_34 => ?_)
                    · exfalso; omega
                    · refine z_iconst C dL_law_1507 ?_
                      refine x_goto (tgt := 1512) C dL_law_1508 (by decide) ?_
                      refine x_istore (lv' := [(15, .int (zI 1)), (24, .int (zI (k : Int))), (23, .int (zI ((uF σ) (s1 + 1)))), (22, .int (zI (s1 : Int))), (0, .ref bs), (1, .ref xa), (2, .ref (A 0)), (3, .ref (A 1)), (4, .ref (A 2)), (5, .ref (A 3)), (6, .ref (A 4)), (7, .ref (A 5)), (8, .ref (A 6)), (9, .ref (A 7)), (10, .ref (A 8)), (11, .ref (A 9)), (12, .ref (A 10)), (13, .ref (A 11)), (14, .ref (A 12)), (16, .int (zI (τ : Int))), (17, .int (zI f9)), (18, .int (zI kd)), (19, .int (zI v)), (20, .int (zI (p : Int))), (21, .int (zI (w : Int)))]) C dL_law_1512 (by decide) rfl ?_
                      refine z_iinc (lv' := [(24, .int (zI ((k : Int) + 1))), (15, .int (zI 1)), (23, .int (zI ((uF σ) (s1 + 1)))), (22, .int (zI (s1 : Int))), (0, .ref bs), (1, .ref xa), (2, .ref (A 0)), (3, .ref (A 1)), (4, .ref (A 2)), (5, .ref (A 3)), (6, .ref (A 4)), (7, .ref (A 5)), (8, .ref (A 6)), (9, .ref (A 7)), (10, .ref (A 8)), (11, .ref (A 9)), (12, .ref (A 10)), (13, .ref (A 11)), (14, .ref (A 12)), (16, .int (zI (τ : Int))), (17, .int (zI f9)), (18, .int (zI kd)), (19, .int (zI v)), (20, .int (zI (p : Int))), (21, .int (zI (w : Int)))]) C dL_law_1514 1 rfl rfl (by decide) rfl ?_
                      refine x_goto (tgt := 1476) C dL_law_1517 (by decide) ?_
                      refine x_sub (lv' := [(24, .int (zI ((k : Int) + 1))), (23, .int (zI ((uF σ) (s1 + 1)))), (15, .int (zI 1)), (22, .int (zI (s1 : Int))), (0, .ref bs), (1, .ref xa), (2, .ref (A 0)), (3, .ref (A 1)), (4, .ref (A 2)), (5, .ref (A 3)), (6, .ref (A 4)), (7, .ref (A 5)), (8, .ref (A 6)), (9, .ref (A 7)), (10, .ref (A 8)), (11, .ref (A 9)), (12, .ref (A 10)), (13, .ref (A 11)), (14, .ref (A 12)), (16, .int (zI (τ : Int))), (17, .int (zI f9)), (18, .int (zI kd)), (19, .int (zI v)), (20, .int (zI (p : Int))), (21, .int (zI (w : Int)))]) [0, 2, 1, 3, 4, 5, 6, 7, 8, 9, 10, 11, 12, 13, 14, 15, 16, 17, 18, 19, 20, 21, 22, 23, 24] rfl ?_
                      refine x_wid (a := (cells + 1 * (k + 1))) (b := (slots + 6 * (k + 1))) (by omega) (by omega) ?_
                      exact ih1476 _ (by omega) _ (k + 1) _ (by omega) (n_spell σk r22) hn hh hz hd hy hg hu hw hs ht he hb hcc hC (by omega) (by (rw [hlr]; exact SpI_s hSp (by omega))) (Kv_spell hKk hts) rfl
            refine x_wid (a := (cells + 1 * (0))) (b := (slots + 6 * (0))) (by omega) (by omega) ?_
            exact L1476 _ _ (0) _ (by omega) (n_clearSpelled σ) hn hh hz hd hy hg hu hw hs ht he hb hcc hC (by omega) SpI_0 (Kv_clearSpelled hK) rfl
        refine x_aload C dL_law_1407 10 rfl ?_
        refine x_iload C dL_law_1409 21 rfl ?_
        refine z_iald (j := w) C dL_law_1411 hs (by omega) (by omega) (by decide) ?_
        refine z_i2l C dL_law_1412 ?_
        refine x_callS (n := 1) (cc9 := cells) (ss9 := slots) (rest := []) C dL_law_1413 (c_L_many (kxL E) C.st G z μ ((zI ((sF σ) w)).toInt64)) gL_law_L_many rfl (by decide +kernel) ⟨(Nat.le_of_ble_eq_true rfl), (Nat.le_of_ble_eq_true rfl)⟩ rfl rfl (Nat.le_of_ble_eq_true rfl) rfl rfl ⟨(by omega), (by omega)⟩ nX_no (fun v35 μ36 hv37 => ?_)
        obtain ⟨r38, hw41, h39, hm40⟩ := hv37
        subst hw41
        rw [hm40]
        have hv1 : r38 = b_solved σ w := h39.trans ((b6_cnt (f := fun s => σ 20 (6 * w + s)) hrf).trans (hGv.so (by omega) h7))
        have hsov := b_solved_rg hK.1 (show w < 6 by omega)
        refine x_stk (stk' := [.int (zI r38)]) rfl ?_
        refine x_aload_n C dL_law_1416 rfl 2 rfl ?_
        refine z_iconst C dL_law_1417 ?_
        refine z_iald (j := 0) C dL_law_1418 hn (by omega) (by omega) (by decide) ?_
        refine x_stk (stk' := [.int (zI (σ 7 0)), .int (zI r38)]) (by (rfl)) ?_
        refine z_icmp_ge (tgt := 1434) C dL_law_1419 (by decide) (rg_of (by omega) (by omega)) (rg_of (by omega) (by omega)) (fun c_42 => ?_) (fun c_42 => ?_)
        · refine x_iload C dL_law_1434 22 rfl ?_
          exact J1436 _ (by omega)
        · refine x_aload C dL_law_1422 10 rfl ?_
          refine x_iload C dL_law_1424 21 rfl ?_
          refine z_iald (j := w) C dL_law_1426 hs (by omega) (by omega) (by decide) ?_
          refine z_i2l C dL_law_1427 ?_
          refine x_callS (n := 1) (cc9 := cells) (ss9 := slots) (rest := []) C dL_law_1428 (c_L_many (kxL E) C.st G z μ ((zI ((sF σ) w)).toInt64)) gL_law_L_many rfl (by decide +kernel) ⟨(Nat.le_of_ble_eq_true rfl), (Nat.le_of_ble_eq_true rfl)⟩ rfl rfl (Nat.le_of_ble_eq_true rfl) rfl rfl ⟨(by omega), (by omega)⟩ nX_no (fun v43 μ44 hv45 => ?_)
          obtain ⟨r46, hw49, h47, hm48⟩ := hv45
          subst hw49
          rw [hm48]
          have hv2 : r46 = b_solved σ w := h47.trans ((b6_cnt (f := fun s => σ 20 (6 * w + s)) hrf).trans (hGv.so (by omega) h7))
          have hsov := b_solved_rg hK.1 (show w < 6 by omega)
          refine x_stk (stk' := [.int (zI r46)]) rfl ?_
          refine x_goto (tgt := 1436) C dL_law_1431 (by decide) ?_
          exact J1436 _ (by omega)
set_option maxHeartbeats 8000000 in
set_option maxRecDepth 100000 in
theorem law_tell {E : EE} {G : GG} {z : Nat} (C : Cx E G z cL_law RL wsL_law room_1 27) {cells slots : Nat} (hcs : cells + 800 ≤ room_1.cells ∧ slots + 47000 ≤ room_1.slots) {μ : Mm} {xa bs : Nat} {A : Nat → Nat} {σ : SS} {n τ : Nat} {f9 kd v : Int} {p w s : Nat} (hS : LwS G z μ xa A σ n) (hn5 : n < 512) (hv9 : 0 ≤ v ∧ v < 100000000) (hp9 : p < 64) (hw9 : (σ 12 0 = 0 ∧ w = 0) ∨ (w : Int) < σ 12 0) (hs9 : (σ 7 0 = 0 ∧ s = 0) ∨ (s : Int) < σ 7 0) (kk : ∀ (μ' : Mm) (σ' : SS), LwS G z μ' xa A σ' (n + 1) → Wx E G (cells + 800) (slots + 47000) 2027 [(0, .ref bs), (1, .ref xa), (2, .ref (A 0)), (3, .ref (A 1)), (4, .ref (A 2)), (5, .ref (A 3)), (6, .ref (A 4)), (7, .ref (A 5)), (8, .ref (A 6)), (9, .ref (A 7)), (10, .ref (A 8)), (11, .ref (A 9)), (12, .ref (A 10)), (13, .ref (A 11)), (14, .ref (A 12)), (15, .int (zI 1)), (16, .int (zI (τ : Int))), (19, .int (zI v))] [] μ') : Wx E G cells slots 1751 [(0, .ref bs), (1, .ref xa), (2, .ref (A 0)), (3, .ref (A 1)), (4, .ref (A 2)), (5, .ref (A 3)), (6, .ref (A 4)), (7, .ref (A 5)), (8, .ref (A 6)), (9, .ref (A 7)), (10, .ref (A 8)), (11, .ref (A 9)), (12, .ref (A 10)), (13, .ref (A 11)), (14, .ref (A 12)), (15, .int (zI 1)), (16, .int (zI (τ : Int))), (17, .int (zI f9)), (18, .int (zI kd)), (19, .int (zI v)), (20, .int (zI (p : Int))), (21, .int (zI (w : Int))), (22, .int (zI (s : Int)))] [] μ := by
  obtain ⟨hC, hK, hn, hh, ⟨K, hz, hZB⟩, hd, hy, hg, hu, ⟨W, hw, hWR⟩, hs, ht, he, hb, C9, hcc⟩ := hS
  have hGv := hC.gv
  have h7 := hK.1.n7
  have h12 := hK.1.n12
  have h18 := hK.1.n18
  have h23 := hK.1.n23
  have hrf : ∀ u, u < 6 → 0 ≤ σ 20 (6 * w + u) ∧ σ 20 (6 * w + u) ≤ 1 := fun u hu => hK.1.r20 (6 * w + u) (by omega)
  have hrf20 := hrf
  have J1770 : ∀ (o9 : Int) (ho0 : 0 ≤ o9 ∧ ((σ 12 0 = 0 ∧ o9 = 0) ∨ o9 < σ 12 0)), Wx E G cells slots 1770 [(0, .ref bs), (1, .ref xa), (2, .ref (A 0)), (3, .ref (A 1)), (4, .ref (A 2)), (5, .ref (A 3)), (6, .ref (A 4)), (7, .ref (A 5)), (8, .ref (A 6)), (9, .ref (A 7)), (10, .ref (A 8)), (11, .ref (A 9)), (12, .ref (A 10)), (13, .ref (A 11)), (14, .ref (A 12)), (15, .int (zI 1)), (16, .int (zI (τ : Int))), (17, .int (zI f9)), (18, .int (zI kd)), (19, .int (zI v)), (20, .int (zI (p : Int))), (21, .int (zI (w : Int))), (22, .int (zI (s : Int)))] [.int (zI o9)] μ := by
    intro o9 ho0
    obtain ⟨o, ho⟩ : ∃ o : Nat, o9 = (o : Int) := ⟨o9.toNat, by omega⟩
    subst ho
    have ho9 : (σ 12 0 = 0 ∧ o = 0) ∨ (o : Int) < σ 12 0 := by omega
    have hbw : sF σ w / 2 ^ s % 2 = σ 20 (6 * w + s) := b6_bit (f := fun u => σ 20 (6 * w + u)) hrf (by omega)
    have hbr : 0 ≤ sF σ w ∧ sF σ w < 64 := b6_rg hrf
    have hbv := dv_rg hbr.1 s
    have hrf20o : ∀ u, u < 6 → 0 ≤ σ 20 (6 * o + u) ∧ σ 20 (6 * o + u) ≤ 1 := fun u hu => hK.1.r20 (6 * o + u) (by omega)
    have hrf21 : ∀ u, u < 6 → 0 ≤ σ 21 (6 * o + u) ∧ σ 21 (6 * o + u) ≤ 1 := fun u hu => hK.1.r21 (6 * o + u) (by omega)
    have h20o := hrf20o s (by omega)
    have h21o := hrf21 s (by omega)
    have h14w := hK.1.r14 w (by omega)
    have h14o := hK.1.r14 o (by omega)
    have hdd := dst_rg (p := σ 14 w) (q := σ 14 o) (by omega) (by omega)
    have hz9 : (σ 7 0 = 0 ∧ σ 20 (6 * w + s) = 0) ∨ 0 < σ 7 0 := by (by_cases q : σ 7 0 = 0; exact Or.inl ⟨q, hGv.z (w := w) (s := s) (by omega) (by omega) (by omega)⟩; exact Or.inr (by omega))
    have h22 := hK.1.r22 (6 * o + s) (by omega)
    have hpt := pts_rg (w := σ 22 (6 * o + s)) (t := 1) (by omega)
    refine x_istore (lv' := [(23, .int (zI (o : Int))), (0, .ref bs), (1, .ref xa), (2, .ref (A 0)), (3, .ref (A 1)), (4, .ref (A 2)), (5, .ref (A 3)), (6, .ref (A 4)), (7, .ref (A 5)), (8, .ref (A 6)), (9, .ref (A 7)), (10, .ref (A 8)), (11, .ref (A 9)), (12, .ref (A 10)), (13, .ref (A 11)), (14, .ref (A 12)), (15, .int (zI 1)), (16, .int (zI (τ : Int))), (17, .int (zI f9)), (18, .int (zI kd)), (19, .int (zI v)), (20, .int (zI (p : Int))), (21, .int (zI (w : Int))), (22, .int (zI (s : Int)))]) C dL_law_1770 (by decide) rfl ?_
    have J1841 : ∀ (can : Int) (hcan : (can = 1 ∧ (0 < σ 12 0 ∧ σ 20 (6 * w + s) = 1 ∧ dst (σ 14 w) (σ 14 o) ≤ 1 ∧ σ 20 (6 * o + s) = 0 ∧ σ 21 (6 * o + s) = 0)) ∨ (can = 0 ∧ ¬ (0 < σ 12 0 ∧ σ 20 (6 * w + s) = 1 ∧ dst (σ 14 w) (σ 14 o) ≤ 1 ∧ σ 20 (6 * o + s) = 0 ∧ σ 21 (6 * o + s) = 0))), Wx E G cells slots 1841 [(23, .int (zI (o : Int))), (0, .ref bs), (1, .ref xa), (2, .ref (A 0)), (3, .ref (A 1)), (4, .ref (A 2)), (5, .ref (A 3)), (6, .ref (A 4)), (7, .ref (A 5)), (8, .ref (A 6)), (9, .ref (A 7)), (10, .ref (A 8)), (11, .ref (A 9)), (12, .ref (A 10)), (13, .ref (A 11)), (14, .ref (A 12)), (15, .int (zI 1)), (16, .int (zI (τ : Int))), (17, .int (zI f9)), (18, .int (zI kd)), (19, .int (zI v)), (20, .int (zI (p : Int))), (21, .int (zI (w : Int))), (22, .int (zI (s : Int)))] [.int (zI can)] μ := by
      intro can hcan
      refine x_istore (lv' := [(24, .int (zI can)), (23, .int (zI (o : Int))), (0, .ref bs), (1, .ref xa), (2, .ref (A 0)), (3, .ref (A 1)), (4, .ref (A 2)), (5, .ref (A 3)), (6, .ref (A 4)), (7, .ref (A 5)), (8, .ref (A 6)), (9, .ref (A 7)), (10, .ref (A 8)), (11, .ref (A 9)), (12, .ref (A 10)), (13, .ref (A 11)), (14, .ref (A 12)), (15, .int (zI 1)), (16, .int (zI (τ : Int))), (17, .int (zI f9)), (18, .int (zI kd)), (19, .int (zI v)), (20, .int (zI (p : Int))), (21, .int (zI (w : Int))), (22, .int (zI (s : Int)))]) C dL_law_1841 (by decide) rfl ?_
      refine x_aload C dL_law_1843 13 rfl ?_
      refine x_iload C dL_law_1845 1 rfl ?_
      refine x_dup2 C dL_law_1847 rfl rfl ?_
      refine z_iald (j := o) C dL_law_1848 ht (by omega) (by omega) (by decide) ?_
      refine x_iload C dL_law_1849 0 rfl ?_
      refine z_if_eq (tgt := 1868) C dL_law_1851 (by decide) (rg_of (by omega) (by omega)) (fun c_1 => ?_) (fun c_1 => ?_)
      · refine z_iconst C dL_law_1868 ?_
        refine x_ior (v := zI ((tF σ) o)) C dL_law_1869 ior_0 ?_
        refine z_iast (j := o) C dL_law_1870 ht (by omega) (by omega) (by decide) (fun μ2 htw hF3 => ?_)
        have hC : RepC G z μ2 xa σ n := hF3.repc hC
        have hn := hF3.ai hn
        have hh := hF3.ai hh
        have hz := hF3.ol hz
        have hd := hF3.ai hd
        have hy := hF3.ai hy
        have hg := hF3.ai hg
        have hu := hF3.ai hu
        have hw := hF3.ai hw
        have hs := hF3.ai hs
        have he := hF3.ai he
        have hb := hF3.ai hb
        have hcc := hF3.ai hcc
        have ht := htw
        refine x_aload_n C dL_law_1871 rfl 3 rfl ?_
        refine z_bipush C dL_law_1872 (by decide) ?_
        refine x_iload C dL_law_1874 23 rfl ?_
        refine x_iload C dL_law_1876 1 rfl ?_
        refine x_iload C dL_law_1878 24 rfl ?_
        refine x_callSX (n := 5) (cc9 := (cells + 4)) (ss9 := (slots + 24)) (rest := []) C dL_law_1880 (c_L_does_8 (kxL E) C.st G z μ2 xa σ n (w : Int) (o : Int) (s : Int) hC hK hn5 (by omega) (by omega) (by omega)) gL_law_L_does rfl (by decide +kernel) ⟨(Nat.le_of_ble_eq_true rfl), (Nat.le_of_ble_eq_true rfl)⟩ rfl rfl (Nat.le_of_ble_eq_true rfl) rfl rfl ⟨(by omega), (by omega)⟩ nX_no (fun v4 μ5 hv6 => ?_)
        obtain ⟨r7, hw10, h8⟩ := hv6
        subst hw10
        obtain ⟨hdo, hF9⟩ := h8
        have hF11 := hF9
        have hn := hF11.ai hn
        have hh := hF11.ai hh
        have hz := hF11.ol hz
        have hd := hF11.ai hd
        have hy := hF11.ai hy
        have hg := hF11.ai hg
        have hu := hF11.ai hu
        have hw := hF11.ai hw
        have hs := hF11.ai hs
        have ht := hF11.ai ht
        have he := hF11.ai he
        have hb := hF11.ai hb
        have hcc := hF11.ai hcc
        have hto := tell_of h12.1 h7.1 hw9 ho9 hs9 hdo
        have hC : (can = 1 ∧ RepC G z μ5 xa (n_tell σ (o : Int) (s : Int)) (n + 1)) ∨ (can = 0 ∧ RepC G z μ5 xa σ n) := by (rcases hto with ⟨h1, h2, h3⟩ | ⟨h1, h2, h3, h4⟩ | ⟨h1, h2, h3, h4, h5⟩ | ⟨h1, h2, h3, h4, h5, h6⟩; exact Or.inr ⟨by omega, h3⟩; (refine Or.inr ⟨?_, h4⟩; subst h2; omega); exact Or.inr ⟨(by (rcases hcan with ⟨-, q⟩ | ⟨q, -⟩; exact absurd q.2 h3; exact q)), h5⟩; exact Or.inl ⟨(by (rcases hcan with ⟨q, -⟩ | ⟨-, q⟩; exact q; exact absurd ⟨h1.1, h3⟩ q)), h6⟩)
        have hr3 : ((σ 12 0 = 0 ∨ σ 7 0 = 0) ∧ can = 0 ∧ r7 = -11) ∨ ((0 < σ 12 0 ∧ 0 < σ 7 0) ∧ w = o ∧ can = 0 ∧ r7 = -12) ∨ ((0 < σ 12 0 ∧ 0 < σ 7 0) ∧ w ≠ o ∧ can = 0 ∧ r7 = -13) ∨ ((0 < σ 12 0 ∧ 0 < σ 7 0) ∧ w ≠ o ∧ can = 1 ∧ r7 = pts (σ 22 (6 * o + s)) 1 ∧ t_tell σ (w : Int) (o : Int) (s : Int) = 0) := by (rcases hto with ⟨h1, h2, h3⟩ | ⟨h1, h2, h3, h4⟩ | ⟨h1, h2, h3, h4, h5⟩ | ⟨h1, h2, h3, h4, h5, h6⟩; exact Or.inl ⟨h1, by omega, h2⟩; (refine Or.inr (Or.inl ⟨h1, h2, ?_, h3⟩); subst h2; omega); exact Or.inr (Or.inr (Or.inl ⟨h1, h2, (by (rcases hcan with ⟨-, q⟩ | ⟨q, -⟩; exact absurd q.2 h3; exact q)), h4⟩)); exact Or.inr (Or.inr (Or.inr ⟨h1, h2, (by (rcases hcan with ⟨q, -⟩ | ⟨-, q⟩; exact q; exact absurd ⟨h1.1, h3⟩ q)), h4, h5⟩)))
        refine x_stk (stk' := [.int (zI r7)]) rfl ?_
        refine x_aload_n C dL_law_1883 rfl 4 rfl ?_
        refine z_iconst C dL_law_1884 ?_
        refine z_iald (j := 1) C dL_law_1885 hn (by omega) (by omega) (by decide) ?_
        refine x_stk (stk' := [.int (zI (σ 12 0)), .int (zI r7)]) (by (rfl)) ?_
        refine z_if_eq (tgt := 1895) C dL_law_1886 (by decide) (rg_of (by omega) (by omega)) (fun c_12 => ?_) (fun c_12 => ?_)
        · refine z_bipush C dL_law_1895 (by decide) ?_
          refine x_goto (tgt := 1933) C dL_law_1897 (by decide) ?_
          refine z_icmp_ne (tgt := 1940) C dL_law_1933 (by decide) (rg_of (by omega) (by omega)) (rg_of (by omega) (by omega)) (fun c_13 => ?_) (fun c_13 => ?_)
          · exfalso; omega
          · refine z_iconst C dL_law_1936 ?_
            refine x_goto (tgt := 1941) C dL_law_1937 (by decide) ?_
            refine x_istore (lv' := [(15, .int (zI 1)), (24, .int (zI can)), (23, .int (zI (o : Int))), (0, .ref bs), (1, .ref xa), (2, .ref (A 0)), (3, .ref (A 1)), (4, .ref (A 2)), (5, .ref (A 3)), (6, .ref (A 4)), (7, .ref (A 5)), (8, .ref (A 6)), (9, .ref (A 7)), (10, .ref (A 8)), (11, .ref (A 9)), (12, .ref (A 10)), (13, .ref (A 11)), (14, .ref (A 12)), (16, .int (zI (τ : Int))), (17, .int (zI f9)), (18, .int (zI kd)), (19, .int (zI v)), (20, .int (zI (p : Int))), (21, .int (zI (w : Int))), (22, .int (zI (s : Int)))]) C dL_law_1941 (by decide) rfl ?_
            refine x_goto (tgt := 2027) C dL_law_1943 (by decide) ?_
            have hC : RepC G z μ5 xa σ n := by (rcases hC with ⟨h, -⟩ | ⟨-, h⟩; exfalso; omega; exact h)
            refine x_sub (lv' := [(0, .ref bs), (1, .ref xa), (2, .ref (A 0)), (3, .ref (A 1)), (4, .ref (A 2)), (5, .ref (A 3)), (6, .ref (A 4)), (7, .ref (A 5)), (8, .ref (A 6)), (9, .ref (A 7)), (10, .ref (A 8)), (11, .ref (A 9)), (12, .ref (A 10)), (13, .ref (A 11)), (14, .ref (A 12)), (15, .int (zI 1)), (16, .int (zI (τ : Int))), (19, .int (zI v))]) [3, 4, 5, 6, 7, 8, 9, 10, 11, 12, 13, 14, 15, 16, 17, 0, 18, 21] rfl ?_
            exact x_wid (by omega) (by omega) (kk _ σ ⟨hC.mono, hK.mono, hn, hh, ⟨_, hz, hZB⟩, hd, hy, hg, hu, ⟨_, hw, hWR⟩, hs, (ht.wrs rfl), he, hb, _, hcc⟩)
        · refine x_aload_n C dL_law_1889 rfl 4 rfl ?_
          refine z_iconst C dL_law_1890 ?_
          refine z_iald (j := 0) C dL_law_1891 hn (by omega) (by omega) (by decide) ?_
          refine x_stk (stk' := [.int (zI (σ 7 0)), .int (zI r7)]) (by (rfl)) ?_
          refine z_if_ne (tgt := 1900) C dL_law_1892 (by decide) (rg_of (by omega) (by omega)) (fun c_14 => ?_) (fun c_14 => ?_)
          · refine x_iload C dL_law_1900 23 rfl ?_
            refine x_iload C dL_law_1902 1 rfl ?_
            refine z_icmp_ne (tgt := 1912) C dL_law_1904 (by decide) (rg_of (by omega) (by omega)) (rg_of (by omega) (by omega)) (fun c_15 => ?_) (fun c_15 => ?_)
            · refine x_iload C dL_law_1912 0 rfl ?_
              refine z_if_eq (tgt := 1931) C dL_law_1914 (by decide) (rg_of (by omega) (by omega)) (fun c_16 => ?_) (fun c_16 => ?_)
              · refine z_bipush C dL_law_1931 (by decide) ?_
                refine z_icmp_ne (tgt := 1940) C dL_law_1933 (by decide) (rg_of (by omega) (by omega)) (rg_of (by omega) (by omega)) (fun c_17 => ?_) (fun c_17 => ?_)
                · exfalso; omega
                · refine z_iconst C dL_law_1936 ?_
                  refine x_goto (tgt := 1941) C dL_law_1937 (by decide) ?_
                  refine x_istore (lv' := [(15, .int (zI 1)), (24, .int (zI can)), (23, .int (zI (o : Int))), (0, .ref bs), (1, .ref xa), (2, .ref (A 0)), (3, .ref (A 1)), (4, .ref (A 2)), (5, .ref (A 3)), (6, .ref (A 4)), (7, .ref (A 5)), (8, .ref (A 6)), (9, .ref (A 7)), (10, .ref (A 8)), (11, .ref (A 9)), (12, .ref (A 10)), (13, .ref (A 11)), (14, .ref (A 12)), (16, .int (zI (τ : Int))), (17, .int (zI f9)), (18, .int (zI kd)), (19, .int (zI v)), (20, .int (zI (p : Int))), (21, .int (zI (w : Int))), (22, .int (zI (s : Int)))]) C dL_law_1941 (by decide) rfl ?_
                  refine x_goto (tgt := 2027) C dL_law_1943 (by decide) ?_
                  have hC : RepC G z μ5 xa σ n := by (rcases hC with ⟨h, -⟩ | ⟨-, h⟩; exfalso; omega; exact h)
                  refine x_sub (lv' := [(0, .ref bs), (1, .ref xa), (2, .ref (A 0)), (3, .ref (A 1)), (4, .ref (A 2)), (5, .ref (A 3)), (6, .ref (A 4)), (7, .ref (A 5)), (8, .ref (A 6)), (9, .ref (A 7)), (10, .ref (A 8)), (11, .ref (A 9)), (12, .ref (A 10)), (13, .ref (A 11)), (14, .ref (A 12)), (15, .int (zI 1)), (16, .int (zI (τ : Int))), (19, .int (zI v))]) [3, 4, 5, 6, 7, 8, 9, 10, 11, 12, 13, 14, 15, 16, 17, 0, 18, 21] rfl ?_
                  exact x_wid (by omega) (by omega) (kk _ σ ⟨hC.mono, hK.mono, hn, hh, ⟨_, hz, hZB⟩, hd, hy, hg, hu, ⟨_, hw, hWR⟩, hs, (ht.wrs rfl), he, hb, _, hcc⟩)
              · exfalso; omega
            · refine z_bipush C dL_law_1907 (by decide) ?_
              refine x_goto (tgt := 1933) C dL_law_1909 (by decide) ?_
              refine z_icmp_ne (tgt := 1940) C dL_law_1933 (by decide) (rg_of (by omega) (by omega)) (rg_of (by omega) (by omega)) (fun c_18 => ?_) (fun c_18 => ?_)
              · exfalso; omega
              · refine z_iconst C dL_law_1936 ?_
                refine x_goto (tgt := 1941) C dL_law_1937 (by decide) ?_
                refine x_istore (lv' := [(15, .int (zI 1)), (24, .int (zI can)), (23, .int (zI (o : Int))), (0, .ref bs), (1, .ref xa), (2, .ref (A 0)), (3, .ref (A 1)), (4, .ref (A 2)), (5, .ref (A 3)), (6, .ref (A 4)), (7, .ref (A 5)), (8, .ref (A 6)), (9, .ref (A 7)), (10, .ref (A 8)), (11, .ref (A 9)), (12, .ref (A 10)), (13, .ref (A 11)), (14, .ref (A 12)), (16, .int (zI (τ : Int))), (17, .int (zI f9)), (18, .int (zI kd)), (19, .int (zI v)), (20, .int (zI (p : Int))), (21, .int (zI (w : Int))), (22, .int (zI (s : Int)))]) C dL_law_1941 (by decide) rfl ?_
                refine x_goto (tgt := 2027) C dL_law_1943 (by decide) ?_
                have hC : RepC G z μ5 xa σ n := by (rcases hC with ⟨h, -⟩ | ⟨-, h⟩; exfalso; omega; exact h)
                refine x_sub (lv' := [(0, .ref bs), (1, .ref xa), (2, .ref (A 0)), (3, .ref (A 1)), (4, .ref (A 2)), (5, .ref (A 3)), (6, .ref (A 4)), (7, .ref (A 5)), (8, .ref (A 6)), (9, .ref (A 7)), (10, .ref (A 8)), (11, .ref (A 9)), (12, .ref (A 10)), (13, .ref (A 11)), (14, .ref (A 12)), (15, .int (zI 1)), (16, .int (zI (τ : Int))), (19, .int (zI v))]) [3, 4, 5, 6, 7, 8, 9, 10, 11, 12, 13, 14, 15, 16, 17, 0, 18, 21] rfl ?_
                exact x_wid (by omega) (by omega) (kk _ σ ⟨hC.mono, hK.mono, hn, hh, ⟨_, hz, hZB⟩, hd, hy, hg, hu, ⟨_, hw, hWR⟩, hs, (ht.wrs rfl), he, hb, _, hcc⟩)
          · refine z_bipush C dL_law_1895 (by decide) ?_
            refine x_goto (tgt := 1933) C dL_law_1897 (by decide) ?_
            refine z_icmp_ne (tgt := 1940) C dL_law_1933 (by decide) (rg_of (by omega) (by omega)) (rg_of (by omega) (by omega)) (fun c_19 => ?_) (fun c_19 => ?_)
            · exfalso; omega
            · refine z_iconst C dL_law_1936 ?_
              refine x_goto (tgt := 1941) C dL_law_1937 (by decide) ?_
              refine x_istore (lv' := [(15, .int (zI 1)), (24, .int (zI can)), (23, .int (zI (o : Int))), (0, .ref bs), (1, .ref xa), (2, .ref (A 0)), (3, .ref (A 1)), (4, .ref (A 2)), (5, .ref (A 3)), (6, .ref (A 4)), (7, .ref (A 5)), (8, .ref (A 6)), (9, .ref (A 7)), (10, .ref (A 8)), (11, .ref (A 9)), (12, .ref (A 10)), (13, .ref (A 11)), (14, .ref (A 12)), (16, .int (zI (τ : Int))), (17, .int (zI f9)), (18, .int (zI kd)), (19, .int (zI v)), (20, .int (zI (p : Int))), (21, .int (zI (w : Int))), (22, .int (zI (s : Int)))]) C dL_law_1941 (by decide) rfl ?_
              refine x_goto (tgt := 2027) C dL_law_1943 (by decide) ?_
              have hC : RepC G z μ5 xa σ n := by (rcases hC with ⟨h, -⟩ | ⟨-, h⟩; exfalso; omega; exact h)
              refine x_sub (lv' := [(0, .ref bs), (1, .ref xa), (2, .ref (A 0)), (3, .ref (A 1)), (4, .ref (A 2)), (5, .ref (A 3)), (6, .ref (A 4)), (7, .ref (A 5)), (8, .ref (A 6)), (9, .ref (A 7)), (10, .ref (A 8)), (11, .ref (A 9)), (12, .ref (A 10)), (13, .ref (A 11)), (14, .ref (A 12)), (15, .int (zI 1)), (16, .int (zI (τ : Int))), (19, .int (zI v))]) [3, 4, 5, 6, 7, 8, 9, 10, 11, 12, 13, 14, 15, 16, 17, 0, 18, 21] rfl ?_
              exact x_wid (by omega) (by omega) (kk _ σ ⟨hC.mono, hK.mono, hn, hh, ⟨_, hz, hZB⟩, hd, hy, hg, hu, ⟨_, hw, hWR⟩, hs, (ht.wrs rfl), he, hb, _, hcc⟩)
      · refine x_iload C dL_law_1854 23 rfl ?_
        refine x_iload C dL_law_1856 1 rfl ?_
        refine z_icmp_eq (tgt := 1868) C dL_law_1858 (by decide) (rg_of (by omega) (by omega)) (rg_of (by omega) (by omega)) (fun c_20 => ?_) (fun c_20 => ?_)
        · exfalso; (have ewo : w = o := (by omega)); subst ewo; omega
        · refine z_iconst C dL_law_1861 ?_
          refine x_iload C dL_law_1862 24 rfl ?_
          refine x_ishl (v := zI 1 <<< (zI (s : Int) &&& 31)) C dL_law_1864 rfl ?_
          refine x_goto (tgt := 1869) C dL_law_1865 (by decide) ?_
          refine x_ior (v := zI (b6 (wr (fun u => σ 21 (6 * o + u)) s 1))) C dL_law_1869 (b6_or hrf21 (by omega)) ?_
          refine z_iast (j := o) C dL_law_1870 ht (by omega) (by omega) (by decide) (fun μ21 htw hF22 => ?_)
          have hC : RepC G z μ21 xa σ n := hF22.repc hC
          have hn := hF22.ai hn
          have hh := hF22.ai hh
          have hz := hF22.ol hz
          have hd := hF22.ai hd
          have hy := hF22.ai hy
          have hg := hF22.ai hg
          have hu := hF22.ai hu
          have hw := hF22.ai hw
          have hs := hF22.ai hs
          have he := hF22.ai he
          have hb := hF22.ai hb
          have hcc := hF22.ai hcc
          have ht := htw
          refine x_aload_n C dL_law_1871 rfl 3 rfl ?_
          refine z_bipush C dL_law_1872 (by decide) ?_
          refine x_iload C dL_law_1874 23 rfl ?_
          refine x_iload C dL_law_1876 1 rfl ?_
          refine x_iload C dL_law_1878 24 rfl ?_
          refine x_callSX (n := 5) (cc9 := (cells + 4)) (ss9 := (slots + 24)) (rest := []) C dL_law_1880 (c_L_does_8 (kxL E) C.st G z μ21 xa σ n (w : Int) (o : Int) (s : Int) hC hK hn5 (by omega) (by omega) (by omega)) gL_law_L_does rfl (by decide +kernel) ⟨(Nat.le_of_ble_eq_true rfl), (Nat.le_of_ble_eq_true rfl)⟩ rfl rfl (Nat.le_of_ble_eq_true rfl) rfl rfl ⟨(by omega), (by omega)⟩ nX_no (fun v23 μ24 hv25 => ?_)
          obtain ⟨r26, hw29, h27⟩ := hv25
          subst hw29
          obtain ⟨hdo, hF9⟩ := h27
          have hF30 := hF9
          have hn := hF30.ai hn
          have hh := hF30.ai hh
          have hz := hF30.ol hz
          have hd := hF30.ai hd
          have hy := hF30.ai hy
          have hg := hF30.ai hg
          have hu := hF30.ai hu
          have hw := hF30.ai hw
          have hs := hF30.ai hs
          have ht := hF30.ai ht
          have he := hF30.ai he
          have hb := hF30.ai hb
          have hcc := hF30.ai hcc
          have hto := tell_of h12.1 h7.1 hw9 ho9 hs9 hdo
          have hC : (can = 1 ∧ RepC G z μ24 xa (n_tell σ (o : Int) (s : Int)) (n + 1)) ∨ (can = 0 ∧ RepC G z μ24 xa σ n) := by (rcases hto with ⟨h1, h2, h3⟩ | ⟨h1, h2, h3, h4⟩ | ⟨h1, h2, h3, h4, h5⟩ | ⟨h1, h2, h3, h4, h5, h6⟩; exact Or.inr ⟨by omega, h3⟩; (refine Or.inr ⟨?_, h4⟩; subst h2; omega); exact Or.inr ⟨(by (rcases hcan with ⟨-, q⟩ | ⟨q, -⟩; exact absurd q.2 h3; exact q)), h5⟩; exact Or.inl ⟨(by (rcases hcan with ⟨q, -⟩ | ⟨-, q⟩; exact q; exact absurd ⟨h1.1, h3⟩ q)), h6⟩)
          have hr3 : ((σ 12 0 = 0 ∨ σ 7 0 = 0) ∧ can = 0 ∧ r26 = -11) ∨ ((0 < σ 12 0 ∧ 0 < σ 7 0) ∧ w = o ∧ can = 0 ∧ r26 = -12) ∨ ((0 < σ 12 0 ∧ 0 < σ 7 0) ∧ w ≠ o ∧ can = 0 ∧ r26 = -13) ∨ ((0 < σ 12 0 ∧ 0 < σ 7 0) ∧ w ≠ o ∧ can = 1 ∧ r26 = pts (σ 22 (6 * o + s)) 1 ∧ t_tell σ (w : Int) (o : Int) (s : Int) = 0) := by (rcases hto with ⟨h1, h2, h3⟩ | ⟨h1, h2, h3, h4⟩ | ⟨h1, h2, h3, h4, h5⟩ | ⟨h1, h2, h3, h4, h5, h6⟩; exact Or.inl ⟨h1, by omega, h2⟩; (refine Or.inr (Or.inl ⟨h1, h2, ?_, h3⟩); subst h2; omega); exact Or.inr (Or.inr (Or.inl ⟨h1, h2, (by (rcases hcan with ⟨-, q⟩ | ⟨q, -⟩; exact absurd q.2 h3; exact q)), h4⟩)); exact Or.inr (Or.inr (Or.inr ⟨h1, h2, (by (rcases hcan with ⟨q, -⟩ | ⟨-, q⟩; exact q; exact absurd ⟨h1.1, h3⟩ q)), h4, h5⟩)))
          refine x_stk (stk' := [.int (zI r26)]) rfl ?_
          refine x_aload_n C dL_law_1883 rfl 4 rfl ?_
          refine z_iconst C dL_law_1884 ?_
          refine z_iald (j := 1) C dL_law_1885 hn (by omega) (by omega) (by decide) ?_
          refine x_stk (stk' := [.int (zI (σ 12 0)), .int (zI r26)]) (by (rfl)) ?_
          refine z_if_eq (tgt := 1895) C dL_law_1886 (by decide) (rg_of (by omega) (by omega)) (fun c_31 => ?_) (fun c_31 => ?_)
          · exfalso; omega
          · refine x_aload_n C dL_law_1889 rfl 4 rfl ?_
            refine z_iconst C dL_law_1890 ?_
            refine z_iald (j := 0) C dL_law_1891 hn (by omega) (by omega) (by decide) ?_
            refine x_stk (stk' := [.int (zI (σ 7 0)), .int (zI r26)]) (by (rfl)) ?_
            refine z_if_ne (tgt := 1900) C dL_law_1892 (by decide) (rg_of (by omega) (by omega)) (fun c_32 => ?_) (fun c_32 => ?_)
            · refine x_iload C dL_law_1900 23 rfl ?_
              refine x_iload C dL_law_1902 1 rfl ?_
              refine z_icmp_ne (tgt := 1912) C dL_law_1904 (by decide) (rg_of (by omega) (by omega)) (rg_of (by omega) (by omega)) (fun c_33 => ?_) (fun c_33 => ?_)
              · refine x_iload C dL_law_1912 0 rfl ?_
                refine z_if_eq (tgt := 1931) C dL_law_1914 (by decide) (rg_of (by omega) (by omega)) (fun c_34 => ?_) (fun c_34 => ?_)
                · exfalso; omega
                · refine x_aload C dL_law_1917 13 rfl ?_
                  refine x_aload C dL_law_1919 14 rfl ?_
                  refine x_iload C dL_law_1921 1 rfl ?_
                  refine x_iload C dL_law_1923 24 rfl ?_
                  have ht2 : AI G μ24 (A 9) 4009 6 (tF (n_tell σ (o : Int) (s : Int))) := by (rw [tF_set (σ := σ) (σ' := (n_tell σ (o : Int) (s : Int))) (w := o) (s := s) (by omega) rfl]; exact ht)
                  refine x_callS (n := 4) (cc9 := (cells + 4)) (ss9 := (slots + 24)) (rest := [.int (zI r26)]) C dL_law_1925 (c_L_points (kxL E) C.st G z μ24 (A 9) (A 10) (n_tell σ (o : Int) (s : Int)) n o s (Iv_tell hK.1) (by omega) ht2 he (by omega) (by omega)) gL_law_L_points rfl (by decide +kernel) ⟨(Nat.le_of_ble_eq_true rfl), (Nat.le_of_ble_eq_true rfl)⟩ rfl rfl (Nat.le_of_ble_eq_true rfl) rfl rfl ⟨(by omega), (by omega)⟩ nX_no (fun v35 μ36 hv37 => ?_)
                  obtain ⟨r38, hw41, h39, hm40⟩ := hv37
                  subst hw41
                  rw [hm40]
                  have hp9 : r38 = pts (σ 22 (6 * o + s)) 1 := by (rw [h39]; show pts (σ 22 (6 * o + s)) (wr (σ 21) (6 * o + s) 1 (6 * o + s)) = _; rw [wr_at])
                  refine x_stk (stk' := [.int (zI r38), .int (zI r26)]) rfl ?_
                  refine x_goto (tgt := 1933) C dL_law_1928 (by decide) ?_
                  refine z_icmp_ne (tgt := 1940) C dL_law_1933 (by decide) (rg_of (by omega) (by omega)) (rg_of (by omega) (by omega)) (fun c_42 => ?_) (fun c_42 => ?_)
                  · exfalso; omega
                  · refine z_iconst C dL_law_1936 ?_
                    refine x_goto (tgt := 1941) C dL_law_1937 (by decide) ?_
                    refine x_istore (lv' := [(15, .int (zI 1)), (24, .int (zI can)), (23, .int (zI (o : Int))), (0, .ref bs), (1, .ref xa), (2, .ref (A 0)), (3, .ref (A 1)), (4, .ref (A 2)), (5, .ref (A 3)), (6, .ref (A 4)), (7, .ref (A 5)), (8, .ref (A 6)), (9, .ref (A 7)), (10, .ref (A 8)), (11, .ref (A 9)), (12, .ref (A 10)), (13, .ref (A 11)), (14, .ref (A 12)), (16, .int (zI (τ : Int))), (17, .int (zI f9)), (18, .int (zI kd)), (19, .int (zI v)), (20, .int (zI (p : Int))), (21, .int (zI (w : Int))), (22, .int (zI (s : Int)))]) C dL_law_1941 (by decide) rfl ?_
                    refine x_goto (tgt := 2027) C dL_law_1943 (by decide) ?_
                    have htt : t_tell σ (w : Int) (o : Int) (s : Int) = 0 := by omega
                    refine x_sub (lv' := [(0, .ref bs), (1, .ref xa), (2, .ref (A 0)), (3, .ref (A 1)), (4, .ref (A 2)), (5, .ref (A 3)), (6, .ref (A 4)), (7, .ref (A 5)), (8, .ref (A 6)), (9, .ref (A 7)), (10, .ref (A 8)), (11, .ref (A 9)), (12, .ref (A 10)), (13, .ref (A 11)), (14, .ref (A 12)), (15, .int (zI 1)), (16, .int (zI (τ : Int))), (19, .int (zI v))]) [3, 4, 5, 6, 7, 8, 9, 10, 11, 12, 13, 14, 15, 16, 17, 0, 18, 21] rfl ?_
                    exact x_wid (by omega) (by omega) (kk _ (n_tell σ (o : Int) (s : Int)) ⟨(by (rcases hC with ⟨-, h⟩ | ⟨h, -⟩; exact h; exfalso; omega)), (Kv_tell hK htt).mono, (by (rw [nF_c (σ := σ) (σ' := (n_tell σ (o : Int) (s : Int))) rfl rfl rfl rfl]; exact hn)), hh, ⟨_, hz, hZB.c rfl⟩, (by (rw [dF_c (σ := σ) (σ' := (n_tell σ (o : Int) (s : Int))) rfl rfl rfl rfl]; exact hd)), hy, (by (rw [gF_c (σ := σ) (σ' := (n_tell σ (o : Int) (s : Int))) rfl rfl]; exact hg)), (by (rw [uF_c (σ := σ) (σ' := (n_tell σ (o : Int) (s : Int))) rfl rfl]; exact hu)), ⟨_, hw, hWR.c rfl rfl rfl rfl rfl rfl⟩, (by (rw [sF_c (σ := σ) (σ' := (n_tell σ (o : Int) (s : Int))) rfl]; exact hs)), (by (rw [tF_set (σ := σ) (σ' := (n_tell σ (o : Int) (s : Int))) (w := o) (s := s) (by omega) rfl]; exact ht)), he, hb, _, hcc⟩)
              · exfalso; omega
            · exfalso; omega
    refine x_aload C dL_law_1772 11 rfl ?_
    refine x_iload C dL_law_1774 22 rfl ?_
    refine z_iald (j := w) C dL_law_1776 hs (by omega) (by omega) (by decide) ?_
    refine x_iload C dL_law_1777 23 rfl ?_
    refine z_ishr C s dL_law_1779 (by omega) (by omega) (by omega) (by omega) rfl ?_
    refine z_iconst C dL_law_1780 ?_
    refine z_iand (v := (((sF σ) w) / 2 ^ s) % 2) C 1 dL_law_1781 (by omega) (by omega) (by decide) rfl rfl ?_
    refine z_iconst C dL_law_1782 ?_
    refine z_icmp_ne (tgt := 1840) C dL_law_1783 (by decide) (rg_of (by omega) (by omega)) (rg_of (by omega) (by omega)) (fun c_43 => ?_) (fun c_43 => ?_)
    · refine z_iconst C dL_law_1840 ?_
      exact J1841 _ (Or.inr ⟨rfl, fun q => by omega⟩)
    · refine x_aload C dL_law_1786 11 rfl ?_
      refine x_iload C dL_law_1788 0 rfl ?_
      refine z_iald (j := o) C dL_law_1790 hs (by omega) (by omega) (by decide) ?_
      refine x_aload C dL_law_1791 12 rfl ?_
      refine x_iload C dL_law_1793 0 rfl ?_
      refine z_iald (j := o) C dL_law_1795 ht (by omega) (by omega) (by decide) ?_
      obtain ⟨v9, hv9r, hv9e, hv9b⟩ := b6_or2 hrf20o hrf21
      have hq9 : (v9 / 2 ^ s % 2 = 0 ∧ σ 20 (6 * o + s) = 0 ∧ σ 21 (6 * o + s) = 0) ∨ (v9 / 2 ^ s % 2 = 1 ∧ ¬ (σ 20 (6 * o + s) = 0 ∧ σ 21 (6 * o + s) = 0)) := hv9b s (by omega)
      have hv9d := dv_rg hv9r.1 s
      refine x_ior (v := zI v9) C dL_law_1796 hv9e ?_
      refine x_iload C dL_law_1797 23 rfl ?_
      refine z_ishr C s dL_law_1799 (by omega) (by omega) (by omega) (by omega) rfl ?_
      refine z_iconst C dL_law_1800 ?_
      refine z_iand (v := (v9 / 2 ^ s) % 2) C 1 dL_law_1801 (by omega) (by omega) (by decide) rfl rfl ?_
      refine z_if_ne (tgt := 1840) C dL_law_1802 (by decide) (rg_of (by omega) (by omega)) (fun c_44 => ?_) (fun c_44 => ?_)
      · refine z_iconst C dL_law_1840 ?_
        exact J1841 _ (Or.inr ⟨rfl, fun q => by omega⟩)
      · refine x_aload_n C dL_law_1805 rfl 3 rfl ?_
        refine z_iconst C dL_law_1806 ?_
        refine z_iald (j := 1) C dL_law_1807 hn (by omega) (by omega) (by decide) ?_
        refine x_stk (stk' := [.int (zI (σ 12 0))]) (by (rfl)) ?_
        refine z_if_le (tgt := 1840) C dL_law_1808 (by decide) (rg_of (by omega) (by omega)) (fun c_45 => ?_) (fun c_45 => ?_)
        · refine z_iconst C dL_law_1840 ?_
          exact J1841 _ (Or.inr ⟨rfl, fun q => by omega⟩)
        · obtain ⟨-, e1, -⟩ := hWR w (by omega)
          obtain ⟨-, e1o, -⟩ := hWR o (by omega)
          refine x_aload C dL_law_1811 10 rfl ?_
          refine z_iconst C dL_law_1813 ?_
          refine x_iload C dL_law_1814 22 rfl ?_
          refine z_imul C dL_law_1816 rfl ?_
          refine z_iconst C dL_law_1817 ?_
          refine z_iadd C dL_law_1818 rfl ?_
          refine z_iald (j := 5 * w + 1) C dL_law_1819 hw (by omega) (by omega) (by decide) ?_
          refine x_aload C dL_law_1820 10 rfl ?_
          refine z_iconst C dL_law_1822 ?_
          refine x_iload C dL_law_1823 0 rfl ?_
          refine z_imul C dL_law_1825 rfl ?_
          refine z_iconst C dL_law_1826 ?_
          refine z_iadd C dL_law_1827 rfl ?_
          refine z_iald (j := 5 * o + 1) C dL_law_1828 hw (by omega) (by omega) (by decide) ?_
          refine x_callS (n := 2) (cc9 := cells) (ss9 := slots) (rest := []) C dL_law_1829 (c_L_far (kxL E) C.st G z μ (W (5 * w + 1)) (W (5 * o + 1)) (by omega) (by omega)) gL_law_L_far rfl (by decide +kernel) ⟨(Nat.le_of_ble_eq_true rfl), (Nat.le_of_ble_eq_true rfl)⟩ rfl rfl (Nat.le_of_ble_eq_true rfl) rfl rfl ⟨(by omega), (by omega)⟩ nX_no (fun v46 μ47 hv48 => ?_)
          obtain ⟨r49, hw52, h50, hm51⟩ := hv48
          subst hw52
          rw [hm51]
          rw [e1, e1o] at h50
          refine x_stk (stk' := [.int (zI r49)]) rfl ?_
          refine z_iconst C dL_law_1832 ?_
          refine z_icmp_ge (tgt := 1840) C dL_law_1833 (by decide) (rg_of (by omega) (by omega)) (rg_of (by omega) (by omega)) (fun c_53 => ?_) (fun c_53 => ?_)
          · refine z_iconst C dL_law_1840 ?_
            exact J1841 _ (Or.inr ⟨rfl, fun q => by omega⟩)
          · refine z_iconst C dL_law_1836 ?_
            refine x_goto (tgt := 1841) C dL_law_1837 (by decide) ?_
            exact J1841 _ (Or.inl ⟨rfl, by omega⟩)
  refine x_aload_n C dL_law_1751 rfl 2 rfl ?_
  refine z_iconst C dL_law_1752 ?_
  refine z_iald (j := 1) C dL_law_1753 hn (by omega) (by omega) (by decide) ?_
  refine x_stk (stk' := [.int (zI (σ 12 0))]) (by (rfl)) ?_
  refine z_if_ne (tgt := 1761) C dL_law_1754 (by decide) (rg_of (by omega) (by omega)) (fun c_54 => ?_) (fun c_54 => ?_)
  · refine x_iload C dL_law_1761 19 rfl ?_
    refine z_bipush C dL_law_1763 (by decide) ?_
    refine z_idiv C dL_law_1765 (rg_of (by omega) (by omega)) (by omega) (rg_of (by omega) (by omega)) (by omega) rfl ?_
    refine x_aload_n C dL_law_1766 rfl 2 rfl ?_
    refine z_iconst C dL_law_1767 ?_
    refine z_iald (j := 1) C dL_law_1768 hn (by omega) (by omega) (by decide) ?_
    refine x_stk (stk' := [.int (zI (σ 12 0)), .int (zI (v / 6))]) (by (rfl)) ?_
    refine z_irem C dL_law_1769 (rg_of (by omega) (by omega)) (by omega) (rg_of (by omega) (by omega)) (by omega) rfl ?_
    have hem := Int.emod_lt_of_pos (v / 6) (show 0 < σ 12 0 by omega)
    have hen := Int.emod_nonneg (v / 6) (show σ 12 0 ≠ 0 by omega)
    exact J1770 _ (by omega)
  · refine z_iconst C dL_law_1757 ?_
    refine x_goto (tgt := 1770) C dL_law_1758 (by decide) ?_
    exact J1770 _ (by omega)
