/-! p32: the law -/
set_option maxHeartbeats 8000000 in
set_option maxRecDepth 100000 in
theorem law_ans2 {E : EE} {G : GG} {z : Nat} (C : Cx E G z cL_law RL wsL_law room_1 27) {cells slots : Nat} (hcs : cells + 100 ≤ room_1.cells ∧ slots + 700 ≤ room_1.slots) {μ : Mm} {xa bs : Nat} {A : Nat → Nat} {σ : SS} {n τ : Nat} {f9 kd v : Int} {p w s : Nat} (hS : LwS G z μ xa A σ n) (hn5 : n < 512) (hv9 : 0 ≤ v ∧ v < 100000000) (hp9 : p < 64) (hw9 : (σ 12 0 = 0 ∧ w = 0) ∨ (w : Int) < σ 12 0) (hs9 : (σ 7 0 = 0 ∧ s = 0) ∨ (s : Int) < σ 7 0) (kk : ∀ (μ' : Mm) (σ' : SS), LwS G z μ' xa A σ' (n + 1) → Wx E G (cells + 100) (slots + 700) 2027 [(0, .ref bs), (1, .ref xa), (2, .ref (A 0)), (3, .ref (A 1)), (4, .ref (A 2)), (5, .ref (A 3)), (6, .ref (A 4)), (7, .ref (A 5)), (8, .ref (A 6)), (9, .ref (A 7)), (10, .ref (A 8)), (11, .ref (A 9)), (12, .ref (A 10)), (13, .ref (A 11)), (14, .ref (A 12)), (15, .int (zI 1)), (16, .int (zI (τ : Int))), (19, .int (zI v))] [] μ') : Wx E G cells slots 1526 [(0, .ref bs), (1, .ref xa), (2, .ref (A 0)), (3, .ref (A 1)), (4, .ref (A 2)), (5, .ref (A 3)), (6, .ref (A 4)), (7, .ref (A 5)), (8, .ref (A 6)), (9, .ref (A 7)), (10, .ref (A 8)), (11, .ref (A 9)), (12, .ref (A 10)), (13, .ref (A 11)), (14, .ref (A 12)), (15, .int (zI 1)), (16, .int (zI (τ : Int))), (17, .int (zI f9)), (18, .int (zI kd)), (19, .int (zI v)), (20, .int (zI (p : Int))), (21, .int (zI (w : Int))), (22, .int (zI (s : Int)))] [] μ := by
  obtain ⟨hC, hK, hn, hh, ⟨K, hz, hZB⟩, hd, hy, hg, hu, ⟨W, hw, hWR⟩, hs, ht, he, hb, C9, hcc⟩ := hS
  have hGv := hC.gv
  have h7 := hK.1.n7
  have h12 := hK.1.n12
  have h18 := hK.1.n18
  have h23 := hK.1.n23
  have hrf : ∀ u, u < 6 → 0 ≤ σ 20 (6 * w + u) ∧ σ 20 (6 * w + u) ≤ 1 := fun u hu => hK.1.r20 (6 * w + u) (by omega)
  have hrf20 := hrf
  have h8 := hK.1.r8 s (by omega)
  have hU0 := wv_rg (uF_rg hK.1 (show 0 < 7 by omega)).1 (uF_rg hK.1 (show 0 < 7 by omega)).2
  have hU1 := wv_rg (uF_rg hK.1 (show s + 1 < 7 by omega)).1 (uF_rg hK.1 (show s + 1 < 7 by omega)).2
  have hUr : (0 ≤ uF σ 0 ∧ uF σ 0 < 234881024) ∧ 0 ≤ uF σ (s + 1) ∧ uF σ (s + 1) < 234881024 := ⟨⟨hU0.1, hU0.2.1⟩, hU1.1, hU1.2.1⟩
  have hwd := isWd_w hK.1 (show s < 6 by omega)
  have h22 := hK.1.r22 (6 * w + s) (by omega)
  refine z_iconst C dL_law_1526 ?_
  refine x_iload C dL_law_1527 21 rfl ?_
  refine z_imul C dL_law_1529 rfl ?_
  refine x_istore (lv' := [(23, .int (zI (5 * (w : Int)))), (0, .ref bs), (1, .ref xa), (2, .ref (A 0)), (3, .ref (A 1)), (4, .ref (A 2)), (5, .ref (A 3)), (6, .ref (A 4)), (7, .ref (A 5)), (8, .ref (A 6)), (9, .ref (A 7)), (10, .ref (A 8)), (11, .ref (A 9)), (12, .ref (A 10)), (13, .ref (A 11)), (14, .ref (A 12)), (15, .int (zI 1)), (16, .int (zI (τ : Int))), (17, .int (zI f9)), (18, .int (zI kd)), (19, .int (zI v)), (20, .int (zI (p : Int))), (21, .int (zI (w : Int))), (22, .int (zI (s : Int)))]) C dL_law_1530 (by decide) rfl ?_
  have J1600 : ∀ (can : Int) (hcan : (can = 1 ∧ ((0 < σ 12 0 ∧ 0 < σ 7 0) ∧ (σ 15 w = -1 ∧ σ 16 w = -1) ∧ σ 14 w = σ 8 s ∧ b_solved σ w = s)) ∨ (can = 0 ∧ ¬ ((0 < σ 12 0 ∧ 0 < σ 7 0) ∧ (σ 15 w = -1 ∧ σ 16 w = -1) ∧ σ 14 w = σ 8 s ∧ b_solved σ w = s))), Wx E G cells slots 1600 [(23, .int (zI (5 * (w : Int)))), (0, .ref bs), (1, .ref xa), (2, .ref (A 0)), (3, .ref (A 1)), (4, .ref (A 2)), (5, .ref (A 3)), (6, .ref (A 4)), (7, .ref (A 5)), (8, .ref (A 6)), (9, .ref (A 7)), (10, .ref (A 8)), (11, .ref (A 9)), (12, .ref (A 10)), (13, .ref (A 11)), (14, .ref (A 12)), (15, .int (zI 1)), (16, .int (zI (τ : Int))), (17, .int (zI f9)), (18, .int (zI kd)), (19, .int (zI v)), (20, .int (zI (p : Int))), (21, .int (zI (w : Int))), (22, .int (zI (s : Int)))] [.int (zI can)] μ := by
    intro can hcan
    refine x_istore (lv' := [(24, .int (zI can)), (23, .int (zI (5 * (w : Int)))), (0, .ref bs), (1, .ref xa), (2, .ref (A 0)), (3, .ref (A 1)), (4, .ref (A 2)), (5, .ref (A 3)), (6, .ref (A 4)), (7, .ref (A 5)), (8, .ref (A 6)), (9, .ref (A 7)), (10, .ref (A 8)), (11, .ref (A 9)), (12, .ref (A 10)), (13, .ref (A 11)), (14, .ref (A 12)), (15, .int (zI 1)), (16, .int (zI (τ : Int))), (17, .int (zI f9)), (18, .int (zI kd)), (19, .int (zI v)), (20, .int (zI (p : Int))), (21, .int (zI (w : Int))), (22, .int (zI (s : Int)))]) C dL_law_1600 (by decide) rfl ?_
    have J1626 : ∀ (ri : Int) (hri : (ri = 1 ∧ can = 1 ∧ uF σ 0 = uF σ (s + 1)) ∨ (ri = 0 ∧ ¬ (can = 1 ∧ uF σ 0 = uF σ (s + 1)))), Wx E G cells slots 1626 [(24, .int (zI can)), (23, .int (zI (5 * (w : Int)))), (0, .ref bs), (1, .ref xa), (2, .ref (A 0)), (3, .ref (A 1)), (4, .ref (A 2)), (5, .ref (A 3)), (6, .ref (A 4)), (7, .ref (A 5)), (8, .ref (A 6)), (9, .ref (A 7)), (10, .ref (A 8)), (11, .ref (A 9)), (12, .ref (A 10)), (13, .ref (A 11)), (14, .ref (A 12)), (15, .int (zI 1)), (16, .int (zI (τ : Int))), (17, .int (zI f9)), (18, .int (zI kd)), (19, .int (zI v)), (20, .int (zI (p : Int))), (21, .int (zI (w : Int))), (22, .int (zI (s : Int)))] [.int (zI ri)] μ := by
      intro ri hri
      refine x_istore (lv' := [(25, .int (zI ri)), (24, .int (zI can)), (23, .int (zI (5 * (w : Int)))), (0, .ref bs), (1, .ref xa), (2, .ref (A 0)), (3, .ref (A 1)), (4, .ref (A 2)), (5, .ref (A 3)), (6, .ref (A 4)), (7, .ref (A 5)), (8, .ref (A 6)), (9, .ref (A 7)), (10, .ref (A 8)), (11, .ref (A 9)), (12, .ref (A 10)), (13, .ref (A 11)), (14, .ref (A 12)), (15, .int (zI 1)), (16, .int (zI (τ : Int))), (17, .int (zI f9)), (18, .int (zI kd)), (19, .int (zI v)), (20, .int (zI (p : Int))), (21, .int (zI (w : Int))), (22, .int (zI (s : Int)))]) C dL_law_1626 (by decide) rfl ?_
      refine x_iload C dL_law_1628 18 rfl ?_
      refine z_if_eq (tgt := 1688) C dL_law_1630 (by decide) (rg_of (by omega) (by omega)) (fun c_1 => ?_) (fun c_1 => ?_)
      · exfalso; omega
      · refine x_aload_n C dL_law_1633 rfl 4 rfl ?_
        refine z_bipush C dL_law_1634 (by decide) ?_
        refine x_iload C dL_law_1636 24 rfl ?_
        refine x_iload C dL_law_1638 25 rfl ?_
        refine z_iconst C dL_law_1640 ?_
        refine x_callSX (n := 5) (cc9 := (cells + 3)) (ss9 := (slots + 18)) (rest := []) C dL_law_1641 (c_L_does_7 (kxL E) C.st G z μ xa σ n (w : Int) (s : Int) 0 hC hK hn5 (by omega) (by omega) (by omega)) gL_law_L_does rfl (by decide +kernel) ⟨(Nat.le_of_ble_eq_true rfl), (Nat.le_of_ble_eq_true rfl)⟩ rfl rfl (Nat.le_of_ble_eq_true rfl) rfl rfl ⟨(by omega), (by omega)⟩ nX_no (fun v2 μ3 hv4 => ?_)
        obtain ⟨r5, hw8, h6⟩ := hv4
        subst hw8
        obtain ⟨hdo, hF9⟩ := h6
        have hF9 := hF9
        have hn := hF9.ai hn
        have hh := hF9.ai hh
        have hz := hF9.ol hz
        have hd := hF9.ai hd
        have hy := hF9.ai hy
        have hg := hF9.ai hg
        have hu := hF9.ai hu
        have hw := hF9.ai hw
        have hs := hF9.ai hs
        have ht := hF9.ai ht
        have he := hF9.ai he
        have hb := hF9.ai hb
        have hcc := hF9.ai hcc
        have hao := ans_of h12.1 h7.1 hw9 hs9 hdo
        have hC : (can = 1 ∧ RepC G z μ3 xa (n_answer σ (w : Int) (s : Int)) (n + 1)) ∨ (can = 0 ∧ RepC G z μ3 xa σ n) := by (rcases hao with ⟨h1, h2, h3⟩ | ⟨h1, h2, h3, h4⟩ | ⟨h1, h2, h3, h5, h4⟩; exact Or.inr ⟨by omega, h3⟩; exact Or.inr ⟨(by (rcases hcan with ⟨-, q⟩ | ⟨q, -⟩; exact absurd q.2 h2; exact q)), h4⟩; exact Or.inl ⟨(by (rcases hcan with ⟨q, -⟩ | ⟨-, q⟩; exact q; exact absurd ⟨h1, h2⟩ q)), h4⟩)
        have hr3 : ((σ 12 0 = 0 ∨ σ 7 0 = 0) ∧ can = 0 ∧ r5 = -11) ∨ ((0 < σ 12 0 ∧ 0 < σ 7 0) ∧ can = 0 ∧ r5 = -13) ∨ ((0 < σ 12 0 ∧ 0 < σ 7 0) ∧ can = 1 ∧ r5 = isWd σ s ∧ t_answer σ (w : Int) (s : Int) = 0) := by (rcases hao with ⟨h1, h2, h3⟩ | ⟨h1, h2, h3, h4⟩ | ⟨h1, h2, h3, h5, h4⟩; exact Or.inl ⟨h1, by omega, h2⟩; exact Or.inr (Or.inl ⟨h1, (by (rcases hcan with ⟨-, q⟩ | ⟨q, -⟩; exact absurd q.2 h2; exact q)), h3⟩); exact Or.inr (Or.inr ⟨h1, (by (rcases hcan with ⟨q, -⟩ | ⟨-, q⟩; exact q; exact absurd ⟨h1, h2⟩ q)), h3, h5⟩))
        refine x_stk (stk' := [.int (zI r5)]) rfl ?_
        refine x_aload_n C dL_law_1644 rfl 5 rfl ?_
        refine z_iconst C dL_law_1645 ?_
        refine z_iald (j := 1) C dL_law_1646 hn (by omega) (by omega) (by decide) ?_
        refine x_stk (stk' := [.int (zI (σ 12 0)), .int (zI r5)]) (by (rfl)) ?_
        refine z_if_eq (tgt := 1656) C dL_law_1647 (by decide) (rg_of (by omega) (by omega)) (fun c_10 => ?_) (fun c_10 => ?_)
        · refine z_bipush C dL_law_1656 (by decide) ?_
          refine x_goto (tgt := 1681) C dL_law_1658 (by decide) ?_
          refine z_icmp_ne (tgt := 1688) C dL_law_1681 (by decide) (rg_of (by omega) (by omega)) (rg_of (by omega) (by omega)) (fun c_11 => ?_) (fun c_11 => ?_)
          · exfalso; omega
          · refine z_iconst C dL_law_1684 ?_
            refine x_goto (tgt := 1689) C dL_law_1685 (by decide) ?_
            refine x_istore (lv' := [(15, .int (zI 1)), (25, .int (zI ri)), (24, .int (zI can)), (23, .int (zI (5 * (w : Int)))), (0, .ref bs), (1, .ref xa), (2, .ref (A 0)), (3, .ref (A 1)), (4, .ref (A 2)), (5, .ref (A 3)), (6, .ref (A 4)), (7, .ref (A 5)), (8, .ref (A 6)), (9, .ref (A 7)), (10, .ref (A 8)), (11, .ref (A 9)), (12, .ref (A 10)), (13, .ref (A 11)), (14, .ref (A 12)), (16, .int (zI (τ : Int))), (17, .int (zI f9)), (18, .int (zI kd)), (19, .int (zI v)), (20, .int (zI (p : Int))), (21, .int (zI (w : Int))), (22, .int (zI (s : Int)))]) C dL_law_1689 (by decide) rfl ?_
            refine x_aload C dL_law_1691 14 rfl ?_
            refine x_iload C dL_law_1693 24 rfl ?_
            refine x_dup2 C dL_law_1695 rfl rfl ?_
            refine z_iald (j := w) C dL_law_1696 hs (by omega) (by omega) (by decide) ?_
            refine x_iload C dL_law_1697 1 rfl ?_
            refine z_if_eq (tgt := 1709) C dL_law_1699 (by decide) (rg_of (by omega) (by omega)) (fun c_12 => ?_) (fun c_12 => ?_)
            · refine z_iconst C dL_law_1709 ?_
              refine x_ior (v := zI ((sF σ) w)) C dL_law_1710 ior_0 ?_
              refine z_iast (j := w) C dL_law_1711 hs (by omega) (by omega) (by decide) (fun μ13 hsw hF14 => ?_)
              have hn := hF14.ai hn
              have hh := hF14.ai hh
              have hz := hF14.ol hz
              have hd := hF14.ai hd
              have hy := hF14.ai hy
              have hg := hF14.ai hg
              have hu := hF14.ai hu
              have hw := hF14.ai hw
              have ht := hF14.ai ht
              have he := hF14.ai he
              have hb := hF14.ai hb
              have hcc := hF14.ai hcc
              have hC : (can = 1 ∧ RepC G z μ13 xa (n_answer σ (w : Int) (s : Int)) (n + 1)) ∨ (can = 0 ∧ RepC G z μ13 xa σ n) := (hC).imp (fun q => ⟨q.1, hF14.repc q.2⟩) (fun q => ⟨q.1, hF14.repc q.2⟩)
              have hs := hsw
              refine x_aload C dL_law_1712 16 rfl ?_
              refine z_bipush C dL_law_1714 (by decide) ?_
              refine x_iload C dL_law_1716 24 rfl ?_
              refine z_imul C dL_law_1718 rfl ?_
              refine x_iload C dL_law_1719 25 rfl ?_
              refine z_iadd C dL_law_1721 rfl ?_
              refine x_dup2 C dL_law_1722 rfl rfl ?_
              refine z_iald (j := 6 * w + s) C dL_law_1723 he (by omega) (by omega) (by decide) ?_
              refine x_iload C dL_law_1724 2 rfl ?_
              refine z_if_eq (tgt := 1738) C dL_law_1726 (by decide) (rg_of (by omega) (by omega)) (fun c_15 => ?_) (fun c_15 => ?_)
              · refine z_iconst C dL_law_1738 ?_
                refine z_iadd C dL_law_1739 rfl ?_
                refine z_iast (j := 6 * w + s) C dL_law_1740 he (by omega) (by omega) (by decide) (fun μ16 hew hF17 => ?_)
                have hn := hF17.ai hn
                have hh := hF17.ai hh
                have hz := hF17.ol hz
                have hd := hF17.ai hd
                have hy := hF17.ai hy
                have hg := hF17.ai hg
                have hu := hF17.ai hu
                have hw := hF17.ai hw
                have hs := hF17.ai hs
                have ht := hF17.ai ht
                have hb := hF17.ai hb
                have hcc := hF17.ai hcc
                have hC : (can = 1 ∧ RepC G z μ16 xa (n_answer σ (w : Int) (s : Int)) (n + 1)) ∨ (can = 0 ∧ RepC G z μ16 xa σ n) := (hC).imp (fun q => ⟨q.1, hF17.repc q.2⟩) (fun q => ⟨q.1, hF17.repc q.2⟩)
                have he := hew
                refine x_goto (tgt := 2027) C dL_law_1741 (by decide) ?_
                have hC : RepC G z μ16 xa σ n := by (rcases hC with ⟨h, -⟩ | ⟨-, h⟩; exfalso; omega; exact h)
                refine x_sub (lv' := [(0, .ref bs), (1, .ref xa), (2, .ref (A 0)), (3, .ref (A 1)), (4, .ref (A 2)), (5, .ref (A 3)), (6, .ref (A 4)), (7, .ref (A 5)), (8, .ref (A 6)), (9, .ref (A 7)), (10, .ref (A 8)), (11, .ref (A 9)), (12, .ref (A 10)), (13, .ref (A 11)), (14, .ref (A 12)), (15, .int (zI 1)), (16, .int (zI (τ : Int))), (19, .int (zI v))]) [4, 5, 6, 7, 8, 9, 10, 11, 12, 13, 14, 15, 16, 17, 18, 0, 19, 22] rfl ?_
                exact x_wid (by omega) (by omega) (kk _ σ ⟨hC.mono, hK.mono, hn, hh, ⟨_, hz, hZB⟩, hd, hy, hg, hu, ⟨_, hw, hWR⟩, (hs.wrs rfl), ht, (he.wrs (by omega)), hb, _, hcc⟩)
              · refine x_iload C dL_law_1729 1 rfl ?_
                refine z_if_ne (tgt := 1738) C dL_law_1731 (by decide) (rg_of (by omega) (by omega)) (fun c_18 => ?_) (fun c_18 => ?_)
                · exfalso; omega
                · refine z_iconst C dL_law_1734 ?_
                  refine x_goto (tgt := 1739) C dL_law_1735 (by decide) ?_
                  refine z_iadd C dL_law_1739 rfl ?_
                  refine z_iast (j := 6 * w + s) C dL_law_1740 he (by omega) (by omega) (by decide) (fun μ19 hew hF20 => ?_)
                  have hn := hF20.ai hn
                  have hh := hF20.ai hh
                  have hz := hF20.ol hz
                  have hd := hF20.ai hd
                  have hy := hF20.ai hy
                  have hg := hF20.ai hg
                  have hu := hF20.ai hu
                  have hw := hF20.ai hw
                  have hs := hF20.ai hs
                  have ht := hF20.ai ht
                  have hb := hF20.ai hb
                  have hcc := hF20.ai hcc
                  have hC : (can = 1 ∧ RepC G z μ19 xa (n_answer σ (w : Int) (s : Int)) (n + 1)) ∨ (can = 0 ∧ RepC G z μ19 xa σ n) := (hC).imp (fun q => ⟨q.1, hF20.repc q.2⟩) (fun q => ⟨q.1, hF20.repc q.2⟩)
                  have he := hew
                  refine x_goto (tgt := 2027) C dL_law_1741 (by decide) ?_
                  have hns : (n_answer σ (w : Int) (s : Int)) = su σ 22 (wr (σ 22) (6 * w + s) (σ 22 (6 * w + s) + 1)) := nans_w (w := (w : Int)) (s := (s : Int)) (by (show isWd σ s = 0; omega)) (hGv.nx (w := w) (s := s) (by omega) (by omega) h7 (by omega))
                  have hta : t_answer σ (w : Int) (s : Int) = 0 := by omega
                  refine x_sub (lv' := [(0, .ref bs), (1, .ref xa), (2, .ref (A 0)), (3, .ref (A 1)), (4, .ref (A 2)), (5, .ref (A 3)), (6, .ref (A 4)), (7, .ref (A 5)), (8, .ref (A 6)), (9, .ref (A 7)), (10, .ref (A 8)), (11, .ref (A 9)), (12, .ref (A 10)), (13, .ref (A 11)), (14, .ref (A 12)), (15, .int (zI 1)), (16, .int (zI (τ : Int))), (19, .int (zI v))]) [4, 5, 6, 7, 8, 9, 10, 11, 12, 13, 14, 15, 16, 17, 18, 0, 19, 22] rfl ?_
                  exact x_wid (by omega) (by omega) (kk _ (n_answer σ (w : Int) (s : Int)) ⟨(by (rcases hC with ⟨-, h⟩ | ⟨h, -⟩; exact h; exfalso; omega)), (Kv_answer hK hta), (by (rw [nF_c (σ := σ) (σ' := (n_answer σ (w : Int) (s : Int))) rfl rfl rfl rfl]; exact hn)), hh, ⟨_, hz, hZB.c rfl⟩, (by (rw [dF_c (σ := σ) (σ' := (n_answer σ (w : Int) (s : Int))) rfl rfl rfl rfl]; exact hd)), hy, (by (rw [gF_c (σ := σ) (σ' := (n_answer σ (w : Int) (s : Int))) rfl rfl]; exact hg)), (by (rw [uF_c (σ := σ) (σ' := (n_answer σ (w : Int) (s : Int))) rfl rfl]; exact hu)), ⟨_, hw, hWR.c rfl rfl rfl rfl rfl rfl⟩, (by (rw [sF_c (σ := σ) (σ' := (n_answer σ (w : Int) (s : Int))) (by (rw [hns]; rfl))]; exact hs.wrs rfl)), (by (rw [tF_c (σ := σ) (σ' := (n_answer σ (w : Int) (s : Int))) rfl]; exact ht)), (by (rw [show (n_answer σ (w : Int) (s : Int)) 22 = wr (σ 22) (6 * w + s) (σ 22 (6 * w + s) + 1) by (rw [hns]; rfl)]; exact he)), hb, _, hcc⟩)
            · refine z_iconst C dL_law_1702 ?_
              refine x_iload C dL_law_1703 25 rfl ?_
              refine x_ishl (v := zI 1 <<< (zI (s : Int) &&& 31)) C dL_law_1705 rfl ?_
              refine x_goto (tgt := 1710) C dL_law_1706 (by decide) ?_
              refine x_ior (v := zI (b6 (wr (fun u => σ 20 (6 * w + u)) s 1))) C dL_law_1710 (b6_or hrf20 (by omega)) ?_
              refine z_iast (j := w) C dL_law_1711 hs (by omega) (by omega) (by decide) (fun μ21 hsw hF22 => ?_)
              have hn := hF22.ai hn
              have hh := hF22.ai hh
              have hz := hF22.ol hz
              have hd := hF22.ai hd
              have hy := hF22.ai hy
              have hg := hF22.ai hg
              have hu := hF22.ai hu
              have hw := hF22.ai hw
              have ht := hF22.ai ht
              have he := hF22.ai he
              have hb := hF22.ai hb
              have hcc := hF22.ai hcc
              have hC : (can = 1 ∧ RepC G z μ21 xa (n_answer σ (w : Int) (s : Int)) (n + 1)) ∨ (can = 0 ∧ RepC G z μ21 xa σ n) := (hC).imp (fun q => ⟨q.1, hF22.repc q.2⟩) (fun q => ⟨q.1, hF22.repc q.2⟩)
              have hs := hsw
              refine x_aload C dL_law_1712 16 rfl ?_
              refine z_bipush C dL_law_1714 (by decide) ?_
              refine x_iload C dL_law_1716 24 rfl ?_
              refine z_imul C dL_law_1718 rfl ?_
              refine x_iload C dL_law_1719 25 rfl ?_
              refine z_iadd C dL_law_1721 rfl ?_
              refine x_dup2 C dL_law_1722 rfl rfl ?_
              refine z_iald (j := 6 * w + s) C dL_law_1723 he (by omega) (by omega) (by decide) ?_
              refine x_iload C dL_law_1724 2 rfl ?_
              refine z_if_eq (tgt := 1738) C dL_law_1726 (by decide) (rg_of (by omega) (by omega)) (fun c_23 => ?_) (fun c_23 => ?_)
              · exfalso; omega
              · refine x_iload C dL_law_1729 1 rfl ?_
                refine z_if_ne (tgt := 1738) C dL_law_1731 (by decide) (rg_of (by omega) (by omega)) (fun c_24 => ?_) (fun c_24 => ?_)
                · refine z_iconst C dL_law_1738 ?_
                  refine z_iadd C dL_law_1739 rfl ?_
                  refine z_iast (j := 6 * w + s) C dL_law_1740 he (by omega) (by omega) (by decide) (fun μ25 hew hF26 => ?_)
                  have hn := hF26.ai hn
                  have hh := hF26.ai hh
                  have hz := hF26.ol hz
                  have hd := hF26.ai hd
                  have hy := hF26.ai hy
                  have hg := hF26.ai hg
                  have hu := hF26.ai hu
                  have hw := hF26.ai hw
                  have hs := hF26.ai hs
                  have ht := hF26.ai ht
                  have hb := hF26.ai hb
                  have hcc := hF26.ai hcc
                  have hC : (can = 1 ∧ RepC G z μ25 xa (n_answer σ (w : Int) (s : Int)) (n + 1)) ∨ (can = 0 ∧ RepC G z μ25 xa σ n) := (hC).imp (fun q => ⟨q.1, hF26.repc q.2⟩) (fun q => ⟨q.1, hF26.repc q.2⟩)
                  have he := hew
                  refine x_goto (tgt := 2027) C dL_law_1741 (by decide) ?_
                  have hns : (n_answer σ (w : Int) (s : Int)) = su σ 20 (wr (σ 20) (6 * w + s) 1) := nans_r (w := (w : Int)) (s := (s : Int)) (by (show isWd σ s = 1; omega))
                  have hta : t_answer σ (w : Int) (s : Int) = 0 := by omega
                  refine x_sub (lv' := [(0, .ref bs), (1, .ref xa), (2, .ref (A 0)), (3, .ref (A 1)), (4, .ref (A 2)), (5, .ref (A 3)), (6, .ref (A 4)), (7, .ref (A 5)), (8, .ref (A 6)), (9, .ref (A 7)), (10, .ref (A 8)), (11, .ref (A 9)), (12, .ref (A 10)), (13, .ref (A 11)), (14, .ref (A 12)), (15, .int (zI 1)), (16, .int (zI (τ : Int))), (19, .int (zI v))]) [4, 5, 6, 7, 8, 9, 10, 11, 12, 13, 14, 15, 16, 17, 18, 0, 19, 22] rfl ?_
                  exact x_wid (by omega) (by omega) (kk _ (n_answer σ (w : Int) (s : Int)) ⟨(by (rcases hC with ⟨-, h⟩ | ⟨h, -⟩; exact h; exfalso; omega)), (Kv_answer hK hta), (by (rw [nF_c (σ := σ) (σ' := (n_answer σ (w : Int) (s : Int))) rfl rfl rfl rfl]; exact hn)), hh, ⟨_, hz, hZB.c rfl⟩, (by (rw [dF_c (σ := σ) (σ' := (n_answer σ (w : Int) (s : Int))) rfl rfl rfl rfl]; exact hd)), hy, (by (rw [gF_c (σ := σ) (σ' := (n_answer σ (w : Int) (s : Int))) rfl rfl]; exact hg)), (by (rw [uF_c (σ := σ) (σ' := (n_answer σ (w : Int) (s : Int))) rfl rfl]; exact hu)), ⟨_, hw, hWR.c rfl rfl rfl rfl rfl rfl⟩, (by (rw [sF_set (σ := σ) (σ' := (n_answer σ (w : Int) (s : Int))) (w := w) (s := s) (by omega) (by (rw [hns]; rfl))]; exact hs)), (by (rw [tF_c (σ := σ) (σ' := (n_answer σ (w : Int) (s : Int))) rfl]; exact ht)), (by (rw [show (n_answer σ (w : Int) (s : Int)) 22 = σ 22 by (rw [hns]; rfl)]; exact he.wrs (by omega))), hb, _, hcc⟩)
                · exfalso; omega
        · refine x_aload_n C dL_law_1650 rfl 5 rfl ?_
          refine z_iconst C dL_law_1651 ?_
          refine z_iald (j := 0) C dL_law_1652 hn (by omega) (by omega) (by decide) ?_
          refine x_stk (stk' := [.int (zI (σ 7 0)), .int (zI r5)]) (by (rfl)) ?_
          refine z_if_ne (tgt := 1661) C dL_law_1653 (by decide) (rg_of (by omega) (by omega)) (fun c_27 => ?_) (fun c_27 => ?_)
          · refine x_iload C dL_law_1661 1 rfl ?_
            refine z_if_ne (tgt := 1671) C dL_law_1663 (by decide) (rg_of (by omega) (by omega)) (fun c_28 => ?_) (fun c_28 => ?_)
            · refine x_iload C dL_law_1671 0 rfl ?_
              refine z_if_eq (tgt := 1680) C dL_law_1673 (by decide) (rg_of (by omega) (by omega)) (fun c_29 => ?_) (fun c_29 => ?_)
              · refine z_iconst C dL_law_1680 ?_
                refine z_icmp_ne (tgt := 1688) C dL_law_1681 (by decide) (rg_of (by omega) (by omega)) (rg_of (by omega) (by omega)) (fun c_30 => ?_) (fun c_30 => ?_)
                · exfalso; omega
                · refine z_iconst C dL_law_1684 ?_
                  refine x_goto (tgt := 1689) C dL_law_1685 (by decide) ?_
                  refine x_istore (lv' := [(15, .int (zI 1)), (25, .int (zI ri)), (24, .int (zI can)), (23, .int (zI (5 * (w : Int)))), (0, .ref bs), (1, .ref xa), (2, .ref (A 0)), (3, .ref (A 1)), (4, .ref (A 2)), (5, .ref (A 3)), (6, .ref (A 4)), (7, .ref (A 5)), (8, .ref (A 6)), (9, .ref (A 7)), (10, .ref (A 8)), (11, .ref (A 9)), (12, .ref (A 10)), (13, .ref (A 11)), (14, .ref (A 12)), (16, .int (zI (τ : Int))), (17, .int (zI f9)), (18, .int (zI kd)), (19, .int (zI v)), (20, .int (zI (p : Int))), (21, .int (zI (w : Int))), (22, .int (zI (s : Int)))]) C dL_law_1689 (by decide) rfl ?_
                  refine x_aload C dL_law_1691 14 rfl ?_
                  refine x_iload C dL_law_1693 24 rfl ?_
                  refine x_dup2 C dL_law_1695 rfl rfl ?_
                  refine z_iald (j := w) C dL_law_1696 hs (by omega) (by omega) (by decide) ?_
                  refine x_iload C dL_law_1697 1 rfl ?_
                  refine z_if_eq (tgt := 1709) C dL_law_1699 (by decide) (rg_of (by omega) (by omega)) (fun c_31 => ?_) (fun c_31 => ?_)
                  · refine z_iconst C dL_law_1709 ?_
                    refine x_ior (v := zI ((sF σ) w)) C dL_law_1710 ior_0 ?_
                    refine z_iast (j := w) C dL_law_1711 hs (by omega) (by omega) (by decide) (fun μ32 hsw hF33 => ?_)
                    have hn := hF33.ai hn
                    have hh := hF33.ai hh
                    have hz := hF33.ol hz
                    have hd := hF33.ai hd
                    have hy := hF33.ai hy
                    have hg := hF33.ai hg
                    have hu := hF33.ai hu
                    have hw := hF33.ai hw
                    have ht := hF33.ai ht
                    have he := hF33.ai he
                    have hb := hF33.ai hb
                    have hcc := hF33.ai hcc
                    have hC : (can = 1 ∧ RepC G z μ32 xa (n_answer σ (w : Int) (s : Int)) (n + 1)) ∨ (can = 0 ∧ RepC G z μ32 xa σ n) := (hC).imp (fun q => ⟨q.1, hF33.repc q.2⟩) (fun q => ⟨q.1, hF33.repc q.2⟩)
                    have hs := hsw
                    refine x_aload C dL_law_1712 16 rfl ?_
                    refine z_bipush C dL_law_1714 (by decide) ?_
                    refine x_iload C dL_law_1716 24 rfl ?_
                    refine z_imul C dL_law_1718 rfl ?_
                    refine x_iload C dL_law_1719 25 rfl ?_
                    refine z_iadd C dL_law_1721 rfl ?_
                    refine x_dup2 C dL_law_1722 rfl rfl ?_
                    refine z_iald (j := 6 * w + s) C dL_law_1723 he (by omega) (by omega) (by decide) ?_
                    refine x_iload C dL_law_1724 2 rfl ?_
                    refine z_if_eq (tgt := 1738) C dL_law_1726 (by decide) (rg_of (by omega) (by omega)) (fun c_34 => ?_) (fun c_34 => ?_)
                    · refine z_iconst C dL_law_1738 ?_
                      refine z_iadd C dL_law_1739 rfl ?_
                      refine z_iast (j := 6 * w + s) C dL_law_1740 he (by omega) (by omega) (by decide) (fun μ35 hew hF36 => ?_)
                      have hn := hF36.ai hn
                      have hh := hF36.ai hh
                      have hz := hF36.ol hz
                      have hd := hF36.ai hd
                      have hy := hF36.ai hy
                      have hg := hF36.ai hg
                      have hu := hF36.ai hu
                      have hw := hF36.ai hw
                      have hs := hF36.ai hs
                      have ht := hF36.ai ht
                      have hb := hF36.ai hb
                      have hcc := hF36.ai hcc
                      have hC : (can = 1 ∧ RepC G z μ35 xa (n_answer σ (w : Int) (s : Int)) (n + 1)) ∨ (can = 0 ∧ RepC G z μ35 xa σ n) := (hC).imp (fun q => ⟨q.1, hF36.repc q.2⟩) (fun q => ⟨q.1, hF36.repc q.2⟩)
                      have he := hew
                      refine x_goto (tgt := 2027) C dL_law_1741 (by decide) ?_
                      have hC : RepC G z μ35 xa σ n := by (rcases hC with ⟨h, -⟩ | ⟨-, h⟩; exfalso; omega; exact h)
                      refine x_sub (lv' := [(0, .ref bs), (1, .ref xa), (2, .ref (A 0)), (3, .ref (A 1)), (4, .ref (A 2)), (5, .ref (A 3)), (6, .ref (A 4)), (7, .ref (A 5)), (8, .ref (A 6)), (9, .ref (A 7)), (10, .ref (A 8)), (11, .ref (A 9)), (12, .ref (A 10)), (13, .ref (A 11)), (14, .ref (A 12)), (15, .int (zI 1)), (16, .int (zI (τ : Int))), (19, .int (zI v))]) [4, 5, 6, 7, 8, 9, 10, 11, 12, 13, 14, 15, 16, 17, 18, 0, 19, 22] rfl ?_
                      exact x_wid (by omega) (by omega) (kk _ σ ⟨hC.mono, hK.mono, hn, hh, ⟨_, hz, hZB⟩, hd, hy, hg, hu, ⟨_, hw, hWR⟩, (hs.wrs rfl), ht, (he.wrs (by omega)), hb, _, hcc⟩)
                    · refine x_iload C dL_law_1729 1 rfl ?_
                      refine z_if_ne (tgt := 1738) C dL_law_1731 (by decide) (rg_of (by omega) (by omega)) (fun c_37 => ?_) (fun c_37 => ?_)
                      · exfalso; omega
                      · refine z_iconst C dL_law_1734 ?_
                        refine x_goto (tgt := 1739) C dL_law_1735 (by decide) ?_
                        refine z_iadd C dL_law_1739 rfl ?_
                        refine z_iast (j := 6 * w + s) C dL_law_1740 he (by omega) (by omega) (by decide) (fun μ38 hew hF39 => ?_)
                        have hn := hF39.ai hn
                        have hh := hF39.ai hh
                        have hz := hF39.ol hz
                        have hd := hF39.ai hd
                        have hy := hF39.ai hy
                        have hg := hF39.ai hg
                        have hu := hF39.ai hu
                        have hw := hF39.ai hw
                        have hs := hF39.ai hs
                        have ht := hF39.ai ht
                        have hb := hF39.ai hb
                        have hcc := hF39.ai hcc
                        have hC : (can = 1 ∧ RepC G z μ38 xa (n_answer σ (w : Int) (s : Int)) (n + 1)) ∨ (can = 0 ∧ RepC G z μ38 xa σ n) := (hC).imp (fun q => ⟨q.1, hF39.repc q.2⟩) (fun q => ⟨q.1, hF39.repc q.2⟩)
                        have he := hew
                        refine x_goto (tgt := 2027) C dL_law_1741 (by decide) ?_
                        have hns : (n_answer σ (w : Int) (s : Int)) = su σ 22 (wr (σ 22) (6 * w + s) (σ 22 (6 * w + s) + 1)) := nans_w (w := (w : Int)) (s := (s : Int)) (by (show isWd σ s = 0; omega)) (hGv.nx (w := w) (s := s) (by omega) (by omega) h7 (by omega))
                        have hta : t_answer σ (w : Int) (s : Int) = 0 := by omega
                        refine x_sub (lv' := [(0, .ref bs), (1, .ref xa), (2, .ref (A 0)), (3, .ref (A 1)), (4, .ref (A 2)), (5, .ref (A 3)), (6, .ref (A 4)), (7, .ref (A 5)), (8, .ref (A 6)), (9, .ref (A 7)), (10, .ref (A 8)), (11, .ref (A 9)), (12, .ref (A 10)), (13, .ref (A 11)), (14, .ref (A 12)), (15, .int (zI 1)), (16, .int (zI (τ : Int))), (19, .int (zI v))]) [4, 5, 6, 7, 8, 9, 10, 11, 12, 13, 14, 15, 16, 17, 18, 0, 19, 22] rfl ?_
                        exact x_wid (by omega) (by omega) (kk _ (n_answer σ (w : Int) (s : Int)) ⟨(by (rcases hC with ⟨-, h⟩ | ⟨h, -⟩; exact h; exfalso; omega)), (Kv_answer hK hta), (by (rw [nF_c (σ := σ) (σ' := (n_answer σ (w : Int) (s : Int))) rfl rfl rfl rfl]; exact hn)), hh, ⟨_, hz, hZB.c rfl⟩, (by (rw [dF_c (σ := σ) (σ' := (n_answer σ (w : Int) (s : Int))) rfl rfl rfl rfl]; exact hd)), hy, (by (rw [gF_c (σ := σ) (σ' := (n_answer σ (w : Int) (s : Int))) rfl rfl]; exact hg)), (by (rw [uF_c (σ := σ) (σ' := (n_answer σ (w : Int) (s : Int))) rfl rfl]; exact hu)), ⟨_, hw, hWR.c rfl rfl rfl rfl rfl rfl⟩, (by (rw [sF_c (σ := σ) (σ' := (n_answer σ (w : Int) (s : Int))) (by (rw [hns]; rfl))]; exact hs.wrs rfl)), (by (rw [tF_c (σ := σ) (σ' := (n_answer σ (w : Int) (s : Int))) rfl]; exact ht)), (by (rw [show (n_answer σ (w : Int) (s : Int)) 22 = wr (σ 22) (6 * w + s) (σ 22 (6 * w + s) + 1) by (rw [hns]; rfl)]; exact he)), hb, _, hcc⟩)
                  · refine z_iconst C dL_law_1702 ?_
                    refine x_iload C dL_law_1703 25 rfl ?_
                    refine x_ishl (v := zI 1 <<< (zI (s : Int) &&& 31)) C dL_law_1705 rfl ?_
                    refine x_goto (tgt := 1710) C dL_law_1706 (by decide) ?_
                    refine x_ior (v := zI (b6 (wr (fun u => σ 20 (6 * w + u)) s 1))) C dL_law_1710 (b6_or hrf20 (by omega)) ?_
                    refine z_iast (j := w) C dL_law_1711 hs (by omega) (by omega) (by decide) (fun μ40 hsw hF41 => ?_)
                    have hn := hF41.ai hn
                    have hh := hF41.ai hh
                    have hz := hF41.ol hz
                    have hd := hF41.ai hd
                    have hy := hF41.ai hy
                    have hg := hF41.ai hg
                    have hu := hF41.ai hu
                    have hw := hF41.ai hw
                    have ht := hF41.ai ht
                    have he := hF41.ai he
                    have hb := hF41.ai hb
                    have hcc := hF41.ai hcc
                    have hC : (can = 1 ∧ RepC G z μ40 xa (n_answer σ (w : Int) (s : Int)) (n + 1)) ∨ (can = 0 ∧ RepC G z μ40 xa σ n) := (hC).imp (fun q => ⟨q.1, hF41.repc q.2⟩) (fun q => ⟨q.1, hF41.repc q.2⟩)
                    have hs := hsw
                    refine x_aload C dL_law_1712 16 rfl ?_
                    refine z_bipush C dL_law_1714 (by decide) ?_
                    refine x_iload C dL_law_1716 24 rfl ?_
                    refine z_imul C dL_law_1718 rfl ?_
                    refine x_iload C dL_law_1719 25 rfl ?_
                    refine z_iadd C dL_law_1721 rfl ?_
                    refine x_dup2 C dL_law_1722 rfl rfl ?_
                    refine z_iald (j := 6 * w + s) C dL_law_1723 he (by omega) (by omega) (by decide) ?_
                    refine x_iload C dL_law_1724 2 rfl ?_
                    refine z_if_eq (tgt := 1738) C dL_law_1726 (by decide) (rg_of (by omega) (by omega)) (fun c_42 => ?_) (fun c_42 => ?_)
                    · exfalso; omega
                    · refine x_iload C dL_law_1729 1 rfl ?_
                      refine z_if_ne (tgt := 1738) C dL_law_1731 (by decide) (rg_of (by omega) (by omega)) (fun c_43 => ?_) (fun c_43 => ?_)
                      · refine z_iconst C dL_law_1738 ?_
                        refine z_iadd C dL_law_1739 rfl ?_
                        refine z_iast (j := 6 * w + s) C dL_law_1740 he (by omega) (by omega) (by decide) (fun μ44 hew hF45 => ?_)
                        have hn := hF45.ai hn
                        have hh := hF45.ai hh
                        have hz := hF45.ol hz
                        have hd := hF45.ai hd
                        have hy := hF45.ai hy
                        have hg := hF45.ai hg
                        have hu := hF45.ai hu
                        have hw := hF45.ai hw
                        have hs := hF45.ai hs
                        have ht := hF45.ai ht
                        have hb := hF45.ai hb
                        have hcc := hF45.ai hcc
                        have hC : (can = 1 ∧ RepC G z μ44 xa (n_answer σ (w : Int) (s : Int)) (n + 1)) ∨ (can = 0 ∧ RepC G z μ44 xa σ n) := (hC).imp (fun q => ⟨q.1, hF45.repc q.2⟩) (fun q => ⟨q.1, hF45.repc q.2⟩)
                        have he := hew
                        refine x_goto (tgt := 2027) C dL_law_1741 (by decide) ?_
                        have hns : (n_answer σ (w : Int) (s : Int)) = su σ 20 (wr (σ 20) (6 * w + s) 1) := nans_r (w := (w : Int)) (s := (s : Int)) (by (show isWd σ s = 1; omega))
                        have hta : t_answer σ (w : Int) (s : Int) = 0 := by omega
                        refine x_sub (lv' := [(0, .ref bs), (1, .ref xa), (2, .ref (A 0)), (3, .ref (A 1)), (4, .ref (A 2)), (5, .ref (A 3)), (6, .ref (A 4)), (7, .ref (A 5)), (8, .ref (A 6)), (9, .ref (A 7)), (10, .ref (A 8)), (11, .ref (A 9)), (12, .ref (A 10)), (13, .ref (A 11)), (14, .ref (A 12)), (15, .int (zI 1)), (16, .int (zI (τ : Int))), (19, .int (zI v))]) [4, 5, 6, 7, 8, 9, 10, 11, 12, 13, 14, 15, 16, 17, 18, 0, 19, 22] rfl ?_
                        exact x_wid (by omega) (by omega) (kk _ (n_answer σ (w : Int) (s : Int)) ⟨(by (rcases hC with ⟨-, h⟩ | ⟨h, -⟩; exact h; exfalso; omega)), (Kv_answer hK hta), (by (rw [nF_c (σ := σ) (σ' := (n_answer σ (w : Int) (s : Int))) rfl rfl rfl rfl]; exact hn)), hh, ⟨_, hz, hZB.c rfl⟩, (by (rw [dF_c (σ := σ) (σ' := (n_answer σ (w : Int) (s : Int))) rfl rfl rfl rfl]; exact hd)), hy, (by (rw [gF_c (σ := σ) (σ' := (n_answer σ (w : Int) (s : Int))) rfl rfl]; exact hg)), (by (rw [uF_c (σ := σ) (σ' := (n_answer σ (w : Int) (s : Int))) rfl rfl]; exact hu)), ⟨_, hw, hWR.c rfl rfl rfl rfl rfl rfl⟩, (by (rw [sF_set (σ := σ) (σ' := (n_answer σ (w : Int) (s : Int))) (w := w) (s := s) (by omega) (by (rw [hns]; rfl))]; exact hs)), (by (rw [tF_c (σ := σ) (σ' := (n_answer σ (w : Int) (s : Int))) rfl]; exact ht)), (by (rw [show (n_answer σ (w : Int) (s : Int)) 22 = σ 22 by (rw [hns]; rfl)]; exact he.wrs (by omega))), hb, _, hcc⟩)
                      · exfalso; omega
              · refine z_iconst C dL_law_1676 ?_
                refine x_goto (tgt := 1681) C dL_law_1677 (by decide) ?_
                refine z_icmp_ne (tgt := 1688) C dL_law_1681 (by decide) (rg_of (by omega) (by omega)) (rg_of (by omega) (by omega)) (fun c_46 => ?_) (fun c_46 => ?_)
                · exfalso; omega
                · refine z_iconst C dL_law_1684 ?_
                  refine x_goto (tgt := 1689) C dL_law_1685 (by decide) ?_
                  refine x_istore (lv' := [(15, .int (zI 1)), (25, .int (zI ri)), (24, .int (zI can)), (23, .int (zI (5 * (w : Int)))), (0, .ref bs), (1, .ref xa), (2, .ref (A 0)), (3, .ref (A 1)), (4, .ref (A 2)), (5, .ref (A 3)), (6, .ref (A 4)), (7, .ref (A 5)), (8, .ref (A 6)), (9, .ref (A 7)), (10, .ref (A 8)), (11, .ref (A 9)), (12, .ref (A 10)), (13, .ref (A 11)), (14, .ref (A 12)), (16, .int (zI (τ : Int))), (17, .int (zI f9)), (18, .int (zI kd)), (19, .int (zI v)), (20, .int (zI (p : Int))), (21, .int (zI (w : Int))), (22, .int (zI (s : Int)))]) C dL_law_1689 (by decide) rfl ?_
                  refine x_aload C dL_law_1691 14 rfl ?_
                  refine x_iload C dL_law_1693 24 rfl ?_
                  refine x_dup2 C dL_law_1695 rfl rfl ?_
                  refine z_iald (j := w) C dL_law_1696 hs (by omega) (by omega) (by decide) ?_
                  refine x_iload C dL_law_1697 1 rfl ?_
                  refine z_if_eq (tgt := 1709) C dL_law_1699 (by decide) (rg_of (by omega) (by omega)) (fun c_47 => ?_) (fun c_47 => ?_)
                  · refine z_iconst C dL_law_1709 ?_
                    refine x_ior (v := zI ((sF σ) w)) C dL_law_1710 ior_0 ?_
                    refine z_iast (j := w) C dL_law_1711 hs (by omega) (by omega) (by decide) (fun μ48 hsw hF49 => ?_)
                    have hn := hF49.ai hn
                    have hh := hF49.ai hh
                    have hz := hF49.ol hz
                    have hd := hF49.ai hd
                    have hy := hF49.ai hy
                    have hg := hF49.ai hg
                    have hu := hF49.ai hu
                    have hw := hF49.ai hw
                    have ht := hF49.ai ht
                    have he := hF49.ai he
                    have hb := hF49.ai hb
                    have hcc := hF49.ai hcc
                    have hC : (can = 1 ∧ RepC G z μ48 xa (n_answer σ (w : Int) (s : Int)) (n + 1)) ∨ (can = 0 ∧ RepC G z μ48 xa σ n) := (hC).imp (fun q => ⟨q.1, hF49.repc q.2⟩) (fun q => ⟨q.1, hF49.repc q.2⟩)
                    have hs := hsw
                    refine x_aload C dL_law_1712 16 rfl ?_
                    refine z_bipush C dL_law_1714 (by decide) ?_
                    refine x_iload C dL_law_1716 24 rfl ?_
                    refine z_imul C dL_law_1718 rfl ?_
                    refine x_iload C dL_law_1719 25 rfl ?_
                    refine z_iadd C dL_law_1721 rfl ?_
                    refine x_dup2 C dL_law_1722 rfl rfl ?_
                    refine z_iald (j := 6 * w + s) C dL_law_1723 he (by omega) (by omega) (by decide) ?_
                    refine x_iload C dL_law_1724 2 rfl ?_
                    refine z_if_eq (tgt := 1738) C dL_law_1726 (by decide) (rg_of (by omega) (by omega)) (fun c_50 => ?_) (fun c_50 => ?_)
                    · refine z_iconst C dL_law_1738 ?_
                      refine z_iadd C dL_law_1739 rfl ?_
                      refine z_iast (j := 6 * w + s) C dL_law_1740 he (by omega) (by omega) (by decide) (fun μ51 hew hF52 => ?_)
                      have hn := hF52.ai hn
                      have hh := hF52.ai hh
                      have hz := hF52.ol hz
                      have hd := hF52.ai hd
                      have hy := hF52.ai hy
                      have hg := hF52.ai hg
                      have hu := hF52.ai hu
                      have hw := hF52.ai hw
                      have hs := hF52.ai hs
                      have ht := hF52.ai ht
                      have hb := hF52.ai hb
                      have hcc := hF52.ai hcc
                      have hC : (can = 1 ∧ RepC G z μ51 xa (n_answer σ (w : Int) (s : Int)) (n + 1)) ∨ (can = 0 ∧ RepC G z μ51 xa σ n) := (hC).imp (fun q => ⟨q.1, hF52.repc q.2⟩) (fun q => ⟨q.1, hF52.repc q.2⟩)
                      have he := hew
                      refine x_goto (tgt := 2027) C dL_law_1741 (by decide) ?_
                      have hC : RepC G z μ51 xa σ n := by (rcases hC with ⟨h, -⟩ | ⟨-, h⟩; exfalso; omega; exact h)
                      refine x_sub (lv' := [(0, .ref bs), (1, .ref xa), (2, .ref (A 0)), (3, .ref (A 1)), (4, .ref (A 2)), (5, .ref (A 3)), (6, .ref (A 4)), (7, .ref (A 5)), (8, .ref (A 6)), (9, .ref (A 7)), (10, .ref (A 8)), (11, .ref (A 9)), (12, .ref (A 10)), (13, .ref (A 11)), (14, .ref (A 12)), (15, .int (zI 1)), (16, .int (zI (τ : Int))), (19, .int (zI v))]) [4, 5, 6, 7, 8, 9, 10, 11, 12, 13, 14, 15, 16, 17, 18, 0, 19, 22] rfl ?_
                      exact x_wid (by omega) (by omega) (kk _ σ ⟨hC.mono, hK.mono, hn, hh, ⟨_, hz, hZB⟩, hd, hy, hg, hu, ⟨_, hw, hWR⟩, (hs.wrs rfl), ht, (he.wrs (by omega)), hb, _, hcc⟩)
                    · refine x_iload C dL_law_1729 1 rfl ?_
                      refine z_if_ne (tgt := 1738) C dL_law_1731 (by decide) (rg_of (by omega) (by omega)) (fun c_53 => ?_) (fun c_53 => ?_)
                      · exfalso; omega
                      · refine z_iconst C dL_law_1734 ?_
                        refine x_goto (tgt := 1739) C dL_law_1735 (by decide) ?_
                        refine z_iadd C dL_law_1739 rfl ?_
                        refine z_iast (j := 6 * w + s) C dL_law_1740 he (by omega) (by omega) (by decide) (fun μ54 hew hF55 => ?_)
                        have hn := hF55.ai hn
                        have hh := hF55.ai hh
                        have hz := hF55.ol hz
                        have hd := hF55.ai hd
                        have hy := hF55.ai hy
                        have hg := hF55.ai hg
                        have hu := hF55.ai hu
                        have hw := hF55.ai hw
                        have hs := hF55.ai hs
                        have ht := hF55.ai ht
                        have hb := hF55.ai hb
                        have hcc := hF55.ai hcc
                        have hC : (can = 1 ∧ RepC G z μ54 xa (n_answer σ (w : Int) (s : Int)) (n + 1)) ∨ (can = 0 ∧ RepC G z μ54 xa σ n) := (hC).imp (fun q => ⟨q.1, hF55.repc q.2⟩) (fun q => ⟨q.1, hF55.repc q.2⟩)
                        have he := hew
                        refine x_goto (tgt := 2027) C dL_law_1741 (by decide) ?_
                        have hns : (n_answer σ (w : Int) (s : Int)) = su σ 22 (wr (σ 22) (6 * w + s) (σ 22 (6 * w + s) + 1)) := nans_w (w := (w : Int)) (s := (s : Int)) (by (show isWd σ s = 0; omega)) (hGv.nx (w := w) (s := s) (by omega) (by omega) h7 (by omega))
                        have hta : t_answer σ (w : Int) (s : Int) = 0 := by omega
                        refine x_sub (lv' := [(0, .ref bs), (1, .ref xa), (2, .ref (A 0)), (3, .ref (A 1)), (4, .ref (A 2)), (5, .ref (A 3)), (6, .ref (A 4)), (7, .ref (A 5)), (8, .ref (A 6)), (9, .ref (A 7)), (10, .ref (A 8)), (11, .ref (A 9)), (12, .ref (A 10)), (13, .ref (A 11)), (14, .ref (A 12)), (15, .int (zI 1)), (16, .int (zI (τ : Int))), (19, .int (zI v))]) [4, 5, 6, 7, 8, 9, 10, 11, 12, 13, 14, 15, 16, 17, 18, 0, 19, 22] rfl ?_
                        exact x_wid (by omega) (by omega) (kk _ (n_answer σ (w : Int) (s : Int)) ⟨(by (rcases hC with ⟨-, h⟩ | ⟨h, -⟩; exact h; exfalso; omega)), (Kv_answer hK hta), (by (rw [nF_c (σ := σ) (σ' := (n_answer σ (w : Int) (s : Int))) rfl rfl rfl rfl]; exact hn)), hh, ⟨_, hz, hZB.c rfl⟩, (by (rw [dF_c (σ := σ) (σ' := (n_answer σ (w : Int) (s : Int))) rfl rfl rfl rfl]; exact hd)), hy, (by (rw [gF_c (σ := σ) (σ' := (n_answer σ (w : Int) (s : Int))) rfl rfl]; exact hg)), (by (rw [uF_c (σ := σ) (σ' := (n_answer σ (w : Int) (s : Int))) rfl rfl]; exact hu)), ⟨_, hw, hWR.c rfl rfl rfl rfl rfl rfl⟩, (by (rw [sF_c (σ := σ) (σ' := (n_answer σ (w : Int) (s : Int))) (by (rw [hns]; rfl))]; exact hs.wrs rfl)), (by (rw [tF_c (σ := σ) (σ' := (n_answer σ (w : Int) (s : Int))) rfl]; exact ht)), (by (rw [show (n_answer σ (w : Int) (s : Int)) 22 = wr (σ 22) (6 * w + s) (σ 22 (6 * w + s) + 1) by (rw [hns]; rfl)]; exact he)), hb, _, hcc⟩)
                  · refine z_iconst C dL_law_1702 ?_
                    refine x_iload C dL_law_1703 25 rfl ?_
                    refine x_ishl (v := zI 1 <<< (zI (s : Int) &&& 31)) C dL_law_1705 rfl ?_
                    refine x_goto (tgt := 1710) C dL_law_1706 (by decide) ?_
                    refine x_ior (v := zI (b6 (wr (fun u => σ 20 (6 * w + u)) s 1))) C dL_law_1710 (b6_or hrf20 (by omega)) ?_
                    refine z_iast (j := w) C dL_law_1711 hs (by omega) (by omega) (by decide) (fun μ56 hsw hF57 => ?_)
                    have hn := hF57.ai hn
                    have hh := hF57.ai hh
                    have hz := hF57.ol hz
                    have hd := hF57.ai hd
                    have hy := hF57.ai hy
                    have hg := hF57.ai hg
                    have hu := hF57.ai hu
                    have hw := hF57.ai hw
                    have ht := hF57.ai ht
                    have he := hF57.ai he
                    have hb := hF57.ai hb
                    have hcc := hF57.ai hcc
                    have hC : (can = 1 ∧ RepC G z μ56 xa (n_answer σ (w : Int) (s : Int)) (n + 1)) ∨ (can = 0 ∧ RepC G z μ56 xa σ n) := (hC).imp (fun q => ⟨q.1, hF57.repc q.2⟩) (fun q => ⟨q.1, hF57.repc q.2⟩)
                    have hs := hsw
                    refine x_aload C dL_law_1712 16 rfl ?_
                    refine z_bipush C dL_law_1714 (by decide) ?_
                    refine x_iload C dL_law_1716 24 rfl ?_
                    refine z_imul C dL_law_1718 rfl ?_
                    refine x_iload C dL_law_1719 25 rfl ?_
                    refine z_iadd C dL_law_1721 rfl ?_
                    refine x_dup2 C dL_law_1722 rfl rfl ?_
                    refine z_iald (j := 6 * w + s) C dL_law_1723 he (by omega) (by omega) (by decide) ?_
                    refine x_iload C dL_law_1724 2 rfl ?_
                    refine z_if_eq (tgt := 1738) C dL_law_1726 (by decide) (rg_of (by omega) (by omega)) (fun c_58 => ?_) (fun c_58 => ?_)
                    · exfalso; omega
                    · refine x_iload C dL_law_1729 1 rfl ?_
                      refine z_if_ne (tgt := 1738) C dL_law_1731 (by decide) (rg_of (by omega) (by omega)) (fun c_59 => ?_) (fun c_59 => ?_)
                      · refine z_iconst C dL_law_1738 ?_
                        refine z_iadd C dL_law_1739 rfl ?_
                        refine z_iast (j := 6 * w + s) C dL_law_1740 he (by omega) (by omega) (by decide) (fun μ60 hew hF61 => ?_)
                        have hn := hF61.ai hn
                        have hh := hF61.ai hh
                        have hz := hF61.ol hz
                        have hd := hF61.ai hd
                        have hy := hF61.ai hy
                        have hg := hF61.ai hg
                        have hu := hF61.ai hu
                        have hw := hF61.ai hw
                        have hs := hF61.ai hs
                        have ht := hF61.ai ht
                        have hb := hF61.ai hb
                        have hcc := hF61.ai hcc
                        have hC : (can = 1 ∧ RepC G z μ60 xa (n_answer σ (w : Int) (s : Int)) (n + 1)) ∨ (can = 0 ∧ RepC G z μ60 xa σ n) := (hC).imp (fun q => ⟨q.1, hF61.repc q.2⟩) (fun q => ⟨q.1, hF61.repc q.2⟩)
                        have he := hew
                        refine x_goto (tgt := 2027) C dL_law_1741 (by decide) ?_
                        have hns : (n_answer σ (w : Int) (s : Int)) = su σ 20 (wr (σ 20) (6 * w + s) 1) := nans_r (w := (w : Int)) (s := (s : Int)) (by (show isWd σ s = 1; omega))
                        have hta : t_answer σ (w : Int) (s : Int) = 0 := by omega
                        refine x_sub (lv' := [(0, .ref bs), (1, .ref xa), (2, .ref (A 0)), (3, .ref (A 1)), (4, .ref (A 2)), (5, .ref (A 3)), (6, .ref (A 4)), (7, .ref (A 5)), (8, .ref (A 6)), (9, .ref (A 7)), (10, .ref (A 8)), (11, .ref (A 9)), (12, .ref (A 10)), (13, .ref (A 11)), (14, .ref (A 12)), (15, .int (zI 1)), (16, .int (zI (τ : Int))), (19, .int (zI v))]) [4, 5, 6, 7, 8, 9, 10, 11, 12, 13, 14, 15, 16, 17, 18, 0, 19, 22] rfl ?_
                        exact x_wid (by omega) (by omega) (kk _ (n_answer σ (w : Int) (s : Int)) ⟨(by (rcases hC with ⟨-, h⟩ | ⟨h, -⟩; exact h; exfalso; omega)), (Kv_answer hK hta), (by (rw [nF_c (σ := σ) (σ' := (n_answer σ (w : Int) (s : Int))) rfl rfl rfl rfl]; exact hn)), hh, ⟨_, hz, hZB.c rfl⟩, (by (rw [dF_c (σ := σ) (σ' := (n_answer σ (w : Int) (s : Int))) rfl rfl rfl rfl]; exact hd)), hy, (by (rw [gF_c (σ := σ) (σ' := (n_answer σ (w : Int) (s : Int))) rfl rfl]; exact hg)), (by (rw [uF_c (σ := σ) (σ' := (n_answer σ (w : Int) (s : Int))) rfl rfl]; exact hu)), ⟨_, hw, hWR.c rfl rfl rfl rfl rfl rfl⟩, (by (rw [sF_set (σ := σ) (σ' := (n_answer σ (w : Int) (s : Int))) (w := w) (s := s) (by omega) (by (rw [hns]; rfl))]; exact hs)), (by (rw [tF_c (σ := σ) (σ' := (n_answer σ (w : Int) (s : Int))) rfl]; exact ht)), (by (rw [show (n_answer σ (w : Int) (s : Int)) 22 = σ 22 by (rw [hns]; rfl)]; exact he.wrs (by omega))), hb, _, hcc⟩)
                      · exfalso; omega
            · refine z_bipush C dL_law_1666 (by decide) ?_
              refine x_goto (tgt := 1681) C dL_law_1668 (by decide) ?_
              refine z_icmp_ne (tgt := 1688) C dL_law_1681 (by decide) (rg_of (by omega) (by omega)) (rg_of (by omega) (by omega)) (fun c_62 => ?_) (fun c_62 => ?_)
              · exfalso; omega
              · refine z_iconst C dL_law_1684 ?_
                refine x_goto (tgt := 1689) C dL_law_1685 (by decide) ?_
                refine x_istore (lv' := [(15, .int (zI 1)), (25, .int (zI ri)), (24, .int (zI can)), (23, .int (zI (5 * (w : Int)))), (0, .ref bs), (1, .ref xa), (2, .ref (A 0)), (3, .ref (A 1)), (4, .ref (A 2)), (5, .ref (A 3)), (6, .ref (A 4)), (7, .ref (A 5)), (8, .ref (A 6)), (9, .ref (A 7)), (10, .ref (A 8)), (11, .ref (A 9)), (12, .ref (A 10)), (13, .ref (A 11)), (14, .ref (A 12)), (16, .int (zI (τ : Int))), (17, .int (zI f9)), (18, .int (zI kd)), (19, .int (zI v)), (20, .int (zI (p : Int))), (21, .int (zI (w : Int))), (22, .int (zI (s : Int)))]) C dL_law_1689 (by decide) rfl ?_
                refine x_aload C dL_law_1691 14 rfl ?_
                refine x_iload C dL_law_1693 24 rfl ?_
                refine x_dup2 C dL_law_1695 rfl rfl ?_
                refine z_iald (j := w) C dL_law_1696 hs (by omega) (by omega) (by decide) ?_
                refine x_iload C dL_law_1697 1 rfl ?_
                refine z_if_eq (tgt := 1709) C dL_law_1699 (by decide) (rg_of (by omega) (by omega)) (fun c_63 => ?_) (fun c_63 => ?_)
                · refine z_iconst C dL_law_1709 ?_
                  refine x_ior (v := zI ((sF σ) w)) C dL_law_1710 ior_0 ?_
                  refine z_iast (j := w) C dL_law_1711 hs (by omega) (by omega) (by decide) (fun μ64 hsw hF65 => ?_)
                  have hn := hF65.ai hn
                  have hh := hF65.ai hh
                  have hz := hF65.ol hz
                  have hd := hF65.ai hd
                  have hy := hF65.ai hy
                  have hg := hF65.ai hg
                  have hu := hF65.ai hu
                  have hw := hF65.ai hw
                  have ht := hF65.ai ht
                  have he := hF65.ai he
                  have hb := hF65.ai hb
                  have hcc := hF65.ai hcc
                  have hC : (can = 1 ∧ RepC G z μ64 xa (n_answer σ (w : Int) (s : Int)) (n + 1)) ∨ (can = 0 ∧ RepC G z μ64 xa σ n) := (hC).imp (fun q => ⟨q.1, hF65.repc q.2⟩) (fun q => ⟨q.1, hF65.repc q.2⟩)
                  have hs := hsw
                  refine x_aload C dL_law_1712 16 rfl ?_
                  refine z_bipush C dL_law_1714 (by decide) ?_
                  refine x_iload C dL_law_1716 24 rfl ?_
                  refine z_imul C dL_law_1718 rfl ?_
                  refine x_iload C dL_law_1719 25 rfl ?_
                  refine z_iadd C dL_law_1721 rfl ?_
                  refine x_dup2 C dL_law_1722 rfl rfl ?_
                  refine z_iald (j := 6 * w + s) C dL_law_1723 he (by omega) (by omega) (by decide) ?_
                  refine x_iload C dL_law_1724 2 rfl ?_
                  refine z_if_eq (tgt := 1738) C dL_law_1726 (by decide) (rg_of (by omega) (by omega)) (fun c_66 => ?_) (fun c_66 => ?_)
                  · refine z_iconst C dL_law_1738 ?_
                    refine z_iadd C dL_law_1739 rfl ?_
                    refine z_iast (j := 6 * w + s) C dL_law_1740 he (by omega) (by omega) (by decide) (fun μ67 hew hF68 => ?_)
                    have hn := hF68.ai hn
                    have hh := hF68.ai hh
                    have hz := hF68.ol hz
                    have hd := hF68.ai hd
                    have hy := hF68.ai hy
                    have hg := hF68.ai hg
                    have hu := hF68.ai hu
                    have hw := hF68.ai hw
                    have hs := hF68.ai hs
                    have ht := hF68.ai ht
                    have hb := hF68.ai hb
                    have hcc := hF68.ai hcc
                    have hC : (can = 1 ∧ RepC G z μ67 xa (n_answer σ (w : Int) (s : Int)) (n + 1)) ∨ (can = 0 ∧ RepC G z μ67 xa σ n) := (hC).imp (fun q => ⟨q.1, hF68.repc q.2⟩) (fun q => ⟨q.1, hF68.repc q.2⟩)
                    have he := hew
                    refine x_goto (tgt := 2027) C dL_law_1741 (by decide) ?_
                    have hC : RepC G z μ67 xa σ n := by (rcases hC with ⟨h, -⟩ | ⟨-, h⟩; exfalso; omega; exact h)
                    refine x_sub (lv' := [(0, .ref bs), (1, .ref xa), (2, .ref (A 0)), (3, .ref (A 1)), (4, .ref (A 2)), (5, .ref (A 3)), (6, .ref (A 4)), (7, .ref (A 5)), (8, .ref (A 6)), (9, .ref (A 7)), (10, .ref (A 8)), (11, .ref (A 9)), (12, .ref (A 10)), (13, .ref (A 11)), (14, .ref (A 12)), (15, .int (zI 1)), (16, .int (zI (τ : Int))), (19, .int (zI v))]) [4, 5, 6, 7, 8, 9, 10, 11, 12, 13, 14, 15, 16, 17, 18, 0, 19, 22] rfl ?_
                    exact x_wid (by omega) (by omega) (kk _ σ ⟨hC.mono, hK.mono, hn, hh, ⟨_, hz, hZB⟩, hd, hy, hg, hu, ⟨_, hw, hWR⟩, (hs.wrs rfl), ht, (he.wrs (by omega)), hb, _, hcc⟩)
                  · refine x_iload C dL_law_1729 1 rfl ?_
                    refine z_if_ne (tgt := 1738) C dL_law_1731 (by decide) (rg_of (by omega) (by omega)) (fun c_69 => ?_) (fun c_69 => ?_)
                    · exfalso; omega
                    · refine z_iconst C dL_law_1734 ?_
                      refine x_goto (tgt := 1739) C dL_law_1735 (by decide) ?_
                      refine z_iadd C dL_law_1739 rfl ?_
                      refine z_iast (j := 6 * w + s) C dL_law_1740 he (by omega) (by omega) (by decide) (fun μ70 hew hF71 => ?_)
                      have hn := hF71.ai hn
                      have hh := hF71.ai hh
                      have hz := hF71.ol hz
                      have hd := hF71.ai hd
                      have hy := hF71.ai hy
                      have hg := hF71.ai hg
                      have hu := hF71.ai hu
                      have hw := hF71.ai hw
                      have hs := hF71.ai hs
                      have ht := hF71.ai ht
                      have hb := hF71.ai hb
                      have hcc := hF71.ai hcc
                      have hC : (can = 1 ∧ RepC G z μ70 xa (n_answer σ (w : Int) (s : Int)) (n + 1)) ∨ (can = 0 ∧ RepC G z μ70 xa σ n) := (hC).imp (fun q => ⟨q.1, hF71.repc q.2⟩) (fun q => ⟨q.1, hF71.repc q.2⟩)
                      have he := hew
                      refine x_goto (tgt := 2027) C dL_law_1741 (by decide) ?_
                      have hns : (n_answer σ (w : Int) (s : Int)) = su σ 22 (wr (σ 22) (6 * w + s) (σ 22 (6 * w + s) + 1)) := nans_w (w := (w : Int)) (s := (s : Int)) (by (show isWd σ s = 0; omega)) (hGv.nx (w := w) (s := s) (by omega) (by omega) h7 (by omega))
                      have hta : t_answer σ (w : Int) (s : Int) = 0 := by omega
                      refine x_sub (lv' := [(0, .ref bs), (1, .ref xa), (2, .ref (A 0)), (3, .ref (A 1)), (4, .ref (A 2)), (5, .ref (A 3)), (6, .ref (A 4)), (7, .ref (A 5)), (8, .ref (A 6)), (9, .ref (A 7)), (10, .ref (A 8)), (11, .ref (A 9)), (12, .ref (A 10)), (13, .ref (A 11)), (14, .ref (A 12)), (15, .int (zI 1)), (16, .int (zI (τ : Int))), (19, .int (zI v))]) [4, 5, 6, 7, 8, 9, 10, 11, 12, 13, 14, 15, 16, 17, 18, 0, 19, 22] rfl ?_
                      exact x_wid (by omega) (by omega) (kk _ (n_answer σ (w : Int) (s : Int)) ⟨(by (rcases hC with ⟨-, h⟩ | ⟨h, -⟩; exact h; exfalso; omega)), (Kv_answer hK hta), (by (rw [nF_c (σ := σ) (σ' := (n_answer σ (w : Int) (s : Int))) rfl rfl rfl rfl]; exact hn)), hh, ⟨_, hz, hZB.c rfl⟩, (by (rw [dF_c (σ := σ) (σ' := (n_answer σ (w : Int) (s : Int))) rfl rfl rfl rfl]; exact hd)), hy, (by (rw [gF_c (σ := σ) (σ' := (n_answer σ (w : Int) (s : Int))) rfl rfl]; exact hg)), (by (rw [uF_c (σ := σ) (σ' := (n_answer σ (w : Int) (s : Int))) rfl rfl]; exact hu)), ⟨_, hw, hWR.c rfl rfl rfl rfl rfl rfl⟩, (by (rw [sF_c (σ := σ) (σ' := (n_answer σ (w : Int) (s : Int))) (by (rw [hns]; rfl))]; exact hs.wrs rfl)), (by (rw [tF_c (σ := σ) (σ' := (n_answer σ (w : Int) (s : Int))) rfl]; exact ht)), (by (rw [show (n_answer σ (w : Int) (s : Int)) 22 = wr (σ 22) (6 * w + s) (σ 22 (6 * w + s) + 1) by (rw [hns]; rfl)]; exact he)), hb, _, hcc⟩)
                · refine z_iconst C dL_law_1702 ?_
                  refine x_iload C dL_law_1703 25 rfl ?_
                  refine x_ishl (v := zI 1 <<< (zI (s : Int) &&& 31)) C dL_law_1705 rfl ?_
                  refine x_goto (tgt := 1710) C dL_law_1706 (by decide) ?_
                  refine x_ior (v := zI (b6 (wr (fun u => σ 20 (6 * w + u)) s 1))) C dL_law_1710 (b6_or hrf20 (by omega)) ?_
                  refine z_iast (j := w) C dL_law_1711 hs (by omega) (by omega) (by decide) (fun μ72 hsw hF73 => ?_)
                  have hn := hF73.ai hn
                  have hh := hF73.ai hh
                  have hz := hF73.ol hz
                  have hd := hF73.ai hd
                  have hy := hF73.ai hy
                  have hg := hF73.ai hg
                  have hu := hF73.ai hu
                  have hw := hF73.ai hw
                  have ht := hF73.ai ht
                  have he := hF73.ai he
                  have hb := hF73.ai hb
                  have hcc := hF73.ai hcc
                  have hC : (can = 1 ∧ RepC G z μ72 xa (n_answer σ (w : Int) (s : Int)) (n + 1)) ∨ (can = 0 ∧ RepC G z μ72 xa σ n) := (hC).imp (fun q => ⟨q.1, hF73.repc q.2⟩) (fun q => ⟨q.1, hF73.repc q.2⟩)
                  have hs := hsw
                  refine x_aload C dL_law_1712 16 rfl ?_
                  refine z_bipush C dL_law_1714 (by decide) ?_
                  refine x_iload C dL_law_1716 24 rfl ?_
                  refine z_imul C dL_law_1718 rfl ?_
                  refine x_iload C dL_law_1719 25 rfl ?_
                  refine z_iadd C dL_law_1721 rfl ?_
                  refine x_dup2 C dL_law_1722 rfl rfl ?_
                  refine z_iald (j := 6 * w + s) C dL_law_1723 he (by omega) (by omega) (by decide) ?_
                  refine x_iload C dL_law_1724 2 rfl ?_
                  refine z_if_eq (tgt := 1738) C dL_law_1726 (by decide) (rg_of (by omega) (by omega)) (fun c_74 => ?_) (fun c_74 => ?_)
                  · exfalso; omega
                  · refine x_iload C dL_law_1729 1 rfl ?_
                    refine z_if_ne (tgt := 1738) C dL_law_1731 (by decide) (rg_of (by omega) (by omega)) (fun c_75 => ?_) (fun c_75 => ?_)
                    · refine z_iconst C dL_law_1738 ?_
                      refine z_iadd C dL_law_1739 rfl ?_
                      refine z_iast (j := 6 * w + s) C dL_law_1740 he (by omega) (by omega) (by decide) (fun μ76 hew hF77 => ?_)
                      have hn := hF77.ai hn
                      have hh := hF77.ai hh
                      have hz := hF77.ol hz
                      have hd := hF77.ai hd
                      have hy := hF77.ai hy
                      have hg := hF77.ai hg
                      have hu := hF77.ai hu
                      have hw := hF77.ai hw
                      have hs := hF77.ai hs
                      have ht := hF77.ai ht
                      have hb := hF77.ai hb
                      have hcc := hF77.ai hcc
                      have hC : (can = 1 ∧ RepC G z μ76 xa (n_answer σ (w : Int) (s : Int)) (n + 1)) ∨ (can = 0 ∧ RepC G z μ76 xa σ n) := (hC).imp (fun q => ⟨q.1, hF77.repc q.2⟩) (fun q => ⟨q.1, hF77.repc q.2⟩)
                      have he := hew
                      refine x_goto (tgt := 2027) C dL_law_1741 (by decide) ?_
                      have hns : (n_answer σ (w : Int) (s : Int)) = su σ 20 (wr (σ 20) (6 * w + s) 1) := nans_r (w := (w : Int)) (s := (s : Int)) (by (show isWd σ s = 1; omega))
                      have hta : t_answer σ (w : Int) (s : Int) = 0 := by omega
                      refine x_sub (lv' := [(0, .ref bs), (1, .ref xa), (2, .ref (A 0)), (3, .ref (A 1)), (4, .ref (A 2)), (5, .ref (A 3)), (6, .ref (A 4)), (7, .ref (A 5)), (8, .ref (A 6)), (9, .ref (A 7)), (10, .ref (A 8)), (11, .ref (A 9)), (12, .ref (A 10)), (13, .ref (A 11)), (14, .ref (A 12)), (15, .int (zI 1)), (16, .int (zI (τ : Int))), (19, .int (zI v))]) [4, 5, 6, 7, 8, 9, 10, 11, 12, 13, 14, 15, 16, 17, 18, 0, 19, 22] rfl ?_
                      exact x_wid (by omega) (by omega) (kk _ (n_answer σ (w : Int) (s : Int)) ⟨(by (rcases hC with ⟨-, h⟩ | ⟨h, -⟩; exact h; exfalso; omega)), (Kv_answer hK hta), (by (rw [nF_c (σ := σ) (σ' := (n_answer σ (w : Int) (s : Int))) rfl rfl rfl rfl]; exact hn)), hh, ⟨_, hz, hZB.c rfl⟩, (by (rw [dF_c (σ := σ) (σ' := (n_answer σ (w : Int) (s : Int))) rfl rfl rfl rfl]; exact hd)), hy, (by (rw [gF_c (σ := σ) (σ' := (n_answer σ (w : Int) (s : Int))) rfl rfl]; exact hg)), (by (rw [uF_c (σ := σ) (σ' := (n_answer σ (w : Int) (s : Int))) rfl rfl]; exact hu)), ⟨_, hw, hWR.c rfl rfl rfl rfl rfl rfl⟩, (by (rw [sF_set (σ := σ) (σ' := (n_answer σ (w : Int) (s : Int))) (w := w) (s := s) (by omega) (by (rw [hns]; rfl))]; exact hs)), (by (rw [tF_c (σ := σ) (σ' := (n_answer σ (w : Int) (s : Int))) rfl]; exact ht)), (by (rw [show (n_answer σ (w : Int) (s : Int)) 22 = σ 22 by (rw [hns]; rfl)]; exact he.wrs (by omega))), hb, _, hcc⟩)
                    · exfalso; omega
          · refine z_bipush C dL_law_1656 (by decide) ?_
            refine x_goto (tgt := 1681) C dL_law_1658 (by decide) ?_
            refine z_icmp_ne (tgt := 1688) C dL_law_1681 (by decide) (rg_of (by omega) (by omega)) (rg_of (by omega) (by omega)) (fun c_78 => ?_) (fun c_78 => ?_)
            · exfalso; omega
            · refine z_iconst C dL_law_1684 ?_
              refine x_goto (tgt := 1689) C dL_law_1685 (by decide) ?_
              refine x_istore (lv' := [(15, .int (zI 1)), (25, .int (zI ri)), (24, .int (zI can)), (23, .int (zI (5 * (w : Int)))), (0, .ref bs), (1, .ref xa), (2, .ref (A 0)), (3, .ref (A 1)), (4, .ref (A 2)), (5, .ref (A 3)), (6, .ref (A 4)), (7, .ref (A 5)), (8, .ref (A 6)), (9, .ref (A 7)), (10, .ref (A 8)), (11, .ref (A 9)), (12, .ref (A 10)), (13, .ref (A 11)), (14, .ref (A 12)), (16, .int (zI (τ : Int))), (17, .int (zI f9)), (18, .int (zI kd)), (19, .int (zI v)), (20, .int (zI (p : Int))), (21, .int (zI (w : Int))), (22, .int (zI (s : Int)))]) C dL_law_1689 (by decide) rfl ?_
              refine x_aload C dL_law_1691 14 rfl ?_
              refine x_iload C dL_law_1693 24 rfl ?_
              refine x_dup2 C dL_law_1695 rfl rfl ?_
              refine z_iald (j := w) C dL_law_1696 hs (by omega) (by omega) (by decide) ?_
              refine x_iload C dL_law_1697 1 rfl ?_
              refine z_if_eq (tgt := 1709) C dL_law_1699 (by decide) (rg_of (by omega) (by omega)) (fun c_79 => ?_) (fun c_79 => ?_)
              · refine z_iconst C dL_law_1709 ?_
                refine x_ior (v := zI ((sF σ) w)) C dL_law_1710 ior_0 ?_
                refine z_iast (j := w) C dL_law_1711 hs (by omega) (by omega) (by decide) (fun μ80 hsw hF81 => ?_)
                have hn := hF81.ai hn
                have hh := hF81.ai hh
                have hz := hF81.ol hz
                have hd := hF81.ai hd
                have hy := hF81.ai hy
                have hg := hF81.ai hg
                have hu := hF81.ai hu
                have hw := hF81.ai hw
                have ht := hF81.ai ht
                have he := hF81.ai he
                have hb := hF81.ai hb
                have hcc := hF81.ai hcc
                have hC : (can = 1 ∧ RepC G z μ80 xa (n_answer σ (w : Int) (s : Int)) (n + 1)) ∨ (can = 0 ∧ RepC G z μ80 xa σ n) := (hC).imp (fun q => ⟨q.1, hF81.repc q.2⟩) (fun q => ⟨q.1, hF81.repc q.2⟩)
                have hs := hsw
                refine x_aload C dL_law_1712 16 rfl ?_
                refine z_bipush C dL_law_1714 (by decide) ?_
                refine x_iload C dL_law_1716 24 rfl ?_
                refine z_imul C dL_law_1718 rfl ?_
                refine x_iload C dL_law_1719 25 rfl ?_
                refine z_iadd C dL_law_1721 rfl ?_
                refine x_dup2 C dL_law_1722 rfl rfl ?_
                refine z_iald (j := 6 * w + s) C dL_law_1723 he (by omega) (by omega) (by decide) ?_
                refine x_iload C dL_law_1724 2 rfl ?_
                refine z_if_eq (tgt := 1738) C dL_law_1726 (by decide) (rg_of (by omega) (by omega)) (fun c_82 => ?_) (fun c_82 => ?_)
                · refine z_iconst C dL_law_1738 ?_
                  refine z_iadd C dL_law_1739 rfl ?_
                  refine z_iast (j := 6 * w + s) C dL_law_1740 he (by omega) (by omega) (by decide) (fun μ83 hew hF84 => ?_)
                  have hn := hF84.ai hn
                  have hh := hF84.ai hh
                  have hz := hF84.ol hz
                  have hd := hF84.ai hd
                  have hy := hF84.ai hy
                  have hg := hF84.ai hg
                  have hu := hF84.ai hu
                  have hw := hF84.ai hw
                  have hs := hF84.ai hs
                  have ht := hF84.ai ht
                  have hb := hF84.ai hb
                  have hcc := hF84.ai hcc
                  have hC : (can = 1 ∧ RepC G z μ83 xa (n_answer σ (w : Int) (s : Int)) (n + 1)) ∨ (can = 0 ∧ RepC G z μ83 xa σ n) := (hC).imp (fun q => ⟨q.1, hF84.repc q.2⟩) (fun q => ⟨q.1, hF84.repc q.2⟩)
                  have he := hew
                  refine x_goto (tgt := 2027) C dL_law_1741 (by decide) ?_
                  have hC : RepC G z μ83 xa σ n := by (rcases hC with ⟨h, -⟩ | ⟨-, h⟩; exfalso; omega; exact h)
                  refine x_sub (lv' := [(0, .ref bs), (1, .ref xa), (2, .ref (A 0)), (3, .ref (A 1)), (4, .ref (A 2)), (5, .ref (A 3)), (6, .ref (A 4)), (7, .ref (A 5)), (8, .ref (A 6)), (9, .ref (A 7)), (10, .ref (A 8)), (11, .ref (A 9)), (12, .ref (A 10)), (13, .ref (A 11)), (14, .ref (A 12)), (15, .int (zI 1)), (16, .int (zI (τ : Int))), (19, .int (zI v))]) [4, 5, 6, 7, 8, 9, 10, 11, 12, 13, 14, 15, 16, 17, 18, 0, 19, 22] rfl ?_
                  exact x_wid (by omega) (by omega) (kk _ σ ⟨hC.mono, hK.mono, hn, hh, ⟨_, hz, hZB⟩, hd, hy, hg, hu, ⟨_, hw, hWR⟩, (hs.wrs rfl), ht, (he.wrs (by omega)), hb, _, hcc⟩)
                · refine x_iload C dL_law_1729 1 rfl ?_
                  refine z_if_ne (tgt := 1738) C dL_law_1731 (by decide) (rg_of (by omega) (by omega)) (fun c_85 => ?_) (fun c_85 => ?_)
                  · exfalso; omega
                  · refine z_iconst C dL_law_1734 ?_
                    refine x_goto (tgt := 1739) C dL_law_1735 (by decide) ?_
                    refine z_iadd C dL_law_1739 rfl ?_
                    refine z_iast (j := 6 * w + s) C dL_law_1740 he (by omega) (by omega) (by decide) (fun μ86 hew hF87 => ?_)
                    have hn := hF87.ai hn
                    have hh := hF87.ai hh
                    have hz := hF87.ol hz
                    have hd := hF87.ai hd
                    have hy := hF87.ai hy
                    have hg := hF87.ai hg
                    have hu := hF87.ai hu
                    have hw := hF87.ai hw
                    have hs := hF87.ai hs
                    have ht := hF87.ai ht
                    have hb := hF87.ai hb
                    have hcc := hF87.ai hcc
                    have hC : (can = 1 ∧ RepC G z μ86 xa (n_answer σ (w : Int) (s : Int)) (n + 1)) ∨ (can = 0 ∧ RepC G z μ86 xa σ n) := (hC).imp (fun q => ⟨q.1, hF87.repc q.2⟩) (fun q => ⟨q.1, hF87.repc q.2⟩)
                    have he := hew
                    refine x_goto (tgt := 2027) C dL_law_1741 (by decide) ?_
                    have hns : (n_answer σ (w : Int) (s : Int)) = su σ 22 (wr (σ 22) (6 * w + s) (σ 22 (6 * w + s) + 1)) := nans_w (w := (w : Int)) (s := (s : Int)) (by (show isWd σ s = 0; omega)) (hGv.nx (w := w) (s := s) (by omega) (by omega) h7 (by omega))
                    have hta : t_answer σ (w : Int) (s : Int) = 0 := by omega
                    refine x_sub (lv' := [(0, .ref bs), (1, .ref xa), (2, .ref (A 0)), (3, .ref (A 1)), (4, .ref (A 2)), (5, .ref (A 3)), (6, .ref (A 4)), (7, .ref (A 5)), (8, .ref (A 6)), (9, .ref (A 7)), (10, .ref (A 8)), (11, .ref (A 9)), (12, .ref (A 10)), (13, .ref (A 11)), (14, .ref (A 12)), (15, .int (zI 1)), (16, .int (zI (τ : Int))), (19, .int (zI v))]) [4, 5, 6, 7, 8, 9, 10, 11, 12, 13, 14, 15, 16, 17, 18, 0, 19, 22] rfl ?_
                    exact x_wid (by omega) (by omega) (kk _ (n_answer σ (w : Int) (s : Int)) ⟨(by (rcases hC with ⟨-, h⟩ | ⟨h, -⟩; exact h; exfalso; omega)), (Kv_answer hK hta), (by (rw [nF_c (σ := σ) (σ' := (n_answer σ (w : Int) (s : Int))) rfl rfl rfl rfl]; exact hn)), hh, ⟨_, hz, hZB.c rfl⟩, (by (rw [dF_c (σ := σ) (σ' := (n_answer σ (w : Int) (s : Int))) rfl rfl rfl rfl]; exact hd)), hy, (by (rw [gF_c (σ := σ) (σ' := (n_answer σ (w : Int) (s : Int))) rfl rfl]; exact hg)), (by (rw [uF_c (σ := σ) (σ' := (n_answer σ (w : Int) (s : Int))) rfl rfl]; exact hu)), ⟨_, hw, hWR.c rfl rfl rfl rfl rfl rfl⟩, (by (rw [sF_c (σ := σ) (σ' := (n_answer σ (w : Int) (s : Int))) (by (rw [hns]; rfl))]; exact hs.wrs rfl)), (by (rw [tF_c (σ := σ) (σ' := (n_answer σ (w : Int) (s : Int))) rfl]; exact ht)), (by (rw [show (n_answer σ (w : Int) (s : Int)) 22 = wr (σ 22) (6 * w + s) (σ 22 (6 * w + s) + 1) by (rw [hns]; rfl)]; exact he)), hb, _, hcc⟩)
              · refine z_iconst C dL_law_1702 ?_
                refine x_iload C dL_law_1703 25 rfl ?_
                refine x_ishl (v := zI 1 <<< (zI (s : Int) &&& 31)) C dL_law_1705 rfl ?_
                refine x_goto (tgt := 1710) C dL_law_1706 (by decide) ?_
                refine x_ior (v := zI (b6 (wr (fun u => σ 20 (6 * w + u)) s 1))) C dL_law_1710 (b6_or hrf20 (by omega)) ?_
                refine z_iast (j := w) C dL_law_1711 hs (by omega) (by omega) (by decide) (fun μ88 hsw hF89 => ?_)
                have hn := hF89.ai hn
                have hh := hF89.ai hh
                have hz := hF89.ol hz
                have hd := hF89.ai hd
                have hy := hF89.ai hy
                have hg := hF89.ai hg
                have hu := hF89.ai hu
                have hw := hF89.ai hw
                have ht := hF89.ai ht
                have he := hF89.ai he
                have hb := hF89.ai hb
                have hcc := hF89.ai hcc
                have hC : (can = 1 ∧ RepC G z μ88 xa (n_answer σ (w : Int) (s : Int)) (n + 1)) ∨ (can = 0 ∧ RepC G z μ88 xa σ n) := (hC).imp (fun q => ⟨q.1, hF89.repc q.2⟩) (fun q => ⟨q.1, hF89.repc q.2⟩)
                have hs := hsw
                refine x_aload C dL_law_1712 16 rfl ?_
                refine z_bipush C dL_law_1714 (by decide) ?_
                refine x_iload C dL_law_1716 24 rfl ?_
                refine z_imul C dL_law_1718 rfl ?_
                refine x_iload C dL_law_1719 25 rfl ?_
                refine z_iadd C dL_law_1721 rfl ?_
                refine x_dup2 C dL_law_1722 rfl rfl ?_
                refine z_iald (j := 6 * w + s) C dL_law_1723 he (by omega) (by omega) (by decide) ?_
                refine x_iload C dL_law_1724 2 rfl ?_
                refine z_if_eq (tgt := 1738) C dL_law_1726 (by decide) (rg_of (by omega) (by omega)) (fun c_90 => ?_) (fun c_90 => ?_)
                · exfalso; omega
                · refine x_iload C dL_law_1729 1 rfl ?_
                  refine z_if_ne (tgt := 1738) C dL_law_1731 (by decide) (rg_of (by omega) (by omega)) (fun c_91 => ?_) (fun c_91 => ?_)
                  · refine z_iconst C dL_law_1738 ?_
                    refine z_iadd C dL_law_1739 rfl ?_
                    refine z_iast (j := 6 * w + s) C dL_law_1740 he (by omega) (by omega) (by decide) (fun μ92 hew hF93 => ?_)
                    have hn := hF93.ai hn
                    have hh := hF93.ai hh
                    have hz := hF93.ol hz
                    have hd := hF93.ai hd
                    have hy := hF93.ai hy
                    have hg := hF93.ai hg
                    have hu := hF93.ai hu
                    have hw := hF93.ai hw
                    have hs := hF93.ai hs
                    have ht := hF93.ai ht
                    have hb := hF93.ai hb
                    have hcc := hF93.ai hcc
                    have hC : (can = 1 ∧ RepC G z μ92 xa (n_answer σ (w : Int) (s : Int)) (n + 1)) ∨ (can = 0 ∧ RepC G z μ92 xa σ n) := (hC).imp (fun q => ⟨q.1, hF93.repc q.2⟩) (fun q => ⟨q.1, hF93.repc q.2⟩)
                    have he := hew
                    refine x_goto (tgt := 2027) C dL_law_1741 (by decide) ?_
                    have hns : (n_answer σ (w : Int) (s : Int)) = su σ 20 (wr (σ 20) (6 * w + s) 1) := nans_r (w := (w : Int)) (s := (s : Int)) (by (show isWd σ s = 1; omega))
                    have hta : t_answer σ (w : Int) (s : Int) = 0 := by omega
                    refine x_sub (lv' := [(0, .ref bs), (1, .ref xa), (2, .ref (A 0)), (3, .ref (A 1)), (4, .ref (A 2)), (5, .ref (A 3)), (6, .ref (A 4)), (7, .ref (A 5)), (8, .ref (A 6)), (9, .ref (A 7)), (10, .ref (A 8)), (11, .ref (A 9)), (12, .ref (A 10)), (13, .ref (A 11)), (14, .ref (A 12)), (15, .int (zI 1)), (16, .int (zI (τ : Int))), (19, .int (zI v))]) [4, 5, 6, 7, 8, 9, 10, 11, 12, 13, 14, 15, 16, 17, 18, 0, 19, 22] rfl ?_
                    exact x_wid (by omega) (by omega) (kk _ (n_answer σ (w : Int) (s : Int)) ⟨(by (rcases hC with ⟨-, h⟩ | ⟨h, -⟩; exact h; exfalso; omega)), (Kv_answer hK hta), (by (rw [nF_c (σ := σ) (σ' := (n_answer σ (w : Int) (s : Int))) rfl rfl rfl rfl]; exact hn)), hh, ⟨_, hz, hZB.c rfl⟩, (by (rw [dF_c (σ := σ) (σ' := (n_answer σ (w : Int) (s : Int))) rfl rfl rfl rfl]; exact hd)), hy, (by (rw [gF_c (σ := σ) (σ' := (n_answer σ (w : Int) (s : Int))) rfl rfl]; exact hg)), (by (rw [uF_c (σ := σ) (σ' := (n_answer σ (w : Int) (s : Int))) rfl rfl]; exact hu)), ⟨_, hw, hWR.c rfl rfl rfl rfl rfl rfl⟩, (by (rw [sF_set (σ := σ) (σ' := (n_answer σ (w : Int) (s : Int))) (w := w) (s := s) (by omega) (by (rw [hns]; rfl))]; exact hs)), (by (rw [tF_c (σ := σ) (σ' := (n_answer σ (w : Int) (s : Int))) rfl]; exact ht)), (by (rw [show (n_answer σ (w : Int) (s : Int)) 22 = σ 22 by (rw [hns]; rfl)]; exact he.wrs (by omega))), hb, _, hcc⟩)
                  · exfalso; omega
    refine x_iload C dL_law_1602 0 rfl ?_
    refine z_if_eq (tgt := 1625) C dL_law_1604 (by decide) (rg_of (by omega) (by omega)) (fun c_94 => ?_) (fun c_94 => ?_)
    · refine z_iconst C dL_law_1625 ?_
      exact J1626 _ (Or.inr ⟨rfl, fun q => by omega⟩)
    · refine x_aload C dL_law_1607 10 rfl ?_
      refine z_iconst C dL_law_1609 ?_
      refine z_iald (j := 0) C dL_law_1610 hu (by omega) (by omega) (by decide) ?_
      refine x_aload C dL_law_1611 10 rfl ?_
      refine x_iload C dL_law_1613 24 rfl ?_
      refine z_iconst C dL_law_1615 ?_
      refine z_iadd C dL_law_1616 rfl ?_
      refine z_iald (j := s + 1) C dL_law_1617 hu (by omega) (by omega) (by decide) ?_
      refine z_icmp_ne (tgt := 1625) C dL_law_1618 (by decide) (rg_of (by omega) (by omega)) (rg_of (by omega) (by omega)) (fun c_95 => ?_) (fun c_95 => ?_)
      · refine z_iconst C dL_law_1625 ?_
        exact J1626 _ (Or.inr ⟨rfl, fun q => by omega⟩)
      · refine z_iconst C dL_law_1621 ?_
        refine x_goto (tgt := 1626) C dL_law_1622 (by decide) ?_
        exact J1626 _ (Or.inl ⟨rfl, by omega, by omega⟩)
  refine x_aload_n C dL_law_1532 rfl 3 rfl ?_
  refine z_iconst C dL_law_1533 ?_
  refine z_iald (j := 1) C dL_law_1534 hn (by omega) (by omega) (by decide) ?_
  refine x_stk (stk' := [.int (zI (σ 12 0))]) (by (rfl)) ?_
  refine z_if_le (tgt := 1599) C dL_law_1535 (by decide) (rg_of (by omega) (by omega)) (fun c_96 => ?_) (fun c_96 => ?_)
  · refine z_iconst C dL_law_1599 ?_
    exact J1600 _ (Or.inr ⟨rfl, fun q => by omega⟩)
  · refine x_aload_n C dL_law_1538 rfl 3 rfl ?_
    refine z_iconst C dL_law_1539 ?_
    refine z_iald (j := 0) C dL_law_1540 hn (by omega) (by omega) (by decide) ?_
    refine x_stk (stk' := [.int (zI (σ 7 0))]) (by (rfl)) ?_
    refine z_if_le (tgt := 1599) C dL_law_1541 (by decide) (rg_of (by omega) (by omega)) (fun c_97 => ?_) (fun c_97 => ?_)
    · refine z_iconst C dL_law_1599 ?_
      exact J1600 _ (Or.inr ⟨rfl, fun q => by omega⟩)
    · have hwb : (w : Int) < σ 12 0 := by omega
      obtain ⟨e0, e1, e2, e3, e4⟩ := hWR w hwb
      have h14 := hK.1.r14 w (by omega)
      have h15 := hK.1.r15 w (by omega)
      have h16 := hK.1.r16 w (by omega)
      refine x_aload C dL_law_1544 10 rfl ?_
      refine x_iload C dL_law_1546 0 rfl ?_
      refine z_iconst C dL_law_1548 ?_
      refine z_iadd C dL_law_1549 rfl ?_
      refine z_iald (j := 5 * w + 2) C dL_law_1550 hw (by omega) (by omega) (by decide) ?_
      refine z_if_ge (tgt := 1599) C dL_law_1551 (by decide) (rg_of (by omega) (by omega)) (fun c_98 => ?_) (fun c_98 => ?_)
      · refine z_iconst C dL_law_1599 ?_
        exact J1600 _ (Or.inr ⟨rfl, fun q => by omega⟩)
      · refine x_aload C dL_law_1554 10 rfl ?_
        refine x_iload C dL_law_1556 0 rfl ?_
        refine z_iconst C dL_law_1558 ?_
        refine z_iadd C dL_law_1559 rfl ?_
        refine z_iald (j := 5 * w + 3) C dL_law_1560 hw (by omega) (by omega) (by decide) ?_
        refine z_if_ge (tgt := 1599) C dL_law_1561 (by decide) (rg_of (by omega) (by omega)) (fun c_99 => ?_) (fun c_99 => ?_)
        · refine z_iconst C dL_law_1599 ?_
          exact J1600 _ (Or.inr ⟨rfl, fun q => by omega⟩)
        · refine x_aload C dL_law_1564 10 rfl ?_
          refine x_iload C dL_law_1566 0 rfl ?_
          refine z_iconst C dL_law_1568 ?_
          refine z_iadd C dL_law_1569 rfl ?_
          refine z_iald (j := 5 * w + 1) C dL_law_1570 hw (by omega) (by omega) (by decide) ?_
          refine x_aload C dL_law_1571 8 rfl ?_
          refine z_iconst C dL_law_1573 ?_
          refine x_iload C dL_law_1574 23 rfl ?_
          refine z_imul C dL_law_1576 rfl ?_
          refine z_iald (j := 2 * s) C dL_law_1577 hg (by omega) (by omega) (by decide) ?_
          refine x_stk (stk' := [.int (zI (σ 8 s)), .int (zI (W (5 * w + 1)))]) (by (rw [gF_0])) ?_
          refine z_icmp_ne (tgt := 1599) C dL_law_1578 (by decide) (rg_of (by omega) (by omega)) (rg_of (by omega) (by omega)) (fun c_100 => ?_) (fun c_100 => ?_)
          · refine z_iconst C dL_law_1599 ?_
            exact J1600 _ (Or.inr ⟨rfl, fun q => by omega⟩)
          · refine x_aload C dL_law_1581 11 rfl ?_
            refine x_iload C dL_law_1583 22 rfl ?_
            refine z_iald (j := w) C dL_law_1585 hs (by omega) (by omega) (by decide) ?_
            refine z_i2l C dL_law_1586 ?_
            refine x_callS (n := 1) (cc9 := cells) (ss9 := slots) (rest := []) C dL_law_1587 (c_L_many (kxL E) C.st G z μ ((zI ((sF σ) w)).toInt64)) gL_law_L_many rfl (by decide +kernel) ⟨(Nat.le_of_ble_eq_true rfl), (Nat.le_of_ble_eq_true rfl)⟩ rfl rfl (Nat.le_of_ble_eq_true rfl) rfl rfl ⟨(by omega), (by omega)⟩ nX_no (fun v101 μ102 hv103 => ?_)
            obtain ⟨r104, hw107, h105, hm106⟩ := hv103
            subst hw107
            rw [hm106]
            have hv1 : r104 = b_solved σ w := h105.trans ((b6_cnt (f := fun s => σ 20 (6 * w + s)) hrf).trans (hGv.so (by omega) h7))
            have hsov := b_solved_rg hK.1 (show w < 6 by omega)
            refine x_stk (stk' := [.int (zI r104)]) rfl ?_
            refine x_iload C dL_law_1590 23 rfl ?_
            refine z_icmp_ne (tgt := 1599) C dL_law_1592 (by decide) (rg_of (by omega) (by omega)) (rg_of (by omega) (by omega)) (fun c_108 => ?_) (fun c_108 => ?_)
            · refine z_iconst C dL_law_1599 ?_
              exact J1600 _ (Or.inr ⟨rfl, fun q => by omega⟩)
            · refine z_iconst C dL_law_1595 ?_
              refine x_goto (tgt := 1600) C dL_law_1596 (by decide) ?_
              exact J1600 _ (Or.inl ⟨rfl, by omega⟩)
