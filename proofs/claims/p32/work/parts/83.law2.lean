/-! p32: the law -/
set_option maxHeartbeats 8000000 in
set_option maxRecDepth 100000 in
theorem law_stage {E : EE} {G : GG} {z : Nat} (C : Cx E G z cL_law RL wsL_law room_1 27) {cells slots : Nat} (hcs : cells + 800 ≤ room_1.cells ∧ slots + 47000 ≤ room_1.slots) {μ : Mm} {xa bs : Nat} {A : Nat → Nat} {σ : SS} {n τ : Nat} {f9 kd v : Int} {p w s : Nat} (hS : LwS G z μ xa A σ n) (hn5 : n < 512) (hv9 : 0 ≤ v ∧ v < 100000000) (hp9 : p < 64) (hw9 : (σ 12 0 = 0 ∧ w = 0) ∨ (w : Int) < σ 12 0) (hs9 : (σ 7 0 = 0 ∧ s = 0) ∨ (s : Int) < σ 7 0) (kk : ∀ (μ' : Mm) (σ' : SS), LwS G z μ' xa A σ' (n + 1) → Wx E G (cells + 800) (slots + 47000) 2027 [(0, .ref bs), (1, .ref xa), (2, .ref (A 0)), (3, .ref (A 1)), (4, .ref (A 2)), (5, .ref (A 3)), (6, .ref (A 4)), (7, .ref (A 5)), (8, .ref (A 6)), (9, .ref (A 7)), (10, .ref (A 8)), (11, .ref (A 9)), (12, .ref (A 10)), (13, .ref (A 11)), (14, .ref (A 12)), (15, .int (zI 1)), (16, .int (zI (τ : Int))), (19, .int (zI v))] [] μ') : Wx E G cells slots 683 [(0, .ref bs), (1, .ref xa), (2, .ref (A 0)), (3, .ref (A 1)), (4, .ref (A 2)), (5, .ref (A 3)), (6, .ref (A 4)), (7, .ref (A 5)), (8, .ref (A 6)), (9, .ref (A 7)), (10, .ref (A 8)), (11, .ref (A 9)), (12, .ref (A 10)), (13, .ref (A 11)), (14, .ref (A 12)), (15, .int (zI 1)), (16, .int (zI (τ : Int))), (17, .int (zI f9)), (18, .int (zI kd)), (19, .int (zI v)), (20, .int (zI (p : Int))), (21, .int (zI (w : Int))), (22, .int (zI (s : Int)))] [] μ := by
  obtain ⟨hC, hK, hn, hh, ⟨K, hz, hZB⟩, hd, hy, hg, hu, ⟨W, hw, hWR⟩, hs, ht, he, hb, C9, hcc⟩ := hS
  have hGv := hC.gv
  have h7 := hK.1.n7
  have h12 := hK.1.n12
  have h18 := hK.1.n18
  have h23 := hK.1.n23
  obtain ⟨hL26, hl5⟩ := uF_rg hK.1 (show 0 < 7 by omega)
  have hwr := wv_rg hL26 hl5
  have h110 := hK.1.r11 0 (by omega)
  have hur : (0 ≤ uF σ 0 ∧ uF σ 0 < 234881024) ∧ uF σ 0 / 33554432 = σ 11 0 := ⟨⟨hwr.1, hwr.2.1⟩, by (have e := hwr.2.2; show wv (lw σ 0) (ln σ 0) / 33554432 = σ 11 0; rw [e]; unfold ln; omega)⟩
  have h60 := hK.1.r6 0 (by omega)
  have hnr := hn_eq hK.1
  refine x_aload_n C dL_law_683 rfl 3 rfl ?_
  refine x_aload C dL_law_684 5 rfl ?_
  refine x_aload C dL_law_686 6 rfl ?_
  refine z_iconst C dL_law_688 ?_
  refine x_stk (stk' := [.int (zI ((0 : Nat) : Int)), .ref (A 4), .ref (A 3), .ref (A 1)]) rfl ?_
  refine z_iconst C dL_law_689 ?_
  refine x_callS (n := 5) (cc9 := cells) (ss9 := slots) (rest := []) C dL_law_690 (c_L_all (kxL E) C.st G z μ (A 1) (A 3) (A 4) σ n 0 (-1) hK.1 hh hd hy (by omega) (by omega)) gL_law_L_all rfl (by decide +kernel) ⟨(Nat.le_of_ble_eq_true rfl), (Nat.le_of_ble_eq_true rfl)⟩ rfl rfl (Nat.le_of_ble_eq_true rfl) rfl rfl ⟨(by omega), (by omega)⟩ nX_no (fun v1 μ2 hv3 => ?_)
  obtain ⟨r4, hw7, h5, hm6⟩ := hv3
  subst hw7
  rw [hm6]
  refine x_stk (stk' := [.long r4]) rfl ?_
  refine x_callS (n := 1) (cc9 := cells) (ss9 := slots) (rest := []) C dL_law_693 (c_L_only (kxL E) C.st G z μ r4) gL_law_L_only rfl (by decide +kernel) ⟨(Nat.le_of_ble_eq_true rfl), (Nat.le_of_ble_eq_true rfl)⟩ rfl rfl (Nat.le_of_ble_eq_true rfl) rfl rfl ⟨(by omega), (by omega)⟩ nX_no (fun v8 μ9 hv10 => ?_)
  obtain ⟨r11, hw14, h12, hm13⟩ := hv10
  subst hw14
  rw [hm13]
  have ho1 : r11 = uq (fitb σ 0 (-1)) := h12.trans (uq_cong (fun j hj => h5 j hj))
  have ho1r := uq_rg (fitb σ 0 (-1))
  refine x_stk (stk' := [.int (zI r11)]) rfl ?_
  have J722 : ∀ (can : Int) (hcan : CanI σ 0 can), Wx E G cells slots 722 [(0, .ref bs), (1, .ref xa), (2, .ref (A 0)), (3, .ref (A 1)), (4, .ref (A 2)), (5, .ref (A 3)), (6, .ref (A 4)), (7, .ref (A 5)), (8, .ref (A 6)), (9, .ref (A 7)), (10, .ref (A 8)), (11, .ref (A 9)), (12, .ref (A 10)), (13, .ref (A 11)), (14, .ref (A 12)), (15, .int (zI 1)), (16, .int (zI (τ : Int))), (17, .int (zI f9)), (18, .int (zI kd)), (19, .int (zI v)), (20, .int (zI (p : Int))), (21, .int (zI (w : Int))), (22, .int (zI (s : Int)))] [.int (zI can)] μ := by
    intro can hcan
    refine x_istore (lv' := [(23, .int (zI can)), (0, .ref bs), (1, .ref xa), (2, .ref (A 0)), (3, .ref (A 1)), (4, .ref (A 2)), (5, .ref (A 3)), (6, .ref (A 4)), (7, .ref (A 5)), (8, .ref (A 6)), (9, .ref (A 7)), (10, .ref (A 8)), (11, .ref (A 9)), (12, .ref (A 10)), (13, .ref (A 11)), (14, .ref (A 12)), (15, .int (zI 1)), (16, .int (zI (τ : Int))), (17, .int (zI f9)), (18, .int (zI kd)), (19, .int (zI v)), (20, .int (zI (p : Int))), (21, .int (zI (w : Int))), (22, .int (zI (s : Int)))]) C dL_law_722 (by decide) rfl ?_
    refine z_iconst C dL_law_724 ?_
    refine x_istore (lv' := [(24, .int (zI 0)), (23, .int (zI can)), (0, .ref bs), (1, .ref xa), (2, .ref (A 0)), (3, .ref (A 1)), (4, .ref (A 2)), (5, .ref (A 3)), (6, .ref (A 4)), (7, .ref (A 5)), (8, .ref (A 6)), (9, .ref (A 7)), (10, .ref (A 8)), (11, .ref (A 9)), (12, .ref (A 10)), (13, .ref (A 11)), (14, .ref (A 12)), (15, .int (zI 1)), (16, .int (zI (τ : Int))), (17, .int (zI f9)), (18, .int (zI kd)), (19, .int (zI v)), (20, .int (zI (p : Int))), (21, .int (zI (w : Int))), (22, .int (zI (s : Int)))]) C dL_law_725 (by decide) rfl ?_
    have L727 : ∀ (M9 : Nat) (can : Int) (k : Nat) (kz : Int) (hkz : kz = (k : Int)) (hk : (k : Int) ≤ σ 6 0) (hcn : CanI σ k can) (hM9 : 6 - k = M9), Wx E G cells slots 727 [(24, .int (zI kz)), (23, .int (zI can)), (0, .ref bs), (1, .ref xa), (2, .ref (A 0)), (3, .ref (A 1)), (4, .ref (A 2)), (5, .ref (A 3)), (6, .ref (A 4)), (7, .ref (A 5)), (8, .ref (A 6)), (9, .ref (A 7)), (10, .ref (A 8)), (11, .ref (A 9)), (12, .ref (A 10)), (13, .ref (A 11)), (14, .ref (A 12)), (15, .int (zI 1)), (16, .int (zI (τ : Int))), (17, .int (zI f9)), (18, .int (zI kd)), (19, .int (zI v)), (20, .int (zI (p : Int))), (21, .int (zI (w : Int))), (22, .int (zI (s : Int)))] [] μ := by
      intro M9
      induction M9 using Nat.strongRecOn with
      | ind M9 ih727 =>
        intro can k kz hkz hk hcn hM9
        subst hkz
        have hcr := hcn.rg
        refine x_iload C dL_law_727 0 rfl ?_
        refine x_aload C dL_law_729 8 rfl ?_
        refine z_iconst C dL_law_731 ?_
        refine z_iald (j := 0) C dL_law_732 hy (by omega) (by omega) (by decide) ?_
        refine z_icmp_ge (tgt := 771) C dL_law_733 (by decide) (rg_of (by omega) (by omega)) (rg_of (by omega) (by omega)) (fun c_15 => ?_) (fun c_15 => ?_)
        · refine x_aload_n C dL_law_771 rfl 3 rfl ?_
          refine z_iconst C dL_law_772 ?_
          refine z_iconst C dL_law_773 ?_
          refine z_iconst C dL_law_774 ?_
          refine z_iconst C dL_law_775 ?_
          refine x_callSX (n := 5) (cc9 := (cells + 6)) (ss9 := (slots + 25)) (rest := []) C dL_law_776 (c_L_does_1 (kxL E) C.st G z μ xa σ n 0 0 0 hC hK hn5 (by omega) (by omega) (by omega)) gL_law_L_does rfl (by decide +kernel) ⟨(Nat.le_of_ble_eq_true rfl), (Nat.le_of_ble_eq_true rfl)⟩ rfl rfl (Nat.le_of_ble_eq_true rfl) rfl rfl ⟨(by omega), (by omega)⟩ nX_no (fun v16 μ17 hv18 => ?_)
          obtain ⟨r19, hw22, h20⟩ := hv18
          subst hw22
          obtain ⟨hdo, hF9⟩ := h20
          have hF23 := hF9
          have hn := hF23.ai hn
          have hh := hF23.ai hh
          have hz := hF23.ol hz
          have hd := hF23.ai hd
          have hy := hF23.ai hy
          have hg := hF23.ai hg
          have hu := hF23.ai hu
          have hw := hF23.ai hw
          have hs := hF23.ai hs
          have ht := hF23.ai ht
          have he := hF23.ai he
          have hb := hF23.ai hb
          have hcc := hF23.ai hcc
          have hce := hcn.e (by omega)
          have hst9 : (can = 1 ∧ t_stage σ = 0 ∧ σ 7 0 < 6 ∧ r19 = σ 7 0) ∨ (can = 0 ∧ t_stage σ = 1 ∧ r19 = -13) := by (rcases hdo with ⟨h1, h2, -⟩ | ⟨⟨h1, h2⟩, -⟩ <;> omega)
          refine x_stk (stk' := [.int (zI r19)]) rfl ?_
          refine x_iload C dL_law_779 1 rfl ?_
          refine z_if_eq (tgt := 790) C dL_law_781 (by decide) (rg_of (by omega) (by omega)) (fun c_24 => ?_) (fun c_24 => ?_)
          · refine z_bipush C dL_law_790 (by decide) ?_
            refine z_icmp_ne (tgt := 799) C dL_law_792 (by decide) (rg_of (by omega) (by omega)) (rg_of (by omega) (by omega)) (fun c_25 => ?_) (fun c_25 => ?_)
            · exfalso; omega
            · refine z_iconst C dL_law_795 ?_
              refine x_goto (tgt := 800) C dL_law_796 (by decide) ?_
              refine x_istore (lv' := [(15, .int (zI 1)), (24, .int (zI (k : Int))), (23, .int (zI can)), (0, .ref bs), (1, .ref xa), (2, .ref (A 0)), (3, .ref (A 1)), (4, .ref (A 2)), (5, .ref (A 3)), (6, .ref (A 4)), (7, .ref (A 5)), (8, .ref (A 6)), (9, .ref (A 7)), (10, .ref (A 8)), (11, .ref (A 9)), (12, .ref (A 10)), (13, .ref (A 11)), (14, .ref (A 12)), (16, .int (zI (τ : Int))), (17, .int (zI f9)), (18, .int (zI kd)), (19, .int (zI v)), (20, .int (zI (p : Int))), (21, .int (zI (w : Int))), (22, .int (zI (s : Int)))]) C dL_law_800 (by decide) rfl ?_
              refine x_iload C dL_law_802 2 rfl ?_
              refine z_if_eq (tgt := 895) C dL_law_804 (by decide) (rg_of (by omega) (by omega)) (fun c_26 => ?_) (fun c_26 => ?_)
              · have hC : RepC G z μ17 xa σ n := by (rcases hdo with ⟨h, -⟩ | ⟨-, h⟩; exfalso; omega; exact h)
                refine x_goto (tgt := 2027) C dL_law_895 (by decide) ?_
                refine x_sub (lv' := [(0, .ref bs), (1, .ref xa), (2, .ref (A 0)), (3, .ref (A 1)), (4, .ref (A 2)), (5, .ref (A 3)), (6, .ref (A 4)), (7, .ref (A 5)), (8, .ref (A 6)), (9, .ref (A 7)), (10, .ref (A 8)), (11, .ref (A 9)), (12, .ref (A 10)), (13, .ref (A 11)), (14, .ref (A 12)), (15, .int (zI 1)), (16, .int (zI (τ : Int))), (19, .int (zI v))]) [3, 4, 5, 6, 7, 8, 9, 10, 11, 12, 13, 14, 15, 16, 17, 0, 18, 21] rfl ?_
                exact x_wid (by omega) (by omega) (kk _ σ ⟨hC.mono, hK.mono, hn, hh, ⟨_, hz, hZB⟩, hd, hy, hg, hu, ⟨_, hw, hWR⟩, hs, ht, he, hb, _, hcc⟩)
              · have hC : RepC G z μ17 xa (n_stage σ) n := by (rcases hdo with ⟨-, -, h⟩ | ⟨⟨h, -⟩, -⟩; exact h; exfalso; omega)
                obtain ⟨m, hm⟩ : ∃ m : Nat, σ 7 0 = (m : Int) := ⟨(σ 7 0).toNat, by omega⟩
                have hm7 : (σ 7 0).toNat = m := by omega
                have hts9 : t_stage σ = 0 := by omega
                have hKs := Kv_stage hK hts9
                have hG2 := hC.gv
                have e77 : n_stage σ 7 0 = σ 7 0 + 1 := by (show wr (σ 7) 0 (σ 7 0 + 1) 0 = _; exact wr_at)
                refine x_aload_n C dL_law_807 rfl 5 rfl ?_
                refine z_iconst C dL_law_808 ?_
                refine x_dup2 C dL_law_809 rfl rfl ?_
                refine z_iald (j := 0) C dL_law_810 hn (by omega) (by omega) (by decide) ?_
                refine x_stk (stk' := [.int (zI (σ 7 0)), .int (zI 0), .ref (A 0)]) (by (rfl)) ?_
                refine z_iconst C dL_law_811 ?_
                refine z_iadd C dL_law_812 rfl ?_
                refine z_iast (j := 0) C dL_law_813 hn (by omega) (by omega) (by decide) (fun μ27 hnw hF28 => ?_)
                have hh := hF28.ai hh
                have hz := hF28.ol hz
                have hd := hF28.ai hd
                have hy := hF28.ai hy
                have hg := hF28.ai hg
                have hu := hF28.ai hu
                have hw := hF28.ai hw
                have hs := hF28.ai hs
                have ht := hF28.ai ht
                have he := hF28.ai he
                have hb := hF28.ai hb
                have hcc := hF28.ai hcc
                have hC : RepC G z μ27 xa (n_stage σ) n := hF28.repc hC
                have hn := hnw
                refine z_iconst C dL_law_814 ?_
                refine x_istore (lv' := [(24, .int (zI 0)), (15, .int (zI 1)), (23, .int (zI can)), (0, .ref bs), (1, .ref xa), (2, .ref (A 0)), (3, .ref (A 1)), (4, .ref (A 2)), (5, .ref (A 3)), (6, .ref (A 4)), (7, .ref (A 5)), (8, .ref (A 6)), (9, .ref (A 7)), (10, .ref (A 8)), (11, .ref (A 9)), (12, .ref (A 10)), (13, .ref (A 11)), (14, .ref (A 12)), (16, .int (zI (τ : Int))), (17, .int (zI f9)), (18, .int (zI kd)), (19, .int (zI v)), (20, .int (zI (p : Int))), (21, .int (zI (w : Int))), (22, .int (zI (s : Int)))]) C dL_law_815 (by decide) rfl ?_
                have L817 : ∀ (M9 : Nat) (μk : Mm) (k : Nat) (kz : Int) (hkz : kz = (k : Int)) (hn : AI G μk (A 0) 3006 4 (wr (nF σ) 0 ((σ 7 0) + 1))) (hh : AI G μk (A 1) 4001 64 (σ 0)) (hz : OL G μk (A 2) 4002 K) (hd : AI G μk (A 3) 4003 35 (cpk (dF σ) (m + 1) k)) (hy : AI G μk (A 4) 4004 7 (σ 6)) (hg : AI G μk (A 5) 4005 12 (gF σ)) (hu : AI G μk (A 6) 4006 7 (uF σ)) (hw : AI G μk (A 7) 3007 30 W) (hs : AI G μk (A 8) 4008 6 (sF σ)) (ht : AI G μk (A 9) 4009 6 (tF σ)) (he : AI G μk (A 10) 4010 36 (σ 22)) (hb : AI G μk (A 11) 4011 4 (σ 19)) (hcc : AI G μk (A 12) 3010 64 C9) (hC : RepC G z μk xa (n_stage σ) n) (hk5 : k ≤ 5) (hM9 : 5 - k = M9), Wx E G (cells + 6) (slots + 25) 817 [(24, .int (zI kz)), (15, .int (zI 1)), (23, .int (zI can)), (0, .ref bs), (1, .ref xa), (2, .ref (A 0)), (3, .ref (A 1)), (4, .ref (A 2)), (5, .ref (A 3)), (6, .ref (A 4)), (7, .ref (A 5)), (8, .ref (A 6)), (9, .ref (A 7)), (10, .ref (A 8)), (11, .ref (A 9)), (12, .ref (A 10)), (13, .ref (A 11)), (14, .ref (A 12)), (16, .int (zI (τ : Int))), (17, .int (zI f9)), (18, .int (zI kd)), (19, .int (zI v)), (20, .int (zI (p : Int))), (21, .int (zI (w : Int))), (22, .int (zI (s : Int)))] [] μk := by
                  intro M9
                  induction M9 using Nat.strongRecOn with
                  | ind M9 ih817 =>
                    intro μk k kz hkz hn hh hz hd hy hg hu hw hs ht he hb hcc hC hk5 hM9
                    subst hkz
                    refine x_iload C dL_law_817 0 rfl ?_
                    refine z_iconst C dL_law_819 ?_
                    refine z_icmp_ge (tgt := 845) C dL_law_820 (by decide) (rg_of (by omega) (by omega)) (rg_of (by omega) (by omega)) (fun c_29 => ?_) (fun c_29 => ?_)
                    · refine x_aload C dL_law_845 9 rfl ?_
                      refine x_aload_n C dL_law_847 rfl 5 rfl ?_
                      refine z_iconst C dL_law_848 ?_
                      refine z_iald (j := 0) C dL_law_849 hn (by omega) (by omega) (by decide) ?_
                      refine x_stk (stk' := [.int (zI ((m + 1 : Nat) : Int)), .ref (A 4)]) (by (rw [wr_at, show σ 7 0 + 1 = ((m + 1 : Nat) : Int) by omega])) ?_
                      refine x_aload C dL_law_850 9 rfl ?_
                      refine z_iconst C dL_law_852 ?_
                      refine z_iald (j := 0) C dL_law_853 hy (by omega) (by omega) (by decide) ?_
                      refine z_iast (j := (m + 1)) C dL_law_854 hy (by omega) (by omega) (by decide) (fun μ30 hyw hF31 => ?_)
                      have hn := hF31.ai hn
                      have hh := hF31.ai hh
                      have hz := hF31.ol hz
                      have hd := hF31.ai hd
                      have hg := hF31.ai hg
                      have hu := hF31.ai hu
                      have hw := hF31.ai hw
                      have hs := hF31.ai hs
                      have ht := hF31.ai ht
                      have he := hF31.ai he
                      have hb := hF31.ai hb
                      have hcc := hF31.ai hcc
                      have hC : RepC G z μ30 xa (n_stage σ) n := hF31.repc hC
                      have hy := hyw
                      refine x_aload C dL_law_855 9 rfl ?_
                      refine z_iconst C dL_law_857 ?_
                      refine z_iconst C dL_law_858 ?_
                      refine z_iast (j := 0) C dL_law_859 hy (by omega) (by omega) (by decide) (fun μ32 hyw hF33 => ?_)
                      have hn := hF33.ai hn
                      have hh := hF33.ai hh
                      have hz := hF33.ol hz
                      have hd := hF33.ai hd
                      have hg := hF33.ai hg
                      have hu := hF33.ai hu
                      have hw := hF33.ai hw
                      have hs := hF33.ai hs
                      have ht := hF33.ai ht
                      have he := hF33.ai he
                      have hb := hF33.ai hb
                      have hcc := hF33.ai hcc
                      have hC : RepC G z μ32 xa (n_stage σ) n := hF33.repc hC
                      have hy := hyw
                      refine x_aload C dL_law_860 11 rfl ?_
                      refine x_aload_n C dL_law_862 rfl 5 rfl ?_
                      refine z_iconst C dL_law_863 ?_
                      refine z_iald (j := 0) C dL_law_864 hn (by omega) (by omega) (by decide) ?_
                      refine x_stk (stk' := [.int (zI ((m + 1 : Nat) : Int)), .ref (A 6)]) (by (rw [wr_at, show σ 7 0 + 1 = ((m + 1 : Nat) : Int) by omega])) ?_
                      refine x_aload C dL_law_865 11 rfl ?_
                      refine z_iconst C dL_law_867 ?_
                      refine z_iald (j := 0) C dL_law_868 hu (by omega) (by omega) (by decide) ?_
                      refine z_iast (j := (m + 1)) C dL_law_869 hu (by omega) (by omega) (by decide) (fun μ34 huw hF35 => ?_)
                      have hn := hF35.ai hn
                      have hh := hF35.ai hh
                      have hz := hF35.ol hz
                      have hd := hF35.ai hd
                      have hy := hF35.ai hy
                      have hg := hF35.ai hg
                      have hw := hF35.ai hw
                      have hs := hF35.ai hs
                      have ht := hF35.ai ht
                      have he := hF35.ai he
                      have hb := hF35.ai hb
                      have hcc := hF35.ai hcc
                      have hC : RepC G z μ34 xa (n_stage σ) n := hF35.repc hC
                      have hu := huw
                      refine x_aload C dL_law_870 10 rfl ?_
                      refine z_iconst C dL_law_872 ?_
                      refine x_aload_n C dL_law_873 rfl 5 rfl ?_
                      refine z_iconst C dL_law_874 ?_
                      refine z_iald (j := 0) C dL_law_875 hn (by omega) (by omega) (by decide) ?_
                      refine x_stk (stk' := [.int (zI ((m + 1 : Nat) : Int)), .int (zI 2), .ref (A 5)]) (by (rw [wr_at, show σ 7 0 + 1 = ((m + 1 : Nat) : Int) by omega])) ?_
                      refine z_imul C dL_law_876 rfl ?_
                      refine z_iconst C dL_law_877 ?_
                      refine z_isub C dL_law_878 rfl ?_
                      refine x_stk (stk' := [.int (zI ((2 * m : Nat) : Int)), .ref (A 5)]) (by rw [show (2 * ((m + 1 : Nat) : Int)) - 2 = ((2 * m : Nat) : Int) by omega]) ?_
                      refine x_aload_n C dL_law_879 rfl 6 rfl ?_
                      refine x_aload C dL_law_880 8 rfl ?_
                      refine x_aload C dL_law_882 9 rfl ?_
                      refine x_aload_n C dL_law_884 rfl 5 rfl ?_
                      refine z_iconst C dL_law_885 ?_
                      refine z_iald (j := 0) C dL_law_886 hn (by omega) (by omega) (by decide) ?_
                      refine x_stk (stk' := [.int (zI ((m + 1 : Nat) : Int)), .ref (A 4), .ref (A 3), .ref (A 1), .int (zI ((2 * m : Nat) : Int)), .ref (A 5)]) (by (rw [wr_at, show σ 7 0 + 1 = ((m + 1 : Nat) : Int) by omega])) ?_
                      refine z_iconst C dL_law_887 ?_
                      have hdS : AI G μ34 (A 3) 4003 35 (dF (n_stage σ)) := by (rw [dF_st hm, show (5 : Nat) = k by omega]; exact hd)
                      have hyS : AI G μ34 (A 4) 4004 7 (n_stage σ 6) := by (show AI G _ (A 4) 4004 7 (wr (wr (σ 6) ((σ 7 0).toNat + 1) (σ 6 0)) 0 0); rw [hm7]; exact hy)
                      refine x_callS (n := 5) (cc9 := (cells + 6)) (ss9 := (slots + 25)) (rest := [.int (zI ((2 * m : Nat) : Int)), .ref (A 5)]) C dL_law_888 (c_L_all (kxL E) C.st G z μ34 (A 1) (A 3) (A 4) (n_stage σ) n (m + 1) (-1) hKs.1 hh hdS hyS (by omega) (by omega)) gL_law_L_all rfl (by decide +kernel) ⟨(Nat.le_of_ble_eq_true rfl), (Nat.le_of_ble_eq_true rfl)⟩ rfl rfl (Nat.le_of_ble_eq_true rfl) rfl rfl ⟨(by omega), (by omega)⟩ nX_no (fun v36 μ37 hv38 => ?_)
                      obtain ⟨r39, hw42, h40, hm41⟩ := hv38
                      subst hw42
                      rw [hm41]
                      refine x_stk (stk' := [.long r39, .int (zI ((2 * m : Nat) : Int)), .ref (A 5)]) rfl ?_
                      refine x_callS (n := 1) (cc9 := (cells + 6)) (ss9 := (slots + 25)) (rest := [.int (zI ((2 * m : Nat) : Int)), .ref (A 5)]) C dL_law_891 (c_L_only (kxL E) C.st G z μ34 r39) gL_law_L_only rfl (by decide +kernel) ⟨(Nat.le_of_ble_eq_true rfl), (Nat.le_of_ble_eq_true rfl)⟩ rfl rfl (Nat.le_of_ble_eq_true rfl) rfl rfl ⟨(by omega), (by omega)⟩ nX_no (fun v43 μ44 hv45 => ?_)
                      obtain ⟨r46, hw49, h47, hm48⟩ := hv45
                      subst hw49
                      rw [hm48]
                      have hg9 : r46 = n_stage σ 8 m := h47.trans ((uq_cong (fun j hj => h40 j hj)).trans (hG2.2 m (by omega)))
                      refine x_stk (stk' := [.int (zI r46), .int (zI ((2 * m : Nat) : Int)), .ref (A 5)]) rfl ?_
                      refine z_iast (j := (2 * m)) C dL_law_894 hg (by omega) (by omega) (by decide) (fun μ50 hgw hF51 => ?_)
                      have hn := hF51.ai hn
                      have hh := hF51.ai hh
                      have hz := hF51.ol hz
                      have hd := hF51.ai hd
                      have hy := hF51.ai hy
                      have hu := hF51.ai hu
                      have hw := hF51.ai hw
                      have hs := hF51.ai hs
                      have ht := hF51.ai ht
                      have he := hF51.ai he
                      have hb := hF51.ai hb
                      have hcc := hF51.ai hcc
                      have hC : RepC G z μ50 xa (n_stage σ) n := hF51.repc hC
                      have hg := hgw
                      refine x_goto (tgt := 2027) C dL_law_895 (by decide) ?_
                      have e98 : n_stage σ 8 = wr (σ 8) (σ 7 0).toNat (uq (fitb σ 0 (-1))) := rfl
                      rw [hm7] at e98
                      have hE8 : n_stage σ 8 = wr (σ 8) m r46 := by (rw [e98] at hg9 ⊢; rw [wr_at] at hg9; rw [hg9])
                      refine x_sub (lv' := [(0, .ref bs), (1, .ref xa), (2, .ref (A 0)), (3, .ref (A 1)), (4, .ref (A 2)), (5, .ref (A 3)), (6, .ref (A 4)), (7, .ref (A 5)), (8, .ref (A 6)), (9, .ref (A 7)), (10, .ref (A 8)), (11, .ref (A 9)), (12, .ref (A 10)), (13, .ref (A 11)), (14, .ref (A 12)), (15, .int (zI 1)), (16, .int (zI (τ : Int))), (19, .int (zI v))]) [3, 4, 5, 6, 7, 8, 9, 10, 11, 12, 13, 14, 15, 16, 17, 1, 18, 21] rfl ?_
                      exact x_wid (by omega) (by omega) (kk _ (n_stage σ) ⟨hC.mono, hKs.mono, (by (rw [nF_7 (σ := σ) e77 rfl rfl rfl]; exact hn)), hh, ⟨_, hz, hZB.c rfl⟩, (by (rw [dF_st hm, show (5 : Nat) = k by omega]; exact hd)), (by (show AI G _ (A 4) 4004 7 (wr (wr (σ 6) ((σ 7 0).toNat + 1) (σ 6 0)) 0 0); rw [hm7]; exact hy)), (by (rw [gF_st (σ := σ) (m := m) (x := r46) hE8 rfl]; exact hg)), (hu.cong (uF_st hK.1 hm (by omega))), ⟨_, hw, hWR.c rfl rfl rfl rfl rfl rfl⟩, (by (rw [sF_c (σ := σ) (σ' := (n_stage σ)) rfl]; exact hs)), (by (rw [tF_c (σ := σ) (σ' := (n_stage σ)) rfl]; exact ht)), he, hb, _, hcc⟩)
                    · refine x_aload C dL_law_823 8 rfl ?_
                      refine z_iconst C dL_law_825 ?_
                      refine x_aload_n C dL_law_826 rfl 5 rfl ?_
                      refine z_iconst C dL_law_827 ?_
                      refine z_iald (j := 0) C dL_law_828 hn (by omega) (by omega) (by decide) ?_
                      refine x_stk (stk' := [.int (zI ((m + 1 : Nat) : Int)), .int (zI 5), .ref (A 3)]) (by (rw [wr_at, show σ 7 0 + 1 = ((m + 1 : Nat) : Int) by omega])) ?_
                      refine z_imul C dL_law_829 rfl ?_
                      refine x_iload C dL_law_830 0 rfl ?_
                      refine z_iadd C dL_law_832 rfl ?_
                      refine x_aload C dL_law_833 8 rfl ?_
                      refine x_iload C dL_law_835 0 rfl ?_
                      refine z_iald (j := k) C dL_law_837 hd (by omega) (by omega) (by decide) ?_
                      refine z_iast (j := 5 * (m + 1) + k) C dL_law_838 hd (by omega) (by omega) (by decide) (fun μ52 hdw hF53 => ?_)
                      have hn := hF53.ai hn
                      have hh := hF53.ai hh
                      have hz := hF53.ol hz
                      have hy := hF53.ai hy
                      have hg := hF53.ai hg
                      have hu := hF53.ai hu
                      have hw := hF53.ai hw
                      have hs := hF53.ai hs
                      have ht := hF53.ai ht
                      have he := hF53.ai he
                      have hb := hF53.ai hb
                      have hcc := hF53.ai hcc
                      have hC : RepC G z μ52 xa (n_stage σ) n := hF53.repc hC
                      have hd := hdw
                      refine z_iinc (lv' := [(24, .int (zI ((k : Int) + 1))), (15, .int (zI 1)), (23, .int (zI can)), (0, .ref bs), (1, .ref xa), (2, .ref (A 0)), (3, .ref (A 1)), (4, .ref (A 2)), (5, .ref (A 3)), (6, .ref (A 4)), (7, .ref (A 5)), (8, .ref (A 6)), (9, .ref (A 7)), (10, .ref (A 8)), (11, .ref (A 9)), (12, .ref (A 10)), (13, .ref (A 11)), (14, .ref (A 12)), (16, .int (zI (τ : Int))), (17, .int (zI f9)), (18, .int (zI kd)), (19, .int (zI v)), (20, .int (zI (p : Int))), (21, .int (zI (w : Int))), (22, .int (zI (s : Int)))]) C dL_law_839 0 rfl rfl (by decide) rfl ?_
                      refine x_goto (tgt := 817) C dL_law_842 (by decide) ?_
                      have hd : AI G μ52 (A 3) 4003 35 (cpk (dF σ) (m + 1) (k + 1)) := by (rw [← cpk_s (by omega) (by omega)]; exact hd)
                      exact ih817 _ (by omega) _ (k + 1) _ (by omega) hn hh hz hd hy hg hu hw hs ht he hb hcc hC (by omega) rfl
                have hd : AI G μ27 (A 3) 4003 35 (cpk (dF σ) (m + 1) 0) := by (rw [cpk_0]; exact hd)
                exact L817 _ _ (0) _ (by omega) hn hh hz hd hy hg hu hw hs ht he hb hcc hC (by omega) rfl
          · refine x_aload_n C dL_law_784 rfl 4 rfl ?_
            refine z_iconst C dL_law_785 ?_
            refine z_iald (j := 0) C dL_law_786 hn (by omega) (by omega) (by decide) ?_
            refine x_stk (stk' := [.int (zI (σ 7 0)), .int (zI r19)]) (by (rfl)) ?_
            refine x_goto (tgt := 792) C dL_law_787 (by decide) ?_
            refine z_icmp_ne (tgt := 799) C dL_law_792 (by decide) (rg_of (by omega) (by omega)) (rg_of (by omega) (by omega)) (fun c_54 => ?_) (fun c_54 => ?_)
            · exfalso; omega
            · refine z_iconst C dL_law_795 ?_
              refine x_goto (tgt := 800) C dL_law_796 (by decide) ?_
              refine x_istore (lv' := [(15, .int (zI 1)), (24, .int (zI (k : Int))), (23, .int (zI can)), (0, .ref bs), (1, .ref xa), (2, .ref (A 0)), (3, .ref (A 1)), (4, .ref (A 2)), (5, .ref (A 3)), (6, .ref (A 4)), (7, .ref (A 5)), (8, .ref (A 6)), (9, .ref (A 7)), (10, .ref (A 8)), (11, .ref (A 9)), (12, .ref (A 10)), (13, .ref (A 11)), (14, .ref (A 12)), (16, .int (zI (τ : Int))), (17, .int (zI f9)), (18, .int (zI kd)), (19, .int (zI v)), (20, .int (zI (p : Int))), (21, .int (zI (w : Int))), (22, .int (zI (s : Int)))]) C dL_law_800 (by decide) rfl ?_
              refine x_iload C dL_law_802 2 rfl ?_
              refine z_if_eq (tgt := 895) C dL_law_804 (by decide) (rg_of (by omega) (by omega)) (fun c_55 => ?_) (fun c_55 => ?_)
              · have hC : RepC G z μ17 xa σ n := by (rcases hdo with ⟨h, -⟩ | ⟨-, h⟩; exfalso; omega; exact h)
                refine x_goto (tgt := 2027) C dL_law_895 (by decide) ?_
                refine x_sub (lv' := [(0, .ref bs), (1, .ref xa), (2, .ref (A 0)), (3, .ref (A 1)), (4, .ref (A 2)), (5, .ref (A 3)), (6, .ref (A 4)), (7, .ref (A 5)), (8, .ref (A 6)), (9, .ref (A 7)), (10, .ref (A 8)), (11, .ref (A 9)), (12, .ref (A 10)), (13, .ref (A 11)), (14, .ref (A 12)), (15, .int (zI 1)), (16, .int (zI (τ : Int))), (19, .int (zI v))]) [3, 4, 5, 6, 7, 8, 9, 10, 11, 12, 13, 14, 15, 16, 17, 0, 18, 21] rfl ?_
                exact x_wid (by omega) (by omega) (kk _ σ ⟨hC.mono, hK.mono, hn, hh, ⟨_, hz, hZB⟩, hd, hy, hg, hu, ⟨_, hw, hWR⟩, hs, ht, he, hb, _, hcc⟩)
              · have hC : RepC G z μ17 xa (n_stage σ) n := by (rcases hdo with ⟨-, -, h⟩ | ⟨⟨h, -⟩, -⟩; exact h; exfalso; omega)
                obtain ⟨m, hm⟩ : ∃ m : Nat, σ 7 0 = (m : Int) := ⟨(σ 7 0).toNat, by omega⟩
                have hm7 : (σ 7 0).toNat = m := by omega
                have hts9 : t_stage σ = 0 := by omega
                have hKs := Kv_stage hK hts9
                have hG2 := hC.gv
                have e77 : n_stage σ 7 0 = σ 7 0 + 1 := by (show wr (σ 7) 0 (σ 7 0 + 1) 0 = _; exact wr_at)
                refine x_aload_n C dL_law_807 rfl 5 rfl ?_
                refine z_iconst C dL_law_808 ?_
                refine x_dup2 C dL_law_809 rfl rfl ?_
                refine z_iald (j := 0) C dL_law_810 hn (by omega) (by omega) (by decide) ?_
                refine x_stk (stk' := [.int (zI (σ 7 0)), .int (zI 0), .ref (A 0)]) (by (rfl)) ?_
                refine z_iconst C dL_law_811 ?_
                refine z_iadd C dL_law_812 rfl ?_
                refine z_iast (j := 0) C dL_law_813 hn (by omega) (by omega) (by decide) (fun μ56 hnw hF57 => ?_)
                have hh := hF57.ai hh
                have hz := hF57.ol hz
                have hd := hF57.ai hd
                have hy := hF57.ai hy
                have hg := hF57.ai hg
                have hu := hF57.ai hu
                have hw := hF57.ai hw
                have hs := hF57.ai hs
                have ht := hF57.ai ht
                have he := hF57.ai he
                have hb := hF57.ai hb
                have hcc := hF57.ai hcc
                have hC : RepC G z μ56 xa (n_stage σ) n := hF57.repc hC
                have hn := hnw
                refine z_iconst C dL_law_814 ?_
                refine x_istore (lv' := [(24, .int (zI 0)), (15, .int (zI 1)), (23, .int (zI can)), (0, .ref bs), (1, .ref xa), (2, .ref (A 0)), (3, .ref (A 1)), (4, .ref (A 2)), (5, .ref (A 3)), (6, .ref (A 4)), (7, .ref (A 5)), (8, .ref (A 6)), (9, .ref (A 7)), (10, .ref (A 8)), (11, .ref (A 9)), (12, .ref (A 10)), (13, .ref (A 11)), (14, .ref (A 12)), (16, .int (zI (τ : Int))), (17, .int (zI f9)), (18, .int (zI kd)), (19, .int (zI v)), (20, .int (zI (p : Int))), (21, .int (zI (w : Int))), (22, .int (zI (s : Int)))]) C dL_law_815 (by decide) rfl ?_
                have L817 : ∀ (M9 : Nat) (μk : Mm) (k : Nat) (kz : Int) (hkz : kz = (k : Int)) (hn : AI G μk (A 0) 3006 4 (wr (nF σ) 0 ((σ 7 0) + 1))) (hh : AI G μk (A 1) 4001 64 (σ 0)) (hz : OL G μk (A 2) 4002 K) (hd : AI G μk (A 3) 4003 35 (cpk (dF σ) (m + 1) k)) (hy : AI G μk (A 4) 4004 7 (σ 6)) (hg : AI G μk (A 5) 4005 12 (gF σ)) (hu : AI G μk (A 6) 4006 7 (uF σ)) (hw : AI G μk (A 7) 3007 30 W) (hs : AI G μk (A 8) 4008 6 (sF σ)) (ht : AI G μk (A 9) 4009 6 (tF σ)) (he : AI G μk (A 10) 4010 36 (σ 22)) (hb : AI G μk (A 11) 4011 4 (σ 19)) (hcc : AI G μk (A 12) 3010 64 C9) (hC : RepC G z μk xa (n_stage σ) n) (hk5 : k ≤ 5) (hM9 : 5 - k = M9), Wx E G (cells + 6) (slots + 25) 817 [(24, .int (zI kz)), (15, .int (zI 1)), (23, .int (zI can)), (0, .ref bs), (1, .ref xa), (2, .ref (A 0)), (3, .ref (A 1)), (4, .ref (A 2)), (5, .ref (A 3)), (6, .ref (A 4)), (7, .ref (A 5)), (8, .ref (A 6)), (9, .ref (A 7)), (10, .ref (A 8)), (11, .ref (A 9)), (12, .ref (A 10)), (13, .ref (A 11)), (14, .ref (A 12)), (16, .int (zI (τ : Int))), (17, .int (zI f9)), (18, .int (zI kd)), (19, .int (zI v)), (20, .int (zI (p : Int))), (21, .int (zI (w : Int))), (22, .int (zI (s : Int)))] [] μk := by
                  intro M9
                  induction M9 using Nat.strongRecOn with
                  | ind M9 ih817 =>
                    intro μk k kz hkz hn hh hz hd hy hg hu hw hs ht he hb hcc hC hk5 hM9
                    subst hkz
                    refine x_iload C dL_law_817 0 rfl ?_
                    refine z_iconst C dL_law_819 ?_
                    refine z_icmp_ge (tgt := 845) C dL_law_820 (by decide) (rg_of (by omega) (by omega)) (rg_of (by omega) (by omega)) (fun c_58 => ?_) (fun c_58 => ?_)
                    · refine x_aload C dL_law_845 9 rfl ?_
                      refine x_aload_n C dL_law_847 rfl 5 rfl ?_
                      refine z_iconst C dL_law_848 ?_
                      refine z_iald (j := 0) C dL_law_849 hn (by omega) (by omega) (by decide) ?_
                      refine x_stk (stk' := [.int (zI ((m + 1 : Nat) : Int)), .ref (A 4)]) (by (rw [wr_at, show σ 7 0 + 1 = ((m + 1 : Nat) : Int) by omega])) ?_
                      refine x_aload C dL_law_850 9 rfl ?_
                      refine z_iconst C dL_law_852 ?_
                      refine z_iald (j := 0) C dL_law_853 hy (by omega) (by omega) (by decide) ?_
                      refine z_iast (j := (m + 1)) C dL_law_854 hy (by omega) (by omega) (by decide) (fun μ59 hyw hF60 => ?_)
                      have hn := hF60.ai hn
                      have hh := hF60.ai hh
                      have hz := hF60.ol hz
                      have hd := hF60.ai hd
                      have hg := hF60.ai hg
                      have hu := hF60.ai hu
                      have hw := hF60.ai hw
                      have hs := hF60.ai hs
                      have ht := hF60.ai ht
                      have he := hF60.ai he
                      have hb := hF60.ai hb
                      have hcc := hF60.ai hcc
                      have hC : RepC G z μ59 xa (n_stage σ) n := hF60.repc hC
                      have hy := hyw
                      refine x_aload C dL_law_855 9 rfl ?_
                      refine z_iconst C dL_law_857 ?_
                      refine z_iconst C dL_law_858 ?_
                      refine z_iast (j := 0) C dL_law_859 hy (by omega) (by omega) (by decide) (fun μ61 hyw hF62 => ?_)
                      have hn := hF62.ai hn
                      have hh := hF62.ai hh
                      have hz := hF62.ol hz
                      have hd := hF62.ai hd
                      have hg := hF62.ai hg
                      have hu := hF62.ai hu
                      have hw := hF62.ai hw
                      have hs := hF62.ai hs
                      have ht := hF62.ai ht
                      have he := hF62.ai he
                      have hb := hF62.ai hb
                      have hcc := hF62.ai hcc
                      have hC : RepC G z μ61 xa (n_stage σ) n := hF62.repc hC
                      have hy := hyw
                      refine x_aload C dL_law_860 11 rfl ?_
                      refine x_aload_n C dL_law_862 rfl 5 rfl ?_
                      refine z_iconst C dL_law_863 ?_
                      refine z_iald (j := 0) C dL_law_864 hn (by omega) (by omega) (by decide) ?_
                      refine x_stk (stk' := [.int (zI ((m + 1 : Nat) : Int)), .ref (A 6)]) (by (rw [wr_at, show σ 7 0 + 1 = ((m + 1 : Nat) : Int) by omega])) ?_
                      refine x_aload C dL_law_865 11 rfl ?_
                      refine z_iconst C dL_law_867 ?_
                      refine z_iald (j := 0) C dL_law_868 hu (by omega) (by omega) (by decide) ?_
                      refine z_iast (j := (m + 1)) C dL_law_869 hu (by omega) (by omega) (by decide) (fun μ63 huw hF64 => ?_)
                      have hn := hF64.ai hn
                      have hh := hF64.ai hh
                      have hz := hF64.ol hz
                      have hd := hF64.ai hd
                      have hy := hF64.ai hy
                      have hg := hF64.ai hg
                      have hw := hF64.ai hw
                      have hs := hF64.ai hs
                      have ht := hF64.ai ht
                      have he := hF64.ai he
                      have hb := hF64.ai hb
                      have hcc := hF64.ai hcc
                      have hC : RepC G z μ63 xa (n_stage σ) n := hF64.repc hC
                      have hu := huw
                      refine x_aload C dL_law_870 10 rfl ?_
                      refine z_iconst C dL_law_872 ?_
                      refine x_aload_n C dL_law_873 rfl 5 rfl ?_
                      refine z_iconst C dL_law_874 ?_
                      refine z_iald (j := 0) C dL_law_875 hn (by omega) (by omega) (by decide) ?_
                      refine x_stk (stk' := [.int (zI ((m + 1 : Nat) : Int)), .int (zI 2), .ref (A 5)]) (by (rw [wr_at, show σ 7 0 + 1 = ((m + 1 : Nat) : Int) by omega])) ?_
                      refine z_imul C dL_law_876 rfl ?_
                      refine z_iconst C dL_law_877 ?_
                      refine z_isub C dL_law_878 rfl ?_
                      refine x_stk (stk' := [.int (zI ((2 * m : Nat) : Int)), .ref (A 5)]) (by rw [show (2 * ((m + 1 : Nat) : Int)) - 2 = ((2 * m : Nat) : Int) by omega]) ?_
                      refine x_aload_n C dL_law_879 rfl 6 rfl ?_
                      refine x_aload C dL_law_880 8 rfl ?_
                      refine x_aload C dL_law_882 9 rfl ?_
                      refine x_aload_n C dL_law_884 rfl 5 rfl ?_
                      refine z_iconst C dL_law_885 ?_
                      refine z_iald (j := 0) C dL_law_886 hn (by omega) (by omega) (by decide) ?_
                      refine x_stk (stk' := [.int (zI ((m + 1 : Nat) : Int)), .ref (A 4), .ref (A 3), .ref (A 1), .int (zI ((2 * m : Nat) : Int)), .ref (A 5)]) (by (rw [wr_at, show σ 7 0 + 1 = ((m + 1 : Nat) : Int) by omega])) ?_
                      refine z_iconst C dL_law_887 ?_
                      have hdS : AI G μ63 (A 3) 4003 35 (dF (n_stage σ)) := by (rw [dF_st hm, show (5 : Nat) = k by omega]; exact hd)
                      have hyS : AI G μ63 (A 4) 4004 7 (n_stage σ 6) := by (show AI G _ (A 4) 4004 7 (wr (wr (σ 6) ((σ 7 0).toNat + 1) (σ 6 0)) 0 0); rw [hm7]; exact hy)
                      refine x_callS (n := 5) (cc9 := (cells + 6)) (ss9 := (slots + 25)) (rest := [.int (zI ((2 * m : Nat) : Int)), .ref (A 5)]) C dL_law_888 (c_L_all (kxL E) C.st G z μ63 (A 1) (A 3) (A 4) (n_stage σ) n (m + 1) (-1) hKs.1 hh hdS hyS (by omega) (by omega)) gL_law_L_all rfl (by decide +kernel) ⟨(Nat.le_of_ble_eq_true rfl), (Nat.le_of_ble_eq_true rfl)⟩ rfl rfl (Nat.le_of_ble_eq_true rfl) rfl rfl ⟨(by omega), (by omega)⟩ nX_no (fun v65 μ66 hv67 => ?_)
                      obtain ⟨r68, hw71, h69, hm70⟩ := hv67
                      subst hw71
                      rw [hm70]
                      refine x_stk (stk' := [.long r68, .int (zI ((2 * m : Nat) : Int)), .ref (A 5)]) rfl ?_
                      refine x_callS (n := 1) (cc9 := (cells + 6)) (ss9 := (slots + 25)) (rest := [.int (zI ((2 * m : Nat) : Int)), .ref (A 5)]) C dL_law_891 (c_L_only (kxL E) C.st G z μ63 r68) gL_law_L_only rfl (by decide +kernel) ⟨(Nat.le_of_ble_eq_true rfl), (Nat.le_of_ble_eq_true rfl)⟩ rfl rfl (Nat.le_of_ble_eq_true rfl) rfl rfl ⟨(by omega), (by omega)⟩ nX_no (fun v72 μ73 hv74 => ?_)
                      obtain ⟨r75, hw78, h76, hm77⟩ := hv74
                      subst hw78
                      rw [hm77]
                      have hg9 : r75 = n_stage σ 8 m := h76.trans ((uq_cong (fun j hj => h69 j hj)).trans (hG2.2 m (by omega)))
                      refine x_stk (stk' := [.int (zI r75), .int (zI ((2 * m : Nat) : Int)), .ref (A 5)]) rfl ?_
                      refine z_iast (j := (2 * m)) C dL_law_894 hg (by omega) (by omega) (by decide) (fun μ79 hgw hF80 => ?_)
                      have hn := hF80.ai hn
                      have hh := hF80.ai hh
                      have hz := hF80.ol hz
                      have hd := hF80.ai hd
                      have hy := hF80.ai hy
                      have hu := hF80.ai hu
                      have hw := hF80.ai hw
                      have hs := hF80.ai hs
                      have ht := hF80.ai ht
                      have he := hF80.ai he
                      have hb := hF80.ai hb
                      have hcc := hF80.ai hcc
                      have hC : RepC G z μ79 xa (n_stage σ) n := hF80.repc hC
                      have hg := hgw
                      refine x_goto (tgt := 2027) C dL_law_895 (by decide) ?_
                      have e98 : n_stage σ 8 = wr (σ 8) (σ 7 0).toNat (uq (fitb σ 0 (-1))) := rfl
                      rw [hm7] at e98
                      have hE8 : n_stage σ 8 = wr (σ 8) m r75 := by (rw [e98] at hg9 ⊢; rw [wr_at] at hg9; rw [hg9])
                      refine x_sub (lv' := [(0, .ref bs), (1, .ref xa), (2, .ref (A 0)), (3, .ref (A 1)), (4, .ref (A 2)), (5, .ref (A 3)), (6, .ref (A 4)), (7, .ref (A 5)), (8, .ref (A 6)), (9, .ref (A 7)), (10, .ref (A 8)), (11, .ref (A 9)), (12, .ref (A 10)), (13, .ref (A 11)), (14, .ref (A 12)), (15, .int (zI 1)), (16, .int (zI (τ : Int))), (19, .int (zI v))]) [3, 4, 5, 6, 7, 8, 9, 10, 11, 12, 13, 14, 15, 16, 17, 1, 18, 21] rfl ?_
                      exact x_wid (by omega) (by omega) (kk _ (n_stage σ) ⟨hC.mono, hKs.mono, (by (rw [nF_7 (σ := σ) e77 rfl rfl rfl]; exact hn)), hh, ⟨_, hz, hZB.c rfl⟩, (by (rw [dF_st hm, show (5 : Nat) = k by omega]; exact hd)), (by (show AI G _ (A 4) 4004 7 (wr (wr (σ 6) ((σ 7 0).toNat + 1) (σ 6 0)) 0 0); rw [hm7]; exact hy)), (by (rw [gF_st (σ := σ) (m := m) (x := r75) hE8 rfl]; exact hg)), (hu.cong (uF_st hK.1 hm (by omega))), ⟨_, hw, hWR.c rfl rfl rfl rfl rfl rfl⟩, (by (rw [sF_c (σ := σ) (σ' := (n_stage σ)) rfl]; exact hs)), (by (rw [tF_c (σ := σ) (σ' := (n_stage σ)) rfl]; exact ht)), he, hb, _, hcc⟩)
                    · refine x_aload C dL_law_823 8 rfl ?_
                      refine z_iconst C dL_law_825 ?_
                      refine x_aload_n C dL_law_826 rfl 5 rfl ?_
                      refine z_iconst C dL_law_827 ?_
                      refine z_iald (j := 0) C dL_law_828 hn (by omega) (by omega) (by decide) ?_
                      refine x_stk (stk' := [.int (zI ((m + 1 : Nat) : Int)), .int (zI 5), .ref (A 3)]) (by (rw [wr_at, show σ 7 0 + 1 = ((m + 1 : Nat) : Int) by omega])) ?_
                      refine z_imul C dL_law_829 rfl ?_
                      refine x_iload C dL_law_830 0 rfl ?_
                      refine z_iadd C dL_law_832 rfl ?_
                      refine x_aload C dL_law_833 8 rfl ?_
                      refine x_iload C dL_law_835 0 rfl ?_
                      refine z_iald (j := k) C dL_law_837 hd (by omega) (by omega) (by decide) ?_
                      refine z_iast (j := 5 * (m + 1) + k) C dL_law_838 hd (by omega) (by omega) (by decide) (fun μ81 hdw hF82 => ?_)
                      have hn := hF82.ai hn
                      have hh := hF82.ai hh
                      have hz := hF82.ol hz
                      have hy := hF82.ai hy
                      have hg := hF82.ai hg
                      have hu := hF82.ai hu
                      have hw := hF82.ai hw
                      have hs := hF82.ai hs
                      have ht := hF82.ai ht
                      have he := hF82.ai he
                      have hb := hF82.ai hb
                      have hcc := hF82.ai hcc
                      have hC : RepC G z μ81 xa (n_stage σ) n := hF82.repc hC
                      have hd := hdw
                      refine z_iinc (lv' := [(24, .int (zI ((k : Int) + 1))), (15, .int (zI 1)), (23, .int (zI can)), (0, .ref bs), (1, .ref xa), (2, .ref (A 0)), (3, .ref (A 1)), (4, .ref (A 2)), (5, .ref (A 3)), (6, .ref (A 4)), (7, .ref (A 5)), (8, .ref (A 6)), (9, .ref (A 7)), (10, .ref (A 8)), (11, .ref (A 9)), (12, .ref (A 10)), (13, .ref (A 11)), (14, .ref (A 12)), (16, .int (zI (τ : Int))), (17, .int (zI f9)), (18, .int (zI kd)), (19, .int (zI v)), (20, .int (zI (p : Int))), (21, .int (zI (w : Int))), (22, .int (zI (s : Int)))]) C dL_law_839 0 rfl rfl (by decide) rfl ?_
                      refine x_goto (tgt := 817) C dL_law_842 (by decide) ?_
                      have hd : AI G μ81 (A 3) 4003 35 (cpk (dF σ) (m + 1) (k + 1)) := by (rw [← cpk_s (by omega) (by omega)]; exact hd)
                      exact ih817 _ (by omega) _ (k + 1) _ (by omega) hn hh hz hd hy hg hu hw hs ht he hb hcc hC (by omega) rfl
                have hd : AI G μ56 (A 3) 4003 35 (cpk (dF σ) (m + 1) 0) := by (rw [cpk_0]; exact hd)
                exact L817 _ _ (0) _ (by omega) hn hh hz hd hy hg hu hw hs ht he hb hcc hC (by omega) rfl
        · refine x_iload C dL_law_736 1 rfl ?_
          refine z_if_eq (tgt := 762) C dL_law_738 (by decide) (rg_of (by omega) (by omega)) (fun c_83 => ?_) (fun c_83 => ?_)
          · refine z_iconst C dL_law_762 ?_
            refine x_istore (lv' := [(23, .int (zI 0)), (24, .int (zI (k : Int))), (0, .ref bs), (1, .ref xa), (2, .ref (A 0)), (3, .ref (A 1)), (4, .ref (A 2)), (5, .ref (A 3)), (6, .ref (A 4)), (7, .ref (A 5)), (8, .ref (A 6)), (9, .ref (A 7)), (10, .ref (A 8)), (11, .ref (A 9)), (12, .ref (A 10)), (13, .ref (A 11)), (14, .ref (A 12)), (15, .int (zI 1)), (16, .int (zI (τ : Int))), (17, .int (zI f9)), (18, .int (zI kd)), (19, .int (zI v)), (20, .int (zI (p : Int))), (21, .int (zI (w : Int))), (22, .int (zI (s : Int)))]) C dL_law_763 (by decide) rfl ?_
            refine z_iinc (lv' := [(24, .int (zI ((k : Int) + 1))), (23, .int (zI 0)), (0, .ref bs), (1, .ref xa), (2, .ref (A 0)), (3, .ref (A 1)), (4, .ref (A 2)), (5, .ref (A 3)), (6, .ref (A 4)), (7, .ref (A 5)), (8, .ref (A 6)), (9, .ref (A 7)), (10, .ref (A 8)), (11, .ref (A 9)), (12, .ref (A 10)), (13, .ref (A 11)), (14, .ref (A 12)), (15, .int (zI 1)), (16, .int (zI (τ : Int))), (17, .int (zI f9)), (18, .int (zI kd)), (19, .int (zI v)), (20, .int (zI (p : Int))), (21, .int (zI (w : Int))), (22, .int (zI (s : Int)))]) C dL_law_765 1 rfl rfl (by decide) rfl ?_
            refine x_goto (tgt := 727) C dL_law_768 (by decide) ?_
            exact ih727 _ (by omega) _ (k + 1) _ (by omega) (by omega) (CanI_n hcn (by omega) (Or.inl (by omega))) rfl
          · refine x_aload_n C dL_law_741 rfl 5 rfl ?_
            refine x_aload C dL_law_742 7 rfl ?_
            refine x_aload C dL_law_744 8 rfl ?_
            refine z_iconst C dL_law_746 ?_
            refine x_stk (stk' := [.int (zI ((0 : Nat) : Int)), .ref (A 4), .ref (A 3), .ref (A 1)]) rfl ?_
            refine x_iload C dL_law_747 0 rfl ?_
            refine x_callS (n := 5) (cc9 := cells) (ss9 := slots) (rest := []) C dL_law_749 (c_L_all (kxL E) C.st G z μ (A 1) (A 3) (A 4) σ n 0 (k : Int) hK.1 hh hd hy (by omega) (by omega)) gL_law_L_all rfl (by decide +kernel) ⟨(Nat.le_of_ble_eq_true rfl), (Nat.le_of_ble_eq_true rfl)⟩ rfl rfl (Nat.le_of_ble_eq_true rfl) rfl rfl ⟨(by omega), (by omega)⟩ nX_no (fun v84 μ85 hv86 => ?_)
            obtain ⟨r87, hw90, h88, hm89⟩ := hv86
            subst hw90
            rw [hm89]
            refine x_stk (stk' := [.long r87]) rfl ?_
            refine x_callS (n := 1) (cc9 := cells) (ss9 := slots) (rest := []) C dL_law_752 (c_L_only (kxL E) C.st G z μ r87) gL_law_L_only rfl (by decide +kernel) ⟨(Nat.le_of_ble_eq_true rfl), (Nat.le_of_ble_eq_true rfl)⟩ rfl rfl (Nat.le_of_ble_eq_true rfl) rfl rfl ⟨(by omega), (by omega)⟩ nX_no (fun v91 μ92 hv93 => ?_)
            obtain ⟨r94, hw97, h95, hm96⟩ := hv93
            subst hw97
            rw [hm96]
            have ho2 : r94 = uq (fitb σ 0 (k : Int)) := h95.trans (uq_cong (fun j hj => h88 j hj))
            have ho2r := uq_rg (fitb σ 0 (k : Int))
            refine x_stk (stk' := [.int (zI r94)]) rfl ?_
            refine z_if_ge (tgt := 762) C dL_law_755 (by decide) (rg_of (by omega) (by omega)) (fun c_98 => ?_) (fun c_98 => ?_)
            · refine z_iconst C dL_law_762 ?_
              refine x_istore (lv' := [(23, .int (zI 0)), (24, .int (zI (k : Int))), (0, .ref bs), (1, .ref xa), (2, .ref (A 0)), (3, .ref (A 1)), (4, .ref (A 2)), (5, .ref (A 3)), (6, .ref (A 4)), (7, .ref (A 5)), (8, .ref (A 6)), (9, .ref (A 7)), (10, .ref (A 8)), (11, .ref (A 9)), (12, .ref (A 10)), (13, .ref (A 11)), (14, .ref (A 12)), (15, .int (zI 1)), (16, .int (zI (τ : Int))), (17, .int (zI f9)), (18, .int (zI kd)), (19, .int (zI v)), (20, .int (zI (p : Int))), (21, .int (zI (w : Int))), (22, .int (zI (s : Int)))]) C dL_law_763 (by decide) rfl ?_
              refine z_iinc (lv' := [(24, .int (zI ((k : Int) + 1))), (23, .int (zI 0)), (0, .ref bs), (1, .ref xa), (2, .ref (A 0)), (3, .ref (A 1)), (4, .ref (A 2)), (5, .ref (A 3)), (6, .ref (A 4)), (7, .ref (A 5)), (8, .ref (A 6)), (9, .ref (A 7)), (10, .ref (A 8)), (11, .ref (A 9)), (12, .ref (A 10)), (13, .ref (A 11)), (14, .ref (A 12)), (15, .int (zI 1)), (16, .int (zI (τ : Int))), (17, .int (zI f9)), (18, .int (zI kd)), (19, .int (zI v)), (20, .int (zI (p : Int))), (21, .int (zI (w : Int))), (22, .int (zI (s : Int)))]) C dL_law_765 1 rfl rfl (by decide) rfl ?_
              refine x_goto (tgt := 727) C dL_law_768 (by decide) ?_
              exact ih727 _ (by omega) _ (k + 1) _ (by omega) (by omega) (CanI_n hcn (by omega) (Or.inr (uq_m1.mp (by omega)))) rfl
            · refine z_iconst C dL_law_758 ?_
              refine x_goto (tgt := 763) C dL_law_759 (by decide) ?_
              refine x_istore (lv' := [(23, .int (zI 1)), (24, .int (zI (k : Int))), (0, .ref bs), (1, .ref xa), (2, .ref (A 0)), (3, .ref (A 1)), (4, .ref (A 2)), (5, .ref (A 3)), (6, .ref (A 4)), (7, .ref (A 5)), (8, .ref (A 6)), (9, .ref (A 7)), (10, .ref (A 8)), (11, .ref (A 9)), (12, .ref (A 10)), (13, .ref (A 11)), (14, .ref (A 12)), (15, .int (zI 1)), (16, .int (zI (τ : Int))), (17, .int (zI f9)), (18, .int (zI kd)), (19, .int (zI v)), (20, .int (zI (p : Int))), (21, .int (zI (w : Int))), (22, .int (zI (s : Int)))]) C dL_law_763 (by decide) rfl ?_
              refine z_iinc (lv' := [(24, .int (zI ((k : Int) + 1))), (23, .int (zI 1)), (0, .ref bs), (1, .ref xa), (2, .ref (A 0)), (3, .ref (A 1)), (4, .ref (A 2)), (5, .ref (A 3)), (6, .ref (A 4)), (7, .ref (A 5)), (8, .ref (A 6)), (9, .ref (A 7)), (10, .ref (A 8)), (11, .ref (A 9)), (12, .ref (A 10)), (13, .ref (A 11)), (14, .ref (A 12)), (15, .int (zI 1)), (16, .int (zI (τ : Int))), (17, .int (zI f9)), (18, .int (zI kd)), (19, .int (zI v)), (20, .int (zI (p : Int))), (21, .int (zI (w : Int))), (22, .int (zI (s : Int)))]) C dL_law_765 1 rfl rfl (by decide) rfl ?_
              refine x_goto (tgt := 727) C dL_law_768 (by decide) ?_
              exact ih727 _ (by omega) _ (k + 1) _ (by omega) (by omega) (CanI_y hcn (by omega) (fun q => by (have h9 := uq_m1.mpr q; omega))) rfl
    exact L727 _ _ (0) _ (by omega) (by omega) hcan rfl
  refine z_if_lt (tgt := 721) C dL_law_696 (by decide) (rg_of (by omega) (by omega)) (fun c_99 => ?_) (fun c_99 => ?_)
  · refine z_iconst C dL_law_721 ?_
    exact J722 _ (CanI_0 (Or.inr ⟨rfl, fun q => by omega⟩))
  · refine x_aload C dL_law_699 8 rfl ?_
    refine z_iconst C dL_law_701 ?_
    refine z_iald (j := 0) C dL_law_702 hu (by omega) (by omega) (by decide) ?_
    refine z_bipush C dL_law_703 (by decide) ?_
    refine z_ishr (v := ((uF σ) 0) / 33554432) C 25 dL_law_705 (by omega) (by omega) rfl (by omega) rfl ?_
    refine z_if_le (tgt := 721) C dL_law_706 (by decide) (rg_of (by omega) (by omega)) (fun c_100 => ?_) (fun c_100 => ?_)
    · refine z_iconst C dL_law_721 ?_
      exact J722 _ (CanI_0 (Or.inr ⟨rfl, fun q => by omega⟩))
    · refine x_aload_n C dL_law_709 rfl 2 rfl ?_
      refine z_iconst C dL_law_710 ?_
      refine z_iald (j := 0) C dL_law_711 hn (by omega) (by omega) (by decide) ?_
      refine x_stk (stk' := [.int (zI (σ 7 0))]) (by (rfl)) ?_
      refine z_bipush C dL_law_712 (by decide) ?_
      refine z_icmp_ge (tgt := 721) C dL_law_714 (by decide) (rg_of (by omega) (by omega)) (rg_of (by omega) (by omega)) (fun c_101 => ?_) (fun c_101 => ?_)
      · refine z_iconst C dL_law_721 ?_
        exact J722 _ (CanI_0 (Or.inr ⟨rfl, fun q => by omega⟩))
      · refine z_iconst C dL_law_717 ?_
        refine x_goto (tgt := 722) C dL_law_718 (by decide) ?_
        exact J722 _ (CanI_0 (Or.inl ⟨rfl, by omega, by omega, by omega⟩))
set_option maxHeartbeats 8000000 in
set_option maxRecDepth 100000 in
theorem law_spell {E : EE} {G : GG} {z : Nat} (C : Cx E G z cL_law RL wsL_law room_1 27) {cells slots : Nat} (hcs : cells + 800 ≤ room_1.cells ∧ slots + 47000 ≤ room_1.slots) {μ : Mm} {xa bs : Nat} {A : Nat → Nat} {σ : SS} {n τ : Nat} {f9 kd v : Int} {p w s : Nat} (hS : LwS G z μ xa A σ n) (hn5 : n < 512) (hv9 : 0 ≤ v ∧ v < 100000000) (hp9 : p < 64) (hw9 : (σ 12 0 = 0 ∧ w = 0) ∨ (w : Int) < σ 12 0) (hs9 : (σ 7 0 = 0 ∧ s = 0) ∨ (s : Int) < σ 7 0) (kk : ∀ (μ' : Mm) (σ' : SS), LwS G z μ' xa A σ' (n + 1) → Wx E G (cells + 800) (slots + 47000) 2027 [(0, .ref bs), (1, .ref xa), (2, .ref (A 0)), (3, .ref (A 1)), (4, .ref (A 2)), (5, .ref (A 3)), (6, .ref (A 4)), (7, .ref (A 5)), (8, .ref (A 6)), (9, .ref (A 7)), (10, .ref (A 8)), (11, .ref (A 9)), (12, .ref (A 10)), (13, .ref (A 11)), (14, .ref (A 12)), (15, .int (zI 1)), (16, .int (zI (τ : Int))), (19, .int (zI v))] [] μ') : Wx E G cells slots 905 [(0, .ref bs), (1, .ref xa), (2, .ref (A 0)), (3, .ref (A 1)), (4, .ref (A 2)), (5, .ref (A 3)), (6, .ref (A 4)), (7, .ref (A 5)), (8, .ref (A 6)), (9, .ref (A 7)), (10, .ref (A 8)), (11, .ref (A 9)), (12, .ref (A 10)), (13, .ref (A 11)), (14, .ref (A 12)), (15, .int (zI 1)), (16, .int (zI (τ : Int))), (17, .int (zI f9)), (18, .int (zI kd)), (19, .int (zI v)), (20, .int (zI (p : Int))), (21, .int (zI (w : Int))), (22, .int (zI (s : Int)))] [] μ := by
  obtain ⟨hC, hK, hn, hh, ⟨K, hz, hZB⟩, hd, hy, hg, hu, ⟨W, hw, hWR⟩, hs, ht, he, hb, C9, hcc⟩ := hS
  have hGv := hC.gv
  have h7 := hK.1.n7
  have h12 := hK.1.n12
  have h18 := hK.1.n18
  have h23 := hK.1.n23
  obtain ⟨hL26, hl5⟩ := uF_rg hK.1 (show 0 < 7 by omega)
  have hwr := wv_rg hL26 hl5
  have h110 := hK.1.r11 0 (by omega)
  have hur : (0 ≤ uF σ 0 ∧ uF σ 0 < 234881024) ∧ uF σ 0 / 33554432 = σ 11 0 := ⟨⟨hwr.1, hwr.2.1⟩, by (have e := hwr.2.2; show wv (lw σ 0) (ln σ 0) / 33554432 = σ 11 0; rw [e]; unfold ln; omega)⟩
  obtain ⟨m, hm⟩ : ∃ m : Nat, σ 11 0 = (m : Int) := ⟨(σ 11 0).toNat, by omega⟩
  have hlnm : ln σ 0 = m := by (unfold ln; omega)
  have hmm : uF σ 0 / 33554432 = (m : Int) := by omega
  have hu0 : uF σ 0 = wv (lw σ 0) m := by (show wv (lw σ 0) (ln σ 0) = _; rw [hlnm])
  have hLm : L26 (lw σ 0) m := by (rw [← hlnm]; exact hL26)
  refine x_aload C dL_law_905 8 rfl ?_
  refine z_iconst C dL_law_907 ?_
  refine z_iald (j := 0) C dL_law_908 hu (by omega) (by omega) (by decide) ?_
  refine z_bipush C dL_law_909 (by decide) ?_
  refine z_ishr (v := ((uF σ) 0) / 33554432) C 25 dL_law_911 (by omega) (by omega) rfl (by omega) rfl ?_
  refine x_stk (stk' := [.int (zI (m : Int))]) (by rw [hmm]) ?_
  refine x_istore (lv' := [(23, .int (zI (m : Int))), (0, .ref bs), (1, .ref xa), (2, .ref (A 0)), (3, .ref (A 1)), (4, .ref (A 2)), (5, .ref (A 3)), (6, .ref (A 4)), (7, .ref (A 5)), (8, .ref (A 6)), (9, .ref (A 7)), (10, .ref (A 8)), (11, .ref (A 9)), (12, .ref (A 10)), (13, .ref (A 11)), (14, .ref (A 12)), (15, .int (zI 1)), (16, .int (zI (τ : Int))), (17, .int (zI f9)), (18, .int (zI kd)), (19, .int (zI v)), (20, .int (zI (p : Int))), (21, .int (zI (w : Int))), (22, .int (zI (s : Int)))]) C dL_law_912 (by decide) rfl ?_
  have J933 : ∀ (l9 : Int) (hl9 : 0 ≤ l9 ∧ l9 ≤ 26), Wx E G cells slots 933 [(23, .int (zI (m : Int))), (0, .ref bs), (1, .ref xa), (2, .ref (A 0)), (3, .ref (A 1)), (4, .ref (A 2)), (5, .ref (A 3)), (6, .ref (A 4)), (7, .ref (A 5)), (8, .ref (A 6)), (9, .ref (A 7)), (10, .ref (A 8)), (11, .ref (A 9)), (12, .ref (A 10)), (13, .ref (A 11)), (14, .ref (A 12)), (15, .int (zI 1)), (16, .int (zI (τ : Int))), (17, .int (zI f9)), (18, .int (zI kd)), (19, .int (zI v)), (20, .int (zI (p : Int))), (21, .int (zI (w : Int))), (22, .int (zI (s : Int)))] [.int (zI l9)] μ := by
    intro l9 hl9
    refine x_istore (lv' := [(24, .int (zI l9)), (23, .int (zI (m : Int))), (0, .ref bs), (1, .ref xa), (2, .ref (A 0)), (3, .ref (A 1)), (4, .ref (A 2)), (5, .ref (A 3)), (6, .ref (A 4)), (7, .ref (A 5)), (8, .ref (A 6)), (9, .ref (A 7)), (10, .ref (A 8)), (11, .ref (A 9)), (12, .ref (A 10)), (13, .ref (A 11)), (14, .ref (A 12)), (15, .int (zI 1)), (16, .int (zI (τ : Int))), (17, .int (zI f9)), (18, .int (zI kd)), (19, .int (zI v)), (20, .int (zI (p : Int))), (21, .int (zI (w : Int))), (22, .int (zI (s : Int)))]) C dL_law_933 (by decide) rfl ?_
    refine z_iconst C dL_law_935 ?_
    refine x_istore (lv' := [(25, .int (zI 0)), (24, .int (zI l9)), (23, .int (zI (m : Int))), (0, .ref bs), (1, .ref xa), (2, .ref (A 0)), (3, .ref (A 1)), (4, .ref (A 2)), (5, .ref (A 3)), (6, .ref (A 4)), (7, .ref (A 5)), (8, .ref (A 6)), (9, .ref (A 7)), (10, .ref (A 8)), (11, .ref (A 9)), (12, .ref (A 10)), (13, .ref (A 11)), (14, .ref (A 12)), (15, .int (zI 1)), (16, .int (zI (τ : Int))), (17, .int (zI f9)), (18, .int (zI kd)), (19, .int (zI v)), (20, .int (zI (p : Int))), (21, .int (zI (w : Int))), (22, .int (zI (s : Int)))]) C dL_law_936 (by decide) rfl ?_
    refine x_iload C dL_law_938 2 rfl ?_
    refine z_iconst C dL_law_940 ?_
    refine z_icmp_ge (tgt := 1011) C dL_law_941 (by decide) (rg_of (by omega) (by omega)) (rg_of (by omega) (by omega)) (fun c_1 => ?_) (fun c_1 => ?_)
    · refine x_aload_n C dL_law_1011 rfl 4 rfl ?_
      refine z_iconst C dL_law_1012 ?_
      refine x_iload C dL_law_1013 1 rfl ?_
      refine z_iconst C dL_law_1015 ?_
      refine z_iconst C dL_law_1016 ?_
      have hts : t_spell σ l9 = 2 := by (unfold t_spell; rw [if_pos ⟨by omega, by omega⟩, if_neg (by omega)])
      refine x_callSX (n := 5) (cc9 := (cells + 1)) (ss9 := (slots + 6)) (rest := []) C dL_law_1017 (c_L_does_2 (kxL E) C.st G z μ xa σ n l9 0 0 hC hK hn5 (by omega) (by omega) (by omega)) gL_law_L_does rfl (by decide +kernel) ⟨(Nat.le_of_ble_eq_true rfl), (Nat.le_of_ble_eq_true rfl)⟩ rfl rfl (Nat.le_of_ble_eq_true rfl) rfl rfl ⟨(by omega), (by omega)⟩ nX_no (fun v2 μ3 hv4 => ?_)
      obtain ⟨r5, hw8, h6⟩ := hv4
      subst hw8
      obtain ⟨hdo, hF9⟩ := h6
      have hF9 := hF9
      have hn := hF9.ai hn
      have hh := hF9.ai hh
      have hz := hF9.ol hz
      have hd := hF9.ai hd
      have hy := hF9.ai hy
      have hg := hF9.ai hg
      have hu := hF9.ai hu
      have hw := hF9.ai hw
      have hs := hF9.ai hs
      have ht := hF9.ai ht
      have he := hF9.ai he
      have hb := hF9.ai hb
      have hcc := hF9.ai hcc
      obtain ⟨hr9, hC⟩ : r5 = -13 ∧ RepC G z μ3 xa σ n := by (rcases hdo with ⟨h1, -⟩ | ⟨h1, h2⟩; exfalso; omega; exact ⟨by omega, h2⟩)
      refine x_stk (stk' := [.int (zI r5)]) rfl ?_
      refine x_iload C dL_law_1020 2 rfl ?_
      refine z_iconst C dL_law_1022 ?_
      refine z_icmp_ge (tgt := 1031) C dL_law_1023 (by decide) (rg_of (by omega) (by omega)) (rg_of (by omega) (by omega)) (fun c_10 => ?_) (fun c_10 => ?_)
      · refine z_bipush C dL_law_1031 (by decide) ?_
        refine z_icmp_ne (tgt := 1040) C dL_law_1033 (by decide) (rg_of (by omega) (by omega)) (rg_of (by omega) (by omega)) (fun c_11 => ?_) (fun c_11 => ?_)
        · exfalso; omega
        · refine z_iconst C dL_law_1036 ?_
          refine x_goto (tgt := 1041) C dL_law_1037 (by decide) ?_
          refine x_istore (lv' := [(15, .int (zI 1)), (25, .int (zI 0)), (24, .int (zI l9)), (23, .int (zI (m : Int))), (0, .ref bs), (1, .ref xa), (2, .ref (A 0)), (3, .ref (A 1)), (4, .ref (A 2)), (5, .ref (A 3)), (6, .ref (A 4)), (7, .ref (A 5)), (8, .ref (A 6)), (9, .ref (A 7)), (10, .ref (A 8)), (11, .ref (A 9)), (12, .ref (A 10)), (13, .ref (A 11)), (14, .ref (A 12)), (16, .int (zI (τ : Int))), (17, .int (zI f9)), (18, .int (zI kd)), (19, .int (zI v)), (20, .int (zI (p : Int))), (21, .int (zI (w : Int))), (22, .int (zI (s : Int)))]) C dL_law_1041 (by decide) rfl ?_
          refine x_goto (tgt := 2027) C dL_law_1043 (by decide) ?_
          refine x_sub (lv' := [(0, .ref bs), (1, .ref xa), (2, .ref (A 0)), (3, .ref (A 1)), (4, .ref (A 2)), (5, .ref (A 3)), (6, .ref (A 4)), (7, .ref (A 5)), (8, .ref (A 6)), (9, .ref (A 7)), (10, .ref (A 8)), (11, .ref (A 9)), (12, .ref (A 10)), (13, .ref (A 11)), (14, .ref (A 12)), (15, .int (zI 1)), (16, .int (zI (τ : Int))), (19, .int (zI v))]) [4, 5, 6, 7, 8, 9, 10, 11, 12, 13, 14, 15, 16, 17, 18, 0, 19, 22] rfl ?_
          exact x_wid (by omega) (by omega) (kk _ σ ⟨hC.mono, hK.mono, hn, hh, ⟨_, hz, hZB⟩, hd, hy, hg, hu, ⟨_, hw, hWR⟩, hs, ht, he, hb, _, hcc⟩)
      · exfalso; omega
    · refine x_aload C dL_law_944 11 rfl ?_
      refine z_iconst C dL_law_946 ?_
      refine x_aload C dL_law_947 11 rfl ?_
      refine z_iconst C dL_law_949 ?_
      refine z_iald (j := 0) C dL_law_950 hu (by omega) (by omega) (by decide) ?_
      refine z_ldc (w := (33554431)) (v := (33554431)) C dL_law_951 (by decide +kernel) (by decide) ?_
      refine x_iand (v := zI ((uF σ) 0) &&& zI 33554431) C dL_law_953 rfl ?_
      refine x_iload C dL_law_954 1 rfl ?_
      refine z_iconst C dL_law_956 ?_
      refine x_iload C dL_law_957 2 rfl ?_
      refine z_imul C dL_law_959 rfl ?_
      refine x_ishl (v := zI l9 <<< (zI (5 * (m : Int)) &&& 31)) C dL_law_960 rfl ?_
      refine x_ior (v := (zI ((uF σ) 0) &&& zI 33554431) ||| (zI l9 <<< (zI (5 * (m : Int)) &&& 31))) C dL_law_961 rfl ?_
      refine x_iload C dL_law_962 2 rfl ?_
      refine z_iconst C dL_law_964 ?_
      refine z_iadd C dL_law_965 rfl ?_
      refine z_bipush C dL_law_966 (by decide) ?_
      refine x_ishl (v := zI ((m : Int) + 1) <<< (zI 25 &&& 31)) C dL_law_968 rfl ?_
      refine x_ior (v := zI (wv (wr (lw σ 0) m l9) (m + 1))) C dL_law_969 (by (rw [hu0]; exact wv_put hLm (by omega) hl9)) ?_
      have hLn : L26 (wr (lw σ 0) m l9) (m + 1) := fun j hj => by (unfold wr; split; exact hl9; exact hLm j (by omega))
      refine z_iast (j := 0) C dL_law_970 hu (by omega) (by omega) (by decide) (fun μ12 huw hF13 => ?_)
      have hC : RepC G z μ12 xa σ n := hF13.repc hC
      have hn := hF13.ai hn
      have hh := hF13.ai hh
      have hz := hF13.ol hz
      have hd := hF13.ai hd
      have hy := hF13.ai hy
      have hg := hF13.ai hg
      have hw := hF13.ai hw
      have hs := hF13.ai hs
      have ht := hF13.ai ht
      have he := hF13.ai he
      have hb := hF13.ai hb
      have hcc := hF13.ai hcc
      have hu := huw
      refine z_iconst C dL_law_971 ?_
      refine x_istore (lv' := [(26, .int (zI 0)), (25, .int (zI 0)), (24, .int (zI l9)), (23, .int (zI (m : Int))), (0, .ref bs), (1, .ref xa), (2, .ref (A 0)), (3, .ref (A 1)), (4, .ref (A 2)), (5, .ref (A 3)), (6, .ref (A 4)), (7, .ref (A 5)), (8, .ref (A 6)), (9, .ref (A 7)), (10, .ref (A 8)), (11, .ref (A 9)), (12, .ref (A 10)), (13, .ref (A 11)), (14, .ref (A 12)), (15, .int (zI 1)), (16, .int (zI (τ : Int))), (17, .int (zI f9)), (18, .int (zI kd)), (19, .int (zI v)), (20, .int (zI (p : Int))), (21, .int (zI (w : Int))), (22, .int (zI (s : Int)))]) C dL_law_972 (by decide) rfl ?_
      have L974 : ∀ (M9 : Nat) (ch : Int) (k : Nat) (kz : Int) (hkz : kz = (k : Int)) (hk : k ≤ m + 1) (hch : ch = chs (wr (lw σ 0) m l9) k) (hchr : 0 ≤ ch ∧ ch ≤ 2 * k) (hM9 : m + 1 - k = M9), Wx E G cells slots 974 [(26, .int (zI kz)), (25, .int (zI ch)), (24, .int (zI l9)), (23, .int (zI (m : Int))), (0, .ref bs), (1, .ref xa), (2, .ref (A 0)), (3, .ref (A 1)), (4, .ref (A 2)), (5, .ref (A 3)), (6, .ref (A 4)), (7, .ref (A 5)), (8, .ref (A 6)), (9, .ref (A 7)), (10, .ref (A 8)), (11, .ref (A 9)), (12, .ref (A 10)), (13, .ref (A 11)), (14, .ref (A 12)), (15, .int (zI 1)), (16, .int (zI (τ : Int))), (17, .int (zI f9)), (18, .int (zI kd)), (19, .int (zI v)), (20, .int (zI (p : Int))), (21, .int (zI (w : Int))), (22, .int (zI (s : Int)))] [] μ12 := by
        intro M9
        induction M9 using Nat.strongRecOn with
        | ind M9 ih974 =>
          intro ch k kz hkz hk hch hchr hM9
          subst hkz
          refine x_iload C dL_law_974 0 rfl ?_
          refine x_iload C dL_law_976 3 rfl ?_
          refine z_icmp_gt (tgt := 1011) C dL_law_978 (by decide) (rg_of (by omega) (by omega)) (rg_of (by omega) (by omega)) (fun c_14 => ?_) (fun c_14 => ?_)
          · refine x_aload_n C dL_law_1011 rfl 5 rfl ?_
            refine z_iconst C dL_law_1012 ?_
            refine x_iload C dL_law_1013 2 rfl ?_
            refine z_iconst C dL_law_1015 ?_
            refine z_iconst C dL_law_1016 ?_
            have hts : t_spell σ l9 = 0 := by (unfold t_spell; rw [if_pos ⟨by omega, by omega⟩, if_pos (by omega)])
            refine x_callSX (n := 5) (cc9 := (cells + 1)) (ss9 := (slots + 6)) (rest := []) C dL_law_1017 (c_L_does_2 (kxL E) C.st G z μ12 xa σ n l9 0 0 hC hK hn5 (by omega) (by omega) (by omega)) gL_law_L_does rfl (by decide +kernel) ⟨(Nat.le_of_ble_eq_true rfl), (Nat.le_of_ble_eq_true rfl)⟩ rfl rfl (Nat.le_of_ble_eq_true rfl) rfl rfl ⟨(by omega), (by omega)⟩ nX_no (fun v15 μ16 hv17 => ?_)
            obtain ⟨r18, hw21, h19⟩ := hv17
            subst hw21
            obtain ⟨hdo, hF9⟩ := h19
            have hF22 := hF9
            have hn := hF22.ai hn
            have hh := hF22.ai hh
            have hz := hF22.ol hz
            have hd := hF22.ai hd
            have hy := hF22.ai hy
            have hg := hF22.ai hg
            have hu := hF22.ai hu
            have hw := hF22.ai hw
            have hs := hF22.ai hs
            have ht := hF22.ai ht
            have he := hF22.ai he
            have hb := hF22.ai hb
            have hcc := hF22.ai hcc
            obtain ⟨hr9, hC⟩ : r18 = b_spell σ l9 ∧ RepC G z μ16 xa (n_spell σ l9) n := by (rcases hdo with ⟨-, h1, h2⟩ | ⟨h1, -⟩; exact ⟨h1, h2⟩; exfalso; omega)
            have hb9 : b_spell σ l9 = ch := by (show chs (wr (σ 10) (σ 11 0).toNat l9) ((σ 11 0).toNat + 1) = ch; rw [show (σ 11 0).toNat = m by omega, ← (lw0 (σ := σ)), show m + 1 = k by omega, hch])
            refine x_stk (stk' := [.int (zI r18)]) rfl ?_
            refine x_iload C dL_law_1020 3 rfl ?_
            refine z_iconst C dL_law_1022 ?_
            refine z_icmp_ge (tgt := 1031) C dL_law_1023 (by decide) (rg_of (by omega) (by omega)) (rg_of (by omega) (by omega)) (fun c_23 => ?_) (fun c_23 => ?_)
            · exfalso; omega
            · refine x_iload C dL_law_1026 1 rfl ?_
              refine x_goto (tgt := 1033) C dL_law_1028 (by decide) ?_
              refine z_icmp_ne (tgt := 1040) C dL_law_1033 (by decide) (rg_of (by omega) (by omega)) (rg_of (by omega) (by omega)) (fun c_24 => ?_) (fun c_24 => ?_)
              · exfalso; omega
              · refine z_iconst C dL_law_1036 ?_
                refine x_goto (tgt := 1041) C dL_law_1037 (by decide) ?_
                refine x_istore (lv' := [(15, .int (zI 1)), (26, .int (zI (k : Int))), (25, .int (zI ch)), (24, .int (zI l9)), (23, .int (zI (m : Int))), (0, .ref bs), (1, .ref xa), (2, .ref (A 0)), (3, .ref (A 1)), (4, .ref (A 2)), (5, .ref (A 3)), (6, .ref (A 4)), (7, .ref (A 5)), (8, .ref (A 6)), (9, .ref (A 7)), (10, .ref (A 8)), (11, .ref (A 9)), (12, .ref (A 10)), (13, .ref (A 11)), (14, .ref (A 12)), (16, .int (zI (τ : Int))), (17, .int (zI f9)), (18, .int (zI kd)), (19, .int (zI v)), (20, .int (zI (p : Int))), (21, .int (zI (w : Int))), (22, .int (zI (s : Int)))]) C dL_law_1041 (by decide) rfl ?_
                refine x_goto (tgt := 2027) C dL_law_1043 (by decide) ?_
                refine x_sub (lv' := [(0, .ref bs), (1, .ref xa), (2, .ref (A 0)), (3, .ref (A 1)), (4, .ref (A 2)), (5, .ref (A 3)), (6, .ref (A 4)), (7, .ref (A 5)), (8, .ref (A 6)), (9, .ref (A 7)), (10, .ref (A 8)), (11, .ref (A 9)), (12, .ref (A 10)), (13, .ref (A 11)), (14, .ref (A 12)), (15, .int (zI 1)), (16, .int (zI (τ : Int))), (19, .int (zI v))]) [5, 6, 7, 8, 9, 10, 11, 12, 13, 14, 15, 16, 17, 18, 19, 0, 20, 23] rfl ?_
                exact x_wid (by omega) (by omega) (kk _ (n_spell σ l9) ⟨hC.mono, (Kv_spell hK hts).mono, (by (rw [nF_c (σ := σ) (σ' := (n_spell σ l9)) rfl rfl rfl rfl]; exact hn)), hh, ⟨_, hz, hZB.c rfl⟩, (by (rw [dF_c (σ := σ) (σ' := (n_spell σ l9)) rfl rfl rfl rfl]; exact hd)), hy, (by (rw [gF_c (σ := σ) (σ' := (n_spell σ l9)) rfl rfl]; exact hg)), (hu.cong (uF_spell hK.1 hm (by omega))), ⟨_, hw, hWR.c rfl rfl rfl rfl rfl rfl⟩, (by (rw [sF_c (σ := σ) (σ' := (n_spell σ l9)) rfl]; exact hs)), (by (rw [tF_c (σ := σ) (σ' := (n_spell σ l9)) rfl]; exact ht)), he, hb, _, hcc⟩)
          · have hlk := hLn k (by omega)
            refine x_iload C dL_law_981 1 rfl ?_
            refine x_aload C dL_law_983 12 rfl ?_
            refine z_iconst C dL_law_985 ?_
            refine z_iald (j := 0) C dL_law_986 hu (by omega) (by omega) (by decide) ?_
            refine x_stk (stk' := [.int (zI (wv (wr (lw σ 0) m l9) (m + 1))), .int (zI ch)]) (by (rw [wr_at])) ?_
            refine x_iload C dL_law_987 0 rfl ?_
            refine x_callS (n := 2) (cc9 := cells) (ss9 := slots) (rest := [.int (zI ch)]) C dL_law_989 (c_L_letter (kxL E) C.st G z μ12 (wr (lw σ 0) m l9) (m + 1) k hLn (by omega) (by omega)) gL_law_L_letter rfl (by decide +kernel) ⟨(Nat.le_of_ble_eq_true rfl), (Nat.le_of_ble_eq_true rfl)⟩ rfl rfl (Nat.le_of_ble_eq_true rfl) rfl rfl ⟨(by omega), (by omega)⟩ nX_no (fun v25 μ26 hv27 => ?_)
            obtain ⟨r28, hw31, h29, hm30⟩ := hv27
            subst hw31
            rw [hm30]
            refine x_stk (stk' := [.int (zI r28), .int (zI ch)]) rfl ?_
            refine z_bipush C dL_law_992 (by decide) ?_
            refine z_icmp_ne (tgt := 1001) C dL_law_994 (by decide) (rg_of (by omega) (by omega)) (rg_of (by omega) (by omega)) (fun c_32 => ?_) (fun c_32 => ?_)
            · refine z_iconst C dL_law_1001 ?_
              refine z_iadd C dL_law_1002 rfl ?_
              refine x_istore (lv' := [(25, .int (zI (ch + 1))), (26, .int (zI (k : Int))), (24, .int (zI l9)), (23, .int (zI (m : Int))), (0, .ref bs), (1, .ref xa), (2, .ref (A 0)), (3, .ref (A 1)), (4, .ref (A 2)), (5, .ref (A 3)), (6, .ref (A 4)), (7, .ref (A 5)), (8, .ref (A 6)), (9, .ref (A 7)), (10, .ref (A 8)), (11, .ref (A 9)), (12, .ref (A 10)), (13, .ref (A 11)), (14, .ref (A 12)), (15, .int (zI 1)), (16, .int (zI (τ : Int))), (17, .int (zI f9)), (18, .int (zI kd)), (19, .int (zI v)), (20, .int (zI (p : Int))), (21, .int (zI (w : Int))), (22, .int (zI (s : Int)))]) C dL_law_1003 (by decide) rfl ?_
              refine z_iinc (lv' := [(26, .int (zI ((k : Int) + 1))), (25, .int (zI (ch + 1))), (24, .int (zI l9)), (23, .int (zI (m : Int))), (0, .ref bs), (1, .ref xa), (2, .ref (A 0)), (3, .ref (A 1)), (4, .ref (A 2)), (5, .ref (A 3)), (6, .ref (A 4)), (7, .ref (A 5)), (8, .ref (A 6)), (9, .ref (A 7)), (10, .ref (A 8)), (11, .ref (A 9)), (12, .ref (A 10)), (13, .ref (A 11)), (14, .ref (A 12)), (15, .int (zI 1)), (16, .int (zI (τ : Int))), (17, .int (zI f9)), (18, .int (zI kd)), (19, .int (zI v)), (20, .int (zI (p : Int))), (21, .int (zI (w : Int))), (22, .int (zI (s : Int)))]) C dL_law_1005 1 rfl rfl (by decide) rfl ?_
              refine x_goto (tgt := 974) C dL_law_1008 (by decide) ?_
              exact ih974 _ (by omega) _ (k + 1) _ (by omega) (by omega) (by (rw [show chs (wr (lw σ 0) m l9) (k + 1) = chs (wr (lw σ 0) m l9) k + (if (wr (lw σ 0) m l9) k = 26 then 2 else 1) from rfl]; split <;> omega)) (by omega) rfl
            · refine z_iconst C dL_law_997 ?_
              refine x_goto (tgt := 1002) C dL_law_998 (by decide) ?_
              refine z_iadd C dL_law_1002 rfl ?_
              refine x_istore (lv' := [(25, .int (zI (ch + 2))), (26, .int (zI (k : Int))), (24, .int (zI l9)), (23, .int (zI (m : Int))), (0, .ref bs), (1, .ref xa), (2, .ref (A 0)), (3, .ref (A 1)), (4, .ref (A 2)), (5, .ref (A 3)), (6, .ref (A 4)), (7, .ref (A 5)), (8, .ref (A 6)), (9, .ref (A 7)), (10, .ref (A 8)), (11, .ref (A 9)), (12, .ref (A 10)), (13, .ref (A 11)), (14, .ref (A 12)), (15, .int (zI 1)), (16, .int (zI (τ : Int))), (17, .int (zI f9)), (18, .int (zI kd)), (19, .int (zI v)), (20, .int (zI (p : Int))), (21, .int (zI (w : Int))), (22, .int (zI (s : Int)))]) C dL_law_1003 (by decide) rfl ?_
              refine z_iinc (lv' := [(26, .int (zI ((k : Int) + 1))), (25, .int (zI (ch + 2))), (24, .int (zI l9)), (23, .int (zI (m : Int))), (0, .ref bs), (1, .ref xa), (2, .ref (A 0)), (3, .ref (A 1)), (4, .ref (A 2)), (5, .ref (A 3)), (6, .ref (A 4)), (7, .ref (A 5)), (8, .ref (A 6)), (9, .ref (A 7)), (10, .ref (A 8)), (11, .ref (A 9)), (12, .ref (A 10)), (13, .ref (A 11)), (14, .ref (A 12)), (15, .int (zI 1)), (16, .int (zI (τ : Int))), (17, .int (zI f9)), (18, .int (zI kd)), (19, .int (zI v)), (20, .int (zI (p : Int))), (21, .int (zI (w : Int))), (22, .int (zI (s : Int)))]) C dL_law_1005 1 rfl rfl (by decide) rfl ?_
              refine x_goto (tgt := 974) C dL_law_1008 (by decide) ?_
              exact ih974 _ (by omega) _ (k + 1) _ (by omega) (by omega) (by (rw [show chs (wr (lw σ 0) m l9) (k + 1) = chs (wr (lw σ 0) m l9) k + (if (wr (lw σ 0) m l9) k = 26 then 2 else 1) from rfl]; split <;> omega)) (by omega) rfl
      exact L974 _ _ (0) _ (by omega) (by omega) rfl (by omega) rfl
  refine x_iload C dL_law_914 20 rfl ?_
  refine z_iconst C dL_law_916 ?_
  refine z_irem C dL_law_917 (rg_of (by omega) (by omega)) (by omega) (rg_of (by omega) (by omega)) (by omega) rfl ?_
  refine z_if_ne (tgt := 926) C dL_law_918 (by decide) (rg_of (by omega) (by omega)) (fun c_33 => ?_) (fun c_33 => ?_)
  · refine x_iload C dL_law_926 20 rfl ?_
    refine z_iconst C dL_law_928 ?_
    refine z_idiv C dL_law_929 (rg_of (by omega) (by omega)) (by omega) (rg_of (by omega) (by omega)) (by omega) rfl ?_
    refine z_bipush C dL_law_930 (by decide) ?_
    refine z_irem C dL_law_932 (rg_of (by omega) (by omega)) (by omega) (rg_of (by omega) (by omega)) (by omega) rfl ?_
    exact J933 _ (by omega)
  · refine z_bipush C dL_law_921 (by decide) ?_
    refine x_goto (tgt := 933) C dL_law_923 (by decide) ?_
    exact J933 _ (by omega)
