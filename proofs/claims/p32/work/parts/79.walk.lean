/-! p32: what there is of stages and walkers -/
theorem d3_of {σ : SS} {s : Nat} {r : Int} {P : Prop} (hs : (s : Int) < σ 7 0) (h8 : -1 ≤ σ 8 s) (h : (t_cipher σ (s : Int) = 0 ∧ r = clen σ (s : Int) ∧ P) ∨ (((t_cipher σ (s : Int) = 1 ∧ r = -11) ∨ (t_cipher σ (s : Int) = 2 ∧ r = -14)) ∧ P)) : ((σ 8 s = -1 ∧ r = -14) ∨ (0 ≤ σ 8 s ∧ r = csm σ s (ln σ (s + 1) + 1))) ∧ P := by
  have ht : t_cipher σ (s : Int) = if σ 8 s = -1 then 2 else 0 := if_pos ⟨by omega, hs⟩
  rcases h with ⟨h1, h2, h3⟩ | ⟨⟨h1, h2⟩ | ⟨h1, h2⟩, h3⟩
  · refine ⟨Or.inr ⟨?_, h2⟩, h3⟩
    split at ht <;> omega
  · exfalso
    split at ht <;> omega
  · refine ⟨Or.inl ⟨?_, h2⟩, h3⟩
    split at ht <;> omega
theorem d4_of {σ : SS} {s : Nat} {r c : Int} {P : Prop} (hs : (s : Int) < σ 7 0) (h8 : -1 ≤ σ 8 s) (hc : σ 8 s = -1 ∨ c = csm σ s (ln σ (s + 1) + 1)) (h : (t_cipherAt σ (s : Int) c = 0 ∧ b_cipherAt σ (s : Int) c r ∧ P) ∨ (((t_cipherAt σ (s : Int) c = 1 ∧ r = -11) ∨ (t_cipherAt σ (s : Int) c = 2 ∧ r = -14)) ∧ P)) : r = -14 ∧ P := by
  have ht : t_cipherAt σ (s : Int) c = if σ 8 s ≠ -1 ∧ 0 ≤ c ∧ c < csm σ s (ln σ (s + 1) + 1) then 0 else 2 := if_pos ⟨by omega, hs⟩
  rcases h with ⟨h1, h2, h3⟩ | ⟨⟨h1, h2⟩ | ⟨h1, h2⟩, h3⟩
  · exfalso
    split at ht <;> omega
  · exfalso
    split at ht <;> omega
  · exact ⟨h2, h3⟩
theorem d5_of {σ : SS} {s : Nat} {c : Int} (hs : (s : Int) < σ 7 0) (h8 : 0 ≤ σ 8 s) (hc : 0 ≤ c ∧ c < csm σ s (ln σ (s + 1) + 1)) : t_cipherAt σ (s : Int) c = 0 := by
  have ht : t_cipherAt σ (s : Int) c = if σ 8 s ≠ -1 ∧ 0 ≤ c ∧ c < csm σ s (ln σ (s + 1) + 1) then 0 else 2 := if_pos ⟨by omega, hs⟩
  rw [ht, if_pos ⟨by omega, hc⟩]
abbrev rm_L_isWalk : Room := { frames := 9, cells := 240, slots := 1600, locals := 195 }
set_option maxHeartbeats 4000000 in
set_option maxRecDepth 100000 in
theorem c_L_isWalk (l : Launch) (hst : l.stackTraces = false) (G : GG) (z : Nat) (μ : Mm) (xa : Nat) (A : Nat → Nat) (σ : SS) (n : Nat) (K : Int64) (W : Nat → Int) (x : Int) (hC : RepC G z μ xa σ n) (hK : Kv σ n) (hn5 : n < 512) (hn : AI G μ (A 0) 3006 4 (nF σ)) (hh : AI G μ (A 1) 4001 64 (σ 0)) (hz : OL G μ (A 2) 4002 K) (hd : AI G μ (A 3) 4003 35 (dF σ)) (hy : AI G μ (A 4) 4004 7 (σ 6)) (hg : AI G μ (A 5) 4005 12 (gF σ)) (hu : AI G μ (A 6) 4006 7 (uF σ)) (hw : AI G μ (A 7) 3007 30 W) (hs : AI G μ (A 8) 4008 6 (sF σ)) (ht : AI G μ (A 9) 4009 6 (tF σ)) (he : AI G μ (A 10) 4010 36 (σ 22)) (hb : AI G μ (A 11) 4011 4 (σ 19)) (hZB : ZB σ K) (hWR : WR σ W) (hx : 0 ≤ x ∧ x < 2147483648) : Ct l yL_isWalk wsL_isWalk rm_L_isWalk G z [.ref xa, .ref (A 0), .ref (A 1), .ref (A 2), .ref (A 3), .ref (A 4), .ref (A 5), .ref (A 6), .ref (A 7), .ref (A 8), .ref (A 9), .ref (A 10), .ref (A 11), .int (zI x)] μ (rS (fun r9 μ' => (r9 = 1 ∧ RepC G z μ' xa σ n) ∧ Fr 0 3004 μ μ')) (nX) := by
  refine ct_of (cc := cL_isWalk) (maxL := 22) (ret := (some .boolean)) (own := RL) (by decide) rfl rfl hst (Nat.le_of_ble_eq_true rfl) ?_
  intro E hLl hnm C R hT
  have hGv := hC.gv
  have h7 := hK.1.n7
  have h12 := hK.1.n12
  have h18 := hK.1.n18
  have h23 := hK.1.n23
  have hFr : Fr 0 3004 μ μ := Fr.rf
  refine x_eq (lv' := [(0, .ref xa), (1, .ref (A 0)), (2, .ref (A 1)), (3, .ref (A 2)), (4, .ref (A 3)), (5, .ref (A 4)), (6, .ref (A 5)), (7, .ref (A 6)), (8, .ref (A 7)), (9, .ref (A 8)), (10, .ref (A 9)), (11, .ref (A 10)), (12, .ref (A 11)), (13, .int (zI x))]) rfl rfl ?_
  refine z_bipush C dL_isWalk_0 (by decide) ?_
  refine z_newI (N9 := 64) (cc9 := 1) (ss9 := 64) C 3001 dL_isWalk_2 (by decide +kernel) rfl (by decide) rfl rfl (Nat.le_of_ble_eq_true rfl) (Nat.le_of_ble_eq_true rfl) (fun a1 μ2 hq3 hA4 hF5 => ?_)
  have hF6 : Fr 0 0 μ μ2 := hF5 _ _
  have hC : RepC G z μ2 xa σ n := (hF5 3500 3500).repc hC
  have hn := (hF5 0 0).ai hn (Or.inr (Nat.zero_le _))
  have hh := (hF5 0 0).ai hh (Or.inr (Nat.zero_le _))
  have hz := (hF5 0 0).ol hz (Or.inr (Nat.zero_le _))
  have hd := (hF5 0 0).ai hd (Or.inr (Nat.zero_le _))
  have hy := (hF5 0 0).ai hy (Or.inr (Nat.zero_le _))
  have hg := (hF5 0 0).ai hg (Or.inr (Nat.zero_le _))
  have hu := (hF5 0 0).ai hu (Or.inr (Nat.zero_le _))
  have hw := (hF5 0 0).ai hw (Or.inr (Nat.zero_le _))
  have hs := (hF5 0 0).ai hs (Or.inr (Nat.zero_le _))
  have ht := (hF5 0 0).ai ht (Or.inr (Nat.zero_le _))
  have he := (hF5 0 0).ai he (Or.inr (Nat.zero_le _))
  have hb := (hF5 0 0).ai hb (Or.inr (Nat.zero_le _))
  have hFr : Fr 0 3004 μ μ2 := hFr.tr (hF5 0 3004)
  have hcA := hA4
  clear hA4
  refine x_astore (lv' := [(14, .ref a1), (0, .ref xa), (1, .ref (A 0)), (2, .ref (A 1)), (3, .ref (A 2)), (4, .ref (A 3)), (5, .ref (A 4)), (6, .ref (A 5)), (7, .ref (A 6)), (8, .ref (A 7)), (9, .ref (A 8)), (10, .ref (A 9)), (11, .ref (A 10)), (12, .ref (A 11)), (13, .int (zI x))]) C dL_isWalk_4 (by decide) rfl ?_
  refine x_aload_n C dL_isWalk_6 rfl 1 rfl ?_
  refine x_callV (n := 0) (ci := 9) (Cn := RX8) (T := TX8) (N := 10) (cc9 := 1) (ss9 := 64) (rest := []) C dL_isWalk_7 (c_X8_now (kxL E) C.st G z μ2 xa σ n hC hK.1) gL_isWalk_X8_now rfl (by decide +kernel) ⟨(Nat.le_of_ble_eq_true rfl), (Nat.le_of_ble_eq_true rfl)⟩ rfl hC.ob rfl rfl (Nat.le_of_ble_eq_true rfl) rfl rfl ⟨(Nat.le_of_ble_eq_true rfl), (Nat.le_of_ble_eq_true rfl)⟩ nX_no (fun v7 μ8 hv9 => ?_)
  obtain ⟨r10, hw13, h11, hm12⟩ := hv9
  subst hw13
  rw [hm12]
  refine x_stk (stk' := [.int (zI r10)]) rfl ?_
  refine x_aload_n C dL_isWalk_10 rfl 2 rfl ?_
  refine z_iconst C dL_isWalk_11 ?_
  refine z_iald (j := 3) C dL_isWalk_12 hn (by omega) (by omega) (by decide) ?_
  refine x_stk (stk' := [.int (zI (σ 23 0)), .int (zI r10)]) (by (rfl)) ?_
  refine z_icmp_ne (tgt := 20) C dL_isWalk_13 (by decide) (rg_of (by omega) (by omega)) (rg_of (by omega) (by omega)) (fun c_14 => ?_) (fun c_14 => ?_)
  · exfalso; omega
  · refine z_iconst C dL_isWalk_16 ?_
    refine x_goto (tgt := 21) C dL_isWalk_17 (by decide) ?_
    refine x_istore (lv' := [(15, .int (zI 1)), (14, .ref a1), (0, .ref xa), (1, .ref (A 0)), (2, .ref (A 1)), (3, .ref (A 2)), (4, .ref (A 3)), (5, .ref (A 4)), (6, .ref (A 5)), (7, .ref (A 6)), (8, .ref (A 7)), (9, .ref (A 8)), (10, .ref (A 9)), (11, .ref (A 10)), (12, .ref (A 11)), (13, .int (zI x))]) C dL_isWalk_21 (by decide) rfl ?_
    refine z_iconst C dL_isWalk_23 ?_
    refine x_istore (lv' := [(16, .int (zI 0)), (15, .int (zI 1)), (14, .ref a1), (0, .ref xa), (1, .ref (A 0)), (2, .ref (A 1)), (3, .ref (A 2)), (4, .ref (A 3)), (5, .ref (A 4)), (6, .ref (A 5)), (7, .ref (A 6)), (8, .ref (A 7)), (9, .ref (A 8)), (10, .ref (A 9)), (11, .ref (A 10)), (12, .ref (A 11)), (13, .int (zI x))]) C dL_isWalk_24 (by decide) rfl ?_
    have L26 : ∀ (M9 : Nat) (μs : Mm) (s : Nat) (sz : Int) (hsz : sz = (s : Int)) (Cs : Nat → Int) (hC : RepC G z μs xa σ n) (hn : AI G μs (A 0) 3006 4 (nF σ)) (hh : AI G μs (A 1) 4001 64 (σ 0)) (hz : OL G μs (A 2) 4002 K) (hd : AI G μs (A 3) 4003 35 (dF σ)) (hy : AI G μs (A 4) 4004 7 (σ 6)) (hg : AI G μs (A 5) 4005 12 (gF σ)) (hu : AI G μs (A 6) 4006 7 (uF σ)) (hw : AI G μs (A 7) 3007 30 W) (hs : AI G μs (A 8) 4008 6 (sF σ)) (ht : AI G μs (A 9) 4009 6 (tF σ)) (he : AI G μs (A 10) 4010 36 (σ 22)) (hb : AI G μs (A 11) 4011 4 (σ 19)) (hcA : AI G μs a1 3001 64 Cs) (hFr : Fr 0 3004 μ μs) (hs6 : (s : Int) ≤ σ 7 0) (hM9 : 6 - s = M9), Wx E G (1 + 33 * s) (64 + 200 * s) 26 [(16, .int (zI sz)), (15, .int (zI 1)), (14, .ref a1), (0, .ref xa), (1, .ref (A 0)), (2, .ref (A 1)), (3, .ref (A 2)), (4, .ref (A 3)), (5, .ref (A 4)), (6, .ref (A 5)), (7, .ref (A 6)), (8, .ref (A 7)), (9, .ref (A 8)), (10, .ref (A 9)), (11, .ref (A 10)), (12, .ref (A 11)), (13, .int (zI x))] [] μs := by
      intro M9
      induction M9 using Nat.strongRecOn with
      | ind M9 ih26 =>
        intro μs s sz hsz Cs hC hn hh hz hd hy hg hu hw hs ht he hb hcA hFr hs6 hM9
        subst hsz
        refine x_iload C dL_isWalk_26 0 rfl ?_
        refine x_aload_n C dL_isWalk_28 rfl 4 rfl ?_
        refine z_iconst C dL_isWalk_29 ?_
        refine z_iald (j := 0) C dL_isWalk_30 hn (by omega) (by omega) (by decide) ?_
        refine x_stk (stk' := [.int (zI (σ 7 0)), .int (zI (s : Int))]) (by (rfl)) ?_
        refine z_icmp_ge (tgt := 261) C dL_isWalk_31 (by decide) (rg_of (by omega) (by omega)) (rg_of (by omega) (by omega)) (fun c_15 => ?_) (fun c_15 => ?_)
        · refine x_wid (a := 199) (b := 1264) (by omega) (by omega) ?_
          refine z_iconst C dL_isWalk_261 ?_
          refine x_istore (lv' := [(16, .int (zI 0)), (15, .int (zI 1)), (14, .ref a1), (0, .ref xa), (1, .ref (A 0)), (2, .ref (A 1)), (3, .ref (A 2)), (4, .ref (A 3)), (5, .ref (A 4)), (6, .ref (A 5)), (7, .ref (A 6)), (8, .ref (A 7)), (9, .ref (A 8)), (10, .ref (A 9)), (11, .ref (A 10)), (12, .ref (A 11)), (13, .int (zI x))]) C dL_isWalk_262 (by decide) rfl ?_
          have L264 : ∀ (M9 : Nat) (i : Nat) (iz : Int) (hiz : iz = (i : Int)) (hi6 : (i : Int) ≤ σ 12 0) (hM9 : 6 - i = M9), Wx E G (199 + 5 * i) (1264 + 30 * i) 264 [(16, .int (zI iz)), (15, .int (zI 1)), (14, .ref a1), (0, .ref xa), (1, .ref (A 0)), (2, .ref (A 1)), (3, .ref (A 2)), (4, .ref (A 3)), (5, .ref (A 4)), (6, .ref (A 5)), (7, .ref (A 6)), (8, .ref (A 7)), (9, .ref (A 8)), (10, .ref (A 9)), (11, .ref (A 10)), (12, .ref (A 11)), (13, .int (zI x))] [] μs := by
            intro M9
            induction M9 using Nat.strongRecOn with
            | ind M9 ih264 =>
              intro i iz hiz hi6 hM9
              subst hiz
              refine x_iload C dL_isWalk_264 0 rfl ?_
              refine x_aload_n C dL_isWalk_266 rfl 4 rfl ?_
              refine z_iconst C dL_isWalk_267 ?_
              refine z_iald (j := 1) C dL_isWalk_268 hn (by omega) (by omega) (by decide) ?_
              refine x_stk (stk' := [.int (zI (σ 12 0)), .int (zI (i : Int))]) (by (rfl)) ?_
              refine z_icmp_ge (tgt := 487) C dL_isWalk_269 (by decide) (rg_of (by omega) (by omega)) (rg_of (by omega) (by omega)) (fun c_16 => ?_) (fun c_16 => ?_)
              · refine x_wid (a := 229) (b := 1444) (by omega) (by omega) ?_
                refine z_iconst C dL_isWalk_487 ?_
                refine x_istore (lv' := [(16, .int (zI 0)), (15, .int (zI 1)), (14, .ref a1), (0, .ref xa), (1, .ref (A 0)), (2, .ref (A 1)), (3, .ref (A 2)), (4, .ref (A 3)), (5, .ref (A 4)), (6, .ref (A 5)), (7, .ref (A 6)), (8, .ref (A 7)), (9, .ref (A 8)), (10, .ref (A 9)), (11, .ref (A 10)), (12, .ref (A 11)), (13, .int (zI x))]) C dL_isWalk_488 (by decide) rfl ?_
                have L490 : ∀ (M9 : Nat) (v : Nat) (vz : Int) (hvz : vz = (v : Int)) (hv6 : (v : Int) ≤ σ 18 0) (hM9 : 4 - v = M9), Wx E G (229 + 1 * v) (1444 + 6 * v) 490 [(16, .int (zI vz)), (15, .int (zI 1)), (14, .ref a1), (0, .ref xa), (1, .ref (A 0)), (2, .ref (A 1)), (3, .ref (A 2)), (4, .ref (A 3)), (5, .ref (A 4)), (6, .ref (A 5)), (7, .ref (A 6)), (8, .ref (A 7)), (9, .ref (A 8)), (10, .ref (A 9)), (11, .ref (A 10)), (12, .ref (A 11)), (13, .int (zI x))] [] μs := by
                  intro M9
                  induction M9 using Nat.strongRecOn with
                  | ind M9 ih490 =>
                    intro v vz hvz hv6 hM9
                    subst hvz
                    refine x_iload C dL_isWalk_490 0 rfl ?_
                    refine x_aload_n C dL_isWalk_492 rfl 4 rfl ?_
                    refine z_iconst C dL_isWalk_493 ?_
                    refine z_iald (j := 2) C dL_isWalk_494 hn (by omega) (by omega) (by decide) ?_
                    refine x_stk (stk' := [.int (zI (σ 18 0)), .int (zI (v : Int))]) (by (rfl)) ?_
                    refine z_icmp_ge (tgt := 581) C dL_isWalk_495 (by decide) (rg_of (by omega) (by omega)) (rg_of (by omega) (by omega)) (fun c_17 => ?_) (fun c_17 => ?_)
                    · refine x_wid (a := 233) (b := 1468) (by omega) (by omega) ?_
                      refine x_iload C dL_isWalk_581 16 rfl ?_
                      refine z_bipush C dL_isWalk_583 (by decide) ?_
                      refine z_irem C dL_isWalk_585 (rg_of (by omega) (by omega)) (by omega) (rg_of (by omega) (by omega)) (by omega) rfl ?_
                      refine x_istore (lv' := [(16, .int (zI (x % 64))), (15, .int (zI 1)), (14, .ref a1), (0, .ref xa), (1, .ref (A 0)), (2, .ref (A 1)), (3, .ref (A 2)), (4, .ref (A 3)), (5, .ref (A 4)), (6, .ref (A 5)), (7, .ref (A 6)), (8, .ref (A 7)), (9, .ref (A 8)), (10, .ref (A 9)), (11, .ref (A 10)), (12, .ref (A 11)), (13, .int (zI x))]) C dL_isWalk_586 (by decide) rfl ?_
                      refine x_iload C dL_isWalk_588 16 rfl ?_
                      refine z_bipush C dL_isWalk_590 (by decide) ?_
                      refine z_idiv C dL_isWalk_592 (rg_of (by omega) (by omega)) (by omega) (rg_of (by omega) (by omega)) (by omega) rfl ?_
                      refine z_bipush C dL_isWalk_593 (by decide) ?_
                      refine z_irem C dL_isWalk_595 (rg_of (by omega) (by omega)) (by omega) (rg_of (by omega) (by omega)) (by omega) rfl ?_
                      refine x_istore (lv' := [(17, .int (zI ((x / 64) % 64))), (16, .int (zI (x % 64))), (15, .int (zI 1)), (14, .ref a1), (0, .ref xa), (1, .ref (A 0)), (2, .ref (A 1)), (3, .ref (A 2)), (4, .ref (A 3)), (5, .ref (A 4)), (6, .ref (A 5)), (7, .ref (A 6)), (8, .ref (A 7)), (9, .ref (A 8)), (10, .ref (A 9)), (11, .ref (A 10)), (12, .ref (A 11)), (13, .int (zI x))]) C dL_isWalk_596 (by decide) rfl ?_
                      refine x_aload_n C dL_isWalk_598 rfl 6 rfl ?_
                      refine x_aload_n C dL_isWalk_599 rfl 7 rfl ?_
                      refine x_iload C dL_isWalk_600 1 rfl ?_
                      refine x_aload C dL_isWalk_602 3 rfl ?_
                      refine x_callS (n := 4) (cc9 := 234) (ss9 := 1532) (rest := []) C dL_isWalk_604 (c_L_lays (kxL E) C.st G z μs (A 1) (A 2) a1 3001 σ n K (x % 64) _ hK.1 hh hz hZB hcA (by omega) (by omega)) gL_isWalk_L_lays rfl (by decide +kernel) ⟨(Nat.le_of_ble_eq_true rfl), (Nat.le_of_ble_eq_true rfl)⟩ rfl rfl (Nat.le_of_ble_eq_true rfl) rfl rfl ⟨(Nat.le_of_ble_eq_true rfl), (Nat.le_of_ble_eq_true rfl)⟩ nX_no (fun v18 μ19 hv20 => ?_)
                      obtain ⟨hw24, h22⟩ := hv20
                      subst hw24
                      obtain ⟨⟨C9, hcA, hLD⟩, hF9⟩ := h22
                      have hF25 := hF9
                      have hC : RepC G z μ19 xa σ n := hF25.repc hC
                      have hn := hF25.ai hn
                      have hh := hF25.ai hh
                      have hz := hF25.ol hz
                      have hd := hF25.ai hd
                      have hy := hF25.ai hy
                      have hg := hF25.ai hg
                      have hu := hF25.ai hu
                      have hw := hF25.ai hw
                      have hs := hF25.ai hs
                      have ht := hF25.ai ht
                      have he := hF25.ai he
                      have hb := hF25.ai hb
                      have hFr : Fr 0 3004 μ μ19 := hFr.tr hF25
                      have hbx := hLD.1 (x / 64 % 64).toNat (by omega)
                      refine x_stk (stk' := []) rfl ?_
                      refine x_aload C dL_isWalk_607 3 rfl ?_
                      refine x_iload C dL_isWalk_609 0 rfl ?_
                      refine z_iald (j := ((x / 64) % 64).toNat) C dL_isWalk_611 hcA (by omega) (by omega) (by decide) ?_
                      refine z_ldc (w := (100000)) (v := (100000)) C dL_isWalk_612 (by decide +kernel) (by decide) ?_
                      refine z_icmp_ne (tgt := 621) C dL_isWalk_614 (by decide) (rg_of (by omega) (by omega)) (rg_of (by omega) (by omega)) (fun c_26 => ?_) (fun c_26 => ?_)
                      · refine x_aload C dL_isWalk_621 3 rfl ?_
                        refine x_iload C dL_isWalk_623 0 rfl ?_
                        refine z_iald (j := ((x / 64) % 64).toNat) C dL_isWalk_625 hcA (by omega) (by omega) (by decide) ?_
                        refine x_istore (lv' := [(18, .int (zI (C9 (((x / 64) % 64).toNat)))), (17, .int (zI ((x / 64) % 64))), (16, .int (zI (x % 64))), (15, .int (zI 1)), (14, .ref a1), (0, .ref xa), (1, .ref (A 0)), (2, .ref (A 1)), (3, .ref (A 2)), (4, .ref (A 3)), (5, .ref (A 4)), (6, .ref (A 5)), (7, .ref (A 6)), (8, .ref (A 7)), (9, .ref (A 8)), (10, .ref (A 9)), (11, .ref (A 10)), (12, .ref (A 11)), (13, .int (zI x))]) C dL_isWalk_626 (by decide) rfl ?_
                        refine x_iload C dL_isWalk_628 3 rfl ?_
                        refine z_if_eq (tgt := 674) C dL_isWalk_630 (by decide) (rg_of (by omega) (by omega)) (fun c_27 => ?_) (fun c_27 => ?_)
                        · exfalso; omega
                        · have htp : t_pp (x / 64 % 64) (x % 64) = 0 := if_pos ⟨by omega, by omega⟩
                          have hbw := LD_bway (p := x / 64 % 64) (q := x % 64) hLD (by omega)
                          refine x_aload_n C dL_isWalk_633 rfl 5 rfl ?_
                          refine x_iload C dL_isWalk_634 1 rfl ?_
                          refine x_iload C dL_isWalk_636 2 rfl ?_
                          refine x_callV (n := 2) (ci := 9) (Cn := RX8) (T := TX8) (N := 10) (cc9 := 236) (ss9 := 1544) (rest := []) C dL_isWalk_638 (c_X8_way (kxL E) C.st G z μ19 xa σ n (x / 64 % 64) (x % 64) hC hK.1 (by omega) (by omega)) gL_isWalk_X8_way rfl (by decide +kernel) ⟨(Nat.le_of_ble_eq_true rfl), (Nat.le_of_ble_eq_true rfl)⟩ rfl hC.ob rfl rfl (Nat.le_of_ble_eq_true rfl) rfl rfl ⟨(Nat.le_of_ble_eq_true rfl), (Nat.le_of_ble_eq_true rfl)⟩ (fun En hEn => by (exfalso; have h9 := hEn.2; rw [htp] at h9; omega)) (fun v28 μ29 hv30 => ?_)
                          obtain ⟨r31, hw34, h32⟩ := hv30
                          subst hw34
                          obtain ⟨⟨htw, hbw1, hC⟩, hF9⟩ := h32
                          have hF35 := hF9
                          have hn := hF35.ai hn
                          have hh := hF35.ai hh
                          have hz := hF35.ol hz
                          have hd := hF35.ai hd
                          have hy := hF35.ai hy
                          have hg := hF35.ai hg
                          have hu := hF35.ai hu
                          have hw := hF35.ai hw
                          have hs := hF35.ai hs
                          have ht := hF35.ai ht
                          have he := hF35.ai he
                          have hb := hF35.ai hb
                          have hcA := hF35.ai hcA
                          have hFr : Fr 0 3004 μ μ29 := hFr.tr hF35
                          refine x_stk (stk' := [.int (zI r31)]) rfl ?_
                          refine x_iload C dL_isWalk_641 0 rfl ?_
                          refine z_icmp_ne (tgt := 674) C dL_isWalk_643 (by decide) (rg_of (by omega) (by omega)) (rg_of (by omega) (by omega)) (fun c_36 => ?_) (fun c_36 => ?_)
                          · exfalso; omega
                          · refine x_aload_n C dL_isWalk_646 rfl 5 rfl ?_
                            refine x_iload C dL_isWalk_647 1 rfl ?_
                            refine x_iload C dL_isWalk_649 2 rfl ?_
                            refine x_callV (n := 2) (ci := 9) (Cn := RX8) (T := TX8) (N := 10) (cc9 := 238) (ss9 := 1556) (rest := []) C dL_isWalk_651 (c_X8_wayByRounds (kxL E) C.st G z μ29 xa σ n (x / 64 % 64) (x % 64) hC hK.1 (by omega) (by omega)) gL_isWalk_X8_wayByRounds rfl (by decide +kernel) ⟨(Nat.le_of_ble_eq_true rfl), (Nat.le_of_ble_eq_true rfl)⟩ rfl hC.ob rfl rfl (Nat.le_of_ble_eq_true rfl) rfl rfl ⟨(Nat.le_of_ble_eq_true rfl), (Nat.le_of_ble_eq_true rfl)⟩ (fun En hEn => by (exfalso; have h9 := hEn.2; rw [htp] at h9; omega)) (fun v37 μ38 hv39 => ?_)
                            obtain ⟨r40, hw43, h41⟩ := hv39
                            subst hw43
                            obtain ⟨⟨htw2, hbw2, hC⟩, hF9⟩ := h41
                            have hF44 := hF9
                            have hn := hF44.ai hn
                            have hh := hF44.ai hh
                            have hz := hF44.ol hz
                            have hd := hF44.ai hd
                            have hy := hF44.ai hy
                            have hg := hF44.ai hg
                            have hu := hF44.ai hu
                            have hw := hF44.ai hw
                            have hs := hF44.ai hs
                            have ht := hF44.ai ht
                            have he := hF44.ai he
                            have hb := hF44.ai hb
                            have hcA := hF44.ai hcA
                            have hFr : Fr 0 3004 μ μ38 := hFr.tr hF44
                            refine x_stk (stk' := [.int (zI r40)]) rfl ?_
                            refine x_iload C dL_isWalk_654 0 rfl ?_
                            refine z_icmp_ne (tgt := 674) C dL_isWalk_656 (by decide) (rg_of (by omega) (by omega)) (rg_of (by omega) (by omega)) (fun c_45 => ?_) (fun c_45 => ?_)
                            · exfalso; omega
                            · refine x_aload_n C dL_isWalk_659 rfl 5 rfl ?_
                              refine x_aload_n C dL_isWalk_660 rfl 6 rfl ?_
                              refine z_iconst C dL_isWalk_661 ?_
                              refine z_iald (j := 1) C dL_isWalk_662 hn (by omega) (by omega) (by decide) ?_
                              refine x_stk (stk' := [.int (zI (σ 12 0)), .ref xa]) (by (rfl)) ?_
                              refine x_callV (n := 1) (ci := 9) (Cn := RX8) (T := TX8) (N := 10) (cc9 := 238) (ss9 := 1556) (rest := []) C dL_isWalk_663 (c_X8_walkerAt (kxL E) C.st G z μ38 xa σ n (σ 12 0) hC hK.1 (by omega)) gL_isWalk_X8_walkerAt rfl (by decide +kernel) ⟨(Nat.le_of_ble_eq_true rfl), (Nat.le_of_ble_eq_true rfl)⟩ rfl hC.ob rfl rfl (Nat.le_of_ble_eq_true rfl) rfl rfl ⟨(Nat.le_of_ble_eq_true rfl), (Nat.le_of_ble_eq_true rfl)⟩ nX_no (fun v46 μ47 hv48 => ?_)
                              obtain ⟨r49, hw52, h50, hm51⟩ := hv48
                              subst hw52
                              rw [hm51]
                              have hrn : r49 = -1 := wAt_no h12.1 h50
                              refine x_stk (stk' := [.int (zI r49)]) rfl ?_
                              refine z_iconst C dL_isWalk_666 ?_
                              refine z_icmp_ne (tgt := 674) C dL_isWalk_667 (by decide) (rg_of (by omega) (by omega)) (rg_of (by omega) (by omega)) (fun c_53 => ?_) (fun c_53 => ?_)
                              · exfalso; omega
                              · refine z_iconst C dL_isWalk_670 ?_
                                refine x_goto (tgt := 675) C dL_isWalk_671 (by decide) ?_
                                exact x_zret C R dL_isWalk_675 (nar_z (by omega)) (Nat.le_of_ble_eq_true rfl) (Nat.le_of_ble_eq_true rfl) (⟨_, rfl, ⟨rfl, hC⟩, hFr⟩)
                      · refine z_iconst C dL_isWalk_617 ?_
                        refine x_goto (tgt := 626) C dL_isWalk_618 (by decide) ?_
                        refine x_istore (lv' := [(18, .int (zI (-1))), (17, .int (zI ((x / 64) % 64))), (16, .int (zI (x % 64))), (15, .int (zI 1)), (14, .ref a1), (0, .ref xa), (1, .ref (A 0)), (2, .ref (A 1)), (3, .ref (A 2)), (4, .ref (A 3)), (5, .ref (A 4)), (6, .ref (A 5)), (7, .ref (A 6)), (8, .ref (A 7)), (9, .ref (A 8)), (10, .ref (A 9)), (11, .ref (A 10)), (12, .ref (A 11)), (13, .int (zI x))]) C dL_isWalk_626 (by decide) rfl ?_
                        refine x_iload C dL_isWalk_628 3 rfl ?_
                        refine z_if_eq (tgt := 674) C dL_isWalk_630 (by decide) (rg_of (by omega) (by omega)) (fun c_54 => ?_) (fun c_54 => ?_)
                        · exfalso; omega
                        · have htp : t_pp (x / 64 % 64) (x % 64) = 0 := if_pos ⟨by omega, by omega⟩
                          have hbw := LD_bway (p := x / 64 % 64) (q := x % 64) hLD (by omega)
                          refine x_aload_n C dL_isWalk_633 rfl 5 rfl ?_
                          refine x_iload C dL_isWalk_634 1 rfl ?_
                          refine x_iload C dL_isWalk_636 2 rfl ?_
                          refine x_callV (n := 2) (ci := 9) (Cn := RX8) (T := TX8) (N := 10) (cc9 := 236) (ss9 := 1544) (rest := []) C dL_isWalk_638 (c_X8_way (kxL E) C.st G z μ19 xa σ n (x / 64 % 64) (x % 64) hC hK.1 (by omega) (by omega)) gL_isWalk_X8_way rfl (by decide +kernel) ⟨(Nat.le_of_ble_eq_true rfl), (Nat.le_of_ble_eq_true rfl)⟩ rfl hC.ob rfl rfl (Nat.le_of_ble_eq_true rfl) rfl rfl ⟨(Nat.le_of_ble_eq_true rfl), (Nat.le_of_ble_eq_true rfl)⟩ (fun En hEn => by (exfalso; have h9 := hEn.2; rw [htp] at h9; omega)) (fun v55 μ56 hv57 => ?_)
                          obtain ⟨r58, hw61, h59⟩ := hv57
                          subst hw61
                          obtain ⟨⟨htw, hbw1, hC⟩, hF9⟩ := h59
                          have hF62 := hF9
                          have hn := hF62.ai hn
                          have hh := hF62.ai hh
                          have hz := hF62.ol hz
                          have hd := hF62.ai hd
                          have hy := hF62.ai hy
                          have hg := hF62.ai hg
                          have hu := hF62.ai hu
                          have hw := hF62.ai hw
                          have hs := hF62.ai hs
                          have ht := hF62.ai ht
                          have he := hF62.ai he
                          have hb := hF62.ai hb
                          have hcA := hF62.ai hcA
                          have hFr : Fr 0 3004 μ μ56 := hFr.tr hF62
                          refine x_stk (stk' := [.int (zI r58)]) rfl ?_
                          refine x_iload C dL_isWalk_641 0 rfl ?_
                          refine z_icmp_ne (tgt := 674) C dL_isWalk_643 (by decide) (rg_of (by omega) (by omega)) (rg_of (by omega) (by omega)) (fun c_63 => ?_) (fun c_63 => ?_)
                          · exfalso; omega
                          · refine x_aload_n C dL_isWalk_646 rfl 5 rfl ?_
                            refine x_iload C dL_isWalk_647 1 rfl ?_
                            refine x_iload C dL_isWalk_649 2 rfl ?_
                            refine x_callV (n := 2) (ci := 9) (Cn := RX8) (T := TX8) (N := 10) (cc9 := 238) (ss9 := 1556) (rest := []) C dL_isWalk_651 (c_X8_wayByRounds (kxL E) C.st G z μ56 xa σ n (x / 64 % 64) (x % 64) hC hK.1 (by omega) (by omega)) gL_isWalk_X8_wayByRounds rfl (by decide +kernel) ⟨(Nat.le_of_ble_eq_true rfl), (Nat.le_of_ble_eq_true rfl)⟩ rfl hC.ob rfl rfl (Nat.le_of_ble_eq_true rfl) rfl rfl ⟨(Nat.le_of_ble_eq_true rfl), (Nat.le_of_ble_eq_true rfl)⟩ (fun En hEn => by (exfalso; have h9 := hEn.2; rw [htp] at h9; omega)) (fun v64 μ65 hv66 => ?_)
                            obtain ⟨r67, hw70, h68⟩ := hv66
                            subst hw70
                            obtain ⟨⟨htw2, hbw2, hC⟩, hF9⟩ := h68
                            have hF71 := hF9
                            have hn := hF71.ai hn
                            have hh := hF71.ai hh
                            have hz := hF71.ol hz
                            have hd := hF71.ai hd
                            have hy := hF71.ai hy
                            have hg := hF71.ai hg
                            have hu := hF71.ai hu
                            have hw := hF71.ai hw
                            have hs := hF71.ai hs
                            have ht := hF71.ai ht
                            have he := hF71.ai he
                            have hb := hF71.ai hb
                            have hcA := hF71.ai hcA
                            have hFr : Fr 0 3004 μ μ65 := hFr.tr hF71
                            refine x_stk (stk' := [.int (zI r67)]) rfl ?_
                            refine x_iload C dL_isWalk_654 0 rfl ?_
                            refine z_icmp_ne (tgt := 674) C dL_isWalk_656 (by decide) (rg_of (by omega) (by omega)) (rg_of (by omega) (by omega)) (fun c_72 => ?_) (fun c_72 => ?_)
                            · exfalso; omega
                            · refine x_aload_n C dL_isWalk_659 rfl 5 rfl ?_
                              refine x_aload_n C dL_isWalk_660 rfl 6 rfl ?_
                              refine z_iconst C dL_isWalk_661 ?_
                              refine z_iald (j := 1) C dL_isWalk_662 hn (by omega) (by omega) (by decide) ?_
                              refine x_stk (stk' := [.int (zI (σ 12 0)), .ref xa]) (by (rfl)) ?_
                              refine x_callV (n := 1) (ci := 9) (Cn := RX8) (T := TX8) (N := 10) (cc9 := 238) (ss9 := 1556) (rest := []) C dL_isWalk_663 (c_X8_walkerAt (kxL E) C.st G z μ65 xa σ n (σ 12 0) hC hK.1 (by omega)) gL_isWalk_X8_walkerAt rfl (by decide +kernel) ⟨(Nat.le_of_ble_eq_true rfl), (Nat.le_of_ble_eq_true rfl)⟩ rfl hC.ob rfl rfl (Nat.le_of_ble_eq_true rfl) rfl rfl ⟨(Nat.le_of_ble_eq_true rfl), (Nat.le_of_ble_eq_true rfl)⟩ nX_no (fun v73 μ74 hv75 => ?_)
                              obtain ⟨r76, hw79, h77, hm78⟩ := hv75
                              subst hw79
                              rw [hm78]
                              have hrn : r76 = -1 := wAt_no h12.1 h77
                              refine x_stk (stk' := [.int (zI r76)]) rfl ?_
                              refine z_iconst C dL_isWalk_666 ?_
                              refine z_icmp_ne (tgt := 674) C dL_isWalk_667 (by decide) (rg_of (by omega) (by omega)) (rg_of (by omega) (by omega)) (fun c_80 => ?_) (fun c_80 => ?_)
                              · exfalso; omega
                              · refine z_iconst C dL_isWalk_670 ?_
                                refine x_goto (tgt := 675) C dL_isWalk_671 (by decide) ?_
                                exact x_zret C R dL_isWalk_675 (nar_z (by omega)) (Nat.le_of_ble_eq_true rfl) (Nat.le_of_ble_eq_true rfl) (⟨_, rfl, ⟨rfl, hC⟩, hFr⟩)
                    · have hse : t_sees σ (v : Int) = 0 := if_pos ⟨by omega, by omega⟩
                      have h19 := hK.1.r19 v (by omega)
                      refine x_iload C dL_isWalk_498 1 rfl ?_
                      refine z_if_eq (tgt := 581) C dL_isWalk_500 (by decide) (rg_of (by omega) (by omega)) (fun c_81 => ?_) (fun c_81 => ?_)
                      · exfalso; omega
                      · refine z_iconst C dL_isWalk_503 ?_
                        refine x_istore (lv' := [(17, .int (zI 0)), (16, .int (zI (v : Int))), (15, .int (zI 1)), (14, .ref a1), (0, .ref xa), (1, .ref (A 0)), (2, .ref (A 1)), (3, .ref (A 2)), (4, .ref (A 3)), (5, .ref (A 4)), (6, .ref (A 5)), (7, .ref (A 6)), (8, .ref (A 7)), (9, .ref (A 8)), (10, .ref (A 9)), (11, .ref (A 10)), (12, .ref (A 11)), (13, .int (zI x))]) C dL_isWalk_504 (by decide) rfl ?_
                        refine z_iconst C dL_isWalk_506 ?_
                        refine x_istore (lv' := [(18, .int (zI 0)), (17, .int (zI 0)), (16, .int (zI (v : Int))), (15, .int (zI 1)), (14, .ref a1), (0, .ref xa), (1, .ref (A 0)), (2, .ref (A 1)), (3, .ref (A 2)), (4, .ref (A 3)), (5, .ref (A 4)), (6, .ref (A 5)), (7, .ref (A 6)), (8, .ref (A 7)), (9, .ref (A 8)), (10, .ref (A 9)), (11, .ref (A 10)), (12, .ref (A 11)), (13, .int (zI x))]) C dL_isWalk_507 (by decide) rfl ?_
                        have L509 : ∀ (M9 : Nat) (se : Int) (i : Nat) (iz : Int) (hiz : iz = (i : Int)) (hi6 : (i : Int) ≤ σ 12 0) (hse9 : se = seeN σ (σ 19 v) i) (hM9 : 6 - i = M9), Wx E G (229 + 1 * v) (1444 + 6 * v) 509 [(18, .int (zI iz)), (17, .int (zI se)), (16, .int (zI (v : Int))), (15, .int (zI 1)), (14, .ref a1), (0, .ref xa), (1, .ref (A 0)), (2, .ref (A 1)), (3, .ref (A 2)), (4, .ref (A 3)), (5, .ref (A 4)), (6, .ref (A 5)), (7, .ref (A 6)), (8, .ref (A 7)), (9, .ref (A 8)), (10, .ref (A 9)), (11, .ref (A 10)), (12, .ref (A 11)), (13, .int (zI x))] [] μs := by
                          intro M9
                          induction M9 using Nat.strongRecOn with
                          | ind M9 ih509 =>
                            intro se i iz hiz hi6 hse9 hM9
                            subst hiz
                            refine x_iload C dL_isWalk_509 0 rfl ?_
                            refine x_aload_n C dL_isWalk_511 rfl 6 rfl ?_
                            refine z_iconst C dL_isWalk_512 ?_
                            refine z_iald (j := 1) C dL_isWalk_513 hn (by omega) (by omega) (by decide) ?_
                            refine x_stk (stk' := [.int (zI (σ 12 0)), .int (zI (i : Int))]) (by (rfl)) ?_
                            refine z_icmp_ge (tgt := 557) C dL_isWalk_514 (by decide) (rg_of (by omega) (by omega)) (rg_of (by omega) (by omega)) (fun c_82 => ?_) (fun c_82 => ?_)
                            · refine x_aload_n C dL_isWalk_557 rfl 5 rfl ?_
                              refine x_iload C dL_isWalk_558 2 rfl ?_
                              refine x_callV (n := 1) (ci := 9) (Cn := RX8) (T := TX8) (N := 10) (cc9 := ((229 + 1 * v) + 1)) (ss9 := ((1444 + 6 * v) + 6)) (rest := []) C dL_isWalk_560 (c_X8_sees (kxL E) C.st G z μs xa σ n (v : Int) hC hK.1 (by omega)) gL_isWalk_X8_sees rfl (by decide +kernel) ⟨(Nat.le_of_ble_eq_true rfl), (Nat.le_of_ble_eq_true rfl)⟩ rfl hC.ob rfl rfl (Nat.le_of_ble_eq_true rfl) rfl rfl ⟨(Nat.le_trans (show _ ≤ 240 by omega) (Nat.le_of_ble_eq_true rfl)), (Nat.le_trans (show _ ≤ 1600 by omega) (Nat.le_of_ble_eq_true rfl))⟩ (fun En hEn => by (exfalso; have h9 := hEn.2; rw [hse] at h9; omega)) (fun v83 μ84 hv85 => ?_)
                              obtain ⟨r86, hw89, h87, hm88⟩ := hv85
                              subst hw89
                              rw [hm88]
                              have hr1 := h87.2
                              rw [Int.toNat_natCast] at hr1
                              have hsx : r86 = se := by (rw [hr1, hse9, show (σ 12 0).toNat = i by omega])
                              have hsr2 := seeN_rg σ (σ 19 v) i
                              have hp22 := p2_6 i (by omega)
                              refine x_stk (stk' := [.int (zI r86)]) rfl ?_
                              refine x_iload C dL_isWalk_563 1 rfl ?_
                              refine z_icmp_ne (tgt := 572) C dL_isWalk_565 (by decide) (rg_of (by omega) (by omega)) (rg_of (by omega) (by omega)) (fun c_90 => ?_) (fun c_90 => ?_)
                              · exfalso; omega
                              · refine z_iconst C dL_isWalk_568 ?_
                                refine x_goto (tgt := 573) C dL_isWalk_569 (by decide) ?_
                                refine x_istore (lv' := [(15, .int (zI 1)), (18, .int (zI (i : Int))), (17, .int (zI se)), (16, .int (zI (v : Int))), (14, .ref a1), (0, .ref xa), (1, .ref (A 0)), (2, .ref (A 1)), (3, .ref (A 2)), (4, .ref (A 3)), (5, .ref (A 4)), (6, .ref (A 5)), (7, .ref (A 6)), (8, .ref (A 7)), (9, .ref (A 8)), (10, .ref (A 9)), (11, .ref (A 10)), (12, .ref (A 11)), (13, .int (zI x))]) C dL_isWalk_573 (by decide) rfl ?_
                                refine z_iinc (lv' := [(16, .int (zI ((v : Int) + 1))), (15, .int (zI 1)), (18, .int (zI (i : Int))), (17, .int (zI se)), (14, .ref a1), (0, .ref xa), (1, .ref (A 0)), (2, .ref (A 1)), (3, .ref (A 2)), (4, .ref (A 3)), (5, .ref (A 4)), (6, .ref (A 5)), (7, .ref (A 6)), (8, .ref (A 7)), (9, .ref (A 8)), (10, .ref (A 9)), (11, .ref (A 10)), (12, .ref (A 11)), (13, .int (zI x))]) C dL_isWalk_575 3 rfl rfl (by decide) rfl ?_
                                refine x_goto (tgt := 490) C dL_isWalk_578 (by decide) ?_
                                refine x_sub (lv' := [(16, .int (zI ((v : Int) + 1))), (15, .int (zI 1)), (14, .ref a1), (0, .ref xa), (1, .ref (A 0)), (2, .ref (A 1)), (3, .ref (A 2)), (4, .ref (A 3)), (5, .ref (A 4)), (6, .ref (A 5)), (7, .ref (A 6)), (8, .ref (A 7)), (9, .ref (A 8)), (10, .ref (A 9)), (11, .ref (A 10)), (12, .ref (A 11)), (13, .int (zI x))]) [0, 1, 4, 5, 6, 7, 8, 9, 10, 11, 12, 13, 14, 15, 16, 17, 18] rfl ?_
                                refine x_wid (a := (229 + 1 * (v + 1))) (b := (1444 + 6 * (v + 1))) (by omega) (by omega) ?_
                                exact ih490 _ (by omega) (v + 1) _ (by omega) (by omega) rfl
                            · obtain ⟨e0, e1, e2, e3, e4⟩ := hWR i (by omega)
                              have h14 := hK.1.r14 i (by omega)
                              have hsr := seeN_rg σ (σ 19 v) i
                              have hp2 := p2_6 i (by omega)
                              have hd9 := dst_rg (p := σ 19 v) (q := σ 14 i) (by omega) (by omega)
                              refine x_iload C dL_isWalk_517 1 rfl ?_
                              refine x_aload C dL_isWalk_519 13 rfl ?_
                              refine z_iconst C dL_isWalk_521 ?_
                              refine x_iload C dL_isWalk_522 0 rfl ?_
                              refine z_imul C dL_isWalk_524 rfl ?_
                              refine z_iconst C dL_isWalk_525 ?_
                              refine z_iadd C dL_isWalk_526 rfl ?_
                              refine z_iald (j := 5 * i + 1) C dL_isWalk_527 hw (by omega) (by omega) (by decide) ?_
                              refine x_aload C dL_isWalk_528 17 rfl ?_
                              refine x_iload C dL_isWalk_530 2 rfl ?_
                              refine z_iald (j := v) C dL_isWalk_532 hb (by omega) (by omega) (by decide) ?_
                              refine x_callS (n := 2) (cc9 := (229 + 1 * v)) (ss9 := (1444 + 6 * v)) (rest := [.int (zI se)]) C dL_isWalk_533 (c_L_far (kxL E) C.st G z μs (W (5 * i + 1)) ((σ 19) v) (by omega) (by omega)) gL_isWalk_L_far rfl (by decide +kernel) ⟨(Nat.le_of_ble_eq_true rfl), (Nat.le_of_ble_eq_true rfl)⟩ rfl rfl (Nat.le_of_ble_eq_true rfl) rfl rfl ⟨(Nat.le_trans (show _ ≤ 240 by omega) (Nat.le_of_ble_eq_true rfl)), (Nat.le_trans (show _ ≤ 1600 by omega) (Nat.le_of_ble_eq_true rfl))⟩ nX_no (fun v91 μ92 hv93 => ?_)
                              obtain ⟨r94, hw97, h95, hm96⟩ := hv93
                              subst hw97
                              rw [hm96]
                              have hds : r94 = dst (σ 19 v) (σ 14 i) := by (rw [h95, e1, dst_sym])
                              refine x_stk (stk' := [.int (zI r94), .int (zI se)]) rfl ?_
                              refine z_iconst C dL_isWalk_536 ?_
                              refine z_icmp_ge (tgt := 547) C dL_isWalk_537 (by decide) (rg_of (by omega) (by omega)) (rg_of (by omega) (by omega)) (fun c_98 => ?_) (fun c_98 => ?_)
                              · refine z_iconst C dL_isWalk_547 ?_
                                refine x_ior (v := zI se) C dL_isWalk_548 ior_0 ?_
                                refine x_istore (lv' := [(17, .int (zI se)), (18, .int (zI (i : Int))), (16, .int (zI (v : Int))), (15, .int (zI 1)), (14, .ref a1), (0, .ref xa), (1, .ref (A 0)), (2, .ref (A 1)), (3, .ref (A 2)), (4, .ref (A 3)), (5, .ref (A 4)), (6, .ref (A 5)), (7, .ref (A 6)), (8, .ref (A 7)), (9, .ref (A 8)), (10, .ref (A 9)), (11, .ref (A 10)), (12, .ref (A 11)), (13, .int (zI x))]) C dL_isWalk_549 (by decide) rfl ?_
                                refine z_iinc (lv' := [(18, .int (zI ((i : Int) + 1))), (17, .int (zI se)), (16, .int (zI (v : Int))), (15, .int (zI 1)), (14, .ref a1), (0, .ref xa), (1, .ref (A 0)), (2, .ref (A 1)), (3, .ref (A 2)), (4, .ref (A 3)), (5, .ref (A 4)), (6, .ref (A 5)), (7, .ref (A 6)), (8, .ref (A 7)), (9, .ref (A 8)), (10, .ref (A 9)), (11, .ref (A 10)), (12, .ref (A 11)), (13, .int (zI x))]) C dL_isWalk_551 1 rfl rfl (by decide) rfl ?_
                                refine x_goto (tgt := 509) C dL_isWalk_554 (by decide) ?_
                                exact ih509 _ (by omega) _ (i + 1) _ (by omega) (by omega) (by (rw [show seeN σ (σ 19 v) (i + 1) = seeN σ (σ 19 v) i + (if dst (σ 19 v) (σ 14 i) ≤ 3 then p2 i else 0) from rfl]; split <;> omega)) rfl
                              · refine z_iconst C dL_isWalk_540 ?_
                                refine x_iload C dL_isWalk_541 0 rfl ?_
                                refine x_ishl (v := zI 1 <<< (zI (i : Int) &&& 31)) C dL_isWalk_543 rfl ?_
                                refine x_goto (tgt := 548) C dL_isWalk_544 (by decide) ?_
                                refine x_ior (v := zI (se + p2 i)) C dL_isWalk_548 (ior_z (by omega) (by omega)) ?_
                                refine x_istore (lv' := [(17, .int (zI (se + p2 i))), (18, .int (zI (i : Int))), (16, .int (zI (v : Int))), (15, .int (zI 1)), (14, .ref a1), (0, .ref xa), (1, .ref (A 0)), (2, .ref (A 1)), (3, .ref (A 2)), (4, .ref (A 3)), (5, .ref (A 4)), (6, .ref (A 5)), (7, .ref (A 6)), (8, .ref (A 7)), (9, .ref (A 8)), (10, .ref (A 9)), (11, .ref (A 10)), (12, .ref (A 11)), (13, .int (zI x))]) C dL_isWalk_549 (by decide) rfl ?_
                                refine z_iinc (lv' := [(18, .int (zI ((i : Int) + 1))), (17, .int (zI (se + p2 i))), (16, .int (zI (v : Int))), (15, .int (zI 1)), (14, .ref a1), (0, .ref xa), (1, .ref (A 0)), (2, .ref (A 1)), (3, .ref (A 2)), (4, .ref (A 3)), (5, .ref (A 4)), (6, .ref (A 5)), (7, .ref (A 6)), (8, .ref (A 7)), (9, .ref (A 8)), (10, .ref (A 9)), (11, .ref (A 10)), (12, .ref (A 11)), (13, .int (zI x))]) C dL_isWalk_551 1 rfl rfl (by decide) rfl ?_
                                refine x_goto (tgt := 509) C dL_isWalk_554 (by decide) ?_
                                exact ih509 _ (by omega) _ (i + 1) _ (by omega) (by omega) (by (rw [show seeN σ (σ 19 v) (i + 1) = seeN σ (σ 19 v) i + (if dst (σ 19 v) (σ 14 i) ≤ 3 then p2 i else 0) from rfl]; split <;> omega)) rfl
                        exact L509 _ _ (0) _ (by omega) (by omega) rfl rfl
                refine x_wid (a := (229 + 1 * (0))) (b := (1444 + 6 * (0))) (by omega) (by omega) ?_
                exact L490 _ (0) _ (by omega) (by omega) rfl
              · have hwk : t_wk σ (i : Int) = 0 := if_pos ⟨by omega, by omega⟩
                obtain ⟨e0, e1, e2, e3, e4⟩ := hWR i (by omega)
                have h14 := hK.1.r14 i (by omega)
                have h15 := hK.1.r15 i (by omega)
                have h16 := hK.1.r16 i (by omega)
                refine x_iload C dL_isWalk_272 1 rfl ?_
                refine z_if_eq (tgt := 487) C dL_isWalk_274 (by decide) (rg_of (by omega) (by omega)) (fun c_99 => ?_) (fun c_99 => ?_)
                · exfalso; omega
                · refine z_iconst C dL_isWalk_277 ?_
                  refine x_istore (lv' := [(17, .int (zI 0)), (16, .int (zI (i : Int))), (15, .int (zI 1)), (14, .ref a1), (0, .ref xa), (1, .ref (A 0)), (2, .ref (A 1)), (3, .ref (A 2)), (4, .ref (A 3)), (5, .ref (A 4)), (6, .ref (A 5)), (7, .ref (A 6)), (8, .ref (A 7)), (9, .ref (A 8)), (10, .ref (A 9)), (11, .ref (A 10)), (12, .ref (A 11)), (13, .int (zI x))]) C dL_isWalk_278 (by decide) rfl ?_
                  refine z_iconst C dL_isWalk_280 ?_
                  refine x_istore (lv' := [(18, .int (zI 0)), (17, .int (zI 0)), (16, .int (zI (i : Int))), (15, .int (zI 1)), (14, .ref a1), (0, .ref xa), (1, .ref (A 0)), (2, .ref (A 1)), (3, .ref (A 2)), (4, .ref (A 3)), (5, .ref (A 4)), (6, .ref (A 5)), (7, .ref (A 6)), (8, .ref (A 7)), (9, .ref (A 8)), (10, .ref (A 9)), (11, .ref (A 10)), (12, .ref (A 11)), (13, .int (zI x))]) C dL_isWalk_281 (by decide) rfl ?_
                  have L283 : ∀ (M9 : Nat) (od : Int) (ot : Nat) (otz : Int) (hotz : otz = (ot : Int)) (hot : (ot : Int) ≤ σ 12 0) (hod9 : od = b_rank σ (i : Int) (b_score σ i) ot) (hodr : 0 ≤ od ∧ od ≤ ot) (hM9 : 6 - ot = M9), Wx E G (199 + 5 * i) (1264 + 30 * i) 283 [(18, .int (zI otz)), (17, .int (zI od)), (16, .int (zI (i : Int))), (15, .int (zI 1)), (14, .ref a1), (0, .ref xa), (1, .ref (A 0)), (2, .ref (A 1)), (3, .ref (A 2)), (4, .ref (A 3)), (5, .ref (A 4)), (6, .ref (A 5)), (7, .ref (A 6)), (8, .ref (A 7)), (9, .ref (A 8)), (10, .ref (A 9)), (11, .ref (A 10)), (12, .ref (A 11)), (13, .int (zI x))] [] μs := by
                    intro M9
                    induction M9 using Nat.strongRecOn with
                    | ind M9 ih283 =>
                      intro od ot otz hotz hot hod9 hodr hM9
                      subst hotz
                      refine x_iload C dL_isWalk_283 0 rfl ?_
                      refine x_aload_n C dL_isWalk_285 rfl 6 rfl ?_
                      refine z_iconst C dL_isWalk_286 ?_
                      refine z_iald (j := 1) C dL_isWalk_287 hn (by omega) (by omega) (by decide) ?_
                      refine x_stk (stk' := [.int (zI (σ 12 0)), .int (zI (ot : Int))]) (by (rfl)) ?_
                      refine z_icmp_ge (tgt := 349) C dL_isWalk_288 (by decide) (rg_of (by omega) (by omega)) (rg_of (by omega) (by omega)) (fun c_100 => ?_) (fun c_100 => ?_)
                      · have hod : od = rkw σ i := by (unfold rkw; rw [hod9, show (σ 12 0).toNat = ot by omega])
                        refine x_aload_n C dL_isWalk_349 rfl 5 rfl ?_
                        refine x_iload C dL_isWalk_350 2 rfl ?_
                        refine x_callV (n := 1) (ci := 9) (Cn := RX8) (T := TX8) (N := 10) (cc9 := ((199 + 5 * i) + 1)) (ss9 := ((1264 + 30 * i) + 6)) (rest := []) C dL_isWalk_352 (c_X8_at (kxL E) C.st G z μs xa σ n (i : Int) hC hK.1 (by omega)) gL_isWalk_X8_at rfl (by decide +kernel) ⟨(Nat.le_of_ble_eq_true rfl), (Nat.le_of_ble_eq_true rfl)⟩ rfl hC.ob rfl rfl (Nat.le_of_ble_eq_true rfl) rfl rfl ⟨(Nat.le_trans (show _ ≤ 240 by omega) (Nat.le_of_ble_eq_true rfl)), (Nat.le_trans (show _ ≤ 1600 by omega) (Nat.le_of_ble_eq_true rfl))⟩ (fun En hEn => by (exfalso; have h9 := hEn.2; rw [hwk] at h9; omega)) (fun v101 μ102 hv103 => ?_)
                        obtain ⟨r104, hw107, h105, hm106⟩ := hv103
                        subst hw107
                        rw [hm106]
                        have hr1 := h105.2
                        rw [Int.toNat_natCast] at hr1
                        refine x_stk (stk' := [.int (zI r104)]) rfl ?_
                        refine x_aload C dL_isWalk_355 13 rfl ?_
                        refine z_iconst C dL_isWalk_357 ?_
                        refine x_iload C dL_isWalk_358 2 rfl ?_
                        refine z_imul C dL_isWalk_360 rfl ?_
                        refine z_iconst C dL_isWalk_361 ?_
                        refine z_iadd C dL_isWalk_362 rfl ?_
                        refine z_iald (j := 5 * i + 1) C dL_isWalk_363 hw (by omega) (by omega) (by decide) ?_
                        refine z_icmp_ne (tgt := 478) C dL_isWalk_364 (by decide) (rg_of (by omega) (by omega)) (rg_of (by omega) (by omega)) (fun c_108 => ?_) (fun c_108 => ?_)
                        · exfalso; omega
                        · refine x_aload_n C dL_isWalk_367 rfl 5 rfl ?_
                          refine x_iload C dL_isWalk_368 2 rfl ?_
                          refine x_callV (n := 1) (ci := 9) (Cn := RX8) (T := TX8) (N := 10) (cc9 := (((199 + 5 * i) + 1) + 1)) (ss9 := (((1264 + 30 * i) + 6) + 6)) (rest := []) C dL_isWalk_370 (c_X8_rests (kxL E) C.st G z μs xa σ n (i : Int) hC hK.1 (by omega)) gL_isWalk_X8_rests rfl (by decide +kernel) ⟨(Nat.le_of_ble_eq_true rfl), (Nat.le_of_ble_eq_true rfl)⟩ rfl hC.ob rfl rfl (Nat.le_of_ble_eq_true rfl) rfl rfl ⟨(Nat.le_trans (show _ ≤ 240 by omega) (Nat.le_of_ble_eq_true rfl)), (Nat.le_trans (show _ ≤ 1600 by omega) (Nat.le_of_ble_eq_true rfl))⟩ (fun En hEn => by (exfalso; have h9 := hEn.2; rw [hwk] at h9; omega)) (fun v109 μ110 hv111 => ?_)
                          obtain ⟨r112, hw115, h113, hm114⟩ := hv111
                          subst hw115
                          rw [hm114]
                          have hr2 := h113.2
                          rw [Int.toNat_natCast] at hr2
                          have hr3 : (σ 15 i = -1 ∧ σ 16 i = -1 ∧ r112 = 1) ∨ (¬ (σ 15 i = -1 ∧ σ 16 i = -1) ∧ r112 = 0) := by (split at hr2 <;> omega)
                          refine x_stk (stk' := [.int (zI r112)]) rfl ?_
                          refine x_aload C dL_isWalk_373 13 rfl ?_
                          refine z_iconst C dL_isWalk_375 ?_
                          refine x_iload C dL_isWalk_376 2 rfl ?_
                          refine z_imul C dL_isWalk_378 rfl ?_
                          refine z_iconst C dL_isWalk_379 ?_
                          refine z_iadd C dL_isWalk_380 rfl ?_
                          refine z_iald (j := 5 * i + 2) C dL_isWalk_381 hw (by omega) (by omega) (by decide) ?_
                          refine z_if_ge (tgt := 401) C dL_isWalk_382 (by decide) (rg_of (by omega) (by omega)) (fun c_116 => ?_) (fun c_116 => ?_)
                          · refine z_iconst C dL_isWalk_401 ?_
                            refine z_icmp_ne (tgt := 478) C dL_isWalk_402 (by decide) (rg_of (by omega) (by omega)) (rg_of (by omega) (by omega)) (fun c_117 => ?_) (fun c_117 => ?_)
                            · exfalso; omega
                            · refine x_aload_n C dL_isWalk_405 rfl 5 rfl ?_
                              refine x_iload C dL_isWalk_406 2 rfl ?_
                              refine x_callV (n := 1) (ci := 9) (Cn := RX8) (T := TX8) (N := 10) (cc9 := ((((199 + 5 * i) + 1) + 1) + 1)) (ss9 := ((((1264 + 30 * i) + 6) + 6) + 6)) (rest := []) C dL_isWalk_408 (c_X8_solved (kxL E) C.st G z μs xa σ n (i : Int) hC hK.1 (by omega)) gL_isWalk_X8_solved rfl (by decide +kernel) ⟨(Nat.le_of_ble_eq_true rfl), (Nat.le_of_ble_eq_true rfl)⟩ rfl hC.ob rfl rfl (Nat.le_of_ble_eq_true rfl) rfl rfl ⟨(Nat.le_trans (show _ ≤ 240 by omega) (Nat.le_of_ble_eq_true rfl)), (Nat.le_trans (show _ ≤ 1600 by omega) (Nat.le_of_ble_eq_true rfl))⟩ (fun En hEn => by (exfalso; have h9 := hEn.2; rw [hwk] at h9; omega)) (fun v118 μ119 hv120 => ?_)
                              obtain ⟨r121, hw124, h122, hm123⟩ := hv120
                              subst hw124
                              rw [hm123]
                              have hr4 := h122.2
                              rw [Int.toNat_natCast] at hr4
                              have hsov := b_solved_rg hK.1 (show i < 6 by omega)
                              refine x_stk (stk' := [.int (zI r121)]) rfl ?_
                              refine x_aload C dL_isWalk_411 14 rfl ?_
                              refine x_iload C dL_isWalk_413 2 rfl ?_
                              refine z_iald (j := i) C dL_isWalk_415 hs (by omega) (by omega) (by decide) ?_
                              refine z_i2l C dL_isWalk_416 ?_
                              refine x_callS (n := 1) (cc9 := ((((199 + 5 * i) + 1) + 1) + 1)) (ss9 := ((((1264 + 30 * i) + 6) + 6) + 6)) (rest := [.int (zI r121)]) C dL_isWalk_417 (c_L_many (kxL E) C.st G z μs ((zI ((sF σ) i)).toInt64)) gL_isWalk_L_many rfl (by decide +kernel) ⟨(Nat.le_of_ble_eq_true rfl), (Nat.le_of_ble_eq_true rfl)⟩ rfl rfl (Nat.le_of_ble_eq_true rfl) rfl rfl ⟨(Nat.le_trans (show _ ≤ 240 by omega) (Nat.le_of_ble_eq_true rfl)), (Nat.le_trans (show _ ≤ 1600 by omega) (Nat.le_of_ble_eq_true rfl))⟩ nX_no (fun v125 μ126 hv127 => ?_)
                              obtain ⟨r128, hw131, h129, hm130⟩ := hv127
                              subst hw131
                              rw [hm130]
                              have hr5 : r128 = b_solved σ i := h129.trans ((b6_cnt (f := fun s => σ 20 (6 * i + s)) (fun s hs => hK.1.r20 (6 * i + s) (by omega))).trans (hGv.so (by omega) hK.1.n7))
                              refine x_stk (stk' := [.int (zI r128), .int (zI r121)]) rfl ?_
                              refine z_icmp_ne (tgt := 478) C dL_isWalk_420 (by decide) (rg_of (by omega) (by omega)) (rg_of (by omega) (by omega)) (fun c_132 => ?_) (fun c_132 => ?_)
                              · exfalso; omega
                              · refine x_aload_n C dL_isWalk_423 rfl 5 rfl ?_
                                refine x_iload C dL_isWalk_424 2 rfl ?_
                                refine x_callV (n := 1) (ci := 9) (Cn := RX8) (T := TX8) (N := 10) (cc9 := (((((199 + 5 * i) + 1) + 1) + 1) + 1)) (ss9 := (((((1264 + 30 * i) + 6) + 6) + 6) + 6)) (rest := []) C dL_isWalk_426 (c_X8_score (kxL E) C.st G z μs xa σ n (i : Int) hC hK.1 (by omega)) gL_isWalk_X8_score rfl (by decide +kernel) ⟨(Nat.le_of_ble_eq_true rfl), (Nat.le_of_ble_eq_true rfl)⟩ rfl hC.ob rfl rfl (Nat.le_of_ble_eq_true rfl) rfl rfl ⟨(Nat.le_trans (show _ ≤ 240 by omega) (Nat.le_of_ble_eq_true rfl)), (Nat.le_trans (show _ ≤ 1600 by omega) (Nat.le_of_ble_eq_true rfl))⟩ (fun En hEn => by (exfalso; have h9 := hEn.2; rw [hwk] at h9; omega)) (fun v133 μ134 hv135 => ?_)
                                obtain ⟨r136, hw139, h137, hm138⟩ := hv135
                                subst hw139
                                rw [hm138]
                                have hr6 := h137.2
                                rw [Int.toNat_natCast] at hr6
                                refine x_stk (stk' := [.int (zI r136)]) rfl ?_
                                refine x_aload C dL_isWalk_429 14 rfl ?_
                                refine x_aload C dL_isWalk_431 15 rfl ?_
                                refine x_aload C dL_isWalk_433 16 rfl ?_
                                refine x_iload C dL_isWalk_435 2 rfl ?_
                                refine x_callS (n := 4) (cc9 := (((((199 + 5 * i) + 1) + 1) + 1) + 1)) (ss9 := (((((1264 + 30 * i) + 6) + 6) + 6) + 6)) (rest := [.int (zI r136)]) C dL_isWalk_437 (c_L_score (kxL E) C.st G z μs (A 8) (A 9) (A 10) σ n i hK.1 (by omega) hs ht he (by omega)) gL_isWalk_L_score rfl (by decide +kernel) ⟨(Nat.le_of_ble_eq_true rfl), (Nat.le_of_ble_eq_true rfl)⟩ rfl rfl (Nat.le_of_ble_eq_true rfl) rfl rfl ⟨(Nat.le_trans (show _ ≤ 240 by omega) (Nat.le_of_ble_eq_true rfl)), (Nat.le_trans (show _ ≤ 1600 by omega) (Nat.le_of_ble_eq_true rfl))⟩ nX_no (fun v140 μ141 hv142 => ?_)
                                obtain ⟨r143, hw146, h144, hm145⟩ := hv142
                                subst hw146
                                rw [hm145]
                                have hsc : r143 = b_score σ i := h144.trans (hGv.sc (by omega) hK.1.n7)
                                have hscr := b_score_rg hK.1 (by omega) (show i < 6 by omega) 6 (by omega)
                                rw [hGv.sc (show i < 6 by omega) hK.1.n7] at hscr
                                refine x_stk (stk' := [.int (zI r143), .int (zI r136)]) rfl ?_
                                refine z_icmp_ne (tgt := 478) C dL_isWalk_440 (by decide) (rg_of (by omega) (by omega)) (rg_of (by omega) (by omega)) (fun c_147 => ?_) (fun c_147 => ?_)
                                · exfalso; omega
                                · refine x_aload_n C dL_isWalk_443 rfl 5 rfl ?_
                                  refine x_iload C dL_isWalk_444 2 rfl ?_
                                  refine x_callV (n := 1) (ci := 9) (Cn := RX8) (T := TX8) (N := 10) (cc9 := ((((((199 + 5 * i) + 1) + 1) + 1) + 1) + 1)) (ss9 := ((((((1264 + 30 * i) + 6) + 6) + 6) + 6) + 6)) (rest := []) C dL_isWalk_446 (c_X8_scoreAnew (kxL E) C.st G z μs xa σ n (i : Int) hC hK.1 (by omega)) gL_isWalk_X8_scoreAnew rfl (by decide +kernel) ⟨(Nat.le_of_ble_eq_true rfl), (Nat.le_of_ble_eq_true rfl)⟩ rfl hC.ob rfl rfl (Nat.le_of_ble_eq_true rfl) rfl rfl ⟨(Nat.le_trans (show _ ≤ 240 by omega) (Nat.le_of_ble_eq_true rfl)), (Nat.le_trans (show _ ≤ 1600 by omega) (Nat.le_of_ble_eq_true rfl))⟩ (fun En hEn => by (exfalso; have h9 := hEn.2; rw [hwk] at h9; omega)) (fun v148 μ149 hv150 => ?_)
                                  obtain ⟨r151, hw154, h152, hm153⟩ := hv150
                                  subst hw154
                                  rw [hm153]
                                  have hr7 := h152.2
                                  rw [Int.toNat_natCast] at hr7
                                  refine x_stk (stk' := [.int (zI r151)]) rfl ?_
                                  refine x_aload C dL_isWalk_449 14 rfl ?_
                                  refine x_aload C dL_isWalk_451 15 rfl ?_
                                  refine x_aload C dL_isWalk_453 16 rfl ?_
                                  refine x_iload C dL_isWalk_455 2 rfl ?_
                                  refine x_callS (n := 4) (cc9 := ((((((199 + 5 * i) + 1) + 1) + 1) + 1) + 1)) (ss9 := ((((((1264 + 30 * i) + 6) + 6) + 6) + 6) + 6)) (rest := [.int (zI r151)]) C dL_isWalk_457 (c_L_score (kxL E) C.st G z μs (A 8) (A 9) (A 10) σ n i hK.1 (by omega) hs ht he (by omega)) gL_isWalk_L_score rfl (by decide +kernel) ⟨(Nat.le_of_ble_eq_true rfl), (Nat.le_of_ble_eq_true rfl)⟩ rfl rfl (Nat.le_of_ble_eq_true rfl) rfl rfl ⟨(Nat.le_trans (show _ ≤ 240 by omega) (Nat.le_of_ble_eq_true rfl)), (Nat.le_trans (show _ ≤ 1600 by omega) (Nat.le_of_ble_eq_true rfl))⟩ nX_no (fun v155 μ156 hv157 => ?_)
                                  obtain ⟨r158, hw161, h159, hm160⟩ := hv157
                                  subst hw161
                                  rw [hm160]
                                  have hsd : r158 = b_score σ i := h159.trans (hGv.sc (by omega) hK.1.n7)
                                  have hsdr := b_score_rg hK.1 (by omega) (show i < 6 by omega) 6 (by omega)
                                  rw [hGv.sc (show i < 6 by omega) hK.1.n7] at hsdr
                                  refine x_stk (stk' := [.int (zI r158), .int (zI r151)]) rfl ?_
                                  refine z_icmp_ne (tgt := 478) C dL_isWalk_460 (by decide) (rg_of (by omega) (by omega)) (rg_of (by omega) (by omega)) (fun c_162 => ?_) (fun c_162 => ?_)
                                  · exfalso; omega
                                  · refine x_aload_n C dL_isWalk_463 rfl 5 rfl ?_
                                    refine x_iload C dL_isWalk_464 1 rfl ?_
                                    refine x_callV (n := 1) (ci := 9) (Cn := RX8) (T := TX8) (N := 10) (cc9 := ((((((199 + 5 * i) + 1) + 1) + 1) + 1) + 1)) (ss9 := ((((((1264 + 30 * i) + 6) + 6) + 6) + 6) + 6)) (rest := []) C dL_isWalk_466 (c_X8_walkerAt (kxL E) C.st G z μs xa σ n od hC hK.1 (by omega)) gL_isWalk_X8_walkerAt rfl (by decide +kernel) ⟨(Nat.le_of_ble_eq_true rfl), (Nat.le_of_ble_eq_true rfl)⟩ rfl hC.ob rfl rfl (Nat.le_of_ble_eq_true rfl) rfl rfl ⟨(Nat.le_trans (show _ ≤ 240 by omega) (Nat.le_of_ble_eq_true rfl)), (Nat.le_trans (show _ ≤ 1600 by omega) (Nat.le_of_ble_eq_true rfl))⟩ nX_no (fun v163 μ164 hv165 => ?_)
                                    obtain ⟨r166, hw169, h167, hm168⟩ := hv165
                                    subst hw169
                                    rw [hm168]
                                    have hr8 : r166 = (i : Int) := wAt_i (σ := σ) (by omega) (by (rw [← hod]; exact h167))
                                    refine x_stk (stk' := [.int (zI r166)]) rfl ?_
                                    refine x_iload C dL_isWalk_469 2 rfl ?_
                                    refine z_icmp_ne (tgt := 478) C dL_isWalk_471 (by decide) (rg_of (by omega) (by omega)) (rg_of (by omega) (by omega)) (fun c_170 => ?_) (fun c_170 => ?_)
                                    · exfalso; omega
                                    · refine z_iconst C dL_isWalk_474 ?_
                                      refine x_goto (tgt := 479) C dL_isWalk_475 (by decide) ?_
                                      refine x_istore (lv' := [(15, .int (zI 1)), (18, .int (zI (ot : Int))), (17, .int (zI od)), (16, .int (zI (i : Int))), (14, .ref a1), (0, .ref xa), (1, .ref (A 0)), (2, .ref (A 1)), (3, .ref (A 2)), (4, .ref (A 3)), (5, .ref (A 4)), (6, .ref (A 5)), (7, .ref (A 6)), (8, .ref (A 7)), (9, .ref (A 8)), (10, .ref (A 9)), (11, .ref (A 10)), (12, .ref (A 11)), (13, .int (zI x))]) C dL_isWalk_479 (by decide) rfl ?_
                                      refine z_iinc (lv' := [(16, .int (zI ((i : Int) + 1))), (15, .int (zI 1)), (18, .int (zI (ot : Int))), (17, .int (zI od)), (14, .ref a1), (0, .ref xa), (1, .ref (A 0)), (2, .ref (A 1)), (3, .ref (A 2)), (4, .ref (A 3)), (5, .ref (A 4)), (6, .ref (A 5)), (7, .ref (A 6)), (8, .ref (A 7)), (9, .ref (A 8)), (10, .ref (A 9)), (11, .ref (A 10)), (12, .ref (A 11)), (13, .int (zI x))]) C dL_isWalk_481 3 rfl rfl (by decide) rfl ?_
                                      refine x_goto (tgt := 264) C dL_isWalk_484 (by decide) ?_
                                      refine x_sub (lv' := [(16, .int (zI ((i : Int) + 1))), (15, .int (zI 1)), (14, .ref a1), (0, .ref xa), (1, .ref (A 0)), (2, .ref (A 1)), (3, .ref (A 2)), (4, .ref (A 3)), (5, .ref (A 4)), (6, .ref (A 5)), (7, .ref (A 6)), (8, .ref (A 7)), (9, .ref (A 8)), (10, .ref (A 9)), (11, .ref (A 10)), (12, .ref (A 11)), (13, .int (zI x))]) [0, 1, 4, 5, 6, 7, 8, 9, 10, 11, 12, 13, 14, 15, 16, 17, 18] rfl ?_
                                      refine x_wid (a := (199 + 5 * (i + 1))) (b := (1264 + 30 * (i + 1))) (by omega) (by omega) ?_
                                      exact ih264 _ (by omega) (i + 1) _ (by omega) (by omega) rfl
                          · refine x_aload C dL_isWalk_385 13 rfl ?_
                            refine z_iconst C dL_isWalk_387 ?_
                            refine x_iload C dL_isWalk_388 2 rfl ?_
                            refine z_imul C dL_isWalk_390 rfl ?_
                            refine z_iconst C dL_isWalk_391 ?_
                            refine z_iadd C dL_isWalk_392 rfl ?_
                            refine z_iald (j := 5 * i + 3) C dL_isWalk_393 hw (by omega) (by omega) (by decide) ?_
                            refine z_if_ge (tgt := 401) C dL_isWalk_394 (by decide) (rg_of (by omega) (by omega)) (fun c_171 => ?_) (fun c_171 => ?_)
                            · refine z_iconst C dL_isWalk_401 ?_
                              refine z_icmp_ne (tgt := 478) C dL_isWalk_402 (by decide) (rg_of (by omega) (by omega)) (rg_of (by omega) (by omega)) (fun c_172 => ?_) (fun c_172 => ?_)
                              · exfalso; omega
                              · refine x_aload_n C dL_isWalk_405 rfl 5 rfl ?_
                                refine x_iload C dL_isWalk_406 2 rfl ?_
                                refine x_callV (n := 1) (ci := 9) (Cn := RX8) (T := TX8) (N := 10) (cc9 := ((((199 + 5 * i) + 1) + 1) + 1)) (ss9 := ((((1264 + 30 * i) + 6) + 6) + 6)) (rest := []) C dL_isWalk_408 (c_X8_solved (kxL E) C.st G z μs xa σ n (i : Int) hC hK.1 (by omega)) gL_isWalk_X8_solved rfl (by decide +kernel) ⟨(Nat.le_of_ble_eq_true rfl), (Nat.le_of_ble_eq_true rfl)⟩ rfl hC.ob rfl rfl (Nat.le_of_ble_eq_true rfl) rfl rfl ⟨(Nat.le_trans (show _ ≤ 240 by omega) (Nat.le_of_ble_eq_true rfl)), (Nat.le_trans (show _ ≤ 1600 by omega) (Nat.le_of_ble_eq_true rfl))⟩ (fun En hEn => by (exfalso; have h9 := hEn.2; rw [hwk] at h9; omega)) (fun v173 μ174 hv175 => ?_)
                                obtain ⟨r176, hw179, h177, hm178⟩ := hv175
                                subst hw179
                                rw [hm178]
                                have hr4 := h177.2
                                rw [Int.toNat_natCast] at hr4
                                have hsov := b_solved_rg hK.1 (show i < 6 by omega)
                                refine x_stk (stk' := [.int (zI r176)]) rfl ?_
                                refine x_aload C dL_isWalk_411 14 rfl ?_
                                refine x_iload C dL_isWalk_413 2 rfl ?_
                                refine z_iald (j := i) C dL_isWalk_415 hs (by omega) (by omega) (by decide) ?_
                                refine z_i2l C dL_isWalk_416 ?_
                                refine x_callS (n := 1) (cc9 := ((((199 + 5 * i) + 1) + 1) + 1)) (ss9 := ((((1264 + 30 * i) + 6) + 6) + 6)) (rest := [.int (zI r176)]) C dL_isWalk_417 (c_L_many (kxL E) C.st G z μs ((zI ((sF σ) i)).toInt64)) gL_isWalk_L_many rfl (by decide +kernel) ⟨(Nat.le_of_ble_eq_true rfl), (Nat.le_of_ble_eq_true rfl)⟩ rfl rfl (Nat.le_of_ble_eq_true rfl) rfl rfl ⟨(Nat.le_trans (show _ ≤ 240 by omega) (Nat.le_of_ble_eq_true rfl)), (Nat.le_trans (show _ ≤ 1600 by omega) (Nat.le_of_ble_eq_true rfl))⟩ nX_no (fun v180 μ181 hv182 => ?_)
                                obtain ⟨r183, hw186, h184, hm185⟩ := hv182
                                subst hw186
                                rw [hm185]
                                have hr5 : r183 = b_solved σ i := h184.trans ((b6_cnt (f := fun s => σ 20 (6 * i + s)) (fun s hs => hK.1.r20 (6 * i + s) (by omega))).trans (hGv.so (by omega) hK.1.n7))
                                refine x_stk (stk' := [.int (zI r183), .int (zI r176)]) rfl ?_
                                refine z_icmp_ne (tgt := 478) C dL_isWalk_420 (by decide) (rg_of (by omega) (by omega)) (rg_of (by omega) (by omega)) (fun c_187 => ?_) (fun c_187 => ?_)
                                · exfalso; omega
                                · refine x_aload_n C dL_isWalk_423 rfl 5 rfl ?_
                                  refine x_iload C dL_isWalk_424 2 rfl ?_
                                  refine x_callV (n := 1) (ci := 9) (Cn := RX8) (T := TX8) (N := 10) (cc9 := (((((199 + 5 * i) + 1) + 1) + 1) + 1)) (ss9 := (((((1264 + 30 * i) + 6) + 6) + 6) + 6)) (rest := []) C dL_isWalk_426 (c_X8_score (kxL E) C.st G z μs xa σ n (i : Int) hC hK.1 (by omega)) gL_isWalk_X8_score rfl (by decide +kernel) ⟨(Nat.le_of_ble_eq_true rfl), (Nat.le_of_ble_eq_true rfl)⟩ rfl hC.ob rfl rfl (Nat.le_of_ble_eq_true rfl) rfl rfl ⟨(Nat.le_trans (show _ ≤ 240 by omega) (Nat.le_of_ble_eq_true rfl)), (Nat.le_trans (show _ ≤ 1600 by omega) (Nat.le_of_ble_eq_true rfl))⟩ (fun En hEn => by (exfalso; have h9 := hEn.2; rw [hwk] at h9; omega)) (fun v188 μ189 hv190 => ?_)
                                  obtain ⟨r191, hw194, h192, hm193⟩ := hv190
                                  subst hw194
                                  rw [hm193]
                                  have hr6 := h192.2
                                  rw [Int.toNat_natCast] at hr6
                                  refine x_stk (stk' := [.int (zI r191)]) rfl ?_
                                  refine x_aload C dL_isWalk_429 14 rfl ?_
                                  refine x_aload C dL_isWalk_431 15 rfl ?_
                                  refine x_aload C dL_isWalk_433 16 rfl ?_
                                  refine x_iload C dL_isWalk_435 2 rfl ?_
                                  refine x_callS (n := 4) (cc9 := (((((199 + 5 * i) + 1) + 1) + 1) + 1)) (ss9 := (((((1264 + 30 * i) + 6) + 6) + 6) + 6)) (rest := [.int (zI r191)]) C dL_isWalk_437 (c_L_score (kxL E) C.st G z μs (A 8) (A 9) (A 10) σ n i hK.1 (by omega) hs ht he (by omega)) gL_isWalk_L_score rfl (by decide +kernel) ⟨(Nat.le_of_ble_eq_true rfl), (Nat.le_of_ble_eq_true rfl)⟩ rfl rfl (Nat.le_of_ble_eq_true rfl) rfl rfl ⟨(Nat.le_trans (show _ ≤ 240 by omega) (Nat.le_of_ble_eq_true rfl)), (Nat.le_trans (show _ ≤ 1600 by omega) (Nat.le_of_ble_eq_true rfl))⟩ nX_no (fun v195 μ196 hv197 => ?_)
                                  obtain ⟨r198, hw201, h199, hm200⟩ := hv197
                                  subst hw201
                                  rw [hm200]
                                  have hsc : r198 = b_score σ i := h199.trans (hGv.sc (by omega) hK.1.n7)
                                  have hscr := b_score_rg hK.1 (by omega) (show i < 6 by omega) 6 (by omega)
                                  rw [hGv.sc (show i < 6 by omega) hK.1.n7] at hscr
                                  refine x_stk (stk' := [.int (zI r198), .int (zI r191)]) rfl ?_
                                  refine z_icmp_ne (tgt := 478) C dL_isWalk_440 (by decide) (rg_of (by omega) (by omega)) (rg_of (by omega) (by omega)) (fun c_202 => ?_) (fun c_202 => ?_)
                                  · exfalso; omega
                                  · refine x_aload_n C dL_isWalk_443 rfl 5 rfl ?_
                                    refine x_iload C dL_isWalk_444 2 rfl ?_
                                    refine x_callV (n := 1) (ci := 9) (Cn := RX8) (T := TX8) (N := 10) (cc9 := ((((((199 + 5 * i) + 1) + 1) + 1) + 1) + 1)) (ss9 := ((((((1264 + 30 * i) + 6) + 6) + 6) + 6) + 6)) (rest := []) C dL_isWalk_446 (c_X8_scoreAnew (kxL E) C.st G z μs xa σ n (i : Int) hC hK.1 (by omega)) gL_isWalk_X8_scoreAnew rfl (by decide +kernel) ⟨(Nat.le_of_ble_eq_true rfl), (Nat.le_of_ble_eq_true rfl)⟩ rfl hC.ob rfl rfl (Nat.le_of_ble_eq_true rfl) rfl rfl ⟨(Nat.le_trans (show _ ≤ 240 by omega) (Nat.le_of_ble_eq_true rfl)), (Nat.le_trans (show _ ≤ 1600 by omega) (Nat.le_of_ble_eq_true rfl))⟩ (fun En hEn => by (exfalso; have h9 := hEn.2; rw [hwk] at h9; omega)) (fun v203 μ204 hv205 => ?_)
                                    obtain ⟨r206, hw209, h207, hm208⟩ := hv205
                                    subst hw209
                                    rw [hm208]
                                    have hr7 := h207.2
                                    rw [Int.toNat_natCast] at hr7
                                    refine x_stk (stk' := [.int (zI r206)]) rfl ?_
                                    refine x_aload C dL_isWalk_449 14 rfl ?_
                                    refine x_aload C dL_isWalk_451 15 rfl ?_
                                    refine x_aload C dL_isWalk_453 16 rfl ?_
                                    refine x_iload C dL_isWalk_455 2 rfl ?_
                                    refine x_callS (n := 4) (cc9 := ((((((199 + 5 * i) + 1) + 1) + 1) + 1) + 1)) (ss9 := ((((((1264 + 30 * i) + 6) + 6) + 6) + 6) + 6)) (rest := [.int (zI r206)]) C dL_isWalk_457 (c_L_score (kxL E) C.st G z μs (A 8) (A 9) (A 10) σ n i hK.1 (by omega) hs ht he (by omega)) gL_isWalk_L_score rfl (by decide +kernel) ⟨(Nat.le_of_ble_eq_true rfl), (Nat.le_of_ble_eq_true rfl)⟩ rfl rfl (Nat.le_of_ble_eq_true rfl) rfl rfl ⟨(Nat.le_trans (show _ ≤ 240 by omega) (Nat.le_of_ble_eq_true rfl)), (Nat.le_trans (show _ ≤ 1600 by omega) (Nat.le_of_ble_eq_true rfl))⟩ nX_no (fun v210 μ211 hv212 => ?_)
                                    obtain ⟨r213, hw216, h214, hm215⟩ := hv212
                                    subst hw216
                                    rw [hm215]
                                    have hsd : r213 = b_score σ i := h214.trans (hGv.sc (by omega) hK.1.n7)
                                    have hsdr := b_score_rg hK.1 (by omega) (show i < 6 by omega) 6 (by omega)
                                    rw [hGv.sc (show i < 6 by omega) hK.1.n7] at hsdr
                                    refine x_stk (stk' := [.int (zI r213), .int (zI r206)]) rfl ?_
                                    refine z_icmp_ne (tgt := 478) C dL_isWalk_460 (by decide) (rg_of (by omega) (by omega)) (rg_of (by omega) (by omega)) (fun c_217 => ?_) (fun c_217 => ?_)
                                    · exfalso; omega
                                    · refine x_aload_n C dL_isWalk_463 rfl 5 rfl ?_
                                      refine x_iload C dL_isWalk_464 1 rfl ?_
                                      refine x_callV (n := 1) (ci := 9) (Cn := RX8) (T := TX8) (N := 10) (cc9 := ((((((199 + 5 * i) + 1) + 1) + 1) + 1) + 1)) (ss9 := ((((((1264 + 30 * i) + 6) + 6) + 6) + 6) + 6)) (rest := []) C dL_isWalk_466 (c_X8_walkerAt (kxL E) C.st G z μs xa σ n od hC hK.1 (by omega)) gL_isWalk_X8_walkerAt rfl (by decide +kernel) ⟨(Nat.le_of_ble_eq_true rfl), (Nat.le_of_ble_eq_true rfl)⟩ rfl hC.ob rfl rfl (Nat.le_of_ble_eq_true rfl) rfl rfl ⟨(Nat.le_trans (show _ ≤ 240 by omega) (Nat.le_of_ble_eq_true rfl)), (Nat.le_trans (show _ ≤ 1600 by omega) (Nat.le_of_ble_eq_true rfl))⟩ nX_no (fun v218 μ219 hv220 => ?_)
                                      obtain ⟨r221, hw224, h222, hm223⟩ := hv220
                                      subst hw224
                                      rw [hm223]
                                      have hr8 : r221 = (i : Int) := wAt_i (σ := σ) (by omega) (by (rw [← hod]; exact h222))
                                      refine x_stk (stk' := [.int (zI r221)]) rfl ?_
                                      refine x_iload C dL_isWalk_469 2 rfl ?_
                                      refine z_icmp_ne (tgt := 478) C dL_isWalk_471 (by decide) (rg_of (by omega) (by omega)) (rg_of (by omega) (by omega)) (fun c_225 => ?_) (fun c_225 => ?_)
                                      · exfalso; omega
                                      · refine z_iconst C dL_isWalk_474 ?_
                                        refine x_goto (tgt := 479) C dL_isWalk_475 (by decide) ?_
                                        refine x_istore (lv' := [(15, .int (zI 1)), (18, .int (zI (ot : Int))), (17, .int (zI od)), (16, .int (zI (i : Int))), (14, .ref a1), (0, .ref xa), (1, .ref (A 0)), (2, .ref (A 1)), (3, .ref (A 2)), (4, .ref (A 3)), (5, .ref (A 4)), (6, .ref (A 5)), (7, .ref (A 6)), (8, .ref (A 7)), (9, .ref (A 8)), (10, .ref (A 9)), (11, .ref (A 10)), (12, .ref (A 11)), (13, .int (zI x))]) C dL_isWalk_479 (by decide) rfl ?_
                                        refine z_iinc (lv' := [(16, .int (zI ((i : Int) + 1))), (15, .int (zI 1)), (18, .int (zI (ot : Int))), (17, .int (zI od)), (14, .ref a1), (0, .ref xa), (1, .ref (A 0)), (2, .ref (A 1)), (3, .ref (A 2)), (4, .ref (A 3)), (5, .ref (A 4)), (6, .ref (A 5)), (7, .ref (A 6)), (8, .ref (A 7)), (9, .ref (A 8)), (10, .ref (A 9)), (11, .ref (A 10)), (12, .ref (A 11)), (13, .int (zI x))]) C dL_isWalk_481 3 rfl rfl (by decide) rfl ?_
                                        refine x_goto (tgt := 264) C dL_isWalk_484 (by decide) ?_
                                        refine x_sub (lv' := [(16, .int (zI ((i : Int) + 1))), (15, .int (zI 1)), (14, .ref a1), (0, .ref xa), (1, .ref (A 0)), (2, .ref (A 1)), (3, .ref (A 2)), (4, .ref (A 3)), (5, .ref (A 4)), (6, .ref (A 5)), (7, .ref (A 6)), (8, .ref (A 7)), (9, .ref (A 8)), (10, .ref (A 9)), (11, .ref (A 10)), (12, .ref (A 11)), (13, .int (zI x))]) [0, 1, 4, 5, 6, 7, 8, 9, 10, 11, 12, 13, 14, 15, 16, 17, 18] rfl ?_
                                        refine x_wid (a := (199 + 5 * (i + 1))) (b := (1264 + 30 * (i + 1))) (by omega) (by omega) ?_
                                        exact ih264 _ (by omega) (i + 1) _ (by omega) (by omega) rfl
                            · refine z_iconst C dL_isWalk_397 ?_
                              refine x_goto (tgt := 402) C dL_isWalk_398 (by decide) ?_
                              refine z_icmp_ne (tgt := 478) C dL_isWalk_402 (by decide) (rg_of (by omega) (by omega)) (rg_of (by omega) (by omega)) (fun c_226 => ?_) (fun c_226 => ?_)
                              · exfalso; omega
                              · refine x_aload_n C dL_isWalk_405 rfl 5 rfl ?_
                                refine x_iload C dL_isWalk_406 2 rfl ?_
                                refine x_callV (n := 1) (ci := 9) (Cn := RX8) (T := TX8) (N := 10) (cc9 := ((((199 + 5 * i) + 1) + 1) + 1)) (ss9 := ((((1264 + 30 * i) + 6) + 6) + 6)) (rest := []) C dL_isWalk_408 (c_X8_solved (kxL E) C.st G z μs xa σ n (i : Int) hC hK.1 (by omega)) gL_isWalk_X8_solved rfl (by decide +kernel) ⟨(Nat.le_of_ble_eq_true rfl), (Nat.le_of_ble_eq_true rfl)⟩ rfl hC.ob rfl rfl (Nat.le_of_ble_eq_true rfl) rfl rfl ⟨(Nat.le_trans (show _ ≤ 240 by omega) (Nat.le_of_ble_eq_true rfl)), (Nat.le_trans (show _ ≤ 1600 by omega) (Nat.le_of_ble_eq_true rfl))⟩ (fun En hEn => by (exfalso; have h9 := hEn.2; rw [hwk] at h9; omega)) (fun v227 μ228 hv229 => ?_)
                                obtain ⟨r230, hw233, h231, hm232⟩ := hv229
                                subst hw233
                                rw [hm232]
                                have hr4 := h231.2
                                rw [Int.toNat_natCast] at hr4
                                have hsov := b_solved_rg hK.1 (show i < 6 by omega)
                                refine x_stk (stk' := [.int (zI r230)]) rfl ?_
                                refine x_aload C dL_isWalk_411 14 rfl ?_
                                refine x_iload C dL_isWalk_413 2 rfl ?_
                                refine z_iald (j := i) C dL_isWalk_415 hs (by omega) (by omega) (by decide) ?_
                                refine z_i2l C dL_isWalk_416 ?_
                                refine x_callS (n := 1) (cc9 := ((((199 + 5 * i) + 1) + 1) + 1)) (ss9 := ((((1264 + 30 * i) + 6) + 6) + 6)) (rest := [.int (zI r230)]) C dL_isWalk_417 (c_L_many (kxL E) C.st G z μs ((zI ((sF σ) i)).toInt64)) gL_isWalk_L_many rfl (by decide +kernel) ⟨(Nat.le_of_ble_eq_true rfl), (Nat.le_of_ble_eq_true rfl)⟩ rfl rfl (Nat.le_of_ble_eq_true rfl) rfl rfl ⟨(Nat.le_trans (show _ ≤ 240 by omega) (Nat.le_of_ble_eq_true rfl)), (Nat.le_trans (show _ ≤ 1600 by omega) (Nat.le_of_ble_eq_true rfl))⟩ nX_no (fun v234 μ235 hv236 => ?_)
                                obtain ⟨r237, hw240, h238, hm239⟩ := hv236
                                subst hw240
                                rw [hm239]
                                have hr5 : r237 = b_solved σ i := h238.trans ((b6_cnt (f := fun s => σ 20 (6 * i + s)) (fun s hs => hK.1.r20 (6 * i + s) (by omega))).trans (hGv.so (by omega) hK.1.n7))
                                refine x_stk (stk' := [.int (zI r237), .int (zI r230)]) rfl ?_
                                refine z_icmp_ne (tgt := 478) C dL_isWalk_420 (by decide) (rg_of (by omega) (by omega)) (rg_of (by omega) (by omega)) (fun c_241 => ?_) (fun c_241 => ?_)
                                · exfalso; omega
                                · refine x_aload_n C dL_isWalk_423 rfl 5 rfl ?_
                                  refine x_iload C dL_isWalk_424 2 rfl ?_
                                  refine x_callV (n := 1) (ci := 9) (Cn := RX8) (T := TX8) (N := 10) (cc9 := (((((199 + 5 * i) + 1) + 1) + 1) + 1)) (ss9 := (((((1264 + 30 * i) + 6) + 6) + 6) + 6)) (rest := []) C dL_isWalk_426 (c_X8_score (kxL E) C.st G z μs xa σ n (i : Int) hC hK.1 (by omega)) gL_isWalk_X8_score rfl (by decide +kernel) ⟨(Nat.le_of_ble_eq_true rfl), (Nat.le_of_ble_eq_true rfl)⟩ rfl hC.ob rfl rfl (Nat.le_of_ble_eq_true rfl) rfl rfl ⟨(Nat.le_trans (show _ ≤ 240 by omega) (Nat.le_of_ble_eq_true rfl)), (Nat.le_trans (show _ ≤ 1600 by omega) (Nat.le_of_ble_eq_true rfl))⟩ (fun En hEn => by (exfalso; have h9 := hEn.2; rw [hwk] at h9; omega)) (fun v242 μ243 hv244 => ?_)
                                  obtain ⟨r245, hw248, h246, hm247⟩ := hv244
                                  subst hw248
                                  rw [hm247]
                                  have hr6 := h246.2
                                  rw [Int.toNat_natCast] at hr6
                                  refine x_stk (stk' := [.int (zI r245)]) rfl ?_
                                  refine x_aload C dL_isWalk_429 14 rfl ?_
                                  refine x_aload C dL_isWalk_431 15 rfl ?_
                                  refine x_aload C dL_isWalk_433 16 rfl ?_
                                  refine x_iload C dL_isWalk_435 2 rfl ?_
                                  refine x_callS (n := 4) (cc9 := (((((199 + 5 * i) + 1) + 1) + 1) + 1)) (ss9 := (((((1264 + 30 * i) + 6) + 6) + 6) + 6)) (rest := [.int (zI r245)]) C dL_isWalk_437 (c_L_score (kxL E) C.st G z μs (A 8) (A 9) (A 10) σ n i hK.1 (by omega) hs ht he (by omega)) gL_isWalk_L_score rfl (by decide +kernel) ⟨(Nat.le_of_ble_eq_true rfl), (Nat.le_of_ble_eq_true rfl)⟩ rfl rfl (Nat.le_of_ble_eq_true rfl) rfl rfl ⟨(Nat.le_trans (show _ ≤ 240 by omega) (Nat.le_of_ble_eq_true rfl)), (Nat.le_trans (show _ ≤ 1600 by omega) (Nat.le_of_ble_eq_true rfl))⟩ nX_no (fun v249 μ250 hv251 => ?_)
                                  obtain ⟨r252, hw255, h253, hm254⟩ := hv251
                                  subst hw255
                                  rw [hm254]
                                  have hsc : r252 = b_score σ i := h253.trans (hGv.sc (by omega) hK.1.n7)
                                  have hscr := b_score_rg hK.1 (by omega) (show i < 6 by omega) 6 (by omega)
                                  rw [hGv.sc (show i < 6 by omega) hK.1.n7] at hscr
                                  refine x_stk (stk' := [.int (zI r252), .int (zI r245)]) rfl ?_
                                  refine z_icmp_ne (tgt := 478) C dL_isWalk_440 (by decide) (rg_of (by omega) (by omega)) (rg_of (by omega) (by omega)) (fun c_256 => ?_) (fun c_256 => ?_)
                                  · exfalso; omega
                                  · refine x_aload_n C dL_isWalk_443 rfl 5 rfl ?_
                                    refine x_iload C dL_isWalk_444 2 rfl ?_
                                    refine x_callV (n := 1) (ci := 9) (Cn := RX8) (T := TX8) (N := 10) (cc9 := ((((((199 + 5 * i) + 1) + 1) + 1) + 1) + 1)) (ss9 := ((((((1264 + 30 * i) + 6) + 6) + 6) + 6) + 6)) (rest := []) C dL_isWalk_446 (c_X8_scoreAnew (kxL E) C.st G z μs xa σ n (i : Int) hC hK.1 (by omega)) gL_isWalk_X8_scoreAnew rfl (by decide +kernel) ⟨(Nat.le_of_ble_eq_true rfl), (Nat.le_of_ble_eq_true rfl)⟩ rfl hC.ob rfl rfl (Nat.le_of_ble_eq_true rfl) rfl rfl ⟨(Nat.le_trans (show _ ≤ 240 by omega) (Nat.le_of_ble_eq_true rfl)), (Nat.le_trans (show _ ≤ 1600 by omega) (Nat.le_of_ble_eq_true rfl))⟩ (fun En hEn => by (exfalso; have h9 := hEn.2; rw [hwk] at h9; omega)) (fun v257 μ258 hv259 => ?_)
                                    obtain ⟨r260, hw263, h261, hm262⟩ := hv259
                                    subst hw263
                                    rw [hm262]
                                    have hr7 := h261.2
                                    rw [Int.toNat_natCast] at hr7
                                    refine x_stk (stk' := [.int (zI r260)]) rfl ?_
                                    refine x_aload C dL_isWalk_449 14 rfl ?_
                                    refine x_aload C dL_isWalk_451 15 rfl ?_
                                    refine x_aload C dL_isWalk_453 16 rfl ?_
                                    refine x_iload C dL_isWalk_455 2 rfl ?_
                                    refine x_callS (n := 4) (cc9 := ((((((199 + 5 * i) + 1) + 1) + 1) + 1) + 1)) (ss9 := ((((((1264 + 30 * i) + 6) + 6) + 6) + 6) + 6)) (rest := [.int (zI r260)]) C dL_isWalk_457 (c_L_score (kxL E) C.st G z μs (A 8) (A 9) (A 10) σ n i hK.1 (by omega) hs ht he (by omega)) gL_isWalk_L_score rfl (by decide +kernel) ⟨(Nat.le_of_ble_eq_true rfl), (Nat.le_of_ble_eq_true rfl)⟩ rfl rfl (Nat.le_of_ble_eq_true rfl) rfl rfl ⟨(Nat.le_trans (show _ ≤ 240 by omega) (Nat.le_of_ble_eq_true rfl)), (Nat.le_trans (show _ ≤ 1600 by omega) (Nat.le_of_ble_eq_true rfl))⟩ nX_no (fun v264 μ265 hv266 => ?_)
                                    obtain ⟨r267, hw270, h268, hm269⟩ := hv266
                                    subst hw270
                                    rw [hm269]
                                    have hsd : r267 = b_score σ i := h268.trans (hGv.sc (by omega) hK.1.n7)
                                    have hsdr := b_score_rg hK.1 (by omega) (show i < 6 by omega) 6 (by omega)
                                    rw [hGv.sc (show i < 6 by omega) hK.1.n7] at hsdr
                                    refine x_stk (stk' := [.int (zI r267), .int (zI r260)]) rfl ?_
                                    refine z_icmp_ne (tgt := 478) C dL_isWalk_460 (by decide) (rg_of (by omega) (by omega)) (rg_of (by omega) (by omega)) (fun c_271 => ?_) (fun c_271 => ?_)
                                    · exfalso; omega
                                    · refine x_aload_n C dL_isWalk_463 rfl 5 rfl ?_
                                      refine x_iload C dL_isWalk_464 1 rfl ?_
                                      refine x_callV (n := 1) (ci := 9) (Cn := RX8) (T := TX8) (N := 10) (cc9 := ((((((199 + 5 * i) + 1) + 1) + 1) + 1) + 1)) (ss9 := ((((((1264 + 30 * i) + 6) + 6) + 6) + 6) + 6)) (rest := []) C dL_isWalk_466 (c_X8_walkerAt (kxL E) C.st G z μs xa σ n od hC hK.1 (by omega)) gL_isWalk_X8_walkerAt rfl (by decide +kernel) ⟨(Nat.le_of_ble_eq_true rfl), (Nat.le_of_ble_eq_true rfl)⟩ rfl hC.ob rfl rfl (Nat.le_of_ble_eq_true rfl) rfl rfl ⟨(Nat.le_trans (show _ ≤ 240 by omega) (Nat.le_of_ble_eq_true rfl)), (Nat.le_trans (show _ ≤ 1600 by omega) (Nat.le_of_ble_eq_true rfl))⟩ nX_no (fun v272 μ273 hv274 => ?_)
                                      obtain ⟨r275, hw278, h276, hm277⟩ := hv274
                                      subst hw278
                                      rw [hm277]
                                      have hr8 : r275 = (i : Int) := wAt_i (σ := σ) (by omega) (by (rw [← hod]; exact h276))
                                      refine x_stk (stk' := [.int (zI r275)]) rfl ?_
                                      refine x_iload C dL_isWalk_469 2 rfl ?_
                                      refine z_icmp_ne (tgt := 478) C dL_isWalk_471 (by decide) (rg_of (by omega) (by omega)) (rg_of (by omega) (by omega)) (fun c_279 => ?_) (fun c_279 => ?_)
                                      · exfalso; omega
                                      · refine z_iconst C dL_isWalk_474 ?_
                                        refine x_goto (tgt := 479) C dL_isWalk_475 (by decide) ?_
                                        refine x_istore (lv' := [(15, .int (zI 1)), (18, .int (zI (ot : Int))), (17, .int (zI od)), (16, .int (zI (i : Int))), (14, .ref a1), (0, .ref xa), (1, .ref (A 0)), (2, .ref (A 1)), (3, .ref (A 2)), (4, .ref (A 3)), (5, .ref (A 4)), (6, .ref (A 5)), (7, .ref (A 6)), (8, .ref (A 7)), (9, .ref (A 8)), (10, .ref (A 9)), (11, .ref (A 10)), (12, .ref (A 11)), (13, .int (zI x))]) C dL_isWalk_479 (by decide) rfl ?_
                                        refine z_iinc (lv' := [(16, .int (zI ((i : Int) + 1))), (15, .int (zI 1)), (18, .int (zI (ot : Int))), (17, .int (zI od)), (14, .ref a1), (0, .ref xa), (1, .ref (A 0)), (2, .ref (A 1)), (3, .ref (A 2)), (4, .ref (A 3)), (5, .ref (A 4)), (6, .ref (A 5)), (7, .ref (A 6)), (8, .ref (A 7)), (9, .ref (A 8)), (10, .ref (A 9)), (11, .ref (A 10)), (12, .ref (A 11)), (13, .int (zI x))]) C dL_isWalk_481 3 rfl rfl (by decide) rfl ?_
                                        refine x_goto (tgt := 264) C dL_isWalk_484 (by decide) ?_
                                        refine x_sub (lv' := [(16, .int (zI ((i : Int) + 1))), (15, .int (zI 1)), (14, .ref a1), (0, .ref xa), (1, .ref (A 0)), (2, .ref (A 1)), (3, .ref (A 2)), (4, .ref (A 3)), (5, .ref (A 4)), (6, .ref (A 5)), (7, .ref (A 6)), (8, .ref (A 7)), (9, .ref (A 8)), (10, .ref (A 9)), (11, .ref (A 10)), (12, .ref (A 11)), (13, .int (zI x))]) [0, 1, 4, 5, 6, 7, 8, 9, 10, 11, 12, 13, 14, 15, 16, 17, 18] rfl ?_
                                        refine x_wid (a := (199 + 5 * (i + 1))) (b := (1264 + 30 * (i + 1))) (by omega) (by omega) ?_
                                        exact ih264 _ (by omega) (i + 1) _ (by omega) (by omega) rfl
                      · refine x_aload C dL_isWalk_291 14 rfl ?_
                        refine x_aload C dL_isWalk_293 15 rfl ?_
                        refine x_aload C dL_isWalk_295 16 rfl ?_
                        refine x_iload C dL_isWalk_297 0 rfl ?_
                        refine x_callS (n := 4) (cc9 := (199 + 5 * i)) (ss9 := (1264 + 30 * i)) (rest := []) C dL_isWalk_299 (c_L_score (kxL E) C.st G z μs (A 8) (A 9) (A 10) σ n ot hK.1 (by omega) hs ht he (by omega)) gL_isWalk_L_score rfl (by decide +kernel) ⟨(Nat.le_of_ble_eq_true rfl), (Nat.le_of_ble_eq_true rfl)⟩ rfl rfl (Nat.le_of_ble_eq_true rfl) rfl rfl ⟨(Nat.le_trans (show _ ≤ 240 by omega) (Nat.le_of_ble_eq_true rfl)), (Nat.le_trans (show _ ≤ 1600 by omega) (Nat.le_of_ble_eq_true rfl))⟩ nX_no (fun v280 μ281 hv282 => ?_)
                        obtain ⟨r283, hw286, h284, hm285⟩ := hv282
                        subst hw286
                        rw [hm285]
                        have hsa : r283 = b_score σ ot := h284.trans (hGv.sc (by omega) hK.1.n7)
                        have hsar := b_score_rg hK.1 (by omega) (show ot < 6 by omega) 6 (by omega)
                        rw [hGv.sc (show ot < 6 by omega) hK.1.n7] at hsar
                        refine x_stk (stk' := [.int (zI r283)]) rfl ?_
                        refine x_aload C dL_isWalk_302 14 rfl ?_
                        refine x_aload C dL_isWalk_304 15 rfl ?_
                        refine x_aload C dL_isWalk_306 16 rfl ?_
                        refine x_iload C dL_isWalk_308 2 rfl ?_
                        refine x_callS (n := 4) (cc9 := (199 + 5 * i)) (ss9 := (1264 + 30 * i)) (rest := [.int (zI r283)]) C dL_isWalk_310 (c_L_score (kxL E) C.st G z μs (A 8) (A 9) (A 10) σ n i hK.1 (by omega) hs ht he (by omega)) gL_isWalk_L_score rfl (by decide +kernel) ⟨(Nat.le_of_ble_eq_true rfl), (Nat.le_of_ble_eq_true rfl)⟩ rfl rfl (Nat.le_of_ble_eq_true rfl) rfl rfl ⟨(Nat.le_trans (show _ ≤ 240 by omega) (Nat.le_of_ble_eq_true rfl)), (Nat.le_trans (show _ ≤ 1600 by omega) (Nat.le_of_ble_eq_true rfl))⟩ nX_no (fun v287 μ288 hv289 => ?_)
                        obtain ⟨r290, hw293, h291, hm292⟩ := hv289
                        subst hw293
                        rw [hm292]
                        have hsb : r290 = b_score σ i := h291.trans (hGv.sc (by omega) hK.1.n7)
                        have hsbr := b_score_rg hK.1 (by omega) (show i < 6 by omega) 6 (by omega)
                        rw [hGv.sc (show i < 6 by omega) hK.1.n7] at hsbr
                        refine x_stk (stk' := [.int (zI r290), .int (zI r283)]) rfl ?_
                        refine z_isub C dL_isWalk_313 rfl ?_
                        refine x_istore (lv' := [(19, .int (zI (r283 - r290))), (18, .int (zI (ot : Int))), (17, .int (zI od)), (16, .int (zI (i : Int))), (15, .int (zI 1)), (14, .ref a1), (0, .ref xa), (1, .ref (A 0)), (2, .ref (A 1)), (3, .ref (A 2)), (4, .ref (A 3)), (5, .ref (A 4)), (6, .ref (A 5)), (7, .ref (A 6)), (8, .ref (A 7)), (9, .ref (A 8)), (10, .ref (A 9)), (11, .ref (A 10)), (12, .ref (A 11)), (13, .int (zI x))]) C dL_isWalk_314 (by decide) rfl ?_
                        refine x_iload C dL_isWalk_316 2 rfl ?_
                        refine x_iload C dL_isWalk_318 0 rfl ?_
                        refine z_if_gt (tgt := 335) C dL_isWalk_320 (by decide) (rg_of (by omega) (by omega)) (fun c_294 => ?_) (fun c_294 => ?_)
                        · refine z_iconst C dL_isWalk_335 ?_
                          refine x_goto (tgt := 340) C dL_isWalk_336 (by decide) ?_
                          refine z_iadd C dL_isWalk_340 rfl ?_
                          refine x_istore (lv' := [(17, .int (zI (od + 1))), (19, .int (zI (r283 - r290))), (18, .int (zI (ot : Int))), (16, .int (zI (i : Int))), (15, .int (zI 1)), (14, .ref a1), (0, .ref xa), (1, .ref (A 0)), (2, .ref (A 1)), (3, .ref (A 2)), (4, .ref (A 3)), (5, .ref (A 4)), (6, .ref (A 5)), (7, .ref (A 6)), (8, .ref (A 7)), (9, .ref (A 8)), (10, .ref (A 9)), (11, .ref (A 10)), (12, .ref (A 11)), (13, .int (zI x))]) C dL_isWalk_341 (by decide) rfl ?_
                          refine z_iinc (lv' := [(18, .int (zI ((ot : Int) + 1))), (17, .int (zI (od + 1))), (19, .int (zI (r283 - r290))), (16, .int (zI (i : Int))), (15, .int (zI 1)), (14, .ref a1), (0, .ref xa), (1, .ref (A 0)), (2, .ref (A 1)), (3, .ref (A 2)), (4, .ref (A 3)), (5, .ref (A 4)), (6, .ref (A 5)), (7, .ref (A 6)), (8, .ref (A 7)), (9, .ref (A 8)), (10, .ref (A 9)), (11, .ref (A 10)), (12, .ref (A 11)), (13, .int (zI x))]) C dL_isWalk_343 2 rfl rfl (by decide) rfl ?_
                          refine x_goto (tgt := 283) C dL_isWalk_346 (by decide) ?_
                          refine x_sub (lv' := [(18, .int (zI ((ot : Int) + 1))), (17, .int (zI (od + 1))), (16, .int (zI (i : Int))), (15, .int (zI 1)), (14, .ref a1), (0, .ref xa), (1, .ref (A 0)), (2, .ref (A 1)), (3, .ref (A 2)), (4, .ref (A 3)), (5, .ref (A 4)), (6, .ref (A 5)), (7, .ref (A 6)), (8, .ref (A 7)), (9, .ref (A 8)), (10, .ref (A 9)), (11, .ref (A 10)), (12, .ref (A 11)), (13, .int (zI x))]) [0, 1, 3, 4, 5, 6, 7, 8, 9, 10, 11, 12, 13, 14, 15, 16, 17, 18, 19] rfl ?_
                          exact ih283 _ (by omega) _ (ot + 1) _ (by omega) (by omega) (by (rw [show b_rank σ (i : Int) (b_score σ i) (ot + 1) = b_rank σ (i : Int) (b_score σ i) ot + (if b_score σ i < b_score σ ot ∨ (b_score σ ot = b_score σ i ∧ (ot : Int) < (i : Int)) then 1 else 0) from rfl]; split <;> omega)) (by omega) rfl
                        · refine x_iload C dL_isWalk_323 0 rfl ?_
                          refine z_if_ne (tgt := 339) C dL_isWalk_325 (by decide) (rg_of (by omega) (by omega)) (fun c_295 => ?_) (fun c_295 => ?_)
                          · refine z_iconst C dL_isWalk_339 ?_
                            refine z_iadd C dL_isWalk_340 rfl ?_
                            refine x_istore (lv' := [(17, .int (zI (od + 0))), (19, .int (zI (r283 - r290))), (18, .int (zI (ot : Int))), (16, .int (zI (i : Int))), (15, .int (zI 1)), (14, .ref a1), (0, .ref xa), (1, .ref (A 0)), (2, .ref (A 1)), (3, .ref (A 2)), (4, .ref (A 3)), (5, .ref (A 4)), (6, .ref (A 5)), (7, .ref (A 6)), (8, .ref (A 7)), (9, .ref (A 8)), (10, .ref (A 9)), (11, .ref (A 10)), (12, .ref (A 11)), (13, .int (zI x))]) C dL_isWalk_341 (by decide) rfl ?_
                            refine z_iinc (lv' := [(18, .int (zI ((ot : Int) + 1))), (17, .int (zI (od + 0))), (19, .int (zI (r283 - r290))), (16, .int (zI (i : Int))), (15, .int (zI 1)), (14, .ref a1), (0, .ref xa), (1, .ref (A 0)), (2, .ref (A 1)), (3, .ref (A 2)), (4, .ref (A 3)), (5, .ref (A 4)), (6, .ref (A 5)), (7, .ref (A 6)), (8, .ref (A 7)), (9, .ref (A 8)), (10, .ref (A 9)), (11, .ref (A 10)), (12, .ref (A 11)), (13, .int (zI x))]) C dL_isWalk_343 2 rfl rfl (by decide) rfl ?_
                            refine x_goto (tgt := 283) C dL_isWalk_346 (by decide) ?_
                            refine x_sub (lv' := [(18, .int (zI ((ot : Int) + 1))), (17, .int (zI (od + 0))), (16, .int (zI (i : Int))), (15, .int (zI 1)), (14, .ref a1), (0, .ref xa), (1, .ref (A 0)), (2, .ref (A 1)), (3, .ref (A 2)), (4, .ref (A 3)), (5, .ref (A 4)), (6, .ref (A 5)), (7, .ref (A 6)), (8, .ref (A 7)), (9, .ref (A 8)), (10, .ref (A 9)), (11, .ref (A 10)), (12, .ref (A 11)), (13, .int (zI x))]) [0, 1, 3, 4, 5, 6, 7, 8, 9, 10, 11, 12, 13, 14, 15, 16, 17, 18, 19] rfl ?_
                            exact ih283 _ (by omega) _ (ot + 1) _ (by omega) (by omega) (by (rw [show b_rank σ (i : Int) (b_score σ i) (ot + 1) = b_rank σ (i : Int) (b_score σ i) ot + (if b_score σ i < b_score σ ot ∨ (b_score σ ot = b_score σ i ∧ (ot : Int) < (i : Int)) then 1 else 0) from rfl]; split <;> omega)) (by omega) rfl
                          · refine x_iload C dL_isWalk_328 1 rfl ?_
                            refine x_iload C dL_isWalk_330 3 rfl ?_
                            refine z_icmp_ge (tgt := 339) C dL_isWalk_332 (by decide) (rg_of (by omega) (by omega)) (rg_of (by omega) (by omega)) (fun c_296 => ?_) (fun c_296 => ?_)
                            · refine z_iconst C dL_isWalk_339 ?_
                              refine z_iadd C dL_isWalk_340 rfl ?_
                              refine x_istore (lv' := [(17, .int (zI (od + 0))), (19, .int (zI (r283 - r290))), (18, .int (zI (ot : Int))), (16, .int (zI (i : Int))), (15, .int (zI 1)), (14, .ref a1), (0, .ref xa), (1, .ref (A 0)), (2, .ref (A 1)), (3, .ref (A 2)), (4, .ref (A 3)), (5, .ref (A 4)), (6, .ref (A 5)), (7, .ref (A 6)), (8, .ref (A 7)), (9, .ref (A 8)), (10, .ref (A 9)), (11, .ref (A 10)), (12, .ref (A 11)), (13, .int (zI x))]) C dL_isWalk_341 (by decide) rfl ?_
                              refine z_iinc (lv' := [(18, .int (zI ((ot : Int) + 1))), (17, .int (zI (od + 0))), (19, .int (zI (r283 - r290))), (16, .int (zI (i : Int))), (15, .int (zI 1)), (14, .ref a1), (0, .ref xa), (1, .ref (A 0)), (2, .ref (A 1)), (3, .ref (A 2)), (4, .ref (A 3)), (5, .ref (A 4)), (6, .ref (A 5)), (7, .ref (A 6)), (8, .ref (A 7)), (9, .ref (A 8)), (10, .ref (A 9)), (11, .ref (A 10)), (12, .ref (A 11)), (13, .int (zI x))]) C dL_isWalk_343 2 rfl rfl (by decide) rfl ?_
                              refine x_goto (tgt := 283) C dL_isWalk_346 (by decide) ?_
                              refine x_sub (lv' := [(18, .int (zI ((ot : Int) + 1))), (17, .int (zI (od + 0))), (16, .int (zI (i : Int))), (15, .int (zI 1)), (14, .ref a1), (0, .ref xa), (1, .ref (A 0)), (2, .ref (A 1)), (3, .ref (A 2)), (4, .ref (A 3)), (5, .ref (A 4)), (6, .ref (A 5)), (7, .ref (A 6)), (8, .ref (A 7)), (9, .ref (A 8)), (10, .ref (A 9)), (11, .ref (A 10)), (12, .ref (A 11)), (13, .int (zI x))]) [0, 1, 3, 4, 5, 6, 7, 8, 9, 10, 11, 12, 13, 14, 15, 16, 17, 18, 19] rfl ?_
                              exact ih283 _ (by omega) _ (ot + 1) _ (by omega) (by omega) (by (rw [show b_rank σ (i : Int) (b_score σ i) (ot + 1) = b_rank σ (i : Int) (b_score σ i) ot + (if b_score σ i < b_score σ ot ∨ (b_score σ ot = b_score σ i ∧ (ot : Int) < (i : Int)) then 1 else 0) from rfl]; split <;> omega)) (by omega) rfl
                            · refine z_iconst C dL_isWalk_335 ?_
                              refine x_goto (tgt := 340) C dL_isWalk_336 (by decide) ?_
                              refine z_iadd C dL_isWalk_340 rfl ?_
                              refine x_istore (lv' := [(17, .int (zI (od + 1))), (19, .int (zI (r283 - r290))), (18, .int (zI (ot : Int))), (16, .int (zI (i : Int))), (15, .int (zI 1)), (14, .ref a1), (0, .ref xa), (1, .ref (A 0)), (2, .ref (A 1)), (3, .ref (A 2)), (4, .ref (A 3)), (5, .ref (A 4)), (6, .ref (A 5)), (7, .ref (A 6)), (8, .ref (A 7)), (9, .ref (A 8)), (10, .ref (A 9)), (11, .ref (A 10)), (12, .ref (A 11)), (13, .int (zI x))]) C dL_isWalk_341 (by decide) rfl ?_
                              refine z_iinc (lv' := [(18, .int (zI ((ot : Int) + 1))), (17, .int (zI (od + 1))), (19, .int (zI (r283 - r290))), (16, .int (zI (i : Int))), (15, .int (zI 1)), (14, .ref a1), (0, .ref xa), (1, .ref (A 0)), (2, .ref (A 1)), (3, .ref (A 2)), (4, .ref (A 3)), (5, .ref (A 4)), (6, .ref (A 5)), (7, .ref (A 6)), (8, .ref (A 7)), (9, .ref (A 8)), (10, .ref (A 9)), (11, .ref (A 10)), (12, .ref (A 11)), (13, .int (zI x))]) C dL_isWalk_343 2 rfl rfl (by decide) rfl ?_
                              refine x_goto (tgt := 283) C dL_isWalk_346 (by decide) ?_
                              refine x_sub (lv' := [(18, .int (zI ((ot : Int) + 1))), (17, .int (zI (od + 1))), (16, .int (zI (i : Int))), (15, .int (zI 1)), (14, .ref a1), (0, .ref xa), (1, .ref (A 0)), (2, .ref (A 1)), (3, .ref (A 2)), (4, .ref (A 3)), (5, .ref (A 4)), (6, .ref (A 5)), (7, .ref (A 6)), (8, .ref (A 7)), (9, .ref (A 8)), (10, .ref (A 9)), (11, .ref (A 10)), (12, .ref (A 11)), (13, .int (zI x))]) [0, 1, 3, 4, 5, 6, 7, 8, 9, 10, 11, 12, 13, 14, 15, 16, 17, 18, 19] rfl ?_
                              exact ih283 _ (by omega) _ (ot + 1) _ (by omega) (by omega) (by (rw [show b_rank σ (i : Int) (b_score σ i) (ot + 1) = b_rank σ (i : Int) (b_score σ i) ot + (if b_score σ i < b_score σ ot ∨ (b_score σ ot = b_score σ i ∧ (ot : Int) < (i : Int)) then 1 else 0) from rfl]; split <;> omega)) (by omega) rfl
                  exact L283 _ _ (0) _ (by omega) (by omega) rfl (by omega) rfl
          refine x_wid (a := (199 + 5 * (0))) (b := (1264 + 30 * (0))) (by omega) (by omega) ?_
          exact L264 _ (0) _ (by omega) (by omega) rfl
        · have hst : t_st σ (s : Int) = 0 := if_pos ⟨by omega, by omega⟩
          have h8 := hK.1.r8 s (by omega)
          have h9s := hK.1.r9 s (by omega)
          have hbf : 0 ≤ b_fits σ (s + 1) ∧ b_fits σ (s + 1) ≤ 64 := ctb_rg _ 64
          have h11 := hK.1.r11 (s + 1) (by omega)
          have hln : ln σ (s + 1) ≤ 5 := by (unfold ln; omega)
          have hcg := csm_rg σ s (ln σ (s + 1) + 1)
          refine x_iload C dL_isWalk_34 1 rfl ?_
          refine z_if_eq (tgt := 261) C dL_isWalk_36 (by decide) (rg_of (by omega) (by omega)) (fun c_297 => ?_) (fun c_297 => ?_)
          · exfalso; omega
          · refine x_aload_n C dL_isWalk_39 rfl 5 rfl ?_
            refine x_aload C dL_isWalk_40 7 rfl ?_
            refine x_aload C dL_isWalk_42 8 rfl ?_
            refine x_iload C dL_isWalk_44 0 rfl ?_
            refine z_iconst C dL_isWalk_46 ?_
            refine z_iadd C dL_isWalk_47 rfl ?_
            refine x_stk (stk' := [.int (zI ((s + 1 : Nat) : Int)), .ref (A 4), .ref (A 3), .ref (A 1)]) (by rw [show (s : Int) + 1 = ((s + 1 : Nat) : Int) by omega]) ?_
            refine z_iconst C dL_isWalk_48 ?_
            refine x_callS (n := 5) (cc9 := (1 + 33 * s)) (ss9 := (64 + 200 * s)) (rest := []) C dL_isWalk_49 (c_L_all (kxL E) C.st G z μs (A 1) (A 3) (A 4) σ n (s + 1) (-1) hK.1 hh hd hy (by omega) (by omega)) gL_isWalk_L_all rfl (by decide +kernel) ⟨(Nat.le_of_ble_eq_true rfl), (Nat.le_of_ble_eq_true rfl)⟩ rfl rfl (Nat.le_of_ble_eq_true rfl) rfl rfl ⟨(Nat.le_trans (show _ ≤ 240 by omega) (Nat.le_of_ble_eq_true rfl)), (Nat.le_trans (show _ ≤ 1600 by omega) (Nat.le_of_ble_eq_true rfl))⟩ nX_no (fun v298 μ299 hv300 => ?_)
            obtain ⟨r301, hw304, h302, hm303⟩ := hv300
            subst hw304
            rw [hm303]
            refine x_stk (stk' := [.long r301]) rfl ?_
            refine x_lstore (lv' := [(17, .long r301), (16, .int (zI (s : Int))), (15, .int (zI 1)), (14, .ref a1), (0, .ref xa), (1, .ref (A 0)), (2, .ref (A 1)), (3, .ref (A 2)), (4, .ref (A 3)), (5, .ref (A 4)), (6, .ref (A 5)), (7, .ref (A 6)), (8, .ref (A 7)), (9, .ref (A 8)), (10, .ref (A 9)), (11, .ref (A 10)), (12, .ref (A 11)), (13, .int (zI x))]) C dL_isWalk_52 (by decide) rfl ?_
            refine x_aload C dL_isWalk_54 10 rfl ?_
            refine z_iconst C dL_isWalk_56 ?_
            refine x_iload C dL_isWalk_57 1 rfl ?_
            refine z_imul C dL_isWalk_59 rfl ?_
            refine z_iald (j := 2 * s) C dL_isWalk_60 hg (by omega) (by omega) (by decide) ?_
            refine x_stk (stk' := [.int (zI (σ 8 s))]) (by (rw [gF_0])) ?_
            refine x_istore (lv' := [(19, .int (zI (σ 8 s))), (17, .long r301), (16, .int (zI (s : Int))), (15, .int (zI 1)), (14, .ref a1), (0, .ref xa), (1, .ref (A 0)), (2, .ref (A 1)), (3, .ref (A 2)), (4, .ref (A 3)), (5, .ref (A 4)), (6, .ref (A 5)), (7, .ref (A 6)), (8, .ref (A 7)), (9, .ref (A 8)), (10, .ref (A 9)), (11, .ref (A 10)), (12, .ref (A 11)), (13, .int (zI x))]) C dL_isWalk_61 (by decide) rfl ?_
            refine x_aload_n C dL_isWalk_63 rfl 5 rfl ?_
            refine x_iload C dL_isWalk_64 2 rfl ?_
            refine x_callV (n := 1) (ci := 9) (Cn := RX8) (T := TX8) (N := 10) (cc9 := ((1 + 33 * s) + 1)) (ss9 := ((64 + 200 * s) + 6)) (rest := []) C dL_isWalk_66 (c_X8_fits (kxL E) C.st G z μs xa σ n (s : Int) hC hK.1 (by omega)) gL_isWalk_X8_fits rfl (by decide +kernel) ⟨(Nat.le_of_ble_eq_true rfl), (Nat.le_of_ble_eq_true rfl)⟩ rfl hC.ob rfl rfl (Nat.le_of_ble_eq_true rfl) rfl rfl ⟨(Nat.le_trans (show _ ≤ 240 by omega) (Nat.le_of_ble_eq_true rfl)), (Nat.le_trans (show _ ≤ 1600 by omega) (Nat.le_of_ble_eq_true rfl))⟩ (fun En hEn => by (exfalso; have h9 := hEn.2; rw [hst] at h9; omega)) (fun v305 μ306 hv307 => ?_)
            obtain ⟨r308, hw311, h309, hm310⟩ := hv307
            subst hw311
            rw [hm310]
            have hr1 := h309.2
            rw [Int.toNat_natCast] at hr1
            refine x_stk (stk' := [.int (zI r308)]) rfl ?_
            refine x_lload C dL_isWalk_69 1 rfl ?_
            refine x_callS (n := 1) (cc9 := ((1 + 33 * s) + 1)) (ss9 := ((64 + 200 * s) + 6)) (rest := [.int (zI r308)]) C dL_isWalk_71 (c_L_many (kxL E) C.st G z μs r301) gL_isWalk_L_many rfl (by decide +kernel) ⟨(Nat.le_of_ble_eq_true rfl), (Nat.le_of_ble_eq_true rfl)⟩ rfl rfl (Nat.le_of_ble_eq_true rfl) rfl rfl ⟨(Nat.le_trans (show _ ≤ 240 by omega) (Nat.le_of_ble_eq_true rfl)), (Nat.le_trans (show _ ≤ 1600 by omega) (Nat.le_of_ble_eq_true rfl))⟩ nX_no (fun v312 μ313 hv314 => ?_)
            obtain ⟨r315, hw318, h316, hm317⟩ := hv314
            subst hw318
            rw [hm317]
            have hm1 : r315 = b_fits σ (s + 1) := h316.trans (ctb_cong (fun j hj => h302 j hj))
            refine x_stk (stk' := [.int (zI r315), .int (zI r308)]) rfl ?_
            refine z_icmp_ne (tgt := 131) C dL_isWalk_74 (by decide) (rg_of (by omega) (by omega)) (rg_of (by omega) (by omega)) (fun c_319 => ?_) (fun c_319 => ?_)
            · exfalso; omega
            · refine x_lload C dL_isWalk_77 1 rfl ?_
              refine x_callS (n := 1) (cc9 := ((1 + 33 * s) + 1)) (ss9 := ((64 + 200 * s) + 6)) (rest := []) C dL_isWalk_79 (c_L_only (kxL E) C.st G z μs r301) gL_isWalk_L_only rfl (by decide +kernel) ⟨(Nat.le_of_ble_eq_true rfl), (Nat.le_of_ble_eq_true rfl)⟩ rfl rfl (Nat.le_of_ble_eq_true rfl) rfl rfl ⟨(Nat.le_trans (show _ ≤ 240 by omega) (Nat.le_of_ble_eq_true rfl)), (Nat.le_trans (show _ ≤ 1600 by omega) (Nat.le_of_ble_eq_true rfl))⟩ nX_no (fun v320 μ321 hv322 => ?_)
              obtain ⟨r323, hw326, h324, hm325⟩ := hv322
              subst hw326
              rw [hm325]
              have ho1 : r323 = σ 8 s := h324.trans ((uq_cong (fun j hj => h302 j hj)).trans (hGv.2 s (by omega)))
              refine x_stk (stk' := [.int (zI r323)]) rfl ?_
              refine x_iload C dL_isWalk_82 0 rfl ?_
              refine z_icmp_ne (tgt := 131) C dL_isWalk_84 (by decide) (rg_of (by omega) (by omega)) (rg_of (by omega) (by omega)) (fun c_327 => ?_) (fun c_327 => ?_)
              · exfalso; omega
              · refine x_aload_n C dL_isWalk_87 rfl 5 rfl ?_
                refine x_iload C dL_isWalk_88 2 rfl ?_
                refine x_callV (n := 1) (ci := 9) (Cn := RX8) (T := TX8) (N := 10) (cc9 := (((1 + 33 * s) + 1) + 1)) (ss9 := (((64 + 200 * s) + 6) + 6)) (rest := []) C dL_isWalk_90 (c_X8_placeOf (kxL E) C.st G z μs xa σ n (s : Int) hC hK.1 (by omega)) gL_isWalk_X8_placeOf rfl (by decide +kernel) ⟨(Nat.le_of_ble_eq_true rfl), (Nat.le_of_ble_eq_true rfl)⟩ rfl hC.ob rfl rfl (Nat.le_of_ble_eq_true rfl) rfl rfl ⟨(Nat.le_trans (show _ ≤ 240 by omega) (Nat.le_of_ble_eq_true rfl)), (Nat.le_trans (show _ ≤ 1600 by omega) (Nat.le_of_ble_eq_true rfl))⟩ (fun En hEn => by (exfalso; have h9 := hEn.2; rw [hst] at h9; omega)) (fun v328 μ329 hv330 => ?_)
                obtain ⟨r331, hw334, h332, hm333⟩ := hv330
                subst hw334
                rw [hm333]
                have hr2 := h332.2
                rw [Int.toNat_natCast] at hr2
                refine x_stk (stk' := [.int (zI r331)]) rfl ?_
                refine x_iload C dL_isWalk_93 0 rfl ?_
                refine z_icmp_ne (tgt := 131) C dL_isWalk_95 (by decide) (rg_of (by omega) (by omega)) (rg_of (by omega) (by omega)) (fun c_335 => ?_) (fun c_335 => ?_)
                · exfalso; omega
                · refine x_aload_n C dL_isWalk_98 rfl 5 rfl ?_
                  refine x_iload C dL_isWalk_99 2 rfl ?_
                  refine x_callV (n := 1) (ci := 9) (Cn := RX8) (T := TX8) (N := 10) (cc9 := ((((1 + 33 * s) + 1) + 1) + 1)) (ss9 := ((((64 + 200 * s) + 6) + 6) + 6)) (rest := []) C dL_isWalk_101 (c_X8_placeByAll (kxL E) C.st G z μs xa σ n (s : Int) hC hK.1 (by omega)) gL_isWalk_X8_placeByAll rfl (by decide +kernel) ⟨(Nat.le_of_ble_eq_true rfl), (Nat.le_of_ble_eq_true rfl)⟩ rfl hC.ob rfl rfl (Nat.le_of_ble_eq_true rfl) rfl rfl ⟨(Nat.le_trans (show _ ≤ 240 by omega) (Nat.le_of_ble_eq_true rfl)), (Nat.le_trans (show _ ≤ 1600 by omega) (Nat.le_of_ble_eq_true rfl))⟩ (fun En hEn => by (exfalso; have h9 := hEn.2; rw [hst] at h9; omega)) (fun v336 μ337 hv338 => ?_)
                  obtain ⟨r339, hw342, h340, hm341⟩ := hv338
                  subst hw342
                  rw [hm341]
                  have hr3 := h340.2
                  rw [Int.toNat_natCast, hGv.2 s (by omega)] at hr3
                  refine x_stk (stk' := [.int (zI r339)]) rfl ?_
                  refine x_iload C dL_isWalk_104 0 rfl ?_
                  refine z_icmp_ne (tgt := 131) C dL_isWalk_106 (by decide) (rg_of (by omega) (by omega)) (rg_of (by omega) (by omega)) (fun c_343 => ?_) (fun c_343 => ?_)
                  · exfalso; omega
                  · refine x_aload_n C dL_isWalk_109 rfl 5 rfl ?_
                    refine x_iload C dL_isWalk_110 2 rfl ?_
                    refine x_callV (n := 1) (ci := 9) (Cn := RX8) (T := TX8) (N := 10) (cc9 := (((((1 + 33 * s) + 1) + 1) + 1) + 1)) (ss9 := (((((64 + 200 * s) + 6) + 6) + 6) + 6)) (rest := []) C dL_isWalk_112 (c_X8_moves (kxL E) C.st G z μs xa σ n (s : Int) hC hK.1 (by omega)) gL_isWalk_X8_moves rfl (by decide +kernel) ⟨(Nat.le_of_ble_eq_true rfl), (Nat.le_of_ble_eq_true rfl)⟩ rfl hC.ob rfl rfl (Nat.le_of_ble_eq_true rfl) rfl rfl ⟨(Nat.le_trans (show _ ≤ 240 by omega) (Nat.le_of_ble_eq_true rfl)), (Nat.le_trans (show _ ≤ 1600 by omega) (Nat.le_of_ble_eq_true rfl))⟩ (fun En hEn => by (exfalso; have h9 := hEn.2; rw [hst] at h9; omega)) (fun v344 μ345 hv346 => ?_)
                    obtain ⟨r347, hw350, h348, hm349⟩ := hv346
                    subst hw350
                    rw [hm349]
                    have hr4 := h348.2
                    rw [Int.toNat_natCast] at hr4
                    refine x_stk (stk' := [.int (zI r347)]) rfl ?_
                    refine x_aload C dL_isWalk_115 11 rfl ?_
                    refine z_iconst C dL_isWalk_117 ?_
                    refine x_iload C dL_isWalk_118 2 rfl ?_
                    refine z_imul C dL_isWalk_120 rfl ?_
                    refine z_iconst C dL_isWalk_121 ?_
                    refine z_iadd C dL_isWalk_122 rfl ?_
                    refine z_iald (j := 2 * s + 1) C dL_isWalk_123 hg (by omega) (by omega) (by decide) ?_
                    refine x_stk (stk' := [.int (zI (σ 9 s)), .int (zI r347)]) (by (rw [gF_1])) ?_
                    refine z_icmp_ne (tgt := 131) C dL_isWalk_124 (by decide) (rg_of (by omega) (by omega)) (rg_of (by omega) (by omega)) (fun c_351 => ?_) (fun c_351 => ?_)
                    · exfalso; omega
                    · refine z_iconst C dL_isWalk_127 ?_
                      refine x_goto (tgt := 132) C dL_isWalk_128 (by decide) ?_
                      refine x_istore (lv' := [(15, .int (zI 1)), (19, .int (zI (σ 8 s))), (17, .long r301), (16, .int (zI (s : Int))), (14, .ref a1), (0, .ref xa), (1, .ref (A 0)), (2, .ref (A 1)), (3, .ref (A 2)), (4, .ref (A 3)), (5, .ref (A 4)), (6, .ref (A 5)), (7, .ref (A 6)), (8, .ref (A 7)), (9, .ref (A 8)), (10, .ref (A 9)), (11, .ref (A 10)), (12, .ref (A 11)), (13, .int (zI x))]) C dL_isWalk_132 (by decide) rfl ?_
                      have J157 : ∀ (μj : Mm) (ch : Int) (Cj : Nat → Int) (hC : RepC G z μj xa σ n) (hn : AI G μj (A 0) 3006 4 (nF σ)) (hh : AI G μj (A 1) 4001 64 (σ 0)) (hz : OL G μj (A 2) 4002 K) (hd : AI G μj (A 3) 4003 35 (dF σ)) (hy : AI G μj (A 4) 4004 7 (σ 6)) (hg : AI G μj (A 5) 4005 12 (gF σ)) (hu : AI G μj (A 6) 4006 7 (uF σ)) (hw : AI G μj (A 7) 3007 30 W) (hs : AI G μj (A 8) 4008 6 (sF σ)) (ht : AI G μj (A 9) 4009 6 (tF σ)) (he : AI G μj (A 10) 4010 36 (σ 22)) (hb : AI G μj (A 11) 4011 4 (σ 19)) (hcA : AI G μj a1 3001 64 Cj) (hFr : Fr 0 3004 μ μj) (hcx : ((σ 8 s = -1 ∧ ch = 0) ∨ (0 ≤ σ 8 s ∧ ch = csm σ s (ln σ (s + 1) + 1) ∧ CiOK σ s Cj (ln σ (s + 1) + 1)))), Wx E G ((((((1 + 33 * s) + 1) + 1) + 1) + 1) + 1) ((((((64 + 200 * s) + 6) + 6) + 6) + 6) + 8) 157 [(15, .int (zI 1)), (19, .int (zI (σ 8 s))), (17, .long r301), (16, .int (zI (s : Int))), (14, .ref a1), (0, .ref xa), (1, .ref (A 0)), (2, .ref (A 1)), (3, .ref (A 2)), (4, .ref (A 3)), (5, .ref (A 4)), (6, .ref (A 5)), (7, .ref (A 6)), (8, .ref (A 7)), (9, .ref (A 8)), (10, .ref (A 9)), (11, .ref (A 10)), (12, .ref (A 11)), (13, .int (zI x))] [.int (zI ch)] μj := by
                        intro μj ch Cj hC hn hh hz hd hy hg hu hw hs ht he hb hcA hFr hcx
                        have hcx2 : (σ 8 s = -1 ∧ ch = 0) ∨ (0 ≤ σ 8 s ∧ ch = csm σ s (ln σ (s + 1) + 1)) := by (rcases hcx with h | h; exact Or.inl h; exact Or.inr ⟨h.1, h.2.1⟩)
                        refine x_istore (lv' := [(20, .int (zI ch)), (15, .int (zI 1)), (19, .int (zI (σ 8 s))), (17, .long r301), (16, .int (zI (s : Int))), (14, .ref a1), (0, .ref xa), (1, .ref (A 0)), (2, .ref (A 1)), (3, .ref (A 2)), (4, .ref (A 3)), (5, .ref (A 4)), (6, .ref (A 5)), (7, .ref (A 6)), (8, .ref (A 7)), (9, .ref (A 8)), (10, .ref (A 9)), (11, .ref (A 10)), (12, .ref (A 11)), (13, .int (zI x))]) C dL_isWalk_157 (by decide) rfl ?_
                        refine x_iload C dL_isWalk_159 1 rfl ?_
                        refine z_if_eq (tgt := 207) C dL_isWalk_161 (by decide) (rg_of (by omega) (by omega)) (fun c_352 => ?_) (fun c_352 => ?_)
                        · exfalso; omega
                        · refine x_aload_n C dL_isWalk_164 rfl 6 rfl ?_
                          refine z_iconst C dL_isWalk_165 ?_
                          refine x_iload C dL_isWalk_166 4 rfl ?_
                          refine z_iconst C dL_isWalk_168 ?_
                          refine z_iconst C dL_isWalk_169 ?_
                          refine x_callSX (n := 5) (cc9 := (((((((1 + 33 * s) + 1) + 1) + 1) + 1) + 1) + 2)) (ss9 := (((((((64 + 200 * s) + 6) + 6) + 6) + 6) + 8) + 12)) (rest := []) C dL_isWalk_170 (c_L_does_3 (kxL E) C.st G z μj xa σ n (s : Int) 0 0 hC hK hn5 (by omega) (by omega) (by omega)) gL_isWalk_L_does rfl (by decide +kernel) ⟨(Nat.le_of_ble_eq_true rfl), (Nat.le_of_ble_eq_true rfl)⟩ rfl rfl (Nat.le_of_ble_eq_true rfl) rfl rfl ⟨(Nat.le_trans (show _ ≤ 240 by omega) (Nat.le_of_ble_eq_true rfl)), (Nat.le_trans (show _ ≤ 1600 by omega) (Nat.le_of_ble_eq_true rfl))⟩ nX_no (fun v353 μ354 hv355 => ?_)
                          obtain ⟨r356, hw359, h357⟩ := hv355
                          subst hw359
                          obtain ⟨hdo, hF9⟩ := h357
                          have hF360 := hF9
                          have hn := hF360.ai hn
                          have hh := hF360.ai hh
                          have hz := hF360.ol hz
                          have hd := hF360.ai hd
                          have hy := hF360.ai hy
                          have hg := hF360.ai hg
                          have hu := hF360.ai hu
                          have hw := hF360.ai hw
                          have hs := hF360.ai hs
                          have ht := hF360.ai ht
                          have he := hF360.ai he
                          have hb := hF360.ai hb
                          have hcA := hF360.ai hcA
                          have hFr : Fr 0 3004 μ μ354 := hFr.tr hF360
                          obtain ⟨hd3, hC⟩ := d3_of (by omega) h8.1 hdo
                          refine x_stk (stk' := [.int (zI r356)]) rfl ?_
                          refine x_iload C dL_isWalk_173 2 rfl ?_
                          refine z_if_ge (tgt := 183) C dL_isWalk_175 (by decide) (rg_of (by omega) (by omega)) (fun c_361 => ?_) (fun c_361 => ?_)
                          · refine x_iload C dL_isWalk_183 0 rfl ?_
                            refine z_icmp_ne (tgt := 207) C dL_isWalk_185 (by decide) (rg_of (by omega) (by omega)) (rg_of (by omega) (by omega)) (fun c_362 => ?_) (fun c_362 => ?_)
                            · exfalso; omega
                            · refine x_aload_n C dL_isWalk_188 rfl 6 rfl ?_
                              refine z_iconst C dL_isWalk_189 ?_
                              refine x_iload C dL_isWalk_190 4 rfl ?_
                              refine x_iload C dL_isWalk_192 0 rfl ?_
                              refine z_iconst C dL_isWalk_194 ?_
                              refine x_callSX (n := 5) (cc9 := ((((((((1 + 33 * s) + 1) + 1) + 1) + 1) + 1) + 2) + 2)) (ss9 := ((((((((64 + 200 * s) + 6) + 6) + 6) + 6) + 8) + 12) + 12)) (rest := []) C dL_isWalk_195 (c_L_does_4 (kxL E) C.st G z μ354 xa σ n (s : Int) ch 0 hC hK hn5 (by omega) (by omega) (by omega)) gL_isWalk_L_does rfl (by decide +kernel) ⟨(Nat.le_of_ble_eq_true rfl), (Nat.le_of_ble_eq_true rfl)⟩ rfl rfl (Nat.le_of_ble_eq_true rfl) rfl rfl ⟨(Nat.le_trans (show _ ≤ 240 by omega) (Nat.le_of_ble_eq_true rfl)), (Nat.le_trans (show _ ≤ 1600 by omega) (Nat.le_of_ble_eq_true rfl))⟩ nX_no (fun v363 μ364 hv365 => ?_)
                              obtain ⟨r366, hw369, h367⟩ := hv365
                              subst hw369
                              obtain ⟨hdo, hF9⟩ := h367
                              have hF370 := hF9
                              have hn := hF370.ai hn
                              have hh := hF370.ai hh
                              have hz := hF370.ol hz
                              have hd := hF370.ai hd
                              have hy := hF370.ai hy
                              have hg := hF370.ai hg
                              have hu := hF370.ai hu
                              have hw := hF370.ai hw
                              have hs := hF370.ai hs
                              have ht := hF370.ai ht
                              have he := hF370.ai he
                              have hb := hF370.ai hb
                              have hcA := hF370.ai hcA
                              have hFr : Fr 0 3004 μ μ364 := hFr.tr hF370
                              obtain ⟨hd4, hC⟩ := d4_of (by omega) h8.1 (by omega) hdo
                              refine x_stk (stk' := [.int (zI r366)]) rfl ?_
                              refine z_bipush C dL_isWalk_198 (by decide) ?_
                              refine z_icmp_ne (tgt := 207) C dL_isWalk_200 (by decide) (rg_of (by omega) (by omega)) (rg_of (by omega) (by omega)) (fun c_371 => ?_) (fun c_371 => ?_)
                              · exfalso; omega
                              · refine z_iconst C dL_isWalk_203 ?_
                                refine x_goto (tgt := 208) C dL_isWalk_204 (by decide) ?_
                                refine x_istore (lv' := [(15, .int (zI 1)), (20, .int (zI ch)), (19, .int (zI (σ 8 s))), (17, .long r301), (16, .int (zI (s : Int))), (14, .ref a1), (0, .ref xa), (1, .ref (A 0)), (2, .ref (A 1)), (3, .ref (A 2)), (4, .ref (A 3)), (5, .ref (A 4)), (6, .ref (A 5)), (7, .ref (A 6)), (8, .ref (A 7)), (9, .ref (A 8)), (10, .ref (A 9)), (11, .ref (A 10)), (12, .ref (A 11)), (13, .int (zI x))]) C dL_isWalk_208 (by decide) rfl ?_
                                refine z_iconst C dL_isWalk_210 ?_
                                refine x_istore (lv' := [(21, .int (zI 0)), (15, .int (zI 1)), (20, .int (zI ch)), (19, .int (zI (σ 8 s))), (17, .long r301), (16, .int (zI (s : Int))), (14, .ref a1), (0, .ref xa), (1, .ref (A 0)), (2, .ref (A 1)), (3, .ref (A 2)), (4, .ref (A 3)), (5, .ref (A 4)), (6, .ref (A 5)), (7, .ref (A 6)), (8, .ref (A 7)), (9, .ref (A 8)), (10, .ref (A 9)), (11, .ref (A 10)), (12, .ref (A 11)), (13, .int (zI x))]) C dL_isWalk_211 (by decide) rfl ?_
                                have L213 : ∀ (M9 : Nat) (k : Nat) (kz : Int) (hkz : kz = (k : Int)) (hk : (k : Int) ≤ ch) (hM9 : 12 - k = M9), Wx E G (((((((((1 + 33 * s) + 1) + 1) + 1) + 1) + 1) + 2) + 2) + 2 * k) (((((((((64 + 200 * s) + 6) + 6) + 6) + 6) + 8) + 12) + 12) + 12 * k) 213 [(21, .int (zI kz)), (15, .int (zI 1)), (20, .int (zI ch)), (19, .int (zI (σ 8 s))), (17, .long r301), (16, .int (zI (s : Int))), (14, .ref a1), (0, .ref xa), (1, .ref (A 0)), (2, .ref (A 1)), (3, .ref (A 2)), (4, .ref (A 3)), (5, .ref (A 4)), (6, .ref (A 5)), (7, .ref (A 6)), (8, .ref (A 7)), (9, .ref (A 8)), (10, .ref (A 9)), (11, .ref (A 10)), (12, .ref (A 11)), (13, .int (zI x))] [] μ364 := by
                                  intro M9
                                  induction M9 using Nat.strongRecOn with
                                  | ind M9 ih213 =>
                                    intro k kz hkz hk hM9
                                    subst hkz
                                    refine x_iload C dL_isWalk_213 0 rfl ?_
                                    refine x_iload C dL_isWalk_215 2 rfl ?_
                                    refine z_icmp_ge (tgt := 255) C dL_isWalk_217 (by decide) (rg_of (by omega) (by omega)) (rg_of (by omega) (by omega)) (fun c_372 => ?_) (fun c_372 => ?_)
                                    · refine z_iinc (lv' := [(16, .int (zI ((s : Int) + 1))), (21, .int (zI (k : Int))), (15, .int (zI 1)), (20, .int (zI ch)), (19, .int (zI (σ 8 s))), (17, .long r301), (14, .ref a1), (0, .ref xa), (1, .ref (A 0)), (2, .ref (A 1)), (3, .ref (A 2)), (4, .ref (A 3)), (5, .ref (A 4)), (6, .ref (A 5)), (7, .ref (A 6)), (8, .ref (A 7)), (9, .ref (A 8)), (10, .ref (A 9)), (11, .ref (A 10)), (12, .ref (A 11)), (13, .int (zI x))]) C dL_isWalk_255 5 rfl rfl (by decide) rfl ?_
                                      refine x_goto (tgt := 26) C dL_isWalk_258 (by decide) ?_
                                      refine x_sub (lv' := [(16, .int (zI ((s : Int) + 1))), (15, .int (zI 1)), (14, .ref a1), (0, .ref xa), (1, .ref (A 0)), (2, .ref (A 1)), (3, .ref (A 2)), (4, .ref (A 3)), (5, .ref (A 4)), (6, .ref (A 5)), (7, .ref (A 6)), (8, .ref (A 7)), (9, .ref (A 8)), (10, .ref (A 9)), (11, .ref (A 10)), (12, .ref (A 11)), (13, .int (zI x))]) [0, 2, 6, 7, 8, 9, 10, 11, 12, 13, 14, 15, 16, 17, 18, 19, 20] rfl ?_
                                      refine x_wid (a := (1 + 33 * (s + 1))) (b := (64 + 200 * (s + 1))) (by omega) (by omega) ?_
                                      exact ih26 _ (by omega) _ (s + 1) _ (by omega) _ hC hn hh hz hd hy hg hu hw hs ht he hb hcA hFr (by omega) rfl
                                    · refine x_iload C dL_isWalk_220 1 rfl ?_
                                      refine z_if_eq (tgt := 255) C dL_isWalk_222 (by decide) (rg_of (by omega) (by omega)) (fun c_373 => ?_) (fun c_373 => ?_)
                                      · exfalso; omega
                                      · have hkl : 0 ≤ σ 8 s ∧ (k : Int) < csm σ s (ln σ (s + 1) + 1) := by (rcases hcx with h | h <;> omega)
                                        have hCi : CiOK σ s Cj (ln σ (s + 1) + 1) := by (rcases hcx with h | h; exfalso; omega; exact h.2.2)
                                        have hta := d5_of (c := (k : Int)) (by omega) hkl.1 ⟨by omega, hkl.2⟩
                                        refine x_aload_n C dL_isWalk_225 rfl 7 rfl ?_
                                        refine x_iload C dL_isWalk_226 5 rfl ?_
                                        refine x_iload C dL_isWalk_228 0 rfl ?_
                                        refine x_callV (n := 2) (ci := 9) (Cn := RX8) (T := TX8) (N := 10) (cc9 := ((((((((((1 + 33 * s) + 1) + 1) + 1) + 1) + 1) + 2) + 2) + 2 * k) + 2)) (ss9 := ((((((((((64 + 200 * s) + 6) + 6) + 6) + 6) + 8) + 12) + 12) + 12 * k) + 12)) (rest := []) C dL_isWalk_230 (c_X8_cipherAt (kxL E) C.st G z μ364 xa σ n (s : Int) (k : Int) hC hK.1 hK.2 (by omega) (by omega)) gL_isWalk_X8_cipherAt rfl (by decide +kernel) ⟨(Nat.le_of_ble_eq_true rfl), (Nat.le_of_ble_eq_true rfl)⟩ rfl hC.ob rfl rfl (Nat.le_of_ble_eq_true rfl) rfl rfl ⟨(Nat.le_trans (show _ ≤ 240 by omega) (Nat.le_of_ble_eq_true rfl)), (Nat.le_trans (show _ ≤ 1600 by omega) (Nat.le_of_ble_eq_true rfl))⟩ (fun En hEn => by (exfalso; rcases hEn with ⟨-, h9⟩ | ⟨-, h9⟩ <;> (rw [hta] at h9; omega))) (fun v374 μ375 hv376 => ?_)
                                        obtain ⟨r377, hw380, h378, hm379⟩ := hv376
                                        subst hw380
                                        rw [hm379]
                                        have hbc : b_cipherAt σ (s : Int) (k : Int) (Cj k) := CiOK_at (k := (s : Int)) (c := (k : Int)) hCi (by omega) hkl.2
                                        have hrc := b_cipherAt_rg hK.1 (k := (s : Int)) ⟨by omega, by omega⟩ hkl.1 (by (have := hK.2.2.2.1 s (by omega)); (show 1 ≤ ln σ (s + 1)); unfold ln; omega) hbc
                                        have hrr : r377 = Cj k := b_cipherAt_one h378.2 hbc
                                        refine x_stk (stk' := [.int (zI r377)]) rfl ?_
                                        refine x_aload C dL_isWalk_233 6 rfl ?_
                                        refine x_iload C dL_isWalk_235 0 rfl ?_
                                        refine z_iald (j := k) C dL_isWalk_237 hcA (by omega) (by omega) (by decide) ?_
                                        refine z_i2c C dL_isWalk_238 (by omega) ?_
                                        refine z_icmp_ne (tgt := 246) C dL_isWalk_239 (by decide) (rg_of (by omega) (by omega)) (rg_of (by omega) (by omega)) (fun c_381 => ?_) (fun c_381 => ?_)
                                        · exfalso; omega
                                        · refine z_iconst C dL_isWalk_242 ?_
                                          refine x_goto (tgt := 247) C dL_isWalk_243 (by decide) ?_
                                          refine x_istore (lv' := [(15, .int (zI 1)), (21, .int (zI (k : Int))), (20, .int (zI ch)), (19, .int (zI (σ 8 s))), (17, .long r301), (16, .int (zI (s : Int))), (14, .ref a1), (0, .ref xa), (1, .ref (A 0)), (2, .ref (A 1)), (3, .ref (A 2)), (4, .ref (A 3)), (5, .ref (A 4)), (6, .ref (A 5)), (7, .ref (A 6)), (8, .ref (A 7)), (9, .ref (A 8)), (10, .ref (A 9)), (11, .ref (A 10)), (12, .ref (A 11)), (13, .int (zI x))]) C dL_isWalk_247 (by decide) rfl ?_
                                          refine z_iinc (lv' := [(21, .int (zI ((k : Int) + 1))), (15, .int (zI 1)), (20, .int (zI ch)), (19, .int (zI (σ 8 s))), (17, .long r301), (16, .int (zI (s : Int))), (14, .ref a1), (0, .ref xa), (1, .ref (A 0)), (2, .ref (A 1)), (3, .ref (A 2)), (4, .ref (A 3)), (5, .ref (A 4)), (6, .ref (A 5)), (7, .ref (A 6)), (8, .ref (A 7)), (9, .ref (A 8)), (10, .ref (A 9)), (11, .ref (A 10)), (12, .ref (A 11)), (13, .int (zI x))]) C dL_isWalk_249 1 rfl rfl (by decide) rfl ?_
                                          refine x_goto (tgt := 213) C dL_isWalk_252 (by decide) ?_
                                          refine x_wid (a := (((((((((1 + 33 * s) + 1) + 1) + 1) + 1) + 1) + 2) + 2) + 2 * (k + 1))) (b := (((((((((64 + 200 * s) + 6) + 6) + 6) + 6) + 8) + 12) + 12) + 12 * (k + 1))) (by omega) (by omega) ?_
                                          exact ih213 _ (by omega) (k + 1) _ (by omega) (by omega) rfl
                                refine x_wid (a := (((((((((1 + 33 * s) + 1) + 1) + 1) + 1) + 1) + 2) + 2) + 2 * (0))) (b := (((((((((64 + 200 * s) + 6) + 6) + 6) + 6) + 8) + 12) + 12) + 12 * (0))) (by omega) (by omega) ?_
                                exact L213 _ (0) _ (by omega) (by omega) rfl
                          · refine z_bipush C dL_isWalk_178 (by decide) ?_
                            refine x_goto (tgt := 185) C dL_isWalk_180 (by decide) ?_
                            refine z_icmp_ne (tgt := 207) C dL_isWalk_185 (by decide) (rg_of (by omega) (by omega)) (rg_of (by omega) (by omega)) (fun c_382 => ?_) (fun c_382 => ?_)
                            · exfalso; omega
                            · refine x_aload_n C dL_isWalk_188 rfl 6 rfl ?_
                              refine z_iconst C dL_isWalk_189 ?_
                              refine x_iload C dL_isWalk_190 4 rfl ?_
                              refine x_iload C dL_isWalk_192 0 rfl ?_
                              refine z_iconst C dL_isWalk_194 ?_
                              refine x_callSX (n := 5) (cc9 := ((((((((1 + 33 * s) + 1) + 1) + 1) + 1) + 1) + 2) + 2)) (ss9 := ((((((((64 + 200 * s) + 6) + 6) + 6) + 6) + 8) + 12) + 12)) (rest := []) C dL_isWalk_195 (c_L_does_4 (kxL E) C.st G z μ354 xa σ n (s : Int) ch 0 hC hK hn5 (by omega) (by omega) (by omega)) gL_isWalk_L_does rfl (by decide +kernel) ⟨(Nat.le_of_ble_eq_true rfl), (Nat.le_of_ble_eq_true rfl)⟩ rfl rfl (Nat.le_of_ble_eq_true rfl) rfl rfl ⟨(Nat.le_trans (show _ ≤ 240 by omega) (Nat.le_of_ble_eq_true rfl)), (Nat.le_trans (show _ ≤ 1600 by omega) (Nat.le_of_ble_eq_true rfl))⟩ nX_no (fun v383 μ384 hv385 => ?_)
                              obtain ⟨r386, hw389, h387⟩ := hv385
                              subst hw389
                              obtain ⟨hdo, hF9⟩ := h387
                              have hF390 := hF9
                              have hn := hF390.ai hn
                              have hh := hF390.ai hh
                              have hz := hF390.ol hz
                              have hd := hF390.ai hd
                              have hy := hF390.ai hy
                              have hg := hF390.ai hg
                              have hu := hF390.ai hu
                              have hw := hF390.ai hw
                              have hs := hF390.ai hs
                              have ht := hF390.ai ht
                              have he := hF390.ai he
                              have hb := hF390.ai hb
                              have hcA := hF390.ai hcA
                              have hFr : Fr 0 3004 μ μ384 := hFr.tr hF390
                              obtain ⟨hd4, hC⟩ := d4_of (by omega) h8.1 (by omega) hdo
                              refine x_stk (stk' := [.int (zI r386)]) rfl ?_
                              refine z_bipush C dL_isWalk_198 (by decide) ?_
                              refine z_icmp_ne (tgt := 207) C dL_isWalk_200 (by decide) (rg_of (by omega) (by omega)) (rg_of (by omega) (by omega)) (fun c_391 => ?_) (fun c_391 => ?_)
                              · exfalso; omega
                              · refine z_iconst C dL_isWalk_203 ?_
                                refine x_goto (tgt := 208) C dL_isWalk_204 (by decide) ?_
                                refine x_istore (lv' := [(15, .int (zI 1)), (20, .int (zI ch)), (19, .int (zI (σ 8 s))), (17, .long r301), (16, .int (zI (s : Int))), (14, .ref a1), (0, .ref xa), (1, .ref (A 0)), (2, .ref (A 1)), (3, .ref (A 2)), (4, .ref (A 3)), (5, .ref (A 4)), (6, .ref (A 5)), (7, .ref (A 6)), (8, .ref (A 7)), (9, .ref (A 8)), (10, .ref (A 9)), (11, .ref (A 10)), (12, .ref (A 11)), (13, .int (zI x))]) C dL_isWalk_208 (by decide) rfl ?_
                                refine z_iconst C dL_isWalk_210 ?_
                                refine x_istore (lv' := [(21, .int (zI 0)), (15, .int (zI 1)), (20, .int (zI ch)), (19, .int (zI (σ 8 s))), (17, .long r301), (16, .int (zI (s : Int))), (14, .ref a1), (0, .ref xa), (1, .ref (A 0)), (2, .ref (A 1)), (3, .ref (A 2)), (4, .ref (A 3)), (5, .ref (A 4)), (6, .ref (A 5)), (7, .ref (A 6)), (8, .ref (A 7)), (9, .ref (A 8)), (10, .ref (A 9)), (11, .ref (A 10)), (12, .ref (A 11)), (13, .int (zI x))]) C dL_isWalk_211 (by decide) rfl ?_
                                have L213 : ∀ (M9 : Nat) (k : Nat) (kz : Int) (hkz : kz = (k : Int)) (hk : (k : Int) ≤ ch) (hM9 : 12 - k = M9), Wx E G (((((((((1 + 33 * s) + 1) + 1) + 1) + 1) + 1) + 2) + 2) + 2 * k) (((((((((64 + 200 * s) + 6) + 6) + 6) + 6) + 8) + 12) + 12) + 12 * k) 213 [(21, .int (zI kz)), (15, .int (zI 1)), (20, .int (zI ch)), (19, .int (zI (σ 8 s))), (17, .long r301), (16, .int (zI (s : Int))), (14, .ref a1), (0, .ref xa), (1, .ref (A 0)), (2, .ref (A 1)), (3, .ref (A 2)), (4, .ref (A 3)), (5, .ref (A 4)), (6, .ref (A 5)), (7, .ref (A 6)), (8, .ref (A 7)), (9, .ref (A 8)), (10, .ref (A 9)), (11, .ref (A 10)), (12, .ref (A 11)), (13, .int (zI x))] [] μ384 := by
                                  intro M9
                                  induction M9 using Nat.strongRecOn with
                                  | ind M9 ih213 =>
                                    intro k kz hkz hk hM9
                                    subst hkz
                                    refine x_iload C dL_isWalk_213 0 rfl ?_
                                    refine x_iload C dL_isWalk_215 2 rfl ?_
                                    refine z_icmp_ge (tgt := 255) C dL_isWalk_217 (by decide) (rg_of (by omega) (by omega)) (rg_of (by omega) (by omega)) (fun c_392 => ?_) (fun c_392 => ?_)
                                    · refine z_iinc (lv' := [(16, .int (zI ((s : Int) + 1))), (21, .int (zI (k : Int))), (15, .int (zI 1)), (20, .int (zI ch)), (19, .int (zI (σ 8 s))), (17, .long r301), (14, .ref a1), (0, .ref xa), (1, .ref (A 0)), (2, .ref (A 1)), (3, .ref (A 2)), (4, .ref (A 3)), (5, .ref (A 4)), (6, .ref (A 5)), (7, .ref (A 6)), (8, .ref (A 7)), (9, .ref (A 8)), (10, .ref (A 9)), (11, .ref (A 10)), (12, .ref (A 11)), (13, .int (zI x))]) C dL_isWalk_255 5 rfl rfl (by decide) rfl ?_
                                      refine x_goto (tgt := 26) C dL_isWalk_258 (by decide) ?_
                                      refine x_sub (lv' := [(16, .int (zI ((s : Int) + 1))), (15, .int (zI 1)), (14, .ref a1), (0, .ref xa), (1, .ref (A 0)), (2, .ref (A 1)), (3, .ref (A 2)), (4, .ref (A 3)), (5, .ref (A 4)), (6, .ref (A 5)), (7, .ref (A 6)), (8, .ref (A 7)), (9, .ref (A 8)), (10, .ref (A 9)), (11, .ref (A 10)), (12, .ref (A 11)), (13, .int (zI x))]) [0, 2, 6, 7, 8, 9, 10, 11, 12, 13, 14, 15, 16, 17, 18, 19, 20] rfl ?_
                                      refine x_wid (a := (1 + 33 * (s + 1))) (b := (64 + 200 * (s + 1))) (by omega) (by omega) ?_
                                      exact ih26 _ (by omega) _ (s + 1) _ (by omega) _ hC hn hh hz hd hy hg hu hw hs ht he hb hcA hFr (by omega) rfl
                                    · refine x_iload C dL_isWalk_220 1 rfl ?_
                                      refine z_if_eq (tgt := 255) C dL_isWalk_222 (by decide) (rg_of (by omega) (by omega)) (fun c_393 => ?_) (fun c_393 => ?_)
                                      · exfalso; omega
                                      · have hkl : 0 ≤ σ 8 s ∧ (k : Int) < csm σ s (ln σ (s + 1) + 1) := by (rcases hcx with h | h <;> omega)
                                        have hCi : CiOK σ s Cj (ln σ (s + 1) + 1) := by (rcases hcx with h | h; exfalso; omega; exact h.2.2)
                                        have hta := d5_of (c := (k : Int)) (by omega) hkl.1 ⟨by omega, hkl.2⟩
                                        refine x_aload_n C dL_isWalk_225 rfl 7 rfl ?_
                                        refine x_iload C dL_isWalk_226 5 rfl ?_
                                        refine x_iload C dL_isWalk_228 0 rfl ?_
                                        refine x_callV (n := 2) (ci := 9) (Cn := RX8) (T := TX8) (N := 10) (cc9 := ((((((((((1 + 33 * s) + 1) + 1) + 1) + 1) + 1) + 2) + 2) + 2 * k) + 2)) (ss9 := ((((((((((64 + 200 * s) + 6) + 6) + 6) + 6) + 8) + 12) + 12) + 12 * k) + 12)) (rest := []) C dL_isWalk_230 (c_X8_cipherAt (kxL E) C.st G z μ384 xa σ n (s : Int) (k : Int) hC hK.1 hK.2 (by omega) (by omega)) gL_isWalk_X8_cipherAt rfl (by decide +kernel) ⟨(Nat.le_of_ble_eq_true rfl), (Nat.le_of_ble_eq_true rfl)⟩ rfl hC.ob rfl rfl (Nat.le_of_ble_eq_true rfl) rfl rfl ⟨(Nat.le_trans (show _ ≤ 240 by omega) (Nat.le_of_ble_eq_true rfl)), (Nat.le_trans (show _ ≤ 1600 by omega) (Nat.le_of_ble_eq_true rfl))⟩ (fun En hEn => by (exfalso; rcases hEn with ⟨-, h9⟩ | ⟨-, h9⟩ <;> (rw [hta] at h9; omega))) (fun v394 μ395 hv396 => ?_)
                                        obtain ⟨r397, hw400, h398, hm399⟩ := hv396
                                        subst hw400
                                        rw [hm399]
                                        have hbc : b_cipherAt σ (s : Int) (k : Int) (Cj k) := CiOK_at (k := (s : Int)) (c := (k : Int)) hCi (by omega) hkl.2
                                        have hrc := b_cipherAt_rg hK.1 (k := (s : Int)) ⟨by omega, by omega⟩ hkl.1 (by (have := hK.2.2.2.1 s (by omega)); (show 1 ≤ ln σ (s + 1)); unfold ln; omega) hbc
                                        have hrr : r397 = Cj k := b_cipherAt_one h398.2 hbc
                                        refine x_stk (stk' := [.int (zI r397)]) rfl ?_
                                        refine x_aload C dL_isWalk_233 6 rfl ?_
                                        refine x_iload C dL_isWalk_235 0 rfl ?_
                                        refine z_iald (j := k) C dL_isWalk_237 hcA (by omega) (by omega) (by decide) ?_
                                        refine z_i2c C dL_isWalk_238 (by omega) ?_
                                        refine z_icmp_ne (tgt := 246) C dL_isWalk_239 (by decide) (rg_of (by omega) (by omega)) (rg_of (by omega) (by omega)) (fun c_401 => ?_) (fun c_401 => ?_)
                                        · exfalso; omega
                                        · refine z_iconst C dL_isWalk_242 ?_
                                          refine x_goto (tgt := 247) C dL_isWalk_243 (by decide) ?_
                                          refine x_istore (lv' := [(15, .int (zI 1)), (21, .int (zI (k : Int))), (20, .int (zI ch)), (19, .int (zI (σ 8 s))), (17, .long r301), (16, .int (zI (s : Int))), (14, .ref a1), (0, .ref xa), (1, .ref (A 0)), (2, .ref (A 1)), (3, .ref (A 2)), (4, .ref (A 3)), (5, .ref (A 4)), (6, .ref (A 5)), (7, .ref (A 6)), (8, .ref (A 7)), (9, .ref (A 8)), (10, .ref (A 9)), (11, .ref (A 10)), (12, .ref (A 11)), (13, .int (zI x))]) C dL_isWalk_247 (by decide) rfl ?_
                                          refine z_iinc (lv' := [(21, .int (zI ((k : Int) + 1))), (15, .int (zI 1)), (20, .int (zI ch)), (19, .int (zI (σ 8 s))), (17, .long r301), (16, .int (zI (s : Int))), (14, .ref a1), (0, .ref xa), (1, .ref (A 0)), (2, .ref (A 1)), (3, .ref (A 2)), (4, .ref (A 3)), (5, .ref (A 4)), (6, .ref (A 5)), (7, .ref (A 6)), (8, .ref (A 7)), (9, .ref (A 8)), (10, .ref (A 9)), (11, .ref (A 10)), (12, .ref (A 11)), (13, .int (zI x))]) C dL_isWalk_249 1 rfl rfl (by decide) rfl ?_
                                          refine x_goto (tgt := 213) C dL_isWalk_252 (by decide) ?_
                                          refine x_wid (a := (((((((((1 + 33 * s) + 1) + 1) + 1) + 1) + 1) + 2) + 2) + 2 * (k + 1))) (b := (((((((((64 + 200 * s) + 6) + 6) + 6) + 6) + 8) + 12) + 12) + 12 * (k + 1))) (by omega) (by omega) ?_
                                          exact ih213 _ (by omega) (k + 1) _ (by omega) (by omega) rfl
                                refine x_wid (a := (((((((((1 + 33 * s) + 1) + 1) + 1) + 1) + 1) + 2) + 2) + 2 * (0))) (b := (((((((((64 + 200 * s) + 6) + 6) + 6) + 6) + 8) + 12) + 12) + 12 * (0))) (by omega) (by omega) ?_
                                exact L213 _ (0) _ (by omega) (by omega) rfl
                      refine x_iload C dL_isWalk_134 1 rfl ?_
                      refine z_if_ge (tgt := 143) C dL_isWalk_136 (by decide) (rg_of (by omega) (by omega)) (fun c_402 => ?_) (fun c_402 => ?_)
                      · refine x_aload C dL_isWalk_143 12 rfl ?_
                        refine x_iload C dL_isWalk_145 3 rfl ?_
                        refine z_iconst C dL_isWalk_147 ?_
                        refine z_iadd C dL_isWalk_148 rfl ?_
                        refine z_iald (j := s + 1) C dL_isWalk_149 hu (by omega) (by omega) (by decide) ?_
                        refine x_iload C dL_isWalk_150 1 rfl ?_
                        refine x_aload C dL_isWalk_152 4 rfl ?_
                        refine x_callS (n := 3) (cc9 := ((((((1 + 33 * s) + 1) + 1) + 1) + 1) + 1)) (ss9 := ((((((64 + 200 * s) + 6) + 6) + 6) + 6) + 8)) (rest := []) C dL_isWalk_154 (c_L_ciphers (kxL E) C.st G z μs a1 σ n s _ hK.1 (by omega) (by omega) (hK.2.2.2.1 s (by omega)) hcA) gL_isWalk_L_ciphers rfl (by decide +kernel) ⟨(Nat.le_of_ble_eq_true rfl), (Nat.le_of_ble_eq_true rfl)⟩ rfl rfl (Nat.le_of_ble_eq_true rfl) rfl rfl ⟨(Nat.le_trans (show _ ≤ 240 by omega) (Nat.le_of_ble_eq_true rfl)), (Nat.le_trans (show _ ≤ 1600 by omega) (Nat.le_of_ble_eq_true rfl))⟩ nX_no (fun v403 μ404 hv405 => ?_)
                        obtain ⟨r406, hw409, h407⟩ := hv405
                        subst hw409
                        obtain ⟨⟨hr9, C9, hcA, hCi⟩, hF9⟩ := h407
                        have hF410 := hF9
                        have hC : RepC G z μ404 xa σ n := hF410.repc hC
                        have hn := hF410.ai hn
                        have hh := hF410.ai hh
                        have hz := hF410.ol hz
                        have hd := hF410.ai hd
                        have hy := hF410.ai hy
                        have hg := hF410.ai hg
                        have hu := hF410.ai hu
                        have hw := hF410.ai hw
                        have hs := hF410.ai hs
                        have ht := hF410.ai ht
                        have he := hF410.ai he
                        have hb := hF410.ai hb
                        have hFr : Fr 0 3004 μ μ404 := hFr.tr hF410
                        refine x_stk (stk' := [.int (zI r406)]) rfl ?_
                        exact J157 _ _ _ hC hn hh hz hd hy hg hu hw hs ht he hb hcA hFr (Or.inr ⟨by omega, hr9, hCi⟩)
                      · refine z_iconst C dL_isWalk_139 ?_
                        refine x_goto (tgt := 157) C dL_isWalk_140 (by decide) ?_
                        refine x_wid (a := ((((((1 + 33 * s) + 1) + 1) + 1) + 1) + 1)) (b := ((((((64 + 200 * s) + 6) + 6) + 6) + 6) + 8)) (by omega) (by omega) ?_
                        exact J157 _ _ _ hC hn hh hz hd hy hg hu hw hs ht he hb hcA hFr (Or.inl ⟨by omega, rfl⟩)
    refine x_wid (a := (1 + 33 * (0))) (b := (64 + 200 * (0))) (by omega) (by omega) ?_
    exact L26 _ _ (0) _ (by omega) _ hC hn hh hz hd hy hg hu hw hs ht he hb hcA hFr (by omega) rfl
