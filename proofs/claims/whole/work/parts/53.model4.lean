abbrev rm_X9_sumBy : Room := { frames := 2, cells := 0, slots := 0, locals := 45 }
set_option maxHeartbeats 4000000 in
set_option maxRecDepth 100000 in
theorem c_X9_sumBy (l : Launch) (hst : l.stackTraces = false) (G : GG) (z : Nat) (μ : Mm) (m : Nat) (σ : SS) (n : Nat) (th fo cm : Int) (Ci Su : Nat → Int) (A : Nat → Nat) (p d : Int) (hM9 : RepY G μ m σ th fo cm Ci Su A) (hI : Iv σ n) (hSr : ∀ j, j < 64 → -1 ≤ Su j ∧ Su j ≤ 700) (hp : 0 ≤ p ∧ p < 64) (hd : 0 ≤ d ∧ d < 4) : Ct l yX9_sumBy wsX9_sumBy rm_X9_sumBy G z [.ref m, .int (zI p), .int (zI d)] μ (rP μ (fun r9 => (r9 = -1 ∧ so (σ 0) (σ 1) (fS Su) p (nbr p d) = 1000000) ∨ (1 ≤ r9 ∧ r9 ≤ 800 ∧ r9 = so (σ 0) (σ 1) (fS Su) p (nbr p d) ∧ r9 < 1000000))) (nX) := by
  refine ct_of (cc := cX9_sumBy) (maxL := 4) (ret := (some .int)) (own := RX9) (by decide) rfl rfl hst (Nat.le_of_ble_eq_true rfl) ?_
  intro E hLl hnm C R hT
  have in_X9 : ∀ w ∈ u_ws RX9 TX9 29, w ∈ wsX9_sumBy := by decide +kernel
  have hM8 := hM9
  obtain ⟨hO, hMA, hCi, hSu⟩ := hM9
  have hn7 := hI.n7
  have hn12 := hI.n12
  have hn18 := hI.n18
  have hn23 := hI.n23
  refine x_eq (lv' := [(0, .ref m), (1, .int (zI p)), (2, .int (zI d))]) rfl rfl ?_
  refine x_iload_n C dX9_sumBy_0 rfl 1 rfl ?_
  refine x_iload_n C dX9_sumBy_1 rfl 2 rfl ?_
  refine x_callS (n := 2) (cc9 := 0) (ss9 := 0) (rest := []) C dX9_sumBy_2 (c_X9_neighbour (kxL E) C.st G z μ p d (by omega) (by omega)) gX9_sumBy_X9_neighbour rfl (by decide +kernel) ⟨(Nat.le_of_ble_eq_true rfl), (Nat.le_of_ble_eq_true rfl)⟩ rfl rfl (Nat.le_of_ble_eq_true rfl) rfl rfl ⟨(Nat.le_of_ble_eq_true rfl), (Nat.le_of_ble_eq_true rfl)⟩ nX_no (fun v1 μ2 hv3 => ?_)
  obtain ⟨r4, hw7, h5, hm6⟩ := hv3
  subst hw7
  rw [hm6]
  have hn9 := h5
  have hn8 := nbr_rg hp d
  refine x_stk (stk' := [.int (zI r4)]) rfl ?_
  refine x_istore_n (lv' := [(3, .int (zI r4)), (0, .ref m), (1, .int (zI p)), (2, .int (zI d))]) C dX9_sumBy_5 rfl (by decide) rfl ?_
  refine x_iload_n C dX9_sumBy_6 rfl 0 rfl ?_
  refine z_iconst C dX9_sumBy_7 ?_
  refine z_icmp_eq (tgt := 30) C dX9_sumBy_8 (by decide) (rg_of (by omega) (by omega)) (rg_of (by omega) (by omega)) (fun c_8 => ?_) (fun c_8 => ?_)
  · refine z_iconst C dX9_sumBy_30 ?_
    refine x_goto (tgt := 47) C dX9_sumBy_31 (by decide) ?_
    exact x_iret C R dX9_sumBy_47 (Nat.le_of_ble_eq_true rfl) (Nat.le_of_ble_eq_true rfl) (⟨_, rfl, sb_of hn9 (by omega) hSr hI.r0 hp (by omega), rfl⟩)
  · refine x_aload_n C dX9_sumBy_11 rfl 1 rfl ?_
    refine x_get (ci := 10) (Cn := RX9) (T := TX9) (N := 29) (ref := "CairnCipherModel") C dX9_sumBy_12 in_X9 rfl hO 1 (by decide) (by decide +kernel) rfl rfl ?_
    refine x_iload_n C dX9_sumBy_15 rfl 0 rfl ?_
    refine z_zald (j := r4.toNat) C dX9_sumBy_16 (show AZ G μ (A 1) 3002 64 (σ 1) from hMA.az 1 rfl) (by omega) (by omega) (by decide) ?_
    have q_9 := hI.r1 r4.toNat (by omega)
    refine z_if_ne (tgt := 30) C dX9_sumBy_17 (by decide) (rg_of (by omega) (by omega)) (fun c_10 => ?_) (fun c_10 => ?_)
    · refine z_iconst C dX9_sumBy_30 ?_
      refine x_goto (tgt := 47) C dX9_sumBy_31 (by decide) ?_
      exact x_iret C R dX9_sumBy_47 (Nat.le_of_ble_eq_true rfl) (Nat.le_of_ble_eq_true rfl) (⟨_, rfl, sb_of hn9 (by omega) hSr hI.r0 hp (by omega), rfl⟩)
    · refine x_aload_n C dX9_sumBy_20 rfl 1 rfl ?_
      refine x_get (ci := 10) (Cn := RX9) (T := TX9) (N := 29) (ref := "CairnCipherModel") C dX9_sumBy_21 in_X9 rfl hO 28 (by decide) (by decide +kernel) rfl rfl ?_
      refine x_iload_n C dX9_sumBy_24 rfl 0 rfl ?_
      refine z_iald (j := r4.toNat) C dX9_sumBy_25 hSu (by omega) (by omega) (by decide) ?_
      have q_11 := hSr r4.toNat (by omega)
      refine z_iconst C dX9_sumBy_26 ?_
      refine z_icmp_ne (tgt := 34) C dX9_sumBy_27 (by decide) (rg_of (by omega) (by omega)) (rg_of (by omega) (by omega)) (fun c_12 => ?_) (fun c_12 => ?_)
      · refine x_aload_n C dX9_sumBy_34 rfl 1 rfl ?_
        refine x_iload_n C dX9_sumBy_35 rfl 2 rfl ?_
        refine x_iload_n C dX9_sumBy_36 rfl 0 rfl ?_
        refine x_callV (n := 2) (ci := 10) (Cn := RX9) (T := TX9) (N := 29) (cc9 := 0) (ss9 := 0) (rest := []) C dX9_sumBy_37 (c_X9_cost (kxL E) C.st G z μ _ σ _ _ _ _ _ _ _ p r4 ⟨hO, hMA, hCi, hSu⟩ hI (by omega) (by omega)) gX9_sumBy_X9_cost rfl (by decide +kernel) ⟨(Nat.le_of_ble_eq_true rfl), (Nat.le_of_ble_eq_true rfl)⟩ rfl ⟨_, _, hO⟩ rfl rfl (Nat.le_of_ble_eq_true rfl) rfl rfl ⟨(Nat.le_of_ble_eq_true rfl), (Nat.le_of_ble_eq_true rfl)⟩ nX_no (fun v13 μ14 hv15 => ?_)
        obtain ⟨r16, hw19, h17, hm18⟩ := hv15
        subst hw19
        rw [hm18]
        have hc9 := h17
        have hc8 := iabs_rg (x := σ 0 p.toNat - σ 0 (r4).toNat) (n := 9) (by (have := hI.r0 p.toNat (by omega); have := hI.r0 (r4).toNat (by omega); omega))
        refine x_stk (stk' := [.int (zI r16)]) rfl ?_
        refine x_aload_n C dX9_sumBy_40 rfl 1 rfl ?_
        refine x_get (ci := 10) (Cn := RX9) (T := TX9) (N := 29) (ref := "CairnCipherModel") C dX9_sumBy_41 in_X9 rfl hO 28 (by decide) (by decide +kernel) rfl rfl ?_
        refine x_iload_n C dX9_sumBy_44 rfl 0 rfl ?_
        refine z_iald (j := r4.toNat) C dX9_sumBy_45 hSu (by omega) (by omega) (by decide) ?_
        have q_20 := hSr r4.toNat (by omega)
        refine z_iadd C dX9_sumBy_46 rfl ?_
        exact x_iret C R dX9_sumBy_47 (Nat.le_of_ble_eq_true rfl) (Nat.le_of_ble_eq_true rfl) (⟨_, rfl, sb_of hn9 (by omega) hSr hI.r0 hp (by omega), rfl⟩)
      · refine z_iconst C dX9_sumBy_30 ?_
        refine x_goto (tgt := 47) C dX9_sumBy_31 (by decide) ?_
        exact x_iret C R dX9_sumBy_47 (Nat.le_of_ble_eq_true rfl) (Nat.le_of_ble_eq_true rfl) (⟨_, rfl, sb_of hn9 (by omega) hSr hI.r0 hp (by omega), rfl⟩)
abbrev rm_X9_laySums : Room := { frames := 3, cells := 0, slots := 0, locals := 68 }
set_option maxHeartbeats 4000000 in
set_option maxRecDepth 100000 in
theorem c_X9_laySums (l : Launch) (hst : l.stackTraces = false) (G : GG) (z : Nat) (μ : Mm) (m : Nat) (σ : SS) (n : Nat) (th fo cm : Int) (Ci Su : Nat → Int) (A : Nat → Nat) (g : Int) (hM9 : RepY G μ m σ th fo cm Ci Su A) (hI : Iv σ n) (hg : 0 ≤ g ∧ g < 64) : Ct l yX9_laySums wsX9_laySums rm_X9_laySums G z [.ref m, .int (zI g)] μ (rV (fun μ' => (∃ S', AI G μ' (A 28) 3029 64 S' ∧ SD σ g.toNat S') ∧ Fr 3029 3030 μ μ')) (nX) := by
  refine ct_of (cc := cX9_laySums) (maxL := 6) (ret := none) (own := RX9) (by decide) rfl rfl hst (Nat.le_of_ble_eq_true rfl) ?_
  intro E hLl hnm C R hT
  have in_X9 : ∀ w ∈ u_ws RX9 TX9 29, w ∈ wsX9_laySums := by decide +kernel
  have hM8 := hM9
  obtain ⟨hO, hMA, hCi, hSu⟩ := hM9
  have hn7 := hI.n7
  have hn12 := hI.n12
  have hn18 := hI.n18
  have hn23 := hI.n23
  have hFr : Fr 3029 3030 μ μ := Fr.rf
  refine x_eq (lv' := [(0, .ref m), (1, .int (zI g))]) rfl rfl ?_
  refine z_iconst C dX9_laySums_0 ?_
  refine x_istore_n (lv' := [(2, .int (zI 0)), (0, .ref m), (1, .int (zI g))]) C dX9_laySums_1 rfl (by decide) rfl ?_
  have L2 : ∀ (M9 : Nat) (μk : Mm) (k : Nat) (kz : Int) (hkz : kz = (k : Int)) (Sk : Nat → Int) (hO : OB μk m 3000 10 [.ref (A 0), .ref (A 1), .ref (A 2), .ref (A 3), .ref (A 4), .ref (A 5), .ref (A 6), .int (zI (σ 7 0)), .ref (A 8), .ref (A 9), .ref (A 10), .ref (A 11), .int (zI (σ 12 0)), .ref (A 13), .ref (A 14), .ref (A 15), .ref (A 16), .ref (A 17), .int (zI (σ 18 0)), .ref (A 19), .ref (A 20), .ref (A 21), .ref (A 22), .int (zI (σ 23 0)), .int (zI th), .int (zI fo), .ref (A 26), .int (zI cm), .ref (A 28)]) (hMA : MA G μk A σ) (hCi : AI G μk (A 26) 3027 12 Ci) (hSu : AI G μk (A 28) 3029 64 Sk) (hFr : Fr 3029 3030 μ μk) (hk : k ≤ 64) (hA : ∀ j, j < k → Sk j = if j = g.toNat then 0 else -1) (hM9 : 64 - k = M9), Wx E G 0 0 2 [(2, .int (zI kz)), (0, .ref m), (1, .int (zI g))] [] μk := by
    intro M9
    induction M9 using Nat.strongRecOn with
    | ind M9 ih2 =>
      intro μk k kz hkz Sk hO hMA hCi hSu hFr hk hA hM9
      subst hkz
      refine x_iload_n C dX9_laySums_2 rfl 0 rfl ?_
      refine z_bipush C dX9_laySums_3 (by decide) ?_
      refine z_icmp_ge (tgt := 30) C dX9_laySums_5 (by decide) (rg_of (by omega) (by omega)) (rg_of (by omega) (by omega)) (fun c_1 => ?_) (fun c_1 => ?_)
      · refine z_iconst C dX9_laySums_30 ?_
        refine x_istore_n (lv' := [(2, .int (zI 1)), (0, .ref m), (1, .int (zI g))]) C dX9_laySums_31 rfl (by decide) rfl ?_
        have L32 : ∀ (M9 : Nat) (μj : Mm) (go : Int) (Sj : Nat → Int) (hO : OB μj m 3000 10 [.ref (A 0), .ref (A 1), .ref (A 2), .ref (A 3), .ref (A 4), .ref (A 5), .ref (A 6), .int (zI (σ 7 0)), .ref (A 8), .ref (A 9), .ref (A 10), .ref (A 11), .int (zI (σ 12 0)), .ref (A 13), .ref (A 14), .ref (A 15), .ref (A 16), .ref (A 17), .int (zI (σ 18 0)), .ref (A 19), .ref (A 20), .ref (A 21), .ref (A 22), .int (zI (σ 23 0)), .int (zI th), .int (zI fo), .ref (A 26), .int (zI cm), .ref (A 28)]) (hMA : MA G μj A σ) (hCi : AI G μj (A 26) 3027 12 Ci) (hSu : AI G μj (A 28) 3029 64 Sj) (hFr : Fr 3029 3030 μ μj) (hW : WI (σ 0) (σ 1) g.toNat (fS Sj)) (hS : SI Sj) (hG : (go = 1) ∨ (go = 0 ∧ WF (σ 0) (σ 1) g.toNat (fS Sj))) (hgo : go = 0 ∨ go = 1) (hM9 : (sm (fS Sj) 64).toNat * 2 + go.toNat = M9), Wx E G 0 0 32 [(2, .int (zI go)), (0, .ref m), (1, .int (zI g))] [] μj := by
          intro M9
          induction M9 using Nat.strongRecOn with
          | ind M9 ih32 =>
            intro μj go Sj hO hMA hCi hSu hFr hW hS hG hgo hM9
            have hnn9 := sm_nn (S := fS Sj) (n := 64) (fun j hj => (hW.2.1 j hj).1)
            refine x_iload_n C dX9_laySums_32 rfl 0 rfl ?_
            refine z_if_eq (tgt := 116) C dX9_laySums_33 (by decide) (rg_of (by omega) (by omega)) (fun c_2 => ?_) (fun c_2 => ?_)
            · exact x_vret C R dX9_laySums_116 (Nat.le_of_ble_eq_true rfl) (Nat.le_of_ble_eq_true rfl) (⟨rfl, ⟨Sj, hSu, SD_of (by omega) hS (by (rcases hG with a1 | ⟨-, a2⟩); exfalso; omega; exact a2)⟩, hFr⟩)
            · refine z_iconst C dX9_laySums_36 ?_
              refine x_istore_n (lv' := [(2, .int (zI 0)), (0, .ref m), (1, .int (zI g))]) C dX9_laySums_37 rfl (by decide) rfl ?_
              refine z_iconst C dX9_laySums_38 ?_
              refine x_istore_n (lv' := [(3, .int (zI 0)), (2, .int (zI 0)), (0, .ref m), (1, .int (zI g))]) C dX9_laySums_39 rfl (by decide) rfl ?_
              have L40 : ∀ (M9 : Nat) (μp : Mm) (p : Nat) (pz : Int) (hpz : pz = (p : Int)) (go : Int) (Sp : Nat → Int) (hO : OB μp m 3000 10 [.ref (A 0), .ref (A 1), .ref (A 2), .ref (A 3), .ref (A 4), .ref (A 5), .ref (A 6), .int (zI (σ 7 0)), .ref (A 8), .ref (A 9), .ref (A 10), .ref (A 11), .int (zI (σ 12 0)), .ref (A 13), .ref (A 14), .ref (A 15), .ref (A 16), .ref (A 17), .int (zI (σ 18 0)), .ref (A 19), .ref (A 20), .ref (A 21), .ref (A 22), .int (zI (σ 23 0)), .int (zI th), .int (zI fo), .ref (A 26), .int (zI cm), .ref (A 28)]) (hMA : MA G μp A σ) (hCi : AI G μp (A 26) 3027 12 Ci) (hSu : AI G μp (A 28) 3029 64 Sp) (hFr : Fr 3029 3030 μ μp) (hp : p ≤ 64) (hW : WI (σ 0) (σ 1) g.toNat (fS Sp)) (hS : SI Sp) (hG : GP σ (sm (fS Sj) 64) Sp p go) (hM9 : 64 - p = M9), Wx E G 0 0 40 [(3, .int (zI pz)), (2, .int (zI go)), (0, .ref m), (1, .int (zI g))] [] μp := by
                intro M9
                induction M9 using Nat.strongRecOn with
                | ind M9 ih40 =>
                  intro μp p pz hpz go Sp hO hMA hCi hSu hFr hp hW hS hG hM9
                  subst hpz
                  have hgr := hG.rg
                  refine x_iload_n C dX9_laySums_40 rfl 0 rfl ?_
                  refine z_bipush C dX9_laySums_41 (by decide) ?_
                  refine z_icmp_ge (tgt := 113) C dX9_laySums_43 (by decide) (rg_of (by omega) (by omega)) (rg_of (by omega) (by omega)) (fun c_3 => ?_) (fun c_3 => ?_)
                  · have hE := GP.e (by (have e6 : p = 64 := by omega); subst e6; exact hG) hW
                    have hnn8 := sm_nn (S := fS Sp) (n := 64) (fun j hj => (hW.2.1 j hj).1)
                    refine x_goto (tgt := 32) C dX9_laySums_113 (by decide) ?_
                    refine x_sub (lv' := [(2, .int (zI go)), (0, .ref m), (1, .int (zI g))]) [1, 2, 3] rfl ?_
                    exact ih32 _ (by omega) _ _ _ hO hMA hCi hSu hFr (by omega) (by omega) (by (rcases hE with ⟨a1, -⟩ | ⟨a1, -, a3⟩); exact Or.inl a1; exact Or.inr ⟨a1, a3⟩) (by omega) rfl
                  · refine z_iconst C dX9_laySums_46 ?_
                    refine x_istore (lv' := [(4, .int (zI 0)), (3, .int (zI (p : Int))), (2, .int (zI go)), (0, .ref m), (1, .int (zI g))]) C dX9_laySums_47 (by decide) rfl ?_
                    have L49 : ∀ (M9 : Nat) (μd : Mm) (d : Nat) (dz : Int) (hdz : dz = (d : Int)) (go : Int) (Sd : Nat → Int) (hO : OB μd m 3000 10 [.ref (A 0), .ref (A 1), .ref (A 2), .ref (A 3), .ref (A 4), .ref (A 5), .ref (A 6), .int (zI (σ 7 0)), .ref (A 8), .ref (A 9), .ref (A 10), .ref (A 11), .int (zI (σ 12 0)), .ref (A 13), .ref (A 14), .ref (A 15), .ref (A 16), .ref (A 17), .int (zI (σ 18 0)), .ref (A 19), .ref (A 20), .ref (A 21), .ref (A 22), .int (zI (σ 23 0)), .int (zI th), .int (zI fo), .ref (A 26), .int (zI cm), .ref (A 28)]) (hMA : MA G μd A σ) (hCi : AI G μd (A 26) 3027 12 Ci) (hSu : AI G μd (A 28) 3029 64 Sd) (hFr : Fr 3029 3030 μ μd) (hd : d ≤ 4) (hW : WI (σ 0) (σ 1) g.toNat (fS Sd)) (hS : SI Sd) (hG : GD σ (sm (fS Sj) 64) Sd p d go) (hM9 : 4 - d = M9), Wx E G 0 0 49 [(4, .int (zI dz)), (3, .int (zI (p : Int))), (2, .int (zI go)), (0, .ref m), (1, .int (zI g))] [] μd := by
                      intro M9
                      induction M9 using Nat.strongRecOn with
                      | ind M9 ih49 =>
                        intro μd d dz hdz go Sd hO hMA hCi hSu hFr hd hW hS hG hM9
                        subst hdz
                        have hgr := hG.rg
                        have hSr := hS.r
                        refine x_iload C dX9_laySums_49 0 rfl ?_
                        refine z_iconst C dX9_laySums_51 ?_
                        refine z_icmp_ge (tgt := 107) C dX9_laySums_52 (by decide) (rg_of (by omega) (by omega)) (rg_of (by omega) (by omega)) (fun c_4 => ?_) (fun c_4 => ?_)
                        · refine z_iinc (lv' := [(3, .int (zI ((p : Int) + 1))), (4, .int (zI (d : Int))), (2, .int (zI go)), (0, .ref m), (1, .int (zI g))]) C dX9_laySums_107 1 rfl rfl (by decide) rfl ?_
                          refine x_goto (tgt := 40) C dX9_laySums_110 (by decide) ?_
                          refine x_sub (lv' := [(3, .int (zI ((p : Int) + 1))), (2, .int (zI go)), (0, .ref m), (1, .int (zI g))]) [0, 2, 3, 4] rfl ?_
                          exact ih40 _ (by omega) _ (p + 1) _ (by omega) _ _ hO hMA hCi hSu hFr (by omega) (by omega) (by omega) (by (have e4 : d = 4 := by omega); subst e4; exact hG.gp ((hW.2.1 p (by omega)).2)) rfl
                        · refine x_aload_n C dX9_laySums_55 rfl 3 rfl ?_
                          refine x_iload_n C dX9_laySums_56 rfl 1 rfl ?_
                          refine x_iload C dX9_laySums_57 0 rfl ?_
                          refine x_callV (n := 2) (ci := 10) (Cn := RX9) (T := TX9) (N := 29) (cc9 := 0) (ss9 := 0) (rest := []) C dX9_laySums_59 (c_X9_sumBy (kxL E) C.st G z μd _ σ _ _ _ _ _ _ _ (p : Int) (d : Int) ⟨hO, hMA, hCi, hSu⟩ hI hSr (by omega) (by omega)) gX9_laySums_X9_sumBy rfl (by decide +kernel) ⟨(Nat.le_of_ble_eq_true rfl), (Nat.le_of_ble_eq_true rfl)⟩ rfl ⟨_, _, hO⟩ rfl rfl (Nat.le_of_ble_eq_true rfl) rfl rfl ⟨(Nat.le_of_ble_eq_true rfl), (Nat.le_of_ble_eq_true rfl)⟩ nX_no (fun v5 μ6 hv7 => ?_)
                          obtain ⟨r8, hw11, h9, hm10⟩ := hv7
                          subst hw11
                          rw [hm10]
                          have hsb := h9
                          refine x_stk (stk' := [.int (zI r8)]) rfl ?_
                          refine x_istore (lv' := [(5, .int (zI r8)), (4, .int (zI (d : Int))), (3, .int (zI (p : Int))), (2, .int (zI go)), (0, .ref m), (1, .int (zI g))]) C dX9_laySums_62 (by decide) rfl ?_
                          refine x_iload C dX9_laySums_64 0 rfl ?_
                          refine z_iconst C dX9_laySums_66 ?_
                          refine z_icmp_eq (tgt := 101) C dX9_laySums_67 (by decide) (rg_of (by omega) (by omega)) (rg_of (by omega) (by omega)) (fun c_12 => ?_) (fun c_12 => ?_)
                          · refine z_iinc (lv' := [(4, .int (zI ((d : Int) + 1))), (5, .int (zI r8)), (3, .int (zI (p : Int))), (2, .int (zI go)), (0, .ref m), (1, .int (zI g))]) C dX9_laySums_101 1 rfl rfl (by decide) rfl ?_
                            refine x_goto (tgt := 49) C dX9_laySums_104 (by decide) ?_
                            refine x_sub (lv' := [(4, .int (zI ((d : Int) + 1))), (3, .int (zI (p : Int))), (2, .int (zI go)), (0, .ref m), (1, .int (zI g))]) [0, 2, 3, 4, 5] rfl ?_
                            exact ih49 _ (by omega) _ (d + 1) _ (by omega) _ _ hO hMA hCi hSu hFr (by omega) (by omega) (by omega) (GD_n hG (by (have hq8 : fS Sd p = if Sd p = -1 then 1000000 else Sd p := rfl); have hw8 := hW.2.1 p (by omega); split at hq8 <;> omega)) rfl
                          · refine x_aload_n C dX9_laySums_70 rfl 4 rfl ?_
                            refine x_get (ci := 10) (Cn := RX9) (T := TX9) (N := 29) (ref := "CairnCipherModel") C dX9_laySums_71 in_X9 rfl hO 28 (by decide) (by decide +kernel) rfl rfl ?_
                            refine x_iload_n C dX9_laySums_74 rfl 2 rfl ?_
                            refine z_iald (j := p) C dX9_laySums_75 hSu (by omega) (by omega) (by decide) ?_
                            have q_13 := hSr p (by omega)
                            refine z_iconst C dX9_laySums_76 ?_
                            refine z_icmp_eq (tgt := 91) C dX9_laySums_77 (by decide) (rg_of (by omega) (by omega)) (rg_of (by omega) (by omega)) (fun c_14 => ?_) (fun c_14 => ?_)
                            · refine x_aload_n C dX9_laySums_91 rfl 4 rfl ?_
                              refine x_get (ci := 10) (Cn := RX9) (T := TX9) (N := 29) (ref := "CairnCipherModel") C dX9_laySums_92 in_X9 rfl hO 28 (by decide) (by decide +kernel) rfl rfl ?_
                              refine x_iload_n C dX9_laySums_95 rfl 2 rfl ?_
                              refine x_iload C dX9_laySums_96 0 rfl ?_
                              refine z_iast (j := p) C dX9_laySums_98 hSu (by omega) (by omega) (by decide) (fun μ15 hSuw hF16 => ?_)
                              have hO := hF16.ob hO
                              have hMA : MA G μ15 A σ := hF16.ma hMA
                              have hCi := hF16.ai hCi
                              have hFr : Fr 3029 3030 μ μ15 := hFr.tr hF16
                              have hSu := hSuw
                              refine z_iconst C dX9_laySums_99 ?_
                              refine x_istore_n (lv' := [(2, .int (zI 1)), (5, .int (zI r8)), (4, .int (zI (d : Int))), (3, .int (zI (p : Int))), (0, .ref m), (1, .int (zI g))]) C dX9_laySums_100 rfl (by decide) rfl ?_
                              refine z_iinc (lv' := [(4, .int (zI ((d : Int) + 1))), (2, .int (zI 1)), (5, .int (zI r8)), (3, .int (zI (p : Int))), (0, .ref m), (1, .int (zI g))]) C dX9_laySums_101 2 rfl rfl (by decide) rfl ?_
                              refine x_goto (tgt := 49) C dX9_laySums_104 (by decide) ?_
                              refine x_sub (lv' := [(4, .int (zI ((d : Int) + 1))), (3, .int (zI (p : Int))), (2, .int (zI 1)), (0, .ref m), (1, .int (zI g))]) [0, 3, 1, 4, 5] rfl ?_
                              exact ih49 _ (by omega) _ (d + 1) _ (by omega) _ _ hO hMA hCi hSu hFr (by omega) (WI_y (d := d) hW (by omega) (by omega) (by omega) (by omega) (by (have hq8 : fS Sd p = if Sd p = -1 then 1000000 else Sd p := rfl); split at hq8 <;> omega)) (SI_up (σ := σ) (nb := nbr (p : Int) (d : Int)) hS (by omega) hI.r0 (by omega) (by omega) (by omega)).1 (GD_y hG (by omega) (by omega) (by (have hq8 : fS Sd p = if Sd p = -1 then 1000000 else Sd p := rfl); split at hq8 <;> omega)) rfl
                            · refine x_iload C dX9_laySums_80 0 rfl ?_
                              refine x_aload_n C dX9_laySums_82 rfl 4 rfl ?_
                              refine x_get (ci := 10) (Cn := RX9) (T := TX9) (N := 29) (ref := "CairnCipherModel") C dX9_laySums_83 in_X9 rfl hO 28 (by decide) (by decide +kernel) rfl rfl ?_
                              refine x_iload_n C dX9_laySums_86 rfl 2 rfl ?_
                              refine z_iald (j := p) C dX9_laySums_87 hSu (by omega) (by omega) (by decide) ?_
                              have q_17 := hSr p (by omega)
                              refine z_icmp_ge (tgt := 101) C dX9_laySums_88 (by decide) (rg_of (by omega) (by omega)) (rg_of (by omega) (by omega)) (fun c_18 => ?_) (fun c_18 => ?_)
                              · refine z_iinc (lv' := [(4, .int (zI ((d : Int) + 1))), (5, .int (zI r8)), (3, .int (zI (p : Int))), (2, .int (zI go)), (0, .ref m), (1, .int (zI g))]) C dX9_laySums_101 1 rfl rfl (by decide) rfl ?_
                                refine x_goto (tgt := 49) C dX9_laySums_104 (by decide) ?_
                                refine x_sub (lv' := [(4, .int (zI ((d : Int) + 1))), (3, .int (zI (p : Int))), (2, .int (zI go)), (0, .ref m), (1, .int (zI g))]) [0, 2, 3, 4, 5] rfl ?_
                                exact ih49 _ (by omega) _ (d + 1) _ (by omega) _ _ hO hMA hCi hSu hFr (by omega) (by omega) (by omega) (GD_n hG (by (have hq8 : fS Sd p = if Sd p = -1 then 1000000 else Sd p := rfl); have hw8 := hW.2.1 p (by omega); split at hq8 <;> omega)) rfl
                              · refine x_aload_n C dX9_laySums_91 rfl 4 rfl ?_
                                refine x_get (ci := 10) (Cn := RX9) (T := TX9) (N := 29) (ref := "CairnCipherModel") C dX9_laySums_92 in_X9 rfl hO 28 (by decide) (by decide +kernel) rfl rfl ?_
                                refine x_iload_n C dX9_laySums_95 rfl 2 rfl ?_
                                refine x_iload C dX9_laySums_96 0 rfl ?_
                                refine z_iast (j := p) C dX9_laySums_98 hSu (by omega) (by omega) (by decide) (fun μ19 hSuw hF20 => ?_)
                                have hO := hF20.ob hO
                                have hMA : MA G μ19 A σ := hF20.ma hMA
                                have hCi := hF20.ai hCi
                                have hFr : Fr 3029 3030 μ μ19 := hFr.tr hF20
                                have hSu := hSuw
                                refine z_iconst C dX9_laySums_99 ?_
                                refine x_istore_n (lv' := [(2, .int (zI 1)), (5, .int (zI r8)), (4, .int (zI (d : Int))), (3, .int (zI (p : Int))), (0, .ref m), (1, .int (zI g))]) C dX9_laySums_100 rfl (by decide) rfl ?_
                                refine z_iinc (lv' := [(4, .int (zI ((d : Int) + 1))), (2, .int (zI 1)), (5, .int (zI r8)), (3, .int (zI (p : Int))), (0, .ref m), (1, .int (zI g))]) C dX9_laySums_101 2 rfl rfl (by decide) rfl ?_
                                refine x_goto (tgt := 49) C dX9_laySums_104 (by decide) ?_
                                refine x_sub (lv' := [(4, .int (zI ((d : Int) + 1))), (3, .int (zI (p : Int))), (2, .int (zI 1)), (0, .ref m), (1, .int (zI g))]) [0, 3, 1, 4, 5] rfl ?_
                                exact ih49 _ (by omega) _ (d + 1) _ (by omega) _ _ hO hMA hCi hSu hFr (by omega) (WI_y (d := d) hW (by omega) (by omega) (by omega) (by omega) (by (have hq8 : fS Sd p = if Sd p = -1 then 1000000 else Sd p := rfl); split at hq8 <;> omega)) (SI_up (σ := σ) (nb := nbr (p : Int) (d : Int)) hS (by omega) hI.r0 (by omega) (by omega) (by omega)).1 (GD_y hG (by omega) (by omega) (by (have hq8 : fS Sd p = if Sd p = -1 then 1000000 else Sd p := rfl); split at hq8 <;> omega)) rfl
                    exact L49 _ _ (0) _ (by omega) _ _ hO hMA hCi hSu hFr (by omega) (by omega) (by omega) hG.gd rfl
              exact L40 _ _ (0) _ (by omega) _ _ hO hMA hCi hSu hFr (by omega) (by omega) (by omega) GP_0 rfl
        exact L32 _ _ _ _ hO hMA hCi hSu hFr (by refine WI_0 _ (fun j hj => ?_) (by omega); unfold fS; rw [hA j (by omega)]; split <;> rename_i q <;> split <;> omega) (SI_0 (g := g.toNat) (by omega) (fun j hj => hA j (by omega))) (Or.inl rfl) (by omega) rfl
      · refine x_aload_n C dX9_laySums_8 rfl 1 rfl ?_
        refine x_get (ci := 10) (Cn := RX9) (T := TX9) (N := 29) (ref := "CairnCipherModel") C dX9_laySums_9 in_X9 rfl hO 28 (by decide) (by decide +kernel) rfl rfl ?_
        refine x_iload_n C dX9_laySums_12 rfl 0 rfl ?_
        refine x_iload_n C dX9_laySums_13 rfl 0 rfl ?_
        refine x_iload_n C dX9_laySums_14 rfl 2 rfl ?_
        refine z_icmp_ne (tgt := 22) C dX9_laySums_15 (by decide) (rg_of (by omega) (by omega)) (rg_of (by omega) (by omega)) (fun c_21 => ?_) (fun c_21 => ?_)
        · refine z_iconst C dX9_laySums_22 ?_
          refine z_iast (j := k) C dX9_laySums_23 hSu (by omega) (by omega) (by decide) (fun μ22 hSuw hF23 => ?_)
          have hO := hF23.ob hO
          have hMA : MA G μ22 A σ := hF23.ma hMA
          have hCi := hF23.ai hCi
          have hFr : Fr 3029 3030 μ μ22 := hFr.tr hF23
          have hSu := hSuw
          refine z_iinc (lv' := [(2, .int (zI ((k : Int) + 1))), (0, .ref m), (1, .int (zI g))]) C dX9_laySums_24 0 rfl rfl (by decide) rfl ?_
          refine x_goto (tgt := 2) C dX9_laySums_27 (by decide) ?_
          exact ih2 _ (by omega) _ (k + 1) _ (by omega) _ hO hMA hCi hSu hFr (by omega) (fun j hj => by (by_cases e : j = k); subst e; rw [wr_at]; split <;> omega; rw [wr_ne e]; exact hA j (by omega)) rfl
        · refine z_iconst C dX9_laySums_18 ?_
          refine x_goto (tgt := 23) C dX9_laySums_19 (by decide) ?_
          refine z_iast (j := k) C dX9_laySums_23 hSu (by omega) (by omega) (by decide) (fun μ24 hSuw hF25 => ?_)
          have hO := hF25.ob hO
          have hMA : MA G μ24 A σ := hF25.ma hMA
          have hCi := hF25.ai hCi
          have hFr : Fr 3029 3030 μ μ24 := hFr.tr hF25
          have hSu := hSuw
          refine z_iinc (lv' := [(2, .int (zI ((k : Int) + 1))), (0, .ref m), (1, .int (zI g))]) C dX9_laySums_24 0 rfl rfl (by decide) rfl ?_
          refine x_goto (tgt := 2) C dX9_laySums_27 (by decide) ?_
          exact ih2 _ (by omega) _ (k + 1) _ (by omega) _ hO hMA hCi hSu hFr (by omega) (fun j hj => by (by_cases e : j = k); subst e; rw [wr_at]; split <;> omega; rw [wr_ne e]; exact hA j (by omega)) rfl
  exact L2 _ _ (0) _ (by omega) _ hO hMA hCi hSu hFr (by omega) (fun j hj => absurd hj (Nat.not_lt_zero j)) rfl
abbrev rm_X9_way : Room := { frames := 4, cells := 0, slots := 0, locals := 93 }
set_option maxHeartbeats 4000000 in
set_option maxRecDepth 100000 in
theorem c_X9_way (l : Launch) (hst : l.stackTraces = false) (G : GG) (z : Nat) (μ : Mm) (m : Nat) (σ : SS) (n : Nat) (th fo cm : Int) (Ci Su : Nat → Int) (A : Nat → Nat) (p q : Int) (hM9 : RepY G μ m σ th fo cm Ci Su A) (hI : Iv σ n) (hp : -2147483648 ≤ p ∧ p < 2147483648) (hq : -2147483648 ≤ q ∧ q < 2147483648) : Ct l yX9_way wsX9_way rm_X9_way G z [.ref m, .int (zI p), .int (zI q)] μ (rS (fun r9 μ' => MR G μ' m (t_pp p q) (b_way σ p q) σ (σ) r9 ∧ Fr 3000 3999 μ μ')) (nX) := by
  refine ct_of (cc := cX9_way) (maxL := 3) (ret := (some .int)) (own := RX9) (by decide) rfl rfl hst (Nat.le_of_ble_eq_true rfl) ?_
  intro E hLl hnm C R hT
  have in_X9 : ∀ w ∈ u_ws RX9 TX9 29, w ∈ wsX9_way := by decide +kernel
  have hM8 := hM9
  obtain ⟨hO, hMA, hCi, hSu⟩ := hM9
  have hn7 := hI.n7
  have hn12 := hI.n12
  have hn18 := hI.n18
  have hn23 := hI.n23
  have hFr : Fr 3000 3999 μ μ := Fr.rf
  refine x_eq (lv' := [(0, .ref m), (1, .int (zI p)), (2, .int (zI q))]) rfl rfl ?_
  refine x_aload_n C dX9_way_0 rfl 0 rfl ?_
  refine x_iload_n C dX9_way_1 rfl 1 rfl ?_
  refine x_callS (n := 1) (cc9 := 0) (ss9 := 0) (rest := [.ref m]) C dX9_way_2 (c_X9_isPlace (kxL E) C.st G z μ p (by omega)) gX9_way_X9_isPlace rfl (by decide +kernel) ⟨(Nat.le_of_ble_eq_true rfl), (Nat.le_of_ble_eq_true rfl)⟩ rfl rfl (Nat.le_of_ble_eq_true rfl) rfl rfl ⟨(Nat.le_of_ble_eq_true rfl), (Nat.le_of_ble_eq_true rfl)⟩ nX_no (fun v1 μ2 hv3 => ?_)
  obtain ⟨r4, hw7, h5, hm6⟩ := hv3
  subst hw7
  rw [hm6]
  refine x_stk (stk' := [.int (zI r4), .ref m]) rfl ?_
  refine z_if_eq (tgt := 19) C dX9_way_5 (by decide) (rg_of (by omega) (by omega)) (fun c_8 => ?_) (fun c_8 => ?_)
  · refine z_iconst C dX9_way_19 ?_
    refine z_put (ci := 10) (Cn := RX9) (T := TX9) (N := 29) (ref := "CairnCipherModel") (fs' := [.ref (A 0), .ref (A 1), .ref (A 2), .ref (A 3), .ref (A 4), .ref (A 5), .ref (A 6), .int (zI (σ 7 0)), .ref (A 8), .ref (A 9), .ref (A 10), .ref (A 11), .int (zI (σ 12 0)), .ref (A 13), .ref (A 14), .ref (A 15), .ref (A 16), .ref (A 17), .int (zI (σ 18 0)), .ref (A 19), .ref (A 20), .ref (A 21), .ref (A 22), .int (zI (σ 23 0)), .int (zI 1), .int (zI fo), .ref (A 26), .int (zI cm), .ref (A 28)]) C dX9_way_20 in_X9 rfl tyX9 tyX9_ok nmX9 hO 24 (by decide) (by decide +kernel) rfl rfl rfl rfl rfl (Nat.le_of_ble_eq_true rfl) rfl (fun μ9 hOw hF10 => ?_)
    have hMA : MA G μ9 A σ := hF10.ma hMA
    have hCi := hF10.ai hCi
    have hSu := hF10.ai hSu
    have hFr : Fr 3000 3999 μ μ9 := hFr.tr hF10
    have hO := hOw
    refine x_aload_n C dX9_way_23 rfl 0 rfl ?_
    refine x_get (ci := 10) (Cn := RX9) (T := TX9) (N := 29) (ref := "CairnCipherModel") C dX9_way_24 in_X9 rfl hO 24 (by decide) (by decide +kernel) rfl rfl ?_
    refine z_if_le (tgt := 32) C dX9_way_27 (by decide) (rg_of (by omega) (by omega)) (fun c_11 => ?_) (fun c_11 => ?_)
    · exfalso; omega
    · refine z_iconst C dX9_way_30 ?_
      exact x_iret C R dX9_way_31 (Nat.le_of_ble_eq_true rfl) (Nat.le_of_ble_eq_true rfl) (⟨_, rfl, ⟨Or.inr ⟨by (rw [show t_pp p q = 1 from by (unfold t_pp; (repeat split) <;> omega)]; omega), by (rw [show t_pp p q = 1 from by (unfold t_pp; (repeat split) <;> omega)]; exact ⟨_, _, _, _, _, hO, hMA, hCi, hSu⟩)⟩, hFr⟩⟩)
  · refine x_iload_n C dX9_way_8 rfl 2 rfl ?_
    refine x_callS (n := 1) (cc9 := 0) (ss9 := 0) (rest := [.ref m]) C dX9_way_9 (c_X9_isPlace (kxL E) C.st G z μ q (by omega)) gX9_way_X9_isPlace rfl (by decide +kernel) ⟨(Nat.le_of_ble_eq_true rfl), (Nat.le_of_ble_eq_true rfl)⟩ rfl rfl (Nat.le_of_ble_eq_true rfl) rfl rfl ⟨(Nat.le_of_ble_eq_true rfl), (Nat.le_of_ble_eq_true rfl)⟩ nX_no (fun v12 μ13 hv14 => ?_)
    obtain ⟨r15, hw18, h16, hm17⟩ := hv14
    subst hw18
    rw [hm17]
    refine x_stk (stk' := [.int (zI r15), .ref m]) rfl ?_
    refine z_if_eq (tgt := 19) C dX9_way_12 (by decide) (rg_of (by omega) (by omega)) (fun c_19 => ?_) (fun c_19 => ?_)
    · refine z_iconst C dX9_way_19 ?_
      refine z_put (ci := 10) (Cn := RX9) (T := TX9) (N := 29) (ref := "CairnCipherModel") (fs' := [.ref (A 0), .ref (A 1), .ref (A 2), .ref (A 3), .ref (A 4), .ref (A 5), .ref (A 6), .int (zI (σ 7 0)), .ref (A 8), .ref (A 9), .ref (A 10), .ref (A 11), .int (zI (σ 12 0)), .ref (A 13), .ref (A 14), .ref (A 15), .ref (A 16), .ref (A 17), .int (zI (σ 18 0)), .ref (A 19), .ref (A 20), .ref (A 21), .ref (A 22), .int (zI (σ 23 0)), .int (zI 1), .int (zI fo), .ref (A 26), .int (zI cm), .ref (A 28)]) C dX9_way_20 in_X9 rfl tyX9 tyX9_ok nmX9 hO 24 (by decide) (by decide +kernel) rfl rfl rfl rfl rfl (Nat.le_of_ble_eq_true rfl) rfl (fun μ20 hOw hF21 => ?_)
      have hMA : MA G μ20 A σ := hF21.ma hMA
      have hCi := hF21.ai hCi
      have hSu := hF21.ai hSu
      have hFr : Fr 3000 3999 μ μ20 := hFr.tr hF21
      have hO := hOw
      refine x_aload_n C dX9_way_23 rfl 0 rfl ?_
      refine x_get (ci := 10) (Cn := RX9) (T := TX9) (N := 29) (ref := "CairnCipherModel") C dX9_way_24 in_X9 rfl hO 24 (by decide) (by decide +kernel) rfl rfl ?_
      refine z_if_le (tgt := 32) C dX9_way_27 (by decide) (rg_of (by omega) (by omega)) (fun c_22 => ?_) (fun c_22 => ?_)
      · exfalso; omega
      · refine z_iconst C dX9_way_30 ?_
        exact x_iret C R dX9_way_31 (Nat.le_of_ble_eq_true rfl) (Nat.le_of_ble_eq_true rfl) (⟨_, rfl, ⟨Or.inr ⟨by (rw [show t_pp p q = 1 from by (unfold t_pp; (repeat split) <;> omega)]; omega), by (rw [show t_pp p q = 1 from by (unfold t_pp; (repeat split) <;> omega)]; exact ⟨_, _, _, _, _, hO, hMA, hCi, hSu⟩)⟩, hFr⟩⟩)
    · refine z_iconst C dX9_way_15 ?_
      refine x_goto (tgt := 20) C dX9_way_16 (by decide) ?_
      refine z_put (ci := 10) (Cn := RX9) (T := TX9) (N := 29) (ref := "CairnCipherModel") (fs' := [.ref (A 0), .ref (A 1), .ref (A 2), .ref (A 3), .ref (A 4), .ref (A 5), .ref (A 6), .int (zI (σ 7 0)), .ref (A 8), .ref (A 9), .ref (A 10), .ref (A 11), .int (zI (σ 12 0)), .ref (A 13), .ref (A 14), .ref (A 15), .ref (A 16), .ref (A 17), .int (zI (σ 18 0)), .ref (A 19), .ref (A 20), .ref (A 21), .ref (A 22), .int (zI (σ 23 0)), .int (zI 0), .int (zI fo), .ref (A 26), .int (zI cm), .ref (A 28)]) C dX9_way_20 in_X9 rfl tyX9 tyX9_ok nmX9 hO 24 (by decide) (by decide +kernel) rfl rfl rfl rfl rfl (Nat.le_of_ble_eq_true rfl) rfl (fun μ23 hOw hF24 => ?_)
      have hMA : MA G μ23 A σ := hF24.ma hMA
      have hCi := hF24.ai hCi
      have hSu := hF24.ai hSu
      have hFr : Fr 3000 3999 μ μ23 := hFr.tr hF24
      have hO := hOw
      refine x_aload_n C dX9_way_23 rfl 0 rfl ?_
      refine x_get (ci := 10) (Cn := RX9) (T := TX9) (N := 29) (ref := "CairnCipherModel") C dX9_way_24 in_X9 rfl hO 24 (by decide) (by decide +kernel) rfl rfl ?_
      refine z_if_le (tgt := 32) C dX9_way_27 (by decide) (rg_of (by omega) (by omega)) (fun c_25 => ?_) (fun c_25 => ?_)
      · refine x_aload_n C dX9_way_32 rfl 0 rfl ?_
        refine x_iload_n C dX9_way_33 rfl 2 rfl ?_
        refine x_callV (n := 1) (ci := 10) (Cn := RX9) (T := TX9) (N := 29) (cc9 := 0) (ss9 := 0) (rest := []) C dX9_way_34 (c_X9_laySums (kxL E) C.st G z μ23 _ σ _ _ _ _ _ _ _ q ⟨hO, hMA, hCi, hSu⟩ hI (by omega)) gX9_way_X9_laySums rfl (by decide +kernel) ⟨(Nat.le_of_ble_eq_true rfl), (Nat.le_of_ble_eq_true rfl)⟩ rfl ⟨_, _, hO⟩ rfl rfl (Nat.le_of_ble_eq_true rfl) rfl rfl ⟨(Nat.le_of_ble_eq_true rfl), (Nat.le_of_ble_eq_true rfl)⟩ nX_no (fun v26 μ27 hv28 => ?_)
        obtain ⟨hw32, h30⟩ := hv28
        subst hw32
        obtain ⟨⟨Sn, hSu, hSD⟩, hF9⟩ := h30
        have hF33 := hF9
        have hO := hF33.ob hO
        have hMA : MA G μ27 A σ := hF33.ma hMA
        have hCi := hF33.ai hCi
        have hFr : Fr 3000 3999 μ μ27 := hFr.tr hF33
        refine x_stk (stk' := []) rfl ?_
        refine x_aload_n C dX9_way_37 rfl 0 rfl ?_
        refine x_get (ci := 10) (Cn := RX9) (T := TX9) (N := 29) (ref := "CairnCipherModel") C dX9_way_38 in_X9 rfl hO 28 (by decide) (by decide +kernel) rfl rfl ?_
        refine x_iload_n C dX9_way_41 rfl 1 rfl ?_
        refine z_iald (j := p.toNat) C dX9_way_42 hSu (by omega) (by omega) (by decide) ?_
        have q_34 := hSD.1 p.toNat (by omega)
        exact x_iret C R dX9_way_43 (Nat.le_of_ble_eq_true rfl) (Nat.le_of_ble_eq_true rfl) (⟨_, rfl, ⟨Or.inl ⟨by (unfold t_pp; (repeat split) <;> omega), by (unfold b_way; exact hSD.way (by omega)), ⟨_, _, _, _, _, hO, hMA, hCi, hSu⟩⟩, hFr⟩⟩)
      · exfalso; omega
abbrev rm_X9_wayByRounds : Room := { frames := 5, cells := 0, slots := 0, locals := 115 }
set_option maxHeartbeats 4000000 in
set_option maxRecDepth 100000 in
theorem c_X9_wayByRounds (l : Launch) (hst : l.stackTraces = false) (G : GG) (z : Nat) (μ : Mm) (m : Nat) (σ : SS) (n : Nat) (th fo cm : Int) (Ci Su : Nat → Int) (A : Nat → Nat) (p q : Int) (hM9 : RepY G μ m σ th fo cm Ci Su A) (hI : Iv σ n) (hp : -2147483648 ≤ p ∧ p < 2147483648) (hq : -2147483648 ≤ q ∧ q < 2147483648) : Ct l yX9_wayByRounds wsX9_wayByRounds rm_X9_wayByRounds G z [.ref m, .int (zI p), .int (zI q)] μ (rS (fun r9 μ' => MR G μ' m (t_pp p q) (b_way σ p q) σ (σ) r9 ∧ Fr 3000 3999 μ μ')) (nX) := by
  refine ct_of (cc := cX9_wayByRounds) (maxL := 3) (ret := (some .int)) (own := RX9) (by decide) rfl rfl hst (Nat.le_of_ble_eq_true rfl) ?_
  intro E hLl hnm C R hT
  have hM8 := hM9
  obtain ⟨hO, hMA, hCi, hSu⟩ := hM9
  have hn7 := hI.n7
  have hn12 := hI.n12
  have hn18 := hI.n18
  have hn23 := hI.n23
  have hFr : Fr 3000 3999 μ μ := Fr.rf
  refine x_eq (lv' := [(0, .ref m), (1, .int (zI p)), (2, .int (zI q))]) rfl rfl ?_
  refine x_aload_n C dX9_wayByRounds_0 rfl 0 rfl ?_
  refine x_iload_n C dX9_wayByRounds_1 rfl 1 rfl ?_
  refine x_iload_n C dX9_wayByRounds_2 rfl 2 rfl ?_
  refine x_callV (n := 2) (ci := 10) (Cn := RX9) (T := TX9) (N := 29) (cc9 := 0) (ss9 := 0) (rest := []) C dX9_wayByRounds_3 (c_X9_way (kxL E) C.st G z μ _ σ _ _ _ _ _ _ _ p q ⟨hO, hMA, hCi, hSu⟩ hI (by omega) (by omega)) gX9_wayByRounds_X9_way rfl (by decide +kernel) ⟨(Nat.le_of_ble_eq_true rfl), (Nat.le_of_ble_eq_true rfl)⟩ rfl ⟨_, _, hO⟩ rfl rfl (Nat.le_of_ble_eq_true rfl) rfl rfl ⟨(Nat.le_of_ble_eq_true rfl), (Nat.le_of_ble_eq_true rfl)⟩ nX_no (fun v1 μ2 hv3 => ?_)
  obtain ⟨r4, hw7, h5⟩ := hv3
  subst hw7
  obtain ⟨hmr9, hF9⟩ := h5
  have hF8 := hF9
  have hFr : Fr 3000 3999 μ μ2 := hFr.tr hF8
  refine x_stk (stk' := [.int (zI r4)]) rfl ?_
  exact x_iret C R dX9_wayByRounds_6 (Nat.le_of_ble_eq_true rfl) (Nat.le_of_ble_eq_true rfl) (⟨_, rfl, ⟨hmr9, hFr⟩⟩)
abbrev rm_X9_send : Room := { frames := 4, cells := 0, slots := 0, locals := 93 }
set_option maxHeartbeats 4000000 in
set_option maxRecDepth 100000 in
theorem c_X9_send (l : Launch) (hst : l.stackTraces = false) (G : GG) (z : Nat) (μ : Mm) (m : Nat) (σ : SS) (n : Nat) (th fo cm : Int) (Ci Su : Nat → Int) (A : Nat → Nat) (k q : Int) (hM9 : RepY G μ m σ th fo cm Ci Su A) (hI : Iv σ n) (hk : -2147483648 ≤ k ∧ k < 2147483648) (hq : -2147483648 ≤ q ∧ q < 2147483648) : Ct l yX9_send wsX9_send rm_X9_send G z [.ref m, .int (zI k), .int (zI q)] μ (rS (fun r9 μ' => MR G μ' m (t_send σ k q) (b_way σ (σ 14 k.toNat) q) σ (n_send σ k q) r9 ∧ Fr 3000 3999 μ μ')) (nX) := by
  refine ct_of (cc := cX9_send) (maxL := 3) (ret := (some .int)) (own := RX9) (by decide) rfl rfl hst (Nat.le_of_ble_eq_true rfl) ?_
  intro E hLl hnm C R hT
  have in_X9 : ∀ w ∈ u_ws RX9 TX9 29, w ∈ wsX9_send := by decide +kernel
  have hM8 := hM9
  obtain ⟨hO, hMA, hCi, hSu⟩ := hM9
  have hn7 := hI.n7
  have hn12 := hI.n12
  have hn18 := hI.n18
  have hn23 := hI.n23
  have hFr : Fr 3000 3999 μ μ := Fr.rf
  refine x_eq (lv' := [(0, .ref m), (1, .int (zI k)), (2, .int (zI q))]) rfl rfl ?_
  refine x_aload_n C dX9_send_0 rfl 0 rfl ?_
  refine x_aload_n C dX9_send_1 rfl 0 rfl ?_
  refine x_iload_n C dX9_send_2 rfl 1 rfl ?_
  refine x_callV (n := 1) (ci := 10) (Cn := RX9) (T := TX9) (N := 29) (cc9 := 0) (ss9 := 0) (rest := [.ref m]) C dX9_send_3 (c_X9_isWalker (kxL E) C.st G z μ _ σ _ _ _ _ _ _ _ k ⟨hO, hMA, hCi, hSu⟩ hI (by omega)) gX9_send_X9_isWalker rfl (by decide +kernel) ⟨(Nat.le_of_ble_eq_true rfl), (Nat.le_of_ble_eq_true rfl)⟩ rfl ⟨_, _, hO⟩ rfl rfl (Nat.le_of_ble_eq_true rfl) rfl rfl ⟨(Nat.le_of_ble_eq_true rfl), (Nat.le_of_ble_eq_true rfl)⟩ nX_no (fun v1 μ2 hv3 => ?_)
  obtain ⟨r4, hw7, h5, hm6⟩ := hv3
  subst hw7
  rw [hm6]
  refine x_stk (stk' := [.int (zI r4), .ref m]) rfl ?_
  refine z_if_eq (tgt := 20) C dX9_send_6 (by decide) (rg_of (by omega) (by omega)) (fun c_8 => ?_) (fun c_8 => ?_)
  · refine z_iconst C dX9_send_20 ?_
    refine z_put (ci := 10) (Cn := RX9) (T := TX9) (N := 29) (ref := "CairnCipherModel") (fs' := [.ref (A 0), .ref (A 1), .ref (A 2), .ref (A 3), .ref (A 4), .ref (A 5), .ref (A 6), .int (zI (σ 7 0)), .ref (A 8), .ref (A 9), .ref (A 10), .ref (A 11), .int (zI (σ 12 0)), .ref (A 13), .ref (A 14), .ref (A 15), .ref (A 16), .ref (A 17), .int (zI (σ 18 0)), .ref (A 19), .ref (A 20), .ref (A 21), .ref (A 22), .int (zI (σ 23 0)), .int (zI 1), .int (zI fo), .ref (A 26), .int (zI cm), .ref (A 28)]) C dX9_send_21 in_X9 rfl tyX9 tyX9_ok nmX9 hO 24 (by decide) (by decide +kernel) rfl rfl rfl rfl rfl (Nat.le_of_ble_eq_true rfl) rfl (fun μ9 hOw hF10 => ?_)
    have hMA : MA G μ9 A σ := hF10.ma hMA
    have hCi := hF10.ai hCi
    have hSu := hF10.ai hSu
    have hFr : Fr 3000 3999 μ μ9 := hFr.tr hF10
    have hO := hOw
    refine x_aload_n C dX9_send_24 rfl 0 rfl ?_
    refine x_get (ci := 10) (Cn := RX9) (T := TX9) (N := 29) (ref := "CairnCipherModel") C dX9_send_25 in_X9 rfl hO 24 (by decide) (by decide +kernel) rfl rfl ?_
    refine z_if_le (tgt := 33) C dX9_send_28 (by decide) (rg_of (by omega) (by omega)) (fun c_11 => ?_) (fun c_11 => ?_)
    · exfalso; omega
    · refine z_iconst C dX9_send_31 ?_
      exact x_iret C R dX9_send_32 (Nat.le_of_ble_eq_true rfl) (Nat.le_of_ble_eq_true rfl) (⟨_, rfl, ⟨Or.inr ⟨by (rw [show t_send σ k q = 1 from by (unfold t_send; (repeat split) <;> omega)]; omega), by (rw [show t_send σ k q = 1 from by (unfold t_send; (repeat split) <;> omega)]; exact ⟨_, _, _, _, _, hO, hMA, hCi, hSu⟩)⟩, hFr⟩⟩)
  · refine x_iload_n C dX9_send_9 rfl 2 rfl ?_
    refine x_callS (n := 1) (cc9 := 0) (ss9 := 0) (rest := [.ref m]) C dX9_send_10 (c_X9_isPlace (kxL E) C.st G z μ q (by omega)) gX9_send_X9_isPlace rfl (by decide +kernel) ⟨(Nat.le_of_ble_eq_true rfl), (Nat.le_of_ble_eq_true rfl)⟩ rfl rfl (Nat.le_of_ble_eq_true rfl) rfl rfl ⟨(Nat.le_of_ble_eq_true rfl), (Nat.le_of_ble_eq_true rfl)⟩ nX_no (fun v12 μ13 hv14 => ?_)
    obtain ⟨r15, hw18, h16, hm17⟩ := hv14
    subst hw18
    rw [hm17]
    refine x_stk (stk' := [.int (zI r15), .ref m]) rfl ?_
    refine z_if_eq (tgt := 20) C dX9_send_13 (by decide) (rg_of (by omega) (by omega)) (fun c_19 => ?_) (fun c_19 => ?_)
    · refine z_iconst C dX9_send_20 ?_
      refine z_put (ci := 10) (Cn := RX9) (T := TX9) (N := 29) (ref := "CairnCipherModel") (fs' := [.ref (A 0), .ref (A 1), .ref (A 2), .ref (A 3), .ref (A 4), .ref (A 5), .ref (A 6), .int (zI (σ 7 0)), .ref (A 8), .ref (A 9), .ref (A 10), .ref (A 11), .int (zI (σ 12 0)), .ref (A 13), .ref (A 14), .ref (A 15), .ref (A 16), .ref (A 17), .int (zI (σ 18 0)), .ref (A 19), .ref (A 20), .ref (A 21), .ref (A 22), .int (zI (σ 23 0)), .int (zI 1), .int (zI fo), .ref (A 26), .int (zI cm), .ref (A 28)]) C dX9_send_21 in_X9 rfl tyX9 tyX9_ok nmX9 hO 24 (by decide) (by decide +kernel) rfl rfl rfl rfl rfl (Nat.le_of_ble_eq_true rfl) rfl (fun μ20 hOw hF21 => ?_)
      have hMA : MA G μ20 A σ := hF21.ma hMA
      have hCi := hF21.ai hCi
      have hSu := hF21.ai hSu
      have hFr : Fr 3000 3999 μ μ20 := hFr.tr hF21
      have hO := hOw
      refine x_aload_n C dX9_send_24 rfl 0 rfl ?_
      refine x_get (ci := 10) (Cn := RX9) (T := TX9) (N := 29) (ref := "CairnCipherModel") C dX9_send_25 in_X9 rfl hO 24 (by decide) (by decide +kernel) rfl rfl ?_
      refine z_if_le (tgt := 33) C dX9_send_28 (by decide) (rg_of (by omega) (by omega)) (fun c_22 => ?_) (fun c_22 => ?_)
      · exfalso; omega
      · refine z_iconst C dX9_send_31 ?_
        exact x_iret C R dX9_send_32 (Nat.le_of_ble_eq_true rfl) (Nat.le_of_ble_eq_true rfl) (⟨_, rfl, ⟨Or.inr ⟨by (rw [show t_send σ k q = 1 from by (unfold t_send; (repeat split) <;> omega)]; omega), by (rw [show t_send σ k q = 1 from by (unfold t_send; (repeat split) <;> omega)]; exact ⟨_, _, _, _, _, hO, hMA, hCi, hSu⟩)⟩, hFr⟩⟩)
    · refine z_iconst C dX9_send_16 ?_
      refine x_goto (tgt := 21) C dX9_send_17 (by decide) ?_
      refine z_put (ci := 10) (Cn := RX9) (T := TX9) (N := 29) (ref := "CairnCipherModel") (fs' := [.ref (A 0), .ref (A 1), .ref (A 2), .ref (A 3), .ref (A 4), .ref (A 5), .ref (A 6), .int (zI (σ 7 0)), .ref (A 8), .ref (A 9), .ref (A 10), .ref (A 11), .int (zI (σ 12 0)), .ref (A 13), .ref (A 14), .ref (A 15), .ref (A 16), .ref (A 17), .int (zI (σ 18 0)), .ref (A 19), .ref (A 20), .ref (A 21), .ref (A 22), .int (zI (σ 23 0)), .int (zI 0), .int (zI fo), .ref (A 26), .int (zI cm), .ref (A 28)]) C dX9_send_21 in_X9 rfl tyX9 tyX9_ok nmX9 hO 24 (by decide) (by decide +kernel) rfl rfl rfl rfl rfl (Nat.le_of_ble_eq_true rfl) rfl (fun μ23 hOw hF24 => ?_)
      have hMA : MA G μ23 A σ := hF24.ma hMA
      have hCi := hF24.ai hCi
      have hSu := hF24.ai hSu
      have hFr : Fr 3000 3999 μ μ23 := hFr.tr hF24
      have hO := hOw
      refine x_aload_n C dX9_send_24 rfl 0 rfl ?_
      refine x_get (ci := 10) (Cn := RX9) (T := TX9) (N := 29) (ref := "CairnCipherModel") C dX9_send_25 in_X9 rfl hO 24 (by decide) (by decide +kernel) rfl rfl ?_
      refine z_if_le (tgt := 33) C dX9_send_28 (by decide) (rg_of (by omega) (by omega)) (fun c_25 => ?_) (fun c_25 => ?_)
      · refine x_aload_n C dX9_send_33 rfl 0 rfl ?_
        refine x_get (ci := 10) (Cn := RX9) (T := TX9) (N := 29) (ref := "CairnCipherModel") C dX9_send_34 in_X9 rfl hO 15 (by decide) (by decide +kernel) rfl rfl ?_
        refine x_iload_n C dX9_send_37 rfl 1 rfl ?_
        refine x_aload_n C dX9_send_38 rfl 0 rfl ?_
        refine x_get (ci := 10) (Cn := RX9) (T := TX9) (N := 29) (ref := "CairnCipherModel") C dX9_send_39 in_X9 rfl hO 16 (by decide) (by decide +kernel) rfl rfl ?_
        refine x_iload_n C dX9_send_42 rfl 1 rfl ?_
        refine z_iald (j := k.toNat) C dX9_send_43 (show AI G μ23 (A 16) 3017 6 (σ 16) from hMA.ai 16 rfl) (by omega) (by omega) (by decide) ?_
        have q_26 := hI.r16 k.toNat (by omega)
        refine z_iconst C dX9_send_44 ?_
        refine z_icmp_ne (tgt := 62) C dX9_send_45 (by decide) (rg_of (by omega) (by omega)) (rg_of (by omega) (by omega)) (fun c_27 => ?_) (fun c_27 => ?_)
        · refine x_iload_n C dX9_send_62 rfl 2 rfl ?_
          refine z_iast (j := k.toNat) C dX9_send_63 (show AI G μ23 (A 15) 3016 6 (σ 15) from hMA.ai 15 rfl) (by omega) (by omega) (by decide) (fun μ28 hq30 hF29 => ?_)
          have hMAn : MA G μ28 A (su σ 15 (wr (σ 15) k.toNat q)) := hMA.up (k := 15) rfl hq30 hF29
          have hO := hF29.ob hO
          have hCi := hF29.ai hCi
          have hSu := hF29.ai hSu
          have hFr : Fr 3000 3999 μ μ28 := hFr.tr hF29
          have hMA := hMAn
          have hMA : MA G μ28 A (n_send σ k q) := by ((unfold n_send); first | (rw [if_pos ⟨by omega, by omega⟩]; exact hMA) | (rw [if_neg (fun w9 => by (have w8 := w9.1; have w7 := w9.2; omega))]; exact hMA))
          have hI9 := Iv_send (w := k) hI (show 0 ≤ q ∧ q < 64 by omega)
          refine x_aload_n C dX9_send_64 rfl 0 rfl ?_
          refine x_iload_n C dX9_send_65 rfl 2 rfl ?_
          refine x_callV (n := 1) (ci := 10) (Cn := RX9) (T := TX9) (N := 29) (cc9 := 0) (ss9 := 0) (rest := []) C dX9_send_66 (c_X9_laySums (kxL E) C.st G z μ28 _ (n_send σ k q) _ _ _ _ _ _ _ q ⟨hO, hMA, hCi, hSu⟩ hI9 (by omega)) gX9_send_X9_laySums rfl (by decide +kernel) ⟨(Nat.le_of_ble_eq_true rfl), (Nat.le_of_ble_eq_true rfl)⟩ rfl ⟨_, _, hO⟩ rfl rfl (Nat.le_of_ble_eq_true rfl) rfl rfl ⟨(Nat.le_of_ble_eq_true rfl), (Nat.le_of_ble_eq_true rfl)⟩ nX_no (fun v31 μ32 hv33 => ?_)
          obtain ⟨hw37, h35⟩ := hv33
          subst hw37
          obtain ⟨⟨Sn, hSu, hSD⟩, hF9⟩ := h35
          have hF38 := hF9
          have hO := hF38.ob hO
          have hMA : MA G μ32 A (n_send σ k q) := hF38.ma hMA
          have hCi := hF38.ai hCi
          have hFr : Fr 3000 3999 μ μ32 := hFr.tr hF38
          have hSD : SD σ q.toNat Sn := hSD
          have hpl9 := hI.r14 k.toNat (by omega)
          refine x_stk (stk' := []) rfl ?_
          refine x_aload_n C dX9_send_69 rfl 0 rfl ?_
          refine x_get (ci := 10) (Cn := RX9) (T := TX9) (N := 29) (ref := "CairnCipherModel") C dX9_send_70 in_X9 rfl hO 28 (by decide) (by decide +kernel) rfl rfl ?_
          refine x_aload_n C dX9_send_73 rfl 0 rfl ?_
          refine x_get (ci := 10) (Cn := RX9) (T := TX9) (N := 29) (ref := "CairnCipherModel") C dX9_send_74 in_X9 rfl hO 14 (by decide) (by decide +kernel) rfl rfl ?_
          refine x_iload_n C dX9_send_77 rfl 1 rfl ?_
          refine z_iald (j := k.toNat) C dX9_send_78 (show AI G μ32 (A 14) 3015 6 (σ 14) from hMA.ai 14 rfl) (by omega) (by omega) (by decide) ?_
          have q_39 := hI.r14 k.toNat (by omega)
          refine z_iald (j := ((σ 14) k.toNat).toNat) C dX9_send_79 hSu (by omega) (by omega) (by decide) ?_
          have q_40 := hSD.1 (((σ 14) k.toNat).toNat) (by omega)
          exact x_iret C R dX9_send_80 (Nat.le_of_ble_eq_true rfl) (Nat.le_of_ble_eq_true rfl) (⟨_, rfl, ⟨Or.inl ⟨by (unfold t_send; (repeat split) <;> omega), by (unfold b_way; exact hSD.way (by omega)), ⟨_, _, _, _, _, hO, hMA, hCi, hSu⟩⟩, hFr⟩⟩)
        · refine x_aload_n C dX9_send_48 rfl 0 rfl ?_
          refine x_get (ci := 10) (Cn := RX9) (T := TX9) (N := 29) (ref := "CairnCipherModel") C dX9_send_49 in_X9 rfl hO 14 (by decide) (by decide +kernel) rfl rfl ?_
          refine x_iload_n C dX9_send_52 rfl 1 rfl ?_
          refine z_iald (j := k.toNat) C dX9_send_53 (show AI G μ23 (A 14) 3015 6 (σ 14) from hMA.ai 14 rfl) (by omega) (by omega) (by decide) ?_
          have q_41 := hI.r14 k.toNat (by omega)
          refine x_iload_n C dX9_send_54 rfl 2 rfl ?_
          refine z_icmp_ne (tgt := 62) C dX9_send_55 (by decide) (rg_of (by omega) (by omega)) (rg_of (by omega) (by omega)) (fun c_42 => ?_) (fun c_42 => ?_)
          · refine x_iload_n C dX9_send_62 rfl 2 rfl ?_
            refine z_iast (j := k.toNat) C dX9_send_63 (show AI G μ23 (A 15) 3016 6 (σ 15) from hMA.ai 15 rfl) (by omega) (by omega) (by decide) (fun μ43 hq45 hF44 => ?_)
            have hMAn : MA G μ43 A (su σ 15 (wr (σ 15) k.toNat q)) := hMA.up (k := 15) rfl hq45 hF44
            have hO := hF44.ob hO
            have hCi := hF44.ai hCi
            have hSu := hF44.ai hSu
            have hFr : Fr 3000 3999 μ μ43 := hFr.tr hF44
            have hMA := hMAn
            have hMA : MA G μ43 A (n_send σ k q) := by ((unfold n_send); first | (rw [if_pos ⟨by omega, by omega⟩]; exact hMA) | (rw [if_neg (fun w9 => by (have w8 := w9.1; have w7 := w9.2; omega))]; exact hMA))
            have hI9 := Iv_send (w := k) hI (show 0 ≤ q ∧ q < 64 by omega)
            refine x_aload_n C dX9_send_64 rfl 0 rfl ?_
            refine x_iload_n C dX9_send_65 rfl 2 rfl ?_
            refine x_callV (n := 1) (ci := 10) (Cn := RX9) (T := TX9) (N := 29) (cc9 := 0) (ss9 := 0) (rest := []) C dX9_send_66 (c_X9_laySums (kxL E) C.st G z μ43 _ (n_send σ k q) _ _ _ _ _ _ _ q ⟨hO, hMA, hCi, hSu⟩ hI9 (by omega)) gX9_send_X9_laySums rfl (by decide +kernel) ⟨(Nat.le_of_ble_eq_true rfl), (Nat.le_of_ble_eq_true rfl)⟩ rfl ⟨_, _, hO⟩ rfl rfl (Nat.le_of_ble_eq_true rfl) rfl rfl ⟨(Nat.le_of_ble_eq_true rfl), (Nat.le_of_ble_eq_true rfl)⟩ nX_no (fun v46 μ47 hv48 => ?_)
            obtain ⟨hw52, h50⟩ := hv48
            subst hw52
            obtain ⟨⟨Sn, hSu, hSD⟩, hF9⟩ := h50
            have hF53 := hF9
            have hO := hF53.ob hO
            have hMA : MA G μ47 A (n_send σ k q) := hF53.ma hMA
            have hCi := hF53.ai hCi
            have hFr : Fr 3000 3999 μ μ47 := hFr.tr hF53
            have hSD : SD σ q.toNat Sn := hSD
            have hpl9 := hI.r14 k.toNat (by omega)
            refine x_stk (stk' := []) rfl ?_
            refine x_aload_n C dX9_send_69 rfl 0 rfl ?_
            refine x_get (ci := 10) (Cn := RX9) (T := TX9) (N := 29) (ref := "CairnCipherModel") C dX9_send_70 in_X9 rfl hO 28 (by decide) (by decide +kernel) rfl rfl ?_
            refine x_aload_n C dX9_send_73 rfl 0 rfl ?_
            refine x_get (ci := 10) (Cn := RX9) (T := TX9) (N := 29) (ref := "CairnCipherModel") C dX9_send_74 in_X9 rfl hO 14 (by decide) (by decide +kernel) rfl rfl ?_
            refine x_iload_n C dX9_send_77 rfl 1 rfl ?_
            refine z_iald (j := k.toNat) C dX9_send_78 (show AI G μ47 (A 14) 3015 6 (σ 14) from hMA.ai 14 rfl) (by omega) (by omega) (by decide) ?_
            have q_54 := hI.r14 k.toNat (by omega)
            refine z_iald (j := ((σ 14) k.toNat).toNat) C dX9_send_79 hSu (by omega) (by omega) (by decide) ?_
            have q_55 := hSD.1 (((σ 14) k.toNat).toNat) (by omega)
            exact x_iret C R dX9_send_80 (Nat.le_of_ble_eq_true rfl) (Nat.le_of_ble_eq_true rfl) (⟨_, rfl, ⟨Or.inl ⟨by (unfold t_send; (repeat split) <;> omega), by (unfold b_way; exact hSD.way (by omega)), ⟨_, _, _, _, _, hO, hMA, hCi, hSu⟩⟩, hFr⟩⟩)
          · refine z_iconst C dX9_send_58 ?_
            refine x_goto (tgt := 63) C dX9_send_59 (by decide) ?_
            refine z_iast (j := k.toNat) C dX9_send_63 (show AI G μ23 (A 15) 3016 6 (σ 15) from hMA.ai 15 rfl) (by omega) (by omega) (by decide) (fun μ56 hq58 hF57 => ?_)
            have hMAn : MA G μ56 A (su σ 15 (wr (σ 15) k.toNat (-1))) := hMA.up (k := 15) rfl hq58 hF57
            have hO := hF57.ob hO
            have hCi := hF57.ai hCi
            have hSu := hF57.ai hSu
            have hFr : Fr 3000 3999 μ μ56 := hFr.tr hF57
            have hMA := hMAn
            have hMA : MA G μ56 A (n_send σ k q) := by ((unfold n_send); first | (rw [if_pos ⟨by omega, by omega⟩]; exact hMA) | (rw [if_neg (fun w9 => by (have w8 := w9.1; have w7 := w9.2; omega))]; exact hMA))
            have hI9 := Iv_send (w := k) hI (show 0 ≤ q ∧ q < 64 by omega)
            refine x_aload_n C dX9_send_64 rfl 0 rfl ?_
            refine x_iload_n C dX9_send_65 rfl 2 rfl ?_
            refine x_callV (n := 1) (ci := 10) (Cn := RX9) (T := TX9) (N := 29) (cc9 := 0) (ss9 := 0) (rest := []) C dX9_send_66 (c_X9_laySums (kxL E) C.st G z μ56 _ (n_send σ k q) _ _ _ _ _ _ _ q ⟨hO, hMA, hCi, hSu⟩ hI9 (by omega)) gX9_send_X9_laySums rfl (by decide +kernel) ⟨(Nat.le_of_ble_eq_true rfl), (Nat.le_of_ble_eq_true rfl)⟩ rfl ⟨_, _, hO⟩ rfl rfl (Nat.le_of_ble_eq_true rfl) rfl rfl ⟨(Nat.le_of_ble_eq_true rfl), (Nat.le_of_ble_eq_true rfl)⟩ nX_no (fun v59 μ60 hv61 => ?_)
            obtain ⟨hw65, h63⟩ := hv61
            subst hw65
            obtain ⟨⟨Sn, hSu, hSD⟩, hF9⟩ := h63
            have hF66 := hF9
            have hO := hF66.ob hO
            have hMA : MA G μ60 A (n_send σ k q) := hF66.ma hMA
            have hCi := hF66.ai hCi
            have hFr : Fr 3000 3999 μ μ60 := hFr.tr hF66
            have hSD : SD σ q.toNat Sn := hSD
            have hpl9 := hI.r14 k.toNat (by omega)
            refine x_stk (stk' := []) rfl ?_
            refine x_aload_n C dX9_send_69 rfl 0 rfl ?_
            refine x_get (ci := 10) (Cn := RX9) (T := TX9) (N := 29) (ref := "CairnCipherModel") C dX9_send_70 in_X9 rfl hO 28 (by decide) (by decide +kernel) rfl rfl ?_
            refine x_aload_n C dX9_send_73 rfl 0 rfl ?_
            refine x_get (ci := 10) (Cn := RX9) (T := TX9) (N := 29) (ref := "CairnCipherModel") C dX9_send_74 in_X9 rfl hO 14 (by decide) (by decide +kernel) rfl rfl ?_
            refine x_iload_n C dX9_send_77 rfl 1 rfl ?_
            refine z_iald (j := k.toNat) C dX9_send_78 (show AI G μ60 (A 14) 3015 6 (σ 14) from hMA.ai 14 rfl) (by omega) (by omega) (by decide) ?_
            have q_67 := hI.r14 k.toNat (by omega)
            refine z_iald (j := ((σ 14) k.toNat).toNat) C dX9_send_79 hSu (by omega) (by omega) (by decide) ?_
            have q_68 := hSD.1 (((σ 14) k.toNat).toNat) (by omega)
            exact x_iret C R dX9_send_80 (Nat.le_of_ble_eq_true rfl) (Nat.le_of_ble_eq_true rfl) (⟨_, rfl, ⟨Or.inl ⟨by (unfold t_send; (repeat split) <;> omega), by (unfold b_way; exact hSD.way (by omega)), ⟨_, _, _, _, _, hO, hMA, hCi, hSu⟩⟩, hFr⟩⟩)
      · exfalso; omega
abbrev rm_X9_begin : Room := { frames := 4, cells := 0, slots := 0, locals := 93 }
set_option maxHeartbeats 4000000 in
set_option maxRecDepth 100000 in
theorem c_X9_begin (l : Launch) (hst : l.stackTraces = false) (G : GG) (z : Nat) (μ : Mm) (m : Nat) (σ : SS) (n : Nat) (th fo cm : Int) (Ci Su : Nat → Int) (A : Nat → Nat) (w : Int) (hM9 : RepY G μ m σ th fo cm Ci Su A) (hI : Iv σ n) (hw : 0 ≤ w ∧ w < 6) (hgo : 0 ≤ σ 15 w.toNat) (hne : σ 15 w.toNat ≠ σ 14 w.toNat) (hs16 : σ 16 w.toNat = -1) (hpc : 1 ≤ σ 13 w.toNat) : Ct l yX9_begin wsX9_begin rm_X9_begin G z [.ref m, .int (zI w)] μ (rV (fun μ' => (∃ go' st' le' S', MA G μ' A (bgS σ w.toNat go' st' le') ∧ AI G μ' (A 26) 3027 12 Ci ∧ AI G μ' (A 28) 3029 64 S' ∧ wb σ (σ 13 w.toNat) (σ 14 w.toNat, σ 15 w.toNat, -1, σ 17 w.toNat) = (σ 14 w.toNat, go', st', le')) ∧ Fr 3001 3030 μ μ')) (nX) := by
  refine ct_of (cc := cX9_begin) (maxL := 7) (ret := none) (own := RX9) (by decide) rfl rfl hst (Nat.le_of_ble_eq_true rfl) ?_
  intro E hLl hnm C R hT
  have in_X9 : ∀ w ∈ u_ws RX9 TX9 29, w ∈ wsX9_begin := by decide +kernel
  have hM8 := hM9
  obtain ⟨hO, hMA, hCi, hSu⟩ := hM9
  have hn7 := hI.n7
  have hn12 := hI.n12
  have hn18 := hI.n18
  have hn23 := hI.n23
  have hpl := hI.r14 w.toNat (by omega)
  have hgr := hI.r15 w.toNat (by omega)
  have hpr := hI.r13 w.toNat (by omega)
  have hFr : Fr 3001 3030 μ μ := Fr.rf
  refine x_eq (lv' := [(0, .ref m), (1, .int (zI w))]) rfl rfl ?_
  refine x_aload_n C dX9_begin_0 rfl 0 rfl ?_
  refine x_get (ci := 10) (Cn := RX9) (T := TX9) (N := 29) (ref := "CairnCipherModel") C dX9_begin_1 in_X9 rfl hO 14 (by decide) (by decide +kernel) rfl rfl ?_
  refine x_iload_n C dX9_begin_4 rfl 1 rfl ?_
  refine z_iald (j := w.toNat) C dX9_begin_5 (show AI G μ (A 14) 3015 6 (σ 14) from hMA.ai 14 rfl) (by omega) (by omega) (by decide) ?_
  have q_1 := hI.r14 w.toNat (by omega)
  refine x_istore_n (lv' := [(2, .int (zI ((σ 14) w.toNat))), (0, .ref m), (1, .int (zI w))]) C dX9_begin_6 rfl (by decide) rfl ?_
  refine z_iconst C dX9_begin_7 ?_
  refine x_istore_n (lv' := [(3, .int (zI (-1))), (2, .int (zI ((σ 14) w.toNat))), (0, .ref m), (1, .int (zI w))]) C dX9_begin_8 rfl (by decide) rfl ?_
  refine z_iconst C dX9_begin_9 ?_
  refine x_istore (lv' := [(4, .int (zI (-1))), (3, .int (zI (-1))), (2, .int (zI ((σ 14) w.toNat))), (0, .ref m), (1, .int (zI w))]) C dX9_begin_10 (by decide) rfl ?_
  refine x_iload_n C dX9_begin_12 rfl 2 rfl ?_
  refine x_aload_n C dX9_begin_13 rfl 3 rfl ?_
  refine x_get (ci := 10) (Cn := RX9) (T := TX9) (N := 29) (ref := "CairnCipherModel") C dX9_begin_14 in_X9 rfl hO 15 (by decide) (by decide +kernel) rfl rfl ?_
  refine x_iload_n C dX9_begin_17 rfl 4 rfl ?_
  refine z_iald (j := w.toNat) C dX9_begin_18 (show AI G μ (A 15) 3016 6 (σ 15) from hMA.ai 15 rfl) (by omega) (by omega) (by decide) ?_
  have q_2 := hI.r15 w.toNat (by omega)
  refine z_icmp_eq (tgt := 86) C dX9_begin_19 (by decide) (rg_of (by omega) (by omega)) (rg_of (by omega) (by omega)) (fun c_3 => ?_) (fun c_3 => ?_)
  · exfalso; omega
  · refine x_aload_n C dX9_begin_22 rfl 3 rfl ?_
    refine x_aload_n C dX9_begin_23 rfl 3 rfl ?_
    refine x_get (ci := 10) (Cn := RX9) (T := TX9) (N := 29) (ref := "CairnCipherModel") C dX9_begin_24 in_X9 rfl hO 15 (by decide) (by decide +kernel) rfl rfl ?_
    refine x_iload_n C dX9_begin_27 rfl 4 rfl ?_
    refine z_iald (j := w.toNat) C dX9_begin_28 (show AI G μ (A 15) 3016 6 (σ 15) from hMA.ai 15 rfl) (by omega) (by omega) (by decide) ?_
    have q_4 := hI.r15 w.toNat (by omega)
    refine x_callV (n := 1) (ci := 10) (Cn := RX9) (T := TX9) (N := 29) (cc9 := 0) (ss9 := 0) (rest := []) C dX9_begin_29 (c_X9_laySums (kxL E) C.st G z μ _ σ _ _ _ _ _ _ _ ((σ 15) w.toNat) ⟨hO, hMA, hCi, hSu⟩ hI (by omega)) gX9_begin_X9_laySums rfl (by decide +kernel) ⟨(Nat.le_of_ble_eq_true rfl), (Nat.le_of_ble_eq_true rfl)⟩ rfl ⟨_, _, hO⟩ rfl rfl (Nat.le_of_ble_eq_true rfl) rfl rfl ⟨(Nat.le_of_ble_eq_true rfl), (Nat.le_of_ble_eq_true rfl)⟩ nX_no (fun v5 μ6 hv7 => ?_)
    obtain ⟨hw11, h9⟩ := hv7
    subst hw11
    obtain ⟨⟨Sn, hSu, hSD⟩, hF9⟩ := h9
    have hF12 := hF9
    have hO := hF12.ob hO
    have hMA : MA G μ6 A σ := hF12.ma hMA
    have hCi := hF12.ai hCi
    have hFr : Fr 3001 3030 μ μ6 := hFr.tr hF12
    have hb4 : bb (σ 0) (σ 1) (fS Sn) (σ 14 w.toNat) 4 = bb (σ 0) (σ 1) (dD σ (σ 15 w.toNat).toNat) (σ 14 w.toNat) 4 := bb_cong hSD.2 4
    refine x_stk (stk' := []) rfl ?_
    refine z_iconst C dX9_begin_32 ?_
    refine x_istore (lv' := [(5, .int (zI 0)), (4, .int (zI (-1))), (3, .int (zI (-1))), (2, .int (zI ((σ 14) w.toNat))), (0, .ref m), (1, .int (zI w))]) C dX9_begin_33 (by decide) rfl ?_
    have L35 : ∀ (M9 : Nat) (k : Nat) (kz : Int) (hkz : kz = (k : Int)) (b9 : Int) (l9 : Int) (hk : k ≤ 4) (hb9 : b9 = bb (σ 0) (σ 1) (fS Sn) (σ 14 w.toNat) k) (hl9 : (l9 = -1 ∧ bl (σ 0) (σ 1) (fS Sn) (σ 14 w.toNat) k = 1000000) ∨ (l9 = bl (σ 0) (σ 1) (fS Sn) (σ 14 w.toNat) k ∧ 1 ≤ l9 ∧ l9 < 1000000)) (hM9 : 4 - k = M9), Wx E G 0 0 35 [(5, .int (zI kz)), (4, .int (zI l9)), (3, .int (zI b9)), (2, .int (zI ((σ 14) w.toNat))), (0, .ref m), (1, .int (zI w))] [] μ6 := by
      intro M9
      induction M9 using Nat.strongRecOn with
      | ind M9 ih35 =>
        intro k kz hkz b9 l9 hk hb9 hl9 hM9
        subst hkz
        have hbr := bb_rg (H := σ 0) (Z := σ 1) (S := fS Sn) (p := σ 14 w.toNat) (by omega) k
        refine x_iload C dX9_begin_35 0 rfl ?_
        refine z_iconst C dX9_begin_37 ?_
        refine z_icmp_ge (tgt := 86) C dX9_begin_38 (by decide) (rg_of (by omega) (by omega)) (rg_of (by omega) (by omega)) (fun c_13 => ?_) (fun c_13 => ?_)
        · have hb8 : b9 = bb (σ 0) (σ 1) (dD σ (σ 15 w.toNat).toNat) (σ 14 w.toNat) 4 := by (rw [hb9, ← hb4, show k = 4 by omega])
          refine x_iload_n C dX9_begin_86 rfl 2 rfl ?_
          refine z_iconst C dX9_begin_87 ?_
          refine z_icmp_ne (tgt := 99) C dX9_begin_88 (by decide) (rg_of (by omega) (by omega)) (rg_of (by omega) (by omega)) (fun c_14 => ?_) (fun c_14 => ?_)
          · refine x_aload_n C dX9_begin_99 rfl 4 rfl ?_
            refine x_get (ci := 10) (Cn := RX9) (T := TX9) (N := 29) (ref := "CairnCipherModel") C dX9_begin_100 in_X9 rfl hO 16 (by decide) (by decide +kernel) rfl rfl ?_
            refine x_iload_n C dX9_begin_103 rfl 5 rfl ?_
            refine x_iload_n C dX9_begin_104 rfl 2 rfl ?_
            refine z_iast (j := w.toNat) C dX9_begin_105 (show AI G μ6 (A 16) 3017 6 (σ 16) from hMA.ai 16 rfl) (by omega) (by omega) (by decide) (fun μ15 hq17 hF16 => ?_)
            have hMAn : MA G μ15 A (su σ 16 (wr (σ 16) w.toNat b9)) := hMA.up (k := 16) rfl hq17 hF16
            have hO := hF16.ob hO
            have hCi := hF16.ai hCi
            have hSu := hF16.ai hSu
            have hFr : Fr 3001 3030 μ μ15 := hFr.tr hF16
            have hMA := hMAn
            refine x_aload_n C dX9_begin_106 rfl 4 rfl ?_
            refine x_get (ci := 10) (Cn := RX9) (T := TX9) (N := 29) (ref := "CairnCipherModel") C dX9_begin_107 in_X9 rfl hO 17 (by decide) (by decide +kernel) rfl rfl ?_
            refine x_iload_n C dX9_begin_110 rfl 5 rfl ?_
            refine x_aload_n C dX9_begin_111 rfl 4 rfl ?_
            refine x_iload_n C dX9_begin_112 rfl 3 rfl ?_
            refine x_iload_n C dX9_begin_113 rfl 2 rfl ?_
            have hI9 : Iv (su σ 16 (wr (σ 16) w.toNat b9)) n := Iv_wr hI (by decide) (by (show (-1 : Int) ≤ b9 ∧ b9 ≤ (63 : Int); omega))
            refine x_callV (n := 2) (ci := 10) (Cn := RX9) (T := TX9) (N := 29) (cc9 := 0) (ss9 := 0) (rest := [.int (zI w), .ref (A 17)]) C dX9_begin_114 (c_X9_cost (kxL E) C.st G z μ15 _ (su σ 16 (wr (σ 16) w.toNat b9)) _ _ _ _ _ _ _ ((σ 14) w.toNat) b9 ⟨hO, hMA, hCi, hSu⟩ hI9 (by omega) (by omega)) gX9_begin_X9_cost rfl (by decide +kernel) ⟨(Nat.le_of_ble_eq_true rfl), (Nat.le_of_ble_eq_true rfl)⟩ rfl ⟨_, _, hO⟩ rfl rfl (Nat.le_of_ble_eq_true rfl) rfl rfl ⟨(Nat.le_of_ble_eq_true rfl), (Nat.le_of_ble_eq_true rfl)⟩ nX_no (fun v18 μ19 hv20 => ?_)
            obtain ⟨r21, hw24, h22, hm23⟩ := hv20
            subst hw24
            rw [hm23]
            have hc9 := h22
            have hc8 := iabs_rg (x := σ 0 (σ 14 w.toNat).toNat - σ 0 b9.toNat) (n := 9) (by (have := hI.r0 (σ 14 w.toNat).toNat (by omega); have := hI.r0 b9.toNat (by omega); omega))
            refine x_stk (stk' := [.int (zI r21), .int (zI w), .ref (A 17)]) rfl ?_
            refine x_aload_n C dX9_begin_117 rfl 4 rfl ?_
            refine x_get (ci := 10) (Cn := RX9) (T := TX9) (N := 29) (ref := "CairnCipherModel") C dX9_begin_118 in_X9 rfl hO 13 (by decide) (by decide +kernel) rfl rfl ?_
            refine x_iload_n C dX9_begin_121 rfl 5 rfl ?_
            refine z_iald (j := w.toNat) C dX9_begin_122 (show AI G μ15 (A 13) 3014 6 (σ 13) from hMA.ai 13 rfl) (by omega) (by omega) (by decide) ?_
            have q_25 := hI.r13 w.toNat (by omega)
            refine z_imul C dX9_begin_123 rfl ?_
            refine z_iast (j := w.toNat) C dX9_begin_124 (show AI G μ15 (A 17) 3018 6 (σ 17) from hMA.ai 17 rfl) (by omega) (by omega) (by decide) (fun μ26 hq28 hF27 => ?_)
            have hMAn : MA G μ26 A (su (su σ 16 (wr (σ 16) w.toNat b9)) 17 (wr (σ 17) w.toNat (r21 * ((σ 13) w.toNat)))) := hMA.up (k := 17) rfl hq28 hF27
            have hO := hF27.ob hO
            have hCi := hF27.ai hCi
            have hSu := hF27.ai hSu
            have hFr : Fr 3001 3030 μ μ26 := hFr.tr hF27
            have hMA := hMAn
            exact x_vret C R dX9_begin_125 (Nat.le_of_ble_eq_true rfl) (Nat.le_of_ble_eq_true rfl) (⟨rfl, ⟨σ 15 w.toNat, b9, r21 * σ 13 w.toNat, _, by (rw [bgS_2]; exact hMA), hCi, hSu, wb_begin (by omega) (dD_ok (by omega)) (Or.inr ⟨by omega, rfl, hb8, by (rw [hc9, hb8]; rfl)⟩)⟩, hFr⟩)
          · refine x_aload_n C dX9_begin_91 rfl 4 rfl ?_
            refine x_get (ci := 10) (Cn := RX9) (T := TX9) (N := 29) (ref := "CairnCipherModel") C dX9_begin_92 in_X9 rfl hO 15 (by decide) (by decide +kernel) rfl rfl ?_
            refine x_iload_n C dX9_begin_95 rfl 5 rfl ?_
            refine z_iconst C dX9_begin_96 ?_
            refine z_iast (j := w.toNat) C dX9_begin_97 (show AI G μ6 (A 15) 3016 6 (σ 15) from hMA.ai 15 rfl) (by omega) (by omega) (by decide) (fun μ29 hq31 hF30 => ?_)
            have hMAn : MA G μ29 A (su σ 15 (wr (σ 15) w.toNat (-1))) := hMA.up (k := 15) rfl hq31 hF30
            have hO := hF30.ob hO
            have hCi := hF30.ai hCi
            have hSu := hF30.ai hSu
            have hFr : Fr 3001 3030 μ μ29 := hFr.tr hF30
            have hMA := hMAn
            exact x_vret C R dX9_begin_98 (Nat.le_of_ble_eq_true rfl) (Nat.le_of_ble_eq_true rfl) (⟨rfl, ⟨-1, σ 16 w.toNat, σ 17 w.toNat, _, by (rw [bgS_1]; exact hMA), hCi, hSu, by (rw [hs16]; exact wb_begin (by omega) (dD_ok (by omega)) (Or.inl ⟨by omega, rfl, rfl, rfl⟩))⟩, hFr⟩)
        · refine x_aload_n C dX9_begin_41 rfl 4 rfl ?_
          refine x_iload_n C dX9_begin_42 rfl 3 rfl ?_
          refine x_iload C dX9_begin_43 0 rfl ?_
          refine x_callV (n := 2) (ci := 10) (Cn := RX9) (T := TX9) (N := 29) (cc9 := 0) (ss9 := 0) (rest := []) C dX9_begin_45 (c_X9_sumBy (kxL E) C.st G z μ6 _ σ _ _ _ _ _ _ _ ((σ 14) w.toNat) (k : Int) ⟨hO, hMA, hCi, hSu⟩ hI hSD.1 (by omega) (by omega)) gX9_begin_X9_sumBy rfl (by decide +kernel) ⟨(Nat.le_of_ble_eq_true rfl), (Nat.le_of_ble_eq_true rfl)⟩ rfl ⟨_, _, hO⟩ rfl rfl (Nat.le_of_ble_eq_true rfl) rfl rfl ⟨(Nat.le_of_ble_eq_true rfl), (Nat.le_of_ble_eq_true rfl)⟩ nX_no (fun v32 μ33 hv34 => ?_)
          obtain ⟨r35, hw38, h36, hm37⟩ := hv34
          subst hw38
          rw [hm37]
          have hsb := h36
          have hbl := bl_le (σ 0) (σ 1) (fS Sn) (σ 14 w.toNat) k
          have hbn : bl (σ 0) (σ 1) (fS Sn) (σ 14 w.toNat) (k + 1) = if so (σ 0) (σ 1) (fS Sn) (σ 14 w.toNat) (nbr (σ 14 w.toNat) (k : Int)) < bl (σ 0) (σ 1) (fS Sn) (σ 14 w.toNat) k then so (σ 0) (σ 1) (fS Sn) (σ 14 w.toNat) (nbr (σ 14 w.toNat) (k : Int)) else bl (σ 0) (σ 1) (fS Sn) (σ 14 w.toNat) k := rfl
          have hbm : bb (σ 0) (σ 1) (fS Sn) (σ 14 w.toNat) (k + 1) = if so (σ 0) (σ 1) (fS Sn) (σ 14 w.toNat) (nbr (σ 14 w.toNat) (k : Int)) < bl (σ 0) (σ 1) (fS Sn) (σ 14 w.toNat) k then nbr (σ 14 w.toNat) (k : Int) else bb (σ 0) (σ 1) (fS Sn) (σ 14 w.toNat) k := rfl
          refine x_stk (stk' := [.int (zI r35)]) rfl ?_
          refine x_istore (lv' := [(6, .int (zI r35)), (5, .int (zI (k : Int))), (4, .int (zI l9)), (3, .int (zI b9)), (2, .int (zI ((σ 14) w.toNat))), (0, .ref m), (1, .int (zI w))]) C dX9_begin_48 (by decide) rfl ?_
          refine x_iload C dX9_begin_50 0 rfl ?_
          refine z_iconst C dX9_begin_52 ?_
          refine z_icmp_eq (tgt := 80) C dX9_begin_53 (by decide) (rg_of (by omega) (by omega)) (rg_of (by omega) (by omega)) (fun c_39 => ?_) (fun c_39 => ?_)
          · refine z_iinc (lv' := [(5, .int (zI ((k : Int) + 1))), (6, .int (zI r35)), (4, .int (zI l9)), (3, .int (zI b9)), (2, .int (zI ((σ 14) w.toNat))), (0, .ref m), (1, .int (zI w))]) C dX9_begin_80 1 rfl rfl (by decide) rfl ?_
            refine x_goto (tgt := 35) C dX9_begin_83 (by decide) ?_
            refine x_sub (lv' := [(5, .int (zI ((k : Int) + 1))), (4, .int (zI l9)), (3, .int (zI b9)), (2, .int (zI ((σ 14) w.toNat))), (0, .ref m), (1, .int (zI w))]) [0, 2, 3, 4, 5, 6] rfl ?_
            exact ih35 _ (by omega) (k + 1) _ (by omega) _ _ (by omega) (by (split at hbm <;> omega)) (by (split at hbn <;> omega)) rfl
          · refine x_iload C dX9_begin_56 2 rfl ?_
            refine z_iconst C dX9_begin_58 ?_
            refine z_icmp_eq (tgt := 69) C dX9_begin_59 (by decide) (rg_of (by omega) (by omega)) (rg_of (by omega) (by omega)) (fun c_40 => ?_) (fun c_40 => ?_)
            · refine x_iload C dX9_begin_69 0 rfl ?_
              refine x_istore (lv' := [(4, .int (zI r35)), (6, .int (zI r35)), (5, .int (zI (k : Int))), (3, .int (zI b9)), (2, .int (zI ((σ 14) w.toNat))), (0, .ref m), (1, .int (zI w))]) C dX9_begin_71 (by decide) rfl ?_
              refine x_iload_n C dX9_begin_73 rfl 4 rfl ?_
              refine x_iload C dX9_begin_74 2 rfl ?_
              refine x_callS (n := 2) (cc9 := 0) (ss9 := 0) (rest := []) C dX9_begin_76 (c_X9_neighbour (kxL E) C.st G z μ6 ((σ 14) w.toNat) (k : Int) (by omega) (by omega)) gX9_begin_X9_neighbour rfl (by decide +kernel) ⟨(Nat.le_of_ble_eq_true rfl), (Nat.le_of_ble_eq_true rfl)⟩ rfl rfl (Nat.le_of_ble_eq_true rfl) rfl rfl ⟨(Nat.le_of_ble_eq_true rfl), (Nat.le_of_ble_eq_true rfl)⟩ nX_no (fun v41 μ42 hv43 => ?_)
              obtain ⟨r44, hw47, h45, hm46⟩ := hv43
              subst hw47
              rw [hm46]
              have hnb9 := h45
              refine x_stk (stk' := [.int (zI r44)]) rfl ?_
              refine x_istore_n (lv' := [(3, .int (zI r44)), (4, .int (zI r35)), (6, .int (zI r35)), (5, .int (zI (k : Int))), (2, .int (zI ((σ 14) w.toNat))), (0, .ref m), (1, .int (zI w))]) C dX9_begin_79 rfl (by decide) rfl ?_
              refine z_iinc (lv' := [(5, .int (zI ((k : Int) + 1))), (3, .int (zI r44)), (4, .int (zI r35)), (6, .int (zI r35)), (2, .int (zI ((σ 14) w.toNat))), (0, .ref m), (1, .int (zI w))]) C dX9_begin_80 3 rfl rfl (by decide) rfl ?_
              refine x_goto (tgt := 35) C dX9_begin_83 (by decide) ?_
              refine x_sub (lv' := [(5, .int (zI ((k : Int) + 1))), (4, .int (zI r35)), (3, .int (zI r44)), (2, .int (zI ((σ 14) w.toNat))), (0, .ref m), (1, .int (zI w))]) [0, 2, 1, 4, 5, 6] rfl ?_
              exact ih35 _ (by omega) (k + 1) _ (by omega) _ _ (by omega) (by (split at hbm <;> omega)) (by (split at hbn <;> omega)) rfl
            · refine x_iload C dX9_begin_62 0 rfl ?_
              refine x_iload C dX9_begin_64 2 rfl ?_
              refine z_icmp_ge (tgt := 80) C dX9_begin_66 (by decide) (rg_of (by omega) (by omega)) (rg_of (by omega) (by omega)) (fun c_48 => ?_) (fun c_48 => ?_)
              · refine z_iinc (lv' := [(5, .int (zI ((k : Int) + 1))), (6, .int (zI r35)), (4, .int (zI l9)), (3, .int (zI b9)), (2, .int (zI ((σ 14) w.toNat))), (0, .ref m), (1, .int (zI w))]) C dX9_begin_80 1 rfl rfl (by decide) rfl ?_
                refine x_goto (tgt := 35) C dX9_begin_83 (by decide) ?_
                refine x_sub (lv' := [(5, .int (zI ((k : Int) + 1))), (4, .int (zI l9)), (3, .int (zI b9)), (2, .int (zI ((σ 14) w.toNat))), (0, .ref m), (1, .int (zI w))]) [0, 2, 3, 4, 5, 6] rfl ?_
                exact ih35 _ (by omega) (k + 1) _ (by omega) _ _ (by omega) (by (split at hbm <;> omega)) (by (split at hbn <;> omega)) rfl
              · refine x_iload C dX9_begin_69 0 rfl ?_
                refine x_istore (lv' := [(4, .int (zI r35)), (6, .int (zI r35)), (5, .int (zI (k : Int))), (3, .int (zI b9)), (2, .int (zI ((σ 14) w.toNat))), (0, .ref m), (1, .int (zI w))]) C dX9_begin_71 (by decide) rfl ?_
                refine x_iload_n C dX9_begin_73 rfl 4 rfl ?_
                refine x_iload C dX9_begin_74 2 rfl ?_
                refine x_callS (n := 2) (cc9 := 0) (ss9 := 0) (rest := []) C dX9_begin_76 (c_X9_neighbour (kxL E) C.st G z μ6 ((σ 14) w.toNat) (k : Int) (by omega) (by omega)) gX9_begin_X9_neighbour rfl (by decide +kernel) ⟨(Nat.le_of_ble_eq_true rfl), (Nat.le_of_ble_eq_true rfl)⟩ rfl rfl (Nat.le_of_ble_eq_true rfl) rfl rfl ⟨(Nat.le_of_ble_eq_true rfl), (Nat.le_of_ble_eq_true rfl)⟩ nX_no (fun v49 μ50 hv51 => ?_)
                obtain ⟨r52, hw55, h53, hm54⟩ := hv51
                subst hw55
                rw [hm54]
                have hnb9 := h53
                refine x_stk (stk' := [.int (zI r52)]) rfl ?_
                refine x_istore_n (lv' := [(3, .int (zI r52)), (4, .int (zI r35)), (6, .int (zI r35)), (5, .int (zI (k : Int))), (2, .int (zI ((σ 14) w.toNat))), (0, .ref m), (1, .int (zI w))]) C dX9_begin_79 rfl (by decide) rfl ?_
                refine z_iinc (lv' := [(5, .int (zI ((k : Int) + 1))), (3, .int (zI r52)), (4, .int (zI r35)), (6, .int (zI r35)), (2, .int (zI ((σ 14) w.toNat))), (0, .ref m), (1, .int (zI w))]) C dX9_begin_80 3 rfl rfl (by decide) rfl ?_
                refine x_goto (tgt := 35) C dX9_begin_83 (by decide) ?_
                refine x_sub (lv' := [(5, .int (zI ((k : Int) + 1))), (4, .int (zI r35)), (3, .int (zI r52)), (2, .int (zI ((σ 14) w.toNat))), (0, .ref m), (1, .int (zI w))]) [0, 2, 1, 4, 5, 6] rfl ?_
                exact ih35 _ (by omega) (k + 1) _ (by omega) _ _ (by omega) (by (split at hbm <;> omega)) (by (split at hbn <;> omega)) rfl
    exact L35 _ (0) _ (by omega) _ _ (by omega) rfl (Or.inl ⟨rfl, rfl⟩) rfl
