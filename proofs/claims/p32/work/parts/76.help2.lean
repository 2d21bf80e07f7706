/-! p32: the law -/
abbrev rm_L_lays : Room := { frames := 1, cells := 1, slots := 64, locals := 23 }
set_option maxHeartbeats 4000000 in
set_option maxRecDepth 100000 in
theorem c_L_lays (l : Launch) (hst : l.stackTraces = false) (G : GG) (z : Nat) (μ : Mm) (A1 A2 c rc : Nat) (σ : SS) (n : Nat) (K : Int64) (g : Int) (C0 : Nat → Int) (hI : Iv σ n) (hh : AI G μ A1 4001 64 (σ 0)) (hz : OL G μ A2 4002 K) (hZB : ZB σ K) (hc : AI G μ c rc 64 C0) (hg : 0 ≤ g ∧ g < 64) (hrc : 3001 ≤ rc ∧ rc + 2 ≤ 4001) : Ct l yL_lays wsL_lays rm_L_lays G z [.ref A1, .ref A2, .int (zI g), .ref c] μ (rV (fun μ' => (∃ C', AI G μ' c rc 64 C' ∧ LD σ g.toNat C') ∧ Fr rc (rc + 2) μ μ')) (nX) := by
  refine ct_of (cc := cL_lays) (maxL := 11) (ret := none) (own := RL) (by decide) rfl rfl hst (Nat.le_of_ble_eq_true rfl) ?_
  intro E hLl hnm C R hT
  obtain ⟨D, hD⟩ := WF_ex (σ 0) (σ 1) (g := g.toNat) (by omega)
  have hFr : Fr rc (rc + 2) μ μ := Fr.rf
  refine x_eq (lv' := [(0, .ref A1), (1, .ref A2), (2, .int (zI g)), (3, .ref c)]) rfl rfl ?_
  refine z_bipush C dL_lays_0 (by decide) ?_
  refine z_newI (N9 := 64) (cc9 := 1) (ss9 := 64) C (rc + 1) dL_lays_2 (by decide +kernel) rfl (by decide) rfl rfl (Nat.le_of_ble_eq_true rfl) (Nat.le_of_ble_eq_true rfl) (fun a1 μ2 hq3 hA4 hF5 => ?_)
  have hF6 : Fr 0 0 μ μ2 := hF5 _ _
  have hh := (hF5 0 0).ai hh (Or.inr (Nat.zero_le _))
  have hz := (hF5 0 0).ol hz (Or.inr (Nat.zero_le _))
  have hc := (hF5 0 0).ai hc (Or.inr (Nat.zero_le _))
  have hFr : Fr rc (rc + 2) μ μ2 := hFr.tr (hF5 rc (rc + 2))
  have hT := hA4
  clear hA4
  refine x_astore (lv' := [(4, .ref a1), (0, .ref A1), (1, .ref A2), (2, .int (zI g)), (3, .ref c)]) C dL_lays_4 (by decide) rfl ?_
  refine z_iconst C dL_lays_6 ?_
  refine x_istore (lv' := [(5, .int (zI 0)), (4, .ref a1), (0, .ref A1), (1, .ref A2), (2, .int (zI g)), (3, .ref c)]) C dL_lays_7 (by decide) rfl ?_
  have L9 : ∀ (M9 : Nat) (μk : Mm) (k : Nat) (kz : Int) (hkz : kz = (k : Int)) (Ck : Nat → Int) (hh : AI G μk A1 4001 64 (σ 0)) (hz : OL G μk A2 4002 K) (hc : AI G μk c rc 64 Ck) (hT : AI G μk a1 (rc + 1) 64 (fun _ => 0)) (hFr : Fr rc (rc + 2) μ μk) (hk : k ≤ 64) (hA : ∀ j, j < k → Ck j = if j = g.toNat then 0 else 100000) (hM9 : 64 - k = M9), Wx E G 1 64 9 [(5, .int (zI kz)), (4, .ref a1), (0, .ref A1), (1, .ref A2), (2, .int (zI g)), (3, .ref c)] [] μk := by
    intro M9
    induction M9 using Nat.strongRecOn with
    | ind M9 ih9 =>
      intro μk k kz hkz Ck hh hz hc hT hFr hk hA hM9
      subst hkz
      refine x_iload C dL_lays_9 0 rfl ?_
      refine z_bipush C dL_lays_11 (by decide) ?_
      refine z_icmp_ge (tgt := 38) C dL_lays_13 (by decide) (rg_of (by omega) (by omega)) (rg_of (by omega) (by omega)) (fun c_7 => ?_) (fun c_7 => ?_)
      · refine z_iconst C dL_lays_38 ?_
        refine x_istore (lv' := [(5, .int (zI 0)), (4, .ref a1), (0, .ref A1), (1, .ref A2), (2, .int (zI g)), (3, .ref c)]) C dL_lays_39 (by decide) rfl ?_
        have L41 : ∀ (M9 : Nat) (μr : Mm) (k : Nat) (kz : Int) (hkz : kz = (k : Int)) (Ck : Nat → Int) (Tk : Nat → Int) (hh : AI G μr A1 4001 64 (σ 0)) (hz : OL G μr A2 4002 K) (hc : AI G μr c rc 64 Ck) (hT : AI G μr a1 (rc + 1) 64 Tk) (hFr : Fr rc (rc + 2) μ μr) (hk : k ≤ 64) (hW : WI (σ 0) (σ 1) g.toNat (fL Ck)) (hTr : ∀ j, j < 64 → Tk j = 0 ∨ Tk j = 1) (hJ : DJ (σ 0) (σ 1) D (fL Ck) Tk) (hC : CI9 Ck k) (hE : sm Tk 64 = k ∨ ∀ j, j < 64 → Tk j = 0 → Ck j = 100000) (hM9 : 64 - k = M9), Wx E G 1 64 41 [(5, .int (zI kz)), (4, .ref a1), (0, .ref A1), (1, .ref A2), (2, .int (zI g)), (3, .ref c)] [] μr := by
          intro M9
          induction M9 using Nat.strongRecOn with
          | ind M9 ih41 =>
            intro μr k kz hkz Ck Tk hh hz hc hT hFr hk hW hTr hJ hC hE hM9
            subst hkz
            refine x_iload C dL_lays_41 0 rfl ?_
            refine z_bipush C dL_lays_43 (by decide) ?_
            refine z_icmp_ge (tgt := 233) C dL_lays_45 (by decide) (rg_of (by omega) (by omega)) (rg_of (by omega) (by omega)) (fun c_8 => ?_) (fun c_8 => ?_)
            · exact x_vret C R dL_lays_233 (Nat.le_of_ble_eq_true rfl) (Nat.le_of_ble_eq_true rfl) (⟨rfl, ⟨_, hc, LR_end (by omega) hD hW hTr hJ (k := (k : Int)) (by omega) hC hE⟩, hFr⟩)
            · have hB : CB Ck := hC.b (by omega)
              refine z_iconst C dL_lays_48 ?_
              refine x_istore (lv' := [(6, .int (zI (-1))), (5, .int (zI (k : Int))), (4, .ref a1), (0, .ref A1), (1, .ref A2), (2, .int (zI g)), (3, .ref c)]) C dL_lays_49 (by decide) rfl ?_
              refine z_iconst C dL_lays_51 ?_
              refine x_istore (lv' := [(7, .int (zI 0)), (6, .int (zI (-1))), (5, .int (zI (k : Int))), (4, .ref a1), (0, .ref A1), (1, .ref A2), (2, .int (zI g)), (3, .ref c)]) C dL_lays_52 (by decide) rfl ?_
              have L54 : ∀ (M9 : Nat) (nx : Int) (j : Nat) (jz : Int) (hjz : jz = (j : Int)) (hj : j ≤ 64) (hN : NX Ck Tk j nx) (hM9 : 64 - j = M9), Wx E G 1 64 54 [(7, .int (zI jz)), (6, .int (zI nx)), (5, .int (zI (k : Int))), (4, .ref a1), (0, .ref A1), (1, .ref A2), (2, .int (zI g)), (3, .ref c)] [] μr := by
                intro M9
                induction M9 using Nat.strongRecOn with
                | ind M9 ih54 =>
                  intro nx j jz hjz hj hN hM9
                  subst hjz
                  have hnr := hN.rg
                  refine x_iload C dL_lays_54 0 rfl ?_
                  refine z_bipush C dL_lays_56 (by decide) ?_
                  refine z_icmp_ge (tgt := 109) C dL_lays_58 (by decide) (rg_of (by omega) (by omega)) (rg_of (by omega) (by omega)) (fun c_9 => ?_) (fun c_9 => ?_)
                  · refine x_iload C dL_lays_109 1 rfl ?_
                    refine z_if_lt (tgt := 227) C dL_lays_111 (by decide) (rg_of (by omega) (by omega)) (fun c_10 => ?_) (fun c_10 => ?_)
                    · refine z_iinc (lv' := [(5, .int (zI ((k : Int) + 1))), (7, .int (zI (j : Int))), (6, .int (zI nx)), (4, .ref a1), (0, .ref A1), (1, .ref A2), (2, .int (zI g)), (3, .ref c)]) C dL_lays_227 2 rfl rfl (by decide) rfl ?_
                      refine x_goto (tgt := 41) C dL_lays_230 (by decide) ?_
                      refine x_sub (lv' := [(5, .int (zI ((k : Int) + 1))), (4, .ref a1), (0, .ref A1), (1, .ref A2), (2, .int (zI g)), (3, .ref c)]) [0, 3, 4, 5, 6, 7] rfl ?_
                      exact ih41 _ (by omega) _ (k + 1) _ (by omega) _ _ hh hz hc hT hFr (by omega) hW hTr hJ (hC.mono (by omega)) (Or.inr (by (have ej : j = 64 := by omega); subst ej; rcases hN with ⟨-, h2⟩ | ⟨u, h1, h2, -⟩; exact h2; exfalso; omega)) rfl
                    · have ej : j = 64 := by omega
                      subst ej
                      obtain ⟨u, hu1, hu2, hu3, hu4, hu5⟩ : ∃ u : Nat, u < 64 ∧ nx = (u : Int) ∧ Tk u = 0 ∧ Ck u < 100000 ∧ ∀ j', j' < 64 → Tk j' = 0 → Ck u ≤ Ck j' := by (rcases hN with ⟨h1, -⟩ | h1; exfalso; omega; exact h1)
                      subst hu2
                      have hcu := hB u hu1
                      refine x_aload C dL_lays_114 3 rfl ?_
                      refine x_iload C dL_lays_116 1 rfl ?_
                      refine z_iconst C dL_lays_118 ?_
                      refine z_iast (j := u) C dL_lays_119 hT (by omega) (by omega) (by decide) (fun μ11 hTw hF12 => ?_)
                      have hh := hF12.ai hh
                      have hz := hF12.ol hz
                      have hc := hF12.ai hc
                      have hFr : Fr rc (rc + 2) μ μ11 := hFr.tr hF12
                      have hT := hTw
                      refine z_iconst C dL_lays_120 ?_
                      refine x_istore (lv' := [(7, .int (zI 0)), (6, .int (zI (u : Int))), (5, .int (zI (k : Int))), (4, .ref a1), (0, .ref A1), (1, .ref A2), (2, .int (zI g)), (3, .ref c)]) C dL_lays_121 (by decide) rfl ?_
                      have L123 : ∀ (M9 : Nat) (μj : Mm) (j : Nat) (jz : Int) (hjz : jz = (j : Int)) (hh : AI G μj A1 4001 64 (σ 0)) (hz : OL G μj A2 4002 K) (hc : AI G μj c rc 64 (rlx (σ 0) (σ 1) Ck u j)) (hT : AI G μj a1 (rc + 1) 64 (wr Tk u 1)) (hFr : Fr rc (rc + 2) μ μj) (hj : j ≤ 64) (hM9 : 64 - j = M9), Wx E G 1 64 123 [(7, .int (zI jz)), (6, .int (zI (u : Int))), (5, .int (zI (k : Int))), (4, .ref a1), (0, .ref A1), (1, .ref A2), (2, .int (zI g)), (3, .ref c)] [] μj := by
                        intro M9
                        induction M9 using Nat.strongRecOn with
                        | ind M9 ih123 =>
                          intro μj j jz hjz hh hz hc hT hFr hj hM9
                          subst hjz
                          refine x_iload C dL_lays_123 0 rfl ?_
                          refine z_bipush C dL_lays_125 (by decide) ?_
                          refine z_icmp_ge (tgt := 227) C dL_lays_127 (by decide) (rg_of (by omega) (by omega)) (rg_of (by omega) (by omega)) (fun c_13 => ?_) (fun c_13 => ?_)
                          · refine z_iinc (lv' := [(5, .int (zI ((k : Int) + 1))), (7, .int (zI (j : Int))), (6, .int (zI (u : Int))), (4, .ref a1), (0, .ref A1), (1, .ref A2), (2, .int (zI g)), (3, .ref c)]) C dL_lays_227 2 rfl rfl (by decide) rfl ?_
                            refine x_goto (tgt := 41) C dL_lays_230 (by decide) ?_
                            refine x_sub (lv' := [(5, .int (zI ((k : Int) + 1))), (4, .ref a1), (0, .ref A1), (1, .ref A2), (2, .int (zI g)), (3, .ref c)]) [0, 3, 4, 5, 6, 7] rfl ?_
                            have ej : j = 64 := by omega
                            subst ej
                            have hst9 := LR_step (fun j hj => hI.r0 j hj) hD hW hTr hJ hu1 hu3 hu4 hu5 (by omega) hC
                            have hsm9 : sm (wr Tk u 1) 64 = sm Tk 64 + 1 := by (rw [sm_wr hu1, hu3]; omega)
                            exact ih41 _ (by omega) _ (k + 1) _ (by omega) _ _ hh hz hc hT hFr (by omega) hst9.1 (fun j hj => by (have := hTr j hj; unfold wr; split <;> omega)) hst9.2.1 hst9.2.2 (by (rcases hE with h1 | h1; exact Or.inl (by omega); exfalso; have := h1 u hu1 hu3; omega)) rfl
                          · have hd9 := dst_rg (p := (j : Int)) (q := (u : Int)) (by omega) (by omega)
                            have hj9 := hI.r0 j (by omega)
                            have hu9 := hI.r0 u hu1
                            have hi9 := iabs_c (σ 0 j - σ 0 u)
                            have hcj := hB j (by omega)
                            refine x_aload_n C dL_lays_130 rfl 4 rfl ?_
                            refine x_iload C dL_lays_131 0 rfl ?_
                            refine z_iald (j := j) C dL_lays_133 hh (by omega) (by omega) (by decide) ?_
                            refine x_aload_n C dL_lays_134 rfl 4 rfl ?_
                            refine x_iload C dL_lays_135 1 rfl ?_
                            refine z_iald (j := u) C dL_lays_137 hh (by omega) (by omega) (by decide) ?_
                            refine z_isub C dL_lays_138 rfl ?_
                            refine x_istore (lv' := [(8, .int (zI (((σ 0) j) - ((σ 0) u)))), (7, .int (zI (j : Int))), (6, .int (zI (u : Int))), (5, .int (zI (k : Int))), (4, .ref a1), (0, .ref A1), (1, .ref A2), (2, .int (zI g)), (3, .ref c)]) C dL_lays_139 (by decide) rfl ?_
                            refine x_aload_n C dL_lays_141 rfl 8 rfl ?_
                            refine x_iload C dL_lays_142 2 rfl ?_
                            refine z_iald (j := u) C dL_lays_144 hc (by omega) (by omega) (by decide) ?_
                            refine x_stk (stk' := [.int (zI (Ck u))]) (by (rw [rlx_u])) ?_
                            refine z_iconst C dL_lays_145 ?_
                            refine z_iadd C dL_lays_146 rfl ?_
                            refine x_iload C dL_lays_147 0 rfl ?_
                            refine z_if_ge (tgt := 158) C dL_lays_149 (by decide) (rg_of (by omega) (by omega)) (fun c_14 => ?_) (fun c_14 => ?_)
                            · refine x_iload C dL_lays_158 0 rfl ?_
                              refine z_iadd C dL_lays_160 rfl ?_
                              refine x_istore (lv' := [(9, .int (zI (((Ck u) + 1) + (((σ 0) j) - ((σ 0) u))))), (8, .int (zI (((σ 0) j) - ((σ 0) u)))), (7, .int (zI (j : Int))), (6, .int (zI (u : Int))), (5, .int (zI (k : Int))), (4, .ref a1), (0, .ref A1), (1, .ref A2), (2, .int (zI g)), (3, .ref c)]) C dL_lays_161 (by decide) rfl ?_
                              refine x_iload C dL_lays_163 2 rfl ?_
                              refine x_iload C dL_lays_165 3 rfl ?_
                              refine x_callS (n := 2) (cc9 := 1) (ss9 := 64) (rest := []) C dL_lays_167 (c_L_far (kxL E) C.st G z μj (j : Int) (u : Int) (by omega) (by omega)) gL_lays_L_far rfl (by decide +kernel) ⟨(Nat.le_of_ble_eq_true rfl), (Nat.le_of_ble_eq_true rfl)⟩ rfl rfl (Nat.le_of_ble_eq_true rfl) rfl rfl ⟨(Nat.le_of_ble_eq_true rfl), (Nat.le_of_ble_eq_true rfl)⟩ nX_no (fun v15 μ16 hv17 => ?_)
                              obtain ⟨r18, hw21, h19, hm20⟩ := hv17
                              subst hw21
                              rw [hm20]
                              refine x_stk (stk' := [.int (zI r18)]) rfl ?_
                              refine z_iconst C dL_lays_170 ?_
                              refine z_icmp_ne (tgt := 200) C dL_lays_171 (by decide) (rg_of (by omega) (by omega)) (rg_of (by omega) (by omega)) (fun c_22 => ?_) (fun c_22 => ?_)
                              · refine z_iconst C dL_lays_200 ?_
                                refine x_istore (lv' := [(10, .int (zI 0)), (9, .int (zI (((Ck u) + 1) + (((σ 0) j) - ((σ 0) u))))), (8, .int (zI (((σ 0) j) - ((σ 0) u)))), (7, .int (zI (j : Int))), (6, .int (zI (u : Int))), (5, .int (zI (k : Int))), (4, .ref a1), (0, .ref A1), (1, .ref A2), (2, .int (zI g)), (3, .ref c)]) C dL_lays_201 (by decide) rfl ?_
                                refine x_aload_n C dL_lays_203 rfl 10 rfl ?_
                                refine x_iload C dL_lays_204 3 rfl ?_
                                refine x_iload C dL_lays_206 0 rfl ?_
                                refine z_if_eq (tgt := 216) C dL_lays_208 (by decide) (rg_of (by omega) (by omega)) (fun c_23 => ?_) (fun c_23 => ?_)
                                · refine x_aload_n C dL_lays_216 rfl 10 rfl ?_
                                  refine x_iload C dL_lays_217 3 rfl ?_
                                  refine z_iald (j := j) C dL_lays_219 hc (by omega) (by omega) (by decide) ?_
                                  refine x_stk (stk' := [.int (zI (Ck j)), .int (zI (j : Int)), .ref c]) (by (rw [rlx_j])) ?_
                                  refine z_iast (j := j) C dL_lays_220 hc (by omega) (by omega) (by decide) (fun μ24 hcw hF25 => ?_)
                                  have hh := hF25.ai hh
                                  have hz := hF25.ol hz
                                  have hT := hF25.ai hT
                                  have hFr : Fr rc (rc + 2) μ μ24 := hFr.tr hF25
                                  have hc := hcw
                                  refine z_iinc (lv' := [(7, .int (zI ((j : Int) + 1))), (10, .int (zI 0)), (9, .int (zI (((Ck u) + 1) + (((σ 0) j) - ((σ 0) u))))), (8, .int (zI (((σ 0) j) - ((σ 0) u)))), (6, .int (zI (u : Int))), (5, .int (zI (k : Int))), (4, .ref a1), (0, .ref A1), (1, .ref A2), (2, .int (zI g)), (3, .ref c)]) C dL_lays_221 3 rfl rfl (by decide) rfl ?_
                                  refine x_goto (tgt := 123) C dL_lays_224 (by decide) ?_
                                  refine x_sub (lv' := [(7, .int (zI ((j : Int) + 1))), (6, .int (zI (u : Int))), (5, .int (zI (k : Int))), (4, .ref a1), (0, .ref A1), (1, .ref A2), (2, .int (zI g)), (3, .ref c)]) [0, 4, 5, 6, 7, 8, 9, 10] rfl ?_
                                  have hc : AI G μ24 c rc 64 (rlx (σ 0) (σ 1) Ck u (j + 1)) := by (rw [← rlx_s (v := Ck j) (by (unfold rl1; split <;> omega))]; exact hc)
                                  exact ih123 _ (by omega) _ (j + 1) _ (by omega) hh hz hc hT hFr (by omega) rfl
                                · exfalso; omega
                              · refine x_aload_n C dL_lays_174 rfl 7 rfl ?_
                                refine z_iconst C dL_lays_175 ?_
                                refine z_olld C dL_lays_176 hz ?_
                                refine x_iload C dL_lays_177 3 rfl ?_
                                refine z_bit C u dL_lays_179 dL_lays_180 dL_lays_181 (by omega) (by omega) rfl ?_
                                rcases Bool.eq_false_or_eq_true (kb K u) with hkb26 | hkb26
                                · refine x_stk (stk' := [.long (1 : Int64)]) (by rw [hkb26]; rfl) ?_
                                  have hzb27 := hZB.yes (p := u) (by omega) hkb26
                                  refine x_lconst (v := (0 : Int64)) C dL_lays_182 rfl ?_
                                  refine x_lcmp (v := zI (1)) C dL_lays_183 (by decide) ?_
                                  refine z_if_ne (tgt := 200) C dL_lays_184 (by decide) (rg_of (by omega) (by omega)) (fun c_28 => ?_) (fun c_28 => ?_)
                                  · refine z_iconst C dL_lays_200 ?_
                                    refine x_istore (lv' := [(10, .int (zI 0)), (9, .int (zI (((Ck u) + 1) + (((σ 0) j) - ((σ 0) u))))), (8, .int (zI (((σ 0) j) - ((σ 0) u)))), (7, .int (zI (j : Int))), (6, .int (zI (u : Int))), (5, .int (zI (k : Int))), (4, .ref a1), (0, .ref A1), (1, .ref A2), (2, .int (zI g)), (3, .ref c)]) C dL_lays_201 (by decide) rfl ?_
                                    refine x_aload_n C dL_lays_203 rfl 10 rfl ?_
                                    refine x_iload C dL_lays_204 3 rfl ?_
                                    refine x_iload C dL_lays_206 0 rfl ?_
                                    refine z_if_eq (tgt := 216) C dL_lays_208 (by decide) (rg_of (by omega) (by omega)) (fun c_29 => ?_) (fun c_29 => ?_)
                                    · refine x_aload_n C dL_lays_216 rfl 10 rfl ?_
                                      refine x_iload C dL_lays_217 3 rfl ?_
                                      refine z_iald (j := j) C dL_lays_219 hc (by omega) (by omega) (by decide) ?_
                                      refine x_stk (stk' := [.int (zI (Ck j)), .int (zI (j : Int)), .ref c]) (by (rw [rlx_j])) ?_
                                      refine z_iast (j := j) C dL_lays_220 hc (by omega) (by omega) (by decide) (fun μ30 hcw hF31 => ?_)
                                      have hh := hF31.ai hh
                                      have hz := hF31.ol hz
                                      have hT := hF31.ai hT
                                      have hFr : Fr rc (rc + 2) μ μ30 := hFr.tr hF31
                                      have hc := hcw
                                      refine z_iinc (lv' := [(7, .int (zI ((j : Int) + 1))), (10, .int (zI 0)), (9, .int (zI (((Ck u) + 1) + (((σ 0) j) - ((σ 0) u))))), (8, .int (zI (((σ 0) j) - ((σ 0) u)))), (6, .int (zI (u : Int))), (5, .int (zI (k : Int))), (4, .ref a1), (0, .ref A1), (1, .ref A2), (2, .int (zI g)), (3, .ref c)]) C dL_lays_221 3 rfl rfl (by decide) rfl ?_
                                      refine x_goto (tgt := 123) C dL_lays_224 (by decide) ?_
                                      refine x_sub (lv' := [(7, .int (zI ((j : Int) + 1))), (6, .int (zI (u : Int))), (5, .int (zI (k : Int))), (4, .ref a1), (0, .ref A1), (1, .ref A2), (2, .int (zI g)), (3, .ref c)]) [0, 4, 5, 6, 7, 8, 9, 10] rfl ?_
                                      have hc : AI G μ30 c rc 64 (rlx (σ 0) (σ 1) Ck u (j + 1)) := by (rw [← rlx_s (v := Ck j) (by (unfold rl1; split <;> omega))]; exact hc)
                                      exact ih123 _ (by omega) _ (j + 1) _ (by omega) hh hz hc hT hFr (by omega) rfl
                                    · exfalso; omega
                                  · exfalso; omega
                                · refine x_stk (stk' := [.long (0 : Int64)]) (by rw [hkb26]; rfl) ?_
                                  have hzb32 := hZB.no (p := u) (by omega) hkb26
                                  refine x_lconst (v := (0 : Int64)) C dL_lays_182 rfl ?_
                                  refine x_lcmp (v := zI (0)) C dL_lays_183 (by decide) ?_
                                  refine z_if_ne (tgt := 200) C dL_lays_184 (by decide) (rg_of (by omega) (by omega)) (fun c_33 => ?_) (fun c_33 => ?_)
                                  · exfalso; omega
                                  · refine x_iload C dL_lays_187 0 rfl ?_
                                    refine x_aload_n C dL_lays_189 rfl 9 rfl ?_
                                    refine x_iload C dL_lays_190 2 rfl ?_
                                    refine z_iald (j := j) C dL_lays_192 hc (by omega) (by omega) (by decide) ?_
                                    refine x_stk (stk' := [.int (zI (Ck j)), .int (zI (((Ck u) + 1) + (((σ 0) j) - ((σ 0) u))))]) (by (rw [rlx_j])) ?_
                                    refine z_icmp_ge (tgt := 200) C dL_lays_193 (by decide) (rg_of (by omega) (by omega)) (rg_of (by omega) (by omega)) (fun c_34 => ?_) (fun c_34 => ?_)
                                    · refine z_iconst C dL_lays_200 ?_
                                      refine x_istore (lv' := [(10, .int (zI 0)), (9, .int (zI (((Ck u) + 1) + (((σ 0) j) - ((σ 0) u))))), (8, .int (zI (((σ 0) j) - ((σ 0) u)))), (7, .int (zI (j : Int))), (6, .int (zI (u : Int))), (5, .int (zI (k : Int))), (4, .ref a1), (0, .ref A1), (1, .ref A2), (2, .int (zI g)), (3, .ref c)]) C dL_lays_201 (by decide) rfl ?_
                                      refine x_aload_n C dL_lays_203 rfl 10 rfl ?_
                                      refine x_iload C dL_lays_204 3 rfl ?_
                                      refine x_iload C dL_lays_206 0 rfl ?_
                                      refine z_if_eq (tgt := 216) C dL_lays_208 (by decide) (rg_of (by omega) (by omega)) (fun c_35 => ?_) (fun c_35 => ?_)
                                      · refine x_aload_n C dL_lays_216 rfl 10 rfl ?_
                                        refine x_iload C dL_lays_217 3 rfl ?_
                                        refine z_iald (j := j) C dL_lays_219 hc (by omega) (by omega) (by decide) ?_
                                        refine x_stk (stk' := [.int (zI (Ck j)), .int (zI (j : Int)), .ref c]) (by (rw [rlx_j])) ?_
                                        refine z_iast (j := j) C dL_lays_220 hc (by omega) (by omega) (by decide) (fun μ36 hcw hF37 => ?_)
                                        have hh := hF37.ai hh
                                        have hz := hF37.ol hz
                                        have hT := hF37.ai hT
                                        have hFr : Fr rc (rc + 2) μ μ36 := hFr.tr hF37
                                        have hc := hcw
                                        refine z_iinc (lv' := [(7, .int (zI ((j : Int) + 1))), (10, .int (zI 0)), (9, .int (zI (((Ck u) + 1) + (((σ 0) j) - ((σ 0) u))))), (8, .int (zI (((σ 0) j) - ((σ 0) u)))), (6, .int (zI (u : Int))), (5, .int (zI (k : Int))), (4, .ref a1), (0, .ref A1), (1, .ref A2), (2, .int (zI g)), (3, .ref c)]) C dL_lays_221 3 rfl rfl (by decide) rfl ?_
                                        refine x_goto (tgt := 123) C dL_lays_224 (by decide) ?_
                                        refine x_sub (lv' := [(7, .int (zI ((j : Int) + 1))), (6, .int (zI (u : Int))), (5, .int (zI (k : Int))), (4, .ref a1), (0, .ref A1), (1, .ref A2), (2, .int (zI g)), (3, .ref c)]) [0, 4, 5, 6, 7, 8, 9, 10] rfl ?_
                                        have hc : AI G μ36 c rc 64 (rlx (σ 0) (σ 1) Ck u (j + 1)) := by (rw [← rlx_s (v := Ck j) (by (unfold rl1; split <;> omega))]; exact hc)
                                        exact ih123 _ (by omega) _ (j + 1) _ (by omega) hh hz hc hT hFr (by omega) rfl
                                      · exfalso; omega
                                    · refine z_iconst C dL_lays_196 ?_
                                      refine x_goto (tgt := 201) C dL_lays_197 (by decide) ?_
                                      refine x_istore (lv' := [(10, .int (zI 1)), (9, .int (zI (((Ck u) + 1) + (((σ 0) j) - ((σ 0) u))))), (8, .int (zI (((σ 0) j) - ((σ 0) u)))), (7, .int (zI (j : Int))), (6, .int (zI (u : Int))), (5, .int (zI (k : Int))), (4, .ref a1), (0, .ref A1), (1, .ref A2), (2, .int (zI g)), (3, .ref c)]) C dL_lays_201 (by decide) rfl ?_
                                      refine x_aload_n C dL_lays_203 rfl 10 rfl ?_
                                      refine x_iload C dL_lays_204 3 rfl ?_
                                      refine x_iload C dL_lays_206 0 rfl ?_
                                      refine z_if_eq (tgt := 216) C dL_lays_208 (by decide) (rg_of (by omega) (by omega)) (fun c_38 => ?_) (fun c_38 => ?_)
                                      · exfalso; omega
                                      · refine x_iload C dL_lays_211 1 rfl ?_
                                        refine x_goto (tgt := 220) C dL_lays_213 (by decide) ?_
                                        refine z_iast (j := j) C dL_lays_220 hc (by omega) (by omega) (by decide) (fun μ39 hcw hF40 => ?_)
                                        have hh := hF40.ai hh
                                        have hz := hF40.ol hz
                                        have hT := hF40.ai hT
                                        have hFr : Fr rc (rc + 2) μ μ39 := hFr.tr hF40
                                        have hc := hcw
                                        refine z_iinc (lv' := [(7, .int (zI ((j : Int) + 1))), (10, .int (zI 1)), (9, .int (zI (((Ck u) + 1) + (((σ 0) j) - ((σ 0) u))))), (8, .int (zI (((σ 0) j) - ((σ 0) u)))), (6, .int (zI (u : Int))), (5, .int (zI (k : Int))), (4, .ref a1), (0, .ref A1), (1, .ref A2), (2, .int (zI g)), (3, .ref c)]) C dL_lays_221 3 rfl rfl (by decide) rfl ?_
                                        refine x_goto (tgt := 123) C dL_lays_224 (by decide) ?_
                                        refine x_sub (lv' := [(7, .int (zI ((j : Int) + 1))), (6, .int (zI (u : Int))), (5, .int (zI (k : Int))), (4, .ref a1), (0, .ref A1), (1, .ref A2), (2, .int (zI g)), (3, .ref c)]) [0, 4, 5, 6, 7, 8, 9, 10] rfl ?_
                                        have hc : AI G μ39 c rc 64 (rlx (σ 0) (σ 1) Ck u (j + 1)) := by (rw [← rlx_s (v := ((Ck u) + 1) + (((σ 0) j) - ((σ 0) u))) (by (unfold rl1; split <;> omega))]; exact hc)
                                        exact ih123 _ (by omega) _ (j + 1) _ (by omega) hh hz hc hT hFr (by omega) rfl
                            · refine x_iload C dL_lays_152 0 rfl ?_
                              refine z_ineg C dL_lays_154 ?_
                              refine x_goto (tgt := 160) C dL_lays_155 (by decide) ?_
                              refine z_iadd C dL_lays_160 rfl ?_
                              refine x_istore (lv' := [(9, .int (zI (((Ck u) + 1) + (-(((σ 0) j) - ((σ 0) u)))))), (8, .int (zI (((σ 0) j) - ((σ 0) u)))), (7, .int (zI (j : Int))), (6, .int (zI (u : Int))), (5, .int (zI (k : Int))), (4, .ref a1), (0, .ref A1), (1, .ref A2), (2, .int (zI g)), (3, .ref c)]) C dL_lays_161 (by decide) rfl ?_
                              refine x_iload C dL_lays_163 2 rfl ?_
                              refine x_iload C dL_lays_165 3 rfl ?_
                              refine x_callS (n := 2) (cc9 := 1) (ss9 := 64) (rest := []) C dL_lays_167 (c_L_far (kxL E) C.st G z μj (j : Int) (u : Int) (by omega) (by omega)) gL_lays_L_far rfl (by decide +kernel) ⟨(Nat.le_of_ble_eq_true rfl), (Nat.le_of_ble_eq_true rfl)⟩ rfl rfl (Nat.le_of_ble_eq_true rfl) rfl rfl ⟨(Nat.le_of_ble_eq_true rfl), (Nat.le_of_ble_eq_true rfl)⟩ nX_no (fun v41 μ42 hv43 => ?_)
                              obtain ⟨r44, hw47, h45, hm46⟩ := hv43
                              subst hw47
                              rw [hm46]
                              refine x_stk (stk' := [.int (zI r44)]) rfl ?_
                              refine z_iconst C dL_lays_170 ?_
                              refine z_icmp_ne (tgt := 200) C dL_lays_171 (by decide) (rg_of (by omega) (by omega)) (rg_of (by omega) (by omega)) (fun c_48 => ?_) (fun c_48 => ?_)
                              · refine z_iconst C dL_lays_200 ?_
                                refine x_istore (lv' := [(10, .int (zI 0)), (9, .int (zI (((Ck u) + 1) + (-(((σ 0) j) - ((σ 0) u)))))), (8, .int (zI (((σ 0) j) - ((σ 0) u)))), (7, .int (zI (j : Int))), (6, .int (zI (u : Int))), (5, .int (zI (k : Int))), (4, .ref a1), (0, .ref A1), (1, .ref A2), (2, .int (zI g)), (3, .ref c)]) C dL_lays_201 (by decide) rfl ?_
                                refine x_aload_n C dL_lays_203 rfl 10 rfl ?_
                                refine x_iload C dL_lays_204 3 rfl ?_
                                refine x_iload C dL_lays_206 0 rfl ?_
                                refine z_if_eq (tgt := 216) C dL_lays_208 (by decide) (rg_of (by omega) (by omega)) (fun c_49 => ?_) (fun c_49 => ?_)
                                · refine x_aload_n C dL_lays_216 rfl 10 rfl ?_
                                  refine x_iload C dL_lays_217 3 rfl ?_
                                  refine z_iald (j := j) C dL_lays_219 hc (by omega) (by omega) (by decide) ?_
                                  refine x_stk (stk' := [.int (zI (Ck j)), .int (zI (j : Int)), .ref c]) (by (rw [rlx_j])) ?_
                                  refine z_iast (j := j) C dL_lays_220 hc (by omega) (by omega) (by decide) (fun μ50 hcw hF51 => ?_)
                                  have hh := hF51.ai hh
                                  have hz := hF51.ol hz
                                  have hT := hF51.ai hT
                                  have hFr : Fr rc (rc + 2) μ μ50 := hFr.tr hF51
                                  have hc := hcw
                                  refine z_iinc (lv' := [(7, .int (zI ((j : Int) + 1))), (10, .int (zI 0)), (9, .int (zI (((Ck u) + 1) + (-(((σ 0) j) - ((σ 0) u)))))), (8, .int (zI (((σ 0) j) - ((σ 0) u)))), (6, .int (zI (u : Int))), (5, .int (zI (k : Int))), (4, .ref a1), (0, .ref A1), (1, .ref A2), (2, .int (zI g)), (3, .ref c)]) C dL_lays_221 3 rfl rfl (by decide) rfl ?_
                                  refine x_goto (tgt := 123) C dL_lays_224 (by decide) ?_
                                  refine x_sub (lv' := [(7, .int (zI ((j : Int) + 1))), (6, .int (zI (u : Int))), (5, .int (zI (k : Int))), (4, .ref a1), (0, .ref A1), (1, .ref A2), (2, .int (zI g)), (3, .ref c)]) [0, 4, 5, 6, 7, 8, 9, 10] rfl ?_
                                  have hc : AI G μ50 c rc 64 (rlx (σ 0) (σ 1) Ck u (j + 1)) := by (rw [← rlx_s (v := Ck j) (by (unfold rl1; split <;> omega))]; exact hc)
                                  exact ih123 _ (by omega) _ (j + 1) _ (by omega) hh hz hc hT hFr (by omega) rfl
                                · exfalso; omega
                              · refine x_aload_n C dL_lays_174 rfl 7 rfl ?_
                                refine z_iconst C dL_lays_175 ?_
                                refine z_olld C dL_lays_176 hz ?_
                                refine x_iload C dL_lays_177 3 rfl ?_
                                refine z_bit C u dL_lays_179 dL_lays_180 dL_lays_181 (by omega) (by omega) rfl ?_
                                rcases Bool.eq_false_or_eq_true (kb K u) with hkb52 | hkb52
                                · refine x_stk (stk' := [.long (1 : Int64)]) (by rw [hkb52]; rfl) ?_
                                  have hzb53 := hZB.yes (p := u) (by omega) hkb52
                                  refine x_lconst (v := (0 : Int64)) C dL_lays_182 rfl ?_
                                  refine x_lcmp (v := zI (1)) C dL_lays_183 (by decide) ?_
                                  refine z_if_ne (tgt := 200) C dL_lays_184 (by decide) (rg_of (by omega) (by omega)) (fun c_54 => ?_) (fun c_54 => ?_)
                                  · refine z_iconst C dL_lays_200 ?_
                                    refine x_istore (lv' := [(10, .int (zI 0)), (9, .int (zI (((Ck u) + 1) + (-(((σ 0) j) - ((σ 0) u)))))), (8, .int (zI (((σ 0) j) - ((σ 0) u)))), (7, .int (zI (j : Int))), (6, .int (zI (u : Int))), (5, .int (zI (k : Int))), (4, .ref a1), (0, .ref A1), (1, .ref A2), (2, .int (zI g)), (3, .ref c)]) C dL_lays_201 (by decide) rfl ?_
                                    refine x_aload_n C dL_lays_203 rfl 10 rfl ?_
                                    refine x_iload C dL_lays_204 3 rfl ?_
                                    refine x_iload C dL_lays_206 0 rfl ?_
                                    refine z_if_eq (tgt := 216) C dL_lays_208 (by decide) (rg_of (by omega) (by omega)) (fun c_55 => ?_) (fun c_55 => ?_)
                                    · refine x_aload_n C dL_lays_216 rfl 10 rfl ?_
                                      refine x_iload C dL_lays_217 3 rfl ?_
                                      refine z_iald (j := j) C dL_lays_219 hc (by omega) (by omega) (by decide) ?_
                                      refine x_stk (stk' := [.int (zI (Ck j)), .int (zI (j : Int)), .ref c]) (by (rw [rlx_j])) ?_
                                      refine z_iast (j := j) C dL_lays_220 hc (by omega) (by omega) (by decide) (fun μ56 hcw hF57 => ?_)
                                      have hh := hF57.ai hh
                                      have hz := hF57.ol hz
                                      have hT := hF57.ai hT
                                      have hFr : Fr rc (rc + 2) μ μ56 := hFr.tr hF57
                                      have hc := hcw
                                      refine z_iinc (lv' := [(7, .int (zI ((j : Int) + 1))), (10, .int (zI 0)), (9, .int (zI (((Ck u) + 1) + (-(((σ 0) j) - ((σ 0) u)))))), (8, .int (zI (((σ 0) j) - ((σ 0) u)))), (6, .int (zI (u : Int))), (5, .int (zI (k : Int))), (4, .ref a1), (0, .ref A1), (1, .ref A2), (2, .int (zI g)), (3, .ref c)]) C dL_lays_221 3 rfl rfl (by decide) rfl ?_
                                      refine x_goto (tgt := 123) C dL_lays_224 (by decide) ?_
                                      refine x_sub (lv' := [(7, .int (zI ((j : Int) + 1))), (6, .int (zI (u : Int))), (5, .int (zI (k : Int))), (4, .ref a1), (0, .ref A1), (1, .ref A2), (2, .int (zI g)), (3, .ref c)]) [0, 4, 5, 6, 7, 8, 9, 10] rfl ?_
                                      have hc : AI G μ56 c rc 64 (rlx (σ 0) (σ 1) Ck u (j + 1)) := by (rw [← rlx_s (v := Ck j) (by (unfold rl1; split <;> omega))]; exact hc)
                                      exact ih123 _ (by omega) _ (j + 1) _ (by omega) hh hz hc hT hFr (by omega) rfl
                                    · exfalso; omega
                                  · exfalso; omega
                                · refine x_stk (stk' := [.long (0 : Int64)]) (by rw [hkb52]; rfl) ?_
                                  have hzb58 := hZB.no (p := u) (by omega) hkb52
                                  refine x_lconst (v := (0 : Int64)) C dL_lays_182 rfl ?_
                                  refine x_lcmp (v := zI (0)) C dL_lays_183 (by decide) ?_
                                  refine z_if_ne (tgt := 200) C dL_lays_184 (by decide) (rg_of (by omega) (by omega)) (fun c_59 => ?_) (fun c_59 => ?_)
                                  · exfalso; omega
                                  · refine x_iload C dL_lays_187 0 rfl ?_
                                    refine x_aload_n C dL_lays_189 rfl 9 rfl ?_
                                    refine x_iload C dL_lays_190 2 rfl ?_
                                    refine z_iald (j := j) C dL_lays_192 hc (by omega) (by omega) (by decide) ?_
                                    refine x_stk (stk' := [.int (zI (Ck j)), .int (zI (((Ck u) + 1) + (-(((σ 0) j) - ((σ 0) u)))))]) (by (rw [rlx_j])) ?_
                                    refine z_icmp_ge (tgt := 200) C dL_lays_193 (by decide) (rg_of (by omega) (by omega)) (rg_of (by omega) (by omega)) (fun c_60 => ?_) (fun c_60 => ?_)
                                    · refine z_iconst C dL_lays_200 ?_
                                      refine x_istore (lv' := [(10, .int (zI 0)), (9, .int (zI (((Ck u) + 1) + (-(((σ 0) j) - ((σ 0) u)))))), (8, .int (zI (((σ 0) j) - ((σ 0) u)))), (7, .int (zI (j : Int))), (6, .int (zI (u : Int))), (5, .int (zI (k : Int))), (4, .ref a1), (0, .ref A1), (1, .ref A2), (2, .int (zI g)), (3, .ref c)]) C dL_lays_201 (by decide) rfl ?_
                                      refine x_aload_n C dL_lays_203 rfl 10 rfl ?_
                                      refine x_iload C dL_lays_204 3 rfl ?_
                                      refine x_iload C dL_lays_206 0 rfl ?_
                                      refine z_if_eq (tgt := 216) C dL_lays_208 (by decide) (rg_of (by omega) (by omega)) (fun c_61 => ?_) (fun c_61 => ?_)
                                      · refine x_aload_n C dL_lays_216 rfl 10 rfl ?_
                                        refine x_iload C dL_lays_217 3 rfl ?_
                                        refine z_iald (j := j) C dL_lays_219 hc (by omega) (by omega) (by decide) ?_
                                        refine x_stk (stk' := [.int (zI (Ck j)), .int (zI (j : Int)), .ref c]) (by (rw [rlx_j])) ?_
                                        refine z_iast (j := j) C dL_lays_220 hc (by omega) (by omega) (by decide) (fun μ62 hcw hF63 => ?_)
                                        have hh := hF63.ai hh
                                        have hz := hF63.ol hz
                                        have hT := hF63.ai hT
                                        have hFr : Fr rc (rc + 2) μ μ62 := hFr.tr hF63
                                        have hc := hcw
                                        refine z_iinc (lv' := [(7, .int (zI ((j : Int) + 1))), (10, .int (zI 0)), (9, .int (zI (((Ck u) + 1) + (-(((σ 0) j) - ((σ 0) u)))))), (8, .int (zI (((σ 0) j) - ((σ 0) u)))), (6, .int (zI (u : Int))), (5, .int (zI (k : Int))), (4, .ref a1), (0, .ref A1), (1, .ref A2), (2, .int (zI g)), (3, .ref c)]) C dL_lays_221 3 rfl rfl (by decide) rfl ?_
                                        refine x_goto (tgt := 123) C dL_lays_224 (by decide) ?_
                                        refine x_sub (lv' := [(7, .int (zI ((j : Int) + 1))), (6, .int (zI (u : Int))), (5, .int (zI (k : Int))), (4, .ref a1), (0, .ref A1), (1, .ref A2), (2, .int (zI g)), (3, .ref c)]) [0, 4, 5, 6, 7, 8, 9, 10] rfl ?_
                                        have hc : AI G μ62 c rc 64 (rlx (σ 0) (σ 1) Ck u (j + 1)) := by (rw [← rlx_s (v := Ck j) (by (unfold rl1; split <;> omega))]; exact hc)
                                        exact ih123 _ (by omega) _ (j + 1) _ (by omega) hh hz hc hT hFr (by omega) rfl
                                      · exfalso; omega
                                    · refine z_iconst C dL_lays_196 ?_
                                      refine x_goto (tgt := 201) C dL_lays_197 (by decide) ?_
                                      refine x_istore (lv' := [(10, .int (zI 1)), (9, .int (zI (((Ck u) + 1) + (-(((σ 0) j) - ((σ 0) u)))))), (8, .int (zI (((σ 0) j) - ((σ 0) u)))), (7, .int (zI (j : Int))), (6, .int (zI (u : Int))), (5, .int (zI (k : Int))), (4, .ref a1), (0, .ref A1), (1, .ref A2), (2, .int (zI g)), (3, .ref c)]) C dL_lays_201 (by decide) rfl ?_
                                      refine x_aload_n C dL_lays_203 rfl 10 rfl ?_
                                      refine x_iload C dL_lays_204 3 rfl ?_
                                      refine x_iload C dL_lays_206 0 rfl ?_
                                      refine z_if_eq (tgt := 216) C dL_lays_208 (by decide) (rg_of (by omega) (by omega)) (fun c_64 => ?_) (fun c_64 => ?_)
                                      · exfalso; omega
                                      · refine x_iload C dL_lays_211 1 rfl ?_
                                        refine x_goto (tgt := 220) C dL_lays_213 (by decide) ?_
                                        refine z_iast (j := j) C dL_lays_220 hc (by omega) (by omega) (by decide) (fun μ65 hcw hF66 => ?_)
                                        have hh := hF66.ai hh
                                        have hz := hF66.ol hz
                                        have hT := hF66.ai hT
                                        have hFr : Fr rc (rc + 2) μ μ65 := hFr.tr hF66
                                        have hc := hcw
                                        refine z_iinc (lv' := [(7, .int (zI ((j : Int) + 1))), (10, .int (zI 1)), (9, .int (zI (((Ck u) + 1) + (-(((σ 0) j) - ((σ 0) u)))))), (8, .int (zI (((σ 0) j) - ((σ 0) u)))), (6, .int (zI (u : Int))), (5, .int (zI (k : Int))), (4, .ref a1), (0, .ref A1), (1, .ref A2), (2, .int (zI g)), (3, .ref c)]) C dL_lays_221 3 rfl rfl (by decide) rfl ?_
                                        refine x_goto (tgt := 123) C dL_lays_224 (by decide) ?_
                                        refine x_sub (lv' := [(7, .int (zI ((j : Int) + 1))), (6, .int (zI (u : Int))), (5, .int (zI (k : Int))), (4, .ref a1), (0, .ref A1), (1, .ref A2), (2, .int (zI g)), (3, .ref c)]) [0, 4, 5, 6, 7, 8, 9, 10] rfl ?_
                                        have hc : AI G μ65 c rc 64 (rlx (σ 0) (σ 1) Ck u (j + 1)) := by (rw [← rlx_s (v := ((Ck u) + 1) + (-(((σ 0) j) - ((σ 0) u)))) (by (unfold rl1; split <;> omega))]; exact hc)
                                        exact ih123 _ (by omega) _ (j + 1) _ (by omega) hh hz hc hT hFr (by omega) rfl
                      have hc : AI G μ11 c rc 64 (rlx (σ 0) (σ 1) Ck u 0) := by (rw [rlx_0]; exact hc)
                      exact L123 _ _ (0) _ (by omega) hh hz hc hT hFr (by omega) rfl
                  · have hcj := hB j (by omega)
                    have htj := hTr j (by omega)
                    refine x_aload C dL_lays_61 3 rfl ?_
                    refine x_iload C dL_lays_63 0 rfl ?_
                    refine z_iald (j := j) C dL_lays_65 hT (by omega) (by omega) (by decide) ?_
                    refine z_if_ne (tgt := 99) C dL_lays_66 (by decide) (rg_of (by omega) (by omega)) (fun c_67 => ?_) (fun c_67 => ?_)
                    · refine x_iload C dL_lays_99 1 rfl ?_
                      refine x_istore (lv' := [(6, .int (zI nx)), (7, .int (zI (j : Int))), (5, .int (zI (k : Int))), (4, .ref a1), (0, .ref A1), (1, .ref A2), (2, .int (zI g)), (3, .ref c)]) C dL_lays_101 (by decide) rfl ?_
                      refine z_iinc (lv' := [(7, .int (zI ((j : Int) + 1))), (6, .int (zI nx)), (5, .int (zI (k : Int))), (4, .ref a1), (0, .ref A1), (1, .ref A2), (2, .int (zI g)), (3, .ref c)]) C dL_lays_103 1 rfl rfl (by decide) rfl ?_
                      refine x_goto (tgt := 54) C dL_lays_106 (by decide) ?_
                      exact ih54 _ (by omega) _ (j + 1) _ (by omega) (by omega) (NX_n hN hB (by omega) (fun h1 h2 => by omega)) rfl
                    · refine x_aload_n C dL_lays_69 rfl 7 rfl ?_
                      refine x_iload C dL_lays_70 0 rfl ?_
                      refine z_iald (j := j) C dL_lays_72 hc (by omega) (by omega) (by decide) ?_
                      refine z_ldc (w := (100000)) (v := (100000)) C dL_lays_73 (by decide +kernel) (by decide) ?_
                      refine z_icmp_ge (tgt := 99) C dL_lays_75 (by decide) (rg_of (by omega) (by omega)) (rg_of (by omega) (by omega)) (fun c_68 => ?_) (fun c_68 => ?_)
                      · refine x_iload C dL_lays_99 1 rfl ?_
                        refine x_istore (lv' := [(6, .int (zI nx)), (7, .int (zI (j : Int))), (5, .int (zI (k : Int))), (4, .ref a1), (0, .ref A1), (1, .ref A2), (2, .int (zI g)), (3, .ref c)]) C dL_lays_101 (by decide) rfl ?_
                        refine z_iinc (lv' := [(7, .int (zI ((j : Int) + 1))), (6, .int (zI nx)), (5, .int (zI (k : Int))), (4, .ref a1), (0, .ref A1), (1, .ref A2), (2, .int (zI g)), (3, .ref c)]) C dL_lays_103 1 rfl rfl (by decide) rfl ?_
                        refine x_goto (tgt := 54) C dL_lays_106 (by decide) ?_
                        exact ih54 _ (by omega) _ (j + 1) _ (by omega) (by omega) (NX_n hN hB (by omega) (fun h1 h2 => by omega)) rfl
                      · refine x_iload C dL_lays_78 1 rfl ?_
                        refine z_if_lt (tgt := 94) C dL_lays_80 (by decide) (rg_of (by omega) (by omega)) (fun c_69 => ?_) (fun c_69 => ?_)
                        · refine x_iload C dL_lays_94 0 rfl ?_
                          refine x_goto (tgt := 101) C dL_lays_96 (by decide) ?_
                          refine x_istore (lv' := [(6, .int (zI (j : Int))), (7, .int (zI (j : Int))), (5, .int (zI (k : Int))), (4, .ref a1), (0, .ref A1), (1, .ref A2), (2, .int (zI g)), (3, .ref c)]) C dL_lays_101 (by decide) rfl ?_
                          refine z_iinc (lv' := [(7, .int (zI ((j : Int) + 1))), (6, .int (zI (j : Int))), (5, .int (zI (k : Int))), (4, .ref a1), (0, .ref A1), (1, .ref A2), (2, .int (zI g)), (3, .ref c)]) C dL_lays_103 1 rfl rfl (by decide) rfl ?_
                          refine x_goto (tgt := 54) C dL_lays_106 (by decide) ?_
                          exact ih54 _ (by omega) _ (j + 1) _ (by omega) (by omega) (NX_y hN hB (by omega) (by omega) (by omega) (by omega)) rfl
                        · have hcn := hB nx.toNat (by omega)
                          refine x_aload_n C dL_lays_83 rfl 7 rfl ?_
                          refine x_iload C dL_lays_84 0 rfl ?_
                          refine z_iald (j := j) C dL_lays_86 hc (by omega) (by omega) (by decide) ?_
                          refine x_aload_n C dL_lays_87 rfl 7 rfl ?_
                          refine x_iload C dL_lays_88 1 rfl ?_
                          refine z_iald (j := nx.toNat) C dL_lays_90 hc (by omega) (by omega) (by decide) ?_
                          refine z_icmp_ge (tgt := 99) C dL_lays_91 (by decide) (rg_of (by omega) (by omega)) (rg_of (by omega) (by omega)) (fun c_70 => ?_) (fun c_70 => ?_)
                          · refine x_iload C dL_lays_99 1 rfl ?_
                            refine x_istore (lv' := [(6, .int (zI nx)), (7, .int (zI (j : Int))), (5, .int (zI (k : Int))), (4, .ref a1), (0, .ref A1), (1, .ref A2), (2, .int (zI g)), (3, .ref c)]) C dL_lays_101 (by decide) rfl ?_
                            refine z_iinc (lv' := [(7, .int (zI ((j : Int) + 1))), (6, .int (zI nx)), (5, .int (zI (k : Int))), (4, .ref a1), (0, .ref A1), (1, .ref A2), (2, .int (zI g)), (3, .ref c)]) C dL_lays_103 1 rfl rfl (by decide) rfl ?_
                            refine x_goto (tgt := 54) C dL_lays_106 (by decide) ?_
                            exact ih54 _ (by omega) _ (j + 1) _ (by omega) (by omega) (NX_n hN hB (by omega) (fun h1 h2 => by omega)) rfl
                          · refine x_iload C dL_lays_94 0 rfl ?_
                            refine x_goto (tgt := 101) C dL_lays_96 (by decide) ?_
                            refine x_istore (lv' := [(6, .int (zI (j : Int))), (7, .int (zI (j : Int))), (5, .int (zI (k : Int))), (4, .ref a1), (0, .ref A1), (1, .ref A2), (2, .int (zI g)), (3, .ref c)]) C dL_lays_101 (by decide) rfl ?_
                            refine z_iinc (lv' := [(7, .int (zI ((j : Int) + 1))), (6, .int (zI (j : Int))), (5, .int (zI (k : Int))), (4, .ref a1), (0, .ref A1), (1, .ref A2), (2, .int (zI g)), (3, .ref c)]) C dL_lays_103 1 rfl rfl (by decide) rfl ?_
                            refine x_goto (tgt := 54) C dL_lays_106 (by decide) ?_
                            exact ih54 _ (by omega) _ (j + 1) _ (by omega) (by omega) (NX_y hN hB (by omega) (by omega) (by omega) (by omega)) rfl
              exact L54 _ _ (0) _ (by omega) (by omega) NX_0 rfl
        have hst0 := fL_0 (H := σ 0) (Z := σ 1) (C := Ck) (g := g.toNat) (by omega) (fun p hp => hA p (by omega))
        exact L41 _ _ (0) _ (by omega) _ _ hh hz hc hT hFr (by omega) hst0.1 (fun j hj => Or.inl rfl) DJ_0 hst0.2 (Or.inl (sm_0 (fun w hw => rfl))) rfl
      · refine x_aload_n C dL_lays_16 rfl 5 rfl ?_
        refine x_iload C dL_lays_17 0 rfl ?_
        refine x_iload C dL_lays_19 0 rfl ?_
        refine x_iload_n C dL_lays_21 rfl 4 rfl ?_
        refine z_icmp_ne (tgt := 29) C dL_lays_22 (by decide) (rg_of (by omega) (by omega)) (rg_of (by omega) (by omega)) (fun c_71 => ?_) (fun c_71 => ?_)
        · refine z_ldc (w := (100000)) (v := (100000)) C dL_lays_29 (by decide +kernel) (by decide) ?_
          refine z_iast (j := k) C dL_lays_31 hc (by omega) (by omega) (by decide) (fun μ72 hcw hF73 => ?_)
          have hh := hF73.ai hh
          have hz := hF73.ol hz
          have hT := hF73.ai hT
          have hFr : Fr rc (rc + 2) μ μ72 := hFr.tr hF73
          have hc := hcw
          refine z_iinc (lv' := [(5, .int (zI ((k : Int) + 1))), (4, .ref a1), (0, .ref A1), (1, .ref A2), (2, .int (zI g)), (3, .ref c)]) C dL_lays_32 0 rfl rfl (by decide) rfl ?_
          refine x_goto (tgt := 9) C dL_lays_35 (by decide) ?_
          exact ih9 _ (by omega) _ (k + 1) _ (by omega) _ hh hz hc hT hFr (by omega) (fun j hj => by (by_cases e : j = k); subst e; rw [wr_at]; split <;> omega; rw [wr_ne e]; exact hA j (by omega)) rfl
        · refine z_iconst C dL_lays_25 ?_
          refine x_goto (tgt := 31) C dL_lays_26 (by decide) ?_
          refine z_iast (j := k) C dL_lays_31 hc (by omega) (by omega) (by decide) (fun μ74 hcw hF75 => ?_)
          have hh := hF75.ai hh
          have hz := hF75.ol hz
          have hT := hF75.ai hT
          have hFr : Fr rc (rc + 2) μ μ74 := hFr.tr hF75
          have hc := hcw
          refine z_iinc (lv' := [(5, .int (zI ((k : Int) + 1))), (4, .ref a1), (0, .ref A1), (1, .ref A2), (2, .int (zI g)), (3, .ref c)]) C dL_lays_32 0 rfl rfl (by decide) rfl ?_
          refine x_goto (tgt := 9) C dL_lays_35 (by decide) ?_
          exact ih9 _ (by omega) _ (k + 1) _ (by omega) _ hh hz hc hT hFr (by omega) (fun j hj => by (by_cases e : j = k); subst e; rw [wr_at]; split <;> omega; rw [wr_ne e]; exact hA j (by omega)) rfl
  exact L9 _ _ (0) _ (by omega) _ hh hz hc hT hFr (by omega) (fun j hj => absurd hj (Nat.not_lt_zero j)) rfl
abbrev rm_L_step : Room := { frames := 1, cells := 0, slots := 0, locals := 23 }
set_option maxHeartbeats 4000000 in
set_option maxRecDepth 100000 in
theorem c_L_step (l : Launch) (hst : l.stackTraces = false) (G : GG) (z : Nat) (μ : Mm) (A1 A2 c rc : Nat) (σ : SS) (n : Nat) (K : Int64) (g : Nat) (Cv : Nat → Int) (p : Int) (hI : Iv σ n) (hh : AI G μ A1 4001 64 (σ 0)) (hz : OL G μ A2 4002 K) (hZB : ZB σ K) (hc : AI G μ c rc 64 Cv) (hLD : LD σ g Cv) (hp : 0 ≤ p ∧ p < 64) : Ct l yL_step wsL_step rm_L_step G z [.ref A1, .ref A2, .ref c, .int (zI p)] μ (rP μ (fun r => r = bb (σ 0) (σ 1) (dD σ g) p 4)) (nX) := by
  refine ct_of (cc := cL_step) (maxL := 10) (ret := (some .int)) (own := RL) (by decide) rfl rfl hst (Nat.le_of_ble_eq_true rfl) ?_
  intro E hLl hnm C R hT
  have hp9 := hI.r0 p.toNat (by omega)
  refine x_eq (lv' := [(0, .ref A1), (1, .ref A2), (2, .ref c), (3, .int (zI p))]) rfl rfl ?_
  refine z_iconst C dL_step_0 ?_
  refine x_istore (lv' := [(4, .int (zI (-1))), (0, .ref A1), (1, .ref A2), (2, .ref c), (3, .int (zI p))]) C dL_step_1 (by decide) rfl ?_
  refine z_ldc (w := (100000)) (v := (100000)) C dL_step_3 (by decide +kernel) (by decide) ?_
  refine x_istore (lv' := [(5, .int (zI 100000)), (4, .int (zI (-1))), (0, .ref A1), (1, .ref A2), (2, .ref c), (3, .int (zI p))]) C dL_step_5 (by decide) rfl ?_
  refine z_iconst C dL_step_7 ?_
  refine x_istore (lv' := [(6, .int (zI 0)), (5, .int (zI 100000)), (4, .int (zI (-1))), (0, .ref A1), (1, .ref A2), (2, .ref c), (3, .int (zI p))]) C dL_step_8 (by decide) rfl ?_
  have L10 : ∀ (M9 : Nat) (b9 : Int) (l9 : Int) (j : Nat) (jz : Int) (hjz : jz = (j : Int)) (hj : j ≤ 64) (hF : FL (σ 0) (σ 1) Cv p j b9 l9) (hM9 : 64 - j = M9), Wx E G 0 0 10 [(6, .int (zI jz)), (5, .int (zI l9)), (4, .int (zI b9)), (0, .ref A1), (1, .ref A2), (2, .ref c), (3, .int (zI p))] [] μ := by
    intro M9
    induction M9 using Nat.strongRecOn with
    | ind M9 ih10 =>
      intro b9 l9 j jz hjz hj hF hM9
      subst hjz
      have hrg := hF.rg
      refine x_iload C dL_step_10 0 rfl ?_
      refine z_bipush C dL_step_12 (by decide) ?_
      refine z_icmp_ge (tgt := 120) C dL_step_14 (by decide) (rg_of (by omega) (by omega)) (rg_of (by omega) (by omega)) (fun c_1 => ?_) (fun c_1 => ?_)
      · refine x_iload C dL_step_120 2 rfl ?_
        exact x_iret C R dL_step_122 (Nat.le_of_ble_eq_true rfl) (Nat.le_of_ble_eq_true rfl) (⟨_, rfl, FL_bb (fun j hj => hI.r0 j hj) hLD hp (by omega) hF, rfl⟩)
      · have hj9 := hI.r0 j (by omega)
        have hi9 := iabs_c (σ 0 p.toNat - σ 0 j)
        have hcj := hLD.1 j (by omega)
        have hd9 := dst_rg (p := p) (q := (j : Int)) hp (by omega)
        have hlv : -2147483648 ≤ l9 := by (rcases hF with ⟨-, h1, -⟩ | ⟨u, h1, -, -, h2, -⟩; omega; have := hLD.1 u (by omega); have := hI.r0 u (by omega); have := iabs_c (σ 0 p.toNat - σ 0 u); unfold cst at h2; omega)
        refine x_aload_n C dL_step_17 rfl 3 rfl ?_
        refine x_iload_n C dL_step_18 rfl 6 rfl ?_
        refine z_iald (j := p.toNat) C dL_step_19 hh (by omega) (by omega) (by decide) ?_
        refine x_aload_n C dL_step_20 rfl 3 rfl ?_
        refine x_iload C dL_step_21 0 rfl ?_
        refine z_iald (j := j) C dL_step_23 hh (by omega) (by omega) (by decide) ?_
        refine z_isub C dL_step_24 rfl ?_
        refine x_istore (lv' := [(7, .int (zI (((σ 0) p.toNat) - ((σ 0) j)))), (6, .int (zI (j : Int))), (5, .int (zI l9)), (4, .int (zI b9)), (0, .ref A1), (1, .ref A2), (2, .ref c), (3, .int (zI p))]) C dL_step_25 (by decide) rfl ?_
        refine z_iconst C dL_step_27 ?_
        refine x_iload C dL_step_28 0 rfl ?_
        refine z_if_ge (tgt := 39) C dL_step_30 (by decide) (rg_of (by omega) (by omega)) (fun c_2 => ?_) (fun c_2 => ?_)
        · refine x_iload C dL_step_39 0 rfl ?_
          refine z_iadd C dL_step_41 rfl ?_
          refine x_aload_n C dL_step_42 rfl 6 rfl ?_
          refine x_iload C dL_step_43 1 rfl ?_
          refine z_iald (j := j) C dL_step_45 hc (by omega) (by omega) (by decide) ?_
          refine z_iadd C dL_step_46 rfl ?_
          refine x_istore (lv' := [(8, .int (zI ((1 + (((σ 0) p.toNat) - ((σ 0) j))) + (Cv j)))), (7, .int (zI (((σ 0) p.toNat) - ((σ 0) j)))), (6, .int (zI (j : Int))), (5, .int (zI l9)), (4, .int (zI b9)), (0, .ref A1), (1, .ref A2), (2, .ref c), (3, .int (zI p))]) C dL_step_47 (by decide) rfl ?_
          refine x_iload_n C dL_step_49 rfl 8 rfl ?_
          refine x_iload C dL_step_50 2 rfl ?_
          refine x_callS (n := 2) (cc9 := 0) (ss9 := 0) (rest := []) C dL_step_52 (c_L_far (kxL E) C.st G z μ p (j : Int) (by omega) (by omega)) gL_step_L_far rfl (by decide +kernel) ⟨(Nat.le_of_ble_eq_true rfl), (Nat.le_of_ble_eq_true rfl)⟩ rfl rfl (Nat.le_of_ble_eq_true rfl) rfl rfl ⟨(Nat.le_of_ble_eq_true rfl), (Nat.le_of_ble_eq_true rfl)⟩ nX_no (fun v3 μ4 hv5 => ?_)
          obtain ⟨r6, hw9, h7, hm8⟩ := hv5
          subst hw9
          rw [hm8]
          refine x_stk (stk' := [.int (zI r6)]) rfl ?_
          refine z_iconst C dL_step_55 ?_
          refine z_icmp_ne (tgt := 83) C dL_step_56 (by decide) (rg_of (by omega) (by omega)) (rg_of (by omega) (by omega)) (fun c_10 => ?_) (fun c_10 => ?_)
          · refine z_iconst C dL_step_83 ?_
            refine x_istore (lv' := [(9, .int (zI 0)), (8, .int (zI ((1 + (((σ 0) p.toNat) - ((σ 0) j))) + (Cv j)))), (7, .int (zI (((σ 0) p.toNat) - ((σ 0) j)))), (6, .int (zI (j : Int))), (5, .int (zI l9)), (4, .int (zI b9)), (0, .ref A1), (1, .ref A2), (2, .ref c), (3, .int (zI p))]) C dL_step_84 (by decide) rfl ?_
            refine x_iload C dL_step_86 0 rfl ?_
            refine z_if_eq (tgt := 96) C dL_step_88 (by decide) (rg_of (by omega) (by omega)) (fun c_11 => ?_) (fun c_11 => ?_)
            · refine x_iload C dL_step_96 5 rfl ?_
              refine x_istore (lv' := [(4, .int (zI b9)), (9, .int (zI 0)), (8, .int (zI ((1 + (((σ 0) p.toNat) - ((σ 0) j))) + (Cv j)))), (7, .int (zI (((σ 0) p.toNat) - ((σ 0) j)))), (6, .int (zI (j : Int))), (5, .int (zI l9)), (0, .ref A1), (1, .ref A2), (2, .ref c), (3, .int (zI p))]) C dL_step_98 (by decide) rfl ?_
              refine x_iload C dL_step_100 1 rfl ?_
              refine z_if_eq (tgt := 110) C dL_step_102 (by decide) (rg_of (by omega) (by omega)) (fun c_12 => ?_) (fun c_12 => ?_)
              · refine x_iload C dL_step_110 5 rfl ?_
                refine x_istore (lv' := [(5, .int (zI l9)), (4, .int (zI b9)), (9, .int (zI 0)), (8, .int (zI ((1 + (((σ 0) p.toNat) - ((σ 0) j))) + (Cv j)))), (7, .int (zI (((σ 0) p.toNat) - ((σ 0) j)))), (6, .int (zI (j : Int))), (0, .ref A1), (1, .ref A2), (2, .ref c), (3, .int (zI p))]) C dL_step_112 (by decide) rfl ?_
                refine z_iinc (lv' := [(6, .int (zI ((j : Int) + 1))), (5, .int (zI l9)), (4, .int (zI b9)), (9, .int (zI 0)), (8, .int (zI ((1 + (((σ 0) p.toNat) - ((σ 0) j))) + (Cv j)))), (7, .int (zI (((σ 0) p.toNat) - ((σ 0) j)))), (0, .ref A1), (1, .ref A2), (2, .ref c), (3, .int (zI p))]) C dL_step_114 5 rfl rfl (by decide) rfl ?_
                refine x_goto (tgt := 10) C dL_step_117 (by decide) ?_
                refine x_sub (lv' := [(6, .int (zI ((j : Int) + 1))), (5, .int (zI l9)), (4, .int (zI b9)), (0, .ref A1), (1, .ref A2), (2, .ref c), (3, .int (zI p))]) [0, 1, 2, 6, 7, 8, 9] rfl ?_
                have hcs : cst (σ 0) Cv p j = (1 + (((σ 0) p.toNat) - ((σ 0) j))) + (Cv j) := by (unfold cst; omega)
                exact ih10 _ (by omega) _ _ (j + 1) _ (by omega) (by omega) (FL_n hF (fun hc8 => by (have h1 := hc8.1; have h2 := hc8.2; omega))) rfl
              · exfalso; omega
            · exfalso; omega
          · refine x_aload_n C dL_step_59 rfl 6 rfl ?_
            refine z_iconst C dL_step_60 ?_
            refine z_olld C dL_step_61 hz ?_
            refine x_iload C dL_step_62 2 rfl ?_
            refine z_bit C j dL_step_64 dL_step_65 dL_step_66 (by omega) (by omega) rfl ?_
            rcases Bool.eq_false_or_eq_true (kb K j) with hkb13 | hkb13
            · refine x_stk (stk' := [.long (1 : Int64)]) (by rw [hkb13]; rfl) ?_
              have hzb14 := hZB.yes (p := j) (by omega) hkb13
              refine x_lconst (v := (0 : Int64)) C dL_step_67 rfl ?_
              refine x_lcmp (v := zI (1)) C dL_step_68 (by decide) ?_
              refine z_if_ne (tgt := 83) C dL_step_69 (by decide) (rg_of (by omega) (by omega)) (fun c_15 => ?_) (fun c_15 => ?_)
              · refine z_iconst C dL_step_83 ?_
                refine x_istore (lv' := [(9, .int (zI 0)), (8, .int (zI ((1 + (((σ 0) p.toNat) - ((σ 0) j))) + (Cv j)))), (7, .int (zI (((σ 0) p.toNat) - ((σ 0) j)))), (6, .int (zI (j : Int))), (5, .int (zI l9)), (4, .int (zI b9)), (0, .ref A1), (1, .ref A2), (2, .ref c), (3, .int (zI p))]) C dL_step_84 (by decide) rfl ?_
                refine x_iload C dL_step_86 0 rfl ?_
                refine z_if_eq (tgt := 96) C dL_step_88 (by decide) (rg_of (by omega) (by omega)) (fun c_16 => ?_) (fun c_16 => ?_)
                · refine x_iload C dL_step_96 5 rfl ?_
                  refine x_istore (lv' := [(4, .int (zI b9)), (9, .int (zI 0)), (8, .int (zI ((1 + (((σ 0) p.toNat) - ((σ 0) j))) + (Cv j)))), (7, .int (zI (((σ 0) p.toNat) - ((σ 0) j)))), (6, .int (zI (j : Int))), (5, .int (zI l9)), (0, .ref A1), (1, .ref A2), (2, .ref c), (3, .int (zI p))]) C dL_step_98 (by decide) rfl ?_
                  refine x_iload C dL_step_100 1 rfl ?_
                  refine z_if_eq (tgt := 110) C dL_step_102 (by decide) (rg_of (by omega) (by omega)) (fun c_17 => ?_) (fun c_17 => ?_)
                  · refine x_iload C dL_step_110 5 rfl ?_
                    refine x_istore (lv' := [(5, .int (zI l9)), (4, .int (zI b9)), (9, .int (zI 0)), (8, .int (zI ((1 + (((σ 0) p.toNat) - ((σ 0) j))) + (Cv j)))), (7, .int (zI (((σ 0) p.toNat) - ((σ 0) j)))), (6, .int (zI (j : Int))), (0, .ref A1), (1, .ref A2), (2, .ref c), (3, .int (zI p))]) C dL_step_112 (by decide) rfl ?_
                    refine z_iinc (lv' := [(6, .int (zI ((j : Int) + 1))), (5, .int (zI l9)), (4, .int (zI b9)), (9, .int (zI 0)), (8, .int (zI ((1 + (((σ 0) p.toNat) - ((σ 0) j))) + (Cv j)))), (7, .int (zI (((σ 0) p.toNat) - ((σ 0) j)))), (0, .ref A1), (1, .ref A2), (2, .ref c), (3, .int (zI p))]) C dL_step_114 5 rfl rfl (by decide) rfl ?_
                    refine x_goto (tgt := 10) C dL_step_117 (by decide) ?_
                    refine x_sub (lv' := [(6, .int (zI ((j : Int) + 1))), (5, .int (zI l9)), (4, .int (zI b9)), (0, .ref A1), (1, .ref A2), (2, .ref c), (3, .int (zI p))]) [0, 1, 2, 6, 7, 8, 9] rfl ?_
                    have hcs : cst (σ 0) Cv p j = (1 + (((σ 0) p.toNat) - ((σ 0) j))) + (Cv j) := by (unfold cst; omega)
                    exact ih10 _ (by omega) _ _ (j + 1) _ (by omega) (by omega) (FL_n hF (fun hc8 => by (have h1 := hc8.1; have h2 := hc8.2; omega))) rfl
                  · exfalso; omega
                · exfalso; omega
              · exfalso; omega
            · refine x_stk (stk' := [.long (0 : Int64)]) (by rw [hkb13]; rfl) ?_
              have hzb18 := hZB.no (p := j) (by omega) hkb13
              refine x_lconst (v := (0 : Int64)) C dL_step_67 rfl ?_
              refine x_lcmp (v := zI (0)) C dL_step_68 (by decide) ?_
              refine z_if_ne (tgt := 83) C dL_step_69 (by decide) (rg_of (by omega) (by omega)) (fun c_19 => ?_) (fun c_19 => ?_)
              · exfalso; omega
              · refine x_iload C dL_step_72 0 rfl ?_
                refine x_iload C dL_step_74 3 rfl ?_
                refine z_icmp_ge (tgt := 83) C dL_step_76 (by decide) (rg_of (by omega) (by omega)) (rg_of (by omega) (by omega)) (fun c_20 => ?_) (fun c_20 => ?_)
                · refine z_iconst C dL_step_83 ?_
                  refine x_istore (lv' := [(9, .int (zI 0)), (8, .int (zI ((1 + (((σ 0) p.toNat) - ((σ 0) j))) + (Cv j)))), (7, .int (zI (((σ 0) p.toNat) - ((σ 0) j)))), (6, .int (zI (j : Int))), (5, .int (zI l9)), (4, .int (zI b9)), (0, .ref A1), (1, .ref A2), (2, .ref c), (3, .int (zI p))]) C dL_step_84 (by decide) rfl ?_
                  refine x_iload C dL_step_86 0 rfl ?_
                  refine z_if_eq (tgt := 96) C dL_step_88 (by decide) (rg_of (by omega) (by omega)) (fun c_21 => ?_) (fun c_21 => ?_)
                  · refine x_iload C dL_step_96 5 rfl ?_
                    refine x_istore (lv' := [(4, .int (zI b9)), (9, .int (zI 0)), (8, .int (zI ((1 + (((σ 0) p.toNat) - ((σ 0) j))) + (Cv j)))), (7, .int (zI (((σ 0) p.toNat) - ((σ 0) j)))), (6, .int (zI (j : Int))), (5, .int (zI l9)), (0, .ref A1), (1, .ref A2), (2, .ref c), (3, .int (zI p))]) C dL_step_98 (by decide) rfl ?_
                    refine x_iload C dL_step_100 1 rfl ?_
                    refine z_if_eq (tgt := 110) C dL_step_102 (by decide) (rg_of (by omega) (by omega)) (fun c_22 => ?_) (fun c_22 => ?_)
                    · refine x_iload C dL_step_110 5 rfl ?_
                      refine x_istore (lv' := [(5, .int (zI l9)), (4, .int (zI b9)), (9, .int (zI 0)), (8, .int (zI ((1 + (((σ 0) p.toNat) - ((σ 0) j))) + (Cv j)))), (7, .int (zI (((σ 0) p.toNat) - ((σ 0) j)))), (6, .int (zI (j : Int))), (0, .ref A1), (1, .ref A2), (2, .ref c), (3, .int (zI p))]) C dL_step_112 (by decide) rfl ?_
                      refine z_iinc (lv' := [(6, .int (zI ((j : Int) + 1))), (5, .int (zI l9)), (4, .int (zI b9)), (9, .int (zI 0)), (8, .int (zI ((1 + (((σ 0) p.toNat) - ((σ 0) j))) + (Cv j)))), (7, .int (zI (((σ 0) p.toNat) - ((σ 0) j)))), (0, .ref A1), (1, .ref A2), (2, .ref c), (3, .int (zI p))]) C dL_step_114 5 rfl rfl (by decide) rfl ?_
                      refine x_goto (tgt := 10) C dL_step_117 (by decide) ?_
                      refine x_sub (lv' := [(6, .int (zI ((j : Int) + 1))), (5, .int (zI l9)), (4, .int (zI b9)), (0, .ref A1), (1, .ref A2), (2, .ref c), (3, .int (zI p))]) [0, 1, 2, 6, 7, 8, 9] rfl ?_
                      have hcs : cst (σ 0) Cv p j = (1 + (((σ 0) p.toNat) - ((σ 0) j))) + (Cv j) := by (unfold cst; omega)
                      exact ih10 _ (by omega) _ _ (j + 1) _ (by omega) (by omega) (FL_n hF (fun hc8 => by (have h1 := hc8.1; have h2 := hc8.2; omega))) rfl
                    · exfalso; omega
                  · exfalso; omega
                · refine z_iconst C dL_step_79 ?_
                  refine x_goto (tgt := 84) C dL_step_80 (by decide) ?_
                  refine x_istore (lv' := [(9, .int (zI 1)), (8, .int (zI ((1 + (((σ 0) p.toNat) - ((σ 0) j))) + (Cv j)))), (7, .int (zI (((σ 0) p.toNat) - ((σ 0) j)))), (6, .int (zI (j : Int))), (5, .int (zI l9)), (4, .int (zI b9)), (0, .ref A1), (1, .ref A2), (2, .ref c), (3, .int (zI p))]) C dL_step_84 (by decide) rfl ?_
                  refine x_iload C dL_step_86 0 rfl ?_
                  refine z_if_eq (tgt := 96) C dL_step_88 (by decide) (rg_of (by omega) (by omega)) (fun c_23 => ?_) (fun c_23 => ?_)
                  · exfalso; omega
                  · refine x_iload C dL_step_91 3 rfl ?_
                    refine x_goto (tgt := 98) C dL_step_93 (by decide) ?_
                    refine x_istore (lv' := [(4, .int (zI (j : Int))), (9, .int (zI 1)), (8, .int (zI ((1 + (((σ 0) p.toNat) - ((σ 0) j))) + (Cv j)))), (7, .int (zI (((σ 0) p.toNat) - ((σ 0) j)))), (6, .int (zI (j : Int))), (5, .int (zI l9)), (0, .ref A1), (1, .ref A2), (2, .ref c), (3, .int (zI p))]) C dL_step_98 (by decide) rfl ?_
                    refine x_iload C dL_step_100 1 rfl ?_
                    refine z_if_eq (tgt := 110) C dL_step_102 (by decide) (rg_of (by omega) (by omega)) (fun c_24 => ?_) (fun c_24 => ?_)
                    · exfalso; omega
                    · refine x_iload C dL_step_105 2 rfl ?_
                      refine x_goto (tgt := 112) C dL_step_107 (by decide) ?_
                      refine x_istore (lv' := [(5, .int (zI ((1 + (((σ 0) p.toNat) - ((σ 0) j))) + (Cv j)))), (4, .int (zI (j : Int))), (9, .int (zI 1)), (8, .int (zI ((1 + (((σ 0) p.toNat) - ((σ 0) j))) + (Cv j)))), (7, .int (zI (((σ 0) p.toNat) - ((σ 0) j)))), (6, .int (zI (j : Int))), (0, .ref A1), (1, .ref A2), (2, .ref c), (3, .int (zI p))]) C dL_step_112 (by decide) rfl ?_
                      refine z_iinc (lv' := [(6, .int (zI ((j : Int) + 1))), (5, .int (zI ((1 + (((σ 0) p.toNat) - ((σ 0) j))) + (Cv j)))), (4, .int (zI (j : Int))), (9, .int (zI 1)), (8, .int (zI ((1 + (((σ 0) p.toNat) - ((σ 0) j))) + (Cv j)))), (7, .int (zI (((σ 0) p.toNat) - ((σ 0) j)))), (0, .ref A1), (1, .ref A2), (2, .ref c), (3, .int (zI p))]) C dL_step_114 5 rfl rfl (by decide) rfl ?_
                      refine x_goto (tgt := 10) C dL_step_117 (by decide) ?_
                      refine x_sub (lv' := [(6, .int (zI ((j : Int) + 1))), (5, .int (zI ((1 + (((σ 0) p.toNat) - ((σ 0) j))) + (Cv j)))), (4, .int (zI (j : Int))), (0, .ref A1), (1, .ref A2), (2, .ref c), (3, .int (zI p))]) [0, 1, 2, 6, 7, 8, 9] rfl ?_
                      have hcs : cst (σ 0) Cv p j = (1 + (((σ 0) p.toNat) - ((σ 0) j))) + (Cv j) := by (unfold cst; omega)
                      exact ih10 _ (by omega) _ _ (j + 1) _ (by omega) (by omega) (by (have hy := FL_y hF ⟨by omega, by omega⟩ (by omega)); rw [hcs] at hy; exact hy) rfl
        · refine x_iload C dL_step_33 0 rfl ?_
          refine z_ineg C dL_step_35 ?_
          refine x_goto (tgt := 41) C dL_step_36 (by decide) ?_
          refine z_iadd C dL_step_41 rfl ?_
          refine x_aload_n C dL_step_42 rfl 6 rfl ?_
          refine x_iload C dL_step_43 1 rfl ?_
          refine z_iald (j := j) C dL_step_45 hc (by omega) (by omega) (by decide) ?_
          refine z_iadd C dL_step_46 rfl ?_
          refine x_istore (lv' := [(8, .int (zI ((1 + (-(((σ 0) p.toNat) - ((σ 0) j)))) + (Cv j)))), (7, .int (zI (((σ 0) p.toNat) - ((σ 0) j)))), (6, .int (zI (j : Int))), (5, .int (zI l9)), (4, .int (zI b9)), (0, .ref A1), (1, .ref A2), (2, .ref c), (3, .int (zI p))]) C dL_step_47 (by decide) rfl ?_
          refine x_iload_n C dL_step_49 rfl 8 rfl ?_
          refine x_iload C dL_step_50 2 rfl ?_
          refine x_callS (n := 2) (cc9 := 0) (ss9 := 0) (rest := []) C dL_step_52 (c_L_far (kxL E) C.st G z μ p (j : Int) (by omega) (by omega)) gL_step_L_far rfl (by decide +kernel) ⟨(Nat.le_of_ble_eq_true rfl), (Nat.le_of_ble_eq_true rfl)⟩ rfl rfl (Nat.le_of_ble_eq_true rfl) rfl rfl ⟨(Nat.le_of_ble_eq_true rfl), (Nat.le_of_ble_eq_true rfl)⟩ nX_no (fun v25 μ26 hv27 => ?_)
          obtain ⟨r28, hw31, h29, hm30⟩ := hv27
          subst hw31
          rw [hm30]
          refine x_stk (stk' := [.int (zI r28)]) rfl ?_
          refine z_iconst C dL_step_55 ?_
          refine z_icmp_ne (tgt := 83) C dL_step_56 (by decide) (rg_of (by omega) (by omega)) (rg_of (by omega) (by omega)) (fun c_32 => ?_) (fun c_32 => ?_)
          · refine z_iconst C dL_step_83 ?_
            refine x_istore (lv' := [(9, .int (zI 0)), (8, .int (zI ((1 + (-(((σ 0) p.toNat) - ((σ 0) j)))) + (Cv j)))), (7, .int (zI (((σ 0) p.toNat) - ((σ 0) j)))), (6, .int (zI (j : Int))), (5, .int (zI l9)), (4, .int (zI b9)), (0, .ref A1), (1, .ref A2), (2, .ref c), (3, .int (zI p))]) C dL_step_84 (by decide) rfl ?_
            refine x_iload C dL_step_86 0 rfl ?_
            refine z_if_eq (tgt := 96) C dL_step_88 (by decide) (rg_of (by omega) (by omega)) (fun c_33 => ?_) (fun c_33 => ?_)
            · refine x_iload C dL_step_96 5 rfl ?_
              refine x_istore (lv' := [(4, .int (zI b9)), (9, .int (zI 0)), (8, .int (zI ((1 + (-(((σ 0) p.toNat) - ((σ 0) j)))) + (Cv j)))), (7, .int (zI (((σ 0) p.toNat) - ((σ 0) j)))), (6, .int (zI (j : Int))), (5, .int (zI l9)), (0, .ref A1), (1, .ref A2), (2, .ref c), (3, .int (zI p))]) C dL_step_98 (by decide) rfl ?_
              refine x_iload C dL_step_100 1 rfl ?_
              refine z_if_eq (tgt := 110) C dL_step_102 (by decide) (rg_of (by omega) (by omega)) (fun c_34 => ?_) (fun c_34 => ?_)
              · refine x_iload C dL_step_110 5 rfl ?_
                refine x_istore (lv' := [(5, .int (zI l9)), (4, .int (zI b9)), (9, .int (zI 0)), (8, .int (zI ((1 + (-(((σ 0) p.toNat) - ((σ 0) j)))) + (Cv j)))), (7, .int (zI (((σ 0) p.toNat) - ((σ 0) j)))), (6, .int (zI (j : Int))), (0, .ref A1), (1, .ref A2), (2, .ref c), (3, .int (zI p))]) C dL_step_112 (by decide) rfl ?_
                refine z_iinc (lv' := [(6, .int (zI ((j : Int) + 1))), (5, .int (zI l9)), (4, .int (zI b9)), (9, .int (zI 0)), (8, .int (zI ((1 + (-(((σ 0) p.toNat) - ((σ 0) j)))) + (Cv j)))), (7, .int (zI (((σ 0) p.toNat) - ((σ 0) j)))), (0, .ref A1), (1, .ref A2), (2, .ref c), (3, .int (zI p))]) C dL_step_114 5 rfl rfl (by decide) rfl ?_
                refine x_goto (tgt := 10) C dL_step_117 (by decide) ?_
                refine x_sub (lv' := [(6, .int (zI ((j : Int) + 1))), (5, .int (zI l9)), (4, .int (zI b9)), (0, .ref A1), (1, .ref A2), (2, .ref c), (3, .int (zI p))]) [0, 1, 2, 6, 7, 8, 9] rfl ?_
                have hcs : cst (σ 0) Cv p j = (1 + (-(((σ 0) p.toNat) - ((σ 0) j)))) + (Cv j) := by (unfold cst; omega)
                exact ih10 _ (by omega) _ _ (j + 1) _ (by omega) (by omega) (FL_n hF (fun hc8 => by (have h1 := hc8.1; have h2 := hc8.2; omega))) rfl
              · exfalso; omega
            · exfalso; omega
          · refine x_aload_n C dL_step_59 rfl 6 rfl ?_
            refine z_iconst C dL_step_60 ?_
            refine z_olld C dL_step_61 hz ?_
            refine x_iload C dL_step_62 2 rfl ?_
            refine z_bit C j dL_step_64 dL_step_65 dL_step_66 (by omega) (by omega) rfl ?_
            rcases Bool.eq_false_or_eq_true (kb K j) with hkb35 | hkb35
            · refine x_stk (stk' := [.long (1 : Int64)]) (by rw [hkb35]; rfl) ?_
              have hzb36 := hZB.yes (p := j) (by omega) hkb35
              refine x_lconst (v := (0 : Int64)) C dL_step_67 rfl ?_
              refine x_lcmp (v := zI (1)) C dL_step_68 (by decide) ?_
              refine z_if_ne (tgt := 83) C dL_step_69 (by decide) (rg_of (by omega) (by omega)) (fun c_37 => ?_) (fun c_37 => ?_)
              · refine z_iconst C dL_step_83 ?_
                refine x_istore (lv' := [(9, .int (zI 0)), (8, .int (zI ((1 + (-(((σ 0) p.toNat) - ((σ 0) j)))) + (Cv j)))), (7, .int (zI (((σ 0) p.toNat) - ((σ 0) j)))), (6, .int (zI (j : Int))), (5, .int (zI l9)), (4, .int (zI b9)), (0, .ref A1), (1, .ref A2), (2, .ref c), (3, .int (zI p))]) C dL_step_84 (by decide) rfl ?_
                refine x_iload C dL_step_86 0 rfl ?_
                refine z_if_eq (tgt := 96) C dL_step_88 (by decide) (rg_of (by omega) (by omega)) (fun c_38 => ?_) (fun c_38 => ?_)
                · refine x_iload C dL_step_96 5 rfl ?_
                  refine x_istore (lv' := [(4, .int (zI b9)), (9, .int (zI 0)), (8, .int (zI ((1 + (-(((σ 0) p.toNat) - ((σ 0) j)))) + (Cv j)))), (7, .int (zI (((σ 0) p.toNat) - ((σ 0) j)))), (6, .int (zI (j : Int))), (5, .int (zI l9)), (0, .ref A1), (1, .ref A2), (2, .ref c), (3, .int (zI p))]) C dL_step_98 (by decide) rfl ?_
                  refine x_iload C dL_step_100 1 rfl ?_
                  refine z_if_eq (tgt := 110) C dL_step_102 (by decide) (rg_of (by omega) (by omega)) (fun c_39 => ?_) (fun c_39 => ?_)
                  · refine x_iload C dL_step_110 5 rfl ?_
                    refine x_istore (lv' := [(5, .int (zI l9)), (4, .int (zI b9)), (9, .int (zI 0)), (8, .int (zI ((1 + (-(((σ 0) p.toNat) - ((σ 0) j)))) + (Cv j)))), (7, .int (zI (((σ 0) p.toNat) - ((σ 0) j)))), (6, .int (zI (j : Int))), (0, .ref A1), (1, .ref A2), (2, .ref c), (3, .int (zI p))]) C dL_step_112 (by decide) rfl ?_
                    refine z_iinc (lv' := [(6, .int (zI ((j : Int) + 1))), (5, .int (zI l9)), (4, .int (zI b9)), (9, .int (zI 0)), (8, .int (zI ((1 + (-(((σ 0) p.toNat) - ((σ 0) j)))) + (Cv j)))), (7, .int (zI (((σ 0) p.toNat) - ((σ 0) j)))), (0, .ref A1), (1, .ref A2), (2, .ref c), (3, .int (zI p))]) C dL_step_114 5 rfl rfl (by decide) rfl ?_
                    refine x_goto (tgt := 10) C dL_step_117 (by decide) ?_
                    refine x_sub (lv' := [(6, .int (zI ((j : Int) + 1))), (5, .int (zI l9)), (4, .int (zI b9)), (0, .ref A1), (1, .ref A2), (2, .ref c), (3, .int (zI p))]) [0, 1, 2, 6, 7, 8, 9] rfl ?_
                    have hcs : cst (σ 0) Cv p j = (1 + (-(((σ 0) p.toNat) - ((σ 0) j)))) + (Cv j) := by (unfold cst; omega)
                    exact ih10 _ (by omega) _ _ (j + 1) _ (by omega) (by omega) (FL_n hF (fun hc8 => by (have h1 := hc8.1; have h2 := hc8.2; omega))) rfl
                  · exfalso; omega
                · exfalso; omega
              · exfalso; omega
            · refine x_stk (stk' := [.long (0 : Int64)]) (by rw [hkb35]; rfl) ?_
              have hzb40 := hZB.no (p := j) (by omega) hkb35
              refine x_lconst (v := (0 : Int64)) C dL_step_67 rfl ?_
              refine x_lcmp (v := zI (0)) C dL_step_68 (by decide) ?_
              refine z_if_ne (tgt := 83) C dL_step_69 (by decide) (rg_of (by omega) (by omega)) (fun c_41 => ?_) (fun c_41 => ?_)
              · exfalso; omega
              · refine x_iload C dL_step_72 0 rfl ?_
                refine x_iload C dL_step_74 3 rfl ?_
                refine z_icmp_ge (tgt := 83) C dL_step_76 (by decide) (rg_of (by omega) (by omega)) (rg_of (by omega) (by omega)) (fun c_42 => ?_) (fun c_42 => ?_)
                · refine z_iconst C dL_step_83 ?_
                  refine x_istore (lv' := [(9, .int (zI 0)), (8, .int (zI ((1 + (-(((σ 0) p.toNat) - ((σ 0) j)))) + (Cv j)))), (7, .int (zI (((σ 0) p.toNat) - ((σ 0) j)))), (6, .int (zI (j : Int))), (5, .int (zI l9)), (4, .int (zI b9)), (0, .ref A1), (1, .ref A2), (2, .ref c), (3, .int (zI p))]) C dL_step_84 (by decide) rfl ?_
                  refine x_iload C dL_step_86 0 rfl ?_
                  refine z_if_eq (tgt := 96) C dL_step_88 (by decide) (rg_of (by omega) (by omega)) (fun c_43 => ?_) (fun c_43 => ?_)
                  · refine x_iload C dL_step_96 5 rfl ?_
                    refine x_istore (lv' := [(4, .int (zI b9)), (9, .int (zI 0)), (8, .int (zI ((1 + (-(((σ 0) p.toNat) - ((σ 0) j)))) + (Cv j)))), (7, .int (zI (((σ 0) p.toNat) - ((σ 0) j)))), (6, .int (zI (j : Int))), (5, .int (zI l9)), (0, .ref A1), (1, .ref A2), (2, .ref c), (3, .int (zI p))]) C dL_step_98 (by decide) rfl ?_
                    refine x_iload C dL_step_100 1 rfl ?_
                    refine z_if_eq (tgt := 110) C dL_step_102 (by decide) (rg_of (by omega) (by omega)) (fun c_44 => ?_) (fun c_44 => ?_)
                    · refine x_iload C dL_step_110 5 rfl ?_
                      refine x_istore (lv' := [(5, .int (zI l9)), (4, .int (zI b9)), (9, .int (zI 0)), (8, .int (zI ((1 + (-(((σ 0) p.toNat) - ((σ 0) j)))) + (Cv j)))), (7, .int (zI (((σ 0) p.toNat) - ((σ 0) j)))), (6, .int (zI (j : Int))), (0, .ref A1), (1, .ref A2), (2, .ref c), (3, .int (zI p))]) C dL_step_112 (by decide) rfl ?_
                      refine z_iinc (lv' := [(6, .int (zI ((j : Int) + 1))), (5, .int (zI l9)), (4, .int (zI b9)), (9, .int (zI 0)), (8, .int (zI ((1 + (-(((σ 0) p.toNat) - ((σ 0) j)))) + (Cv j)))), (7, .int (zI (((σ 0) p.toNat) - ((σ 0) j)))), (0, .ref A1), (1, .ref A2), (2, .ref c), (3, .int (zI p))]) C dL_step_114 5 rfl rfl (by decide) rfl ?_
                      refine x_goto (tgt := 10) C dL_step_117 (by decide) ?_
                      refine x_sub (lv' := [(6, .int (zI ((j : Int) + 1))), (5, .int (zI l9)), (4, .int (zI b9)), (0, .ref A1), (1, .ref A2), (2, .ref c), (3, .int (zI p))]) [0, 1, 2, 6, 7, 8, 9] rfl ?_
                      have hcs : cst (σ 0) Cv p j = (1 + (-(((σ 0) p.toNat) - ((σ 0) j)))) + (Cv j) := by (unfold cst; omega)
                      exact ih10 _ (by omega) _ _ (j + 1) _ (by omega) (by omega) (FL_n hF (fun hc8 => by (have h1 := hc8.1; have h2 := hc8.2; omega))) rfl
                    · exfalso; omega
                  · exfalso; omega
                · refine z_iconst C dL_step_79 ?_
                  refine x_goto (tgt := 84) C dL_step_80 (by decide) ?_
                  refine x_istore (lv' := [(9, .int (zI 1)), (8, .int (zI ((1 + (-(((σ 0) p.toNat) - ((σ 0) j)))) + (Cv j)))), (7, .int (zI (((σ 0) p.toNat) - ((σ 0) j)))), (6, .int (zI (j : Int))), (5, .int (zI l9)), (4, .int (zI b9)), (0, .ref A1), (1, .ref A2), (2, .ref c), (3, .int (zI p))]) C dL_step_84 (by decide) rfl ?_
                  refine x_iload C dL_step_86 0 rfl ?_
                  refine z_if_eq (tgt := 96) C dL_step_88 (by decide) (rg_of (by omega) (by omega)) (fun c_45 => ?_) (fun c_45 => ?_)
                  · exfalso; omega
                  · refine x_iload C dL_step_91 3 rfl ?_
                    refine x_goto (tgt := 98) C dL_step_93 (by decide) ?_
                    refine x_istore (lv' := [(4, .int (zI (j : Int))), (9, .int (zI 1)), (8, .int (zI ((1 + (-(((σ 0) p.toNat) - ((σ 0) j)))) + (Cv j)))), (7, .int (zI (((σ 0) p.toNat) - ((σ 0) j)))), (6, .int (zI (j : Int))), (5, .int (zI l9)), (0, .ref A1), (1, .ref A2), (2, .ref c), (3, .int (zI p))]) C dL_step_98 (by decide) rfl ?_
                    refine x_iload C dL_step_100 1 rfl ?_
                    refine z_if_eq (tgt := 110) C dL_step_102 (by decide) (rg_of (by omega) (by omega)) (fun c_46 => ?_) (fun c_46 => ?_)
                    · exfalso; omega
                    · refine x_iload C dL_step_105 2 rfl ?_
                      refine x_goto (tgt := 112) C dL_step_107 (by decide) ?_
                      refine x_istore (lv' := [(5, .int (zI ((1 + (-(((σ 0) p.toNat) - ((σ 0) j)))) + (Cv j)))), (4, .int (zI (j : Int))), (9, .int (zI 1)), (8, .int (zI ((1 + (-(((σ 0) p.toNat) - ((σ 0) j)))) + (Cv j)))), (7, .int (zI (((σ 0) p.toNat) - ((σ 0) j)))), (6, .int (zI (j : Int))), (0, .ref A1), (1, .ref A2), (2, .ref c), (3, .int (zI p))]) C dL_step_112 (by decide) rfl ?_
                      refine z_iinc (lv' := [(6, .int (zI ((j : Int) + 1))), (5, .int (zI ((1 + (-(((σ 0) p.toNat) - ((σ 0) j)))) + (Cv j)))), (4, .int (zI (j : Int))), (9, .int (zI 1)), (8, .int (zI ((1 + (-(((σ 0) p.toNat) - ((σ 0) j)))) + (Cv j)))), (7, .int (zI (((σ 0) p.toNat) - ((σ 0) j)))), (0, .ref A1), (1, .ref A2), (2, .ref c), (3, .int (zI p))]) C dL_step_114 5 rfl rfl (by decide) rfl ?_
                      refine x_goto (tgt := 10) C dL_step_117 (by decide) ?_
                      refine x_sub (lv' := [(6, .int (zI ((j : Int) + 1))), (5, .int (zI ((1 + (-(((σ 0) p.toNat) - ((σ 0) j)))) + (Cv j)))), (4, .int (zI (j : Int))), (0, .ref A1), (1, .ref A2), (2, .ref c), (3, .int (zI p))]) [0, 1, 2, 6, 7, 8, 9] rfl ?_
                      have hcs : cst (σ 0) Cv p j = (1 + (-(((σ 0) p.toNat) - ((σ 0) j)))) + (Cv j) := by (unfold cst; omega)
                      exact ih10 _ (by omega) _ _ (j + 1) _ (by omega) (by omega) (by (have hy := FL_y hF ⟨by omega, by omega⟩ (by omega)); rw [hcs] at hy; exact hy) rfl
  exact L10 _ _ _ (0) _ (by omega) (by omega) FL_0 rfl
abbrev rm_L_ciphers : Room := { frames := 1, cells := 1, slots := 8, locals := 21 }
set_option maxHeartbeats 4000000 in
set_option maxRecDepth 100000 in
theorem c_L_ciphers (l : Launch) (hst : l.stackTraces = false) (G : GG) (z : Nat) (μ : Mm) (A2 : Nat) (σ : SS) (n s : Nat) (C0 : Nat → Int) (hI : Iv σ n) (hs : s < 6) (hp : 0 ≤ σ 8 s) (hm1 : 1 ≤ σ 11 (s + 1)) (hc : AI G μ A2 3001 64 C0) : Ct l yL_ciphers wsL_ciphers rm_L_ciphers G z [.int (zI (uF σ (s + 1))), .int (zI (σ 8 s)), .ref A2] μ (rS (fun r9 μ' => (r9 = csm σ s (ln σ (s + 1) + 1) ∧ ∃ C', AI G μ' A2 3001 64 C' ∧ CiOK σ s C' (ln σ (s + 1) + 1)) ∧ Fr 3001 3004 μ μ')) (nX) := by
  refine ct_of (cc := cL_ciphers) (maxL := 8) (ret := (some .int)) (own := RL) (by decide) rfl rfl hst (Nat.le_of_ble_eq_true rfl) ?_
  intro E hLl hnm C R hT
  have hp63 := hI.r8 s (by omega)
  have h11 := hI.r11 (s + 1) (by omega)
  obtain ⟨hL26, hm5⟩ := uF_rg hI (show s + 1 < 7 by omega)
  have hwr := wv_rg hL26 hm5
  have hur : 0 ≤ uF σ (s + 1) ∧ uF σ (s + 1) < 234881024 := ⟨hwr.1, hwr.2.1⟩
  obtain ⟨m, hm0⟩ : ∃ m : Nat, ln σ (s + 1) = m := ⟨_, rfl⟩
  have hmm : uF σ (s + 1) / 33554432 = (m : Int) := by (rw [← hm0]; exact hwr.2.2)
  have hm1n : 1 ≤ ln σ (s + 1) := by (unfold ln; omega)
  have hm15 : 1 ≤ m ∧ m ≤ 5 := by omega
  have hFr : Fr 3001 3004 μ μ := Fr.rf
  refine x_eq (lv' := [(0, .int (zI (uF σ (s + 1)))), (1, .int (zI (σ 8 s))), (2, .ref A2)]) rfl rfl ?_
  refine z_bipush C dL_ciphers_0 (by decide) ?_
  refine z_newI (N9 := 8) (cc9 := 1) (ss9 := 8) C 3003 dL_ciphers_2 (by decide +kernel) rfl (by decide) rfl rfl (Nat.le_of_ble_eq_true rfl) (Nat.le_of_ble_eq_true rfl) (fun a1 μ2 hq3 hA4 hF5 => ?_)
  have hF6 : Fr 0 0 μ μ2 := hF5 _ _
  have hc := (hF5 0 0).ai hc (Or.inr (Nat.zero_le _))
  have hFr : Fr 3001 3004 μ μ2 := hFr.tr (hF5 3001 3004)
  have hT := hA4
  clear hA4
  refine x_astore_n (lv' := [(3, .ref a1), (0, .int (zI (uF σ (s + 1)))), (1, .int (zI (σ 8 s))), (2, .ref A2)]) C dL_ciphers_4 rfl (by decide) rfl ?_
  refine x_iload_n C dL_ciphers_5 rfl 1 rfl ?_
  refine z_bipush C dL_ciphers_6 (by decide) ?_
  refine z_ishr (v := (uF σ (s + 1)) / 33554432) C 25 dL_ciphers_8 (by omega) (by omega) rfl (by omega) rfl ?_
  refine x_stk (stk' := [.int (zI (m : Int))]) (by rw [hmm]) ?_
  refine x_istore (lv' := [(4, .int (zI (m : Int))), (3, .ref a1), (0, .int (zI (uF σ (s + 1)))), (1, .int (zI (σ 8 s))), (2, .ref A2)]) C dL_ciphers_9 (by decide) rfl ?_
  refine x_iload_n C dL_ciphers_11 rfl 3 rfl ?_
  refine x_iload C dL_ciphers_12 0 rfl ?_
  refine z_iconst C dL_ciphers_14 ?_
  refine z_iadd C dL_ciphers_15 rfl ?_
  refine z_irem C dL_ciphers_16 (rg_of (by omega) (by omega)) (by omega) (rg_of (by omega) (by omega)) (by omega) rfl ?_
  obtain ⟨gp, hgp⟩ : ∃ gp : Int, ((σ 8 s) % ((m : Int) + 1)) = gp := ⟨_, rfl⟩
  have hgr : 0 ≤ gp ∧ gp ≤ m := by (rw [← hgp]; exact ⟨Int.emod_nonneg _ (by omega), by have := Int.emod_lt_of_pos (σ 8 s) (show (0 : Int) < (m : Int) + 1 by omega); omega⟩)
  refine x_stk (stk' := [.int (zI gp)]) (by rw [hgp]) ?_
  refine x_istore (lv' := [(5, .int (zI gp)), (4, .int (zI (m : Int))), (3, .ref a1), (0, .int (zI (uF σ (s + 1)))), (1, .int (zI (σ 8 s))), (2, .ref A2)]) C dL_ciphers_17 (by decide) rfl ?_
  refine z_iconst C dL_ciphers_19 ?_
  refine x_istore (lv' := [(6, .int (zI 0)), (5, .int (zI gp)), (4, .int (zI (m : Int))), (3, .ref a1), (0, .int (zI (uF σ (s + 1)))), (1, .int (zI (σ 8 s))), (2, .ref A2)]) C dL_ciphers_20 (by decide) rfl ?_
  have L22 : ∀ (M9 : Nat) (μk : Mm) (k : Nat) (kz : Int) (hkz : kz = (k : Int)) (Ak : Nat → Int) (hc : AI G μk A2 3001 64 C0) (hT : AI G μk a1 3003 8 Ak) (hFr : Fr 3001 3004 μ μk) (hk : k ≤ m) (hCA : CA (lw σ (s + 1)) (σ 8 s) gp m k Ak) (hM9 : m - k = M9), Wx E G 1 8 22 [(6, .int (zI kz)), (5, .int (zI gp)), (4, .int (zI (m : Int))), (3, .ref a1), (0, .int (zI (uF σ (s + 1)))), (1, .int (zI (σ 8 s))), (2, .ref A2)] [] μk := by
    intro M9
    induction M9 using Nat.strongRecOn with
    | ind M9 ih22 =>
      intro μk k kz hkz Ak hc hT hFr hk hCA hM9
      subst hkz
      refine x_iload C dL_ciphers_22 0 rfl ?_
      refine x_iload C dL_ciphers_24 2 rfl ?_
      refine z_icmp_ge (tgt := 84) C dL_ciphers_26 (by decide) (rg_of (by omega) (by omega)) (rg_of (by omega) (by omega)) (fun c_7 => ?_) (fun c_7 => ?_)
      · refine x_aload_n C dL_ciphers_84 rfl 3 rfl ?_
        refine x_iload C dL_ciphers_85 1 rfl ?_
        refine x_iload_n C dL_ciphers_87 rfl 5 rfl ?_
        refine z_bipush C dL_ciphers_88 (by decide) ?_
        refine z_irem C dL_ciphers_90 (rg_of (by omega) (by omega)) (by omega) (rg_of (by omega) (by omega)) (by omega) rfl ?_
        refine z_iast (j := gp.toNat) C dL_ciphers_91 hT (by omega) (by omega) (by decide) (fun μ8 hTw hF9 => ?_)
        have hc := hF9.ai hc
        have hFr : Fr 3001 3004 μ μ8 := hFr.tr hF9
        have hT := hTw
        have hea : ∀ i : Nat, i ≤ m → wr Ak gp.toNat (σ 8 s % 27) i = cl9 σ s (i : Int) := fun i hi => (CA_e hCA (by omega) hp hgp.symm hi).trans (by (unfold cl9; rw [hm0]))
        refine z_iconst C dL_ciphers_92 ?_
        refine x_istore (lv' := [(6, .int (zI 0)), (5, .int (zI gp)), (4, .int (zI (m : Int))), (3, .ref a1), (0, .int (zI (uF σ (s + 1)))), (1, .int (zI (σ 8 s))), (2, .ref A2)]) C dL_ciphers_93 (by decide) rfl ?_
        refine z_iconst C dL_ciphers_95 ?_
        refine x_istore (lv' := [(7, .int (zI 0)), (6, .int (zI 0)), (5, .int (zI gp)), (4, .int (zI (m : Int))), (3, .ref a1), (0, .int (zI (uF σ (s + 1)))), (1, .int (zI (σ 8 s))), (2, .ref A2)]) C dL_ciphers_96 (by decide) rfl ?_
        have L98 : ∀ (M9 : Nat) (μj : Mm) (ch : Int) (k : Nat) (kz : Int) (hkz : kz = (k : Int)) (Ck : Nat → Int) (hc : AI G μj A2 3001 64 Ck) (hT : AI G μj a1 3003 8 (wr Ak gp.toNat ((σ 8 s) % 27))) (hFr : Fr 3001 3004 μ μj) (hk : k ≤ m + 1) (hch : ch = csm σ s k) (hCi : CiOK σ s Ck k) (hM9 : m + 1 - k = M9), Wx E G 1 8 98 [(7, .int (zI kz)), (6, .int (zI ch)), (5, .int (zI gp)), (4, .int (zI (m : Int))), (3, .ref a1), (0, .int (zI (uF σ (s + 1)))), (1, .int (zI (σ 8 s))), (2, .ref A2)] [] μj := by
          intro M9
          induction M9 using Nat.strongRecOn with
          | ind M9 ih98 =>
            intro μj ch k kz hkz Ck hc hT hFr hk hch hCi hM9
            subst hkz
            have hcr0 := csm_rg σ s k
            refine x_iload C dL_ciphers_98 0 rfl ?_
            refine x_iload C dL_ciphers_100 3 rfl ?_
            refine z_icmp_gt (tgt := 164) C dL_ciphers_102 (by decide) (rg_of (by omega) (by omega)) (rg_of (by omega) (by omega)) (fun c_10 => ?_) (fun c_10 => ?_)
            · refine x_iload C dL_ciphers_164 1 rfl ?_
              exact x_iret C R dL_ciphers_166 (Nat.le_of_ble_eq_true rfl) (Nat.le_of_ble_eq_true rfl) (⟨_, rfl, ⟨by (rw [hch, hm0, show k = m + 1 by omega]), _, hc, by (rw [hm0, show m + 1 = k by omega]; exact hCi)⟩, hFr⟩)
            · have hcl := cl9_rg hI hs hp hm1n (i := (k : Int)) (by (rw [hm0]; omega))
              have hcr := csm_rg σ s k
              refine x_aload_n C dL_ciphers_105 rfl 7 rfl ?_
              refine x_iload C dL_ciphers_106 1 rfl ?_
              refine x_aload_n C dL_ciphers_108 rfl 4 rfl ?_
              refine x_iload C dL_ciphers_109 0 rfl ?_
              refine z_iald (j := k) C dL_ciphers_111 hT (by omega) (by omega) (by decide) ?_
              refine x_stk (stk' := [.int (zI (cl9 σ s (k : Int))), .int (zI ch), .ref A2]) (by (rw [hea k (by omega)])) ?_
              refine z_bipush C dL_ciphers_112 (by decide) ?_
              refine z_icmp_ne (tgt := 122) C dL_ciphers_114 (by decide) (rg_of (by omega) (by omega)) (rg_of (by omega) (by omega)) (fun c_11 => ?_) (fun c_11 => ?_)
              · refine z_bipush C dL_ciphers_122 (by decide) ?_
                refine x_aload_n C dL_ciphers_124 rfl 4 rfl ?_
                refine x_iload C dL_ciphers_125 0 rfl ?_
                refine z_iald (j := k) C dL_ciphers_127 hT (by omega) (by omega) (by decide) ?_
                refine x_stk (stk' := [.int (zI (cl9 σ s (k : Int))), .int (zI 97), .int (zI ch), .ref A2]) (by (rw [hea k (by omega)])) ?_
                refine z_iadd C dL_ciphers_128 rfl ?_
                refine z_iast (j := ch.toNat) C dL_ciphers_129 hc (by omega) (by omega) (by decide) (fun μ12 hcw hF13 => ?_)
                have hT := hF13.ai hT
                have hFr : Fr 3001 3004 μ μ12 := hFr.tr hF13
                have hc := hcw
                refine z_iinc (lv' := [(6, .int (zI (ch + 1))), (7, .int (zI (k : Int))), (5, .int (zI gp)), (4, .int (zI (m : Int))), (3, .ref a1), (0, .int (zI (uF σ (s + 1)))), (1, .int (zI (σ 8 s))), (2, .ref A2)]) C dL_ciphers_130 1 rfl rfl (by decide) rfl ?_
                refine x_aload_n C dL_ciphers_133 rfl 7 rfl ?_
                refine x_iload C dL_ciphers_134 0 rfl ?_
                refine z_ldc (w := (56831)) (v := (56831)) C dL_ciphers_136 (by decide +kernel) (by decide) ?_
                refine z_iast (j := (ch + 1).toNat) C dL_ciphers_138 hc (by omega) (by omega) (by decide) (fun μ14 hcw hF15 => ?_)
                have hT := hF15.ai hT
                have hFr : Fr 3001 3004 μ μ14 := hFr.tr hF15
                have hc := hcw
                refine x_iload C dL_ciphers_139 0 rfl ?_
                refine x_aload_n C dL_ciphers_141 rfl 4 rfl ?_
                refine x_iload C dL_ciphers_142 1 rfl ?_
                refine z_iald (j := k) C dL_ciphers_144 hT (by omega) (by omega) (by decide) ?_
                refine x_stk (stk' := [.int (zI (cl9 σ s (k : Int))), .int (zI (ch + 1))]) (by (rw [hea k (by omega)])) ?_
                refine z_bipush C dL_ciphers_145 (by decide) ?_
                refine z_icmp_ne (tgt := 154) C dL_ciphers_147 (by decide) (rg_of (by omega) (by omega)) (rg_of (by omega) (by omega)) (fun c_16 => ?_) (fun c_16 => ?_)
                · refine z_iconst C dL_ciphers_154 ?_
                  refine z_iadd C dL_ciphers_155 rfl ?_
                  refine x_istore (lv' := [(6, .int (zI ((ch + 1) + 0))), (7, .int (zI (k : Int))), (5, .int (zI gp)), (4, .int (zI (m : Int))), (3, .ref a1), (0, .int (zI (uF σ (s + 1)))), (1, .int (zI (σ 8 s))), (2, .ref A2)]) C dL_ciphers_156 (by decide) rfl ?_
                  refine z_iinc (lv' := [(7, .int (zI ((k : Int) + 1))), (6, .int (zI ((ch + 1) + 0))), (5, .int (zI gp)), (4, .int (zI (m : Int))), (3, .ref a1), (0, .int (zI (uF σ (s + 1)))), (1, .int (zI (σ 8 s))), (2, .ref A2)]) C dL_ciphers_158 1 rfl rfl (by decide) rfl ?_
                  refine x_goto (tgt := 98) C dL_ciphers_161 (by decide) ?_
                  exact ih98 _ (by omega) _ _ (k + 1) _ (by omega) _ hc hT hFr (by omega) (by (rw [show csm σ s (k + 1) = csm σ s k + (if cl9 σ s (k : Int) = 26 then 2 else 1) from rfl]; split <;> omega)) (CiOK_s2 (v := 97 + (cl9 σ s (k : Int))) hCi hch (l := cl9 σ s (k : Int)) rfl (by omega)) rfl
                · exfalso; omega
              · refine z_ldc (w := (55357)) (v := (55357)) C dL_ciphers_117 (by decide +kernel) (by decide) ?_
                refine x_goto (tgt := 129) C dL_ciphers_119 (by decide) ?_
                refine z_iast (j := ch.toNat) C dL_ciphers_129 hc (by omega) (by omega) (by decide) (fun μ17 hcw hF18 => ?_)
                have hT := hF18.ai hT
                have hFr : Fr 3001 3004 μ μ17 := hFr.tr hF18
                have hc := hcw
                refine z_iinc (lv' := [(6, .int (zI (ch + 1))), (7, .int (zI (k : Int))), (5, .int (zI gp)), (4, .int (zI (m : Int))), (3, .ref a1), (0, .int (zI (uF σ (s + 1)))), (1, .int (zI (σ 8 s))), (2, .ref A2)]) C dL_ciphers_130 1 rfl rfl (by decide) rfl ?_
                refine x_aload_n C dL_ciphers_133 rfl 7 rfl ?_
                refine x_iload C dL_ciphers_134 0 rfl ?_
                refine z_ldc (w := (56831)) (v := (56831)) C dL_ciphers_136 (by decide +kernel) (by decide) ?_
                refine z_iast (j := (ch + 1).toNat) C dL_ciphers_138 hc (by omega) (by omega) (by decide) (fun μ19 hcw hF20 => ?_)
                have hT := hF20.ai hT
                have hFr : Fr 3001 3004 μ μ19 := hFr.tr hF20
                have hc := hcw
                refine x_iload C dL_ciphers_139 0 rfl ?_
                refine x_aload_n C dL_ciphers_141 rfl 4 rfl ?_
                refine x_iload C dL_ciphers_142 1 rfl ?_
                refine z_iald (j := k) C dL_ciphers_144 hT (by omega) (by omega) (by decide) ?_
                refine x_stk (stk' := [.int (zI (cl9 σ s (k : Int))), .int (zI (ch + 1))]) (by (rw [hea k (by omega)])) ?_
                refine z_bipush C dL_ciphers_145 (by decide) ?_
                refine z_icmp_ne (tgt := 154) C dL_ciphers_147 (by decide) (rg_of (by omega) (by omega)) (rg_of (by omega) (by omega)) (fun c_21 => ?_) (fun c_21 => ?_)
                · exfalso; omega
                · refine z_iconst C dL_ciphers_150 ?_
                  refine x_goto (tgt := 155) C dL_ciphers_151 (by decide) ?_
                  refine z_iadd C dL_ciphers_155 rfl ?_
                  refine x_istore (lv' := [(6, .int (zI ((ch + 1) + 1))), (7, .int (zI (k : Int))), (5, .int (zI gp)), (4, .int (zI (m : Int))), (3, .ref a1), (0, .int (zI (uF σ (s + 1)))), (1, .int (zI (σ 8 s))), (2, .ref A2)]) C dL_ciphers_156 (by decide) rfl ?_
                  refine z_iinc (lv' := [(7, .int (zI ((k : Int) + 1))), (6, .int (zI ((ch + 1) + 1))), (5, .int (zI gp)), (4, .int (zI (m : Int))), (3, .ref a1), (0, .int (zI (uF σ (s + 1)))), (1, .int (zI (σ 8 s))), (2, .ref A2)]) C dL_ciphers_158 1 rfl rfl (by decide) rfl ?_
                  refine x_goto (tgt := 98) C dL_ciphers_161 (by decide) ?_
                  exact ih98 _ (by omega) _ _ (k + 1) _ (by omega) _ hc hT hFr (by omega) (by (rw [show csm σ s (k + 1) = csm σ s k + (if cl9 σ s (k : Int) = 26 then 2 else 1) from rfl]; split <;> omega)) (CiOK_s2 (v := 55357) hCi hch (l := cl9 σ s (k : Int)) rfl (by omega)) rfl
        exact L98 _ _ _ (0) _ (by omega) _ hc hT hFr (by omega) rfl CiOK_0 rfl
      · refine x_iload_n C dL_ciphers_29 rfl 5 rfl ?_
        refine z_iconst C dL_ciphers_30 ?_
        refine z_irem C dL_ciphers_31 (rg_of (by omega) (by omega)) (by omega) (rg_of (by omega) (by omega)) (by omega) rfl ?_
        refine z_if_ne (tgt := 40) C dL_ciphers_32 (by decide) (rg_of (by omega) (by omega)) (fun c_22 => ?_) (fun c_22 => ?_)
        · refine x_iload C dL_ciphers_40 2 rfl ?_
          refine z_iconst C dL_ciphers_42 ?_
          refine z_isub C dL_ciphers_43 rfl ?_
          refine x_iload C dL_ciphers_44 0 rfl ?_
          refine z_isub C dL_ciphers_46 rfl ?_
          refine x_istore (lv' := [(7, .int (zI (((m : Int) - 1) - (k : Int)))), (6, .int (zI (k : Int))), (5, .int (zI gp)), (4, .int (zI (m : Int))), (3, .ref a1), (0, .int (zI (uF σ (s + 1)))), (1, .int (zI (σ 8 s))), (2, .ref A2)]) C dL_ciphers_47 (by decide) rfl ?_
          refine x_aload_n C dL_ciphers_49 rfl 4 rfl ?_
          refine x_iload C dL_ciphers_50 0 rfl ?_
          refine x_iload C dL_ciphers_52 2 rfl ?_
          refine z_icmp_ge (tgt := 62) C dL_ciphers_54 (by decide) (rg_of (by omega) (by omega)) (rg_of (by omega) (by omega)) (fun c_23 => ?_) (fun c_23 => ?_)
          · refine x_iload C dL_ciphers_62 0 rfl ?_
            refine z_iconst C dL_ciphers_64 ?_
            refine z_iadd C dL_ciphers_65 rfl ?_
            refine x_iload_n C dL_ciphers_66 rfl 5 rfl ?_
            refine x_iload C dL_ciphers_67 1 rfl ?_
            refine x_callS (n := 2) (cc9 := 1) (ss9 := 8) (rest := [.int (zI ((((m : Int) - 1) - (k : Int)) + 1)), .ref a1]) C dL_ciphers_69 (c_L_letter (kxL E) C.st G z μk (lw σ (s + 1)) (ln σ (s + 1)) k hL26 (by omega) hm5) gL_ciphers_L_letter rfl (by decide +kernel) ⟨(Nat.le_of_ble_eq_true rfl), (Nat.le_of_ble_eq_true rfl)⟩ rfl rfl (Nat.le_of_ble_eq_true rfl) rfl rfl ⟨(Nat.le_of_ble_eq_true rfl), (Nat.le_of_ble_eq_true rfl)⟩ nX_no (fun v24 μ25 hv26 => ?_)
            obtain ⟨r27, hw30, h28, hm29⟩ := hv26
            subst hw30
            rw [hm29]
            have hlr := hL26 k (by omega)
            refine x_stk (stk' := [.int (zI r27), .int (zI ((((m : Int) - 1) - (k : Int)) + 1)), .ref a1]) rfl ?_
            refine x_iload_n C dL_ciphers_72 rfl 6 rfl ?_
            refine z_iadd C dL_ciphers_73 rfl ?_
            refine z_bipush C dL_ciphers_74 (by decide) ?_
            refine z_irem C dL_ciphers_76 (rg_of (by omega) (by omega)) (by omega) (rg_of (by omega) (by omega)) (by omega) rfl ?_
            refine z_iast (j := ((((m : Int) - 1) - (k : Int)) + 1).toNat) C dL_ciphers_77 hT (by omega) (by omega) (by decide) (fun μ31 hTw hF32 => ?_)
            have hc := hF32.ai hc
            have hFr : Fr 3001 3004 μ μ31 := hFr.tr hF32
            have hT := hTw
            refine z_iinc (lv' := [(6, .int (zI ((k : Int) + 1))), (7, .int (zI (((m : Int) - 1) - (k : Int)))), (5, .int (zI gp)), (4, .int (zI (m : Int))), (3, .ref a1), (0, .int (zI (uF σ (s + 1)))), (1, .int (zI (σ 8 s))), (2, .ref A2)]) C dL_ciphers_78 1 rfl rfl (by decide) rfl ?_
            refine x_goto (tgt := 22) C dL_ciphers_81 (by decide) ?_
            refine x_sub (lv' := [(6, .int (zI ((k : Int) + 1))), (5, .int (zI gp)), (4, .int (zI (m : Int))), (3, .ref a1), (0, .int (zI (uF σ (s + 1)))), (1, .int (zI (σ 8 s))), (2, .ref A2)]) [0, 2, 3, 4, 5, 6, 7] rfl ?_
            exact ih22 _ (by omega) _ (k + 1) _ (by omega) _ hc hT hFr (by omega) (CA_s (x := (((m : Int) - 1) - (k : Int)) + 1) (v := (r27 + (σ 8 s)) % 27) hCA (by omega) hgr (by (unfold posI; split <;> split <;> omega)) (by omega)) rfl
          · refine x_iload C dL_ciphers_57 0 rfl ?_
            refine x_goto (tgt := 66) C dL_ciphers_59 (by decide) ?_
            refine x_iload_n C dL_ciphers_66 rfl 5 rfl ?_
            refine x_iload C dL_ciphers_67 1 rfl ?_
            refine x_callS (n := 2) (cc9 := 1) (ss9 := 8) (rest := [.int (zI (((m : Int) - 1) - (k : Int))), .ref a1]) C dL_ciphers_69 (c_L_letter (kxL E) C.st G z μk (lw σ (s + 1)) (ln σ (s + 1)) k hL26 (by omega) hm5) gL_ciphers_L_letter rfl (by decide +kernel) ⟨(Nat.le_of_ble_eq_true rfl), (Nat.le_of_ble_eq_true rfl)⟩ rfl rfl (Nat.le_of_ble_eq_true rfl) rfl rfl ⟨(Nat.le_of_ble_eq_true rfl), (Nat.le_of_ble_eq_true rfl)⟩ nX_no (fun v33 μ34 hv35 => ?_)
            obtain ⟨r36, hw39, h37, hm38⟩ := hv35
            subst hw39
            rw [hm38]
            have hlr := hL26 k (by omega)
            refine x_stk (stk' := [.int (zI r36), .int (zI (((m : Int) - 1) - (k : Int))), .ref a1]) rfl ?_
            refine x_iload_n C dL_ciphers_72 rfl 6 rfl ?_
            refine z_iadd C dL_ciphers_73 rfl ?_
            refine z_bipush C dL_ciphers_74 (by decide) ?_
            refine z_irem C dL_ciphers_76 (rg_of (by omega) (by omega)) (by omega) (rg_of (by omega) (by omega)) (by omega) rfl ?_
            refine z_iast (j := (((m : Int) - 1) - (k : Int)).toNat) C dL_ciphers_77 hT (by omega) (by omega) (by decide) (fun μ40 hTw hF41 => ?_)
            have hc := hF41.ai hc
            have hFr : Fr 3001 3004 μ μ40 := hFr.tr hF41
            have hT := hTw
            refine z_iinc (lv' := [(6, .int (zI ((k : Int) + 1))), (7, .int (zI (((m : Int) - 1) - (k : Int)))), (5, .int (zI gp)), (4, .int (zI (m : Int))), (3, .ref a1), (0, .int (zI (uF σ (s + 1)))), (1, .int (zI (σ 8 s))), (2, .ref A2)]) C dL_ciphers_78 1 rfl rfl (by decide) rfl ?_
            refine x_goto (tgt := 22) C dL_ciphers_81 (by decide) ?_
            refine x_sub (lv' := [(6, .int (zI ((k : Int) + 1))), (5, .int (zI gp)), (4, .int (zI (m : Int))), (3, .ref a1), (0, .int (zI (uF σ (s + 1)))), (1, .int (zI (σ 8 s))), (2, .ref A2)]) [0, 2, 3, 4, 5, 6, 7] rfl ?_
            exact ih22 _ (by omega) _ (k + 1) _ (by omega) _ hc hT hFr (by omega) (CA_s (x := ((m : Int) - 1) - (k : Int)) (v := (r36 + (σ 8 s)) % 27) hCA (by omega) hgr (by (unfold posI; split <;> split <;> omega)) (by omega)) rfl
        · refine x_iload C dL_ciphers_35 0 rfl ?_
          refine x_goto (tgt := 47) C dL_ciphers_37 (by decide) ?_
          refine x_istore (lv' := [(7, .int (zI (k : Int))), (6, .int (zI (k : Int))), (5, .int (zI gp)), (4, .int (zI (m : Int))), (3, .ref a1), (0, .int (zI (uF σ (s + 1)))), (1, .int (zI (σ 8 s))), (2, .ref A2)]) C dL_ciphers_47 (by decide) rfl ?_
          refine x_aload_n C dL_ciphers_49 rfl 4 rfl ?_
          refine x_iload C dL_ciphers_50 0 rfl ?_
          refine x_iload C dL_ciphers_52 2 rfl ?_
          refine z_icmp_ge (tgt := 62) C dL_ciphers_54 (by decide) (rg_of (by omega) (by omega)) (rg_of (by omega) (by omega)) (fun c_42 => ?_) (fun c_42 => ?_)
          · refine x_iload C dL_ciphers_62 0 rfl ?_
            refine z_iconst C dL_ciphers_64 ?_
            refine z_iadd C dL_ciphers_65 rfl ?_
            refine x_iload_n C dL_ciphers_66 rfl 5 rfl ?_
            refine x_iload C dL_ciphers_67 1 rfl ?_
            refine x_callS (n := 2) (cc9 := 1) (ss9 := 8) (rest := [.int (zI ((k : Int) + 1)), .ref a1]) C dL_ciphers_69 (c_L_letter (kxL E) C.st G z μk (lw σ (s + 1)) (ln σ (s + 1)) k hL26 (by omega) hm5) gL_ciphers_L_letter rfl (by decide +kernel) ⟨(Nat.le_of_ble_eq_true rfl), (Nat.le_of_ble_eq_true rfl)⟩ rfl rfl (Nat.le_of_ble_eq_true rfl) rfl rfl ⟨(Nat.le_of_ble_eq_true rfl), (Nat.le_of_ble_eq_true rfl)⟩ nX_no (fun v43 μ44 hv45 => ?_)
            obtain ⟨r46, hw49, h47, hm48⟩ := hv45
            subst hw49
            rw [hm48]
            have hlr := hL26 k (by omega)
            refine x_stk (stk' := [.int (zI r46), .int (zI ((k : Int) + 1)), .ref a1]) rfl ?_
            refine x_iload_n C dL_ciphers_72 rfl 6 rfl ?_
            refine z_iadd C dL_ciphers_73 rfl ?_
            refine z_bipush C dL_ciphers_74 (by decide) ?_
            refine z_irem C dL_ciphers_76 (rg_of (by omega) (by omega)) (by omega) (rg_of (by omega) (by omega)) (by omega) rfl ?_
            refine z_iast (j := ((k : Int) + 1).toNat) C dL_ciphers_77 hT (by omega) (by omega) (by decide) (fun μ50 hTw hF51 => ?_)
            have hc := hF51.ai hc
            have hFr : Fr 3001 3004 μ μ50 := hFr.tr hF51
            have hT := hTw
            refine z_iinc (lv' := [(6, .int (zI ((k : Int) + 1))), (7, .int (zI (k : Int))), (5, .int (zI gp)), (4, .int (zI (m : Int))), (3, .ref a1), (0, .int (zI (uF σ (s + 1)))), (1, .int (zI (σ 8 s))), (2, .ref A2)]) C dL_ciphers_78 1 rfl rfl (by decide) rfl ?_
            refine x_goto (tgt := 22) C dL_ciphers_81 (by decide) ?_
            refine x_sub (lv' := [(6, .int (zI ((k : Int) + 1))), (5, .int (zI gp)), (4, .int (zI (m : Int))), (3, .ref a1), (0, .int (zI (uF σ (s + 1)))), (1, .int (zI (σ 8 s))), (2, .ref A2)]) [0, 2, 3, 4, 5, 6, 7] rfl ?_
            exact ih22 _ (by omega) _ (k + 1) _ (by omega) _ hc hT hFr (by omega) (CA_s (x := (k : Int) + 1) (v := (r46 + (σ 8 s)) % 27) hCA (by omega) hgr (by (unfold posI; split <;> split <;> omega)) (by omega)) rfl
          · refine x_iload C dL_ciphers_57 0 rfl ?_
            refine x_goto (tgt := 66) C dL_ciphers_59 (by decide) ?_
            refine x_iload_n C dL_ciphers_66 rfl 5 rfl ?_
            refine x_iload C dL_ciphers_67 1 rfl ?_
            refine x_callS (n := 2) (cc9 := 1) (ss9 := 8) (rest := [.int (zI (k : Int)), .ref a1]) C dL_ciphers_69 (c_L_letter (kxL E) C.st G z μk (lw σ (s + 1)) (ln σ (s + 1)) k hL26 (by omega) hm5) gL_ciphers_L_letter rfl (by decide +kernel) ⟨(Nat.le_of_ble_eq_true rfl), (Nat.le_of_ble_eq_true rfl)⟩ rfl rfl (Nat.le_of_ble_eq_true rfl) rfl rfl ⟨(Nat.le_of_ble_eq_true rfl), (Nat.le_of_ble_eq_true rfl)⟩ nX_no (fun v52 μ53 hv54 => ?_)
            obtain ⟨r55, hw58, h56, hm57⟩ := hv54
            subst hw58
            rw [hm57]
            have hlr := hL26 k (by omega)
            refine x_stk (stk' := [.int (zI r55), .int (zI (k : Int)), .ref a1]) rfl ?_
            refine x_iload_n C dL_ciphers_72 rfl 6 rfl ?_
            refine z_iadd C dL_ciphers_73 rfl ?_
            refine z_bipush C dL_ciphers_74 (by decide) ?_
            refine z_irem C dL_ciphers_76 (rg_of (by omega) (by omega)) (by omega) (rg_of (by omega) (by omega)) (by omega) rfl ?_
            refine z_iast (j := k) C dL_ciphers_77 hT (by omega) (by omega) (by decide) (fun μ59 hTw hF60 => ?_)
            have hc := hF60.ai hc
            have hFr : Fr 3001 3004 μ μ59 := hFr.tr hF60
            have hT := hTw
            refine z_iinc (lv' := [(6, .int (zI ((k : Int) + 1))), (7, .int (zI (k : Int))), (5, .int (zI gp)), (4, .int (zI (m : Int))), (3, .ref a1), (0, .int (zI (uF σ (s + 1)))), (1, .int (zI (σ 8 s))), (2, .ref A2)]) C dL_ciphers_78 1 rfl rfl (by decide) rfl ?_
            refine x_goto (tgt := 22) C dL_ciphers_81 (by decide) ?_
            refine x_sub (lv' := [(6, .int (zI ((k : Int) + 1))), (5, .int (zI gp)), (4, .int (zI (m : Int))), (3, .ref a1), (0, .int (zI (uF σ (s + 1)))), (1, .int (zI (σ 8 s))), (2, .ref A2)]) [0, 2, 3, 4, 5, 6, 7] rfl ?_
            exact ih22 _ (by omega) _ (k + 1) _ (by omega) _ hc hT hFr (by omega) (CA_s (x := (k : Int)) (v := (r55 + (σ 8 s)) % 27) hCA (by omega) hgr (by (unfold posI; split <;> split <;> omega)) (by omega)) rfl
  exact L22 _ _ (0) _ (by omega) _ hc hT hFr (by omega) CA_0 rfl
