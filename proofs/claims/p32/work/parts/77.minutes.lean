/-! p32: the law -/
abbrev rm_L_minutes : Room := { frames := 2, cells := 12, slots := 768, locals := 53 }
set_option maxHeartbeats 4000000 in
set_option maxRecDepth 100000 in
theorem c_L_minutes (l : Launch) (hst : l.stackTraces = false) (G : GG) (z : Nat) (μ : Mm) (A0 A1 A2 A7 : Nat) (σ : SS) (n t : Nat) (K : Int64) (N W : Nat → Int) (hI : Iv σ n) (hJ : Jv σ) (hn : AI G μ A0 3006 4 N) (hN1 : N 1 = σ 12 0) (hh : AI G μ A1 4001 64 (σ 0)) (hz : OL G μ A2 4002 K) (hZB : ZB σ K) (hw : AI G μ A7 3007 30 W) (hWR : WR (psS σ t 0) W) : Ct l yL_minutes wsL_minutes rm_L_minutes G z [.ref A0, .ref A1, .ref A2, .ref A7] μ (rS (fun r9 μ' => (r9 = pS σ (t + 1) 0 - pS σ t 0 ∧ AI G μ' A0 3006 4 (wr N 3 (N 3 + 1)) ∧ ∃ W', AI G μ' A7 3007 30 W' ∧ WR (psS σ (t + 1) 0) W') ∧ Fr 3004 3008 μ μ')) (nX) := by
  refine ct_of (cc := cL_minutes) (maxL := 9) (ret := (some .int)) (own := RL) (by decide) rfl rfl hst (Nat.le_of_ble_eq_true rfl) ?_
  intro E hLl hnm C R hT
  have h12 := hI.n12
  have hFr : Fr 3004 3008 μ μ := Fr.rf
  refine x_eq (lv' := [(0, .ref A0), (1, .ref A1), (2, .ref A2), (3, .ref A7)]) rfl rfl ?_
  refine z_iconst C dL_minutes_0 ?_
  refine x_istore (lv' := [(4, .int (zI 0)), (0, .ref A0), (1, .ref A1), (2, .ref A2), (3, .ref A7)]) C dL_minutes_1 (by decide) rfl ?_
  refine x_aload_n C dL_minutes_3 rfl 1 rfl ?_
  refine z_iconst C dL_minutes_4 ?_
  refine x_dup2 C dL_minutes_5 rfl rfl ?_
  refine z_iald (j := 3) C dL_minutes_6 hn (by omega) (by omega) (by decide) ?_
  refine z_iconst C dL_minutes_7 ?_
  refine z_iadd C dL_minutes_8 rfl ?_
  refine z_iast (j := 3) C dL_minutes_9 hn (by omega) (by omega) (by decide) (fun μ1 hnw hF2 => ?_)
  have hh := hF2.ai hh
  have hz := hF2.ol hz
  have hw := hF2.ai hw
  have hFr : Fr 3004 3008 μ μ1 := hFr.tr hF2
  have hn := hnw
  refine z_iconst C dL_minutes_10 ?_
  refine x_istore (lv' := [(5, .int (zI 0)), (4, .int (zI 0)), (0, .ref A0), (1, .ref A1), (2, .ref A2), (3, .ref A7)]) C dL_minutes_11 (by decide) rfl ?_
  have L13 : ∀ (M9 : Nat) (μk : Mm) (many : Int) (i : Int) (v : Nat) (Wk : Nat → Int) (hn : AI G μk A0 3006 4 (wr N 3 ((N 3) + 1))) (hh : AI G μk A1 4001 64 (σ 0)) (hz : OL G μk A2 4002 K) (hw : AI G μk A7 3007 30 Wk) (hFr : Fr 3004 3008 μ μk) (hv6 : (v : Int) ≤ σ 12 0) (hiv : i = 5 * (v : Int)) (hWR : WR (psS σ t v) Wk) (hmany : many = pS σ t v - pS σ t 0) (hM9 : 6 - v = M9), Wx E G (0 + 2 * v) (0 + 128 * v) 13 [(5, .int (zI i)), (4, .int (zI many)), (0, .ref A0), (1, .ref A1), (2, .ref A2), (3, .ref A7)] [] μk := by
    intro M9
    induction M9 using Nat.strongRecOn with
    | ind M9 ih13 =>
      intro μk many i v Wk hn hh hz hw hFr hv6 hiv hWR hmany hM9
      refine x_iload C dL_minutes_13 0 rfl ?_
      refine z_iconst C dL_minutes_15 ?_
      refine x_aload_n C dL_minutes_16 rfl 2 rfl ?_
      refine z_iconst C dL_minutes_17 ?_
      refine z_iald (j := 1) C dL_minutes_18 hn (by omega) (by omega) (by decide) ?_
      refine x_stk (stk' := [.int (zI (N 1)), .int (zI 5), .int (zI i)]) (by (rw [wr_ne (by omega)])) ?_
      refine z_imul C dL_minutes_19 rfl ?_
      refine z_icmp_ge (tgt := 295) C dL_minutes_20 (by decide) (rg_of (by omega) (by omega)) (rg_of (by omega) (by omega)) (fun c_3 => ?_) (fun c_3 => ?_)
      · refine x_iload C dL_minutes_295 1 rfl ?_
        exact x_iret C R dL_minutes_297 (Nat.le_trans (show _ ≤ 12 by omega) (Nat.le_of_ble_eq_true rfl)) (Nat.le_trans (show _ ≤ 768 by omega) (Nat.le_of_ble_eq_true rfl)) (⟨_, rfl, ⟨by (rw [← pS_nx, show (σ 12 0).toNat = v by omega]; exact hmany), hn, Wk, hw, by (rw [← psS_nx, show (σ 12 0).toNat = v by omega]; exact hWR)⟩, hFr⟩)
      · have J173 : ∀ (μj : Mm) (Wj : Nat → Int) (le9 : Int) (hn : AI G μj A0 3006 4 (wr N 3 ((N 3) + 1))) (hh : AI G μj A1 4001 64 (σ 0)) (hz : OL G μj A2 4002 K) (hw : AI G μj A7 3007 30 Wj) (hFr : Fr 3004 3008 μ μj) (hb9 : wb (psS σ t v) (psS σ t v 13 v) (psS σ t v 14 v, psS σ t v 15 v, psS σ t v 16 v, psS σ t v 17 v) = (Wj (5 * v + 1), Wj (5 * v + 2), Wj (5 * v + 3), le9)) (hok9 : W4ok (Wj (5 * v + 1), Wj (5 * v + 2), Wj (5 * v + 3), le9)) (hl9 : Wj (5 * v + 3) ≠ -1 → Wj (5 * v + 4) = le9) (hWj : ∀ j, j ≠ 5 * v + 1 → j ≠ 5 * v + 2 → j ≠ 5 * v + 3 → j ≠ 5 * v + 4 → Wj j = Wk j), Wx E G ((0 + 2 * v) + 2) ((0 + 128 * v) + 128) 173 [(5, .int (zI i)), (4, .int (zI many)), (0, .ref A0), (1, .ref A1), (2, .ref A2), (3, .ref A7)] [] μj := by
          intro μj Wj le9 hn hh hz hw hFr hb9 hok9 hl9 hWj
          obtain ⟨m1, m2, m3, m4, m5, m6⟩ := hok9
          dsimp only at m1 m2 m3 m4 m5 m6
          have hl8 : Wj (5 * v + 3) = -1 ∨ Wj (5 * v + 4) = le9 := by (by_cases q : Wj (5 * v + 3) = -1; exact Or.inl q; exact Or.inr (hl9 q))
          have m8 : Wj (5 * v + 3) = -1 ∨ 1 ≤ le9 := by (by_cases q : Wj (5 * v + 3) = -1; exact Or.inl q; exact Or.inr (m6 q))
          refine x_aload_n C dL_minutes_173 rfl 5 rfl ?_
          refine x_iload C dL_minutes_174 0 rfl ?_
          refine z_iconst C dL_minutes_176 ?_
          refine z_iadd C dL_minutes_177 rfl ?_
          refine x_dup2 C dL_minutes_178 rfl rfl ?_
          refine z_iald (j := 5 * v + 4) C dL_minutes_179 hw (by omega) (by omega) (by decide) ?_
          refine x_aload_n C dL_minutes_180 rfl 5 rfl ?_
          refine x_iload C dL_minutes_181 0 rfl ?_
          refine z_iconst C dL_minutes_183 ?_
          refine z_iadd C dL_minutes_184 rfl ?_
          refine z_iald (j := 5 * v + 3) C dL_minutes_185 hw (by omega) (by omega) (by decide) ?_
          refine z_if_ge (tgt := 193) C dL_minutes_186 (by decide) (rg_of (by omega) (by omega)) (fun c_4 => ?_) (fun c_4 => ?_)
          · refine z_iconst C dL_minutes_193 ?_
            refine z_isub C dL_minutes_194 rfl ?_
            refine z_iast (j := 5 * v + 4) C dL_minutes_195 hw (by omega) (by omega) (by decide) (fun μ5 hww hF6 => ?_)
            have hn := hF6.ai hn
            have hh := hF6.ai hh
            have hz := hF6.ol hz
            have hFr : Fr 3004 3008 μ μ5 := hFr.tr hF6
            have hw := hww
            refine x_aload_n C dL_minutes_196 rfl 5 rfl ?_
            refine x_iload C dL_minutes_197 0 rfl ?_
            refine z_iconst C dL_minutes_199 ?_
            refine z_iadd C dL_minutes_200 rfl ?_
            refine z_iald (j := 5 * v + 3) C dL_minutes_201 hw (by omega) (by omega) (by decide) ?_
            refine x_stk (stk' := [.int (zI (Wj (5 * v + 3)))]) (by (rw [wr_ne (by omega)])) ?_
            refine z_if_lt (tgt := 289) C dL_minutes_202 (by decide) (rg_of (by omega) (by omega)) (fun c_7 => ?_) (fun c_7 => ?_)
            · refine z_iinc (lv' := [(5, .int (zI (i + 5))), (4, .int (zI many)), (0, .ref A0), (1, .ref A1), (2, .ref A2), (3, .ref A7)]) C dL_minutes_289 0 rfl rfl (by decide) rfl ?_
              refine x_goto (tgt := 13) C dL_minutes_292 (by decide) ?_
              have g1 : (wr Wj (5 * v + 4) ((Wj (5 * v + 4)) - 1)) (5 * v + 1) = Wj (5 * v + 1) := by (rw [wr_ne (by omega)])
              have g2 : (wr Wj (5 * v + 4) ((Wj (5 * v + 4)) - 1)) (5 * v + 2) = Wj (5 * v + 2) := by (rw [wr_ne (by omega)])
              have g3 : (wr Wj (5 * v + 4) ((Wj (5 * v + 4)) - 1)) (5 * v + 3) = Wj (5 * v + 3) := by (rw [wr_ne (by omega)])
              have g4 : (wr Wj (5 * v + 4) ((Wj (5 * v + 4)) - 1)) (5 * v + 4) = ((Wj (5 * v + 4)) - 1) := by (rw [wr_at])
              obtain ⟨le8, hle8⟩ : ∃ x : Int, (Wj (5 * v + 3) = -1 ∧ x = le9) ∨ (Wj (5 * v + 3) ≠ -1 ∧ x = le9 - 1) := by (by_cases q : Wj (5 * v + 3) = -1; exact ⟨_, Or.inl ⟨q, rfl⟩⟩; exact ⟨_, Or.inr ⟨q, rfl⟩⟩)
              have hwm : wm (wb (psS σ t v) (psS σ t v 13 v) (psS σ t v 14 v, psS σ t v 15 v, psS σ t v 16 v, psS σ t v 17 v)) = ((Wj (5 * v + 1), Wj (5 * v + 2), Wj (5 * v + 3), le8), 0) := by (rw [hb9]; exact wm_of (by omega))
              have hWR9 := WR_s (W := Wk) (W' := (wr Wj (5 * v + 4) ((Wj (5 * v + 4)) - 1))) (by omega) hWR hwm (fun j q1 q2 q3 q4 => by (rw [wr_ne (by omega)]; exact hWj j q1 q2 q3 q4)) g1 g2 g3 (fun h => by (rw [g4]; omega))
              have hpS := pS_s (by omega) hwm
              refine x_wid (a := (0 + 2 * (v + 1))) (b := (0 + 128 * (v + 1))) (by omega) (by omega) ?_
              exact ih13 _ (by omega) _ _ _ (v + 1) _ hn hh hz hw hFr (by omega) (by omega) hWR9 (by omega) rfl
            · refine x_aload_n C dL_minutes_205 rfl 5 rfl ?_
              refine x_iload C dL_minutes_206 0 rfl ?_
              refine z_iconst C dL_minutes_208 ?_
              refine z_iadd C dL_minutes_209 rfl ?_
              refine z_iald (j := 5 * v + 4) C dL_minutes_210 hw (by omega) (by omega) (by decide) ?_
              refine x_stk (stk' := [.int (zI ((Wj (5 * v + 4)) - 1))]) (by (rw [wr_at])) ?_
              refine z_if_ne (tgt := 289) C dL_minutes_211 (by decide) (rg_of (by omega) (by omega)) (fun c_8 => ?_) (fun c_8 => ?_)
              · refine z_iinc (lv' := [(5, .int (zI (i + 5))), (4, .int (zI many)), (0, .ref A0), (1, .ref A1), (2, .ref A2), (3, .ref A7)]) C dL_minutes_289 0 rfl rfl (by decide) rfl ?_
                refine x_goto (tgt := 13) C dL_minutes_292 (by decide) ?_
                have g1 : (wr Wj (5 * v + 4) ((Wj (5 * v + 4)) - 1)) (5 * v + 1) = Wj (5 * v + 1) := by (rw [wr_ne (by omega)])
                have g2 : (wr Wj (5 * v + 4) ((Wj (5 * v + 4)) - 1)) (5 * v + 2) = Wj (5 * v + 2) := by (rw [wr_ne (by omega)])
                have g3 : (wr Wj (5 * v + 4) ((Wj (5 * v + 4)) - 1)) (5 * v + 3) = Wj (5 * v + 3) := by (rw [wr_ne (by omega)])
                have g4 : (wr Wj (5 * v + 4) ((Wj (5 * v + 4)) - 1)) (5 * v + 4) = ((Wj (5 * v + 4)) - 1) := by (rw [wr_at])
                obtain ⟨le8, hle8⟩ : ∃ x : Int, (Wj (5 * v + 3) = -1 ∧ x = le9) ∨ (Wj (5 * v + 3) ≠ -1 ∧ x = le9 - 1) := by (by_cases q : Wj (5 * v + 3) = -1; exact ⟨_, Or.inl ⟨q, rfl⟩⟩; exact ⟨_, Or.inr ⟨q, rfl⟩⟩)
                have hwm : wm (wb (psS σ t v) (psS σ t v 13 v) (psS σ t v 14 v, psS σ t v 15 v, psS σ t v 16 v, psS σ t v 17 v)) = ((Wj (5 * v + 1), Wj (5 * v + 2), Wj (5 * v + 3), le8), 0) := by (rw [hb9]; exact wm_of (by omega))
                have hWR9 := WR_s (W := Wk) (W' := (wr Wj (5 * v + 4) ((Wj (5 * v + 4)) - 1))) (by omega) hWR hwm (fun j q1 q2 q3 q4 => by (rw [wr_ne (by omega)]; exact hWj j q1 q2 q3 q4)) g1 g2 g3 (fun h => by (rw [g4]; omega))
                have hpS := pS_s (by omega) hwm
                refine x_wid (a := (0 + 2 * (v + 1))) (b := (0 + 128 * (v + 1))) (by omega) (by omega) ?_
                exact ih13 _ (by omega) _ _ _ (v + 1) _ hn hh hz hw hFr (by omega) (by omega) hWR9 (by omega) rfl
              · refine x_aload_n C dL_minutes_214 rfl 5 rfl ?_
                refine x_iload C dL_minutes_215 0 rfl ?_
                refine z_iconst C dL_minutes_217 ?_
                refine z_iadd C dL_minutes_218 rfl ?_
                refine x_aload_n C dL_minutes_219 rfl 5 rfl ?_
                refine x_iload C dL_minutes_220 0 rfl ?_
                refine z_iconst C dL_minutes_222 ?_
                refine z_iadd C dL_minutes_223 rfl ?_
                refine z_iald (j := 5 * v + 3) C dL_minutes_224 hw (by omega) (by omega) (by decide) ?_
                refine x_stk (stk' := [.int (zI (Wj (5 * v + 3))), .int (zI (i + 1)), .ref A7]) (by (rw [wr_ne (by omega)])) ?_
                refine z_iast (j := 5 * v + 1) C dL_minutes_225 hw (by omega) (by omega) (by decide) (fun μ9 hww hF10 => ?_)
                have hn := hF10.ai hn
                have hh := hF10.ai hh
                have hz := hF10.ol hz
                have hFr : Fr 3004 3008 μ μ9 := hFr.tr hF10
                have hw := hww
                refine x_aload_n C dL_minutes_226 rfl 5 rfl ?_
                refine x_iload C dL_minutes_227 0 rfl ?_
                refine z_iconst C dL_minutes_229 ?_
                refine z_iadd C dL_minutes_230 rfl ?_
                refine z_iconst C dL_minutes_231 ?_
                refine z_iast (j := 5 * v + 3) C dL_minutes_232 hw (by omega) (by omega) (by decide) (fun μ11 hww hF12 => ?_)
                have hn := hF12.ai hn
                have hh := hF12.ai hh
                have hz := hF12.ol hz
                have hFr : Fr 3004 3008 μ μ11 := hFr.tr hF12
                have hw := hww
                refine x_iload C dL_minutes_233 1 rfl ?_
                refine x_aload_n C dL_minutes_235 rfl 5 rfl ?_
                refine x_iload C dL_minutes_236 0 rfl ?_
                refine z_iconst C dL_minutes_238 ?_
                refine z_iadd C dL_minutes_239 rfl ?_
                refine z_iald (j := 5 * v + 1) C dL_minutes_240 hw (by omega) (by omega) (by decide) ?_
                refine x_stk (stk' := [.int (zI (Wj (5 * v + 3))), .int (zI many)]) (by (rw [wr_ne (by omega), wr_at])) ?_
                refine x_aload_n C dL_minutes_241 rfl 5 rfl ?_
                refine x_iload C dL_minutes_242 0 rfl ?_
                refine z_iconst C dL_minutes_244 ?_
                refine z_iadd C dL_minutes_245 rfl ?_
                refine z_iald (j := 5 * v + 2) C dL_minutes_246 hw (by omega) (by omega) (by decide) ?_
                refine x_stk (stk' := [.int (zI (Wj (5 * v + 2))), .int (zI (Wj (5 * v + 3))), .int (zI many)]) (by (rw [wr_ne (by omega), wr_ne (by omega), wr_ne (by omega)])) ?_
                refine z_icmp_ne (tgt := 254) C dL_minutes_247 (by decide) (rg_of (by omega) (by omega)) (rg_of (by omega) (by omega)) (fun c_13 => ?_) (fun c_13 => ?_)
                · refine z_iconst C dL_minutes_254 ?_
                  refine z_iadd C dL_minutes_255 rfl ?_
                  refine x_istore (lv' := [(4, .int (zI (many + 0))), (5, .int (zI i)), (0, .ref A0), (1, .ref A1), (2, .ref A2), (3, .ref A7)]) C dL_minutes_256 (by decide) rfl ?_
                  refine x_aload_n C dL_minutes_258 rfl 5 rfl ?_
                  refine x_iload C dL_minutes_259 1 rfl ?_
                  refine z_iconst C dL_minutes_261 ?_
                  refine z_iadd C dL_minutes_262 rfl ?_
                  refine x_aload_n C dL_minutes_263 rfl 5 rfl ?_
                  refine x_iload C dL_minutes_264 1 rfl ?_
                  refine z_iconst C dL_minutes_266 ?_
                  refine z_iadd C dL_minutes_267 rfl ?_
                  refine z_iald (j := 5 * v + 1) C dL_minutes_268 hw (by omega) (by omega) (by decide) ?_
                  refine x_stk (stk' := [.int (zI (Wj (5 * v + 3))), .int (zI (i + 2)), .ref A7]) (by (rw [wr_ne (by omega), wr_at])) ?_
                  refine x_aload_n C dL_minutes_269 rfl 5 rfl ?_
                  refine x_iload C dL_minutes_270 1 rfl ?_
                  refine z_iconst C dL_minutes_272 ?_
                  refine z_iadd C dL_minutes_273 rfl ?_
                  refine z_iald (j := 5 * v + 2) C dL_minutes_274 hw (by omega) (by omega) (by decide) ?_
                  refine x_stk (stk' := [.int (zI (Wj (5 * v + 2))), .int (zI (Wj (5 * v + 3))), .int (zI (i + 2)), .ref A7]) (by (rw [wr_ne (by omega), wr_ne (by omega), wr_ne (by omega)])) ?_
                  refine z_icmp_ne (tgt := 282) C dL_minutes_275 (by decide) (rg_of (by omega) (by omega)) (rg_of (by omega) (by omega)) (fun c_14 => ?_) (fun c_14 => ?_)
                  · refine x_aload_n C dL_minutes_282 rfl 5 rfl ?_
                    refine x_iload C dL_minutes_283 1 rfl ?_
                    refine z_iconst C dL_minutes_285 ?_
                    refine z_iadd C dL_minutes_286 rfl ?_
                    refine z_iald (j := 5 * v + 2) C dL_minutes_287 hw (by omega) (by omega) (by decide) ?_
                    refine x_stk (stk' := [.int (zI (Wj (5 * v + 2))), .int (zI (i + 2)), .ref A7]) (by (rw [wr_ne (by omega), wr_ne (by omega), wr_ne (by omega)])) ?_
                    refine z_iast (j := 5 * v + 2) C dL_minutes_288 hw (by omega) (by omega) (by decide) (fun μ15 hww hF16 => ?_)
                    have hn := hF16.ai hn
                    have hh := hF16.ai hh
                    have hz := hF16.ol hz
                    have hFr : Fr 3004 3008 μ μ15 := hFr.tr hF16
                    have hw := hww
                    refine z_iinc (lv' := [(5, .int (zI (i + 5))), (4, .int (zI (many + 0))), (0, .ref A0), (1, .ref A1), (2, .ref A2), (3, .ref A7)]) C dL_minutes_289 1 rfl rfl (by decide) rfl ?_
                    refine x_goto (tgt := 13) C dL_minutes_292 (by decide) ?_
                    have g1 : (wr (wr (wr (wr Wj (5 * v + 4) ((Wj (5 * v + 4)) - 1)) (5 * v + 1) (Wj (5 * v + 3))) (5 * v + 3) (-1)) (5 * v + 2) (Wj (5 * v + 2))) (5 * v + 1) = (Wj (5 * v + 3)) := by (rw [wr_ne (by omega), wr_ne (by omega), wr_at])
                    have g2 : (wr (wr (wr (wr Wj (5 * v + 4) ((Wj (5 * v + 4)) - 1)) (5 * v + 1) (Wj (5 * v + 3))) (5 * v + 3) (-1)) (5 * v + 2) (Wj (5 * v + 2))) (5 * v + 2) = (Wj (5 * v + 2)) := by (rw [wr_at])
                    have g3 : (wr (wr (wr (wr Wj (5 * v + 4) ((Wj (5 * v + 4)) - 1)) (5 * v + 1) (Wj (5 * v + 3))) (5 * v + 3) (-1)) (5 * v + 2) (Wj (5 * v + 2))) (5 * v + 3) = (-1) := by (rw [wr_ne (by omega), wr_at])
                    have g4 : (wr (wr (wr (wr Wj (5 * v + 4) ((Wj (5 * v + 4)) - 1)) (5 * v + 1) (Wj (5 * v + 3))) (5 * v + 3) (-1)) (5 * v + 2) (Wj (5 * v + 2))) (5 * v + 4) = ((Wj (5 * v + 4)) - 1) := by (rw [wr_ne (by omega), wr_ne (by omega), wr_ne (by omega), wr_at])
                    obtain ⟨le8, hle8⟩ : ∃ x : Int, (Wj (5 * v + 3) = -1 ∧ x = le9) ∨ (Wj (5 * v + 3) ≠ -1 ∧ x = le9 - 1) := by (by_cases q : Wj (5 * v + 3) = -1; exact ⟨_, Or.inl ⟨q, rfl⟩⟩; exact ⟨_, Or.inr ⟨q, rfl⟩⟩)
                    have hwm : wm (wb (psS σ t v) (psS σ t v 13 v) (psS σ t v 14 v, psS σ t v 15 v, psS σ t v 16 v, psS σ t v 17 v)) = (((Wj (5 * v + 3)), (Wj (5 * v + 2)), (-1), le8), 0) := by (rw [hb9]; exact wm_of (by omega))
                    have hWR9 := WR_s (W := Wk) (W' := (wr (wr (wr (wr Wj (5 * v + 4) ((Wj (5 * v + 4)) - 1)) (5 * v + 1) (Wj (5 * v + 3))) (5 * v + 3) (-1)) (5 * v + 2) (Wj (5 * v + 2)))) (by omega) hWR hwm (fun j q1 q2 q3 q4 => by (rw [wr_ne (by omega), wr_ne (by omega), wr_ne (by omega), wr_ne (by omega)]; exact hWj j q1 q2 q3 q4)) g1 g2 g3 (fun h => by (rw [g4]; omega))
                    have hpS := pS_s (by omega) hwm
                    refine x_wid (a := (0 + 2 * (v + 1))) (b := (0 + 128 * (v + 1))) (by omega) (by omega) ?_
                    exact ih13 _ (by omega) _ _ _ (v + 1) _ hn hh hz hw hFr (by omega) (by omega) hWR9 (by omega) rfl
                  · exfalso; omega
                · refine z_iconst C dL_minutes_250 ?_
                  refine x_goto (tgt := 255) C dL_minutes_251 (by decide) ?_
                  refine z_iadd C dL_minutes_255 rfl ?_
                  refine x_istore (lv' := [(4, .int (zI (many + 1))), (5, .int (zI i)), (0, .ref A0), (1, .ref A1), (2, .ref A2), (3, .ref A7)]) C dL_minutes_256 (by decide) rfl ?_
                  refine x_aload_n C dL_minutes_258 rfl 5 rfl ?_
                  refine x_iload C dL_minutes_259 1 rfl ?_
                  refine z_iconst C dL_minutes_261 ?_
                  refine z_iadd C dL_minutes_262 rfl ?_
                  refine x_aload_n C dL_minutes_263 rfl 5 rfl ?_
                  refine x_iload C dL_minutes_264 1 rfl ?_
                  refine z_iconst C dL_minutes_266 ?_
                  refine z_iadd C dL_minutes_267 rfl ?_
                  refine z_iald (j := 5 * v + 1) C dL_minutes_268 hw (by omega) (by omega) (by decide) ?_
                  refine x_stk (stk' := [.int (zI (Wj (5 * v + 3))), .int (zI (i + 2)), .ref A7]) (by (rw [wr_ne (by omega), wr_at])) ?_
                  refine x_aload_n C dL_minutes_269 rfl 5 rfl ?_
                  refine x_iload C dL_minutes_270 1 rfl ?_
                  refine z_iconst C dL_minutes_272 ?_
                  refine z_iadd C dL_minutes_273 rfl ?_
                  refine z_iald (j := 5 * v + 2) C dL_minutes_274 hw (by omega) (by omega) (by decide) ?_
                  refine x_stk (stk' := [.int (zI (Wj (5 * v + 2))), .int (zI (Wj (5 * v + 3))), .int (zI (i + 2)), .ref A7]) (by (rw [wr_ne (by omega), wr_ne (by omega), wr_ne (by omega)])) ?_
                  refine z_icmp_ne (tgt := 282) C dL_minutes_275 (by decide) (rg_of (by omega) (by omega)) (rg_of (by omega) (by omega)) (fun c_17 => ?_) (fun c_17 => ?_)
                  · exfalso; omega
                  · refine z_iconst C dL_minutes_278 ?_
                    refine x_goto (tgt := 288) C dL_minutes_279 (by decide) ?_
                    refine z_iast (j := 5 * v + 2) C dL_minutes_288 hw (by omega) (by omega) (by decide) (fun μ18 hww hF19 => ?_)
                    have hn := hF19.ai hn
                    have hh := hF19.ai hh
                    have hz := hF19.ol hz
                    have hFr : Fr 3004 3008 μ μ18 := hFr.tr hF19
                    have hw := hww
                    refine z_iinc (lv' := [(5, .int (zI (i + 5))), (4, .int (zI (many + 1))), (0, .ref A0), (1, .ref A1), (2, .ref A2), (3, .ref A7)]) C dL_minutes_289 1 rfl rfl (by decide) rfl ?_
                    refine x_goto (tgt := 13) C dL_minutes_292 (by decide) ?_
                    have g1 : (wr (wr (wr (wr Wj (5 * v + 4) ((Wj (5 * v + 4)) - 1)) (5 * v + 1) (Wj (5 * v + 3))) (5 * v + 3) (-1)) (5 * v + 2) (-1)) (5 * v + 1) = (Wj (5 * v + 3)) := by (rw [wr_ne (by omega), wr_ne (by omega), wr_at])
                    have g2 : (wr (wr (wr (wr Wj (5 * v + 4) ((Wj (5 * v + 4)) - 1)) (5 * v + 1) (Wj (5 * v + 3))) (5 * v + 3) (-1)) (5 * v + 2) (-1)) (5 * v + 2) = (-1) := by (rw [wr_at])
                    have g3 : (wr (wr (wr (wr Wj (5 * v + 4) ((Wj (5 * v + 4)) - 1)) (5 * v + 1) (Wj (5 * v + 3))) (5 * v + 3) (-1)) (5 * v + 2) (-1)) (5 * v + 3) = (-1) := by (rw [wr_ne (by omega), wr_at])
                    have g4 : (wr (wr (wr (wr Wj (5 * v + 4) ((Wj (5 * v + 4)) - 1)) (5 * v + 1) (Wj (5 * v + 3))) (5 * v + 3) (-1)) (5 * v + 2) (-1)) (5 * v + 4) = ((Wj (5 * v + 4)) - 1) := by (rw [wr_ne (by omega), wr_ne (by omega), wr_ne (by omega), wr_at])
                    obtain ⟨le8, hle8⟩ : ∃ x : Int, (Wj (5 * v + 3) = -1 ∧ x = le9) ∨ (Wj (5 * v + 3) ≠ -1 ∧ x = le9 - 1) := by (by_cases q : Wj (5 * v + 3) = -1; exact ⟨_, Or.inl ⟨q, rfl⟩⟩; exact ⟨_, Or.inr ⟨q, rfl⟩⟩)
                    have hwm : wm (wb (psS σ t v) (psS σ t v 13 v) (psS σ t v 14 v, psS σ t v 15 v, psS σ t v 16 v, psS σ t v 17 v)) = (((Wj (5 * v + 3)), (-1), (-1), le8), 1) := by (rw [hb9]; exact wm_of (by omega))
                    have hWR9 := WR_s (W := Wk) (W' := (wr (wr (wr (wr Wj (5 * v + 4) ((Wj (5 * v + 4)) - 1)) (5 * v + 1) (Wj (5 * v + 3))) (5 * v + 3) (-1)) (5 * v + 2) (-1))) (by omega) hWR hwm (fun j q1 q2 q3 q4 => by (rw [wr_ne (by omega), wr_ne (by omega), wr_ne (by omega), wr_ne (by omega)]; exact hWj j q1 q2 q3 q4)) g1 g2 g3 (fun h => by (rw [g4]; omega))
                    have hpS := pS_s (by omega) hwm
                    refine x_wid (a := (0 + 2 * (v + 1))) (b := (0 + 128 * (v + 1))) (by omega) (by omega) ?_
                    exact ih13 _ (by omega) _ _ _ (v + 1) _ hn hh hz hw hFr (by omega) (by omega) hWR9 (by omega) rfl
          · refine z_iconst C dL_minutes_189 ?_
            refine x_goto (tgt := 194) C dL_minutes_190 (by decide) ?_
            refine z_isub C dL_minutes_194 rfl ?_
            refine z_iast (j := 5 * v + 4) C dL_minutes_195 hw (by omega) (by omega) (by decide) (fun μ20 hww hF21 => ?_)
            have hn := hF21.ai hn
            have hh := hF21.ai hh
            have hz := hF21.ol hz
            have hFr : Fr 3004 3008 μ μ20 := hFr.tr hF21
            have hw := hww
            refine x_aload_n C dL_minutes_196 rfl 5 rfl ?_
            refine x_iload C dL_minutes_197 0 rfl ?_
            refine z_iconst C dL_minutes_199 ?_
            refine z_iadd C dL_minutes_200 rfl ?_
            refine z_iald (j := 5 * v + 3) C dL_minutes_201 hw (by omega) (by omega) (by decide) ?_
            refine x_stk (stk' := [.int (zI (Wj (5 * v + 3)))]) (by (rw [wr_ne (by omega)])) ?_
            refine z_if_lt (tgt := 289) C dL_minutes_202 (by decide) (rg_of (by omega) (by omega)) (fun c_22 => ?_) (fun c_22 => ?_)
            · refine z_iinc (lv' := [(5, .int (zI (i + 5))), (4, .int (zI many)), (0, .ref A0), (1, .ref A1), (2, .ref A2), (3, .ref A7)]) C dL_minutes_289 0 rfl rfl (by decide) rfl ?_
              refine x_goto (tgt := 13) C dL_minutes_292 (by decide) ?_
              have g1 : (wr Wj (5 * v + 4) ((Wj (5 * v + 4)) - 0)) (5 * v + 1) = Wj (5 * v + 1) := by (rw [wr_ne (by omega)])
              have g2 : (wr Wj (5 * v + 4) ((Wj (5 * v + 4)) - 0)) (5 * v + 2) = Wj (5 * v + 2) := by (rw [wr_ne (by omega)])
              have g3 : (wr Wj (5 * v + 4) ((Wj (5 * v + 4)) - 0)) (5 * v + 3) = Wj (5 * v + 3) := by (rw [wr_ne (by omega)])
              have g4 : (wr Wj (5 * v + 4) ((Wj (5 * v + 4)) - 0)) (5 * v + 4) = ((Wj (5 * v + 4)) - 0) := by (rw [wr_at])
              obtain ⟨le8, hle8⟩ : ∃ x : Int, (Wj (5 * v + 3) = -1 ∧ x = le9) ∨ (Wj (5 * v + 3) ≠ -1 ∧ x = le9 - 1) := by (by_cases q : Wj (5 * v + 3) = -1; exact ⟨_, Or.inl ⟨q, rfl⟩⟩; exact ⟨_, Or.inr ⟨q, rfl⟩⟩)
              have hwm : wm (wb (psS σ t v) (psS σ t v 13 v) (psS σ t v 14 v, psS σ t v 15 v, psS σ t v 16 v, psS σ t v 17 v)) = ((Wj (5 * v + 1), Wj (5 * v + 2), Wj (5 * v + 3), le8), 0) := by (rw [hb9]; exact wm_of (by omega))
              have hWR9 := WR_s (W := Wk) (W' := (wr Wj (5 * v + 4) ((Wj (5 * v + 4)) - 0))) (by omega) hWR hwm (fun j q1 q2 q3 q4 => by (rw [wr_ne (by omega)]; exact hWj j q1 q2 q3 q4)) g1 g2 g3 (fun h => by (rw [g4]; omega))
              have hpS := pS_s (by omega) hwm
              refine x_wid (a := (0 + 2 * (v + 1))) (b := (0 + 128 * (v + 1))) (by omega) (by omega) ?_
              exact ih13 _ (by omega) _ _ _ (v + 1) _ hn hh hz hw hFr (by omega) (by omega) hWR9 (by omega) rfl
            · refine x_aload_n C dL_minutes_205 rfl 5 rfl ?_
              refine x_iload C dL_minutes_206 0 rfl ?_
              refine z_iconst C dL_minutes_208 ?_
              refine z_iadd C dL_minutes_209 rfl ?_
              refine z_iald (j := 5 * v + 4) C dL_minutes_210 hw (by omega) (by omega) (by decide) ?_
              refine x_stk (stk' := [.int (zI ((Wj (5 * v + 4)) - 0))]) (by (rw [wr_at])) ?_
              refine z_if_ne (tgt := 289) C dL_minutes_211 (by decide) (rg_of (by omega) (by omega)) (fun c_23 => ?_) (fun c_23 => ?_)
              · refine z_iinc (lv' := [(5, .int (zI (i + 5))), (4, .int (zI many)), (0, .ref A0), (1, .ref A1), (2, .ref A2), (3, .ref A7)]) C dL_minutes_289 0 rfl rfl (by decide) rfl ?_
                refine x_goto (tgt := 13) C dL_minutes_292 (by decide) ?_
                have g1 : (wr Wj (5 * v + 4) ((Wj (5 * v + 4)) - 0)) (5 * v + 1) = Wj (5 * v + 1) := by (rw [wr_ne (by omega)])
                have g2 : (wr Wj (5 * v + 4) ((Wj (5 * v + 4)) - 0)) (5 * v + 2) = Wj (5 * v + 2) := by (rw [wr_ne (by omega)])
                have g3 : (wr Wj (5 * v + 4) ((Wj (5 * v + 4)) - 0)) (5 * v + 3) = Wj (5 * v + 3) := by (rw [wr_ne (by omega)])
                have g4 : (wr Wj (5 * v + 4) ((Wj (5 * v + 4)) - 0)) (5 * v + 4) = ((Wj (5 * v + 4)) - 0) := by (rw [wr_at])
                obtain ⟨le8, hle8⟩ : ∃ x : Int, (Wj (5 * v + 3) = -1 ∧ x = le9) ∨ (Wj (5 * v + 3) ≠ -1 ∧ x = le9 - 1) := by (by_cases q : Wj (5 * v + 3) = -1; exact ⟨_, Or.inl ⟨q, rfl⟩⟩; exact ⟨_, Or.inr ⟨q, rfl⟩⟩)
                have hwm : wm (wb (psS σ t v) (psS σ t v 13 v) (psS σ t v 14 v, psS σ t v 15 v, psS σ t v 16 v, psS σ t v 17 v)) = ((Wj (5 * v + 1), Wj (5 * v + 2), Wj (5 * v + 3), le8), 0) := by (rw [hb9]; exact wm_of (by omega))
                have hWR9 := WR_s (W := Wk) (W' := (wr Wj (5 * v + 4) ((Wj (5 * v + 4)) - 0))) (by omega) hWR hwm (fun j q1 q2 q3 q4 => by (rw [wr_ne (by omega)]; exact hWj j q1 q2 q3 q4)) g1 g2 g3 (fun h => by (rw [g4]; omega))
                have hpS := pS_s (by omega) hwm
                refine x_wid (a := (0 + 2 * (v + 1))) (b := (0 + 128 * (v + 1))) (by omega) (by omega) ?_
                exact ih13 _ (by omega) _ _ _ (v + 1) _ hn hh hz hw hFr (by omega) (by omega) hWR9 (by omega) rfl
              · refine x_aload_n C dL_minutes_214 rfl 5 rfl ?_
                refine x_iload C dL_minutes_215 0 rfl ?_
                refine z_iconst C dL_minutes_217 ?_
                refine z_iadd C dL_minutes_218 rfl ?_
                refine x_aload_n C dL_minutes_219 rfl 5 rfl ?_
                refine x_iload C dL_minutes_220 0 rfl ?_
                refine z_iconst C dL_minutes_222 ?_
                refine z_iadd C dL_minutes_223 rfl ?_
                refine z_iald (j := 5 * v + 3) C dL_minutes_224 hw (by omega) (by omega) (by decide) ?_
                refine x_stk (stk' := [.int (zI (Wj (5 * v + 3))), .int (zI (i + 1)), .ref A7]) (by (rw [wr_ne (by omega)])) ?_
                refine z_iast (j := 5 * v + 1) C dL_minutes_225 hw (by omega) (by omega) (by decide) (fun μ24 hww hF25 => ?_)
                have hn := hF25.ai hn
                have hh := hF25.ai hh
                have hz := hF25.ol hz
                have hFr : Fr 3004 3008 μ μ24 := hFr.tr hF25
                have hw := hww
                refine x_aload_n C dL_minutes_226 rfl 5 rfl ?_
                refine x_iload C dL_minutes_227 0 rfl ?_
                refine z_iconst C dL_minutes_229 ?_
                refine z_iadd C dL_minutes_230 rfl ?_
                refine z_iconst C dL_minutes_231 ?_
                refine z_iast (j := 5 * v + 3) C dL_minutes_232 hw (by omega) (by omega) (by decide) (fun μ26 hww hF27 => ?_)
                have hn := hF27.ai hn
                have hh := hF27.ai hh
                have hz := hF27.ol hz
                have hFr : Fr 3004 3008 μ μ26 := hFr.tr hF27
                have hw := hww
                refine x_iload C dL_minutes_233 1 rfl ?_
                refine x_aload_n C dL_minutes_235 rfl 5 rfl ?_
                refine x_iload C dL_minutes_236 0 rfl ?_
                refine z_iconst C dL_minutes_238 ?_
                refine z_iadd C dL_minutes_239 rfl ?_
                refine z_iald (j := 5 * v + 1) C dL_minutes_240 hw (by omega) (by omega) (by decide) ?_
                refine x_stk (stk' := [.int (zI (Wj (5 * v + 3))), .int (zI many)]) (by (rw [wr_ne (by omega), wr_at])) ?_
                refine x_aload_n C dL_minutes_241 rfl 5 rfl ?_
                refine x_iload C dL_minutes_242 0 rfl ?_
                refine z_iconst C dL_minutes_244 ?_
                refine z_iadd C dL_minutes_245 rfl ?_
                refine z_iald (j := 5 * v + 2) C dL_minutes_246 hw (by omega) (by omega) (by decide) ?_
                refine x_stk (stk' := [.int (zI (Wj (5 * v + 2))), .int (zI (Wj (5 * v + 3))), .int (zI many)]) (by (rw [wr_ne (by omega), wr_ne (by omega), wr_ne (by omega)])) ?_
                refine z_icmp_ne (tgt := 254) C dL_minutes_247 (by decide) (rg_of (by omega) (by omega)) (rg_of (by omega) (by omega)) (fun c_28 => ?_) (fun c_28 => ?_)
                · refine z_iconst C dL_minutes_254 ?_
                  refine z_iadd C dL_minutes_255 rfl ?_
                  refine x_istore (lv' := [(4, .int (zI (many + 0))), (5, .int (zI i)), (0, .ref A0), (1, .ref A1), (2, .ref A2), (3, .ref A7)]) C dL_minutes_256 (by decide) rfl ?_
                  refine x_aload_n C dL_minutes_258 rfl 5 rfl ?_
                  refine x_iload C dL_minutes_259 1 rfl ?_
                  refine z_iconst C dL_minutes_261 ?_
                  refine z_iadd C dL_minutes_262 rfl ?_
                  refine x_aload_n C dL_minutes_263 rfl 5 rfl ?_
                  refine x_iload C dL_minutes_264 1 rfl ?_
                  refine z_iconst C dL_minutes_266 ?_
                  refine z_iadd C dL_minutes_267 rfl ?_
                  refine z_iald (j := 5 * v + 1) C dL_minutes_268 hw (by omega) (by omega) (by decide) ?_
                  refine x_stk (stk' := [.int (zI (Wj (5 * v + 3))), .int (zI (i + 2)), .ref A7]) (by (rw [wr_ne (by omega), wr_at])) ?_
                  refine x_aload_n C dL_minutes_269 rfl 5 rfl ?_
                  refine x_iload C dL_minutes_270 1 rfl ?_
                  refine z_iconst C dL_minutes_272 ?_
                  refine z_iadd C dL_minutes_273 rfl ?_
                  refine z_iald (j := 5 * v + 2) C dL_minutes_274 hw (by omega) (by omega) (by decide) ?_
                  refine x_stk (stk' := [.int (zI (Wj (5 * v + 2))), .int (zI (Wj (5 * v + 3))), .int (zI (i + 2)), .ref A7]) (by (rw [wr_ne (by omega), wr_ne (by omega), wr_ne (by omega)])) ?_
                  refine z_icmp_ne (tgt := 282) C dL_minutes_275 (by decide) (rg_of (by omega) (by omega)) (rg_of (by omega) (by omega)) (fun c_29 => ?_) (fun c_29 => ?_)
                  · refine x_aload_n C dL_minutes_282 rfl 5 rfl ?_
                    refine x_iload C dL_minutes_283 1 rfl ?_
                    refine z_iconst C dL_minutes_285 ?_
                    refine z_iadd C dL_minutes_286 rfl ?_
                    refine z_iald (j := 5 * v + 2) C dL_minutes_287 hw (by omega) (by omega) (by decide) ?_
                    refine x_stk (stk' := [.int (zI (Wj (5 * v + 2))), .int (zI (i + 2)), .ref A7]) (by (rw [wr_ne (by omega), wr_ne (by omega), wr_ne (by omega)])) ?_
                    refine z_iast (j := 5 * v + 2) C dL_minutes_288 hw (by omega) (by omega) (by decide) (fun μ30 hww hF31 => ?_)
                    have hn := hF31.ai hn
                    have hh := hF31.ai hh
                    have hz := hF31.ol hz
                    have hFr : Fr 3004 3008 μ μ30 := hFr.tr hF31
                    have hw := hww
                    refine z_iinc (lv' := [(5, .int (zI (i + 5))), (4, .int (zI (many + 0))), (0, .ref A0), (1, .ref A1), (2, .ref A2), (3, .ref A7)]) C dL_minutes_289 1 rfl rfl (by decide) rfl ?_
                    refine x_goto (tgt := 13) C dL_minutes_292 (by decide) ?_
                    have g1 : (wr (wr (wr (wr Wj (5 * v + 4) ((Wj (5 * v + 4)) - 0)) (5 * v + 1) (Wj (5 * v + 3))) (5 * v + 3) (-1)) (5 * v + 2) (Wj (5 * v + 2))) (5 * v + 1) = (Wj (5 * v + 3)) := by (rw [wr_ne (by omega), wr_ne (by omega), wr_at])
                    have g2 : (wr (wr (wr (wr Wj (5 * v + 4) ((Wj (5 * v + 4)) - 0)) (5 * v + 1) (Wj (5 * v + 3))) (5 * v + 3) (-1)) (5 * v + 2) (Wj (5 * v + 2))) (5 * v + 2) = (Wj (5 * v + 2)) := by (rw [wr_at])
                    have g3 : (wr (wr (wr (wr Wj (5 * v + 4) ((Wj (5 * v + 4)) - 0)) (5 * v + 1) (Wj (5 * v + 3))) (5 * v + 3) (-1)) (5 * v + 2) (Wj (5 * v + 2))) (5 * v + 3) = (-1) := by (rw [wr_ne (by omega), wr_at])
                    have g4 : (wr (wr (wr (wr Wj (5 * v + 4) ((Wj (5 * v + 4)) - 0)) (5 * v + 1) (Wj (5 * v + 3))) (5 * v + 3) (-1)) (5 * v + 2) (Wj (5 * v + 2))) (5 * v + 4) = ((Wj (5 * v + 4)) - 0) := by (rw [wr_ne (by omega), wr_ne (by omega), wr_ne (by omega), wr_at])
                    obtain ⟨le8, hle8⟩ : ∃ x : Int, (Wj (5 * v + 3) = -1 ∧ x = le9) ∨ (Wj (5 * v + 3) ≠ -1 ∧ x = le9 - 1) := by (by_cases q : Wj (5 * v + 3) = -1; exact ⟨_, Or.inl ⟨q, rfl⟩⟩; exact ⟨_, Or.inr ⟨q, rfl⟩⟩)
                    have hwm : wm (wb (psS σ t v) (psS σ t v 13 v) (psS σ t v 14 v, psS σ t v 15 v, psS σ t v 16 v, psS σ t v 17 v)) = (((Wj (5 * v + 3)), (Wj (5 * v + 2)), (-1), le8), 0) := by (rw [hb9]; exact wm_of (by omega))
                    have hWR9 := WR_s (W := Wk) (W' := (wr (wr (wr (wr Wj (5 * v + 4) ((Wj (5 * v + 4)) - 0)) (5 * v + 1) (Wj (5 * v + 3))) (5 * v + 3) (-1)) (5 * v + 2) (Wj (5 * v + 2)))) (by omega) hWR hwm (fun j q1 q2 q3 q4 => by (rw [wr_ne (by omega), wr_ne (by omega), wr_ne (by omega), wr_ne (by omega)]; exact hWj j q1 q2 q3 q4)) g1 g2 g3 (fun h => by (rw [g4]; omega))
                    have hpS := pS_s (by omega) hwm
                    refine x_wid (a := (0 + 2 * (v + 1))) (b := (0 + 128 * (v + 1))) (by omega) (by omega) ?_
                    exact ih13 _ (by omega) _ _ _ (v + 1) _ hn hh hz hw hFr (by omega) (by omega) hWR9 (by omega) rfl
                  · exfalso; omega
                · refine z_iconst C dL_minutes_250 ?_
                  refine x_goto (tgt := 255) C dL_minutes_251 (by decide) ?_
                  refine z_iadd C dL_minutes_255 rfl ?_
                  refine x_istore (lv' := [(4, .int (zI (many + 1))), (5, .int (zI i)), (0, .ref A0), (1, .ref A1), (2, .ref A2), (3, .ref A7)]) C dL_minutes_256 (by decide) rfl ?_
                  refine x_aload_n C dL_minutes_258 rfl 5 rfl ?_
                  refine x_iload C dL_minutes_259 1 rfl ?_
                  refine z_iconst C dL_minutes_261 ?_
                  refine z_iadd C dL_minutes_262 rfl ?_
                  refine x_aload_n C dL_minutes_263 rfl 5 rfl ?_
                  refine x_iload C dL_minutes_264 1 rfl ?_
                  refine z_iconst C dL_minutes_266 ?_
                  refine z_iadd C dL_minutes_267 rfl ?_
                  refine z_iald (j := 5 * v + 1) C dL_minutes_268 hw (by omega) (by omega) (by decide) ?_
                  refine x_stk (stk' := [.int (zI (Wj (5 * v + 3))), .int (zI (i + 2)), .ref A7]) (by (rw [wr_ne (by omega), wr_at])) ?_
                  refine x_aload_n C dL_minutes_269 rfl 5 rfl ?_
                  refine x_iload C dL_minutes_270 1 rfl ?_
                  refine z_iconst C dL_minutes_272 ?_
                  refine z_iadd C dL_minutes_273 rfl ?_
                  refine z_iald (j := 5 * v + 2) C dL_minutes_274 hw (by omega) (by omega) (by decide) ?_
                  refine x_stk (stk' := [.int (zI (Wj (5 * v + 2))), .int (zI (Wj (5 * v + 3))), .int (zI (i + 2)), .ref A7]) (by (rw [wr_ne (by omega), wr_ne (by omega), wr_ne (by omega)])) ?_
                  refine z_icmp_ne (tgt := 282) C dL_minutes_275 (by decide) (rg_of (by omega) (by omega)) (rg_of (by omega) (by omega)) (fun c_32 => ?_) (fun c_32 => ?_)
                  · exfalso; omega
                  · refine z_iconst C dL_minutes_278 ?_
                    refine x_goto (tgt := 288) C dL_minutes_279 (by decide) ?_
                    refine z_iast (j := 5 * v + 2) C dL_minutes_288 hw (by omega) (by omega) (by decide) (fun μ33 hww hF34 => ?_)
                    have hn := hF34.ai hn
                    have hh := hF34.ai hh
                    have hz := hF34.ol hz
                    have hFr : Fr 3004 3008 μ μ33 := hFr.tr hF34
                    have hw := hww
                    refine z_iinc (lv' := [(5, .int (zI (i + 5))), (4, .int (zI (many + 1))), (0, .ref A0), (1, .ref A1), (2, .ref A2), (3, .ref A7)]) C dL_minutes_289 1 rfl rfl (by decide) rfl ?_
                    refine x_goto (tgt := 13) C dL_minutes_292 (by decide) ?_
                    have g1 : (wr (wr (wr (wr Wj (5 * v + 4) ((Wj (5 * v + 4)) - 0)) (5 * v + 1) (Wj (5 * v + 3))) (5 * v + 3) (-1)) (5 * v + 2) (-1)) (5 * v + 1) = (Wj (5 * v + 3)) := by (rw [wr_ne (by omega), wr_ne (by omega), wr_at])
                    have g2 : (wr (wr (wr (wr Wj (5 * v + 4) ((Wj (5 * v + 4)) - 0)) (5 * v + 1) (Wj (5 * v + 3))) (5 * v + 3) (-1)) (5 * v + 2) (-1)) (5 * v + 2) = (-1) := by (rw [wr_at])
                    have g3 : (wr (wr (wr (wr Wj (5 * v + 4) ((Wj (5 * v + 4)) - 0)) (5 * v + 1) (Wj (5 * v + 3))) (5 * v + 3) (-1)) (5 * v + 2) (-1)) (5 * v + 3) = (-1) := by (rw [wr_ne (by omega), wr_at])
                    have g4 : (wr (wr (wr (wr Wj (5 * v + 4) ((Wj (5 * v + 4)) - 0)) (5 * v + 1) (Wj (5 * v + 3))) (5 * v + 3) (-1)) (5 * v + 2) (-1)) (5 * v + 4) = ((Wj (5 * v + 4)) - 0) := by (rw [wr_ne (by omega), wr_ne (by omega), wr_ne (by omega), wr_at])
                    obtain ⟨le8, hle8⟩ : ∃ x : Int, (Wj (5 * v + 3) = -1 ∧ x = le9) ∨ (Wj (5 * v + 3) ≠ -1 ∧ x = le9 - 1) := by (by_cases q : Wj (5 * v + 3) = -1; exact ⟨_, Or.inl ⟨q, rfl⟩⟩; exact ⟨_, Or.inr ⟨q, rfl⟩⟩)
                    have hwm : wm (wb (psS σ t v) (psS σ t v 13 v) (psS σ t v 14 v, psS σ t v 15 v, psS σ t v 16 v, psS σ t v 17 v)) = (((Wj (5 * v + 3)), (-1), (-1), le8), 1) := by (rw [hb9]; exact wm_of (by omega))
                    have hWR9 := WR_s (W := Wk) (W' := (wr (wr (wr (wr Wj (5 * v + 4) ((Wj (5 * v + 4)) - 0)) (5 * v + 1) (Wj (5 * v + 3))) (5 * v + 3) (-1)) (5 * v + 2) (-1))) (by omega) hWR hwm (fun j q1 q2 q3 q4 => by (rw [wr_ne (by omega), wr_ne (by omega), wr_ne (by omega), wr_ne (by omega)]; exact hWj j q1 q2 q3 q4)) g1 g2 g3 (fun h => by (rw [g4]; omega))
                    have hpS := pS_s (by omega) hwm
                    refine x_wid (a := (0 + 2 * (v + 1))) (b := (0 + 128 * (v + 1))) (by omega) (by omega) ?_
                    exact ih13 _ (by omega) _ _ _ (v + 1) _ hn hh hz hw hFr (by omega) (by omega) hWR9 (by omega) rfl
        have hv : (v : Int) < σ 12 0 := by omega
        obtain ⟨e0, e1, e2, e3, e4⟩ := hWR v hv
        have hokv := psS_ok hI hJ (t := t) hv
        have hok := hokv
        rw [← e1, ← e2, ← e3] at hok
        obtain ⟨k1, k2, k3, k4, k5, k6⟩ := hok
        dsimp only at k1 k2 k3 k4 k5 k6
        have hpc := (tp_ok hI hJ hv t).2
        have e0 : Wk (5 * v) = σ 13 v := e0
        refine x_aload_n C dL_minutes_23 rfl 5 rfl ?_
        refine x_iload C dL_minutes_24 0 rfl ?_
        refine z_iconst C dL_minutes_26 ?_
        refine z_iadd C dL_minutes_27 rfl ?_
        refine z_iald (j := 5 * v + 3) C dL_minutes_28 hw (by omega) (by omega) (by decide) ?_
        refine z_if_ge (tgt := 173) C dL_minutes_29 (by decide) (rg_of (by omega) (by omega)) (fun c_35 => ?_) (fun c_35 => ?_)
        · refine x_wid (a := ((0 + 2 * v) + 2)) (b := ((0 + 128 * v) + 128)) (by omega) (by omega) ?_
          exact J173 _ _ (psS σ t v 17 v) hn hh hz hw hFr (by (rw [← e1, ← e2, ← e3]; rcases (show Wk (5 * v + 3) ≠ -1 ∨ Wk (5 * v + 2) = -1 by omega) with h | h; exact wb_step h; rw [h]; exact wb_rest)) ⟨k1, k2, k3, k4, k5, k6⟩ (fun h => e4 (by omega)) (fun j _ _ _ _ => rfl)
        · refine x_aload_n C dL_minutes_32 rfl 5 rfl ?_
          refine x_iload C dL_minutes_33 0 rfl ?_
          refine z_iconst C dL_minutes_35 ?_
          refine z_iadd C dL_minutes_36 rfl ?_
          refine z_iald (j := 5 * v + 2) C dL_minutes_37 hw (by omega) (by omega) (by decide) ?_
          refine z_if_lt (tgt := 173) C dL_minutes_38 (by decide) (rg_of (by omega) (by omega)) (fun c_36 => ?_) (fun c_36 => ?_)
          · refine x_wid (a := ((0 + 2 * v) + 2)) (b := ((0 + 128 * v) + 128)) (by omega) (by omega) ?_
            exact J173 _ _ (psS σ t v 17 v) hn hh hz hw hFr (by (rw [← e1, ← e2, ← e3]; rcases (show Wk (5 * v + 3) ≠ -1 ∨ Wk (5 * v + 2) = -1 by omega) with h | h; exact wb_step h; rw [h]; exact wb_rest)) ⟨k1, k2, k3, k4, k5, k6⟩ (fun h => e4 (by omega)) (fun j _ _ _ _ => rfl)
          · refine z_bipush C dL_minutes_41 (by decide) ?_
            refine z_newI (N9 := 64) (cc9 := ((0 + 2 * v) + 1)) (ss9 := ((0 + 128 * v) + 64)) C 3004 dL_minutes_43 (by decide +kernel) rfl (by decide) rfl rfl (Nat.le_trans (show _ ≤ 12 by omega) (Nat.le_of_ble_eq_true rfl)) (Nat.le_trans (show _ ≤ 768 by omega) (Nat.le_of_ble_eq_true rfl)) (fun a37 μ38 hq39 hA40 hF41 => ?_)
            have hF42 : Fr 0 0 μk μ38 := hF41 _ _
            have hn := (hF41 0 0).ai hn (Or.inr (Nat.zero_le _))
            have hh := (hF41 0 0).ai hh (Or.inr (Nat.zero_le _))
            have hz := (hF41 0 0).ol hz (Or.inr (Nat.zero_le _))
            have hw := (hF41 0 0).ai hw (Or.inr (Nat.zero_le _))
            have hFr : Fr 3004 3008 μ μ38 := hFr.tr (hF41 3004 3008)
            have hcc := hA40
            clear hA40
            refine x_astore (lv' := [(6, .ref a37), (5, .int (zI i)), (4, .int (zI many)), (0, .ref A0), (1, .ref A1), (2, .ref A2), (3, .ref A7)]) C dL_minutes_45 (by decide) rfl ?_
            refine x_aload_n C dL_minutes_47 rfl 4 rfl ?_
            refine x_aload_n C dL_minutes_48 rfl 5 rfl ?_
            refine x_aload_n C dL_minutes_49 rfl 6 rfl ?_
            refine x_iload C dL_minutes_50 1 rfl ?_
            refine z_iconst C dL_minutes_52 ?_
            refine z_iadd C dL_minutes_53 rfl ?_
            refine z_iald (j := 5 * v + 2) C dL_minutes_54 hw (by omega) (by omega) (by decide) ?_
            refine x_aload C dL_minutes_55 0 rfl ?_
            refine x_callS (n := 4) (cc9 := (((0 + 2 * v) + 1) + 1)) (ss9 := (((0 + 128 * v) + 64) + 64)) (rest := []) C dL_minutes_57 (c_L_lays (kxL E) C.st G z μ38 A1 A2 a37 3004 σ n K (Wk (5 * v + 2)) _ hI hh hz hZB hcc (by omega) (by omega)) gL_minutes_L_lays rfl (by decide +kernel) ⟨(Nat.le_of_ble_eq_true rfl), (Nat.le_of_ble_eq_true rfl)⟩ rfl rfl (Nat.le_of_ble_eq_true rfl) rfl rfl ⟨(Nat.le_trans (show _ ≤ 12 by omega) (Nat.le_of_ble_eq_true rfl)), (Nat.le_trans (show _ ≤ 768 by omega) (Nat.le_of_ble_eq_true rfl))⟩ nX_no (fun v43 μ44 hv45 => ?_)
            obtain ⟨hw49, h47⟩ := hv45
            subst hw49
            obtain ⟨⟨C9, hcc, hLD⟩, hF9⟩ := h47
            have hF50 := hF9
            have hn := hF50.ai hn
            have hh := hF50.ai hh
            have hz := hF50.ol hz
            have hw := hF50.ai hw
            have hFr : Fr 3004 3008 μ μ44 := hFr.tr hF50
            refine x_stk (stk' := []) rfl ?_
            refine x_aload_n C dL_minutes_60 rfl 6 rfl ?_
            refine x_iload C dL_minutes_61 1 rfl ?_
            refine z_iconst C dL_minutes_63 ?_
            refine z_iadd C dL_minutes_64 rfl ?_
            refine z_iald (j := 5 * v + 1) C dL_minutes_65 hw (by omega) (by omega) (by decide) ?_
            refine x_aload_n C dL_minutes_66 rfl 6 rfl ?_
            refine x_iload C dL_minutes_67 1 rfl ?_
            refine z_iconst C dL_minutes_69 ?_
            refine z_iadd C dL_minutes_70 rfl ?_
            refine z_iald (j := 5 * v + 2) C dL_minutes_71 hw (by omega) (by omega) (by decide) ?_
            refine z_icmp_ne (tgt := 79) C dL_minutes_72 (by decide) (rg_of (by omega) (by omega)) (rg_of (by omega) (by omega)) (fun c_51 => ?_) (fun c_51 => ?_)
            · refine x_aload_n C dL_minutes_79 rfl 4 rfl ?_
              refine x_aload_n C dL_minutes_80 rfl 5 rfl ?_
              refine x_aload C dL_minutes_81 0 rfl ?_
              refine x_aload_n C dL_minutes_83 rfl 6 rfl ?_
              refine x_iload C dL_minutes_84 1 rfl ?_
              refine z_iconst C dL_minutes_86 ?_
              refine z_iadd C dL_minutes_87 rfl ?_
              refine z_iald (j := 5 * v + 1) C dL_minutes_88 hw (by omega) (by omega) (by decide) ?_
              refine x_callS (n := 4) (cc9 := (((0 + 2 * v) + 1) + 1)) (ss9 := (((0 + 128 * v) + 64) + 64)) (rest := []) C dL_minutes_89 (c_L_step (kxL E) C.st G z μ44 A1 A2 a37 3004 σ n K (Wk (5 * v + 2)).toNat C9 (Wk (5 * v + 1)) hI hh hz hZB hcc hLD (by omega)) gL_minutes_L_step rfl (by decide +kernel) ⟨(Nat.le_of_ble_eq_true rfl), (Nat.le_of_ble_eq_true rfl)⟩ rfl rfl (Nat.le_of_ble_eq_true rfl) rfl rfl ⟨(Nat.le_trans (show _ ≤ 12 by omega) (Nat.le_of_ble_eq_true rfl)), (Nat.le_trans (show _ ≤ 768 by omega) (Nat.le_of_ble_eq_true rfl))⟩ nX_no (fun v52 μ53 hv54 => ?_)
              obtain ⟨r55, hw58, h56, hm57⟩ := hv54
              subst hw58
              rw [hm57]
              have hto : r55 = bb (psS σ t v 0) (psS σ t v 1) (dD (psS σ t v) (Wk (5 * v + 2)).toNat) (Wk (5 * v + 1)) 4 := h56
              have hbr : -1 ≤ r55 ∧ r55 < 64 := by (rw [h56]; exact bb_rg (by omega) 4)
              have ht9 := hI.r0 (r55).toNat
              have hp9 := hI.r0 (Wk (5 * v + 1)).toNat (by omega)
              have hi9 := iabs_c (σ 0 (Wk (5 * v + 1)).toNat - σ 0 (r55).toNat)
              refine x_stk (stk' := [.int (zI r55)]) rfl ?_
              refine x_istore (lv' := [(7, .int (zI r55)), (6, .ref a37), (5, .int (zI i)), (4, .int (zI many)), (0, .ref A0), (1, .ref A1), (2, .ref A2), (3, .ref A7)]) C dL_minutes_92 (by decide) rfl ?_
              refine x_iload C dL_minutes_94 0 rfl ?_
              refine z_if_ge (tgt := 103) C dL_minutes_96 (by decide) (rg_of (by omega) (by omega)) (fun c_59 => ?_) (fun c_59 => ?_)
              · refine x_aload_n C dL_minutes_103 rfl 5 rfl ?_
                refine x_iload C dL_minutes_104 0 rfl ?_
                refine z_iald (j := r55.toNat) C dL_minutes_106 hh (by omega) (by omega) (by decide) ?_
                refine x_aload_n C dL_minutes_107 rfl 5 rfl ?_
                refine x_aload_n C dL_minutes_108 rfl 7 rfl ?_
                refine x_iload C dL_minutes_109 2 rfl ?_
                refine z_iconst C dL_minutes_111 ?_
                refine z_iadd C dL_minutes_112 rfl ?_
                refine z_iald (j := 5 * v + 1) C dL_minutes_113 hw (by omega) (by omega) (by decide) ?_
                refine z_iald (j := (Wk (5 * v + 1)).toNat) C dL_minutes_114 hh (by omega) (by omega) (by decide) ?_
                refine z_isub C dL_minutes_115 rfl ?_
                refine x_istore (lv' := [(8, .int (zI (((σ 0) r55.toNat) - ((σ 0) ((Wk (5 * v + 1)).toNat))))), (7, .int (zI r55)), (6, .ref a37), (5, .int (zI i)), (4, .int (zI many)), (0, .ref A0), (1, .ref A1), (2, .ref A2), (3, .ref A7)]) C dL_minutes_116 (by decide) rfl ?_
                refine x_aload_n C dL_minutes_118 rfl 8 rfl ?_
                refine x_iload C dL_minutes_119 3 rfl ?_
                refine z_iconst C dL_minutes_121 ?_
                refine z_iadd C dL_minutes_122 rfl ?_
                refine x_iload C dL_minutes_123 1 rfl ?_
                refine z_if_ge (tgt := 132) C dL_minutes_125 (by decide) (rg_of (by omega) (by omega)) (fun c_60 => ?_) (fun c_60 => ?_)
                · refine x_aload_n C dL_minutes_132 rfl 8 rfl ?_
                  refine x_iload C dL_minutes_133 3 rfl ?_
                  refine z_iconst C dL_minutes_135 ?_
                  refine z_iadd C dL_minutes_136 rfl ?_
                  refine z_iald (j := 5 * v + 2) C dL_minutes_137 hw (by omega) (by omega) (by decide) ?_
                  refine z_iast (j := 5 * v + 2) C dL_minutes_138 hw (by omega) (by omega) (by decide) (fun μ61 hww hF62 => ?_)
                  have hn := hF62.ai hn
                  have hh := hF62.ai hh
                  have hz := hF62.ol hz
                  have hcc := hF62.ai hcc
                  have hFr : Fr 3004 3008 μ μ61 := hFr.tr hF62
                  have hw := hww
                  refine x_aload_n C dL_minutes_139 rfl 8 rfl ?_
                  refine x_iload C dL_minutes_140 3 rfl ?_
                  refine z_iconst C dL_minutes_142 ?_
                  refine z_iadd C dL_minutes_143 rfl ?_
                  refine x_iload C dL_minutes_144 1 rfl ?_
                  refine z_iast (j := 5 * v + 3) C dL_minutes_146 hw (by omega) (by omega) (by decide) (fun μ63 hww hF64 => ?_)
                  have hn := hF64.ai hn
                  have hh := hF64.ai hh
                  have hz := hF64.ol hz
                  have hcc := hF64.ai hcc
                  have hFr : Fr 3004 3008 μ μ63 := hFr.tr hF64
                  have hw := hww
                  refine x_aload_n C dL_minutes_147 rfl 8 rfl ?_
                  refine x_iload C dL_minutes_148 3 rfl ?_
                  refine z_iconst C dL_minutes_150 ?_
                  refine z_iadd C dL_minutes_151 rfl ?_
                  refine x_aload_n C dL_minutes_152 rfl 8 rfl ?_
                  refine x_iload C dL_minutes_153 3 rfl ?_
                  refine z_iald (j := 5 * v) C dL_minutes_155 hw (by omega) (by omega) (by decide) ?_
                  refine x_stk (stk' := [.int (zI (Wk (5 * v))), .int (zI (i + 4)), .ref A7]) (by (rw [wr_ne (by omega), wr_ne (by omega)])) ?_
                  refine z_iconst C dL_minutes_156 ?_
                  refine x_iload C dL_minutes_157 0 rfl ?_
                  refine z_if_ge (tgt := 168) C dL_minutes_159 (by decide) (rg_of (by omega) (by omega)) (fun c_65 => ?_) (fun c_65 => ?_)
                  · refine x_iload C dL_minutes_168 0 rfl ?_
                    refine z_iadd C dL_minutes_170 rfl ?_
                    refine z_imul C dL_minutes_171 rfl ?_
                    refine z_iast (j := 5 * v + 4) C dL_minutes_172 hw (by omega) (by omega) (by decide) (fun μ66 hww hF67 => ?_)
                    have hn := hF67.ai hn
                    have hh := hF67.ai hh
                    have hz := hF67.ol hz
                    have hcc := hF67.ai hcc
                    have hFr : Fr 3004 3008 μ μ66 := hFr.tr hF67
                    have hw := hww
                    refine x_wid (a := ((0 + 2 * v) + 2)) (b := ((0 + 128 * v) + 128)) (by omega) (by omega) ?_
                    refine x_sub (lv' := [(5, .int (zI i)), (4, .int (zI many)), (0, .ref A0), (1, .ref A1), (2, .ref A2), (3, .ref A7)]) [3, 4, 5, 6, 7, 8] rfl ?_
                    have hbw : wb (psS σ t v) (psS σ t v 13 v) (psS σ t v 14 v, psS σ t v 15 v, psS σ t v 16 v, psS σ t v 17 v) = (Wk (5 * v + 1), Wk (5 * v + 2), r55, ((1 + iabs (σ 0 (Wk (5 * v + 1)).toNat - σ 0 r55.toNat)) * psS σ t v 13 v)) := by (rw [← e1, ← e2, ← e3, show Wk (5 * v + 3) = -1 by omega]; exact wb_begin (σ := psS σ t v) (by omega) (dD_ok (σ := psS σ t v) (g := (Wk (5 * v + 2)).toNat) (by omega)) (Or.inr ⟨by (have hq8 := hto; omega), rfl, hto, by (rw [hto]; rfl)⟩))
                    have hok8 : W4ok (wb (psS σ t v) (psS σ t v 13 v) (psS σ t v 14 v, psS σ t v 15 v, psS σ t v 16 v, psS σ t v 17 v)) := wb_ok (σ := psS σ t v) (Iv_ps hI hJ t v) hpc hokv
                    rw [hbw] at hok8
                    have f1 : (wr (wr (wr Wk (5 * v + 2) (Wk (5 * v + 2))) (5 * v + 3) r55) (5 * v + 4) ((Wk (5 * v)) * (1 + (((σ 0) r55.toNat) - ((σ 0) ((Wk (5 * v + 1)).toNat)))))) (5 * v + 1) = Wk (5 * v + 1) := by (rw [wr_ne (by omega), wr_ne (by omega), wr_ne (by omega)])
                    have f2 : (wr (wr (wr Wk (5 * v + 2) (Wk (5 * v + 2))) (5 * v + 3) r55) (5 * v + 4) ((Wk (5 * v)) * (1 + (((σ 0) r55.toNat) - ((σ 0) ((Wk (5 * v + 1)).toNat)))))) (5 * v + 2) = (Wk (5 * v + 2)) := by (rw [wr_ne (by omega), wr_ne (by omega), wr_at])
                    have f3 : (wr (wr (wr Wk (5 * v + 2) (Wk (5 * v + 2))) (5 * v + 3) r55) (5 * v + 4) ((Wk (5 * v)) * (1 + (((σ 0) r55.toNat) - ((σ 0) ((Wk (5 * v + 1)).toNat)))))) (5 * v + 3) = r55 := by (rw [wr_ne (by omega), wr_at])
                    have f4 : (wr (wr (wr Wk (5 * v + 2) (Wk (5 * v + 2))) (5 * v + 3) r55) (5 * v + 4) ((Wk (5 * v)) * (1 + (((σ 0) r55.toNat) - ((σ 0) ((Wk (5 * v + 1)).toNat)))))) (5 * v + 4) = ((Wk (5 * v)) * (1 + (((σ 0) r55.toNat) - ((σ 0) ((Wk (5 * v + 1)).toNat))))) := by (rw [wr_at])
                    exact J173 _ _ ((1 + iabs (σ 0 (Wk (5 * v + 1)).toNat - σ 0 r55.toNat)) * psS σ t v 13 v) hn hh hz hw hFr (by (rw [f1, f2, f3]; exact hbw)) (by (rw [f1, f2, f3]; exact hok8)) (fun _ => by (rw [f4, Int.mul_comm]; congr 1; omega)) (fun j q1 q2 q3 q4 => by (rw [wr_ne q4, wr_ne q3, wr_ne q2]))
                  · refine x_iload C dL_minutes_162 0 rfl ?_
                    refine z_ineg C dL_minutes_164 ?_
                    refine x_goto (tgt := 170) C dL_minutes_165 (by decide) ?_
                    refine z_iadd C dL_minutes_170 rfl ?_
                    refine z_imul C dL_minutes_171 rfl ?_
                    refine z_iast (j := 5 * v + 4) C dL_minutes_172 hw (by omega) (by omega) (by decide) (fun μ68 hww hF69 => ?_)
                    have hn := hF69.ai hn
                    have hh := hF69.ai hh
                    have hz := hF69.ol hz
                    have hcc := hF69.ai hcc
                    have hFr : Fr 3004 3008 μ μ68 := hFr.tr hF69
                    have hw := hww
                    refine x_wid (a := ((0 + 2 * v) + 2)) (b := ((0 + 128 * v) + 128)) (by omega) (by omega) ?_
                    refine x_sub (lv' := [(5, .int (zI i)), (4, .int (zI many)), (0, .ref A0), (1, .ref A1), (2, .ref A2), (3, .ref A7)]) [3, 4, 5, 6, 7, 8] rfl ?_
                    have hbw : wb (psS σ t v) (psS σ t v 13 v) (psS σ t v 14 v, psS σ t v 15 v, psS σ t v 16 v, psS σ t v 17 v) = (Wk (5 * v + 1), Wk (5 * v + 2), r55, ((1 + iabs (σ 0 (Wk (5 * v + 1)).toNat - σ 0 r55.toNat)) * psS σ t v 13 v)) := by (rw [← e1, ← e2, ← e3, show Wk (5 * v + 3) = -1 by omega]; exact wb_begin (σ := psS σ t v) (by omega) (dD_ok (σ := psS σ t v) (g := (Wk (5 * v + 2)).toNat) (by omega)) (Or.inr ⟨by (have hq8 := hto; omega), rfl, hto, by (rw [hto]; rfl)⟩))
                    have hok8 : W4ok (wb (psS σ t v) (psS σ t v 13 v) (psS σ t v 14 v, psS σ t v 15 v, psS σ t v 16 v, psS σ t v 17 v)) := wb_ok (σ := psS σ t v) (Iv_ps hI hJ t v) hpc hokv
                    rw [hbw] at hok8
                    have f1 : (wr (wr (wr Wk (5 * v + 2) (Wk (5 * v + 2))) (5 * v + 3) r55) (5 * v + 4) ((Wk (5 * v)) * (1 + (-(((σ 0) r55.toNat) - ((σ 0) ((Wk (5 * v + 1)).toNat))))))) (5 * v + 1) = Wk (5 * v + 1) := by (rw [wr_ne (by omega), wr_ne (by omega), wr_ne (by omega)])
                    have f2 : (wr (wr (wr Wk (5 * v + 2) (Wk (5 * v + 2))) (5 * v + 3) r55) (5 * v + 4) ((Wk (5 * v)) * (1 + (-(((σ 0) r55.toNat) - ((σ 0) ((Wk (5 * v + 1)).toNat))))))) (5 * v + 2) = (Wk (5 * v + 2)) := by (rw [wr_ne (by omega), wr_ne (by omega), wr_at])
                    have f3 : (wr (wr (wr Wk (5 * v + 2) (Wk (5 * v + 2))) (5 * v + 3) r55) (5 * v + 4) ((Wk (5 * v)) * (1 + (-(((σ 0) r55.toNat) - ((σ 0) ((Wk (5 * v + 1)).toNat))))))) (5 * v + 3) = r55 := by (rw [wr_ne (by omega), wr_at])
                    have f4 : (wr (wr (wr Wk (5 * v + 2) (Wk (5 * v + 2))) (5 * v + 3) r55) (5 * v + 4) ((Wk (5 * v)) * (1 + (-(((σ 0) r55.toNat) - ((σ 0) ((Wk (5 * v + 1)).toNat))))))) (5 * v + 4) = ((Wk (5 * v)) * (1 + (-(((σ 0) r55.toNat) - ((σ 0) ((Wk (5 * v + 1)).toNat)))))) := by (rw [wr_at])
                    exact J173 _ _ ((1 + iabs (σ 0 (Wk (5 * v + 1)).toNat - σ 0 r55.toNat)) * psS σ t v 13 v) hn hh hz hw hFr (by (rw [f1, f2, f3]; exact hbw)) (by (rw [f1, f2, f3]; exact hok8)) (fun _ => by (rw [f4, Int.mul_comm]; congr 1; omega)) (fun j q1 q2 q3 q4 => by (rw [wr_ne q4, wr_ne q3, wr_ne q2]))
                · exfalso; omega
              · refine z_iconst C dL_minutes_99 ?_
                refine x_goto (tgt := 116) C dL_minutes_100 (by decide) ?_
                refine x_istore (lv' := [(8, .int (zI 0)), (7, .int (zI r55)), (6, .ref a37), (5, .int (zI i)), (4, .int (zI many)), (0, .ref A0), (1, .ref A1), (2, .ref A2), (3, .ref A7)]) C dL_minutes_116 (by decide) rfl ?_
                refine x_aload_n C dL_minutes_118 rfl 8 rfl ?_
                refine x_iload C dL_minutes_119 3 rfl ?_
                refine z_iconst C dL_minutes_121 ?_
                refine z_iadd C dL_minutes_122 rfl ?_
                refine x_iload C dL_minutes_123 1 rfl ?_
                refine z_if_ge (tgt := 132) C dL_minutes_125 (by decide) (rg_of (by omega) (by omega)) (fun c_70 => ?_) (fun c_70 => ?_)
                · exfalso; omega
                · refine z_iconst C dL_minutes_128 ?_
                  refine x_goto (tgt := 138) C dL_minutes_129 (by decide) ?_
                  refine z_iast (j := 5 * v + 2) C dL_minutes_138 hw (by omega) (by omega) (by decide) (fun μ71 hww hF72 => ?_)
                  have hn := hF72.ai hn
                  have hh := hF72.ai hh
                  have hz := hF72.ol hz
                  have hcc := hF72.ai hcc
                  have hFr : Fr 3004 3008 μ μ71 := hFr.tr hF72
                  have hw := hww
                  refine x_aload_n C dL_minutes_139 rfl 8 rfl ?_
                  refine x_iload C dL_minutes_140 3 rfl ?_
                  refine z_iconst C dL_minutes_142 ?_
                  refine z_iadd C dL_minutes_143 rfl ?_
                  refine x_iload C dL_minutes_144 1 rfl ?_
                  refine z_iast (j := 5 * v + 3) C dL_minutes_146 hw (by omega) (by omega) (by decide) (fun μ73 hww hF74 => ?_)
                  have hn := hF74.ai hn
                  have hh := hF74.ai hh
                  have hz := hF74.ol hz
                  have hcc := hF74.ai hcc
                  have hFr : Fr 3004 3008 μ μ73 := hFr.tr hF74
                  have hw := hww
                  refine x_aload_n C dL_minutes_147 rfl 8 rfl ?_
                  refine x_iload C dL_minutes_148 3 rfl ?_
                  refine z_iconst C dL_minutes_150 ?_
                  refine z_iadd C dL_minutes_151 rfl ?_
                  refine x_aload_n C dL_minutes_152 rfl 8 rfl ?_
                  refine x_iload C dL_minutes_153 3 rfl ?_
                  refine z_iald (j := 5 * v) C dL_minutes_155 hw (by omega) (by omega) (by decide) ?_
                  refine x_stk (stk' := [.int (zI (Wk (5 * v))), .int (zI (i + 4)), .ref A7]) (by (rw [wr_ne (by omega), wr_ne (by omega)])) ?_
                  refine z_iconst C dL_minutes_156 ?_
                  refine x_iload C dL_minutes_157 0 rfl ?_
                  refine z_if_ge (tgt := 168) C dL_minutes_159 (by decide) (rg_of (by omega) (by omega)) (fun c_75 => ?_) (fun c_75 => ?_)
                  · refine x_iload C dL_minutes_168 0 rfl ?_
                    refine z_iadd C dL_minutes_170 rfl ?_
                    refine z_imul C dL_minutes_171 rfl ?_
                    refine z_iast (j := 5 * v + 4) C dL_minutes_172 hw (by omega) (by omega) (by decide) (fun μ76 hww hF77 => ?_)
                    have hn := hF77.ai hn
                    have hh := hF77.ai hh
                    have hz := hF77.ol hz
                    have hcc := hF77.ai hcc
                    have hFr : Fr 3004 3008 μ μ76 := hFr.tr hF77
                    have hw := hww
                    refine x_wid (a := ((0 + 2 * v) + 2)) (b := ((0 + 128 * v) + 128)) (by omega) (by omega) ?_
                    refine x_sub (lv' := [(5, .int (zI i)), (4, .int (zI many)), (0, .ref A0), (1, .ref A1), (2, .ref A2), (3, .ref A7)]) [3, 4, 5, 6, 7, 8] rfl ?_
                    have hbw : wb (psS σ t v) (psS σ t v 13 v) (psS σ t v 14 v, psS σ t v 15 v, psS σ t v 16 v, psS σ t v 17 v) = (Wk (5 * v + 1), -1, -1, psS σ t v 17 v) := by (rw [← e1, ← e2, ← e3, show Wk (5 * v + 3) = -1 by omega]; exact wb_begin (σ := psS σ t v) (by omega) (dD_ok (σ := psS σ t v) (g := (Wk (5 * v + 2)).toNat) (by omega)) (Or.inl ⟨by (have hq8 := hto; omega), rfl, rfl, rfl⟩))
                    have hok8 : W4ok (wb (psS σ t v) (psS σ t v 13 v) (psS σ t v 14 v, psS σ t v 15 v, psS σ t v 16 v, psS σ t v 17 v)) := wb_ok (σ := psS σ t v) (Iv_ps hI hJ t v) hpc hokv
                    rw [hbw] at hok8
                    have f1 : (wr (wr (wr Wk (5 * v + 2) (-1)) (5 * v + 3) r55) (5 * v + 4) ((Wk (5 * v)) * (1 + 0))) (5 * v + 1) = Wk (5 * v + 1) := by (rw [wr_ne (by omega), wr_ne (by omega), wr_ne (by omega)])
                    have f2 : (wr (wr (wr Wk (5 * v + 2) (-1)) (5 * v + 3) r55) (5 * v + 4) ((Wk (5 * v)) * (1 + 0))) (5 * v + 2) = (-1) := by (rw [wr_ne (by omega), wr_ne (by omega), wr_at])
                    have f3 : (wr (wr (wr Wk (5 * v + 2) (-1)) (5 * v + 3) r55) (5 * v + 4) ((Wk (5 * v)) * (1 + 0))) (5 * v + 3) = r55 := by (rw [wr_ne (by omega), wr_at])
                    have f4 : (wr (wr (wr Wk (5 * v + 2) (-1)) (5 * v + 3) r55) (5 * v + 4) ((Wk (5 * v)) * (1 + 0))) (5 * v + 4) = ((Wk (5 * v)) * (1 + 0)) := by (rw [wr_at])
                    exact J173 _ _ (psS σ t v 17 v) hn hh hz hw hFr (by (rw [f1, f2, f3, show r55 = -1 by omega]; exact hbw)) (by (rw [f1, f2, f3, show r55 = -1 by omega]; exact hok8)) (fun h => by (exfalso; rw [f3] at h; omega)) (fun j q1 q2 q3 q4 => by (rw [wr_ne q4, wr_ne q3, wr_ne q2]))
                  · exfalso; omega
            · exfalso; (rcases k5 (by omega) with h | h <;> omega)
  refine x_wid (a := (0 + 2 * 0)) (b := (0 + 128 * 0)) (by omega) (by omega) ?_
  exact L13 _ _ _ _ 0 _ hn hh hz hw hFr (by omega) (by omega) hWR (by omega) rfl
