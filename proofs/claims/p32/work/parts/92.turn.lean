/-! p32: the law -/
set_option maxHeartbeats 8000000 in
set_option maxRecDepth 100000 in
theorem law_tail {E : EE} {G : GG} {z : Nat} (C : Cx E G z cL_law RL wsL_law room_1 27) {cells slots : Nat} (hcs : cells + 240 ≤ room_1.cells ∧ slots + 1600 ≤ room_1.slots) {μ : Mm} {xa bs : Nat} {A : Nat → Nat} {σ : SS} {n τ : Nat} {v : Int} (hS : LwS G z μ xa A σ n) (hn5 : n < 512) (hτ : τ < 130) (hv9 : 0 ≤ v ∧ v < 100000000) (kk : ∀ (μ' : Mm), LwS G z μ' xa A σ n → Wx E G (cells + 240) (slots + 1600) 114 [(0, .ref bs), (1, .ref xa), (2, .ref (A 0)), (3, .ref (A 1)), (4, .ref (A 2)), (5, .ref (A 3)), (6, .ref (A 4)), (7, .ref (A 5)), (8, .ref (A 6)), (9, .ref (A 7)), (10, .ref (A 8)), (11, .ref (A 9)), (12, .ref (A 10)), (13, .ref (A 11)), (14, .ref (A 12)), (15, .int (zI 1)), (16, .int (zI ((τ + 1 : Nat) : Int)))] [] μ') : Wx E G cells slots 2027 [(0, .ref bs), (1, .ref xa), (2, .ref (A 0)), (3, .ref (A 1)), (4, .ref (A 2)), (5, .ref (A 3)), (6, .ref (A 4)), (7, .ref (A 5)), (8, .ref (A 6)), (9, .ref (A 7)), (10, .ref (A 8)), (11, .ref (A 9)), (12, .ref (A 10)), (13, .ref (A 11)), (14, .ref (A 12)), (15, .int (zI 1)), (16, .int (zI (τ : Int))), (19, .int (zI v))] [] μ := by
  obtain ⟨hC, hK, hn, hh, ⟨K, hz, hZB⟩, hd, hy, hg, hu, ⟨W, hw, hWR⟩, hs, ht, he, hb, C9, hcc⟩ := hS
  have hGv := hC.gv
  have h7 := hK.1.n7
  have h12 := hK.1.n12
  have h18 := hK.1.n18
  have h23 := hK.1.n23
  refine x_iload C dL_law_2027 15 rfl ?_
  refine z_if_eq (tgt := 2075) C dL_law_2029 (by decide) (rg_of (by omega) (by omega)) (fun c_1 => ?_) (fun c_1 => ?_)
  · exfalso; omega
  · refine x_iload C dL_law_2032 16 rfl ?_
    refine z_iconst C dL_law_2034 ?_
    refine z_irem C dL_law_2035 (rg_of (by omega) (by omega)) (by omega) (rg_of (by omega) (by omega)) (by omega) rfl ?_
    refine z_iconst C dL_law_2036 ?_
    refine z_icmp_lt (tgt := 2071) C dL_law_2037 (by decide) (rg_of (by omega) (by omega)) (rg_of (by omega) (by omega)) (fun c_2 => ?_) (fun c_2 => ?_)
    · refine z_iconst C dL_law_2071 ?_
      refine x_goto (tgt := 2076) C dL_law_2072 (by decide) ?_
      refine x_istore (lv' := [(15, .int (zI 1)), (0, .ref bs), (1, .ref xa), (2, .ref (A 0)), (3, .ref (A 1)), (4, .ref (A 2)), (5, .ref (A 3)), (6, .ref (A 4)), (7, .ref (A 5)), (8, .ref (A 6)), (9, .ref (A 7)), (10, .ref (A 8)), (11, .ref (A 9)), (12, .ref (A 10)), (13, .ref (A 11)), (14, .ref (A 12)), (16, .int (zI (τ : Int))), (19, .int (zI v))]) C dL_law_2076 (by decide) rfl ?_
      refine z_iinc (lv' := [(16, .int (zI ((τ : Int) + 1))), (15, .int (zI 1)), (0, .ref bs), (1, .ref xa), (2, .ref (A 0)), (3, .ref (A 1)), (4, .ref (A 2)), (5, .ref (A 3)), (6, .ref (A 4)), (7, .ref (A 5)), (8, .ref (A 6)), (9, .ref (A 7)), (10, .ref (A 8)), (11, .ref (A 9)), (12, .ref (A 10)), (13, .ref (A 11)), (14, .ref (A 12)), (19, .int (zI v))]) C dL_law_2078 16 rfl rfl (by decide) rfl ?_
      refine x_goto (tgt := 114) C dL_law_2081 (by decide) ?_
      refine x_sub (lv' := [(0, .ref bs), (1, .ref xa), (2, .ref (A 0)), (3, .ref (A 1)), (4, .ref (A 2)), (5, .ref (A 3)), (6, .ref (A 4)), (7, .ref (A 5)), (8, .ref (A 6)), (9, .ref (A 7)), (10, .ref (A 8)), (11, .ref (A 9)), (12, .ref (A 10)), (13, .ref (A 11)), (14, .ref (A 12)), (15, .int (zI 1)), (16, .int (zI ((τ : Int) + 1)))]) [2, 3, 4, 5, 6, 7, 8, 9, 10, 11, 12, 13, 14, 15, 16, 1, 0] rfl ?_
      refine x_eq (lv' := [(0, .ref bs), (1, .ref xa), (2, .ref (A 0)), (3, .ref (A 1)), (4, .ref (A 2)), (5, .ref (A 3)), (6, .ref (A 4)), (7, .ref (A 5)), (8, .ref (A 6)), (9, .ref (A 7)), (10, .ref (A 8)), (11, .ref (A 9)), (12, .ref (A 10)), (13, .ref (A 11)), (14, .ref (A 12)), (15, .int (zI 1)), (16, .int (zI ((τ + 1 : Nat) : Int)))]) (by (rw [show (τ : Int) + 1 = ((τ + 1 : Nat) : Int) by omega])) rfl ?_
      exact x_wid (by omega) (by omega) (kk _ ⟨hC, hK, hn, hh, ⟨_, hz, hZB⟩, hd, hy, hg, hu, ⟨_, hw, hWR⟩, hs, ht, he, hb, _, hcc⟩)
    · refine x_aload_n C dL_law_2040 rfl 1 rfl ?_
      refine x_aload_n C dL_law_2041 rfl 2 rfl ?_
      refine x_aload_n C dL_law_2042 rfl 3 rfl ?_
      refine x_aload C dL_law_2043 4 rfl ?_
      refine x_aload C dL_law_2045 5 rfl ?_
      refine x_aload C dL_law_2047 6 rfl ?_
      refine x_aload C dL_law_2049 7 rfl ?_
      refine x_aload C dL_law_2051 8 rfl ?_
      refine x_aload C dL_law_2053 9 rfl ?_
      refine x_aload C dL_law_2055 10 rfl ?_
      refine x_aload C dL_law_2057 11 rfl ?_
      refine x_aload C dL_law_2059 12 rfl ?_
      refine x_aload C dL_law_2061 13 rfl ?_
      refine x_iload C dL_law_2063 17 rfl ?_
      refine x_callS (n := 14) (cc9 := (cells + 240)) (ss9 := (slots + 1600)) (rest := []) C dL_law_2065 (c_L_isWalk (kxL E) C.st G z μ xa A σ n K W v hC hK hn5 hn hh hz hd hy hg hu hw hs ht he hb hZB hWR (by omega)) gL_law_L_isWalk rfl (by decide +kernel) ⟨(Nat.le_of_ble_eq_true rfl), (Nat.le_of_ble_eq_true rfl)⟩ rfl rfl (Nat.le_of_ble_eq_true rfl) rfl rfl ⟨(by omega), (by omega)⟩ nX_no (fun v3 μ4 hv5 => ?_)
      obtain ⟨r6, hw9, h7⟩ := hv5
      subst hw9
      obtain ⟨⟨hr9, hC⟩, hF9⟩ := h7
      have hF10 := hF9
      have hn := hF10.ai hn
      have hh := hF10.ai hh
      have hz := hF10.ol hz
      have hd := hF10.ai hd
      have hy := hF10.ai hy
      have hg := hF10.ai hg
      have hu := hF10.ai hu
      have hw := hF10.ai hw
      have hs := hF10.ai hs
      have ht := hF10.ai ht
      have he := hF10.ai he
      have hb := hF10.ai hb
      have hcc := hF10.ai hcc
      refine x_stk (stk' := [.int (zI r6)]) rfl ?_
      refine x_stk (stk' := [.int (zI 1)]) (by rw [hr9]) ?_
      refine z_if_eq (tgt := 2075) C dL_law_2068 (by decide) (rg_of (by omega) (by omega)) (fun c_11 => ?_) (fun c_11 => ?_)
      · exfalso; omega
      · refine z_iconst C dL_law_2071 ?_
        refine x_goto (tgt := 2076) C dL_law_2072 (by decide) ?_
        refine x_istore (lv' := [(15, .int (zI 1)), (0, .ref bs), (1, .ref xa), (2, .ref (A 0)), (3, .ref (A 1)), (4, .ref (A 2)), (5, .ref (A 3)), (6, .ref (A 4)), (7, .ref (A 5)), (8, .ref (A 6)), (9, .ref (A 7)), (10, .ref (A 8)), (11, .ref (A 9)), (12, .ref (A 10)), (13, .ref (A 11)), (14, .ref (A 12)), (16, .int (zI (τ : Int))), (19, .int (zI v))]) C dL_law_2076 (by decide) rfl ?_
        refine z_iinc (lv' := [(16, .int (zI ((τ : Int) + 1))), (15, .int (zI 1)), (0, .ref bs), (1, .ref xa), (2, .ref (A 0)), (3, .ref (A 1)), (4, .ref (A 2)), (5, .ref (A 3)), (6, .ref (A 4)), (7, .ref (A 5)), (8, .ref (A 6)), (9, .ref (A 7)), (10, .ref (A 8)), (11, .ref (A 9)), (12, .ref (A 10)), (13, .ref (A 11)), (14, .ref (A 12)), (19, .int (zI v))]) C dL_law_2078 16 rfl rfl (by decide) rfl ?_
        refine x_goto (tgt := 114) C dL_law_2081 (by decide) ?_
        refine x_sub (lv' := [(0, .ref bs), (1, .ref xa), (2, .ref (A 0)), (3, .ref (A 1)), (4, .ref (A 2)), (5, .ref (A 3)), (6, .ref (A 4)), (7, .ref (A 5)), (8, .ref (A 6)), (9, .ref (A 7)), (10, .ref (A 8)), (11, .ref (A 9)), (12, .ref (A 10)), (13, .ref (A 11)), (14, .ref (A 12)), (15, .int (zI 1)), (16, .int (zI ((τ : Int) + 1)))]) [2, 3, 4, 5, 6, 7, 8, 9, 10, 11, 12, 13, 14, 15, 16, 1, 0] rfl ?_
        refine x_eq (lv' := [(0, .ref bs), (1, .ref xa), (2, .ref (A 0)), (3, .ref (A 1)), (4, .ref (A 2)), (5, .ref (A 3)), (6, .ref (A 4)), (7, .ref (A 5)), (8, .ref (A 6)), (9, .ref (A 7)), (10, .ref (A 8)), (11, .ref (A 9)), (12, .ref (A 10)), (13, .ref (A 11)), (14, .ref (A 12)), (15, .int (zI 1)), (16, .int (zI ((τ + 1 : Nat) : Int)))]) (by (rw [show (τ : Int) + 1 = ((τ + 1 : Nat) : Int) by omega])) rfl ?_
        exact x_wid (by omega) (by omega) (kk _ ⟨hC, hK, hn, hh, ⟨_, hz, hZB⟩, hd, hy, hg, hu, ⟨_, hw, hWR⟩, hs, ht, he, hb, _, hcc⟩)
set_option maxHeartbeats 8000000 in
set_option maxRecDepth 100000 in
theorem law_turn {E : EE} {G : GG} {z : Nat} (C : Cx E G z cL_law RL wsL_law room_1 27) {cells slots : Nat} {bs L : Nat} {xs : Nat → Int32} (hX : Sc E bs L xs) (hcs : cells + 1040 ≤ room_1.cells ∧ slots + 48600 ≤ room_1.slots) {μ : Mm} {xa : Nat} {A : Nat → Nat} {σ : SS} {τ : Nat} (hS : LwS G z μ xa A σ τ) (hτ : τ < 130) (kk : ∀ (μ' : Mm) (σ' : SS), LwS G z μ' xa A σ' (τ + 1) → Wx E G (cells + 1040) (slots + 48600) 114 [(0, .ref bs), (1, .ref xa), (2, .ref (A 0)), (3, .ref (A 1)), (4, .ref (A 2)), (5, .ref (A 3)), (6, .ref (A 4)), (7, .ref (A 5)), (8, .ref (A 6)), (9, .ref (A 7)), (10, .ref (A 8)), (11, .ref (A 9)), (12, .ref (A 10)), (13, .ref (A 11)), (14, .ref (A 12)), (15, .int (zI 1)), (16, .int (zI ((τ + 1 : Nat) : Int)))] [] μ') : Wx E G cells slots 114 [(0, .ref bs), (1, .ref xa), (2, .ref (A 0)), (3, .ref (A 1)), (4, .ref (A 2)), (5, .ref (A 3)), (6, .ref (A 4)), (7, .ref (A 5)), (8, .ref (A 6)), (9, .ref (A 7)), (10, .ref (A 8)), (11, .ref (A 9)), (12, .ref (A 10)), (13, .ref (A 11)), (14, .ref (A 12)), (15, .int (zI 1)), (16, .int (zI (τ : Int)))] [] μ := by
  have hS0 := hS
  obtain ⟨hC, hK, hn, hh, ⟨K, hz, hZB⟩, hd, hy, hg, hu, ⟨W, hw, hWR⟩, hs, ht, he, hb, C9, hcc⟩ := hS
  have hGv := hC.gv
  have h7 := hK.1.n7
  have h12 := hK.1.n12
  have h18 := hK.1.n18
  have h23 := hK.1.n23
  have hL4 := hX.2.2.2
  refine x_iload C dL_law_114 16 rfl ?_
  refine z_sipush C dL_law_116 (by decide) ?_
  refine z_icmp_ge (tgt := 2084) C dL_law_119 (by decide) (rg_of (by omega) (by omega)) (rg_of (by omega) (by omega)) (fun c_1 => ?_) (fun c_1 => ?_)
  · exfalso; omega
  · refine x_iload C dL_law_122 15 rfl ?_
    refine z_if_eq (tgt := 2084) C dL_law_124 (by decide) (rg_of (by omega) (by omega)) (fun c_2 => ?_) (fun c_2 => ?_)
    · exfalso; omega
    · have J165 : ∀ (f9 : Int) (hf9 : 0 ≤ f9 ∧ f9 < 2147483648), Wx E G cells slots 165 [(0, .ref bs), (1, .ref xa), (2, .ref (A 0)), (3, .ref (A 1)), (4, .ref (A 2)), (5, .ref (A 3)), (6, .ref (A 4)), (7, .ref (A 5)), (8, .ref (A 6)), (9, .ref (A 7)), (10, .ref (A 8)), (11, .ref (A 9)), (12, .ref (A 10)), (13, .ref (A 11)), (14, .ref (A 12)), (15, .int (zI 1)), (16, .int (zI (τ : Int)))] [.int (zI f9)] μ := by
        intro f9 hf9
        refine x_istore (lv' := [(17, .int (zI f9)), (0, .ref bs), (1, .ref xa), (2, .ref (A 0)), (3, .ref (A 1)), (4, .ref (A 2)), (5, .ref (A 3)), (6, .ref (A 4)), (7, .ref (A 5)), (8, .ref (A 6)), (9, .ref (A 7)), (10, .ref (A 8)), (11, .ref (A 9)), (12, .ref (A 10)), (13, .ref (A 11)), (14, .ref (A 12)), (15, .int (zI 1)), (16, .int (zI (τ : Int)))]) C dL_law_165 (by decide) rfl ?_
        have J183 : ∀ (kd : Int) (hkd : 0 ≤ kd ∧ kd < 28), Wx E G cells slots 183 [(17, .int (zI f9)), (0, .ref bs), (1, .ref xa), (2, .ref (A 0)), (3, .ref (A 1)), (4, .ref (A 2)), (5, .ref (A 3)), (6, .ref (A 4)), (7, .ref (A 5)), (8, .ref (A 6)), (9, .ref (A 7)), (10, .ref (A 8)), (11, .ref (A 9)), (12, .ref (A 10)), (13, .ref (A 11)), (14, .ref (A 12)), (15, .int (zI 1)), (16, .int (zI (τ : Int)))] [.int (zI kd)] μ := by
          intro kd hkd
          refine x_istore (lv' := [(18, .int (zI kd)), (17, .int (zI f9)), (0, .ref bs), (1, .ref xa), (2, .ref (A 0)), (3, .ref (A 1)), (4, .ref (A 2)), (5, .ref (A 3)), (6, .ref (A 4)), (7, .ref (A 5)), (8, .ref (A 6)), (9, .ref (A 7)), (10, .ref (A 8)), (11, .ref (A 9)), (12, .ref (A 10)), (13, .ref (A 11)), (14, .ref (A 12)), (15, .int (zI 1)), (16, .int (zI (τ : Int)))]) C dL_law_183 (by decide) rfl ?_
          refine x_iload C dL_law_185 1 rfl ?_
          refine z_bipush C dL_law_187 (by decide) ?_
          refine z_idiv C dL_law_189 (rg_of (by omega) (by omega)) (by omega) (rg_of (by omega) (by omega)) (by omega) rfl ?_
          obtain ⟨v, hvd⟩ : ∃ v : Int, (f9 / 28) = v := ⟨_, rfl⟩
          have hv9 : 0 ≤ v ∧ v < 100000000 := by omega
          refine x_stk (stk' := [.int (zI v)]) (by rw [hvd]) ?_
          refine x_istore (lv' := [(19, .int (zI v)), (18, .int (zI kd)), (17, .int (zI f9)), (0, .ref bs), (1, .ref xa), (2, .ref (A 0)), (3, .ref (A 1)), (4, .ref (A 2)), (5, .ref (A 3)), (6, .ref (A 4)), (7, .ref (A 5)), (8, .ref (A 6)), (9, .ref (A 7)), (10, .ref (A 8)), (11, .ref (A 9)), (12, .ref (A 10)), (13, .ref (A 11)), (14, .ref (A 12)), (15, .int (zI 1)), (16, .int (zI (τ : Int)))]) C dL_law_190 (by decide) rfl ?_
          have J222 : ∀ (pl : Int) (hpl : 0 ≤ pl ∧ pl < 64), Wx E G cells slots 222 [(19, .int (zI v)), (18, .int (zI kd)), (17, .int (zI f9)), (0, .ref bs), (1, .ref xa), (2, .ref (A 0)), (3, .ref (A 1)), (4, .ref (A 2)), (5, .ref (A 3)), (6, .ref (A 4)), (7, .ref (A 5)), (8, .ref (A 6)), (9, .ref (A 7)), (10, .ref (A 8)), (11, .ref (A 9)), (12, .ref (A 10)), (13, .ref (A 11)), (14, .ref (A 12)), (15, .int (zI 1)), (16, .int (zI (τ : Int)))] [.int (zI pl)] μ := by
            intro pl hpl
            obtain ⟨p, hp0⟩ : ∃ p : Nat, pl = (p : Int) := ⟨pl.toNat, by omega⟩
            subst hp0
            refine x_istore (lv' := [(20, .int (zI (p : Int))), (19, .int (zI v)), (18, .int (zI kd)), (17, .int (zI f9)), (0, .ref bs), (1, .ref xa), (2, .ref (A 0)), (3, .ref (A 1)), (4, .ref (A 2)), (5, .ref (A 3)), (6, .ref (A 4)), (7, .ref (A 5)), (8, .ref (A 6)), (9, .ref (A 7)), (10, .ref (A 8)), (11, .ref (A 9)), (12, .ref (A 10)), (13, .ref (A 11)), (14, .ref (A 12)), (15, .int (zI 1)), (16, .int (zI (τ : Int)))]) C dL_law_222 (by decide) rfl ?_
            have J240 : ∀ (w0 : Int) (hw0 : 0 ≤ w0 ∧ ((σ 12 0 = 0 ∧ w0 = 0) ∨ w0 < σ 12 0)), Wx E G cells slots 240 [(20, .int (zI (p : Int))), (19, .int (zI v)), (18, .int (zI kd)), (17, .int (zI f9)), (0, .ref bs), (1, .ref xa), (2, .ref (A 0)), (3, .ref (A 1)), (4, .ref (A 2)), (5, .ref (A 3)), (6, .ref (A 4)), (7, .ref (A 5)), (8, .ref (A 6)), (9, .ref (A 7)), (10, .ref (A 8)), (11, .ref (A 9)), (12, .ref (A 10)), (13, .ref (A 11)), (14, .ref (A 12)), (15, .int (zI 1)), (16, .int (zI (τ : Int)))] [.int (zI w0)] μ := by
              intro w0 hw0
              obtain ⟨w, hw0⟩ : ∃ w : Nat, w0 = (w : Int) := ⟨w0.toNat, by omega⟩
              subst hw0
              have hw9 : (σ 12 0 = 0 ∧ w = 0) ∨ (w : Int) < σ 12 0 := by omega
              refine x_istore (lv' := [(21, .int (zI (w : Int))), (20, .int (zI (p : Int))), (19, .int (zI v)), (18, .int (zI kd)), (17, .int (zI f9)), (0, .ref bs), (1, .ref xa), (2, .ref (A 0)), (3, .ref (A 1)), (4, .ref (A 2)), (5, .ref (A 3)), (6, .ref (A 4)), (7, .ref (A 5)), (8, .ref (A 6)), (9, .ref (A 7)), (10, .ref (A 8)), (11, .ref (A 9)), (12, .ref (A 10)), (13, .ref (A 11)), (14, .ref (A 12)), (15, .int (zI 1)), (16, .int (zI (τ : Int)))]) C dL_law_240 (by decide) rfl ?_
              have J261 : ∀ (s0v : Int) (hs0 : 0 ≤ s0v ∧ ((σ 7 0 = 0 ∧ s0v = 0) ∨ s0v < σ 7 0)), Wx E G cells slots 261 [(21, .int (zI (w : Int))), (20, .int (zI (p : Int))), (19, .int (zI v)), (18, .int (zI kd)), (17, .int (zI f9)), (0, .ref bs), (1, .ref xa), (2, .ref (A 0)), (3, .ref (A 1)), (4, .ref (A 2)), (5, .ref (A 3)), (6, .ref (A 4)), (7, .ref (A 5)), (8, .ref (A 6)), (9, .ref (A 7)), (10, .ref (A 8)), (11, .ref (A 9)), (12, .ref (A 10)), (13, .ref (A 11)), (14, .ref (A 12)), (15, .int (zI 1)), (16, .int (zI (τ : Int)))] [.int (zI s0v)] μ := by
                intro s0v hs0
                obtain ⟨s, hs0⟩ : ∃ s : Nat, s0v = (s : Int) := ⟨s0v.toNat, by omega⟩
                subst hs0
                have hs9 : (σ 7 0 = 0 ∧ s = 0) ∨ (s : Int) < σ 7 0 := by omega
                refine x_istore (lv' := [(22, .int (zI (s : Int))), (21, .int (zI (w : Int))), (20, .int (zI (p : Int))), (19, .int (zI v)), (18, .int (zI kd)), (17, .int (zI f9)), (0, .ref bs), (1, .ref xa), (2, .ref (A 0)), (3, .ref (A 1)), (4, .ref (A 2)), (5, .ref (A 3)), (6, .ref (A 4)), (7, .ref (A 5)), (8, .ref (A 6)), (9, .ref (A 7)), (10, .ref (A 8)), (11, .ref (A 9)), (12, .ref (A 10)), (13, .ref (A 11)), (14, .ref (A 12)), (15, .int (zI 1)), (16, .int (zI (τ : Int)))]) C dL_law_261 (by decide) rfl ?_
                refine x_iload C dL_law_263 4 rfl ?_
                refine z_iconst C dL_law_265 ?_
                refine z_icmp_ge (tgt := 429) C dL_law_266 (by decide) (rg_of (by omega) (by omega)) (rg_of (by omega) (by omega)) (fun c_3 => ?_) (fun c_3 => ?_)
                · refine x_iload C dL_law_429 4 rfl ?_
                  refine z_iconst C dL_law_431 ?_
                  refine z_icmp_ne (tgt := 484) C dL_law_432 (by decide) (rg_of (by omega) (by omega)) (rg_of (by omega) (by omega)) (fun c_4 => ?_) (fun c_4 => ?_)
                  · refine x_iload C dL_law_484 4 rfl ?_
                    refine z_bipush C dL_law_486 (by decide) ?_
                    refine z_icmp_ge (tgt := 643) C dL_law_488 (by decide) (rg_of (by omega) (by omega)) (rg_of (by omega) (by omega)) (fun c_5 => ?_) (fun c_5 => ?_)
                    · refine x_iload C dL_law_643 4 rfl ?_
                      refine z_bipush C dL_law_645 (by decide) ?_
                      refine z_icmp_ne (tgt := 676) C dL_law_647 (by decide) (rg_of (by omega) (by omega)) (rg_of (by omega) (by omega)) (fun c_6 => ?_) (fun c_6 => ?_)
                      · refine x_iload C dL_law_676 4 rfl ?_
                        refine z_bipush C dL_law_678 (by decide) ?_
                        refine z_icmp_ge (tgt := 898) C dL_law_680 (by decide) (rg_of (by omega) (by omega)) (rg_of (by omega) (by omega)) (fun c_7 => ?_) (fun c_7 => ?_)
                        · refine x_iload C dL_law_898 4 rfl ?_
                          refine z_bipush C dL_law_900 (by decide) ?_
                          refine z_icmp_ne (tgt := 1046) C dL_law_902 (by decide) (rg_of (by omega) (by omega)) (rg_of (by omega) (by omega)) (fun c_8 => ?_) (fun c_8 => ?_)
                          · refine x_iload C dL_law_1046 4 rfl ?_
                            refine z_bipush C dL_law_1048 (by decide) ?_
                            refine z_icmp_ne (tgt := 1163) C dL_law_1050 (by decide) (rg_of (by omega) (by omega)) (rg_of (by omega) (by omega)) (fun c_9 => ?_) (fun c_9 => ?_)
                            · refine x_iload C dL_law_1163 4 rfl ?_
                              refine z_bipush C dL_law_1165 (by decide) ?_
                              refine z_icmp_ne (tgt := 1230) C dL_law_1167 (by decide) (rg_of (by omega) (by omega)) (rg_of (by omega) (by omega)) (fun c_10 => ?_) (fun c_10 => ?_)
                              · refine x_iload C dL_law_1230 4 rfl ?_
                                refine z_bipush C dL_law_1232 (by decide) ?_
                                refine z_icmp_ge (tgt := 1381) C dL_law_1234 (by decide) (rg_of (by omega) (by omega)) (rg_of (by omega) (by omega)) (fun c_11 => ?_) (fun c_11 => ?_)
                                · refine x_iload C dL_law_1381 4 rfl ?_
                                  refine z_bipush C dL_law_1383 (by decide) ?_
                                  refine z_icmp_ge (tgt := 1744) C dL_law_1385 (by decide) (rg_of (by omega) (by omega)) (rg_of (by omega) (by omega)) (fun c_12 => ?_) (fun c_12 => ?_)
                                  · refine x_iload C dL_law_1744 4 rfl ?_
                                    refine z_bipush C dL_law_1746 (by decide) ?_
                                    refine z_icmp_ne (tgt := 1946) C dL_law_1748 (by decide) (rg_of (by omega) (by omega)) (rg_of (by omega) (by omega)) (fun c_13 => ?_) (fun c_13 => ?_)
                                    · refine x_sub (lv' := [(0, .ref bs), (1, .ref xa), (2, .ref (A 0)), (3, .ref (A 1)), (4, .ref (A 2)), (5, .ref (A 3)), (6, .ref (A 4)), (7, .ref (A 5)), (8, .ref (A 6)), (9, .ref (A 7)), (10, .ref (A 8)), (11, .ref (A 9)), (12, .ref (A 10)), (13, .ref (A 11)), (14, .ref (A 12)), (15, .int (zI 1)), (16, .int (zI (τ : Int))), (17, .int (zI f9)), (18, .int (zI kd)), (19, .int (zI v)), (20, .int (zI (p : Int))), (21, .int (zI (w : Int))), (22, .int (zI (s : Int)))]) [6, 7, 8, 9, 10, 11, 12, 13, 14, 15, 16, 17, 18, 19, 20, 21, 22, 5, 4, 3, 2, 1, 0] rfl ?_
                                      exact law_pass C ⟨by omega, by omega⟩ hS0 (by omega) ⟨by omega, by omega⟩ (by omega) hw9 hs9 (fun μ' σ' h => law_tail C ⟨by omega, by omega⟩ h (by omega) hτ ⟨by omega, by omega⟩ (fun μ'' h2 => kk μ'' σ' h2))
                                    · refine x_sub (lv' := [(0, .ref bs), (1, .ref xa), (2, .ref (A 0)), (3, .ref (A 1)), (4, .ref (A 2)), (5, .ref (A 3)), (6, .ref (A 4)), (7, .ref (A 5)), (8, .ref (A 6)), (9, .ref (A 7)), (10, .ref (A 8)), (11, .ref (A 9)), (12, .ref (A 10)), (13, .ref (A 11)), (14, .ref (A 12)), (15, .int (zI 1)), (16, .int (zI (τ : Int))), (17, .int (zI f9)), (18, .int (zI kd)), (19, .int (zI v)), (20, .int (zI (p : Int))), (21, .int (zI (w : Int))), (22, .int (zI (s : Int)))]) [6, 7, 8, 9, 10, 11, 12, 13, 14, 15, 16, 17, 18, 19, 20, 21, 22, 5, 4, 3, 2, 1, 0] rfl ?_
                                      exact law_tell C ⟨by omega, by omega⟩ hS0 (by omega) ⟨by omega, by omega⟩ (by omega) hw9 hs9 (fun μ' σ' h => law_tail C ⟨by omega, by omega⟩ h (by omega) hτ ⟨by omega, by omega⟩ (fun μ'' h2 => kk μ'' σ' h2))
                                  · refine x_sub (lv' := [(0, .ref bs), (1, .ref xa), (2, .ref (A 0)), (3, .ref (A 1)), (4, .ref (A 2)), (5, .ref (A 3)), (6, .ref (A 4)), (7, .ref (A 5)), (8, .ref (A 6)), (9, .ref (A 7)), (10, .ref (A 8)), (11, .ref (A 9)), (12, .ref (A 10)), (13, .ref (A 11)), (14, .ref (A 12)), (15, .int (zI 1)), (16, .int (zI (τ : Int))), (17, .int (zI f9)), (18, .int (zI kd)), (19, .int (zI v)), (20, .int (zI (p : Int))), (21, .int (zI (w : Int))), (22, .int (zI (s : Int)))]) [6, 7, 8, 9, 10, 11, 12, 13, 14, 15, 16, 17, 18, 19, 20, 21, 22, 5, 4, 3, 2, 1, 0] rfl ?_
                                    exact law_answer C ⟨by omega, by omega⟩ hS0 (by omega) ⟨by omega, by omega⟩ (by omega) hw9 hs9 (fun μ' σ' h => law_tail C ⟨by omega, by omega⟩ h (by omega) hτ ⟨by omega, by omega⟩ (fun μ'' h2 => kk μ'' σ' h2))
                                · refine x_aload_n C dL_law_1237 rfl 8 rfl ?_
                                  refine z_iconst C dL_law_1238 ?_
                                  refine z_iald (j := 1) C dL_law_1239 hn (by omega) (by omega) (by decide) ?_
                                  refine x_stk (stk' := [.int (zI (σ 12 0))]) (by (rfl)) ?_
                                  refine z_if_le (tgt := 1381) C dL_law_1240 (by decide) (rg_of (by omega) (by omega)) (fun c_14 => ?_) (fun c_14 => ?_)
                                  · refine x_iload C dL_law_1381 4 rfl ?_
                                    refine z_bipush C dL_law_1383 (by decide) ?_
                                    refine z_icmp_ge (tgt := 1744) C dL_law_1385 (by decide) (rg_of (by omega) (by omega)) (rg_of (by omega) (by omega)) (fun c_15 => ?_) (fun c_15 => ?_)
                                    · refine x_iload C dL_law_1744 4 rfl ?_
                                      refine z_bipush C dL_law_1746 (by decide) ?_
                                      refine z_icmp_ne (tgt := 1946) C dL_law_1748 (by decide) (rg_of (by omega) (by omega)) (rg_of (by omega) (by omega)) (fun c_16 => ?_) (fun c_16 => ?_)
                                      · refine x_sub (lv' := [(0, .ref bs), (1, .ref xa), (2, .ref (A 0)), (3, .ref (A 1)), (4, .ref (A 2)), (5, .ref (A 3)), (6, .ref (A 4)), (7, .ref (A 5)), (8, .ref (A 6)), (9, .ref (A 7)), (10, .ref (A 8)), (11, .ref (A 9)), (12, .ref (A 10)), (13, .ref (A 11)), (14, .ref (A 12)), (15, .int (zI 1)), (16, .int (zI (τ : Int))), (17, .int (zI f9)), (18, .int (zI kd)), (19, .int (zI v)), (20, .int (zI (p : Int))), (21, .int (zI (w : Int))), (22, .int (zI (s : Int)))]) [6, 7, 8, 9, 10, 11, 12, 13, 14, 15, 16, 17, 18, 19, 20, 21, 22, 5, 4, 3, 2, 1, 0] rfl ?_
                                        exact law_pass C ⟨by omega, by omega⟩ hS0 (by omega) ⟨by omega, by omega⟩ (by omega) hw9 hs9 (fun μ' σ' h => law_tail C ⟨by omega, by omega⟩ h (by omega) hτ ⟨by omega, by omega⟩ (fun μ'' h2 => kk μ'' σ' h2))
                                      · refine x_sub (lv' := [(0, .ref bs), (1, .ref xa), (2, .ref (A 0)), (3, .ref (A 1)), (4, .ref (A 2)), (5, .ref (A 3)), (6, .ref (A 4)), (7, .ref (A 5)), (8, .ref (A 6)), (9, .ref (A 7)), (10, .ref (A 8)), (11, .ref (A 9)), (12, .ref (A 10)), (13, .ref (A 11)), (14, .ref (A 12)), (15, .int (zI 1)), (16, .int (zI (τ : Int))), (17, .int (zI f9)), (18, .int (zI kd)), (19, .int (zI v)), (20, .int (zI (p : Int))), (21, .int (zI (w : Int))), (22, .int (zI (s : Int)))]) [6, 7, 8, 9, 10, 11, 12, 13, 14, 15, 16, 17, 18, 19, 20, 21, 22, 5, 4, 3, 2, 1, 0] rfl ?_
                                        exact law_tell C ⟨by omega, by omega⟩ hS0 (by omega) ⟨by omega, by omega⟩ (by omega) hw9 hs9 (fun μ' σ' h => law_tail C ⟨by omega, by omega⟩ h (by omega) hτ ⟨by omega, by omega⟩ (fun μ'' h2 => kk μ'' σ' h2))
                                    · refine x_sub (lv' := [(0, .ref bs), (1, .ref xa), (2, .ref (A 0)), (3, .ref (A 1)), (4, .ref (A 2)), (5, .ref (A 3)), (6, .ref (A 4)), (7, .ref (A 5)), (8, .ref (A 6)), (9, .ref (A 7)), (10, .ref (A 8)), (11, .ref (A 9)), (12, .ref (A 10)), (13, .ref (A 11)), (14, .ref (A 12)), (15, .int (zI 1)), (16, .int (zI (τ : Int))), (17, .int (zI f9)), (18, .int (zI kd)), (19, .int (zI v)), (20, .int (zI (p : Int))), (21, .int (zI (w : Int))), (22, .int (zI (s : Int)))]) [6, 7, 8, 9, 10, 11, 12, 13, 14, 15, 16, 17, 18, 19, 20, 21, 22, 5, 4, 3, 2, 1, 0] rfl ?_
                                      exact law_answer C ⟨by omega, by omega⟩ hS0 (by omega) ⟨by omega, by omega⟩ (by omega) hw9 hs9 (fun μ' σ' h => law_tail C ⟨by omega, by omega⟩ h (by omega) hτ ⟨by omega, by omega⟩ (fun μ'' h2 => kk μ'' σ' h2))
                                  · refine x_sub (lv' := [(0, .ref bs), (1, .ref xa), (2, .ref (A 0)), (3, .ref (A 1)), (4, .ref (A 2)), (5, .ref (A 3)), (6, .ref (A 4)), (7, .ref (A 5)), (8, .ref (A 6)), (9, .ref (A 7)), (10, .ref (A 8)), (11, .ref (A 9)), (12, .ref (A 10)), (13, .ref (A 11)), (14, .ref (A 12)), (15, .int (zI 1)), (16, .int (zI (τ : Int))), (17, .int (zI f9)), (18, .int (zI kd)), (19, .int (zI v)), (20, .int (zI (p : Int))), (21, .int (zI (w : Int))), (22, .int (zI (s : Int)))]) [6, 7, 8, 9, 10, 11, 12, 13, 14, 15, 16, 17, 18, 19, 20, 21, 22, 5, 4, 3, 2, 1, 0] rfl ?_
                                    exact law_send C ⟨by omega, by omega⟩ hS0 (by omega) ⟨by omega, by omega⟩ (by omega) hw9 hs9 (by omega) (fun μ' σ' h => law_tail C ⟨by omega, by omega⟩ h (by omega) hτ ⟨by omega, by omega⟩ (fun μ'' h2 => kk μ'' σ' h2))
                              · refine x_sub (lv' := [(0, .ref bs), (1, .ref xa), (2, .ref (A 0)), (3, .ref (A 1)), (4, .ref (A 2)), (5, .ref (A 3)), (6, .ref (A 4)), (7, .ref (A 5)), (8, .ref (A 6)), (9, .ref (A 7)), (10, .ref (A 8)), (11, .ref (A 9)), (12, .ref (A 10)), (13, .ref (A 11)), (14, .ref (A 12)), (15, .int (zI 1)), (16, .int (zI (τ : Int))), (17, .int (zI f9)), (18, .int (zI kd)), (19, .int (zI v)), (20, .int (zI (p : Int))), (21, .int (zI (w : Int))), (22, .int (zI (s : Int)))]) [6, 7, 8, 9, 10, 11, 12, 13, 14, 15, 16, 17, 18, 19, 20, 21, 22, 5, 4, 3, 2, 1, 0] rfl ?_
                                exact law_addWarden C ⟨by omega, by omega⟩ hS0 (by omega) ⟨by omega, by omega⟩ (by omega) hw9 hs9 (fun μ' σ' h => law_tail C ⟨by omega, by omega⟩ h (by omega) hτ ⟨by omega, by omega⟩ (fun μ'' h2 => kk μ'' σ' h2))
                            · refine x_sub (lv' := [(0, .ref bs), (1, .ref xa), (2, .ref (A 0)), (3, .ref (A 1)), (4, .ref (A 2)), (5, .ref (A 3)), (6, .ref (A 4)), (7, .ref (A 5)), (8, .ref (A 6)), (9, .ref (A 7)), (10, .ref (A 8)), (11, .ref (A 9)), (12, .ref (A 10)), (13, .ref (A 11)), (14, .ref (A 12)), (15, .int (zI 1)), (16, .int (zI (τ : Int))), (17, .int (zI f9)), (18, .int (zI kd)), (19, .int (zI v)), (20, .int (zI (p : Int))), (21, .int (zI (w : Int))), (22, .int (zI (s : Int)))]) [6, 7, 8, 9, 10, 11, 12, 13, 14, 15, 16, 17, 18, 19, 20, 21, 22, 5, 4, 3, 2, 1, 0] rfl ?_
                              exact law_addWalker C ⟨by omega, by omega⟩ hS0 (by omega) ⟨by omega, by omega⟩ (by omega) hw9 hs9 (fun μ' σ' h => law_tail C ⟨by omega, by omega⟩ h (by omega) hτ ⟨by omega, by omega⟩ (fun μ'' h2 => kk μ'' σ' h2))
                          · refine x_sub (lv' := [(0, .ref bs), (1, .ref xa), (2, .ref (A 0)), (3, .ref (A 1)), (4, .ref (A 2)), (5, .ref (A 3)), (6, .ref (A 4)), (7, .ref (A 5)), (8, .ref (A 6)), (9, .ref (A 7)), (10, .ref (A 8)), (11, .ref (A 9)), (12, .ref (A 10)), (13, .ref (A 11)), (14, .ref (A 12)), (15, .int (zI 1)), (16, .int (zI (τ : Int))), (17, .int (zI f9)), (18, .int (zI kd)), (19, .int (zI v)), (20, .int (zI (p : Int))), (21, .int (zI (w : Int))), (22, .int (zI (s : Int)))]) [6, 7, 8, 9, 10, 11, 12, 13, 14, 15, 16, 17, 18, 19, 20, 21, 22, 5, 4, 3, 2, 1, 0] rfl ?_
                            exact law_spell C ⟨by omega, by omega⟩ hS0 (by omega) ⟨by omega, by omega⟩ (by omega) hw9 hs9 (fun μ' σ' h => law_tail C ⟨by omega, by omega⟩ h (by omega) hτ ⟨by omega, by omega⟩ (fun μ'' h2 => kk μ'' σ' h2))
                        · refine x_sub (lv' := [(0, .ref bs), (1, .ref xa), (2, .ref (A 0)), (3, .ref (A 1)), (4, .ref (A 2)), (5, .ref (A 3)), (6, .ref (A 4)), (7, .ref (A 5)), (8, .ref (A 6)), (9, .ref (A 7)), (10, .ref (A 8)), (11, .ref (A 9)), (12, .ref (A 10)), (13, .ref (A 11)), (14, .ref (A 12)), (15, .int (zI 1)), (16, .int (zI (τ : Int))), (17, .int (zI f9)), (18, .int (zI kd)), (19, .int (zI v)), (20, .int (zI (p : Int))), (21, .int (zI (w : Int))), (22, .int (zI (s : Int)))]) [6, 7, 8, 9, 10, 11, 12, 13, 14, 15, 16, 17, 18, 19, 20, 21, 22, 5, 4, 3, 2, 1, 0] rfl ?_
                          exact law_stage C ⟨by omega, by omega⟩ hS0 (by omega) ⟨by omega, by omega⟩ (by omega) hw9 hs9 (fun μ' σ' h => law_tail C ⟨by omega, by omega⟩ h (by omega) hτ ⟨by omega, by omega⟩ (fun μ'' h2 => kk μ'' σ' h2))
                      · refine x_sub (lv' := [(0, .ref bs), (1, .ref xa), (2, .ref (A 0)), (3, .ref (A 1)), (4, .ref (A 2)), (5, .ref (A 3)), (6, .ref (A 4)), (7, .ref (A 5)), (8, .ref (A 6)), (9, .ref (A 7)), (10, .ref (A 8)), (11, .ref (A 9)), (12, .ref (A 10)), (13, .ref (A 11)), (14, .ref (A 12)), (15, .int (zI 1)), (16, .int (zI (τ : Int))), (17, .int (zI f9)), (18, .int (zI kd)), (19, .int (zI v)), (20, .int (zI (p : Int))), (21, .int (zI (w : Int))), (22, .int (zI (s : Int)))]) [6, 7, 8, 9, 10, 11, 12, 13, 14, 15, 16, 17, 18, 19, 20, 21, 22, 5, 4, 3, 2, 1, 0] rfl ?_
                        exact law_clearDraft C ⟨by omega, by omega⟩ hS0 (by omega) ⟨by omega, by omega⟩ (by omega) hw9 hs9 (fun μ' σ' h => law_tail C ⟨by omega, by omega⟩ h (by omega) hτ ⟨by omega, by omega⟩ (fun μ'' h2 => kk μ'' σ' h2))
                    · refine x_sub (lv' := [(0, .ref bs), (1, .ref xa), (2, .ref (A 0)), (3, .ref (A 1)), (4, .ref (A 2)), (5, .ref (A 3)), (6, .ref (A 4)), (7, .ref (A 5)), (8, .ref (A 6)), (9, .ref (A 7)), (10, .ref (A 8)), (11, .ref (A 9)), (12, .ref (A 10)), (13, .ref (A 11)), (14, .ref (A 12)), (15, .int (zI 1)), (16, .int (zI (τ : Int))), (17, .int (zI f9)), (18, .int (zI kd)), (19, .int (zI v)), (20, .int (zI (p : Int))), (21, .int (zI (w : Int))), (22, .int (zI (s : Int)))]) [6, 7, 8, 9, 10, 11, 12, 13, 14, 15, 16, 17, 18, 19, 20, 21, 22, 5, 4, 3, 2, 1, 0] rfl ?_
                      exact law_hint C ⟨by omega, by omega⟩ hS0 (by omega) ⟨by omega, by omega⟩ (by omega) hw9 hs9 ⟨by omega, by omega⟩ (fun μ' σ' h => law_tail C ⟨by omega, by omega⟩ h (by omega) hτ ⟨by omega, by omega⟩ (fun μ'' h2 => kk μ'' σ' h2))
                  · refine x_sub (lv' := [(0, .ref bs), (1, .ref xa), (2, .ref (A 0)), (3, .ref (A 1)), (4, .ref (A 2)), (5, .ref (A 3)), (6, .ref (A 4)), (7, .ref (A 5)), (8, .ref (A 6)), (9, .ref (A 7)), (10, .ref (A 8)), (11, .ref (A 9)), (12, .ref (A 10)), (13, .ref (A 11)), (14, .ref (A 12)), (15, .int (zI 1)), (16, .int (zI (τ : Int))), (17, .int (zI f9)), (18, .int (zI kd)), (19, .int (zI v)), (20, .int (zI (p : Int))), (21, .int (zI (w : Int))), (22, .int (zI (s : Int)))]) [6, 7, 8, 9, 10, 11, 12, 13, 14, 15, 16, 17, 18, 19, 20, 21, 22, 5, 4, 3, 2, 1, 0] rfl ?_
                    exact law_close C ⟨by omega, by omega⟩ hS0 (by omega) ⟨by omega, by omega⟩ (by omega) hw9 hs9 (fun μ' σ' h => law_tail C ⟨by omega, by omega⟩ h (by omega) hτ ⟨by omega, by omega⟩ (fun μ'' h2 => kk μ'' σ' h2))
                · refine x_sub (lv' := [(0, .ref bs), (1, .ref xa), (2, .ref (A 0)), (3, .ref (A 1)), (4, .ref (A 2)), (5, .ref (A 3)), (6, .ref (A 4)), (7, .ref (A 5)), (8, .ref (A 6)), (9, .ref (A 7)), (10, .ref (A 8)), (11, .ref (A 9)), (12, .ref (A 10)), (13, .ref (A 11)), (14, .ref (A 12)), (15, .int (zI 1)), (16, .int (zI (τ : Int))), (17, .int (zI f9)), (18, .int (zI kd)), (19, .int (zI v)), (20, .int (zI (p : Int))), (21, .int (zI (w : Int))), (22, .int (zI (s : Int)))]) [6, 7, 8, 9, 10, 11, 12, 13, 14, 15, 16, 17, 18, 19, 20, 21, 22, 5, 4, 3, 2, 1, 0] rfl ?_
                  exact law_setHeight C ⟨by omega, by omega⟩ hS0 (by omega) ⟨by omega, by omega⟩ (by omega) hw9 hs9 (fun μ' σ' h => law_tail C ⟨by omega, by omega⟩ h (by omega) hτ ⟨by omega, by omega⟩ (fun μ'' h2 => kk μ'' σ' h2))
              refine x_aload_n C dL_law_242 rfl 7 rfl ?_
              refine z_iconst C dL_law_243 ?_
              refine z_iald (j := 0) C dL_law_244 hn (by omega) (by omega) (by decide) ?_
              refine x_stk (stk' := [.int (zI (σ 7 0))]) (by (rfl)) ?_
              refine z_if_ne (tgt := 252) C dL_law_245 (by decide) (rg_of (by omega) (by omega)) (fun c_17 => ?_) (fun c_17 => ?_)
              · refine x_iload C dL_law_252 2 rfl ?_
                refine z_bipush C dL_law_254 (by decide) ?_
                refine z_idiv C dL_law_256 (rg_of (by omega) (by omega)) (by omega) (rg_of (by omega) (by omega)) (by omega) rfl ?_
                refine x_aload_n C dL_law_257 rfl 7 rfl ?_
                refine z_iconst C dL_law_258 ?_
                refine z_iald (j := 0) C dL_law_259 hn (by omega) (by omega) (by decide) ?_
                refine x_stk (stk' := [.int (zI (σ 7 0)), .int (zI (v / 7))]) (by (rfl)) ?_
                refine z_irem C dL_law_260 (rg_of (by omega) (by omega)) (by omega) (rg_of (by omega) (by omega)) (by omega) rfl ?_
                have hem := Int.emod_lt_of_pos (v / 7) (show 0 < σ 7 0 by omega)
                have hen := Int.emod_nonneg (v / 7) (show σ 7 0 ≠ 0 by omega)
                exact J261 _ (by omega)
              · refine z_iconst C dL_law_248 ?_
                refine x_goto (tgt := 261) C dL_law_249 (by decide) ?_
                exact J261 _ (by omega)
            refine x_aload_n C dL_law_224 rfl 6 rfl ?_
            refine z_iconst C dL_law_225 ?_
            refine z_iald (j := 1) C dL_law_226 hn (by omega) (by omega) (by decide) ?_
            refine x_stk (stk' := [.int (zI (σ 12 0))]) (by (rfl)) ?_
            refine z_if_ne (tgt := 234) C dL_law_227 (by decide) (rg_of (by omega) (by omega)) (fun c_18 => ?_) (fun c_18 => ?_)
            · refine x_iload C dL_law_234 1 rfl ?_
              refine x_aload_n C dL_law_236 rfl 6 rfl ?_
              refine z_iconst C dL_law_237 ?_
              refine z_iald (j := 1) C dL_law_238 hn (by omega) (by omega) (by decide) ?_
              refine x_stk (stk' := [.int (zI (σ 12 0)), .int (zI v)]) (by (rfl)) ?_
              refine z_irem C dL_law_239 (rg_of (by omega) (by omega)) (by omega) (rg_of (by omega) (by omega)) (by omega) rfl ?_
              have hem := Int.emod_lt_of_pos (v) (show 0 < σ 12 0 by omega)
              have hen := Int.emod_nonneg (v) (show σ 12 0 ≠ 0 by omega)
              exact J240 _ (by omega)
            · refine z_iconst C dL_law_230 ?_
              refine x_goto (tgt := 240) C dL_law_231 (by decide) ?_
              exact J240 _ (by omega)
          refine x_iload C dL_law_192 0 rfl ?_
          refine z_iconst C dL_law_194 ?_
          refine z_idiv C dL_law_195 (rg_of (by omega) (by omega)) (by omega) (rg_of (by omega) (by omega)) (by omega) rfl ?_
          refine z_iconst C dL_law_196 ?_
          refine z_irem C dL_law_197 (rg_of (by omega) (by omega)) (by omega) (rg_of (by omega) (by omega)) (by omega) rfl ?_
          refine z_if_ne (tgt := 212) C dL_law_198 (by decide) (rg_of (by omega) (by omega)) (fun c_19 => ?_) (fun c_19 => ?_)
          · refine x_iload C dL_law_212 0 rfl ?_
            refine z_bipush C dL_law_214 (by decide) ?_
            refine z_idiv C dL_law_216 (rg_of (by omega) (by omega)) (by omega) (rg_of (by omega) (by omega)) (by omega) rfl ?_
            refine z_iconst C dL_law_217 ?_
            refine z_irem C dL_law_218 (rg_of (by omega) (by omega)) (by omega) (rg_of (by omega) (by omega)) (by omega) rfl ?_
            refine z_bipush C dL_law_219 (by decide) ?_
            refine z_imul C dL_law_221 rfl ?_
            exact J222 _ (by omega)
          · refine x_iload C dL_law_201 0 rfl ?_
            refine z_bipush C dL_law_203 (by decide) ?_
            refine z_idiv C dL_law_205 (rg_of (by omega) (by omega)) (by omega) (rg_of (by omega) (by omega)) (by omega) rfl ?_
            refine z_bipush C dL_law_206 (by decide) ?_
            refine z_irem C dL_law_208 (rg_of (by omega) (by omega)) (by omega) (rg_of (by omega) (by omega)) (by omega) rfl ?_
            refine x_goto (tgt := 222) C dL_law_209 (by decide) ?_
            exact J222 _ (by omega)
        refine x_iload C dL_law_167 17 rfl ?_
        refine z_iconst C dL_law_169 ?_
        refine z_icmp_ge (tgt := 178) C dL_law_170 (by decide) (rg_of (by omega) (by omega)) (rg_of (by omega) (by omega)) (fun c_20 => ?_) (fun c_20 => ?_)
        · refine x_iload C dL_law_178 0 rfl ?_
          refine z_bipush C dL_law_180 (by decide) ?_
          refine z_irem C dL_law_182 (rg_of (by omega) (by omega)) (by omega) (rg_of (by omega) (by omega)) (by omega) rfl ?_
          exact J183 _ (by omega)
        · refine z_bipush C dL_law_173 (by decide) ?_
          refine x_goto (tgt := 183) C dL_law_175 (by decide) ?_
          exact J183 _ (by omega)
      refine x_iload C dL_law_127 16 rfl ?_
      refine x_aload_n C dL_law_129 rfl 0 rfl ?_
      refine z_slen C hX dL_law_130 ?_
      refine z_icmp_ge (tgt := 144) C dL_law_131 (by decide) (rg_of (by omega) (by omega)) (rg_of (by omega) (by omega)) (fun c_21 => ?_) (fun c_21 => ?_)
      · refine z_ldc (w := (45013)) (v := (45013)) C dL_law_144 (by decide +kernel) (by decide) ?_
        refine x_iload C dL_law_146 16 rfl ?_
        refine z_imul C dL_law_148 rfl ?_
        refine x_iload C dL_law_149 16 rfl ?_
        refine z_imul C dL_law_151 rfl ?_
        refine z_sipush C dL_law_152 (by decide) ?_
        refine x_iload C dL_law_155 16 rfl ?_
        refine z_imul C dL_law_157 rfl ?_
        refine z_iadd C dL_law_158 rfl ?_
        refine z_bipush C dL_law_159 (by decide) ?_
        refine z_iadd C dL_law_161 rfl ?_
        refine z_ldc (w := (2147483647)) (v := (2147483647)) C dL_law_162 (by decide +kernel) (by decide) ?_
        obtain ⟨f8, hf8, hf8e⟩ := zI_low ((((45013 * (τ : Int)) * (τ : Int)) + (8009 * (τ : Int))) + 59)
        refine x_iand (v := zI f8) C dL_law_164 hf8e ?_
        exact J165 _ (by omega)
      · refine x_aload_n C dL_law_134 rfl 0 rfl ?_
        refine x_iload C dL_law_135 16 rfl ?_
        refine z_sld C hX τ dL_law_137 rfl (by omega) ?_
        refine z_ldc (w := (2147483647)) (v := (2147483647)) C dL_law_138 (by decide +kernel) (by decide) ?_
        obtain ⟨f8, hf8, hf8e⟩ := zI_low ((xs τ).toInt)
        refine x_iand (v := zI f8) C dL_law_140 hf8e ?_
        refine x_goto (tgt := 165) C dL_law_141 (by decide) ?_
        exact J165 _ (by omega)
set_option maxHeartbeats 8000000 in
set_option maxRecDepth 100000 in
theorem law_last {E : EE} {G : GG} {z : Nat} (C : Cx E G z cL_law RL wsL_law room_1 27) {cells slots : Nat} (hcs : cells + 240 ≤ room_1.cells ∧ slots + 1600 ≤ room_1.slots) {μ : Mm} {xa bs : Nat} {A : Nat → Nat} {σ : SS} {n τ : Nat} (hS : LwS G z μ xa A σ n) (hn5 : n < 512) (hτ : τ = 130) (kend : ∀ (lv : List (Nat × Value)) (μ' : Mm), Wx E G (cells + 240) (slots + 1600) 2125 lv [.int (zI 1)] μ') : Wx E G cells slots 114 [(0, .ref bs), (1, .ref xa), (2, .ref (A 0)), (3, .ref (A 1)), (4, .ref (A 2)), (5, .ref (A 3)), (6, .ref (A 4)), (7, .ref (A 5)), (8, .ref (A 6)), (9, .ref (A 7)), (10, .ref (A 8)), (11, .ref (A 9)), (12, .ref (A 10)), (13, .ref (A 11)), (14, .ref (A 12)), (15, .int (zI 1)), (16, .int (zI (τ : Int)))] [] μ := by
  obtain ⟨hC, hK, hn, hh, ⟨K, hz, hZB⟩, hd, hy, hg, hu, ⟨W, hw, hWR⟩, hs, ht, he, hb, C9, hcc⟩ := hS
  have hGv := hC.gv
  have h7 := hK.1.n7
  have h12 := hK.1.n12
  have h18 := hK.1.n18
  have h23 := hK.1.n23
  refine x_iload C dL_law_114 16 rfl ?_
  refine z_sipush C dL_law_116 (by decide) ?_
  refine z_icmp_ge (tgt := 2084) C dL_law_119 (by decide) (rg_of (by omega) (by omega)) (rg_of (by omega) (by omega)) (fun c_1 => ?_) (fun c_1 => ?_)
  · refine x_iload C dL_law_2084 15 rfl ?_
    refine z_if_eq (tgt := 2124) C dL_law_2086 (by decide) (rg_of (by omega) (by omega)) (fun c_2 => ?_) (fun c_2 => ?_)
    · exfalso; omega
    · refine x_aload_n C dL_law_2089 rfl 1 rfl ?_
      refine x_aload_n C dL_law_2090 rfl 2 rfl ?_
      refine x_aload_n C dL_law_2091 rfl 3 rfl ?_
      refine x_aload C dL_law_2092 4 rfl ?_
      refine x_aload C dL_law_2094 5 rfl ?_
      refine x_aload C dL_law_2096 6 rfl ?_
      refine x_aload C dL_law_2098 7 rfl ?_
      refine x_aload C dL_law_2100 8 rfl ?_
      refine x_aload C dL_law_2102 9 rfl ?_
      refine x_aload C dL_law_2104 10 rfl ?_
      refine x_aload C dL_law_2106 11 rfl ?_
      refine x_aload C dL_law_2108 12 rfl ?_
      refine x_aload C dL_law_2110 13 rfl ?_
      refine z_bipush C dL_law_2112 (by decide) ?_
      refine x_callS (n := 14) (cc9 := (cells + 240)) (ss9 := (slots + 1600)) (rest := []) C dL_law_2114 (c_L_isWalk (kxL E) C.st G z μ xa A σ n K W 9 hC hK hn5 hn hh hz hd hy hg hu hw hs ht he hb hZB hWR (by omega)) gL_law_L_isWalk rfl (by decide +kernel) ⟨(Nat.le_of_ble_eq_true rfl), (Nat.le_of_ble_eq_true rfl)⟩ rfl rfl (Nat.le_of_ble_eq_true rfl) rfl rfl ⟨(by omega), (by omega)⟩ nX_no (fun v3 μ4 hv5 => ?_)
      obtain ⟨r6, hw9, h7⟩ := hv5
      subst hw9
      obtain ⟨⟨hr9, hC⟩, hF9⟩ := h7
      have hF10 := hF9
      have hn := hF10.ai hn
      have hh := hF10.ai hh
      have hz := hF10.ol hz
      have hd := hF10.ai hd
      have hy := hF10.ai hy
      have hg := hF10.ai hg
      have hu := hF10.ai hu
      have hw := hF10.ai hw
      have hs := hF10.ai hs
      have ht := hF10.ai ht
      have he := hF10.ai he
      have hb := hF10.ai hb
      have hcc := hF10.ai hcc
      refine x_stk (stk' := [.int (zI r6)]) rfl ?_
      refine x_stk (stk' := [.int (zI 1)]) (by rw [hr9]) ?_
      refine z_if_eq (tgt := 2124) C dL_law_2117 (by decide) (rg_of (by omega) (by omega)) (fun c_11 => ?_) (fun c_11 => ?_)
      · exfalso; omega
      · refine z_iconst C dL_law_2120 ?_
        refine x_goto (tgt := 2125) C dL_law_2121 (by decide) ?_
        exact x_wid (by omega) (by omega) (kend _ _)
  · exfalso; omega
set_option maxHeartbeats 8000000 in
set_option maxRecDepth 100000 in
theorem law_first {E : EE} {G : GG} {z : Nat} (C : Cx E G z cL_law RL wsL_law room_1 27) {cells slots : Nat} (hcs : cells + 240 ≤ room_1.cells ∧ slots + 1600 ≤ room_1.slots) {μ : Mm} {xa bs : Nat} {A : Nat → Nat} {σ : SS} {n : Nat} (hS : LwS G z μ xa A σ n) (hn5 : n < 512) (kk : ∀ (μ' : Mm), LwS G z μ' xa A σ n → Wx E G (cells + 240) (slots + 1600) 114 [(0, .ref bs), (1, .ref xa), (2, .ref (A 0)), (3, .ref (A 1)), (4, .ref (A 2)), (5, .ref (A 3)), (6, .ref (A 4)), (7, .ref (A 5)), (8, .ref (A 6)), (9, .ref (A 7)), (10, .ref (A 8)), (11, .ref (A 9)), (12, .ref (A 10)), (13, .ref (A 11)), (14, .ref (A 12)), (15, .int (zI 1)), (16, .int (zI 0))] [] μ') : Wx E G cells slots 81 [(0, .ref bs), (1, .ref xa), (2, .ref (A 0)), (3, .ref (A 1)), (4, .ref (A 2)), (5, .ref (A 3)), (6, .ref (A 4)), (7, .ref (A 5)), (8, .ref (A 6)), (9, .ref (A 7)), (10, .ref (A 8)), (11, .ref (A 9)), (12, .ref (A 10)), (13, .ref (A 11)), (14, .ref (A 12))] [] μ := by
  obtain ⟨hC, hK, hn, hh, ⟨K, hz, hZB⟩, hd, hy, hg, hu, ⟨W, hw, hWR⟩, hs, ht, he, hb, C9, hcc⟩ := hS
  have hGv := hC.gv
  have h7 := hK.1.n7
  have h12 := hK.1.n12
  have h18 := hK.1.n18
  have h23 := hK.1.n23
  refine x_aload_n C dL_law_81 rfl 1 rfl ?_
  refine x_aload_n C dL_law_82 rfl 2 rfl ?_
  refine x_aload_n C dL_law_83 rfl 3 rfl ?_
  refine x_aload C dL_law_84 4 rfl ?_
  refine x_aload C dL_law_86 5 rfl ?_
  refine x_aload C dL_law_88 6 rfl ?_
  refine x_aload C dL_law_90 7 rfl ?_
  refine x_aload C dL_law_92 8 rfl ?_
  refine x_aload C dL_law_94 9 rfl ?_
  refine x_aload C dL_law_96 10 rfl ?_
  refine x_aload C dL_law_98 11 rfl ?_
  refine x_aload C dL_law_100 12 rfl ?_
  refine x_aload C dL_law_102 13 rfl ?_
  refine z_bipush C dL_law_104 (by decide) ?_
  refine x_callS (n := 14) (cc9 := (cells + 240)) (ss9 := (slots + 1600)) (rest := []) C dL_law_106 (c_L_isWalk (kxL E) C.st G z μ xa A σ n K W 70 hC hK hn5 hn hh hz hd hy hg hu hw hs ht he hb hZB hWR (by omega)) gL_law_L_isWalk rfl (by decide +kernel) ⟨(Nat.le_of_ble_eq_true rfl), (Nat.le_of_ble_eq_true rfl)⟩ rfl rfl (Nat.le_of_ble_eq_true rfl) rfl rfl ⟨(by omega), (by omega)⟩ nX_no (fun v1 μ2 hv3 => ?_)
  obtain ⟨r4, hw7, h5⟩ := hv3
  subst hw7
  obtain ⟨⟨hr9, hC⟩, hF9⟩ := h5
  have hF8 := hF9
  have hn := hF8.ai hn
  have hh := hF8.ai hh
  have hz := hF8.ol hz
  have hd := hF8.ai hd
  have hy := hF8.ai hy
  have hg := hF8.ai hg
  have hu := hF8.ai hu
  have hw := hF8.ai hw
  have hs := hF8.ai hs
  have ht := hF8.ai ht
  have he := hF8.ai he
  have hb := hF8.ai hb
  have hcc := hF8.ai hcc
  refine x_stk (stk' := [.int (zI r4)]) rfl ?_
  refine x_stk (stk' := [.int (zI 1)]) (by rw [hr9]) ?_
  refine x_istore (lv' := [(15, .int (zI 1)), (0, .ref bs), (1, .ref xa), (2, .ref (A 0)), (3, .ref (A 1)), (4, .ref (A 2)), (5, .ref (A 3)), (6, .ref (A 4)), (7, .ref (A 5)), (8, .ref (A 6)), (9, .ref (A 7)), (10, .ref (A 8)), (11, .ref (A 9)), (12, .ref (A 10)), (13, .ref (A 11)), (14, .ref (A 12))]) C dL_law_109 (by decide) rfl ?_
  refine z_iconst C dL_law_111 ?_
  refine x_istore (lv' := [(16, .int (zI 0)), (15, .int (zI 1)), (0, .ref bs), (1, .ref xa), (2, .ref (A 0)), (3, .ref (A 1)), (4, .ref (A 2)), (5, .ref (A 3)), (6, .ref (A 4)), (7, .ref (A 5)), (8, .ref (A 6)), (9, .ref (A 7)), (10, .ref (A 8)), (11, .ref (A 9)), (12, .ref (A 10)), (13, .ref (A 11)), (14, .ref (A 12))]) C dL_law_112 (by decide) rfl ?_
  refine x_sub (lv' := [(0, .ref bs), (1, .ref xa), (2, .ref (A 0)), (3, .ref (A 1)), (4, .ref (A 2)), (5, .ref (A 3)), (6, .ref (A 4)), (7, .ref (A 5)), (8, .ref (A 6)), (9, .ref (A 7)), (10, .ref (A 8)), (11, .ref (A 9)), (12, .ref (A 10)), (13, .ref (A 11)), (14, .ref (A 12)), (15, .int (zI 1)), (16, .int (zI 0))]) [2, 3, 4, 5, 6, 7, 8, 9, 10, 11, 12, 13, 14, 15, 16, 1, 0] rfl ?_
  exact x_wid (by omega) (by omega) (kk _ ⟨hC, hK, hn, hh, ⟨_, hz, hZB⟩, hd, hy, hg, hu, ⟨_, hw, hWR⟩, hs, ht, he, hb, _, hcc⟩)
