/-! p32: the law -/
set_option maxHeartbeats 8000000 in
set_option maxRecDepth 100000 in
theorem law_addWalker {E : EE} {G : GG} {z : Nat} (C : Cx E G z cL_law RL wsL_law room_1 27) {cells slots : Nat} (hcs : cells + 800 ≤ room_1.cells ∧ slots + 47000 ≤ room_1.slots) {μ : Mm} {xa bs : Nat} {A : Nat → Nat} {σ : SS} {n τ : Nat} {f9 kd v : Int} {p w s : Nat} (hS : LwS G z μ xa A σ n) (hn5 : n < 512) (hv9 : 0 ≤ v ∧ v < 100000000) (hp9 : p < 64) (hw9 : (σ 12 0 = 0 ∧ w = 0) ∨ (w : Int) < σ 12 0) (hs9 : (σ 7 0 = 0 ∧ s = 0) ∨ (s : Int) < σ 7 0) (kk : ∀ (μ' : Mm) (σ' : SS), LwS G z μ' xa A σ' (n + 1) → Wx E G (cells + 800) (slots + 47000) 2027 [(0, .ref bs), (1, .ref xa), (2, .ref (A 0)), (3, .ref (A 1)), (4, .ref (A 2)), (5, .ref (A 3)), (6, .ref (A 4)), (7, .ref (A 5)), (8, .ref (A 6)), (9, .ref (A 7)), (10, .ref (A 8)), (11, .ref (A 9)), (12, .ref (A 10)), (13, .ref (A 11)), (14, .ref (A 12)), (15, .int (zI 1)), (16, .int (zI (τ : Int))), (19, .int (zI v))] [] μ') : Wx E G cells slots 1053 [(0, .ref bs), (1, .ref xa), (2, .ref (A 0)), (3, .ref (A 1)), (4, .ref (A 2)), (5, .ref (A 3)), (6, .ref (A 4)), (7, .ref (A 5)), (8, .ref (A 6)), (9, .ref (A 7)), (10, .ref (A 8)), (11, .ref (A 9)), (12, .ref (A 10)), (13, .ref (A 11)), (14, .ref (A 12)), (15, .int (zI 1)), (16, .int (zI (τ : Int))), (17, .int (zI f9)), (18, .int (zI kd)), (19, .int (zI v)), (20, .int (zI (p : Int))), (21, .int (zI (w : Int))), (22, .int (zI (s : Int)))] [] μ := by
  obtain ⟨hC, hK, hn, hh, ⟨K, hz, hZB⟩, hd, hy, hg, hu, ⟨W, hw, hWR⟩, hs, ht, he, hb, C9, hcc⟩ := hS
  have hGv := hC.gv
  have h7 := hK.1.n7
  have h12 := hK.1.n12
  have h18 := hK.1.n18
  have h23 := hK.1.n23
  refine z_iconst C dL_law_1053 ?_
  refine x_iload C dL_law_1054 19 rfl ?_
  refine z_sipush C dL_law_1056 (by decide) ?_
  refine z_idiv C dL_law_1059 (rg_of (by omega) (by omega)) (by omega) (rg_of (by omega) (by omega)) (by omega) rfl ?_
  refine z_iconst C dL_law_1060 ?_
  refine z_irem C dL_law_1061 (rg_of (by omega) (by omega)) (by omega) (rg_of (by omega) (by omega)) (by omega) rfl ?_
  refine z_iadd C dL_law_1062 rfl ?_
  obtain ⟨c9, hc9⟩ : ∃ c9 : Int, (1 + ((v / 400) % 5)) = c9 := ⟨_, rfl⟩
  have hcr : 1 ≤ c9 ∧ c9 ≤ 5 := by omega
  refine x_stk (stk' := [.int (zI c9)]) (by rw [hc9]) ?_
  refine x_istore (lv' := [(23, .int (zI c9)), (0, .ref bs), (1, .ref xa), (2, .ref (A 0)), (3, .ref (A 1)), (4, .ref (A 2)), (5, .ref (A 3)), (6, .ref (A 4)), (7, .ref (A 5)), (8, .ref (A 6)), (9, .ref (A 7)), (10, .ref (A 8)), (11, .ref (A 9)), (12, .ref (A 10)), (13, .ref (A 11)), (14, .ref (A 12)), (15, .int (zI 1)), (16, .int (zI (τ : Int))), (17, .int (zI f9)), (18, .int (zI kd)), (19, .int (zI v)), (20, .int (zI (p : Int))), (21, .int (zI (w : Int))), (22, .int (zI (s : Int)))]) C dL_law_1063 (by decide) rfl ?_
  refine x_aload_n C dL_law_1065 rfl 2 rfl ?_
  refine z_iconst C dL_law_1066 ?_
  refine x_iload C dL_law_1067 21 rfl ?_
  refine x_iload C dL_law_1069 0 rfl ?_
  refine z_iconst C dL_law_1071 ?_
  refine x_callSX (n := 5) (cc9 := (cells + 5)) (ss9 := (slots + 50)) (rest := []) C dL_law_1072 (c_L_does_5 (kxL E) C.st G z μ xa σ n (p : Int) c9 0 hC hK hn5 (by omega) (by omega) (by omega)) gL_law_L_does rfl (by decide +kernel) ⟨(Nat.le_of_ble_eq_true rfl), (Nat.le_of_ble_eq_true rfl)⟩ rfl rfl (Nat.le_of_ble_eq_true rfl) rfl rfl ⟨(by omega), (by omega)⟩ nX_no (fun v1 μ2 hv3 => ?_)
  obtain ⟨r4, hw7, h5⟩ := hv3
  subst hw7
  obtain ⟨hdo, hF9⟩ := h5
  have hF8 := hF9
  have hn := hF8.ai hn
  have hh := hF8.ai hh
  have hz := hF8.ol hz
  have hd := hF8.ai hd
  have hy := hF8.ai hy
  have hg := hF8.ai hg
  have hu := hF8.ai hu
  have hw := hF8.ai hw
  have hs := hF8.ai hs
  have ht := hF8.ai ht
  have he := hF8.ai he
  have hb := hF8.ai hb
  have hcc := hF8.ai hcc
  have hta : t_addWalker σ (p : Int) c9 = if σ 12 0 < 6 then 0 else 3 := by (unfold t_addWalker; rw [if_pos ⟨by omega, by omega⟩, if_pos (by omega)])
  have hdr : (σ 12 0 < 6 ∧ t_addWalker σ (p : Int) c9 = 0 ∧ r4 = σ 12 0) ∨ (σ 12 0 = 6 ∧ t_addWalker σ (p : Int) c9 = 3 ∧ r4 = -13) := by (split at hta <;> rcases hdo with ⟨h1, h2, -⟩ | ⟨h1, -⟩ <;> omega)
  refine x_stk (stk' := [.int (zI r4)]) rfl ?_
  refine x_aload_n C dL_law_1075 rfl 3 rfl ?_
  refine z_iconst C dL_law_1076 ?_
  refine z_iald (j := 1) C dL_law_1077 hn (by omega) (by omega) (by decide) ?_
  refine x_stk (stk' := [.int (zI (σ 12 0)), .int (zI r4)]) (by (rfl)) ?_
  refine z_bipush C dL_law_1078 (by decide) ?_
  refine z_icmp_ne (tgt := 1088) C dL_law_1080 (by decide) (rg_of (by omega) (by omega)) (rg_of (by omega) (by omega)) (fun c_9 => ?_) (fun c_9 => ?_)
  · refine x_aload_n C dL_law_1088 rfl 3 rfl ?_
    refine z_iconst C dL_law_1089 ?_
    refine z_iald (j := 1) C dL_law_1090 hn (by omega) (by omega) (by decide) ?_
    refine x_stk (stk' := [.int (zI (σ 12 0)), .int (zI r4)]) (by (rfl)) ?_
    refine z_icmp_ne (tgt := 1098) C dL_law_1091 (by decide) (rg_of (by omega) (by omega)) (rg_of (by omega) (by omega)) (fun c_10 => ?_) (fun c_10 => ?_)
    · exfalso; omega
    · refine z_iconst C dL_law_1094 ?_
      refine x_goto (tgt := 1099) C dL_law_1095 (by decide) ?_
      refine x_istore (lv' := [(15, .int (zI 1)), (23, .int (zI c9)), (0, .ref bs), (1, .ref xa), (2, .ref (A 0)), (3, .ref (A 1)), (4, .ref (A 2)), (5, .ref (A 3)), (6, .ref (A 4)), (7, .ref (A 5)), (8, .ref (A 6)), (9, .ref (A 7)), (10, .ref (A 8)), (11, .ref (A 9)), (12, .ref (A 10)), (13, .ref (A 11)), (14, .ref (A 12)), (16, .int (zI (τ : Int))), (17, .int (zI f9)), (18, .int (zI kd)), (19, .int (zI v)), (20, .int (zI (p : Int))), (21, .int (zI (w : Int))), (22, .int (zI (s : Int)))]) C dL_law_1099 (by decide) rfl ?_
      refine x_aload_n C dL_law_1101 rfl 4 rfl ?_
      refine z_iconst C dL_law_1102 ?_
      refine z_iald (j := 1) C dL_law_1103 hn (by omega) (by omega) (by decide) ?_
      refine x_stk (stk' := [.int (zI (σ 12 0))]) (by (rfl)) ?_
      refine z_bipush C dL_law_1104 (by decide) ?_
      refine z_icmp_ge (tgt := 1160) C dL_law_1106 (by decide) (rg_of (by omega) (by omega)) (rg_of (by omega) (by omega)) (fun c_11 => ?_) (fun c_11 => ?_)
      · refine x_goto (tgt := 2027) C dL_law_1160 (by decide) ?_
        have hC : RepC G z μ2 xa σ n := by (rcases hdo with ⟨h1, -⟩ | ⟨-, h⟩; exfalso; omega; exact h)
        refine x_sub (lv' := [(0, .ref bs), (1, .ref xa), (2, .ref (A 0)), (3, .ref (A 1)), (4, .ref (A 2)), (5, .ref (A 3)), (6, .ref (A 4)), (7, .ref (A 5)), (8, .ref (A 6)), (9, .ref (A 7)), (10, .ref (A 8)), (11, .ref (A 9)), (12, .ref (A 10)), (13, .ref (A 11)), (14, .ref (A 12)), (15, .int (zI 1)), (16, .int (zI (τ : Int))), (19, .int (zI v))]) [2, 3, 4, 5, 6, 7, 8, 9, 10, 11, 12, 13, 14, 15, 16, 0, 17, 20] rfl ?_
        exact x_wid (by omega) (by omega) (kk _ σ ⟨hC.mono, hK.mono, hn, hh, ⟨_, hz, hZB⟩, hd, hy, hg, hu, ⟨_, hw, hWR⟩, hs, ht, he, hb, _, hcc⟩)
      · have hC : RepC G z μ2 xa (n_addWalker σ (p : Int) c9) n := by (rcases hdo with ⟨-, -, h⟩ | ⟨h1, -⟩; exact h; exfalso; omega)
        obtain ⟨m, hm⟩ : ∃ m : Nat, σ 12 0 = (m : Int) := ⟨(σ 12 0).toNat, by omega⟩
        refine x_aload C dL_law_1109 11 rfl ?_
        refine z_iconst C dL_law_1111 ?_
        refine x_aload_n C dL_law_1112 rfl 4 rfl ?_
        refine z_iconst C dL_law_1113 ?_
        refine z_iald (j := 1) C dL_law_1114 hn (by omega) (by omega) (by decide) ?_
        refine x_stk (stk' := [.int (zI (m : Int)), .int (zI 5), .ref (A 7)]) (by (rw [show nF σ 1 = (m : Int) from hm])) ?_
        refine z_imul C dL_law_1115 rfl ?_
        refine x_iload C dL_law_1116 1 rfl ?_
        refine z_iast (j := 5 * m) C dL_law_1118 hw (by omega) (by omega) (by decide) (fun μ12 hww hF13 => ?_)
        have hn := hF13.ai hn
        have hh := hF13.ai hh
        have hz := hF13.ol hz
        have hd := hF13.ai hd
        have hy := hF13.ai hy
        have hg := hF13.ai hg
        have hu := hF13.ai hu
        have hs := hF13.ai hs
        have ht := hF13.ai ht
        have he := hF13.ai he
        have hb := hF13.ai hb
        have hcc := hF13.ai hcc
        have hC : RepC G z μ12 xa (n_addWalker σ (p : Int) c9) n := hF13.repc hC
        have hw := hww
        refine x_aload C dL_law_1119 11 rfl ?_
        refine z_iconst C dL_law_1121 ?_
        refine x_aload_n C dL_law_1122 rfl 4 rfl ?_
        refine z_iconst C dL_law_1123 ?_
        refine z_iald (j := 1) C dL_law_1124 hn (by omega) (by omega) (by decide) ?_
        refine x_stk (stk' := [.int (zI (m : Int)), .int (zI 5), .ref (A 7)]) (by (rw [show nF σ 1 = (m : Int) from hm])) ?_
        refine z_imul C dL_law_1125 rfl ?_
        refine z_iconst C dL_law_1126 ?_
        refine z_iadd C dL_law_1127 rfl ?_
        refine x_iload C dL_law_1128 21 rfl ?_
        refine z_iast (j := 5 * m + 1) C dL_law_1130 hw (by omega) (by omega) (by decide) (fun μ14 hww hF15 => ?_)
        have hn := hF15.ai hn
        have hh := hF15.ai hh
        have hz := hF15.ol hz
        have hd := hF15.ai hd
        have hy := hF15.ai hy
        have hg := hF15.ai hg
        have hu := hF15.ai hu
        have hs := hF15.ai hs
        have ht := hF15.ai ht
        have he := hF15.ai he
        have hb := hF15.ai hb
        have hcc := hF15.ai hcc
        have hC : RepC G z μ14 xa (n_addWalker σ (p : Int) c9) n := hF15.repc hC
        have hw := hww
        refine x_aload C dL_law_1131 11 rfl ?_
        refine z_iconst C dL_law_1133 ?_
        refine x_aload_n C dL_law_1134 rfl 4 rfl ?_
        refine z_iconst C dL_law_1135 ?_
        refine z_iald (j := 1) C dL_law_1136 hn (by omega) (by omega) (by decide) ?_
        refine x_stk (stk' := [.int (zI (m : Int)), .int (zI 5), .ref (A 7)]) (by (rw [show nF σ 1 = (m : Int) from hm])) ?_
        refine z_imul C dL_law_1137 rfl ?_
        refine z_iconst C dL_law_1138 ?_
        refine z_iadd C dL_law_1139 rfl ?_
        refine z_iconst C dL_law_1140 ?_
        refine z_iast (j := 5 * m + 2) C dL_law_1141 hw (by omega) (by omega) (by decide) (fun μ16 hww hF17 => ?_)
        have hn := hF17.ai hn
        have hh := hF17.ai hh
        have hz := hF17.ol hz
        have hd := hF17.ai hd
        have hy := hF17.ai hy
        have hg := hF17.ai hg
        have hu := hF17.ai hu
        have hs := hF17.ai hs
        have ht := hF17.ai ht
        have he := hF17.ai he
        have hb := hF17.ai hb
        have hcc := hF17.ai hcc
        have hC : RepC G z μ16 xa (n_addWalker σ (p : Int) c9) n := hF17.repc hC
        have hw := hww
        refine x_aload C dL_law_1142 11 rfl ?_
        refine z_iconst C dL_law_1144 ?_
        refine x_aload_n C dL_law_1145 rfl 4 rfl ?_
        refine z_iconst C dL_law_1146 ?_
        refine z_iald (j := 1) C dL_law_1147 hn (by omega) (by omega) (by decide) ?_
        refine x_stk (stk' := [.int (zI (m : Int)), .int (zI 5), .ref (A 7)]) (by (rw [show nF σ 1 = (m : Int) from hm])) ?_
        refine z_imul C dL_law_1148 rfl ?_
        refine z_iconst C dL_law_1149 ?_
        refine z_iadd C dL_law_1150 rfl ?_
        refine z_iconst C dL_law_1151 ?_
        refine z_iast (j := 5 * m + 3) C dL_law_1152 hw (by omega) (by omega) (by decide) (fun μ18 hww hF19 => ?_)
        have hn := hF19.ai hn
        have hh := hF19.ai hh
        have hz := hF19.ol hz
        have hd := hF19.ai hd
        have hy := hF19.ai hy
        have hg := hF19.ai hg
        have hu := hF19.ai hu
        have hs := hF19.ai hs
        have ht := hF19.ai ht
        have he := hF19.ai he
        have hb := hF19.ai hb
        have hcc := hF19.ai hcc
        have hC : RepC G z μ18 xa (n_addWalker σ (p : Int) c9) n := hF19.repc hC
        have hw := hww
        refine x_aload_n C dL_law_1153 rfl 4 rfl ?_
        refine z_iconst C dL_law_1154 ?_
        refine x_dup2 C dL_law_1155 rfl rfl ?_
        refine z_iald (j := 1) C dL_law_1156 hn (by omega) (by omega) (by decide) ?_
        refine x_stk (stk' := [.int (zI (m : Int)), .int (zI 1), .ref (A 0)]) (by (rw [show nF σ 1 = (m : Int) from hm])) ?_
        refine z_iconst C dL_law_1157 ?_
        refine z_iadd C dL_law_1158 rfl ?_
        refine z_iast (j := 1) C dL_law_1159 hn (by omega) (by omega) (by decide) (fun μ20 hnw hF21 => ?_)
        have hh := hF21.ai hh
        have hz := hF21.ol hz
        have hd := hF21.ai hd
        have hy := hF21.ai hy
        have hg := hF21.ai hg
        have hu := hF21.ai hu
        have hw := hF21.ai hw
        have hs := hF21.ai hs
        have ht := hF21.ai ht
        have he := hF21.ai he
        have hb := hF21.ai hb
        have hcc := hF21.ai hcc
        have hC : RepC G z μ20 xa (n_addWalker σ (p : Int) c9) n := hF21.repc hC
        have hn := hnw
        refine x_goto (tgt := 2027) C dL_law_1160 (by decide) ?_
        have hta0 : t_addWalker σ (p : Int) c9 = 0 := by omega
        refine x_sub (lv' := [(0, .ref bs), (1, .ref xa), (2, .ref (A 0)), (3, .ref (A 1)), (4, .ref (A 2)), (5, .ref (A 3)), (6, .ref (A 4)), (7, .ref (A 5)), (8, .ref (A 6)), (9, .ref (A 7)), (10, .ref (A 8)), (11, .ref (A 9)), (12, .ref (A 10)), (13, .ref (A 11)), (14, .ref (A 12)), (15, .int (zI 1)), (16, .int (zI (τ : Int))), (19, .int (zI v))]) [2, 3, 4, 5, 6, 7, 8, 9, 10, 11, 12, 13, 14, 15, 16, 0, 17, 20] rfl ?_
        exact x_wid (by omega) (by omega) (kk _ (n_addWalker σ (p : Int) c9) ⟨hC.mono, (Kv_addWalker hK hta0).mono, (by (rw [nF_12 (σ := σ) (σ' := n_addWalker σ (p : Int) c9) (v := (m : Int) + 1) rfl (by (show wr (σ 12) 0 (σ 12 0 + 1) 0 = _; rw [wr_at, hm])) rfl rfl]; exact hn)), hh, ⟨_, hz, hZB.c rfl⟩, (by (rw [dF_c (σ := σ) (σ' := (n_addWalker σ (p : Int) c9)) rfl rfl rfl rfl]; exact hd)), hy, (by (rw [gF_c (σ := σ) (σ' := (n_addWalker σ (p : Int) c9)) rfl rfl]; exact hg)), (by (rw [uF_c (σ := σ) (σ' := (n_addWalker σ (p : Int) c9)) rfl rfl]; exact hu)), ⟨_, hw, WR_add hWR hm (fun j hj => by (rw [wr_ne (by omega), wr_ne (by omega), wr_ne (by omega), wr_ne (by omega)])) (by (rw [wr_ne (by omega), wr_ne (by omega), wr_ne (by omega), wr_at])) (by (rw [wr_ne (by omega), wr_ne (by omega), wr_at])) (by (rw [wr_ne (by omega), wr_at])) (by (rw [wr_at]))⟩, (by (rw [sF_c (σ := σ) (σ' := (n_addWalker σ (p : Int) c9)) rfl]; exact hs)), (by (rw [tF_c (σ := σ) (σ' := (n_addWalker σ (p : Int) c9)) rfl]; exact ht)), he, hb, _, hcc⟩)
  · refine z_bipush C dL_law_1083 (by decide) ?_
    refine x_goto (tgt := 1091) C dL_law_1085 (by decide) ?_
    refine z_icmp_ne (tgt := 1098) C dL_law_1091 (by decide) (rg_of (by omega) (by omega)) (rg_of (by omega) (by omega)) (fun c_22 => ?_) (fun c_22 => ?_)
    · exfalso; omega
    · refine z_iconst C dL_law_1094 ?_
      refine x_goto (tgt := 1099) C dL_law_1095 (by decide) ?_
      refine x_istore (lv' := [(15, .int (zI 1)), (23, .int (zI c9)), (0, .ref bs), (1, .ref xa), (2, .ref (A 0)), (3, .ref (A 1)), (4, .ref (A 2)), (5, .ref (A 3)), (6, .ref (A 4)), (7, .ref (A 5)), (8, .ref (A 6)), (9, .ref (A 7)), (10, .ref (A 8)), (11, .ref (A 9)), (12, .ref (A 10)), (13, .ref (A 11)), (14, .ref (A 12)), (16, .int (zI (τ : Int))), (17, .int (zI f9)), (18, .int (zI kd)), (19, .int (zI v)), (20, .int (zI (p : Int))), (21, .int (zI (w : Int))), (22, .int (zI (s : Int)))]) C dL_law_1099 (by decide) rfl ?_
      refine x_aload_n C dL_law_1101 rfl 4 rfl ?_
      refine z_iconst C dL_law_1102 ?_
      refine z_iald (j := 1) C dL_law_1103 hn (by omega) (by omega) (by decide) ?_
      refine x_stk (stk' := [.int (zI (σ 12 0))]) (by (rfl)) ?_
      refine z_bipush C dL_law_1104 (by decide) ?_
      refine z_icmp_ge (tgt := 1160) C dL_law_1106 (by decide) (rg_of (by omega) (by omega)) (rg_of (by omega) (by omega)) (fun c_23 => ?_) (fun c_23 => ?_)
      · refine x_goto (tgt := 2027) C dL_law_1160 (by decide) ?_
        have hC : RepC G z μ2 xa σ n := by (rcases hdo with ⟨h1, -⟩ | ⟨-, h⟩; exfalso; omega; exact h)
        refine x_sub (lv' := [(0, .ref bs), (1, .ref xa), (2, .ref (A 0)), (3, .ref (A 1)), (4, .ref (A 2)), (5, .ref (A 3)), (6, .ref (A 4)), (7, .ref (A 5)), (8, .ref (A 6)), (9, .ref (A 7)), (10, .ref (A 8)), (11, .ref (A 9)), (12, .ref (A 10)), (13, .ref (A 11)), (14, .ref (A 12)), (15, .int (zI 1)), (16, .int (zI (τ : Int))), (19, .int (zI v))]) [2, 3, 4, 5, 6, 7, 8, 9, 10, 11, 12, 13, 14, 15, 16, 0, 17, 20] rfl ?_
        exact x_wid (by omega) (by omega) (kk _ σ ⟨hC.mono, hK.mono, hn, hh, ⟨_, hz, hZB⟩, hd, hy, hg, hu, ⟨_, hw, hWR⟩, hs, ht, he, hb, _, hcc⟩)
      · have hC : RepC G z μ2 xa (n_addWalker σ (p : Int) c9) n := by (rcases hdo with ⟨-, -, h⟩ | ⟨h1, -⟩; exact h; exfalso; omega)
        obtain ⟨m, hm⟩ : ∃ m : Nat, σ 12 0 = (m : Int) := ⟨(σ 12 0).toNat, by omega⟩
        refine x_aload C dL_law_1109 11 rfl ?_
        refine z_iconst C dL_law_1111 ?_
        refine x_aload_n C dL_law_1112 rfl 4 rfl ?_
        refine z_iconst C dL_law_1113 ?_
        refine z_iald (j := 1) C dL_law_1114 hn (by omega) (by omega) (by decide) ?_
        refine x_stk (stk' := [.int (zI (m : Int)), .int (zI 5), .ref (A 7)]) (by (rw [show nF σ 1 = (m : Int) from hm])) ?_
        refine z_imul C dL_law_1115 rfl ?_
        refine x_iload C dL_law_1116 1 rfl ?_
        refine z_iast (j := 5 * m) C dL_law_1118 hw (by omega) (by omega) (by decide) (fun μ24 hww hF25 => ?_)
        have hn := hF25.ai hn
        have hh := hF25.ai hh
        have hz := hF25.ol hz
        have hd := hF25.ai hd
        have hy := hF25.ai hy
        have hg := hF25.ai hg
        have hu := hF25.ai hu
        have hs := hF25.ai hs
        have ht := hF25.ai ht
        have he := hF25.ai he
        have hb := hF25.ai hb
        have hcc := hF25.ai hcc
        have hC : RepC G z μ24 xa (n_addWalker σ (p : Int) c9) n := hF25.repc hC
        have hw := hww
        refine x_aload C dL_law_1119 11 rfl ?_
        refine z_iconst C dL_law_1121 ?_
        refine x_aload_n C dL_law_1122 rfl 4 rfl ?_
        refine z_iconst C dL_law_1123 ?_
        refine z_iald (j := 1) C dL_law_1124 hn (by omega) (by omega) (by decide) ?_
        refine x_stk (stk' := [.int (zI (m : Int)), .int (zI 5), .ref (A 7)]) (by (rw [show nF σ 1 = (m : Int) from hm])) ?_
        refine z_imul C dL_law_1125 rfl ?_
        refine z_iconst C dL_law_1126 ?_
        refine z_iadd C dL_law_1127 rfl ?_
        refine x_iload C dL_law_1128 21 rfl ?_
        refine z_iast (j := 5 * m + 1) C dL_law_1130 hw (by omega) (by omega) (by decide) (fun μ26 hww hF27 => ?_)
        have hn := hF27.ai hn
        have hh := hF27.ai hh
        have hz := hF27.ol hz
        have hd := hF27.ai hd
        have hy := hF27.ai hy
        have hg := hF27.ai hg
        have hu := hF27.ai hu
        have hs := hF27.ai hs
        have ht := hF27.ai ht
        have he := hF27.ai he
        have hb := hF27.ai hb
        have hcc := hF27.ai hcc
        have hC : RepC G z μ26 xa (n_addWalker σ (p : Int) c9) n := hF27.repc hC
        have hw := hww
        refine x_aload C dL_law_1131 11 rfl ?_
        refine z_iconst C dL_law_1133 ?_
        refine x_aload_n C dL_law_1134 rfl 4 rfl ?_
        refine z_iconst C dL_law_1135 ?_
        refine z_iald (j := 1) C dL_law_1136 hn (by omega) (by omega) (by decide) ?_
        refine x_stk (stk' := [.int (zI (m : Int)), .int (zI 5), .ref (A 7)]) (by (rw [show nF σ 1 = (m : Int) from hm])) ?_
        refine z_imul C dL_law_1137 rfl ?_
        refine z_iconst C dL_law_1138 ?_
        refine z_iadd C dL_law_1139 rfl ?_
        refine z_iconst C dL_law_1140 ?_
        refine z_iast (j := 5 * m + 2) C dL_law_1141 hw (by omega) (by omega) (by decide) (fun μ28 hww hF29 => ?_)
        have hn := hF29.ai hn
        have hh := hF29.ai hh
        have hz := hF29.ol hz
        have hd := hF29.ai hd
        have hy := hF29.ai hy
        have hg := hF29.ai hg
        have hu := hF29.ai hu
        have hs := hF29.ai hs
        have ht := hF29.ai ht
        have he := hF29.ai he
        have hb := hF29.ai hb
        have hcc := hF29.ai hcc
        have hC : RepC G z μ28 xa (n_addWalker σ (p : Int) c9) n := hF29.repc hC
        have hw := hww
        refine x_aload C dL_law_1142 11 rfl ?_
        refine z_iconst C dL_law_1144 ?_
        refine x_aload_n C dL_law_1145 rfl 4 rfl ?_
        refine z_iconst C dL_law_1146 ?_
        refine z_iald (j := 1) C dL_law_1147 hn (by omega) (by omega) (by decide) ?_
        refine x_stk (stk' := [.int (zI (m : Int)), .int (zI 5), .ref (A 7)]) (by (rw [show nF σ 1 = (m : Int) from hm])) ?_
        refine z_imul C dL_law_1148 rfl ?_
        refine z_iconst C dL_law_1149 ?_
        refine z_iadd C dL_law_1150 rfl ?_
        refine z_iconst C dL_law_1151 ?_
        refine z_iast (j := 5 * m + 3) C dL_law_1152 hw (by omega) (by omega) (by decide) (fun μ30 hww hF31 => ?_)
        have hn := hF31.ai hn
        have hh := hF31.ai hh
        have hz := hF31.ol hz
        have hd := hF31.ai hd
        have hy := hF31.ai hy
        have hg := hF31.ai hg
        have hu := hF31.ai hu
        have hs := hF31.ai hs
        have ht := hF31.ai ht
        have he := hF31.ai he
        have hb := hF31.ai hb
        have hcc := hF31.ai hcc
        have hC : RepC G z μ30 xa (n_addWalker σ (p : Int) c9) n := hF31.repc hC
        have hw := hww
        refine x_aload_n C dL_law_1153 rfl 4 rfl ?_
        refine z_iconst C dL_law_1154 ?_
        refine x_dup2 C dL_law_1155 rfl rfl ?_
        refine z_iald (j := 1) C dL_law_1156 hn (by omega) (by omega) (by decide) ?_
        refine x_stk (stk' := [.int (zI (m : Int)), .int (zI 1), .ref (A 0)]) (by (rw [show nF σ 1 = (m : Int) from hm])) ?_
        refine z_iconst C dL_law_1157 ?_
        refine z_iadd C dL_law_1158 rfl ?_
        refine z_iast (j := 1) C dL_law_1159 hn (by omega) (by omega) (by decide) (fun μ32 hnw hF33 => ?_)
        have hh := hF33.ai hh
        have hz := hF33.ol hz
        have hd := hF33.ai hd
        have hy := hF33.ai hy
        have hg := hF33.ai hg
        have hu := hF33.ai hu
        have hw := hF33.ai hw
        have hs := hF33.ai hs
        have ht := hF33.ai ht
        have he := hF33.ai he
        have hb := hF33.ai hb
        have hcc := hF33.ai hcc
        have hC : RepC G z μ32 xa (n_addWalker σ (p : Int) c9) n := hF33.repc hC
        have hn := hnw
        refine x_goto (tgt := 2027) C dL_law_1160 (by decide) ?_
        have hta0 : t_addWalker σ (p : Int) c9 = 0 := by omega
        refine x_sub (lv' := [(0, .ref bs), (1, .ref xa), (2, .ref (A 0)), (3, .ref (A 1)), (4, .ref (A 2)), (5, .ref (A 3)), (6, .ref (A 4)), (7, .ref (A 5)), (8, .ref (A 6)), (9, .ref (A 7)), (10, .ref (A 8)), (11, .ref (A 9)), (12, .ref (A 10)), (13, .ref (A 11)), (14, .ref (A 12)), (15, .int (zI 1)), (16, .int (zI (τ : Int))), (19, .int (zI v))]) [2, 3, 4, 5, 6, 7, 8, 9, 10, 11, 12, 13, 14, 15, 16, 0, 17, 20] rfl ?_
        exact x_wid (by omega) (by omega) (kk _ (n_addWalker σ (p : Int) c9) ⟨hC.mono, (Kv_addWalker hK hta0).mono, (by (rw [nF_12 (σ := σ) (σ' := n_addWalker σ (p : Int) c9) (v := (m : Int) + 1) rfl (by (show wr (σ 12) 0 (σ 12 0 + 1) 0 = _; rw [wr_at, hm])) rfl rfl]; exact hn)), hh, ⟨_, hz, hZB.c rfl⟩, (by (rw [dF_c (σ := σ) (σ' := (n_addWalker σ (p : Int) c9)) rfl rfl rfl rfl]; exact hd)), hy, (by (rw [gF_c (σ := σ) (σ' := (n_addWalker σ (p : Int) c9)) rfl rfl]; exact hg)), (by (rw [uF_c (σ := σ) (σ' := (n_addWalker σ (p : Int) c9)) rfl rfl]; exact hu)), ⟨_, hw, WR_add hWR hm (fun j hj => by (rw [wr_ne (by omega), wr_ne (by omega), wr_ne (by omega), wr_ne (by omega)])) (by (rw [wr_ne (by omega), wr_ne (by omega), wr_ne (by omega), wr_at])) (by (rw [wr_ne (by omega), wr_ne (by omega), wr_at])) (by (rw [wr_ne (by omega), wr_at])) (by (rw [wr_at]))⟩, (by (rw [sF_c (σ := σ) (σ' := (n_addWalker σ (p : Int) c9)) rfl]; exact hs)), (by (rw [tF_c (σ := σ) (σ' := (n_addWalker σ (p : Int) c9)) rfl]; exact ht)), he, hb, _, hcc⟩)
set_option maxHeartbeats 8000000 in
set_option maxRecDepth 100000 in
theorem law_addWarden {E : EE} {G : GG} {z : Nat} (C : Cx E G z cL_law RL wsL_law room_1 27) {cells slots : Nat} (hcs : cells + 800 ≤ room_1.cells ∧ slots + 47000 ≤ room_1.slots) {μ : Mm} {xa bs : Nat} {A : Nat → Nat} {σ : SS} {n τ : Nat} {f9 kd v : Int} {p w s : Nat} (hS : LwS G z μ xa A σ n) (hn5 : n < 512) (hv9 : 0 ≤ v ∧ v < 100000000) (hp9 : p < 64) (hw9 : (σ 12 0 = 0 ∧ w = 0) ∨ (w : Int) < σ 12 0) (hs9 : (σ 7 0 = 0 ∧ s = 0) ∨ (s : Int) < σ 7 0) (kk : ∀ (μ' : Mm) (σ' : SS), LwS G z μ' xa A σ' (n + 1) → Wx E G (cells + 800) (slots + 47000) 2027 [(0, .ref bs), (1, .ref xa), (2, .ref (A 0)), (3, .ref (A 1)), (4, .ref (A 2)), (5, .ref (A 3)), (6, .ref (A 4)), (7, .ref (A 5)), (8, .ref (A 6)), (9, .ref (A 7)), (10, .ref (A 8)), (11, .ref (A 9)), (12, .ref (A 10)), (13, .ref (A 11)), (14, .ref (A 12)), (15, .int (zI 1)), (16, .int (zI (τ : Int))), (19, .int (zI v))] [] μ') : Wx E G cells slots 1170 [(0, .ref bs), (1, .ref xa), (2, .ref (A 0)), (3, .ref (A 1)), (4, .ref (A 2)), (5, .ref (A 3)), (6, .ref (A 4)), (7, .ref (A 5)), (8, .ref (A 6)), (9, .ref (A 7)), (10, .ref (A 8)), (11, .ref (A 9)), (12, .ref (A 10)), (13, .ref (A 11)), (14, .ref (A 12)), (15, .int (zI 1)), (16, .int (zI (τ : Int))), (17, .int (zI f9)), (18, .int (zI kd)), (19, .int (zI v)), (20, .int (zI (p : Int))), (21, .int (zI (w : Int))), (22, .int (zI (s : Int)))] [] μ := by
  obtain ⟨hC, hK, hn, hh, ⟨K, hz, hZB⟩, hd, hy, hg, hu, ⟨W, hw, hWR⟩, hs, ht, he, hb, C9, hcc⟩ := hS
  have hGv := hC.gv
  have h7 := hK.1.n7
  have h12 := hK.1.n12
  have h18 := hK.1.n18
  have h23 := hK.1.n23
  refine x_aload_n C dL_law_1170 rfl 1 rfl ?_
  refine z_bipush C dL_law_1171 (by decide) ?_
  refine x_iload C dL_law_1173 20 rfl ?_
  refine z_iconst C dL_law_1175 ?_
  refine z_iconst C dL_law_1176 ?_
  refine x_callSX (n := 5) (cc9 := (cells + 2)) (ss9 := (slots + 12)) (rest := []) C dL_law_1177 (c_L_does_6 (kxL E) C.st G z μ xa σ n (p : Int) 0 0 hC hK hn5 (by omega) (by omega) (by omega)) gL_law_L_does rfl (by decide +kernel) ⟨(Nat.le_of_ble_eq_true rfl), (Nat.le_of_ble_eq_true rfl)⟩ rfl rfl (Nat.le_of_ble_eq_true rfl) rfl rfl ⟨(by omega), (by omega)⟩ nX_no (fun v1 μ2 hv3 => ?_)
  obtain ⟨r4, hw7, h5⟩ := hv3
  subst hw7
  obtain ⟨hdo, hF9⟩ := h5
  have hF8 := hF9
  have hn := hF8.ai hn
  have hh := hF8.ai hh
  have hz := hF8.ol hz
  have hd := hF8.ai hd
  have hy := hF8.ai hy
  have hg := hF8.ai hg
  have hu := hF8.ai hu
  have hw := hF8.ai hw
  have hs := hF8.ai hs
  have ht := hF8.ai ht
  have he := hF8.ai he
  have hb := hF8.ai hb
  have hcc := hF8.ai hcc
  have hta : t_addWarden σ (p : Int) = if σ 18 0 < 4 then 0 else 2 := by (unfold t_addWarden; rw [if_pos ⟨by omega, by omega⟩])
  have hdr : (σ 18 0 < 4 ∧ t_addWarden σ (p : Int) = 0 ∧ r4 = σ 18 0) ∨ (σ 18 0 = 4 ∧ t_addWarden σ (p : Int) = 2 ∧ r4 = -13) := by (split at hta <;> rcases hdo with ⟨h1, h2, -⟩ | ⟨h1, -⟩ <;> omega)
  refine x_stk (stk' := [.int (zI r4)]) rfl ?_
  refine x_aload_n C dL_law_1180 rfl 2 rfl ?_
  refine z_iconst C dL_law_1181 ?_
  refine z_iald (j := 2) C dL_law_1182 hn (by omega) (by omega) (by decide) ?_
  refine x_stk (stk' := [.int (zI (σ 18 0)), .int (zI r4)]) (by (rfl)) ?_
  refine z_iconst C dL_law_1183 ?_
  refine z_icmp_ne (tgt := 1192) C dL_law_1184 (by decide) (rg_of (by omega) (by omega)) (rg_of (by omega) (by omega)) (fun c_9 => ?_) (fun c_9 => ?_)
  · refine x_aload_n C dL_law_1192 rfl 2 rfl ?_
    refine z_iconst C dL_law_1193 ?_
    refine z_iald (j := 2) C dL_law_1194 hn (by omega) (by omega) (by decide) ?_
    refine x_stk (stk' := [.int (zI (σ 18 0)), .int (zI r4)]) (by (rfl)) ?_
    refine z_icmp_ne (tgt := 1202) C dL_law_1195 (by decide) (rg_of (by omega) (by omega)) (rg_of (by omega) (by omega)) (fun c_10 => ?_) (fun c_10 => ?_)
    · exfalso; omega
    · refine z_iconst C dL_law_1198 ?_
      refine x_goto (tgt := 1203) C dL_law_1199 (by decide) ?_
      refine x_istore (lv' := [(15, .int (zI 1)), (0, .ref bs), (1, .ref xa), (2, .ref (A 0)), (3, .ref (A 1)), (4, .ref (A 2)), (5, .ref (A 3)), (6, .ref (A 4)), (7, .ref (A 5)), (8, .ref (A 6)), (9, .ref (A 7)), (10, .ref (A 8)), (11, .ref (A 9)), (12, .ref (A 10)), (13, .ref (A 11)), (14, .ref (A 12)), (16, .int (zI (τ : Int))), (17, .int (zI f9)), (18, .int (zI kd)), (19, .int (zI v)), (20, .int (zI (p : Int))), (21, .int (zI (w : Int))), (22, .int (zI (s : Int)))]) C dL_law_1203 (by decide) rfl ?_
      refine x_aload_n C dL_law_1205 rfl 3 rfl ?_
      refine z_iconst C dL_law_1206 ?_
      refine z_iald (j := 2) C dL_law_1207 hn (by omega) (by omega) (by decide) ?_
      refine x_stk (stk' := [.int (zI (σ 18 0))]) (by (rfl)) ?_
      refine z_iconst C dL_law_1208 ?_
      refine z_icmp_ge (tgt := 2027) C dL_law_1209 (by decide) (rg_of (by omega) (by omega)) (rg_of (by omega) (by omega)) (fun c_11 => ?_) (fun c_11 => ?_)
      · have hC : RepC G z μ2 xa σ n := by (rcases hdo with ⟨h1, -⟩ | ⟨-, h⟩; exfalso; omega; exact h)
        refine x_sub (lv' := [(0, .ref bs), (1, .ref xa), (2, .ref (A 0)), (3, .ref (A 1)), (4, .ref (A 2)), (5, .ref (A 3)), (6, .ref (A 4)), (7, .ref (A 5)), (8, .ref (A 6)), (9, .ref (A 7)), (10, .ref (A 8)), (11, .ref (A 9)), (12, .ref (A 10)), (13, .ref (A 11)), (14, .ref (A 12)), (15, .int (zI 1)), (16, .int (zI (τ : Int))), (19, .int (zI v))]) [1, 2, 3, 4, 5, 6, 7, 8, 9, 10, 11, 12, 13, 14, 15, 0, 16, 19] rfl ?_
        exact x_wid (by omega) (by omega) (kk _ σ ⟨hC.mono, hK.mono, hn, hh, ⟨_, hz, hZB⟩, hd, hy, hg, hu, ⟨_, hw, hWR⟩, hs, ht, he, hb, _, hcc⟩)
      · have hC : RepC G z μ2 xa (n_addWarden σ (p : Int)) n := by (rcases hdo with ⟨-, -, h⟩ | ⟨h1, -⟩; exact h; exfalso; omega)
        refine x_aload C dL_law_1212 14 rfl ?_
        refine x_aload_n C dL_law_1214 rfl 3 rfl ?_
        refine z_iconst C dL_law_1215 ?_
        refine z_iald (j := 2) C dL_law_1216 hn (by omega) (by omega) (by decide) ?_
        refine x_stk (stk' := [.int (zI (σ 18 0)), .ref (A 11)]) (by (rfl)) ?_
        refine x_iload C dL_law_1217 20 rfl ?_
        refine z_iast (j := (σ 18 0).toNat) C dL_law_1219 hb (by omega) (by omega) (by decide) (fun μ12 hbw hF13 => ?_)
        have hn := hF13.ai hn
        have hh := hF13.ai hh
        have hz := hF13.ol hz
        have hd := hF13.ai hd
        have hy := hF13.ai hy
        have hg := hF13.ai hg
        have hu := hF13.ai hu
        have hw := hF13.ai hw
        have hs := hF13.ai hs
        have ht := hF13.ai ht
        have he := hF13.ai he
        have hcc := hF13.ai hcc
        have hC : RepC G z μ12 xa (n_addWarden σ (p : Int)) n := hF13.repc hC
        have hb := hbw
        refine x_aload_n C dL_law_1220 rfl 3 rfl ?_
        refine z_iconst C dL_law_1221 ?_
        refine x_dup2 C dL_law_1222 rfl rfl ?_
        refine z_iald (j := 2) C dL_law_1223 hn (by omega) (by omega) (by decide) ?_
        refine x_stk (stk' := [.int (zI (σ 18 0)), .int (zI 2), .ref (A 0)]) (by (rfl)) ?_
        refine z_iconst C dL_law_1224 ?_
        refine z_iadd C dL_law_1225 rfl ?_
        refine z_iast (j := 2) C dL_law_1226 hn (by omega) (by omega) (by decide) (fun μ14 hnw hF15 => ?_)
        have hh := hF15.ai hh
        have hz := hF15.ol hz
        have hd := hF15.ai hd
        have hy := hF15.ai hy
        have hg := hF15.ai hg
        have hu := hF15.ai hu
        have hw := hF15.ai hw
        have hs := hF15.ai hs
        have ht := hF15.ai ht
        have he := hF15.ai he
        have hb := hF15.ai hb
        have hcc := hF15.ai hcc
        have hC : RepC G z μ14 xa (n_addWarden σ (p : Int)) n := hF15.repc hC
        have hn := hnw
        refine x_goto (tgt := 2027) C dL_law_1227 (by decide) ?_
        have hta0 : t_addWarden σ (p : Int) = 0 := by omega
        refine x_sub (lv' := [(0, .ref bs), (1, .ref xa), (2, .ref (A 0)), (3, .ref (A 1)), (4, .ref (A 2)), (5, .ref (A 3)), (6, .ref (A 4)), (7, .ref (A 5)), (8, .ref (A 6)), (9, .ref (A 7)), (10, .ref (A 8)), (11, .ref (A 9)), (12, .ref (A 10)), (13, .ref (A 11)), (14, .ref (A 12)), (15, .int (zI 1)), (16, .int (zI (τ : Int))), (19, .int (zI v))]) [1, 2, 3, 4, 5, 6, 7, 8, 9, 10, 11, 12, 13, 14, 15, 0, 16, 19] rfl ?_
        exact x_wid (by omega) (by omega) (kk _ (n_addWarden σ (p : Int)) ⟨hC.mono, (Kv_addWarden hK hta0).mono, (by (rw [nF_18 (σ := σ) (σ' := n_addWarden σ (p : Int)) (v := σ 18 0 + 1) rfl rfl (by (show wr (σ 18) 0 (σ 18 0 + 1) 0 = _; rw [wr_at])) rfl]; exact hn)), hh, ⟨_, hz, hZB.c rfl⟩, (by (rw [dF_c (σ := σ) (σ' := (n_addWarden σ (p : Int))) rfl rfl rfl rfl]; exact hd)), hy, (by (rw [gF_c (σ := σ) (σ' := (n_addWarden σ (p : Int))) rfl rfl]; exact hg)), (by (rw [uF_c (σ := σ) (σ' := (n_addWarden σ (p : Int))) rfl rfl]; exact hu)), ⟨_, hw, hWR.c rfl rfl rfl rfl rfl rfl⟩, (by (rw [sF_c (σ := σ) (σ' := (n_addWarden σ (p : Int))) rfl]; exact hs)), (by (rw [tF_c (σ := σ) (σ' := (n_addWarden σ (p : Int))) rfl]; exact ht)), he, hb, _, hcc⟩)
  · refine z_bipush C dL_law_1187 (by decide) ?_
    refine x_goto (tgt := 1195) C dL_law_1189 (by decide) ?_
    refine z_icmp_ne (tgt := 1202) C dL_law_1195 (by decide) (rg_of (by omega) (by omega)) (rg_of (by omega) (by omega)) (fun c_16 => ?_) (fun c_16 => ?_)
    · exfalso; omega
    · refine z_iconst C dL_law_1198 ?_
      refine x_goto (tgt := 1203) C dL_law_1199 (by decide) ?_
      refine x_istore (lv' := [(15, .int (zI 1)), (0, .ref bs), (1, .ref xa), (2, .ref (A 0)), (3, .ref (A 1)), (4, .ref (A 2)), (5, .ref (A 3)), (6, .ref (A 4)), (7, .ref (A 5)), (8, .ref (A 6)), (9, .ref (A 7)), (10, .ref (A 8)), (11, .ref (A 9)), (12, .ref (A 10)), (13, .ref (A 11)), (14, .ref (A 12)), (16, .int (zI (τ : Int))), (17, .int (zI f9)), (18, .int (zI kd)), (19, .int (zI v)), (20, .int (zI (p : Int))), (21, .int (zI (w : Int))), (22, .int (zI (s : Int)))]) C dL_law_1203 (by decide) rfl ?_
      refine x_aload_n C dL_law_1205 rfl 3 rfl ?_
      refine z_iconst C dL_law_1206 ?_
      refine z_iald (j := 2) C dL_law_1207 hn (by omega) (by omega) (by decide) ?_
      refine x_stk (stk' := [.int (zI (σ 18 0))]) (by (rfl)) ?_
      refine z_iconst C dL_law_1208 ?_
      refine z_icmp_ge (tgt := 2027) C dL_law_1209 (by decide) (rg_of (by omega) (by omega)) (rg_of (by omega) (by omega)) (fun c_17 => ?_) (fun c_17 => ?_)
      · have hC : RepC G z μ2 xa σ n := by (rcases hdo with ⟨h1, -⟩ | ⟨-, h⟩; exfalso; omega; exact h)
        refine x_sub (lv' := [(0, .ref bs), (1, .ref xa), (2, .ref (A 0)), (3, .ref (A 1)), (4, .ref (A 2)), (5, .ref (A 3)), (6, .ref (A 4)), (7, .ref (A 5)), (8, .ref (A 6)), (9, .ref (A 7)), (10, .ref (A 8)), (11, .ref (A 9)), (12, .ref (A 10)), (13, .ref (A 11)), (14, .ref (A 12)), (15, .int (zI 1)), (16, .int (zI (τ : Int))), (19, .int (zI v))]) [1, 2, 3, 4, 5, 6, 7, 8, 9, 10, 11, 12, 13, 14, 15, 0, 16, 19] rfl ?_
        exact x_wid (by omega) (by omega) (kk _ σ ⟨hC.mono, hK.mono, hn, hh, ⟨_, hz, hZB⟩, hd, hy, hg, hu, ⟨_, hw, hWR⟩, hs, ht, he, hb, _, hcc⟩)
      · have hC : RepC G z μ2 xa (n_addWarden σ (p : Int)) n := by (rcases hdo with ⟨-, -, h⟩ | ⟨h1, -⟩; exact h; exfalso; omega)
        refine x_aload C dL_law_1212 14 rfl ?_
        refine x_aload_n C dL_law_1214 rfl 3 rfl ?_
        refine z_iconst C dL_law_1215 ?_
        refine z_iald (j := 2) C dL_law_1216 hn (by omega) (by omega) (by decide) ?_
        refine x_stk (stk' := [.int (zI (σ 18 0)), .ref (A 11)]) (by (rfl)) ?_
        refine x_iload C dL_law_1217 20 rfl ?_
        refine z_iast (j := (σ 18 0).toNat) C dL_law_1219 hb (by omega) (by omega) (by decide) (fun μ18 hbw hF19 => ?_)
        have hn := hF19.ai hn
        have hh := hF19.ai hh
        have hz := hF19.ol hz
        have hd := hF19.ai hd
        have hy := hF19.ai hy
        have hg := hF19.ai hg
        have hu := hF19.ai hu
        have hw := hF19.ai hw
        have hs := hF19.ai hs
        have ht := hF19.ai ht
        have he := hF19.ai he
        have hcc := hF19.ai hcc
        have hC : RepC G z μ18 xa (n_addWarden σ (p : Int)) n := hF19.repc hC
        have hb := hbw
        refine x_aload_n C dL_law_1220 rfl 3 rfl ?_
        refine z_iconst C dL_law_1221 ?_
        refine x_dup2 C dL_law_1222 rfl rfl ?_
        refine z_iald (j := 2) C dL_law_1223 hn (by omega) (by omega) (by decide) ?_
        refine x_stk (stk' := [.int (zI (σ 18 0)), .int (zI 2), .ref (A 0)]) (by (rfl)) ?_
        refine z_iconst C dL_law_1224 ?_
        refine z_iadd C dL_law_1225 rfl ?_
        refine z_iast (j := 2) C dL_law_1226 hn (by omega) (by omega) (by decide) (fun μ20 hnw hF21 => ?_)
        have hh := hF21.ai hh
        have hz := hF21.ol hz
        have hd := hF21.ai hd
        have hy := hF21.ai hy
        have hg := hF21.ai hg
        have hu := hF21.ai hu
        have hw := hF21.ai hw
        have hs := hF21.ai hs
        have ht := hF21.ai ht
        have he := hF21.ai he
        have hb := hF21.ai hb
        have hcc := hF21.ai hcc
        have hC : RepC G z μ20 xa (n_addWarden σ (p : Int)) n := hF21.repc hC
        have hn := hnw
        refine x_goto (tgt := 2027) C dL_law_1227 (by decide) ?_
        have hta0 : t_addWarden σ (p : Int) = 0 := by omega
        refine x_sub (lv' := [(0, .ref bs), (1, .ref xa), (2, .ref (A 0)), (3, .ref (A 1)), (4, .ref (A 2)), (5, .ref (A 3)), (6, .ref (A 4)), (7, .ref (A 5)), (8, .ref (A 6)), (9, .ref (A 7)), (10, .ref (A 8)), (11, .ref (A 9)), (12, .ref (A 10)), (13, .ref (A 11)), (14, .ref (A 12)), (15, .int (zI 1)), (16, .int (zI (τ : Int))), (19, .int (zI v))]) [1, 2, 3, 4, 5, 6, 7, 8, 9, 10, 11, 12, 13, 14, 15, 0, 16, 19] rfl ?_
        exact x_wid (by omega) (by omega) (kk _ (n_addWarden σ (p : Int)) ⟨hC.mono, (Kv_addWarden hK hta0).mono, (by (rw [nF_18 (σ := σ) (σ' := n_addWarden σ (p : Int)) (v := σ 18 0 + 1) rfl rfl (by (show wr (σ 18) 0 (σ 18 0 + 1) 0 = _; rw [wr_at])) rfl]; exact hn)), hh, ⟨_, hz, hZB.c rfl⟩, (by (rw [dF_c (σ := σ) (σ' := (n_addWarden σ (p : Int))) rfl rfl rfl rfl]; exact hd)), hy, (by (rw [gF_c (σ := σ) (σ' := (n_addWarden σ (p : Int))) rfl rfl]; exact hg)), (by (rw [uF_c (σ := σ) (σ' := (n_addWarden σ (p : Int))) rfl rfl]; exact hu)), ⟨_, hw, hWR.c rfl rfl rfl rfl rfl rfl⟩, (by (rw [sF_c (σ := σ) (σ' := (n_addWarden σ (p : Int))) rfl]; exact hs)), (by (rw [tF_c (σ := σ) (σ' := (n_addWarden σ (p : Int))) rfl]; exact ht)), he, hb, _, hcc⟩)
set_option maxHeartbeats 8000000 in
set_option maxRecDepth 100000 in
theorem law_send {E : EE} {G : GG} {z : Nat} (C : Cx E G z cL_law RL wsL_law room_1 27) {cells slots : Nat} (hcs : cells + 800 ≤ room_1.cells ∧ slots + 47000 ≤ room_1.slots) {μ : Mm} {xa bs : Nat} {A : Nat → Nat} {σ : SS} {n τ : Nat} {f9 kd v : Int} {p w s : Nat} (hS : LwS G z μ xa A σ n) (hn5 : n < 512) (hv9 : 0 ≤ v ∧ v < 100000000) (hp9 : p < 64) (hw9 : (σ 12 0 = 0 ∧ w = 0) ∨ (w : Int) < σ 12 0) (hs9 : (σ 7 0 = 0 ∧ s = 0) ∨ (s : Int) < σ 7 0) (hn1 : 0 < σ 12 0) (kk : ∀ (μ' : Mm) (σ' : SS), LwS G z μ' xa A σ' (n + 1) → Wx E G (cells + 800) (slots + 47000) 2027 [(0, .ref bs), (1, .ref xa), (2, .ref (A 0)), (3, .ref (A 1)), (4, .ref (A 2)), (5, .ref (A 3)), (6, .ref (A 4)), (7, .ref (A 5)), (8, .ref (A 6)), (9, .ref (A 7)), (10, .ref (A 8)), (11, .ref (A 9)), (12, .ref (A 10)), (13, .ref (A 11)), (14, .ref (A 12)), (15, .int (zI 1)), (16, .int (zI (τ : Int))), (19, .int (zI v))] [] μ') : Wx E G cells slots 1243 [(0, .ref bs), (1, .ref xa), (2, .ref (A 0)), (3, .ref (A 1)), (4, .ref (A 2)), (5, .ref (A 3)), (6, .ref (A 4)), (7, .ref (A 5)), (8, .ref (A 6)), (9, .ref (A 7)), (10, .ref (A 8)), (11, .ref (A 9)), (12, .ref (A 10)), (13, .ref (A 11)), (14, .ref (A 12)), (15, .int (zI 1)), (16, .int (zI (τ : Int))), (17, .int (zI f9)), (18, .int (zI kd)), (19, .int (zI v)), (20, .int (zI (p : Int))), (21, .int (zI (w : Int))), (22, .int (zI (s : Int)))] [] μ := by
  obtain ⟨hC, hK, hn, hh, ⟨K, hz, hZB⟩, hd, hy, hg, hu, ⟨W, hw, hWR⟩, hs, ht, he, hb, C9, hcc⟩ := hS
  have hGv := hC.gv
  have h7 := hK.1.n7
  have h12 := hK.1.n12
  have h18 := hK.1.n18
  have h23 := hK.1.n23
  have hwb : (w : Int) < σ 12 0 := by omega
  obtain ⟨e0, e1, e2, e3, e4⟩ := hWR w hwb
  have h14 := hK.1.r14 w (by omega)
  have h15 := hK.1.r15 w (by omega)
  have h16 := hK.1.r16 w (by omega)
  have h8 := hK.1.r8 s (by omega)
  have J1278 : ∀ (q9 : Int) (hq9 : 0 ≤ q9 ∧ q9 < 64), Wx E G cells slots 1278 [(0, .ref bs), (1, .ref xa), (2, .ref (A 0)), (3, .ref (A 1)), (4, .ref (A 2)), (5, .ref (A 3)), (6, .ref (A 4)), (7, .ref (A 5)), (8, .ref (A 6)), (9, .ref (A 7)), (10, .ref (A 8)), (11, .ref (A 9)), (12, .ref (A 10)), (13, .ref (A 11)), (14, .ref (A 12)), (15, .int (zI 1)), (16, .int (zI (τ : Int))), (17, .int (zI f9)), (18, .int (zI kd)), (19, .int (zI v)), (20, .int (zI (p : Int))), (21, .int (zI (w : Int))), (22, .int (zI (s : Int)))] [.int (zI q9)] μ := by
    intro q9 hq9
    refine x_istore (lv' := [(23, .int (zI q9)), (0, .ref bs), (1, .ref xa), (2, .ref (A 0)), (3, .ref (A 1)), (4, .ref (A 2)), (5, .ref (A 3)), (6, .ref (A 4)), (7, .ref (A 5)), (8, .ref (A 6)), (9, .ref (A 7)), (10, .ref (A 8)), (11, .ref (A 9)), (12, .ref (A 10)), (13, .ref (A 11)), (14, .ref (A 12)), (15, .int (zI 1)), (16, .int (zI (τ : Int))), (17, .int (zI f9)), (18, .int (zI kd)), (19, .int (zI v)), (20, .int (zI (p : Int))), (21, .int (zI (w : Int))), (22, .int (zI (s : Int)))]) C dL_law_1278 (by decide) rfl ?_
    refine z_iconst C dL_law_1280 ?_
    refine x_iload C dL_law_1281 22 rfl ?_
    refine z_imul C dL_law_1283 rfl ?_
    refine x_istore (lv' := [(24, .int (zI (5 * (w : Int)))), (23, .int (zI q9)), (0, .ref bs), (1, .ref xa), (2, .ref (A 0)), (3, .ref (A 1)), (4, .ref (A 2)), (5, .ref (A 3)), (6, .ref (A 4)), (7, .ref (A 5)), (8, .ref (A 6)), (9, .ref (A 7)), (10, .ref (A 8)), (11, .ref (A 9)), (12, .ref (A 10)), (13, .ref (A 11)), (14, .ref (A 12)), (15, .int (zI 1)), (16, .int (zI (τ : Int))), (17, .int (zI f9)), (18, .int (zI kd)), (19, .int (zI v)), (20, .int (zI (p : Int))), (21, .int (zI (w : Int))), (22, .int (zI (s : Int)))]) C dL_law_1284 (by decide) rfl ?_
    have hts : t_send σ (w : Int) q9 = 0 := if_pos ⟨⟨by omega, hwb⟩, hq9⟩
    refine x_aload_n C dL_law_1286 rfl 5 rfl ?_
    refine x_aload C dL_law_1287 6 rfl ?_
    refine x_iload C dL_law_1289 1 rfl ?_
    refine x_aload C dL_law_1291 16 rfl ?_
    refine x_callS (n := 4) (cc9 := (cells + 1)) (ss9 := (slots + 64)) (rest := []) C dL_law_1293 (c_L_lays (kxL E) C.st G z μ (A 1) (A 2) (A 12) 3010 σ n K q9 _ hK.1 hh hz hZB hcc (by omega) (by omega)) gL_law_L_lays rfl (by decide +kernel) ⟨(Nat.le_of_ble_eq_true rfl), (Nat.le_of_ble_eq_true rfl)⟩ rfl rfl (Nat.le_of_ble_eq_true rfl) rfl rfl ⟨(by omega), (by omega)⟩ nX_no (fun v1 μ2 hv3 => ?_)
    obtain ⟨hw7, h5⟩ := hv3
    subst hw7
    obtain ⟨⟨C8, hcc, hLD⟩, hF9⟩ := h5
    have hF8 := hF9
    have hC : RepC G z μ2 xa σ n := hF8.repc hC
    have hn := hF8.ai hn
    have hh := hF8.ai hh
    have hz := hF8.ol hz
    have hd := hF8.ai hd
    have hy := hF8.ai hy
    have hg := hF8.ai hg
    have hu := hF8.ai hu
    have hw := hF8.ai hw
    have hs := hF8.ai hs
    have ht := hF8.ai ht
    have he := hF8.ai he
    have hb := hF8.ai hb
    refine x_stk (stk' := []) rfl ?_
    refine x_aload C dL_law_1296 11 rfl ?_
    refine x_iload C dL_law_1298 0 rfl ?_
    refine z_iconst C dL_law_1300 ?_
    refine z_iadd C dL_law_1301 rfl ?_
    refine x_aload C dL_law_1302 11 rfl ?_
    refine x_iload C dL_law_1304 0 rfl ?_
    refine z_iconst C dL_law_1306 ?_
    refine z_iadd C dL_law_1307 rfl ?_
    refine z_iald (j := 5 * w + 3) C dL_law_1308 hw (by omega) (by omega) (by decide) ?_
    refine z_if_ge (tgt := 1328) C dL_law_1309 (by decide) (rg_of (by omega) (by omega)) (fun c_9 => ?_) (fun c_9 => ?_)
    · refine x_iload C dL_law_1328 1 rfl ?_
      refine z_iast (j := 5 * w + 2) C dL_law_1330 hw (by omega) (by omega) (by decide) (fun μ10 hww hF11 => ?_)
      have hC : RepC G z μ10 xa σ n := hF11.repc hC
      have hn := hF11.ai hn
      have hh := hF11.ai hh
      have hz := hF11.ol hz
      have hd := hF11.ai hd
      have hy := hF11.ai hy
      have hg := hF11.ai hg
      have hu := hF11.ai hu
      have hs := hF11.ai hs
      have ht := hF11.ai ht
      have he := hF11.ai he
      have hb := hF11.ai hb
      have hcc := hF11.ai hcc
      have hw := hww
      refine x_aload_n C dL_law_1331 rfl 3 rfl ?_
      refine x_iload C dL_law_1332 23 rfl ?_
      refine x_iload C dL_law_1334 1 rfl ?_
      refine x_callV (n := 2) (ci := 9) (Cn := RX8) (T := TX8) (N := 10) (cc9 := ((cells + 1) + 2)) (ss9 := ((slots + 64) + 12)) (rest := []) C dL_law_1336 (c_X8_send (kxL E) C.st G z μ10 xa σ n (w : Int) q9 hC hK.1 (by omega) (by omega)) gL_law_X8_send rfl (by decide +kernel) ⟨(Nat.le_of_ble_eq_true rfl), (Nat.le_of_ble_eq_true rfl)⟩ rfl hC.ob rfl rfl (Nat.le_of_ble_eq_true rfl) rfl rfl ⟨(by omega), (by omega)⟩ (fun En hEn => by (exfalso; have h9 := hEn.2; rw [hts] at h9; omega)) (fun v12 μ13 hv14 => ?_)
      obtain ⟨r15, hw18, h16⟩ := hv14
      subst hw18
      obtain ⟨⟨hts2, hr9, hC⟩, hF9⟩ := h16
      have hF19 := hF9
      have hn := hF19.ai hn
      have hh := hF19.ai hh
      have hz := hF19.ol hz
      have hd := hF19.ai hd
      have hy := hF19.ai hy
      have hg := hF19.ai hg
      have hu := hF19.ai hu
      have hw := hF19.ai hw
      have hs := hF19.ai hs
      have ht := hF19.ai ht
      have he := hF19.ai he
      have hb := hF19.ai hb
      have hcc := hF19.ai hcc
      rw [Int.toNat_natCast, ← e1] at hr9
      refine x_stk (stk' := [.int (zI r15)]) rfl ?_
      have hbw := LD_bway (p := σ 14 w) (q := q9) hLD (by omega)
      rw [← e1] at hbw
      have hbx := hLD.1 (W (5 * w + 1)).toNat (by omega)
      refine x_aload C dL_law_1339 16 rfl ?_
      refine x_aload C dL_law_1341 11 rfl ?_
      refine x_iload C dL_law_1343 0 rfl ?_
      refine z_iconst C dL_law_1345 ?_
      refine z_iadd C dL_law_1346 rfl ?_
      refine z_iald (j := 5 * w + 1) C dL_law_1347 hw (by omega) (by omega) (by decide) ?_
      refine x_stk (stk' := [.int (zI (W (5 * w + 1))), .ref (A 12), .int (zI r15)]) (by (rw [wr_ne (by omega)])) ?_
      refine z_iald (j := (W (5 * w + 1)).toNat) C dL_law_1348 hcc (by omega) (by omega) (by decide) ?_
      refine z_ldc (w := (100000)) (v := (100000)) C dL_law_1349 (by decide +kernel) (by decide) ?_
      refine z_icmp_ne (tgt := 1358) C dL_law_1351 (by decide) (rg_of (by omega) (by omega)) (rg_of (by omega) (by omega)) (fun c_20 => ?_) (fun c_20 => ?_)
      · refine x_aload C dL_law_1358 16 rfl ?_
        refine x_aload C dL_law_1360 11 rfl ?_
        refine x_iload C dL_law_1362 0 rfl ?_
        refine z_iconst C dL_law_1364 ?_
        refine z_iadd C dL_law_1365 rfl ?_
        refine z_iald (j := 5 * w + 1) C dL_law_1366 hw (by omega) (by omega) (by decide) ?_
        refine x_stk (stk' := [.int (zI (W (5 * w + 1))), .ref (A 12), .int (zI r15)]) (by (rw [wr_ne (by omega)])) ?_
        refine z_iald (j := (W (5 * w + 1)).toNat) C dL_law_1367 hcc (by omega) (by omega) (by decide) ?_
        refine z_icmp_ne (tgt := 1375) C dL_law_1368 (by decide) (rg_of (by omega) (by omega)) (rg_of (by omega) (by omega)) (fun c_21 => ?_) (fun c_21 => ?_)
        · exfalso; omega
        · refine z_iconst C dL_law_1371 ?_
          refine x_goto (tgt := 1376) C dL_law_1372 (by decide) ?_
          refine x_istore (lv' := [(15, .int (zI 1)), (24, .int (zI (5 * (w : Int)))), (23, .int (zI q9)), (0, .ref bs), (1, .ref xa), (2, .ref (A 0)), (3, .ref (A 1)), (4, .ref (A 2)), (5, .ref (A 3)), (6, .ref (A 4)), (7, .ref (A 5)), (8, .ref (A 6)), (9, .ref (A 7)), (10, .ref (A 8)), (11, .ref (A 9)), (12, .ref (A 10)), (13, .ref (A 11)), (14, .ref (A 12)), (16, .int (zI (τ : Int))), (17, .int (zI f9)), (18, .int (zI kd)), (19, .int (zI v)), (20, .int (zI (p : Int))), (21, .int (zI (w : Int))), (22, .int (zI (s : Int)))]) C dL_law_1376 (by decide) rfl ?_
          refine x_goto (tgt := 2027) C dL_law_1378 (by decide) ?_
          refine x_sub (lv' := [(0, .ref bs), (1, .ref xa), (2, .ref (A 0)), (3, .ref (A 1)), (4, .ref (A 2)), (5, .ref (A 3)), (6, .ref (A 4)), (7, .ref (A 5)), (8, .ref (A 6)), (9, .ref (A 7)), (10, .ref (A 8)), (11, .ref (A 9)), (12, .ref (A 10)), (13, .ref (A 11)), (14, .ref (A 12)), (15, .int (zI 1)), (16, .int (zI (τ : Int))), (19, .int (zI v))]) [3, 4, 5, 6, 7, 8, 9, 10, 11, 12, 13, 14, 15, 16, 17, 0, 18, 21] rfl ?_
          exact x_wid (by omega) (by omega) (kk _ (n_send σ (w : Int) q9) ⟨hC.mono, (Kv_send hK hts).mono, (by (rw [nF_c (σ := σ) (σ' := (n_send σ (w : Int) q9)) rfl rfl rfl rfl]; exact hn)), hh, ⟨_, hz, hZB.c rfl⟩, (by (rw [dF_c (σ := σ) (σ' := (n_send σ (w : Int) q9)) rfl rfl rfl rfl]; exact hd)), hy, (by (rw [gF_c (σ := σ) (σ' := (n_send σ (w : Int) q9)) rfl rfl]; exact hg)), (by (rw [uF_c (σ := σ) (σ' := (n_send σ (w : Int) q9)) rfl rfl]; exact hu)), ⟨_, hw, WR_send (v := q9) hWR rfl (by omega)⟩, (by (rw [sF_c (σ := σ) (σ' := (n_send σ (w : Int) q9)) rfl]; exact hs)), (by (rw [tF_c (σ := σ) (σ' := (n_send σ (w : Int) q9)) rfl]; exact ht)), he, hb, _, hcc⟩)
      · refine z_iconst C dL_law_1354 ?_
        refine x_goto (tgt := 1368) C dL_law_1355 (by decide) ?_
        refine z_icmp_ne (tgt := 1375) C dL_law_1368 (by decide) (rg_of (by omega) (by omega)) (rg_of (by omega) (by omega)) (fun c_22 => ?_) (fun c_22 => ?_)
        · exfalso; omega
        · refine z_iconst C dL_law_1371 ?_
          refine x_goto (tgt := 1376) C dL_law_1372 (by decide) ?_
          refine x_istore (lv' := [(15, .int (zI 1)), (24, .int (zI (5 * (w : Int)))), (23, .int (zI q9)), (0, .ref bs), (1, .ref xa), (2, .ref (A 0)), (3, .ref (A 1)), (4, .ref (A 2)), (5, .ref (A 3)), (6, .ref (A 4)), (7, .ref (A 5)), (8, .ref (A 6)), (9, .ref (A 7)), (10, .ref (A 8)), (11, .ref (A 9)), (12, .ref (A 10)), (13, .ref (A 11)), (14, .ref (A 12)), (16, .int (zI (τ : Int))), (17, .int (zI f9)), (18, .int (zI kd)), (19, .int (zI v)), (20, .int (zI (p : Int))), (21, .int (zI (w : Int))), (22, .int (zI (s : Int)))]) C dL_law_1376 (by decide) rfl ?_
          refine x_goto (tgt := 2027) C dL_law_1378 (by decide) ?_
          refine x_sub (lv' := [(0, .ref bs), (1, .ref xa), (2, .ref (A 0)), (3, .ref (A 1)), (4, .ref (A 2)), (5, .ref (A 3)), (6, .ref (A 4)), (7, .ref (A 5)), (8, .ref (A 6)), (9, .ref (A 7)), (10, .ref (A 8)), (11, .ref (A 9)), (12, .ref (A 10)), (13, .ref (A 11)), (14, .ref (A 12)), (15, .int (zI 1)), (16, .int (zI (τ : Int))), (19, .int (zI v))]) [3, 4, 5, 6, 7, 8, 9, 10, 11, 12, 13, 14, 15, 16, 17, 0, 18, 21] rfl ?_
          exact x_wid (by omega) (by omega) (kk _ (n_send σ (w : Int) q9) ⟨hC.mono, (Kv_send hK hts).mono, (by (rw [nF_c (σ := σ) (σ' := (n_send σ (w : Int) q9)) rfl rfl rfl rfl]; exact hn)), hh, ⟨_, hz, hZB.c rfl⟩, (by (rw [dF_c (σ := σ) (σ' := (n_send σ (w : Int) q9)) rfl rfl rfl rfl]; exact hd)), hy, (by (rw [gF_c (σ := σ) (σ' := (n_send σ (w : Int) q9)) rfl rfl]; exact hg)), (by (rw [uF_c (σ := σ) (σ' := (n_send σ (w : Int) q9)) rfl rfl]; exact hu)), ⟨_, hw, WR_send (v := q9) hWR rfl (by omega)⟩, (by (rw [sF_c (σ := σ) (σ' := (n_send σ (w : Int) q9)) rfl]; exact hs)), (by (rw [tF_c (σ := σ) (σ' := (n_send σ (w : Int) q9)) rfl]; exact ht)), he, hb, _, hcc⟩)
    · refine x_aload C dL_law_1312 11 rfl ?_
      refine x_iload C dL_law_1314 0 rfl ?_
      refine z_iconst C dL_law_1316 ?_
      refine z_iadd C dL_law_1317 rfl ?_
      refine z_iald (j := 5 * w + 1) C dL_law_1318 hw (by omega) (by omega) (by decide) ?_
      refine x_iload C dL_law_1319 1 rfl ?_
      refine z_icmp_ne (tgt := 1328) C dL_law_1321 (by decide) (rg_of (by omega) (by omega)) (rg_of (by omega) (by omega)) (fun c_23 => ?_) (fun c_23 => ?_)
      · refine x_iload C dL_law_1328 1 rfl ?_
        refine z_iast (j := 5 * w + 2) C dL_law_1330 hw (by omega) (by omega) (by decide) (fun μ24 hww hF25 => ?_)
        have hC : RepC G z μ24 xa σ n := hF25.repc hC
        have hn := hF25.ai hn
        have hh := hF25.ai hh
        have hz := hF25.ol hz
        have hd := hF25.ai hd
        have hy := hF25.ai hy
        have hg := hF25.ai hg
        have hu := hF25.ai hu
        have hs := hF25.ai hs
        have ht := hF25.ai ht
        have he := hF25.ai he
        have hb := hF25.ai hb
        have hcc := hF25.ai hcc
        have hw := hww
        refine x_aload_n C dL_law_1331 rfl 3 rfl ?_
        refine x_iload C dL_law_1332 23 rfl ?_
        refine x_iload C dL_law_1334 1 rfl ?_
        refine x_callV (n := 2) (ci := 9) (Cn := RX8) (T := TX8) (N := 10) (cc9 := ((cells + 1) + 2)) (ss9 := ((slots + 64) + 12)) (rest := []) C dL_law_1336 (c_X8_send (kxL E) C.st G z μ24 xa σ n (w : Int) q9 hC hK.1 (by omega) (by omega)) gL_law_X8_send rfl (by decide +kernel) ⟨(Nat.le_of_ble_eq_true rfl), (Nat.le_of_ble_eq_true rfl)⟩ rfl hC.ob rfl rfl (Nat.le_of_ble_eq_true rfl) rfl rfl ⟨(by omega), (by omega)⟩ (fun En hEn => by (exfalso; have h9 := hEn.2; rw [hts] at h9; omega)) (fun v26 μ27 hv28 => ?_)
        obtain ⟨r29, hw32, h30⟩ := hv28
        subst hw32
        obtain ⟨⟨hts2, hr9, hC⟩, hF9⟩ := h30
        have hF33 := hF9
        have hn := hF33.ai hn
        have hh := hF33.ai hh
        have hz := hF33.ol hz
        have hd := hF33.ai hd
        have hy := hF33.ai hy
        have hg := hF33.ai hg
        have hu := hF33.ai hu
        have hw := hF33.ai hw
        have hs := hF33.ai hs
        have ht := hF33.ai ht
        have he := hF33.ai he
        have hb := hF33.ai hb
        have hcc := hF33.ai hcc
        rw [Int.toNat_natCast, ← e1] at hr9
        refine x_stk (stk' := [.int (zI r29)]) rfl ?_
        have hbw := LD_bway (p := σ 14 w) (q := q9) hLD (by omega)
        rw [← e1] at hbw
        have hbx := hLD.1 (W (5 * w + 1)).toNat (by omega)
        refine x_aload C dL_law_1339 16 rfl ?_
        refine x_aload C dL_law_1341 11 rfl ?_
        refine x_iload C dL_law_1343 0 rfl ?_
        refine z_iconst C dL_law_1345 ?_
        refine z_iadd C dL_law_1346 rfl ?_
        refine z_iald (j := 5 * w + 1) C dL_law_1347 hw (by omega) (by omega) (by decide) ?_
        refine x_stk (stk' := [.int (zI (W (5 * w + 1))), .ref (A 12), .int (zI r29)]) (by (rw [wr_ne (by omega)])) ?_
        refine z_iald (j := (W (5 * w + 1)).toNat) C dL_law_1348 hcc (by omega) (by omega) (by decide) ?_
        refine z_ldc (w := (100000)) (v := (100000)) C dL_law_1349 (by decide +kernel) (by decide) ?_
        refine z_icmp_ne (tgt := 1358) C dL_law_1351 (by decide) (rg_of (by omega) (by omega)) (rg_of (by omega) (by omega)) (fun c_34 => ?_) (fun c_34 => ?_)
        · refine x_aload C dL_law_1358 16 rfl ?_
          refine x_aload C dL_law_1360 11 rfl ?_
          refine x_iload C dL_law_1362 0 rfl ?_
          refine z_iconst C dL_law_1364 ?_
          refine z_iadd C dL_law_1365 rfl ?_
          refine z_iald (j := 5 * w + 1) C dL_law_1366 hw (by omega) (by omega) (by decide) ?_
          refine x_stk (stk' := [.int (zI (W (5 * w + 1))), .ref (A 12), .int (zI r29)]) (by (rw [wr_ne (by omega)])) ?_
          refine z_iald (j := (W (5 * w + 1)).toNat) C dL_law_1367 hcc (by omega) (by omega) (by decide) ?_
          refine z_icmp_ne (tgt := 1375) C dL_law_1368 (by decide) (rg_of (by omega) (by omega)) (rg_of (by omega) (by omega)) (fun c_35 => ?_) (fun c_35 => ?_)
          · exfalso; omega
          · refine z_iconst C dL_law_1371 ?_
            refine x_goto (tgt := 1376) C dL_law_1372 (by decide) ?_
            refine x_istore (lv' := [(15, .int (zI 1)), (24, .int (zI (5 * (w : Int)))), (23, .int (zI q9)), (0, .ref bs), (1, .ref xa), (2, .ref (A 0)), (3, .ref (A 1)), (4, .ref (A 2)), (5, .ref (A 3)), (6, .ref (A 4)), (7, .ref (A 5)), (8, .ref (A 6)), (9, .ref (A 7)), (10, .ref (A 8)), (11, .ref (A 9)), (12, .ref (A 10)), (13, .ref (A 11)), (14, .ref (A 12)), (16, .int (zI (τ : Int))), (17, .int (zI f9)), (18, .int (zI kd)), (19, .int (zI v)), (20, .int (zI (p : Int))), (21, .int (zI (w : Int))), (22, .int (zI (s : Int)))]) C dL_law_1376 (by decide) rfl ?_
            refine x_goto (tgt := 2027) C dL_law_1378 (by decide) ?_
            refine x_sub (lv' := [(0, .ref bs), (1, .ref xa), (2, .ref (A 0)), (3, .ref (A 1)), (4, .ref (A 2)), (5, .ref (A 3)), (6, .ref (A 4)), (7, .ref (A 5)), (8, .ref (A 6)), (9, .ref (A 7)), (10, .ref (A 8)), (11, .ref (A 9)), (12, .ref (A 10)), (13, .ref (A 11)), (14, .ref (A 12)), (15, .int (zI 1)), (16, .int (zI (τ : Int))), (19, .int (zI v))]) [3, 4, 5, 6, 7, 8, 9, 10, 11, 12, 13, 14, 15, 16, 17, 0, 18, 21] rfl ?_
            exact x_wid (by omega) (by omega) (kk _ (n_send σ (w : Int) q9) ⟨hC.mono, (Kv_send hK hts).mono, (by (rw [nF_c (σ := σ) (σ' := (n_send σ (w : Int) q9)) rfl rfl rfl rfl]; exact hn)), hh, ⟨_, hz, hZB.c rfl⟩, (by (rw [dF_c (σ := σ) (σ' := (n_send σ (w : Int) q9)) rfl rfl rfl rfl]; exact hd)), hy, (by (rw [gF_c (σ := σ) (σ' := (n_send σ (w : Int) q9)) rfl rfl]; exact hg)), (by (rw [uF_c (σ := σ) (σ' := (n_send σ (w : Int) q9)) rfl rfl]; exact hu)), ⟨_, hw, WR_send (v := q9) hWR rfl (by omega)⟩, (by (rw [sF_c (σ := σ) (σ' := (n_send σ (w : Int) q9)) rfl]; exact hs)), (by (rw [tF_c (σ := σ) (σ' := (n_send σ (w : Int) q9)) rfl]; exact ht)), he, hb, _, hcc⟩)
        · refine z_iconst C dL_law_1354 ?_
          refine x_goto (tgt := 1368) C dL_law_1355 (by decide) ?_
          refine z_icmp_ne (tgt := 1375) C dL_law_1368 (by decide) (rg_of (by omega) (by omega)) (rg_of (by omega) (by omega)) (fun c_36 => ?_) (fun c_36 => ?_)
          · exfalso; omega
          · refine z_iconst C dL_law_1371 ?_
            refine x_goto (tgt := 1376) C dL_law_1372 (by decide) ?_
            refine x_istore (lv' := [(15, .int (zI 1)), (24, .int (zI (5 * (w : Int)))), (23, .int (zI q9)), (0, .ref bs), (1, .ref xa), (2, .ref (A 0)), (3, .ref (A 1)), (4, .ref (A 2)), (5, .ref (A 3)), (6, .ref (A 4)), (7, .ref (A 5)), (8, .ref (A 6)), (9, .ref (A 7)), (10, .ref (A 8)), (11, .ref (A 9)), (12, .ref (A 10)), (13, .ref (A 11)), (14, .ref (A 12)), (16, .int (zI (τ : Int))), (17, .int (zI f9)), (18, .int (zI kd)), (19, .int (zI v)), (20, .int (zI (p : Int))), (21, .int (zI (w : Int))), (22, .int (zI (s : Int)))]) C dL_law_1376 (by decide) rfl ?_
            refine x_goto (tgt := 2027) C dL_law_1378 (by decide) ?_
            refine x_sub (lv' := [(0, .ref bs), (1, .ref xa), (2, .ref (A 0)), (3, .ref (A 1)), (4, .ref (A 2)), (5, .ref (A 3)), (6, .ref (A 4)), (7, .ref (A 5)), (8, .ref (A 6)), (9, .ref (A 7)), (10, .ref (A 8)), (11, .ref (A 9)), (12, .ref (A 10)), (13, .ref (A 11)), (14, .ref (A 12)), (15, .int (zI 1)), (16, .int (zI (τ : Int))), (19, .int (zI v))]) [3, 4, 5, 6, 7, 8, 9, 10, 11, 12, 13, 14, 15, 16, 17, 0, 18, 21] rfl ?_
            exact x_wid (by omega) (by omega) (kk _ (n_send σ (w : Int) q9) ⟨hC.mono, (Kv_send hK hts).mono, (by (rw [nF_c (σ := σ) (σ' := (n_send σ (w : Int) q9)) rfl rfl rfl rfl]; exact hn)), hh, ⟨_, hz, hZB.c rfl⟩, (by (rw [dF_c (σ := σ) (σ' := (n_send σ (w : Int) q9)) rfl rfl rfl rfl]; exact hd)), hy, (by (rw [gF_c (σ := σ) (σ' := (n_send σ (w : Int) q9)) rfl rfl]; exact hg)), (by (rw [uF_c (σ := σ) (σ' := (n_send σ (w : Int) q9)) rfl rfl]; exact hu)), ⟨_, hw, WR_send (v := q9) hWR rfl (by omega)⟩, (by (rw [sF_c (σ := σ) (σ' := (n_send σ (w : Int) q9)) rfl]; exact hs)), (by (rw [tF_c (σ := σ) (σ' := (n_send σ (w : Int) q9)) rfl]; exact ht)), he, hb, _, hcc⟩)
      · refine z_iconst C dL_law_1324 ?_
        refine x_goto (tgt := 1330) C dL_law_1325 (by decide) ?_
        refine z_iast (j := 5 * w + 2) C dL_law_1330 hw (by omega) (by omega) (by decide) (fun μ37 hww hF38 => ?_)
        have hC : RepC G z μ37 xa σ n := hF38.repc hC
        have hn := hF38.ai hn
        have hh := hF38.ai hh
        have hz := hF38.ol hz
        have hd := hF38.ai hd
        have hy := hF38.ai hy
        have hg := hF38.ai hg
        have hu := hF38.ai hu
        have hs := hF38.ai hs
        have ht := hF38.ai ht
        have he := hF38.ai he
        have hb := hF38.ai hb
        have hcc := hF38.ai hcc
        have hw := hww
        refine x_aload_n C dL_law_1331 rfl 3 rfl ?_
        refine x_iload C dL_law_1332 23 rfl ?_
        refine x_iload C dL_law_1334 1 rfl ?_
        refine x_callV (n := 2) (ci := 9) (Cn := RX8) (T := TX8) (N := 10) (cc9 := ((cells + 1) + 2)) (ss9 := ((slots + 64) + 12)) (rest := []) C dL_law_1336 (c_X8_send (kxL E) C.st G z μ37 xa σ n (w : Int) q9 hC hK.1 (by omega) (by omega)) gL_law_X8_send rfl (by decide +kernel) ⟨(Nat.le_of_ble_eq_true rfl), (Nat.le_of_ble_eq_true rfl)⟩ rfl hC.ob rfl rfl (Nat.le_of_ble_eq_true rfl) rfl rfl ⟨(by omega), (by omega)⟩ (fun En hEn => by (exfalso; have h9 := hEn.2; rw [hts] at h9; omega)) (fun v39 μ40 hv41 => ?_)
        obtain ⟨r42, hw45, h43⟩ := hv41
        subst hw45
        obtain ⟨⟨hts2, hr9, hC⟩, hF9⟩ := h43
        have hF46 := hF9
        have hn := hF46.ai hn
        have hh := hF46.ai hh
        have hz := hF46.ol hz
        have hd := hF46.ai hd
        have hy := hF46.ai hy
        have hg := hF46.ai hg
        have hu := hF46.ai hu
        have hw := hF46.ai hw
        have hs := hF46.ai hs
        have ht := hF46.ai ht
        have he := hF46.ai he
        have hb := hF46.ai hb
        have hcc := hF46.ai hcc
        rw [Int.toNat_natCast, ← e1] at hr9
        refine x_stk (stk' := [.int (zI r42)]) rfl ?_
        have hbw := LD_bway (p := σ 14 w) (q := q9) hLD (by omega)
        rw [← e1] at hbw
        have hbx := hLD.1 (W (5 * w + 1)).toNat (by omega)
        refine x_aload C dL_law_1339 16 rfl ?_
        refine x_aload C dL_law_1341 11 rfl ?_
        refine x_iload C dL_law_1343 0 rfl ?_
        refine z_iconst C dL_law_1345 ?_
        refine z_iadd C dL_law_1346 rfl ?_
        refine z_iald (j := 5 * w + 1) C dL_law_1347 hw (by omega) (by omega) (by decide) ?_
        refine x_stk (stk' := [.int (zI (W (5 * w + 1))), .ref (A 12), .int (zI r42)]) (by (rw [wr_ne (by omega)])) ?_
        refine z_iald (j := (W (5 * w + 1)).toNat) C dL_law_1348 hcc (by omega) (by omega) (by decide) ?_
        refine z_ldc (w := (100000)) (v := (100000)) C dL_law_1349 (by decide +kernel) (by decide) ?_
        refine z_icmp_ne (tgt := 1358) C dL_law_1351 (by decide) (rg_of (by omega) (by omega)) (rg_of (by omega) (by omega)) (fun c_47 => ?_) (fun c_47 => ?_)
        · refine x_aload C dL_law_1358 16 rfl ?_
          refine x_aload C dL_law_1360 11 rfl ?_
          refine x_iload C dL_law_1362 0 rfl ?_
          refine z_iconst C dL_law_1364 ?_
          refine z_iadd C dL_law_1365 rfl ?_
          refine z_iald (j := 5 * w + 1) C dL_law_1366 hw (by omega) (by omega) (by decide) ?_
          refine x_stk (stk' := [.int (zI (W (5 * w + 1))), .ref (A 12), .int (zI r42)]) (by (rw [wr_ne (by omega)])) ?_
          refine z_iald (j := (W (5 * w + 1)).toNat) C dL_law_1367 hcc (by omega) (by omega) (by decide) ?_
          refine z_icmp_ne (tgt := 1375) C dL_law_1368 (by decide) (rg_of (by omega) (by omega)) (rg_of (by omega) (by omega)) (fun c_48 => ?_) (fun c_48 => ?_)
          · exfalso; omega
          · refine z_iconst C dL_law_1371 ?_
            refine x_goto (tgt := 1376) C dL_law_1372 (by decide) ?_
            refine x_istore (lv' := [(15, .int (zI 1)), (24, .int (zI (5 * (w : Int)))), (23, .int (zI q9)), (0, .ref bs), (1, .ref xa), (2, .ref (A 0)), (3, .ref (A 1)), (4, .ref (A 2)), (5, .ref (A 3)), (6, .ref (A 4)), (7, .ref (A 5)), (8, .ref (A 6)), (9, .ref (A 7)), (10, .ref (A 8)), (11, .ref (A 9)), (12, .ref (A 10)), (13, .ref (A 11)), (14, .ref (A 12)), (16, .int (zI (τ : Int))), (17, .int (zI f9)), (18, .int (zI kd)), (19, .int (zI v)), (20, .int (zI (p : Int))), (21, .int (zI (w : Int))), (22, .int (zI (s : Int)))]) C dL_law_1376 (by decide) rfl ?_
            refine x_goto (tgt := 2027) C dL_law_1378 (by decide) ?_
            refine x_sub (lv' := [(0, .ref bs), (1, .ref xa), (2, .ref (A 0)), (3, .ref (A 1)), (4, .ref (A 2)), (5, .ref (A 3)), (6, .ref (A 4)), (7, .ref (A 5)), (8, .ref (A 6)), (9, .ref (A 7)), (10, .ref (A 8)), (11, .ref (A 9)), (12, .ref (A 10)), (13, .ref (A 11)), (14, .ref (A 12)), (15, .int (zI 1)), (16, .int (zI (τ : Int))), (19, .int (zI v))]) [3, 4, 5, 6, 7, 8, 9, 10, 11, 12, 13, 14, 15, 16, 17, 0, 18, 21] rfl ?_
            exact x_wid (by omega) (by omega) (kk _ (n_send σ (w : Int) q9) ⟨hC.mono, (Kv_send hK hts).mono, (by (rw [nF_c (σ := σ) (σ' := (n_send σ (w : Int) q9)) rfl rfl rfl rfl]; exact hn)), hh, ⟨_, hz, hZB.c rfl⟩, (by (rw [dF_c (σ := σ) (σ' := (n_send σ (w : Int) q9)) rfl rfl rfl rfl]; exact hd)), hy, (by (rw [gF_c (σ := σ) (σ' := (n_send σ (w : Int) q9)) rfl rfl]; exact hg)), (by (rw [uF_c (σ := σ) (σ' := (n_send σ (w : Int) q9)) rfl rfl]; exact hu)), ⟨_, hw, WR_send (v := -1) hWR rfl (by omega)⟩, (by (rw [sF_c (σ := σ) (σ' := (n_send σ (w : Int) q9)) rfl]; exact hs)), (by (rw [tF_c (σ := σ) (σ' := (n_send σ (w : Int) q9)) rfl]; exact ht)), he, hb, _, hcc⟩)
        · refine z_iconst C dL_law_1354 ?_
          refine x_goto (tgt := 1368) C dL_law_1355 (by decide) ?_
          refine z_icmp_ne (tgt := 1375) C dL_law_1368 (by decide) (rg_of (by omega) (by omega)) (rg_of (by omega) (by omega)) (fun c_49 => ?_) (fun c_49 => ?_)
          · exfalso; omega
          · refine z_iconst C dL_law_1371 ?_
            refine x_goto (tgt := 1376) C dL_law_1372 (by decide) ?_
            refine x_istore (lv' := [(15, .int (zI 1)), (24, .int (zI (5 * (w : Int)))), (23, .int (zI q9)), (0, .ref bs), (1, .ref xa), (2, .ref (A 0)), (3, .ref (A 1)), (4, .ref (A 2)), (5, .ref (A 3)), (6, .ref (A 4)), (7, .ref (A 5)), (8, .ref (A 6)), (9, .ref (A 7)), (10, .ref (A 8)), (11, .ref (A 9)), (12, .ref (A 10)), (13, .ref (A 11)), (14, .ref (A 12)), (16, .int (zI (τ : Int))), (17, .int (zI f9)), (18, .int (zI kd)), (19, .int (zI v)), (20, .int (zI (p : Int))), (21, .int (zI (w : Int))), (22, .int (zI (s : Int)))]) C dL_law_1376 (by decide) rfl ?_
            refine x_goto (tgt := 2027) C dL_law_1378 (by decide) ?_
            refine x_sub (lv' := [(0, .ref bs), (1, .ref xa), (2, .ref (A 0)), (3, .ref (A 1)), (4, .ref (A 2)), (5, .ref (A 3)), (6, .ref (A 4)), (7, .ref (A 5)), (8, .ref (A 6)), (9, .ref (A 7)), (10, .ref (A 8)), (11, .ref (A 9)), (12, .ref (A 10)), (13, .ref (A 11)), (14, .ref (A 12)), (15, .int (zI 1)), (16, .int (zI (τ : Int))), (19, .int (zI v))]) [3, 4, 5, 6, 7, 8, 9, 10, 11, 12, 13, 14, 15, 16, 17, 0, 18, 21] rfl ?_
            exact x_wid (by omega) (by omega) (kk _ (n_send σ (w : Int) q9) ⟨hC.mono, (Kv_send hK hts).mono, (by (rw [nF_c (σ := σ) (σ' := (n_send σ (w : Int) q9)) rfl rfl rfl rfl]; exact hn)), hh, ⟨_, hz, hZB.c rfl⟩, (by (rw [dF_c (σ := σ) (σ' := (n_send σ (w : Int) q9)) rfl rfl rfl rfl]; exact hd)), hy, (by (rw [gF_c (σ := σ) (σ' := (n_send σ (w : Int) q9)) rfl rfl]; exact hg)), (by (rw [uF_c (σ := σ) (σ' := (n_send σ (w : Int) q9)) rfl rfl]; exact hu)), ⟨_, hw, WR_send (v := -1) hWR rfl (by omega)⟩, (by (rw [sF_c (σ := σ) (σ' := (n_send σ (w : Int) q9)) rfl]; exact hs)), (by (rw [tF_c (σ := σ) (σ' := (n_send σ (w : Int) q9)) rfl]; exact ht)), he, hb, _, hcc⟩)
  refine x_iload C dL_law_1243 19 rfl ?_
  refine z_iconst C dL_law_1245 ?_
  refine z_irem C dL_law_1246 (rg_of (by omega) (by omega)) (by omega) (rg_of (by omega) (by omega)) (by omega) rfl ?_
  refine z_if_le (tgt := 1276) C dL_law_1247 (by decide) (rg_of (by omega) (by omega)) (fun c_50 => ?_) (fun c_50 => ?_)
  · refine x_iload C dL_law_1276 20 rfl ?_
    exact J1278 _ (by omega)
  · refine x_aload_n C dL_law_1250 rfl 2 rfl ?_
    refine z_iconst C dL_law_1251 ?_
    refine z_iald (j := 0) C dL_law_1252 hn (by omega) (by omega) (by decide) ?_
    refine x_stk (stk' := [.int (zI (σ 7 0))]) (by (rfl)) ?_
    refine z_if_le (tgt := 1276) C dL_law_1253 (by decide) (rg_of (by omega) (by omega)) (fun c_51 => ?_) (fun c_51 => ?_)
    · refine x_iload C dL_law_1276 20 rfl ?_
      exact J1278 _ (by omega)
    · refine x_aload C dL_law_1256 7 rfl ?_
      refine z_iconst C dL_law_1258 ?_
      refine x_iload C dL_law_1259 22 rfl ?_
      refine z_imul C dL_law_1261 rfl ?_
      refine z_iald (j := 2 * s) C dL_law_1262 hg (by omega) (by omega) (by decide) ?_
      refine x_stk (stk' := [.int (zI (σ 8 s))]) (by (rw [gF_0])) ?_
      refine z_if_lt (tgt := 1276) C dL_law_1263 (by decide) (rg_of (by omega) (by omega)) (fun c_52 => ?_) (fun c_52 => ?_)
      · refine x_iload C dL_law_1276 20 rfl ?_
        exact J1278 _ (by omega)
      · refine x_aload C dL_law_1266 7 rfl ?_
        refine z_iconst C dL_law_1268 ?_
        refine x_iload C dL_law_1269 22 rfl ?_
        refine z_imul C dL_law_1271 rfl ?_
        refine z_iald (j := 2 * s) C dL_law_1272 hg (by omega) (by omega) (by decide) ?_
        refine x_stk (stk' := [.int (zI (σ 8 s))]) (by (rw [gF_0])) ?_
        refine x_goto (tgt := 1278) C dL_law_1273 (by decide) ?_
        exact J1278 _ (by omega)
set_option maxHeartbeats 8000000 in
set_option maxRecDepth 100000 in
theorem law_pass {E : EE} {G : GG} {z : Nat} (C : Cx E G z cL_law RL wsL_law room_1 27) {cells slots : Nat} (hcs : cells + 800 ≤ room_1.cells ∧ slots + 47000 ≤ room_1.slots) {μ : Mm} {xa bs : Nat} {A : Nat → Nat} {σ : SS} {n τ : Nat} {f9 kd v : Int} {p w s : Nat} (hS : LwS G z μ xa A σ n) (hn5 : n < 512) (hv9 : 0 ≤ v ∧ v < 100000000) (hp9 : p < 64) (hw9 : (σ 12 0 = 0 ∧ w = 0) ∨ (w : Int) < σ 12 0) (hs9 : (σ 7 0 = 0 ∧ s = 0) ∨ (s : Int) < σ 7 0) (kk : ∀ (μ' : Mm) (σ' : SS), LwS G z μ' xa A σ' (n + 1) → Wx E G (cells + 800) (slots + 47000) 2027 [(0, .ref bs), (1, .ref xa), (2, .ref (A 0)), (3, .ref (A 1)), (4, .ref (A 2)), (5, .ref (A 3)), (6, .ref (A 4)), (7, .ref (A 5)), (8, .ref (A 6)), (9, .ref (A 7)), (10, .ref (A 8)), (11, .ref (A 9)), (12, .ref (A 10)), (13, .ref (A 11)), (14, .ref (A 12)), (15, .int (zI 1)), (16, .int (zI (τ : Int))), (19, .int (zI v))] [] μ') : Wx E G cells slots 1946 [(0, .ref bs), (1, .ref xa), (2, .ref (A 0)), (3, .ref (A 1)), (4, .ref (A 2)), (5, .ref (A 3)), (6, .ref (A 4)), (7, .ref (A 5)), (8, .ref (A 6)), (9, .ref (A 7)), (10, .ref (A 8)), (11, .ref (A 9)), (12, .ref (A 10)), (13, .ref (A 11)), (14, .ref (A 12)), (15, .int (zI 1)), (16, .int (zI (τ : Int))), (17, .int (zI f9)), (18, .int (zI kd)), (19, .int (zI v)), (20, .int (zI (p : Int))), (21, .int (zI (w : Int))), (22, .int (zI (s : Int)))] [] μ := by
  obtain ⟨hC, hK, hn, hh, ⟨K, hz, hZB⟩, hd, hy, hg, hu, ⟨W, hw, hWR⟩, hs, ht, he, hb, C9, hcc⟩ := hS
  have hGv := hC.gv
  have h7 := hK.1.n7
  have h12 := hK.1.n12
  have h18 := hK.1.n18
  have h23 := hK.1.n23
  refine x_aload_n C dL_law_1946 rfl 2 rfl ?_
  refine z_iconst C dL_law_1947 ?_
  refine z_iald (j := 3) C dL_law_1948 hn (by omega) (by omega) (by decide) ?_
  refine x_stk (stk' := [.int (zI (σ 23 0))]) (by (rfl)) ?_
  refine z_sipush C dL_law_1949 (by decide) ?_
  refine z_icmp_ge (tgt := 2027) C dL_law_1952 (by decide) (rg_of (by omega) (by omega)) (rg_of (by omega) (by omega)) (fun c_1 => ?_) (fun c_1 => ?_)
  · refine x_sub (lv' := [(0, .ref bs), (1, .ref xa), (2, .ref (A 0)), (3, .ref (A 1)), (4, .ref (A 2)), (5, .ref (A 3)), (6, .ref (A 4)), (7, .ref (A 5)), (8, .ref (A 6)), (9, .ref (A 7)), (10, .ref (A 8)), (11, .ref (A 9)), (12, .ref (A 10)), (13, .ref (A 11)), (14, .ref (A 12)), (15, .int (zI 1)), (16, .int (zI (τ : Int))), (19, .int (zI v))]) [0, 1, 2, 3, 4, 5, 6, 7, 8, 9, 10, 11, 12, 13, 14, 15, 16, 19] rfl ?_
    exact x_wid (by omega) (by omega) (kk _ σ ⟨hC.mono, hK.mono, hn, hh, ⟨_, hz, hZB⟩, hd, hy, hg, hu, ⟨_, hw, hWR⟩, hs, ht, he, hb, _, hcc⟩)
  · have J1974 : ∀ (tk : Int) (htk : 1 ≤ tk ∧ tk ≤ 60), Wx E G cells slots 1974 [(0, .ref bs), (1, .ref xa), (2, .ref (A 0)), (3, .ref (A 1)), (4, .ref (A 2)), (5, .ref (A 3)), (6, .ref (A 4)), (7, .ref (A 5)), (8, .ref (A 6)), (9, .ref (A 7)), (10, .ref (A 8)), (11, .ref (A 9)), (12, .ref (A 10)), (13, .ref (A 11)), (14, .ref (A 12)), (15, .int (zI 1)), (16, .int (zI (τ : Int))), (17, .int (zI f9)), (18, .int (zI kd)), (19, .int (zI v)), (20, .int (zI (p : Int))), (21, .int (zI (w : Int))), (22, .int (zI (s : Int)))] [.int (zI tk)] μ := by
      intro tk htk
      refine x_istore (lv' := [(23, .int (zI tk)), (0, .ref bs), (1, .ref xa), (2, .ref (A 0)), (3, .ref (A 1)), (4, .ref (A 2)), (5, .ref (A 3)), (6, .ref (A 4)), (7, .ref (A 5)), (8, .ref (A 6)), (9, .ref (A 7)), (10, .ref (A 8)), (11, .ref (A 9)), (12, .ref (A 10)), (13, .ref (A 11)), (14, .ref (A 12)), (15, .int (zI 1)), (16, .int (zI (τ : Int))), (17, .int (zI f9)), (18, .int (zI kd)), (19, .int (zI v)), (20, .int (zI (p : Int))), (21, .int (zI (w : Int))), (22, .int (zI (s : Int)))]) C dL_law_1974 (by decide) rfl ?_
      refine z_iconst C dL_law_1976 ?_
      refine x_istore (lv' := [(24, .int (zI 0)), (23, .int (zI tk)), (0, .ref bs), (1, .ref xa), (2, .ref (A 0)), (3, .ref (A 1)), (4, .ref (A 2)), (5, .ref (A 3)), (6, .ref (A 4)), (7, .ref (A 5)), (8, .ref (A 6)), (9, .ref (A 7)), (10, .ref (A 8)), (11, .ref (A 9)), (12, .ref (A 10)), (13, .ref (A 11)), (14, .ref (A 12)), (15, .int (zI 1)), (16, .int (zI (τ : Int))), (17, .int (zI f9)), (18, .int (zI kd)), (19, .int (zI v)), (20, .int (zI (p : Int))), (21, .int (zI (w : Int))), (22, .int (zI (s : Int)))]) C dL_law_1977 (by decide) rfl ?_
      refine z_iconst C dL_law_1979 ?_
      refine x_istore (lv' := [(25, .int (zI 0)), (24, .int (zI 0)), (23, .int (zI tk)), (0, .ref bs), (1, .ref xa), (2, .ref (A 0)), (3, .ref (A 1)), (4, .ref (A 2)), (5, .ref (A 3)), (6, .ref (A 4)), (7, .ref (A 5)), (8, .ref (A 6)), (9, .ref (A 7)), (10, .ref (A 8)), (11, .ref (A 9)), (12, .ref (A 10)), (13, .ref (A 11)), (14, .ref (A 12)), (15, .int (zI 1)), (16, .int (zI (τ : Int))), (17, .int (zI f9)), (18, .int (zI kd)), (19, .int (zI v)), (20, .int (zI (p : Int))), (21, .int (zI (w : Int))), (22, .int (zI (s : Int)))]) C dL_law_1980 (by decide) rfl ?_
      have L1982 : ∀ (M9 : Nat) (μk : Mm) (cm : Int) (k : Nat) (kz : Int) (hkz : kz = (k : Int)) (Wk : Nat → Int) (hC : RepC G z μk xa σ n) (hn : AI G μk (A 0) 3006 4 (wr (nF σ) 3 (σ 23 0 + (k : Int)))) (hh : AI G μk (A 1) 4001 64 (σ 0)) (hz : OL G μk (A 2) 4002 K) (hd : AI G μk (A 3) 4003 35 (dF σ)) (hy : AI G μk (A 4) 4004 7 (σ 6)) (hg : AI G μk (A 5) 4005 12 (gF σ)) (hu : AI G μk (A 6) 4006 7 (uF σ)) (hw : AI G μk (A 7) 3007 30 Wk) (hs : AI G μk (A 8) 4008 6 (sF σ)) (ht : AI G μk (A 9) 4009 6 (tF σ)) (he : AI G μk (A 10) 4010 36 (σ 22)) (hb : AI G μk (A 11) 4011 4 (σ 19)) (hcc : AI G μk (A 12) 3010 64 C9) (hk : (k : Int) ≤ tk) (hcm : cm = pS σ k 0 - pS σ 0 0) (hWk : WR (psS σ k 0) Wk) (hM9 : 60 - k = M9), Wx E G (cells + 12 * k) (slots + 768 * k) 1982 [(25, .int (zI kz)), (24, .int (zI cm)), (23, .int (zI tk)), (0, .ref bs), (1, .ref xa), (2, .ref (A 0)), (3, .ref (A 1)), (4, .ref (A 2)), (5, .ref (A 3)), (6, .ref (A 4)), (7, .ref (A 5)), (8, .ref (A 6)), (9, .ref (A 7)), (10, .ref (A 8)), (11, .ref (A 9)), (12, .ref (A 10)), (13, .ref (A 11)), (14, .ref (A 12)), (15, .int (zI 1)), (16, .int (zI (τ : Int))), (17, .int (zI f9)), (18, .int (zI kd)), (19, .int (zI v)), (20, .int (zI (p : Int))), (21, .int (zI (w : Int))), (22, .int (zI (s : Int)))] [] μk := by
        intro M9
        induction M9 using Nat.strongRecOn with
        | ind M9 ih1982 =>
          intro μk cm k kz hkz Wk hC hn hh hz hd hy hg hu hw hs ht he hb hcc hk hcm hWk hM9
          subst hkz
          refine x_iload C dL_law_1982 0 rfl ?_
          refine x_iload C dL_law_1984 2 rfl ?_
          refine z_icmp_ge (tgt := 2009) C dL_law_1986 (by decide) (rg_of (by omega) (by omega)) (rg_of (by omega) (by omega)) (fun c_2 => ?_) (fun c_2 => ?_)
          · have hpt : t_pass σ tk = 0 := by (unfold t_pass; rw [if_pos htk, if_pos (by omega)])
            have hkt : tk = (k : Int) := by omega
            have hcb : cm = b_pass σ tk (σ 12 0).toNat := by (rw [hcm, pS_00, ← pS_b, show tk.toNat = k by omega]; omega)
            have hpr := b_pass_rg (σ := σ) (m := tk) (by omega) (σ 12 0).toNat
            have h120 : (σ 12 0).toNat ≤ 6 := by omega
            refine x_aload_n C dL_law_2009 rfl 4 rfl ?_
            refine x_iload C dL_law_2010 2 rfl ?_
            refine x_callV (n := 1) (ci := 9) (Cn := RX8) (T := TX8) (N := 10) (cc9 := ((cells + 12 * k) + 1)) (ss9 := ((slots + 768 * k) + 6)) (rest := []) C dL_law_2012 (c_X8_pass (kxL E) C.st G z μk xa σ n tk hC hK.1 hK.2 (by omega)) gL_law_X8_pass rfl (by decide +kernel) ⟨(Nat.le_of_ble_eq_true rfl), (Nat.le_of_ble_eq_true rfl)⟩ rfl hC.ob rfl rfl (Nat.le_of_ble_eq_true rfl) rfl rfl ⟨(by omega), (by omega)⟩ (fun En hEn => by (exfalso; rcases hEn with ⟨-, h9⟩ | ⟨-, h9⟩ <;> (rw [hpt] at h9; omega))) (fun v3 μ4 hv5 => ?_)
            obtain ⟨r6, hw9, h7⟩ := hv5
            subst hw9
            obtain ⟨⟨htp2, hr9, hC⟩, hF9⟩ := h7
            have hF10 := hF9
            have hn := hF10.ai hn
            have hh := hF10.ai hh
            have hz := hF10.ol hz
            have hd := hF10.ai hd
            have hy := hF10.ai hy
            have hg := hF10.ai hg
            have hu := hF10.ai hu
            have hw := hF10.ai hw
            have hs := hF10.ai hs
            have ht := hF10.ai ht
            have he := hF10.ai he
            have hb := hF10.ai hb
            have hcc := hF10.ai hcc
            refine x_stk (stk' := [.int (zI r6)]) rfl ?_
            refine x_iload C dL_law_2015 1 rfl ?_
            refine z_icmp_ne (tgt := 2024) C dL_law_2017 (by decide) (rg_of (by omega) (by omega)) (rg_of (by omega) (by omega)) (fun c_11 => ?_) (fun c_11 => ?_)
            · exfalso; omega
            · refine z_iconst C dL_law_2020 ?_
              refine x_goto (tgt := 2025) C dL_law_2021 (by decide) ?_
              refine x_istore (lv' := [(15, .int (zI 1)), (25, .int (zI (k : Int))), (24, .int (zI cm)), (23, .int (zI tk)), (0, .ref bs), (1, .ref xa), (2, .ref (A 0)), (3, .ref (A 1)), (4, .ref (A 2)), (5, .ref (A 3)), (6, .ref (A 4)), (7, .ref (A 5)), (8, .ref (A 6)), (9, .ref (A 7)), (10, .ref (A 8)), (11, .ref (A 9)), (12, .ref (A 10)), (13, .ref (A 11)), (14, .ref (A 12)), (16, .int (zI (τ : Int))), (17, .int (zI f9)), (18, .int (zI kd)), (19, .int (zI v)), (20, .int (zI (p : Int))), (21, .int (zI (w : Int))), (22, .int (zI (s : Int)))]) C dL_law_2025 (by decide) rfl ?_
              refine x_sub (lv' := [(0, .ref bs), (1, .ref xa), (2, .ref (A 0)), (3, .ref (A 1)), (4, .ref (A 2)), (5, .ref (A 3)), (6, .ref (A 4)), (7, .ref (A 5)), (8, .ref (A 6)), (9, .ref (A 7)), (10, .ref (A 8)), (11, .ref (A 9)), (12, .ref (A 10)), (13, .ref (A 11)), (14, .ref (A 12)), (15, .int (zI 1)), (16, .int (zI (τ : Int))), (19, .int (zI v))]) [4, 5, 6, 7, 8, 9, 10, 11, 12, 13, 14, 15, 16, 17, 18, 0, 19, 22] rfl ?_
              exact x_wid (by omega) (by omega) (kk _ (n_pass σ tk) ⟨hC.mono, (Kv_pass hK hpt).mono, (hn.cong (nF_23 (σ := σ) (σ' := n_pass σ tk) rfl rfl rfl (by (show wr (σ 23) 0 (σ 23 0 + tk) 0 = _; rw [wr_at, hkt])))), hh, ⟨_, hz, hZB.c rfl⟩, (by (rw [dF_c (σ := σ) (σ' := (n_pass σ tk)) rfl rfl rfl rfl]; exact hd)), hy, (by (rw [gF_c (σ := σ) (σ' := (n_pass σ tk)) rfl rfl]; exact hg)), (by (rw [uF_c (σ := σ) (σ' := (n_pass σ tk)) rfl rfl]; exact hu)), ⟨_, hw, (by (have h9 := hWk; rw [show k = tk.toNat by omega] at h9; exact h9.c (σ' := n_pass σ tk) rfl rfl rfl rfl rfl rfl))⟩, (by (rw [sF_c (σ := σ) (σ' := (n_pass σ tk)) rfl]; exact hs)), (by (rw [tF_c (σ := σ) (σ' := (n_pass σ tk)) rfl]; exact ht)), he, hb, _, hcc⟩)
          · refine x_iload C dL_law_1989 1 rfl ?_
            refine x_aload_n C dL_law_1991 rfl 5 rfl ?_
            refine x_aload_n C dL_law_1992 rfl 6 rfl ?_
            refine x_aload C dL_law_1993 7 rfl ?_
            refine x_aload C dL_law_1995 12 rfl ?_
            refine x_callS (n := 4) (cc9 := ((cells + 12 * k) + 12)) (ss9 := ((slots + 768 * k) + 768)) (rest := [.int (zI cm)]) C dL_law_1997 (c_L_minutes (kxL E) C.st G z μk (A 0) (A 1) (A 2) (A 7) σ n k K (wr (nF σ) 3 (σ 23 0 + (k : Int))) Wk hK.1 hK.2 hn (by (rw [wr_ne (by omega)]; rfl)) hh hz hZB hw hWk) gL_law_L_minutes rfl (by decide +kernel) ⟨(Nat.le_of_ble_eq_true rfl), (Nat.le_of_ble_eq_true rfl)⟩ rfl rfl (Nat.le_of_ble_eq_true rfl) rfl rfl ⟨(by omega), (by omega)⟩ nX_no (fun v12 μ13 hv14 => ?_)
            obtain ⟨r15, hw18, h16⟩ := hv14
            subst hw18
            obtain ⟨⟨hr9, hn, W9, hw, hWk9⟩, hF9⟩ := h16
            have hF19 := hF9
            have hC : RepC G z μ13 xa σ n := hF19.repc hC
            have hh := hF19.ai hh
            have hz := hF19.ol hz
            have hd := hF19.ai hd
            have hy := hF19.ai hy
            have hg := hF19.ai hg
            have hu := hF19.ai hu
            have hs := hF19.ai hs
            have ht := hF19.ai ht
            have he := hF19.ai he
            have hb := hF19.ai hb
            have hcc := hF19.ai hcc
            refine x_stk (stk' := [.int (zI r15), .int (zI cm)]) rfl ?_
            refine z_iadd C dL_law_2000 rfl ?_
            refine x_istore (lv' := [(24, .int (zI (cm + r15))), (25, .int (zI (k : Int))), (23, .int (zI tk)), (0, .ref bs), (1, .ref xa), (2, .ref (A 0)), (3, .ref (A 1)), (4, .ref (A 2)), (5, .ref (A 3)), (6, .ref (A 4)), (7, .ref (A 5)), (8, .ref (A 6)), (9, .ref (A 7)), (10, .ref (A 8)), (11, .ref (A 9)), (12, .ref (A 10)), (13, .ref (A 11)), (14, .ref (A 12)), (15, .int (zI 1)), (16, .int (zI (τ : Int))), (17, .int (zI f9)), (18, .int (zI kd)), (19, .int (zI v)), (20, .int (zI (p : Int))), (21, .int (zI (w : Int))), (22, .int (zI (s : Int)))]) C dL_law_2001 (by decide) rfl ?_
            refine z_iinc (lv' := [(25, .int (zI ((k : Int) + 1))), (24, .int (zI (cm + r15))), (23, .int (zI tk)), (0, .ref bs), (1, .ref xa), (2, .ref (A 0)), (3, .ref (A 1)), (4, .ref (A 2)), (5, .ref (A 3)), (6, .ref (A 4)), (7, .ref (A 5)), (8, .ref (A 6)), (9, .ref (A 7)), (10, .ref (A 8)), (11, .ref (A 9)), (12, .ref (A 10)), (13, .ref (A 11)), (14, .ref (A 12)), (15, .int (zI 1)), (16, .int (zI (τ : Int))), (17, .int (zI f9)), (18, .int (zI kd)), (19, .int (zI v)), (20, .int (zI (p : Int))), (21, .int (zI (w : Int))), (22, .int (zI (s : Int)))]) C dL_law_2003 1 rfl rfl (by decide) rfl ?_
            refine x_goto (tgt := 1982) C dL_law_2006 (by decide) ?_
            have hn : AI G μ13 (A 0) 3006 4 (wr (nF σ) 3 (σ 23 0 + ((k + 1 : Nat) : Int))) := by (rw [wr_wr2, wr_at, show σ 23 0 + (k : Int) + 1 = σ 23 0 + ((k + 1 : Nat) : Int) by omega] at hn; exact hn)
            refine x_wid (a := (cells + 12 * (k + 1))) (b := (slots + 768 * (k + 1))) (by omega) (by omega) ?_
            exact ih1982 _ (by omega) _ _ (k + 1) _ (by omega) _ hC hn hh hz hd hy hg hu hw hs ht he hb hcc (by omega) (by omega) hWk9 rfl
      have hn : AI G μ (A 0) 3006 4 (wr (nF σ) 3 (σ 23 0 + ((0 : Nat) : Int))) := by (rw [show σ 23 0 + ((0 : Nat) : Int) = nF σ 3 from Int.add_zero _, wr_self]; exact hn)
      refine x_wid (a := (cells + 12 * (0))) (b := (slots + 768 * (0))) (by omega) (by omega) ?_
      exact L1982 _ _ _ (0) _ (by omega) _ hC hn hh hz hd hy hg hu hw hs ht he hb hcc (by omega) (by omega) (by (rw [psS_0]; exact hWR)) rfl
    refine z_iconst C dL_law_1955 ?_
    refine x_iload C dL_law_1956 19 rfl ?_
    refine x_iload C dL_law_1958 19 rfl ?_
    refine z_iconst C dL_law_1960 ?_
    refine z_irem C dL_law_1961 (rg_of (by omega) (by omega)) (by omega) (rg_of (by omega) (by omega)) (by omega) rfl ?_
    refine z_if_ne (tgt := 1970) C dL_law_1962 (by decide) (rg_of (by omega) (by omega)) (fun c_20 => ?_) (fun c_20 => ?_)
    · refine z_bipush C dL_law_1970 (by decide) ?_
      refine z_irem C dL_law_1972 (rg_of (by omega) (by omega)) (by omega) (rg_of (by omega) (by omega)) (by omega) rfl ?_
      refine z_iadd C dL_law_1973 rfl ?_
      exact J1974 _ (by omega)
    · refine z_bipush C dL_law_1965 (by decide) ?_
      refine x_goto (tgt := 1972) C dL_law_1967 (by decide) ?_
      refine z_irem C dL_law_1972 (rg_of (by omega) (by omega)) (by omega) (rg_of (by omega) (by omega)) (by omega) rfl ?_
      refine z_iadd C dL_law_1973 rfl ?_
      exact J1974 _ (by omega)
