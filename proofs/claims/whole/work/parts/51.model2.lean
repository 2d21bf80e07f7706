abbrev rm_X9_holds : Room := { frames := 2, cells := 0, slots := 0, locals := 42 }
set_option maxHeartbeats 4000000 in
set_option maxRecDepth 100000 in
theorem c_X9_holds (l : Launch) (hst : l.stackTraces = false) (G : GG) (z : Nat) (μ : Mm) (m : Nat) (σ : SS) (n : Nat) (th fo cm : Int) (Ci Su : Nat → Int) (A : Nat → Nat) (h p : Int) (hM9 : RepY G μ m σ th fo cm Ci Su A) (hI : Iv σ n) (hh : 0 ≤ h ∧ h < 35) (hp : 0 ≤ p ∧ p < 64) : Ct l yX9_holds wsX9_holds rm_X9_holds G z [.ref m, .int (zI h), .int (zI p)] μ (rP μ (fun r9 => r9 = b01 (HB σ h.toNat p))) (nX) := by
  refine ct_of (cc := cX9_holds) (maxL := 6) (ret := (some .boolean)) (own := RX9) (by decide) rfl rfl hst (Nat.le_of_ble_eq_true rfl) ?_
  intro E hLl hnm C R hT
  have in_X9 : ∀ w ∈ u_ws RX9 TX9 29, w ∈ wsX9_holds := by decide +kernel
  have hM8 := hM9
  obtain ⟨hO, hMA, hCi, hSu⟩ := hM9
  have hn7 := hI.n7
  have hn12 := hI.n12
  have hn18 := hI.n18
  have hn23 := hI.n23
  refine x_eq (lv' := [(0, .ref m), (1, .int (zI h)), (2, .int (zI p))]) rfl rfl ?_
  refine x_aload_n C dX9_holds_0 rfl 0 rfl ?_
  refine x_get (ci := 10) (Cn := RX9) (T := TX9) (N := 29) (ref := "CairnCipherModel") C dX9_holds_1 in_X9 rfl hO 2 (by decide) (by decide +kernel) rfl rfl ?_
  refine x_iload_n C dX9_holds_4 rfl 1 rfl ?_
  refine z_iald (j := h.toNat) C dX9_holds_5 (show AI G μ (A 2) 3003 35 (σ 2) from hMA.ai 2 rfl) (by omega) (by omega) (by decide) ?_
  have q_1 := hI.r2 h.toNat (by omega)
  refine x_istore_n (lv' := [(3, .int (zI ((σ 2) h.toNat))), (0, .ref m), (1, .int (zI h)), (2, .int (zI p))]) C dX9_holds_6 rfl (by decide) rfl ?_
  refine x_aload_n C dX9_holds_7 rfl 1 rfl ?_
  refine x_get (ci := 10) (Cn := RX9) (T := TX9) (N := 29) (ref := "CairnCipherModel") C dX9_holds_8 in_X9 rfl hO 3 (by decide) (by decide +kernel) rfl rfl ?_
  refine x_iload_n C dX9_holds_11 rfl 2 rfl ?_
  refine z_iald (j := h.toNat) C dX9_holds_12 (show AI G μ (A 3) 3004 35 (σ 3) from hMA.ai 3 rfl) (by omega) (by omega) (by decide) ?_
  have q_2 := hI.r3 h.toNat (by omega)
  refine x_istore (lv' := [(4, .int (zI ((σ 3) h.toNat))), (3, .int (zI ((σ 2) h.toNat))), (0, .ref m), (1, .int (zI h)), (2, .int (zI p))]) C dX9_holds_13 (by decide) rfl ?_
  refine x_iload_n C dX9_holds_15 rfl 1 rfl ?_
  refine z_if_ne (tgt := 36) C dX9_holds_16 (by decide) (rg_of (by omega) (by omega)) (fun c_3 => ?_) (fun c_3 => ?_)
  · refine x_iload_n C dX9_holds_36 rfl 1 rfl ?_
    refine z_iconst C dX9_holds_37 ?_
    refine z_icmp_ne (tgt := 58) C dX9_holds_38 (by decide) (rg_of (by omega) (by omega)) (rg_of (by omega) (by omega)) (fun c_4 => ?_) (fun c_4 => ?_)
    · refine x_iload_n C dX9_holds_58 rfl 1 rfl ?_
      refine z_iconst C dX9_holds_59 ?_
      refine z_icmp_ne (tgt := 82) C dX9_holds_60 (by decide) (rg_of (by omega) (by omega)) (rg_of (by omega) (by omega)) (fun c_5 => ?_) (fun c_5 => ?_)
      · refine x_iload_n C dX9_holds_82 rfl 1 rfl ?_
        refine z_iconst C dX9_holds_83 ?_
        refine z_icmp_ne (tgt := 110) C dX9_holds_84 (by decide) (rg_of (by omega) (by omega)) (rg_of (by omega) (by omega)) (fun c_6 => ?_) (fun c_6 => ?_)
        · refine x_iload_n C dX9_holds_110 rfl 4 rfl ?_
          refine z_bipush C dX9_holds_111 (by decide) ?_
          refine z_idiv C dX9_holds_113 (rg_of (by omega) (by omega)) (by omega) (rg_of (by omega) (by omega)) (by omega) rfl ?_
          refine x_iload_n C dX9_holds_114 rfl 4 rfl ?_
          refine z_bipush C dX9_holds_115 (by decide) ?_
          refine z_irem C dX9_holds_117 (rg_of (by omega) (by omega)) (by omega) (rg_of (by omega) (by omega)) (by omega) rfl ?_
          refine z_iadd C dX9_holds_118 rfl ?_
          refine z_iconst C dX9_holds_119 ?_
          refine z_irem C dX9_holds_120 (rg_of (by omega) (by omega)) (by omega) (rg_of (by omega) (by omega)) (by omega) rfl ?_
          refine x_iload C dX9_holds_121 0 rfl ?_
          refine z_icmp_ne (tgt := 130) C dX9_holds_123 (by decide) (rg_of (by omega) (by omega)) (rg_of (by omega) (by omega)) (fun c_7 => ?_) (fun c_7 => ?_)
          · refine z_iconst C dX9_holds_130 ?_
            refine x_istore (lv' := [(5, .int (zI 0)), (4, .int (zI ((σ 3) h.toNat))), (3, .int (zI ((σ 2) h.toNat))), (0, .ref m), (1, .int (zI h)), (2, .int (zI p))]) C dX9_holds_131 (by decide) rfl ?_
            refine x_iload C dX9_holds_133 0 rfl ?_
            refine x_aload_n C dX9_holds_135 rfl 3 rfl ?_
            refine x_get (ci := 10) (Cn := RX9) (T := TX9) (N := 29) (ref := "CairnCipherModel") C dX9_holds_136 in_X9 rfl hO 5 (by decide) (by decide +kernel) rfl rfl ?_
            refine x_iload_n C dX9_holds_139 rfl 4 rfl ?_
            refine z_zald (j := h.toNat) C dX9_holds_140 (show AZ G μ (A 5) 3006 35 (σ 5) from hMA.az 5 rfl) (by omega) (by omega) (by decide) ?_
            have q_8 := hI.r5 h.toNat (by omega)
            refine z_icmp_eq (tgt := 148) C dX9_holds_141 (by decide) (rg_of (by omega) (by omega)) (rg_of (by omega) (by omega)) (fun c_9 => ?_) (fun c_9 => ?_)
            · refine z_iconst C dX9_holds_148 ?_
              exact x_zret C R dX9_holds_149 (nar_z (by omega)) (Nat.le_of_ble_eq_true rfl) (Nat.le_of_ble_eq_true rfl) (⟨_, rfl, b01_of (by omega), rfl⟩)
            · refine z_iconst C dX9_holds_144 ?_
              refine x_goto (tgt := 149) C dX9_holds_145 (by decide) ?_
              exact x_zret C R dX9_holds_149 (nar_z (by omega)) (Nat.le_of_ble_eq_true rfl) (Nat.le_of_ble_eq_true rfl) (⟨_, rfl, b01_of (by omega), rfl⟩)
          · refine z_iconst C dX9_holds_126 ?_
            refine x_goto (tgt := 131) C dX9_holds_127 (by decide) ?_
            refine x_istore (lv' := [(5, .int (zI 1)), (4, .int (zI ((σ 3) h.toNat))), (3, .int (zI ((σ 2) h.toNat))), (0, .ref m), (1, .int (zI h)), (2, .int (zI p))]) C dX9_holds_131 (by decide) rfl ?_
            refine x_iload C dX9_holds_133 0 rfl ?_
            refine x_aload_n C dX9_holds_135 rfl 3 rfl ?_
            refine x_get (ci := 10) (Cn := RX9) (T := TX9) (N := 29) (ref := "CairnCipherModel") C dX9_holds_136 in_X9 rfl hO 5 (by decide) (by decide +kernel) rfl rfl ?_
            refine x_iload_n C dX9_holds_139 rfl 4 rfl ?_
            refine z_zald (j := h.toNat) C dX9_holds_140 (show AZ G μ (A 5) 3006 35 (σ 5) from hMA.az 5 rfl) (by omega) (by omega) (by decide) ?_
            have q_10 := hI.r5 h.toNat (by omega)
            refine z_icmp_eq (tgt := 148) C dX9_holds_141 (by decide) (rg_of (by omega) (by omega)) (rg_of (by omega) (by omega)) (fun c_11 => ?_) (fun c_11 => ?_)
            · refine z_iconst C dX9_holds_148 ?_
              exact x_zret C R dX9_holds_149 (nar_z (by omega)) (Nat.le_of_ble_eq_true rfl) (Nat.le_of_ble_eq_true rfl) (⟨_, rfl, b01_of (by omega), rfl⟩)
            · refine z_iconst C dX9_holds_144 ?_
              refine x_goto (tgt := 149) C dX9_holds_145 (by decide) ?_
              exact x_zret C R dX9_holds_149 (nar_z (by omega)) (Nat.le_of_ble_eq_true rfl) (Nat.le_of_ble_eq_true rfl) (⟨_, rfl, b01_of (by omega), rfl⟩)
        · refine x_iload_n C dX9_holds_87 rfl 4 rfl ?_
          refine x_aload_n C dX9_holds_88 rfl 2 rfl ?_
          refine x_get (ci := 10) (Cn := RX9) (T := TX9) (N := 29) (ref := "CairnCipherModel") C dX9_holds_89 in_X9 rfl hO 4 (by decide) (by decide +kernel) rfl rfl ?_
          refine x_iload_n C dX9_holds_92 rfl 3 rfl ?_
          refine z_iald (j := h.toNat) C dX9_holds_93 (show AI G μ (A 4) 3005 35 (σ 4) from hMA.ai 4 rfl) (by omega) (by omega) (by decide) ?_
          have q_12 := hI.r4 h.toNat (by omega)
          refine x_callS (n := 2) (cc9 := 0) (ss9 := 0) (rest := []) C dX9_holds_94 (c_X9_distance (kxL E) C.st G z μ p ((σ 4) h.toNat) (by omega) (by omega)) gX9_holds_X9_distance rfl (by decide +kernel) ⟨(Nat.le_of_ble_eq_true rfl), (Nat.le_of_ble_eq_true rfl)⟩ rfl rfl (Nat.le_of_ble_eq_true rfl) rfl rfl ⟨(Nat.le_of_ble_eq_true rfl), (Nat.le_of_ble_eq_true rfl)⟩ nX_no (fun v13 μ14 hv15 => ?_)
          obtain ⟨r16, hw19, h17, hm18⟩ := hv15
          subst hw19
          rw [hm18]
          have hd9 := h17
          have hd8 := dst_rg (p := p) (q := σ 4 h.toNat) (by omega) (by omega)
          refine x_stk (stk' := [.int (zI r16)]) rfl ?_
          refine x_iload C dX9_holds_97 0 rfl ?_
          refine z_icmp_gt (tgt := 106) C dX9_holds_99 (by decide) (rg_of (by omega) (by omega)) (rg_of (by omega) (by omega)) (fun c_20 => ?_) (fun c_20 => ?_)
          · refine z_iconst C dX9_holds_106 ?_
            refine x_goto (tgt := 131) C dX9_holds_107 (by decide) ?_
            refine x_istore (lv' := [(5, .int (zI 0)), (4, .int (zI ((σ 3) h.toNat))), (3, .int (zI ((σ 2) h.toNat))), (0, .ref m), (1, .int (zI h)), (2, .int (zI p))]) C dX9_holds_131 (by decide) rfl ?_
            refine x_iload C dX9_holds_133 0 rfl ?_
            refine x_aload_n C dX9_holds_135 rfl 3 rfl ?_
            refine x_get (ci := 10) (Cn := RX9) (T := TX9) (N := 29) (ref := "CairnCipherModel") C dX9_holds_136 in_X9 rfl hO 5 (by decide) (by decide +kernel) rfl rfl ?_
            refine x_iload_n C dX9_holds_139 rfl 4 rfl ?_
            refine z_zald (j := h.toNat) C dX9_holds_140 (show AZ G μ (A 5) 3006 35 (σ 5) from hMA.az 5 rfl) (by omega) (by omega) (by decide) ?_
            have q_21 := hI.r5 h.toNat (by omega)
            refine z_icmp_eq (tgt := 148) C dX9_holds_141 (by decide) (rg_of (by omega) (by omega)) (rg_of (by omega) (by omega)) (fun c_22 => ?_) (fun c_22 => ?_)
            · refine z_iconst C dX9_holds_148 ?_
              exact x_zret C R dX9_holds_149 (nar_z (by omega)) (Nat.le_of_ble_eq_true rfl) (Nat.le_of_ble_eq_true rfl) (⟨_, rfl, b01_of (by omega), rfl⟩)
            · refine z_iconst C dX9_holds_144 ?_
              refine x_goto (tgt := 149) C dX9_holds_145 (by decide) ?_
              exact x_zret C R dX9_holds_149 (nar_z (by omega)) (Nat.le_of_ble_eq_true rfl) (Nat.le_of_ble_eq_true rfl) (⟨_, rfl, b01_of (by omega), rfl⟩)
          · refine z_iconst C dX9_holds_102 ?_
            refine x_goto (tgt := 131) C dX9_holds_103 (by decide) ?_
            refine x_istore (lv' := [(5, .int (zI 1)), (4, .int (zI ((σ 3) h.toNat))), (3, .int (zI ((σ 2) h.toNat))), (0, .ref m), (1, .int (zI h)), (2, .int (zI p))]) C dX9_holds_131 (by decide) rfl ?_
            refine x_iload C dX9_holds_133 0 rfl ?_
            refine x_aload_n C dX9_holds_135 rfl 3 rfl ?_
            refine x_get (ci := 10) (Cn := RX9) (T := TX9) (N := 29) (ref := "CairnCipherModel") C dX9_holds_136 in_X9 rfl hO 5 (by decide) (by decide +kernel) rfl rfl ?_
            refine x_iload_n C dX9_holds_139 rfl 4 rfl ?_
            refine z_zald (j := h.toNat) C dX9_holds_140 (show AZ G μ (A 5) 3006 35 (σ 5) from hMA.az 5 rfl) (by omega) (by omega) (by decide) ?_
            have q_23 := hI.r5 h.toNat (by omega)
            refine z_icmp_eq (tgt := 148) C dX9_holds_141 (by decide) (rg_of (by omega) (by omega)) (rg_of (by omega) (by omega)) (fun c_24 => ?_) (fun c_24 => ?_)
            · refine z_iconst C dX9_holds_148 ?_
              exact x_zret C R dX9_holds_149 (nar_z (by omega)) (Nat.le_of_ble_eq_true rfl) (Nat.le_of_ble_eq_true rfl) (⟨_, rfl, b01_of (by omega), rfl⟩)
            · refine z_iconst C dX9_holds_144 ?_
              refine x_goto (tgt := 149) C dX9_holds_145 (by decide) ?_
              exact x_zret C R dX9_holds_149 (nar_z (by omega)) (Nat.le_of_ble_eq_true rfl) (Nat.le_of_ble_eq_true rfl) (⟨_, rfl, b01_of (by omega), rfl⟩)
      · refine x_aload_n C dX9_holds_63 rfl 2 rfl ?_
        refine x_get (ci := 10) (Cn := RX9) (T := TX9) (N := 29) (ref := "CairnCipherModel") C dX9_holds_64 in_X9 rfl hO 0 (by decide) (by decide +kernel) rfl rfl ?_
        refine x_iload_n C dX9_holds_67 rfl 4 rfl ?_
        refine z_iald (j := p.toNat) C dX9_holds_68 (show AI G μ (A 0) 3001 64 (σ 0) from hMA.ai 0 rfl) (by omega) (by omega) (by decide) ?_
        have q_25 := hI.r0 p.toNat (by omega)
        refine x_iload C dX9_holds_69 0 rfl ?_
        refine z_icmp_lt (tgt := 78) C dX9_holds_71 (by decide) (rg_of (by omega) (by omega)) (rg_of (by omega) (by omega)) (fun c_26 => ?_) (fun c_26 => ?_)
        · refine z_iconst C dX9_holds_78 ?_
          refine x_goto (tgt := 131) C dX9_holds_79 (by decide) ?_
          refine x_istore (lv' := [(5, .int (zI 0)), (4, .int (zI ((σ 3) h.toNat))), (3, .int (zI ((σ 2) h.toNat))), (0, .ref m), (1, .int (zI h)), (2, .int (zI p))]) C dX9_holds_131 (by decide) rfl ?_
          refine x_iload C dX9_holds_133 0 rfl ?_
          refine x_aload_n C dX9_holds_135 rfl 3 rfl ?_
          refine x_get (ci := 10) (Cn := RX9) (T := TX9) (N := 29) (ref := "CairnCipherModel") C dX9_holds_136 in_X9 rfl hO 5 (by decide) (by decide +kernel) rfl rfl ?_
          refine x_iload_n C dX9_holds_139 rfl 4 rfl ?_
          refine z_zald (j := h.toNat) C dX9_holds_140 (show AZ G μ (A 5) 3006 35 (σ 5) from hMA.az 5 rfl) (by omega) (by omega) (by decide) ?_
          have q_27 := hI.r5 h.toNat (by omega)
          refine z_icmp_eq (tgt := 148) C dX9_holds_141 (by decide) (rg_of (by omega) (by omega)) (rg_of (by omega) (by omega)) (fun c_28 => ?_) (fun c_28 => ?_)
          · refine z_iconst C dX9_holds_148 ?_
            exact x_zret C R dX9_holds_149 (nar_z (by omega)) (Nat.le_of_ble_eq_true rfl) (Nat.le_of_ble_eq_true rfl) (⟨_, rfl, b01_of (by omega), rfl⟩)
          · refine z_iconst C dX9_holds_144 ?_
            refine x_goto (tgt := 149) C dX9_holds_145 (by decide) ?_
            exact x_zret C R dX9_holds_149 (nar_z (by omega)) (Nat.le_of_ble_eq_true rfl) (Nat.le_of_ble_eq_true rfl) (⟨_, rfl, b01_of (by omega), rfl⟩)
        · refine z_iconst C dX9_holds_74 ?_
          refine x_goto (tgt := 131) C dX9_holds_75 (by decide) ?_
          refine x_istore (lv' := [(5, .int (zI 1)), (4, .int (zI ((σ 3) h.toNat))), (3, .int (zI ((σ 2) h.toNat))), (0, .ref m), (1, .int (zI h)), (2, .int (zI p))]) C dX9_holds_131 (by decide) rfl ?_
          refine x_iload C dX9_holds_133 0 rfl ?_
          refine x_aload_n C dX9_holds_135 rfl 3 rfl ?_
          refine x_get (ci := 10) (Cn := RX9) (T := TX9) (N := 29) (ref := "CairnCipherModel") C dX9_holds_136 in_X9 rfl hO 5 (by decide) (by decide +kernel) rfl rfl ?_
          refine x_iload_n C dX9_holds_139 rfl 4 rfl ?_
          refine z_zald (j := h.toNat) C dX9_holds_140 (show AZ G μ (A 5) 3006 35 (σ 5) from hMA.az 5 rfl) (by omega) (by omega) (by decide) ?_
          have q_29 := hI.r5 h.toNat (by omega)
          refine z_icmp_eq (tgt := 148) C dX9_holds_141 (by decide) (rg_of (by omega) (by omega)) (rg_of (by omega) (by omega)) (fun c_30 => ?_) (fun c_30 => ?_)
          · refine z_iconst C dX9_holds_148 ?_
            exact x_zret C R dX9_holds_149 (nar_z (by omega)) (Nat.le_of_ble_eq_true rfl) (Nat.le_of_ble_eq_true rfl) (⟨_, rfl, b01_of (by omega), rfl⟩)
          · refine z_iconst C dX9_holds_144 ?_
            refine x_goto (tgt := 149) C dX9_holds_145 (by decide) ?_
            exact x_zret C R dX9_holds_149 (nar_z (by omega)) (Nat.le_of_ble_eq_true rfl) (Nat.le_of_ble_eq_true rfl) (⟨_, rfl, b01_of (by omega), rfl⟩)
    · refine x_iload_n C dX9_holds_41 rfl 4 rfl ?_
      refine z_bipush C dX9_holds_42 (by decide) ?_
      refine z_irem C dX9_holds_44 (rg_of (by omega) (by omega)) (by omega) (rg_of (by omega) (by omega)) (by omega) rfl ?_
      refine x_iload C dX9_holds_45 0 rfl ?_
      refine z_icmp_ge (tgt := 54) C dX9_holds_47 (by decide) (rg_of (by omega) (by omega)) (rg_of (by omega) (by omega)) (fun c_31 => ?_) (fun c_31 => ?_)
      · refine z_iconst C dX9_holds_54 ?_
        refine x_goto (tgt := 131) C dX9_holds_55 (by decide) ?_
        refine x_istore (lv' := [(5, .int (zI 0)), (4, .int (zI ((σ 3) h.toNat))), (3, .int (zI ((σ 2) h.toNat))), (0, .ref m), (1, .int (zI h)), (2, .int (zI p))]) C dX9_holds_131 (by decide) rfl ?_
        refine x_iload C dX9_holds_133 0 rfl ?_
        refine x_aload_n C dX9_holds_135 rfl 3 rfl ?_
        refine x_get (ci := 10) (Cn := RX9) (T := TX9) (N := 29) (ref := "CairnCipherModel") C dX9_holds_136 in_X9 rfl hO 5 (by decide) (by decide +kernel) rfl rfl ?_
        refine x_iload_n C dX9_holds_139 rfl 4 rfl ?_
        refine z_zald (j := h.toNat) C dX9_holds_140 (show AZ G μ (A 5) 3006 35 (σ 5) from hMA.az 5 rfl) (by omega) (by omega) (by decide) ?_
        have q_32 := hI.r5 h.toNat (by omega)
        refine z_icmp_eq (tgt := 148) C dX9_holds_141 (by decide) (rg_of (by omega) (by omega)) (rg_of (by omega) (by omega)) (fun c_33 => ?_) (fun c_33 => ?_)
        · refine z_iconst C dX9_holds_148 ?_
          exact x_zret C R dX9_holds_149 (nar_z (by omega)) (Nat.le_of_ble_eq_true rfl) (Nat.le_of_ble_eq_true rfl) (⟨_, rfl, b01_of (by omega), rfl⟩)
        · refine z_iconst C dX9_holds_144 ?_
          refine x_goto (tgt := 149) C dX9_holds_145 (by decide) ?_
          exact x_zret C R dX9_holds_149 (nar_z (by omega)) (Nat.le_of_ble_eq_true rfl) (Nat.le_of_ble_eq_true rfl) (⟨_, rfl, b01_of (by omega), rfl⟩)
      · refine z_iconst C dX9_holds_50 ?_
        refine x_goto (tgt := 131) C dX9_holds_51 (by decide) ?_
        refine x_istore (lv' := [(5, .int (zI 1)), (4, .int (zI ((σ 3) h.toNat))), (3, .int (zI ((σ 2) h.toNat))), (0, .ref m), (1, .int (zI h)), (2, .int (zI p))]) C dX9_holds_131 (by decide) rfl ?_
        refine x_iload C dX9_holds_133 0 rfl ?_
        refine x_aload_n C dX9_holds_135 rfl 3 rfl ?_
        refine x_get (ci := 10) (Cn := RX9) (T := TX9) (N := 29) (ref := "CairnCipherModel") C dX9_holds_136 in_X9 rfl hO 5 (by decide) (by decide +kernel) rfl rfl ?_
        refine x_iload_n C dX9_holds_139 rfl 4 rfl ?_
        refine z_zald (j := h.toNat) C dX9_holds_140 (show AZ G μ (A 5) 3006 35 (σ 5) from hMA.az 5 rfl) (by omega) (by omega) (by decide) ?_
        have q_34 := hI.r5 h.toNat (by omega)
        refine z_icmp_eq (tgt := 148) C dX9_holds_141 (by decide) (rg_of (by omega) (by omega)) (rg_of (by omega) (by omega)) (fun c_35 => ?_) (fun c_35 => ?_)
        · refine z_iconst C dX9_holds_148 ?_
          exact x_zret C R dX9_holds_149 (nar_z (by omega)) (Nat.le_of_ble_eq_true rfl) (Nat.le_of_ble_eq_true rfl) (⟨_, rfl, b01_of (by omega), rfl⟩)
        · refine z_iconst C dX9_holds_144 ?_
          refine x_goto (tgt := 149) C dX9_holds_145 (by decide) ?_
          exact x_zret C R dX9_holds_149 (nar_z (by omega)) (Nat.le_of_ble_eq_true rfl) (Nat.le_of_ble_eq_true rfl) (⟨_, rfl, b01_of (by omega), rfl⟩)
  · refine x_iload_n C dX9_holds_19 rfl 4 rfl ?_
    refine z_bipush C dX9_holds_20 (by decide) ?_
    refine z_idiv C dX9_holds_22 (rg_of (by omega) (by omega)) (by omega) (rg_of (by omega) (by omega)) (by omega) rfl ?_
    refine x_iload C dX9_holds_23 0 rfl ?_
    refine z_icmp_ge (tgt := 32) C dX9_holds_25 (by decide) (rg_of (by omega) (by omega)) (rg_of (by omega) (by omega)) (fun c_36 => ?_) (fun c_36 => ?_)
    · refine z_iconst C dX9_holds_32 ?_
      refine x_goto (tgt := 131) C dX9_holds_33 (by decide) ?_
      refine x_istore (lv' := [(5, .int (zI 0)), (4, .int (zI ((σ 3) h.toNat))), (3, .int (zI ((σ 2) h.toNat))), (0, .ref m), (1, .int (zI h)), (2, .int (zI p))]) C dX9_holds_131 (by decide) rfl ?_
      refine x_iload C dX9_holds_133 0 rfl ?_
      refine x_aload_n C dX9_holds_135 rfl 3 rfl ?_
      refine x_get (ci := 10) (Cn := RX9) (T := TX9) (N := 29) (ref := "CairnCipherModel") C dX9_holds_136 in_X9 rfl hO 5 (by decide) (by decide +kernel) rfl rfl ?_
      refine x_iload_n C dX9_holds_139 rfl 4 rfl ?_
      refine z_zald (j := h.toNat) C dX9_holds_140 (show AZ G μ (A 5) 3006 35 (σ 5) from hMA.az 5 rfl) (by omega) (by omega) (by decide) ?_
      have q_37 := hI.r5 h.toNat (by omega)
      refine z_icmp_eq (tgt := 148) C dX9_holds_141 (by decide) (rg_of (by omega) (by omega)) (rg_of (by omega) (by omega)) (fun c_38 => ?_) (fun c_38 => ?_)
      · refine z_iconst C dX9_holds_148 ?_
        exact x_zret C R dX9_holds_149 (nar_z (by omega)) (Nat.le_of_ble_eq_true rfl) (Nat.le_of_ble_eq_true rfl) (⟨_, rfl, b01_of (by omega), rfl⟩)
      · refine z_iconst C dX9_holds_144 ?_
        refine x_goto (tgt := 149) C dX9_holds_145 (by decide) ?_
        exact x_zret C R dX9_holds_149 (nar_z (by omega)) (Nat.le_of_ble_eq_true rfl) (Nat.le_of_ble_eq_true rfl) (⟨_, rfl, b01_of (by omega), rfl⟩)
    · refine z_iconst C dX9_holds_28 ?_
      refine x_goto (tgt := 131) C dX9_holds_29 (by decide) ?_
      refine x_istore (lv' := [(5, .int (zI 1)), (4, .int (zI ((σ 3) h.toNat))), (3, .int (zI ((σ 2) h.toNat))), (0, .ref m), (1, .int (zI h)), (2, .int (zI p))]) C dX9_holds_131 (by decide) rfl ?_
      refine x_iload C dX9_holds_133 0 rfl ?_
      refine x_aload_n C dX9_holds_135 rfl 3 rfl ?_
      refine x_get (ci := 10) (Cn := RX9) (T := TX9) (N := 29) (ref := "CairnCipherModel") C dX9_holds_136 in_X9 rfl hO 5 (by decide) (by decide +kernel) rfl rfl ?_
      refine x_iload_n C dX9_holds_139 rfl 4 rfl ?_
      refine z_zald (j := h.toNat) C dX9_holds_140 (show AZ G μ (A 5) 3006 35 (σ 5) from hMA.az 5 rfl) (by omega) (by omega) (by decide) ?_
      have q_39 := hI.r5 h.toNat (by omega)
      refine z_icmp_eq (tgt := 148) C dX9_holds_141 (by decide) (rg_of (by omega) (by omega)) (rg_of (by omega) (by omega)) (fun c_40 => ?_) (fun c_40 => ?_)
      · refine z_iconst C dX9_holds_148 ?_
        exact x_zret C R dX9_holds_149 (nar_z (by omega)) (Nat.le_of_ble_eq_true rfl) (Nat.le_of_ble_eq_true rfl) (⟨_, rfl, b01_of (by omega), rfl⟩)
      · refine z_iconst C dX9_holds_144 ?_
        refine x_goto (tgt := 149) C dX9_holds_145 (by decide) ?_
        exact x_zret C R dX9_holds_149 (nar_z (by omega)) (Nat.le_of_ble_eq_true rfl) (Nat.le_of_ble_eq_true rfl) (⟨_, rfl, b01_of (by omega), rfl⟩)
abbrev rm_X9_fitting : Room := { frames := 3, cells := 0, slots := 0, locals := 67 }
set_option maxHeartbeats 4000000 in
set_option maxRecDepth 100000 in
theorem c_X9_fitting (l : Launch) (hst : l.stackTraces = false) (G : GG) (z : Nat) (μ : Mm) (m : Nat) (σ : SS) (n : Nat) (th fo cm : Int) (Ci Su : Nat → Int) (A : Nat → Nat) (row but : Int) (hM9 : RepY G μ m σ th fo cm Ci Su A) (hI : Iv σ n) (hrow : 0 ≤ row ∧ row < 7) (hbut : -1 ≤ but ∧ but < 100) : Ct l yX9_fitting wsX9_fitting rm_X9_fitting G z [.ref m, .int (zI row), .int (zI but)] μ (rS (fun r9 μ' => (r9 = ctb (fitb σ row.toNat but) 64 ∧ OB μ' m 3000 10 [.ref (A 0), .ref (A 1), .ref (A 2), .ref (A 3), .ref (A 4), .ref (A 5), .ref (A 6), .int (zI (σ 7 0)), .ref (A 8), .ref (A 9), .ref (A 10), .ref (A 11), .int (zI (σ 12 0)), .ref (A 13), .ref (A 14), .ref (A 15), .ref (A 16), .ref (A 17), .int (zI (σ 18 0)), .ref (A 19), .ref (A 20), .ref (A 21), .ref (A 22), .int (zI (σ 23 0)), .int (zI th), .int (zI (lsb (fitb σ row.toNat but) 64)), .ref (A 26), .int (zI cm), .ref (A 28)]) ∧ Fr 3000 3001 μ μ')) (nX) := by
  refine ct_of (cc := cX9_fitting) (maxL := 7) (ret := (some .int)) (own := RX9) (by decide) rfl rfl hst (Nat.le_of_ble_eq_true rfl) ?_
  intro E hLl hnm C R hT
  have in_X9 : ∀ w ∈ u_ws RX9 TX9 29, w ∈ wsX9_fitting := by decide +kernel
  have hM8 := hM9
  obtain ⟨hO, hMA, hCi, hSu⟩ := hM9
  have hn7 := hI.n7
  have hn12 := hI.n12
  have hn18 := hI.n18
  have hn23 := hI.n23
  have hnr := hI.r6 row.toNat (by omega)
  have ehn : (hn σ row.toNat : Int) = σ 6 row.toNat := by (unfold hn; omega)
  have hFr : Fr 3000 3001 μ μ := Fr.rf
  refine x_eq (lv' := [(0, .ref m), (1, .int (zI row)), (2, .int (zI but))]) rfl rfl ?_
  refine z_iconst C dX9_fitting_0 ?_
  refine x_istore_n (lv' := [(3, .int (zI 0)), (0, .ref m), (1, .int (zI row)), (2, .int (zI but))]) C dX9_fitting_1 rfl (by decide) rfl ?_
  refine x_aload_n C dX9_fitting_2 rfl 1 rfl ?_
  refine z_iconst C dX9_fitting_3 ?_
  refine z_put (ci := 10) (Cn := RX9) (T := TX9) (N := 29) (ref := "CairnCipherModel") (fs' := [.ref (A 0), .ref (A 1), .ref (A 2), .ref (A 3), .ref (A 4), .ref (A 5), .ref (A 6), .int (zI (σ 7 0)), .ref (A 8), .ref (A 9), .ref (A 10), .ref (A 11), .int (zI (σ 12 0)), .ref (A 13), .ref (A 14), .ref (A 15), .ref (A 16), .ref (A 17), .int (zI (σ 18 0)), .ref (A 19), .ref (A 20), .ref (A 21), .ref (A 22), .int (zI (σ 23 0)), .int (zI th), .int (zI (-1)), .ref (A 26), .int (zI cm), .ref (A 28)]) C dX9_fitting_4 in_X9 rfl tyX9 tyX9_ok nmX9 hO 25 (by decide) (by decide +kernel) rfl rfl rfl rfl rfl (Nat.le_of_ble_eq_true rfl) rfl (fun μ1 hOw hF2 => ?_)
  have hMA : MA G μ1 A σ := hF2.ma hMA
  have hCi := hF2.ai hCi
  have hSu := hF2.ai hSu
  have hFr : Fr 3000 3001 μ μ1 := hFr.tr hF2
  have hO := hOw
  refine z_iconst C dX9_fitting_7 ?_
  refine x_istore (lv' := [(4, .int (zI 0)), (3, .int (zI 0)), (0, .ref m), (1, .int (zI row)), (2, .int (zI but))]) C dX9_fitting_8 (by decide) rfl ?_
  have L10 : ∀ (M9 : Nat) (μk : Mm) (p : Nat) (pz : Int) (hpz : pz = (p : Int)) (mn : Int) (fok : Int) (hO : OB μk m 3000 10 [.ref (A 0), .ref (A 1), .ref (A 2), .ref (A 3), .ref (A 4), .ref (A 5), .ref (A 6), .int (zI (σ 7 0)), .ref (A 8), .ref (A 9), .ref (A 10), .ref (A 11), .int (zI (σ 12 0)), .ref (A 13), .ref (A 14), .ref (A 15), .ref (A 16), .ref (A 17), .int (zI (σ 18 0)), .ref (A 19), .ref (A 20), .ref (A 21), .ref (A 22), .int (zI (σ 23 0)), .int (zI th), .int (zI fok), .ref (A 26), .int (zI cm), .ref (A 28)]) (hMA : MA G μk A σ) (hCi : AI G μk (A 26) 3027 12 Ci) (hSu : AI G μk (A 28) 3029 64 Su) (hFr : Fr 3000 3001 μ μk) (hp : p ≤ 64) (hmn : mn = ctb (fitb σ row.toNat but) p) (hfo : fok = lsb (fitb σ row.toNat but) p) (hM9 : 64 - p = M9), Wx E G 0 0 10 [(4, .int (zI pz)), (3, .int (zI mn)), (0, .ref m), (1, .int (zI row)), (2, .int (zI but))] [] μk := by
    intro M9
    induction M9 using Nat.strongRecOn with
    | ind M9 ih10 =>
      intro μk p pz hpz mn fok hO hMA hCi hSu hFr hp hmn hfo hM9
      subst hpz
      have hmr := ctb_rg (fitb σ row.toNat but) p
      refine x_iload C dX9_fitting_10 0 rfl ?_
      refine z_bipush C dX9_fitting_12 (by decide) ?_
      refine z_icmp_ge (tgt := 110) C dX9_fitting_14 (by decide) (rg_of (by omega) (by omega)) (rg_of (by omega) (by omega)) (fun c_3 => ?_) (fun c_3 => ?_)
      · refine x_iload_n C dX9_fitting_110 rfl 1 rfl ?_
        exact x_iret C R dX9_fitting_111 (Nat.le_of_ble_eq_true rfl) (Nat.le_of_ble_eq_true rfl) (⟨_, rfl, ⟨by (rw [hmn, show p = 64 by omega]), by (rw [← show p = 64 by omega, ← hfo]; exact hO)⟩, hFr⟩)
      · refine z_iconst C dX9_fitting_17 ?_
        refine x_istore (lv' := [(5, .int (zI 1)), (4, .int (zI (p : Int))), (3, .int (zI mn)), (0, .ref m), (1, .int (zI row)), (2, .int (zI but))]) C dX9_fitting_18 (by decide) rfl ?_
        refine z_iconst C dX9_fitting_20 ?_
        refine x_istore (lv' := [(6, .int (zI 0)), (5, .int (zI 1)), (4, .int (zI (p : Int))), (3, .int (zI mn)), (0, .ref m), (1, .int (zI row)), (2, .int (zI but))]) C dX9_fitting_21 (by decide) rfl ?_
        have L23 : ∀ (M9 : Nat) (k : Nat) (kz : Int) (hkz : kz = (k : Int)) (i9 : Int) (hk : k ≤ hn σ row.toNat) (hi9 : i9 = b01 (ab σ row.toNat but p k)) (hM9 : hn σ row.toNat - k = M9), Wx E G 0 0 23 [(6, .int (zI kz)), (5, .int (zI i9)), (4, .int (zI (p : Int))), (3, .int (zI mn)), (0, .ref m), (1, .int (zI row)), (2, .int (zI but))] [] μk := by
          intro M9
          induction M9 using Nat.strongRecOn with
          | ind M9 ih23 =>
            intro k kz hkz i9 hk hi9 hM9
            subst hkz
            have hi8 := b01_c (ab σ row.toNat but p k)
            refine x_iload C dX9_fitting_23 0 rfl ?_
            refine x_aload_n C dX9_fitting_25 rfl 4 rfl ?_
            refine x_get (ci := 10) (Cn := RX9) (T := TX9) (N := 29) (ref := "CairnCipherModel") C dX9_fitting_26 in_X9 rfl hO 6 (by decide) (by decide +kernel) rfl rfl ?_
            refine x_iload_n C dX9_fitting_29 rfl 5 rfl ?_
            refine z_iald (j := row.toNat) C dX9_fitting_30 (show AI G μk (A 6) 3007 7 (σ 6) from hMA.ai 6 rfl) (by omega) (by omega) (by decide) ?_
            have q_4 := hI.r6 row.toNat (by omega)
            refine z_icmp_ge (tgt := 73) C dX9_fitting_31 (by decide) (rg_of (by omega) (by omega)) (rg_of (by omega) (by omega)) (fun c_5 => ?_) (fun c_5 => ?_)
            · have ek : k = hn σ row.toNat := by omega
              have hcs := ctb_s (f := fitb σ row.toNat but) (k := p) (i := i9) (by (rw [hi9, ek]; rfl))
              refine x_iload_n C dX9_fitting_73 rfl 3 rfl ?_
              refine x_iload C dX9_fitting_74 1 rfl ?_
              refine z_if_eq (tgt := 83) C dX9_fitting_76 (by decide) (rg_of (by omega) (by omega)) (fun c_6 => ?_) (fun c_6 => ?_)
              · refine z_iconst C dX9_fitting_83 ?_
                refine z_iadd C dX9_fitting_84 rfl ?_
                refine x_istore_n (lv' := [(3, .int (zI (mn + 0))), (6, .int (zI (k : Int))), (5, .int (zI i9)), (4, .int (zI (p : Int))), (0, .ref m), (1, .int (zI row)), (2, .int (zI but))]) C dX9_fitting_85 rfl (by decide) rfl ?_
                refine x_aload_n C dX9_fitting_86 rfl 4 rfl ?_
                refine x_iload C dX9_fitting_87 2 rfl ?_
                refine z_if_eq (tgt := 97) C dX9_fitting_89 (by decide) (rg_of (by omega) (by omega)) (fun c_7 => ?_) (fun c_7 => ?_)
                · refine x_aload_n C dX9_fitting_97 rfl 4 rfl ?_
                  refine x_get (ci := 10) (Cn := RX9) (T := TX9) (N := 29) (ref := "CairnCipherModel") C dX9_fitting_98 in_X9 rfl hO 25 (by decide) (by decide +kernel) rfl rfl ?_
                  refine z_put (ci := 10) (Cn := RX9) (T := TX9) (N := 29) (ref := "CairnCipherModel") (fs' := [.ref (A 0), .ref (A 1), .ref (A 2), .ref (A 3), .ref (A 4), .ref (A 5), .ref (A 6), .int (zI (σ 7 0)), .ref (A 8), .ref (A 9), .ref (A 10), .ref (A 11), .int (zI (σ 12 0)), .ref (A 13), .ref (A 14), .ref (A 15), .ref (A 16), .ref (A 17), .int (zI (σ 18 0)), .ref (A 19), .ref (A 20), .ref (A 21), .ref (A 22), .int (zI (σ 23 0)), .int (zI th), .int (zI fok), .ref (A 26), .int (zI cm), .ref (A 28)]) C dX9_fitting_101 in_X9 rfl tyX9 tyX9_ok nmX9 hO 25 (by decide) (by decide +kernel) rfl rfl rfl rfl rfl (Nat.le_of_ble_eq_true rfl) rfl (fun μ8 hOw hF9 => ?_)
                  have hMA : MA G μ8 A σ := hF9.ma hMA
                  have hCi := hF9.ai hCi
                  have hSu := hF9.ai hSu
                  have hFr : Fr 3000 3001 μ μ8 := hFr.tr hF9
                  have hO := hOw
                  refine z_iinc (lv' := [(4, .int (zI ((p : Int) + 1))), (3, .int (zI (mn + 0))), (6, .int (zI (k : Int))), (5, .int (zI i9)), (0, .ref m), (1, .int (zI row)), (2, .int (zI but))]) C dX9_fitting_104 3 rfl rfl (by decide) rfl ?_
                  refine x_goto (tgt := 10) C dX9_fitting_107 (by decide) ?_
                  refine x_sub (lv' := [(4, .int (zI ((p : Int) + 1))), (3, .int (zI (mn + 0))), (0, .ref m), (1, .int (zI row)), (2, .int (zI but))]) [0, 1, 4, 5, 6] rfl ?_
                  exact ih10 _ (by omega) _ (p + 1) _ (by omega) _ _ hO hMA hCi hSu hFr (by omega) (by omega) (by omega) rfl
                · refine x_iload C dX9_fitting_92 3 rfl ?_
                  refine x_goto (tgt := 101) C dX9_fitting_94 (by decide) ?_
                  refine z_put (ci := 10) (Cn := RX9) (T := TX9) (N := 29) (ref := "CairnCipherModel") (fs' := [.ref (A 0), .ref (A 1), .ref (A 2), .ref (A 3), .ref (A 4), .ref (A 5), .ref (A 6), .int (zI (σ 7 0)), .ref (A 8), .ref (A 9), .ref (A 10), .ref (A 11), .int (zI (σ 12 0)), .ref (A 13), .ref (A 14), .ref (A 15), .ref (A 16), .ref (A 17), .int (zI (σ 18 0)), .ref (A 19), .ref (A 20), .ref (A 21), .ref (A 22), .int (zI (σ 23 0)), .int (zI th), .int (zI (p : Int)), .ref (A 26), .int (zI cm), .ref (A 28)]) C dX9_fitting_101 in_X9 rfl tyX9 tyX9_ok nmX9 hO 25 (by decide) (by decide +kernel) rfl rfl rfl rfl rfl (Nat.le_of_ble_eq_true rfl) rfl (fun μ10 hOw hF11 => ?_)
                  have hMA : MA G μ10 A σ := hF11.ma hMA
                  have hCi := hF11.ai hCi
                  have hSu := hF11.ai hSu
                  have hFr : Fr 3000 3001 μ μ10 := hFr.tr hF11
                  have hO := hOw
                  refine z_iinc (lv' := [(4, .int (zI ((p : Int) + 1))), (3, .int (zI (mn + 0))), (6, .int (zI (k : Int))), (5, .int (zI i9)), (0, .ref m), (1, .int (zI row)), (2, .int (zI but))]) C dX9_fitting_104 3 rfl rfl (by decide) rfl ?_
                  refine x_goto (tgt := 10) C dX9_fitting_107 (by decide) ?_
                  refine x_sub (lv' := [(4, .int (zI ((p : Int) + 1))), (3, .int (zI (mn + 0))), (0, .ref m), (1, .int (zI row)), (2, .int (zI but))]) [0, 1, 4, 5, 6] rfl ?_
                  exact ih10 _ (by omega) _ (p + 1) _ (by omega) _ _ hO hMA hCi hSu hFr (by omega) (by omega) (by omega) rfl
              · refine z_iconst C dX9_fitting_79 ?_
                refine x_goto (tgt := 84) C dX9_fitting_80 (by decide) ?_
                refine z_iadd C dX9_fitting_84 rfl ?_
                refine x_istore_n (lv' := [(3, .int (zI (mn + 1))), (6, .int (zI (k : Int))), (5, .int (zI i9)), (4, .int (zI (p : Int))), (0, .ref m), (1, .int (zI row)), (2, .int (zI but))]) C dX9_fitting_85 rfl (by decide) rfl ?_
                refine x_aload_n C dX9_fitting_86 rfl 4 rfl ?_
                refine x_iload C dX9_fitting_87 2 rfl ?_
                refine z_if_eq (tgt := 97) C dX9_fitting_89 (by decide) (rg_of (by omega) (by omega)) (fun c_12 => ?_) (fun c_12 => ?_)
                · refine x_aload_n C dX9_fitting_97 rfl 4 rfl ?_
                  refine x_get (ci := 10) (Cn := RX9) (T := TX9) (N := 29) (ref := "CairnCipherModel") C dX9_fitting_98 in_X9 rfl hO 25 (by decide) (by decide +kernel) rfl rfl ?_
                  refine z_put (ci := 10) (Cn := RX9) (T := TX9) (N := 29) (ref := "CairnCipherModel") (fs' := [.ref (A 0), .ref (A 1), .ref (A 2), .ref (A 3), .ref (A 4), .ref (A 5), .ref (A 6), .int (zI (σ 7 0)), .ref (A 8), .ref (A 9), .ref (A 10), .ref (A 11), .int (zI (σ 12 0)), .ref (A 13), .ref (A 14), .ref (A 15), .ref (A 16), .ref (A 17), .int (zI (σ 18 0)), .ref (A 19), .ref (A 20), .ref (A 21), .ref (A 22), .int (zI (σ 23 0)), .int (zI th), .int (zI fok), .ref (A 26), .int (zI cm), .ref (A 28)]) C dX9_fitting_101 in_X9 rfl tyX9 tyX9_ok nmX9 hO 25 (by decide) (by decide +kernel) rfl rfl rfl rfl rfl (Nat.le_of_ble_eq_true rfl) rfl (fun μ13 hOw hF14 => ?_)
                  have hMA : MA G μ13 A σ := hF14.ma hMA
                  have hCi := hF14.ai hCi
                  have hSu := hF14.ai hSu
                  have hFr : Fr 3000 3001 μ μ13 := hFr.tr hF14
                  have hO := hOw
                  refine z_iinc (lv' := [(4, .int (zI ((p : Int) + 1))), (3, .int (zI (mn + 1))), (6, .int (zI (k : Int))), (5, .int (zI i9)), (0, .ref m), (1, .int (zI row)), (2, .int (zI but))]) C dX9_fitting_104 3 rfl rfl (by decide) rfl ?_
                  refine x_goto (tgt := 10) C dX9_fitting_107 (by decide) ?_
                  refine x_sub (lv' := [(4, .int (zI ((p : Int) + 1))), (3, .int (zI (mn + 1))), (0, .ref m), (1, .int (zI row)), (2, .int (zI but))]) [0, 1, 4, 5, 6] rfl ?_
                  exact ih10 _ (by omega) _ (p + 1) _ (by omega) _ _ hO hMA hCi hSu hFr (by omega) (by omega) (by omega) rfl
                · refine x_iload C dX9_fitting_92 3 rfl ?_
                  refine x_goto (tgt := 101) C dX9_fitting_94 (by decide) ?_
                  refine z_put (ci := 10) (Cn := RX9) (T := TX9) (N := 29) (ref := "CairnCipherModel") (fs' := [.ref (A 0), .ref (A 1), .ref (A 2), .ref (A 3), .ref (A 4), .ref (A 5), .ref (A 6), .int (zI (σ 7 0)), .ref (A 8), .ref (A 9), .ref (A 10), .ref (A 11), .int (zI (σ 12 0)), .ref (A 13), .ref (A 14), .ref (A 15), .ref (A 16), .ref (A 17), .int (zI (σ 18 0)), .ref (A 19), .ref (A 20), .ref (A 21), .ref (A 22), .int (zI (σ 23 0)), .int (zI th), .int (zI (p : Int)), .ref (A 26), .int (zI cm), .ref (A 28)]) C dX9_fitting_101 in_X9 rfl tyX9 tyX9_ok nmX9 hO 25 (by decide) (by decide +kernel) rfl rfl rfl rfl rfl (Nat.le_of_ble_eq_true rfl) rfl (fun μ15 hOw hF16 => ?_)
                  have hMA : MA G μ15 A σ := hF16.ma hMA
                  have hCi := hF16.ai hCi
                  have hSu := hF16.ai hSu
                  have hFr : Fr 3000 3001 μ μ15 := hFr.tr hF16
                  have hO := hOw
                  refine z_iinc (lv' := [(4, .int (zI ((p : Int) + 1))), (3, .int (zI (mn + 1))), (6, .int (zI (k : Int))), (5, .int (zI i9)), (0, .ref m), (1, .int (zI row)), (2, .int (zI but))]) C dX9_fitting_104 3 rfl rfl (by decide) rfl ?_
                  refine x_goto (tgt := 10) C dX9_fitting_107 (by decide) ?_
                  refine x_sub (lv' := [(4, .int (zI ((p : Int) + 1))), (3, .int (zI (mn + 1))), (0, .ref m), (1, .int (zI row)), (2, .int (zI but))]) [0, 1, 4, 5, 6] rfl ?_
                  exact ih10 _ (by omega) _ (p + 1) _ (by omega) _ _ hO hMA hCi hSu hFr (by omega) (by omega) (by omega) rfl
            · refine x_iload C dX9_fitting_34 1 rfl ?_
              refine z_if_eq (tgt := 64) C dX9_fitting_36 (by decide) (rg_of (by omega) (by omega)) (fun c_17 => ?_) (fun c_17 => ?_)
              · refine z_iconst C dX9_fitting_64 ?_
                refine x_istore (lv' := [(5, .int (zI 0)), (6, .int (zI (k : Int))), (4, .int (zI (p : Int))), (3, .int (zI mn)), (0, .ref m), (1, .int (zI row)), (2, .int (zI but))]) C dX9_fitting_65 (by decide) rfl ?_
                refine z_iinc (lv' := [(6, .int (zI ((k : Int) + 1))), (5, .int (zI 0)), (4, .int (zI (p : Int))), (3, .int (zI mn)), (0, .ref m), (1, .int (zI row)), (2, .int (zI but))]) C dX9_fitting_67 1 rfl rfl (by decide) rfl ?_
                refine x_goto (tgt := 23) C dX9_fitting_70 (by decide) ?_
                exact ih23 _ (by omega) (k + 1) _ (by omega) _ (by omega) (by first | exact ab_0 hi9 (by omega) | exact (show (1 : Int) = i9 by omega).trans (ab_b hi9 (by omega))) rfl
              · refine x_iload C dX9_fitting_39 0 rfl ?_
                refine x_iload_n C dX9_fitting_41 rfl 6 rfl ?_
                refine z_icmp_eq (tgt := 60) C dX9_fitting_42 (by decide) (rg_of (by omega) (by omega)) (rg_of (by omega) (by omega)) (fun c_18 => ?_) (fun c_18 => ?_)
                · refine z_iconst C dX9_fitting_60 ?_
                  refine x_goto (tgt := 65) C dX9_fitting_61 (by decide) ?_
                  refine x_istore (lv' := [(5, .int (zI 1)), (6, .int (zI (k : Int))), (4, .int (zI (p : Int))), (3, .int (zI mn)), (0, .ref m), (1, .int (zI row)), (2, .int (zI but))]) C dX9_fitting_65 (by decide) rfl ?_
                  refine z_iinc (lv' := [(6, .int (zI ((k : Int) + 1))), (5, .int (zI 1)), (4, .int (zI (p : Int))), (3, .int (zI mn)), (0, .ref m), (1, .int (zI row)), (2, .int (zI but))]) C dX9_fitting_67 1 rfl rfl (by decide) rfl ?_
                  refine x_goto (tgt := 23) C dX9_fitting_70 (by decide) ?_
                  exact ih23 _ (by omega) (k + 1) _ (by omega) _ (by omega) (by first | exact ab_0 hi9 (by omega) | exact (show (1 : Int) = i9 by omega).trans (ab_b hi9 (by omega))) rfl
                · refine x_aload_n C dX9_fitting_45 rfl 4 rfl ?_
                  refine z_iconst C dX9_fitting_46 ?_
                  refine x_iload_n C dX9_fitting_47 rfl 5 rfl ?_
                  refine z_imul C dX9_fitting_48 rfl ?_
                  refine x_iload C dX9_fitting_49 0 rfl ?_
                  refine z_iadd C dX9_fitting_51 rfl ?_
                  refine x_iload C dX9_fitting_52 2 rfl ?_
                  refine x_callV (n := 2) (ci := 10) (Cn := RX9) (T := TX9) (N := 29) (cc9 := 0) (ss9 := 0) (rest := []) C dX9_fitting_54 (c_X9_holds (kxL E) C.st G z μk _ σ _ _ _ _ _ _ _ ((5 * row) + (k : Int)) (p : Int) ⟨hO, hMA, hCi, hSu⟩ hI (by omega) (by omega)) gX9_fitting_X9_holds rfl (by decide +kernel) ⟨(Nat.le_of_ble_eq_true rfl), (Nat.le_of_ble_eq_true rfl)⟩ rfl ⟨_, _, hO⟩ rfl rfl (Nat.le_of_ble_eq_true rfl) rfl rfl ⟨(Nat.le_of_ble_eq_true rfl), (Nat.le_of_ble_eq_true rfl)⟩ nX_no (fun v19 μ20 hv21 => ?_)
                  obtain ⟨r22, hw25, h23, hm24⟩ := hv21
                  subst hw25
                  rw [hm24]
                  have hh9 : r22 = b01 (HB σ (5 * row.toNat + k) (p : Int)) := by (rw [show 5 * row.toNat + k = ((5 * row) + (k : Int)).toNat by omega]; exact h23)
                  have hh8 := b01_c (HB σ (5 * row.toNat + k) (p : Int))
                  refine x_stk (stk' := [.int (zI r22)]) rfl ?_
                  refine z_if_eq (tgt := 64) C dX9_fitting_57 (by decide) (rg_of (by omega) (by omega)) (fun c_26 => ?_) (fun c_26 => ?_)
                  · refine z_iconst C dX9_fitting_64 ?_
                    refine x_istore (lv' := [(5, .int (zI 0)), (6, .int (zI (k : Int))), (4, .int (zI (p : Int))), (3, .int (zI mn)), (0, .ref m), (1, .int (zI row)), (2, .int (zI but))]) C dX9_fitting_65 (by decide) rfl ?_
                    refine z_iinc (lv' := [(6, .int (zI ((k : Int) + 1))), (5, .int (zI 0)), (4, .int (zI (p : Int))), (3, .int (zI mn)), (0, .ref m), (1, .int (zI row)), (2, .int (zI but))]) C dX9_fitting_67 1 rfl rfl (by decide) rfl ?_
                    refine x_goto (tgt := 23) C dX9_fitting_70 (by decide) ?_
                    exact ih23 _ (by omega) (k + 1) _ (by omega) _ (by omega) (by first | exact ab_0 hi9 (by omega) | exact (show (1 : Int) = i9 by omega).trans (ab_b hi9 (by omega)) | exact (show _ = r22 by omega).trans (ab_n hi9 hh9 (by omega) (by omega))) rfl
                  · refine z_iconst C dX9_fitting_60 ?_
                    refine x_goto (tgt := 65) C dX9_fitting_61 (by decide) ?_
                    refine x_istore (lv' := [(5, .int (zI 1)), (6, .int (zI (k : Int))), (4, .int (zI (p : Int))), (3, .int (zI mn)), (0, .ref m), (1, .int (zI row)), (2, .int (zI but))]) C dX9_fitting_65 (by decide) rfl ?_
                    refine z_iinc (lv' := [(6, .int (zI ((k : Int) + 1))), (5, .int (zI 1)), (4, .int (zI (p : Int))), (3, .int (zI mn)), (0, .ref m), (1, .int (zI row)), (2, .int (zI but))]) C dX9_fitting_67 1 rfl rfl (by decide) rfl ?_
                    refine x_goto (tgt := 23) C dX9_fitting_70 (by decide) ?_
                    exact ih23 _ (by omega) (k + 1) _ (by omega) _ (by omega) (by first | exact ab_0 hi9 (by omega) | exact (show (1 : Int) = i9 by omega).trans (ab_b hi9 (by omega)) | exact (show _ = r22 by omega).trans (ab_n hi9 hh9 (by omega) (by omega))) rfl
        exact L23 _ (0) _ (by omega) _ (by omega) rfl rfl
  exact L10 _ _ (0) _ (by omega) _ (-1) hO hMA hCi hSu hFr (by omega) rfl rfl rfl
abbrev rm_X9_fixed : Room := { frames := 4, cells := 0, slots := 0, locals := 93 }
set_option maxHeartbeats 4000000 in
set_option maxRecDepth 100000 in
theorem c_X9_fixed (l : Launch) (hst : l.stackTraces = false) (G : GG) (z : Nat) (μ : Mm) (m : Nat) (σ : SS) (n : Nat) (th fo cm : Int) (Ci Su : Nat → Int) (A : Nat → Nat) (row : Int) (hM9 : RepY G μ m σ th fo cm Ci Su A) (hI : Iv σ n) (hrow : 0 ≤ row ∧ row < 7) : Ct l yX9_fixed wsX9_fixed rm_X9_fixed G z [.ref m, .int (zI row)] μ (rS (fun r9 μ' => (r9 = uq (fitb σ row.toNat (-1)) ∧ ∃ fo', OB μ' m 3000 10 [.ref (A 0), .ref (A 1), .ref (A 2), .ref (A 3), .ref (A 4), .ref (A 5), .ref (A 6), .int (zI (σ 7 0)), .ref (A 8), .ref (A 9), .ref (A 10), .ref (A 11), .int (zI (σ 12 0)), .ref (A 13), .ref (A 14), .ref (A 15), .ref (A 16), .ref (A 17), .int (zI (σ 18 0)), .ref (A 19), .ref (A 20), .ref (A 21), .ref (A 22), .int (zI (σ 23 0)), .int (zI th), .int (zI fo'), .ref (A 26), .int (zI cm), .ref (A 28)]) ∧ Fr 3000 3001 μ μ')) (nX) := by
  refine ct_of (cc := cX9_fixed) (maxL := 2) (ret := (some .int)) (own := RX9) (by decide) rfl rfl hst (Nat.le_of_ble_eq_true rfl) ?_
  intro E hLl hnm C R hT
  have in_X9 : ∀ w ∈ u_ws RX9 TX9 29, w ∈ wsX9_fixed := by decide +kernel
  have hM8 := hM9
  obtain ⟨hO, hMA, hCi, hSu⟩ := hM9
  have hn7 := hI.n7
  have hn12 := hI.n12
  have hn18 := hI.n18
  have hn23 := hI.n23
  have huq := uq_of (f := fitb σ row.toNat (-1))
  have hcb := ctb_rg (fitb σ row.toNat (-1)) 64
  have hFr : Fr 3000 3001 μ μ := Fr.rf
  refine x_eq (lv' := [(0, .ref m), (1, .int (zI row))]) rfl rfl ?_
  refine x_aload_n C dX9_fixed_0 rfl 0 rfl ?_
  refine x_iload_n C dX9_fixed_1 rfl 1 rfl ?_
  refine z_iconst C dX9_fixed_2 ?_
  refine x_callV (n := 2) (ci := 10) (Cn := RX9) (T := TX9) (N := 29) (cc9 := 0) (ss9 := 0) (rest := []) C dX9_fixed_3 (c_X9_fitting (kxL E) C.st G z μ _ σ _ _ _ _ _ _ _ row (-1) ⟨hO, hMA, hCi, hSu⟩ hI (by omega) (by omega)) gX9_fixed_X9_fitting rfl (by decide +kernel) ⟨(Nat.le_of_ble_eq_true rfl), (Nat.le_of_ble_eq_true rfl)⟩ rfl ⟨_, _, hO⟩ rfl rfl (Nat.le_of_ble_eq_true rfl) rfl rfl ⟨(Nat.le_of_ble_eq_true rfl), (Nat.le_of_ble_eq_true rfl)⟩ nX_no (fun v1 μ2 hv3 => ?_)
  obtain ⟨r4, hw7, h5⟩ := hv3
  subst hw7
  obtain ⟨⟨hr9, hO⟩, hF9⟩ := h5
  have hF8 := hF9
  have hMA : MA G μ2 A σ := hF8.ma hMA
  have hCi := hF8.ai hCi
  have hSu := hF8.ai hSu
  have hFr : Fr 3000 3001 μ μ2 := hFr.tr hF8
  refine x_stk (stk' := [.int (zI r4)]) rfl ?_
  refine z_iconst C dX9_fixed_6 ?_
  refine z_icmp_ne (tgt := 17) C dX9_fixed_7 (by decide) (rg_of (by omega) (by omega)) (rg_of (by omega) (by omega)) (fun c_9 => ?_) (fun c_9 => ?_)
  · refine z_iconst C dX9_fixed_17 ?_
    exact x_iret C R dX9_fixed_18 (Nat.le_of_ble_eq_true rfl) (Nat.le_of_ble_eq_true rfl) (⟨_, rfl, ⟨by omega, _, hO⟩, hFr⟩)
  · refine x_aload_n C dX9_fixed_10 rfl 0 rfl ?_
    refine x_get (ci := 10) (Cn := RX9) (T := TX9) (N := 29) (ref := "CairnCipherModel") C dX9_fixed_11 in_X9 rfl hO 25 (by decide) (by decide +kernel) rfl rfl ?_
    refine x_goto (tgt := 18) C dX9_fixed_14 (by decide) ?_
    exact x_iret C R dX9_fixed_18 (Nat.le_of_ble_eq_true rfl) (Nat.le_of_ble_eq_true rfl) (⟨_, rfl, ⟨by omega, _, hO⟩, hFr⟩)
abbrev rm_X9_fits : Room := { frames := 4, cells := 0, slots := 0, locals := 93 }
set_option maxHeartbeats 4000000 in
set_option maxRecDepth 100000 in
theorem c_X9_fits (l : Launch) (hst : l.stackTraces = false) (G : GG) (z : Nat) (μ : Mm) (m : Nat) (σ : SS) (n : Nat) (th fo cm : Int) (Ci Su : Nat → Int) (A : Nat → Nat) (k : Int) (hM9 : RepY G μ m σ th fo cm Ci Su A) (hI : Iv σ n) (hk : -2147483648 ≤ k ∧ k < 2147483648) : Ct l yX9_fits wsX9_fits rm_X9_fits G z [.ref m, .int (zI k)] μ (rS (fun r9 μ' => MR G μ' m (t_st σ k) (b_fits σ (k.toNat + 1)) σ (σ) r9 ∧ Fr 3000 3999 μ μ')) (nX) := by
  refine ct_of (cc := cX9_fits) (maxL := 2) (ret := (some .int)) (own := RX9) (by decide) rfl rfl hst (Nat.le_of_ble_eq_true rfl) ?_
  intro E hLl hnm C R hT
  have in_X9 : ∀ w ∈ u_ws RX9 TX9 29, w ∈ wsX9_fits := by decide +kernel
  have hM8 := hM9
  obtain ⟨hO, hMA, hCi, hSu⟩ := hM9
  have hn7 := hI.n7
  have hn12 := hI.n12
  have hn18 := hI.n18
  have hn23 := hI.n23
  have hFr : Fr 3000 3999 μ μ := Fr.rf
  refine x_eq (lv' := [(0, .ref m), (1, .int (zI k))]) rfl rfl ?_
  refine x_aload_n C dX9_fits_0 rfl 0 rfl ?_
  refine x_aload_n C dX9_fits_1 rfl 0 rfl ?_
  refine x_iload_n C dX9_fits_2 rfl 1 rfl ?_
  refine x_callV (n := 1) (ci := 10) (Cn := RX9) (T := TX9) (N := 29) (cc9 := 0) (ss9 := 0) (rest := [.ref m]) C dX9_fits_3 (c_X9_isStage (kxL E) C.st G z μ _ σ _ _ _ _ _ _ _ k ⟨hO, hMA, hCi, hSu⟩ hI (by omega)) gX9_fits_X9_isStage rfl (by decide +kernel) ⟨(Nat.le_of_ble_eq_true rfl), (Nat.le_of_ble_eq_true rfl)⟩ rfl ⟨_, _, hO⟩ rfl rfl (Nat.le_of_ble_eq_true rfl) rfl rfl ⟨(Nat.le_of_ble_eq_true rfl), (Nat.le_of_ble_eq_true rfl)⟩ nX_no (fun v1 μ2 hv3 => ?_)
  obtain ⟨r4, hw7, h5, hm6⟩ := hv3
  subst hw7
  rw [hm6]
  refine x_stk (stk' := [.int (zI r4), .ref m]) rfl ?_
  refine z_if_eq (tgt := 13) C dX9_fits_6 (by decide) (rg_of (by omega) (by omega)) (fun c_8 => ?_) (fun c_8 => ?_)
  · refine z_iconst C dX9_fits_13 ?_
    refine z_put (ci := 10) (Cn := RX9) (T := TX9) (N := 29) (ref := "CairnCipherModel") (fs' := [.ref (A 0), .ref (A 1), .ref (A 2), .ref (A 3), .ref (A 4), .ref (A 5), .ref (A 6), .int (zI (σ 7 0)), .ref (A 8), .ref (A 9), .ref (A 10), .ref (A 11), .int (zI (σ 12 0)), .ref (A 13), .ref (A 14), .ref (A 15), .ref (A 16), .ref (A 17), .int (zI (σ 18 0)), .ref (A 19), .ref (A 20), .ref (A 21), .ref (A 22), .int (zI (σ 23 0)), .int (zI 1), .int (zI fo), .ref (A 26), .int (zI cm), .ref (A 28)]) C dX9_fits_14 in_X9 rfl tyX9 tyX9_ok nmX9 hO 24 (by decide) (by decide +kernel) rfl rfl rfl rfl rfl (Nat.le_of_ble_eq_true rfl) rfl (fun μ9 hOw hF10 => ?_)
    have hMA : MA G μ9 A σ := hF10.ma hMA
    have hCi := hF10.ai hCi
    have hSu := hF10.ai hSu
    have hFr : Fr 3000 3999 μ μ9 := hFr.tr hF10
    have hO := hOw
    refine x_aload_n C dX9_fits_17 rfl 0 rfl ?_
    refine x_get (ci := 10) (Cn := RX9) (T := TX9) (N := 29) (ref := "CairnCipherModel") C dX9_fits_18 in_X9 rfl hO 24 (by decide) (by decide +kernel) rfl rfl ?_
    refine z_if_ne (tgt := 35) C dX9_fits_21 (by decide) (rg_of (by omega) (by omega)) (fun c_11 => ?_) (fun c_11 => ?_)
    · refine z_iconst C dX9_fits_35 ?_
      exact x_iret C R dX9_fits_36 (Nat.le_of_ble_eq_true rfl) (Nat.le_of_ble_eq_true rfl) (⟨_, rfl, ⟨Or.inr ⟨by (rw [show t_st σ k = 1 from by (unfold t_st; (repeat split) <;> omega)]; omega), by (rw [show t_st σ k = 1 from by (unfold t_st; (repeat split) <;> omega)]; exact ⟨_, _, _, _, _, hO, hMA, hCi, hSu⟩)⟩, hFr⟩⟩)
    · exfalso; omega
  · refine z_iconst C dX9_fits_9 ?_
    refine x_goto (tgt := 14) C dX9_fits_10 (by decide) ?_
    refine z_put (ci := 10) (Cn := RX9) (T := TX9) (N := 29) (ref := "CairnCipherModel") (fs' := [.ref (A 0), .ref (A 1), .ref (A 2), .ref (A 3), .ref (A 4), .ref (A 5), .ref (A 6), .int (zI (σ 7 0)), .ref (A 8), .ref (A 9), .ref (A 10), .ref (A 11), .int (zI (σ 12 0)), .ref (A 13), .ref (A 14), .ref (A 15), .ref (A 16), .ref (A 17), .int (zI (σ 18 0)), .ref (A 19), .ref (A 20), .ref (A 21), .ref (A 22), .int (zI (σ 23 0)), .int (zI 0), .int (zI fo), .ref (A 26), .int (zI cm), .ref (A 28)]) C dX9_fits_14 in_X9 rfl tyX9 tyX9_ok nmX9 hO 24 (by decide) (by decide +kernel) rfl rfl rfl rfl rfl (Nat.le_of_ble_eq_true rfl) rfl (fun μ12 hOw hF13 => ?_)
    have hMA : MA G μ12 A σ := hF13.ma hMA
    have hCi := hF13.ai hCi
    have hSu := hF13.ai hSu
    have hFr : Fr 3000 3999 μ μ12 := hFr.tr hF13
    have hO := hOw
    refine x_aload_n C dX9_fits_17 rfl 0 rfl ?_
    refine x_get (ci := 10) (Cn := RX9) (T := TX9) (N := 29) (ref := "CairnCipherModel") C dX9_fits_18 in_X9 rfl hO 24 (by decide) (by decide +kernel) rfl rfl ?_
    refine z_if_ne (tgt := 35) C dX9_fits_21 (by decide) (rg_of (by omega) (by omega)) (fun c_14 => ?_) (fun c_14 => ?_)
    · exfalso; omega
    · refine x_aload_n C dX9_fits_24 rfl 0 rfl ?_
      refine x_iload_n C dX9_fits_25 rfl 1 rfl ?_
      refine z_iconst C dX9_fits_26 ?_
      refine z_iadd C dX9_fits_27 rfl ?_
      refine z_iconst C dX9_fits_28 ?_
      refine x_callV (n := 2) (ci := 10) (Cn := RX9) (T := TX9) (N := 29) (cc9 := 0) (ss9 := 0) (rest := []) C dX9_fits_29 (c_X9_fitting (kxL E) C.st G z μ12 _ σ _ _ _ _ _ _ _ (k + 1) (-1) ⟨hO, hMA, hCi, hSu⟩ hI (by omega) (by omega)) gX9_fits_X9_fitting rfl (by decide +kernel) ⟨(Nat.le_of_ble_eq_true rfl), (Nat.le_of_ble_eq_true rfl)⟩ rfl ⟨_, _, hO⟩ rfl rfl (Nat.le_of_ble_eq_true rfl) rfl rfl ⟨(Nat.le_of_ble_eq_true rfl), (Nat.le_of_ble_eq_true rfl)⟩ nX_no (fun v15 μ16 hv17 => ?_)
      obtain ⟨r18, hw21, h19⟩ := hv17
      subst hw21
      obtain ⟨⟨hr9, hO⟩, hF9⟩ := h19
      have hF22 := hF9
      have hMA : MA G μ16 A σ := hF22.ma hMA
      have hCi := hF22.ai hCi
      have hSu := hF22.ai hSu
      have hFr : Fr 3000 3999 μ μ16 := hFr.tr hF22
      refine x_stk (stk' := [.int (zI r18)]) rfl ?_
      refine x_goto (tgt := 36) C dX9_fits_32 (by decide) ?_
      exact x_iret C R dX9_fits_36 (Nat.le_of_ble_eq_true rfl) (Nat.le_of_ble_eq_true rfl) (⟨_, rfl, ⟨Or.inl ⟨by (unfold t_st; (repeat split) <;> omega), by (rw [hr9]; unfold b_fits; rw [show (k + 1).toNat = k.toNat + 1 by omega]), ⟨_, _, _, _, _, hO, hMA, hCi, hSu⟩⟩, hFr⟩⟩)
abbrev rm_X9_placeByAll : Room := { frames := 5, cells := 0, slots := 0, locals := 114 }
set_option maxHeartbeats 4000000 in
set_option maxRecDepth 100000 in
theorem c_X9_placeByAll (l : Launch) (hst : l.stackTraces = false) (G : GG) (z : Nat) (μ : Mm) (m : Nat) (σ : SS) (n : Nat) (th fo cm : Int) (Ci Su : Nat → Int) (A : Nat → Nat) (k : Int) (hM9 : RepY G μ m σ th fo cm Ci Su A) (hI : Iv σ n) (hk : -2147483648 ≤ k ∧ k < 2147483648) : Ct l yX9_placeByAll wsX9_placeByAll rm_X9_placeByAll G z [.ref m, .int (zI k)] μ (rS (fun r9 μ' => MR G μ' m (t_st σ k) (uq (fitb σ (k.toNat + 1) (-1))) σ (σ) r9 ∧ Fr 3000 3999 μ μ')) (nX) := by
  refine ct_of (cc := cX9_placeByAll) (maxL := 2) (ret := (some .int)) (own := RX9) (by decide) rfl rfl hst (Nat.le_of_ble_eq_true rfl) ?_
  intro E hLl hnm C R hT
  have in_X9 : ∀ w ∈ u_ws RX9 TX9 29, w ∈ wsX9_placeByAll := by decide +kernel
  have hM8 := hM9
  obtain ⟨hO, hMA, hCi, hSu⟩ := hM9
  have hn7 := hI.n7
  have hn12 := hI.n12
  have hn18 := hI.n18
  have hn23 := hI.n23
  have hFr : Fr 3000 3999 μ μ := Fr.rf
  refine x_eq (lv' := [(0, .ref m), (1, .int (zI k))]) rfl rfl ?_
  refine x_aload_n C dX9_placeByAll_0 rfl 0 rfl ?_
  refine x_aload_n C dX9_placeByAll_1 rfl 0 rfl ?_
  refine x_iload_n C dX9_placeByAll_2 rfl 1 rfl ?_
  refine x_callV (n := 1) (ci := 10) (Cn := RX9) (T := TX9) (N := 29) (cc9 := 0) (ss9 := 0) (rest := [.ref m]) C dX9_placeByAll_3 (c_X9_isStage (kxL E) C.st G z μ _ σ _ _ _ _ _ _ _ k ⟨hO, hMA, hCi, hSu⟩ hI (by omega)) gX9_placeByAll_X9_isStage rfl (by decide +kernel) ⟨(Nat.le_of_ble_eq_true rfl), (Nat.le_of_ble_eq_true rfl)⟩ rfl ⟨_, _, hO⟩ rfl rfl (Nat.le_of_ble_eq_true rfl) rfl rfl ⟨(Nat.le_of_ble_eq_true rfl), (Nat.le_of_ble_eq_true rfl)⟩ nX_no (fun v1 μ2 hv3 => ?_)
  obtain ⟨r4, hw7, h5, hm6⟩ := hv3
  subst hw7
  rw [hm6]
  refine x_stk (stk' := [.int (zI r4), .ref m]) rfl ?_
  refine z_if_eq (tgt := 13) C dX9_placeByAll_6 (by decide) (rg_of (by omega) (by omega)) (fun c_8 => ?_) (fun c_8 => ?_)
  · refine z_iconst C dX9_placeByAll_13 ?_
    refine z_put (ci := 10) (Cn := RX9) (T := TX9) (N := 29) (ref := "CairnCipherModel") (fs' := [.ref (A 0), .ref (A 1), .ref (A 2), .ref (A 3), .ref (A 4), .ref (A 5), .ref (A 6), .int (zI (σ 7 0)), .ref (A 8), .ref (A 9), .ref (A 10), .ref (A 11), .int (zI (σ 12 0)), .ref (A 13), .ref (A 14), .ref (A 15), .ref (A 16), .ref (A 17), .int (zI (σ 18 0)), .ref (A 19), .ref (A 20), .ref (A 21), .ref (A 22), .int (zI (σ 23 0)), .int (zI 1), .int (zI fo), .ref (A 26), .int (zI cm), .ref (A 28)]) C dX9_placeByAll_14 in_X9 rfl tyX9 tyX9_ok nmX9 hO 24 (by decide) (by decide +kernel) rfl rfl rfl rfl rfl (Nat.le_of_ble_eq_true rfl) rfl (fun μ9 hOw hF10 => ?_)
    have hMA : MA G μ9 A σ := hF10.ma hMA
    have hCi := hF10.ai hCi
    have hSu := hF10.ai hSu
    have hFr : Fr 3000 3999 μ μ9 := hFr.tr hF10
    have hO := hOw
    refine x_aload_n C dX9_placeByAll_17 rfl 0 rfl ?_
    refine x_get (ci := 10) (Cn := RX9) (T := TX9) (N := 29) (ref := "CairnCipherModel") C dX9_placeByAll_18 in_X9 rfl hO 24 (by decide) (by decide +kernel) rfl rfl ?_
    refine z_if_ne (tgt := 34) C dX9_placeByAll_21 (by decide) (rg_of (by omega) (by omega)) (fun c_11 => ?_) (fun c_11 => ?_)
    · refine z_iconst C dX9_placeByAll_34 ?_
      exact x_iret C R dX9_placeByAll_35 (Nat.le_of_ble_eq_true rfl) (Nat.le_of_ble_eq_true rfl) (⟨_, rfl, ⟨Or.inr ⟨by (rw [show t_st σ k = 1 from by (unfold t_st; (repeat split) <;> omega)]; omega), by (rw [show t_st σ k = 1 from by (unfold t_st; (repeat split) <;> omega)]; exact ⟨_, _, _, _, _, hO, hMA, hCi, hSu⟩)⟩, hFr⟩⟩)
    · exfalso; omega
  · refine z_iconst C dX9_placeByAll_9 ?_
    refine x_goto (tgt := 14) C dX9_placeByAll_10 (by decide) ?_
    refine z_put (ci := 10) (Cn := RX9) (T := TX9) (N := 29) (ref := "CairnCipherModel") (fs' := [.ref (A 0), .ref (A 1), .ref (A 2), .ref (A 3), .ref (A 4), .ref (A 5), .ref (A 6), .int (zI (σ 7 0)), .ref (A 8), .ref (A 9), .ref (A 10), .ref (A 11), .int (zI (σ 12 0)), .ref (A 13), .ref (A 14), .ref (A 15), .ref (A 16), .ref (A 17), .int (zI (σ 18 0)), .ref (A 19), .ref (A 20), .ref (A 21), .ref (A 22), .int (zI (σ 23 0)), .int (zI 0), .int (zI fo), .ref (A 26), .int (zI cm), .ref (A 28)]) C dX9_placeByAll_14 in_X9 rfl tyX9 tyX9_ok nmX9 hO 24 (by decide) (by decide +kernel) rfl rfl rfl rfl rfl (Nat.le_of_ble_eq_true rfl) rfl (fun μ12 hOw hF13 => ?_)
    have hMA : MA G μ12 A σ := hF13.ma hMA
    have hCi := hF13.ai hCi
    have hSu := hF13.ai hSu
    have hFr : Fr 3000 3999 μ μ12 := hFr.tr hF13
    have hO := hOw
    refine x_aload_n C dX9_placeByAll_17 rfl 0 rfl ?_
    refine x_get (ci := 10) (Cn := RX9) (T := TX9) (N := 29) (ref := "CairnCipherModel") C dX9_placeByAll_18 in_X9 rfl hO 24 (by decide) (by decide +kernel) rfl rfl ?_
    refine z_if_ne (tgt := 34) C dX9_placeByAll_21 (by decide) (rg_of (by omega) (by omega)) (fun c_14 => ?_) (fun c_14 => ?_)
    · exfalso; omega
    · refine x_aload_n C dX9_placeByAll_24 rfl 0 rfl ?_
      refine x_iload_n C dX9_placeByAll_25 rfl 1 rfl ?_
      refine z_iconst C dX9_placeByAll_26 ?_
      refine z_iadd C dX9_placeByAll_27 rfl ?_
      refine x_callV (n := 1) (ci := 10) (Cn := RX9) (T := TX9) (N := 29) (cc9 := 0) (ss9 := 0) (rest := []) C dX9_placeByAll_28 (c_X9_fixed (kxL E) C.st G z μ12 _ σ _ _ _ _ _ _ _ (k + 1) ⟨hO, hMA, hCi, hSu⟩ hI (by omega)) gX9_placeByAll_X9_fixed rfl (by decide +kernel) ⟨(Nat.le_of_ble_eq_true rfl), (Nat.le_of_ble_eq_true rfl)⟩ rfl ⟨_, _, hO⟩ rfl rfl (Nat.le_of_ble_eq_true rfl) rfl rfl ⟨(Nat.le_of_ble_eq_true rfl), (Nat.le_of_ble_eq_true rfl)⟩ nX_no (fun v16 μ17 hv18 => ?_)
      obtain ⟨r19, hw22, h20⟩ := hv18
      subst hw22
      obtain ⟨⟨hr9, fo15, hO⟩, hF9⟩ := h20
      have hF23 := hF9
      have hMA : MA G μ17 A σ := hF23.ma hMA
      have hCi := hF23.ai hCi
      have hSu := hF23.ai hSu
      have hFr : Fr 3000 3999 μ μ17 := hFr.tr hF23
      refine x_stk (stk' := [.int (zI r19)]) rfl ?_
      refine x_goto (tgt := 35) C dX9_placeByAll_31 (by decide) ?_
      exact x_iret C R dX9_placeByAll_35 (Nat.le_of_ble_eq_true rfl) (Nat.le_of_ble_eq_true rfl) (⟨_, rfl, ⟨Or.inl ⟨by (unfold t_st; (repeat split) <;> omega), by (rw [hr9, show (k + 1).toNat = k.toNat + 1 by omega]), ⟨_, _, _, _, _, hO, hMA, hCi, hSu⟩⟩, hFr⟩⟩)
abbrev rm_X9_hint : Room := { frames := 4, cells := 0, slots := 0, locals := 93 }
set_option maxHeartbeats 4000000 in
set_option maxRecDepth 100000 in
theorem c_X9_hint (l : Launch) (hst : l.stackTraces = false) (G : GG) (z : Nat) (μ : Mm) (m : Nat) (σ : SS) (n : Nat) (th fo cm : Int) (Ci Su : Nat → Int) (A : Nat → Nat) (k v mk d : Int) (hM9 : RepY G μ m σ th fo cm Ci Su A) (hI : Iv σ n) (hk : -2147483648 ≤ k ∧ k < 2147483648) (hv : -2147483648 ≤ v ∧ v < 2147483648) (hmk : -2147483648 ≤ mk ∧ mk < 2147483648) (hd : d = 0 ∨ d = 1) : Ct l yX9_hint wsX9_hint rm_X9_hint G z [.ref m, .int (zI k), .int (zI v), .int (zI mk), .int (zI d)] μ (rS (fun r9 μ' => MR G μ' m (t_hint σ k v mk) (b_fits (n_hint σ k v mk d) 0) σ (n_hint σ k v mk d) r9 ∧ Fr 3000 3999 μ μ')) (nX) := by
  refine ct_of (cc := cX9_hint) (maxL := 5) (ret := (some .int)) (own := RX9) (by decide) rfl rfl hst (Nat.le_of_ble_eq_true rfl) ?_
  intro E hLl hnm C R hT
  have in_X9 : ∀ w ∈ u_ws RX9 TX9 29, w ∈ wsX9_hint := by decide +kernel
  have hM8 := hM9
  obtain ⟨hO, hMA, hCi, hSu⟩ := hM9
  have hn7 := hI.n7
  have hn12 := hI.n12
  have hn18 := hI.n18
  have hn23 := hI.n23
  have hnr0 := hI.r6 0 (by decide)
  have hFr : Fr 3000 3999 μ μ := Fr.rf
  refine x_eq (lv' := [(0, .ref m), (1, .int (zI k)), (2, .int (zI v)), (3, .int (zI mk)), (4, .int (zI d))]) rfl rfl ?_
  refine x_aload_n C dX9_hint_0 rfl 0 rfl ?_
  refine x_iload_n C dX9_hint_1 rfl 3 rfl ?_
  refine x_callS (n := 1) (cc9 := 0) (ss9 := 0) (rest := [.ref m]) C dX9_hint_2 (c_X9_isPlace (kxL E) C.st G z μ mk (by omega)) gX9_hint_X9_isPlace rfl (by decide +kernel) ⟨(Nat.le_of_ble_eq_true rfl), (Nat.le_of_ble_eq_true rfl)⟩ rfl rfl (Nat.le_of_ble_eq_true rfl) rfl rfl ⟨(Nat.le_of_ble_eq_true rfl), (Nat.le_of_ble_eq_true rfl)⟩ nX_no (fun v1 μ2 hv3 => ?_)
  obtain ⟨r4, hw7, h5, hm6⟩ := hv3
  subst hw7
  rw [hm6]
  refine x_stk (stk' := [.int (zI r4), .ref m]) rfl ?_
  refine z_if_ne (tgt := 12) C dX9_hint_5 (by decide) (rg_of (by omega) (by omega)) (fun c_8 => ?_) (fun c_8 => ?_)
  · refine x_iload_n C dX9_hint_12 rfl 1 rfl ?_
    refine z_iconst C dX9_hint_13 ?_
    refine z_iconst C dX9_hint_14 ?_
    refine x_callS (n := 3) (cc9 := 0) (ss9 := 0) (rest := [.ref m]) C dX9_hint_15 (c_X9_in (kxL E) C.st G z μ k 0 4 (by omega) (by omega) (by omega)) gX9_hint_X9_in rfl (by decide +kernel) ⟨(Nat.le_of_ble_eq_true rfl), (Nat.le_of_ble_eq_true rfl)⟩ rfl rfl (Nat.le_of_ble_eq_true rfl) rfl rfl ⟨(Nat.le_of_ble_eq_true rfl), (Nat.le_of_ble_eq_true rfl)⟩ nX_no (fun v9 μ10 hv11 => ?_)
    obtain ⟨r12, hw15, h13, hm14⟩ := hv11
    subst hw15
    rw [hm14]
    refine x_stk (stk' := [.int (zI r12), .ref m]) rfl ?_
    refine z_if_eq (tgt := 31) C dX9_hint_18 (by decide) (rg_of (by omega) (by omega)) (fun c_16 => ?_) (fun c_16 => ?_)
    · refine z_iconst C dX9_hint_31 ?_
      refine x_goto (tgt := 50) C dX9_hint_32 (by decide) ?_
      refine z_put (ci := 10) (Cn := RX9) (T := TX9) (N := 29) (ref := "CairnCipherModel") (fs' := [.ref (A 0), .ref (A 1), .ref (A 2), .ref (A 3), .ref (A 4), .ref (A 5), .ref (A 6), .int (zI (σ 7 0)), .ref (A 8), .ref (A 9), .ref (A 10), .ref (A 11), .int (zI (σ 12 0)), .ref (A 13), .ref (A 14), .ref (A 15), .ref (A 16), .ref (A 17), .int (zI (σ 18 0)), .ref (A 19), .ref (A 20), .ref (A 21), .ref (A 22), .int (zI (σ 23 0)), .int (zI 2), .int (zI fo), .ref (A 26), .int (zI cm), .ref (A 28)]) C dX9_hint_50 in_X9 rfl tyX9 tyX9_ok nmX9 hO 24 (by decide) (by decide +kernel) rfl rfl rfl rfl rfl (Nat.le_of_ble_eq_true rfl) rfl (fun μ17 hOw hF18 => ?_)
      have hMA : MA G μ17 A σ := hF18.ma hMA
      have hCi := hF18.ai hCi
      have hSu := hF18.ai hSu
      have hFr : Fr 3000 3999 μ μ17 := hFr.tr hF18
      have hO := hOw
      refine x_aload_n C dX9_hint_53 rfl 0 rfl ?_
      refine x_get (ci := 10) (Cn := RX9) (T := TX9) (N := 29) (ref := "CairnCipherModel") C dX9_hint_54 in_X9 rfl hO 24 (by decide) (by decide +kernel) rfl rfl ?_
      refine z_if_le (tgt := 62) C dX9_hint_57 (by decide) (rg_of (by omega) (by omega)) (fun c_19 => ?_) (fun c_19 => ?_)
      · exfalso; omega
      · refine z_iconst C dX9_hint_60 ?_
        exact x_iret C R dX9_hint_61 (Nat.le_of_ble_eq_true rfl) (Nat.le_of_ble_eq_true rfl) (⟨_, rfl, ⟨Or.inr ⟨by (rw [show t_hint σ k v mk = 2 from by (unfold t_hint; (repeat split) <;> omega)]; omega), by (rw [show t_hint σ k v mk = 2 from by (unfold t_hint; (repeat split) <;> omega)]; exact ⟨_, _, _, _, _, hO, hMA, hCi, hSu⟩)⟩, hFr⟩⟩)
    · refine x_iload_n C dX9_hint_21 rfl 2 rfl ?_
      refine z_iconst C dX9_hint_22 ?_
      refine z_bipush C dX9_hint_23 (by decide) ?_
      refine x_callS (n := 3) (cc9 := 0) (ss9 := 0) (rest := [.ref m]) C dX9_hint_25 (c_X9_in (kxL E) C.st G z μ v 0 14 (by omega) (by omega) (by omega)) gX9_hint_X9_in rfl (by decide +kernel) ⟨(Nat.le_of_ble_eq_true rfl), (Nat.le_of_ble_eq_true rfl)⟩ rfl rfl (Nat.le_of_ble_eq_true rfl) rfl rfl ⟨(Nat.le_of_ble_eq_true rfl), (Nat.le_of_ble_eq_true rfl)⟩ nX_no (fun v20 μ21 hv22 => ?_)
      obtain ⟨r23, hw26, h24, hm25⟩ := hv22
      subst hw26
      rw [hm25]
      refine x_stk (stk' := [.int (zI r23), .ref m]) rfl ?_
      refine z_if_ne (tgt := 35) C dX9_hint_28 (by decide) (rg_of (by omega) (by omega)) (fun c_27 => ?_) (fun c_27 => ?_)
      · refine x_aload_n C dX9_hint_35 rfl 0 rfl ?_
        refine x_get (ci := 10) (Cn := RX9) (T := TX9) (N := 29) (ref := "CairnCipherModel") C dX9_hint_36 in_X9 rfl hO 6 (by decide) (by decide +kernel) rfl rfl ?_
        refine z_iconst C dX9_hint_39 ?_
        refine z_iald (j := 0) C dX9_hint_40 (show AI G μ (A 6) 3007 7 (σ 6) from hMA.ai 6 rfl) (by omega) (by omega) (by decide) ?_
        have q_28 := hI.r6 0 (by omega)
        refine z_iconst C dX9_hint_41 ?_
        refine z_icmp_ne (tgt := 49) C dX9_hint_42 (by decide) (rg_of (by omega) (by omega)) (rg_of (by omega) (by omega)) (fun c_29 => ?_) (fun c_29 => ?_)
        · refine z_iconst C dX9_hint_49 ?_
          refine z_put (ci := 10) (Cn := RX9) (T := TX9) (N := 29) (ref := "CairnCipherModel") (fs' := [.ref (A 0), .ref (A 1), .ref (A 2), .ref (A 3), .ref (A 4), .ref (A 5), .ref (A 6), .int (zI (σ 7 0)), .ref (A 8), .ref (A 9), .ref (A 10), .ref (A 11), .int (zI (σ 12 0)), .ref (A 13), .ref (A 14), .ref (A 15), .ref (A 16), .ref (A 17), .int (zI (σ 18 0)), .ref (A 19), .ref (A 20), .ref (A 21), .ref (A 22), .int (zI (σ 23 0)), .int (zI 0), .int (zI fo), .ref (A 26), .int (zI cm), .ref (A 28)]) C dX9_hint_50 in_X9 rfl tyX9 tyX9_ok nmX9 hO 24 (by decide) (by decide +kernel) rfl rfl rfl rfl rfl (Nat.le_of_ble_eq_true rfl) rfl (fun μ30 hOw hF31 => ?_)
          have hMA : MA G μ30 A σ := hF31.ma hMA
          have hCi := hF31.ai hCi
          have hSu := hF31.ai hSu
          have hFr : Fr 3000 3999 μ μ30 := hFr.tr hF31
          have hO := hOw
          refine x_aload_n C dX9_hint_53 rfl 0 rfl ?_
          refine x_get (ci := 10) (Cn := RX9) (T := TX9) (N := 29) (ref := "CairnCipherModel") C dX9_hint_54 in_X9 rfl hO 24 (by decide) (by decide +kernel) rfl rfl ?_
          refine z_if_le (tgt := 62) C dX9_hint_57 (by decide) (rg_of (by omega) (by omega)) (fun c_32 => ?_) (fun c_32 => ?_)
          · refine x_aload_n C dX9_hint_62 rfl 0 rfl ?_
            refine x_get (ci := 10) (Cn := RX9) (T := TX9) (N := 29) (ref := "CairnCipherModel") C dX9_hint_63 in_X9 rfl hO 2 (by decide) (by decide +kernel) rfl rfl ?_
            refine x_aload_n C dX9_hint_66 rfl 0 rfl ?_
            refine x_get (ci := 10) (Cn := RX9) (T := TX9) (N := 29) (ref := "CairnCipherModel") C dX9_hint_67 in_X9 rfl hO 6 (by decide) (by decide +kernel) rfl rfl ?_
            refine z_iconst C dX9_hint_70 ?_
            refine z_iald (j := 0) C dX9_hint_71 (show AI G μ30 (A 6) 3007 7 (σ 6) from hMA.ai 6 rfl) (by omega) (by omega) (by decide) ?_
            have q_33 := hI.r6 0 (by omega)
            refine x_iload_n C dX9_hint_72 rfl 1 rfl ?_
            refine z_iast (j := ((σ 6) 0).toNat) C dX9_hint_73 (show AI G μ30 (A 2) 3003 35 (σ 2) from hMA.ai 2 rfl) (by omega) (by omega) (by decide) (fun μ34 hq36 hF35 => ?_)
            have hMAn : MA G μ34 A (su σ 2 (wr (σ 2) (((σ 6) 0).toNat) k)) := hMA.up (k := 2) rfl hq36 hF35
            have hO := hF35.ob hO
            have hCi := hF35.ai hCi
            have hSu := hF35.ai hSu
            have hFr : Fr 3000 3999 μ μ34 := hFr.tr hF35
            have hMA := hMAn
            refine x_aload_n C dX9_hint_74 rfl 0 rfl ?_
            refine x_get (ci := 10) (Cn := RX9) (T := TX9) (N := 29) (ref := "CairnCipherModel") C dX9_hint_75 in_X9 rfl hO 3 (by decide) (by decide +kernel) rfl rfl ?_
            refine x_aload_n C dX9_hint_78 rfl 0 rfl ?_
            refine x_get (ci := 10) (Cn := RX9) (T := TX9) (N := 29) (ref := "CairnCipherModel") C dX9_hint_79 in_X9 rfl hO 6 (by decide) (by decide +kernel) rfl rfl ?_
            refine z_iconst C dX9_hint_82 ?_
            refine z_iald (j := 0) C dX9_hint_83 (show AI G μ34 (A 6) 3007 7 (σ 6) from hMA.ai 6 rfl) (by omega) (by omega) (by decide) ?_
            have q_37 := hI.r6 0 (by omega)
            refine x_iload_n C dX9_hint_84 rfl 2 rfl ?_
            refine z_iast (j := ((σ 6) 0).toNat) C dX9_hint_85 (show AI G μ34 (A 3) 3004 35 (σ 3) from hMA.ai 3 rfl) (by omega) (by omega) (by decide) (fun μ38 hq40 hF39 => ?_)
            have hMAn : MA G μ38 A (su (su σ 2 (wr (σ 2) (((σ 6) 0).toNat) k)) 3 (wr (σ 3) (((σ 6) 0).toNat) v)) := hMA.up (k := 3) rfl hq40 hF39
            have hO := hF39.ob hO
            have hCi := hF39.ai hCi
            have hSu := hF39.ai hSu
            have hFr : Fr 3000 3999 μ μ38 := hFr.tr hF39
            have hMA := hMAn
            refine x_aload_n C dX9_hint_86 rfl 0 rfl ?_
            refine x_get (ci := 10) (Cn := RX9) (T := TX9) (N := 29) (ref := "CairnCipherModel") C dX9_hint_87 in_X9 rfl hO 4 (by decide) (by decide +kernel) rfl rfl ?_
            refine x_aload_n C dX9_hint_90 rfl 0 rfl ?_
            refine x_get (ci := 10) (Cn := RX9) (T := TX9) (N := 29) (ref := "CairnCipherModel") C dX9_hint_91 in_X9 rfl hO 6 (by decide) (by decide +kernel) rfl rfl ?_
            refine z_iconst C dX9_hint_94 ?_
            refine z_iald (j := 0) C dX9_hint_95 (show AI G μ38 (A 6) 3007 7 (σ 6) from hMA.ai 6 rfl) (by omega) (by omega) (by decide) ?_
            have q_41 := hI.r6 0 (by omega)
            refine x_iload_n C dX9_hint_96 rfl 3 rfl ?_
            refine z_iast (j := ((σ 6) 0).toNat) C dX9_hint_97 (show AI G μ38 (A 4) 3005 35 (σ 4) from hMA.ai 4 rfl) (by omega) (by omega) (by decide) (fun μ42 hq44 hF43 => ?_)
            have hMAn : MA G μ42 A (su (su (su σ 2 (wr (σ 2) (((σ 6) 0).toNat) k)) 3 (wr (σ 3) (((σ 6) 0).toNat) v)) 4 (wr (σ 4) (((σ 6) 0).toNat) mk)) := hMA.up (k := 4) rfl hq44 hF43
            have hO := hF43.ob hO
            have hCi := hF43.ai hCi
            have hSu := hF43.ai hSu
            have hFr : Fr 3000 3999 μ μ42 := hFr.tr hF43
            have hMA := hMAn
            refine x_aload_n C dX9_hint_98 rfl 0 rfl ?_
            refine x_get (ci := 10) (Cn := RX9) (T := TX9) (N := 29) (ref := "CairnCipherModel") C dX9_hint_99 in_X9 rfl hO 5 (by decide) (by decide +kernel) rfl rfl ?_
            refine x_aload_n C dX9_hint_102 rfl 0 rfl ?_
            refine x_get (ci := 10) (Cn := RX9) (T := TX9) (N := 29) (ref := "CairnCipherModel") C dX9_hint_103 in_X9 rfl hO 6 (by decide) (by decide +kernel) rfl rfl ?_
            refine z_iconst C dX9_hint_106 ?_
            refine z_iald (j := 0) C dX9_hint_107 (show AI G μ42 (A 6) 3007 7 (σ 6) from hMA.ai 6 rfl) (by omega) (by omega) (by decide) ?_
            have q_45 := hI.r6 0 (by omega)
            refine x_iload C dX9_hint_108 4 rfl ?_
            refine z_zast (j := ((σ 6) 0).toNat) C dX9_hint_110 (show AZ G μ42 (A 5) 3006 35 (σ 5) from hMA.az 5 rfl) (by omega) (by omega) (by decide) (by omega) (fun μ46 hq48 hF47 => ?_)
            have hMAn : MA G μ46 A (su (su (su (su σ 2 (wr (σ 2) (((σ 6) 0).toNat) k)) 3 (wr (σ 3) (((σ 6) 0).toNat) v)) 4 (wr (σ 4) (((σ 6) 0).toNat) mk)) 5 (wr (σ 5) (((σ 6) 0).toNat) d)) := hMA.upz (k := 5) rfl hq48 hF47
            have hO := hF47.ob hO
            have hCi := hF47.ai hCi
            have hSu := hF47.ai hSu
            have hFr : Fr 3000 3999 μ μ46 := hFr.tr hF47
            have hMA := hMAn
            refine x_aload_n C dX9_hint_111 rfl 0 rfl ?_
            refine x_get (ci := 10) (Cn := RX9) (T := TX9) (N := 29) (ref := "CairnCipherModel") C dX9_hint_112 in_X9 rfl hO 6 (by decide) (by decide +kernel) rfl rfl ?_
            refine z_iconst C dX9_hint_115 ?_
            refine x_dup2 C dX9_hint_116 rfl rfl ?_
            refine z_iald (j := 0) C dX9_hint_117 (show AI G μ46 (A 6) 3007 7 (σ 6) from hMA.ai 6 rfl) (by omega) (by omega) (by decide) ?_
            have q_49 := hI.r6 0 (by omega)
            refine z_iconst C dX9_hint_118 ?_
            refine z_iadd C dX9_hint_119 rfl ?_
            refine z_iast (j := 0) C dX9_hint_120 (show AI G μ46 (A 6) 3007 7 (σ 6) from hMA.ai 6 rfl) (by omega) (by omega) (by decide) (fun μ50 hq52 hF51 => ?_)
            have hMAn : MA G μ50 A (su (su (su (su (su σ 2 (wr (σ 2) (((σ 6) 0).toNat) k)) 3 (wr (σ 3) (((σ 6) 0).toNat) v)) 4 (wr (σ 4) (((σ 6) 0).toNat) mk)) 5 (wr (σ 5) (((σ 6) 0).toNat) d)) 6 (wr (σ 6) 0 (((σ 6) 0) + 1))) := hMA.up (k := 6) rfl hq52 hF51
            have hO := hF51.ob hO
            have hCi := hF51.ai hCi
            have hSu := hF51.ai hSu
            have hFr : Fr 3000 3999 μ μ50 := hFr.tr hF51
            have hMA := hMAn
            refine x_aload_n C dX9_hint_121 rfl 0 rfl ?_
            refine z_iconst C dX9_hint_122 ?_
            refine z_iconst C dX9_hint_123 ?_
            have hI9 := Iv_hint (d := d) hI (show 0 ≤ k ∧ k ≤ 4 by omega) (show 0 ≤ v ∧ v ≤ 14 by omega) (show 0 ≤ mk ∧ mk < 64 by omega) (by omega) (by omega)
            have hMA : MA G μ50 A (n_hint σ k v mk d) := hMA
            refine x_callV (n := 2) (ci := 10) (Cn := RX9) (T := TX9) (N := 29) (cc9 := 0) (ss9 := 0) (rest := []) C dX9_hint_124 (c_X9_fitting (kxL E) C.st G z μ50 _ (n_hint σ k v mk d) _ _ _ _ _ _ _ 0 (-1) ⟨hO, hMA, hCi, hSu⟩ hI9 (by omega) (by omega)) gX9_hint_X9_fitting rfl (by decide +kernel) ⟨(Nat.le_of_ble_eq_true rfl), (Nat.le_of_ble_eq_true rfl)⟩ rfl ⟨_, _, hO⟩ rfl rfl (Nat.le_of_ble_eq_true rfl) rfl rfl ⟨(Nat.le_of_ble_eq_true rfl), (Nat.le_of_ble_eq_true rfl)⟩ nX_no (fun v53 μ54 hv55 => ?_)
            obtain ⟨r56, hw59, h57⟩ := hv55
            subst hw59
            obtain ⟨⟨hr9, hO⟩, hF9⟩ := h57
            have hF60 := hF9
            have hMA : MA G μ54 A (n_hint σ k v mk d) := hF60.ma hMA
            have hCi := hF60.ai hCi
            have hSu := hF60.ai hSu
            have hFr : Fr 3000 3999 μ μ54 := hFr.tr hF60
            refine x_stk (stk' := [.int (zI r56)]) rfl ?_
            exact x_iret C R dX9_hint_127 (Nat.le_of_ble_eq_true rfl) (Nat.le_of_ble_eq_true rfl) (⟨_, rfl, ⟨Or.inl ⟨by (unfold t_hint; (repeat split) <;> omega), hr9, ⟨_, _, _, _, _, hO, hMA, hCi, hSu⟩⟩, hFr⟩⟩)
          · exfalso; omega
        · refine z_iconst C dX9_hint_45 ?_
          refine x_goto (tgt := 50) C dX9_hint_46 (by decide) ?_
          refine z_put (ci := 10) (Cn := RX9) (T := TX9) (N := 29) (ref := "CairnCipherModel") (fs' := [.ref (A 0), .ref (A 1), .ref (A 2), .ref (A 3), .ref (A 4), .ref (A 5), .ref (A 6), .int (zI (σ 7 0)), .ref (A 8), .ref (A 9), .ref (A 10), .ref (A 11), .int (zI (σ 12 0)), .ref (A 13), .ref (A 14), .ref (A 15), .ref (A 16), .ref (A 17), .int (zI (σ 18 0)), .ref (A 19), .ref (A 20), .ref (A 21), .ref (A 22), .int (zI (σ 23 0)), .int (zI 3), .int (zI fo), .ref (A 26), .int (zI cm), .ref (A 28)]) C dX9_hint_50 in_X9 rfl tyX9 tyX9_ok nmX9 hO 24 (by decide) (by decide +kernel) rfl rfl rfl rfl rfl (Nat.le_of_ble_eq_true rfl) rfl (fun μ61 hOw hF62 => ?_)
          have hMA : MA G μ61 A σ := hF62.ma hMA
          have hCi := hF62.ai hCi
          have hSu := hF62.ai hSu
          have hFr : Fr 3000 3999 μ μ61 := hFr.tr hF62
          have hO := hOw
          refine x_aload_n C dX9_hint_53 rfl 0 rfl ?_
          refine x_get (ci := 10) (Cn := RX9) (T := TX9) (N := 29) (ref := "CairnCipherModel") C dX9_hint_54 in_X9 rfl hO 24 (by decide) (by decide +kernel) rfl rfl ?_
          refine z_if_le (tgt := 62) C dX9_hint_57 (by decide) (rg_of (by omega) (by omega)) (fun c_63 => ?_) (fun c_63 => ?_)
          · exfalso; omega
          · refine z_iconst C dX9_hint_60 ?_
            exact x_iret C R dX9_hint_61 (Nat.le_of_ble_eq_true rfl) (Nat.le_of_ble_eq_true rfl) (⟨_, rfl, ⟨Or.inr ⟨by (rw [show t_hint σ k v mk = 3 from by (unfold t_hint; (repeat split) <;> omega)]; omega), by (rw [show t_hint σ k v mk = 3 from by (unfold t_hint; (repeat split) <;> omega)]; exact ⟨_, _, _, _, _, hO, hMA, hCi, hSu⟩)⟩, hFr⟩⟩)
      · refine z_iconst C dX9_hint_31 ?_
        refine x_goto (tgt := 50) C dX9_hint_32 (by decide) ?_
        refine z_put (ci := 10) (Cn := RX9) (T := TX9) (N := 29) (ref := "CairnCipherModel") (fs' := [.ref (A 0), .ref (A 1), .ref (A 2), .ref (A 3), .ref (A 4), .ref (A 5), .ref (A 6), .int (zI (σ 7 0)), .ref (A 8), .ref (A 9), .ref (A 10), .ref (A 11), .int (zI (σ 12 0)), .ref (A 13), .ref (A 14), .ref (A 15), .ref (A 16), .ref (A 17), .int (zI (σ 18 0)), .ref (A 19), .ref (A 20), .ref (A 21), .ref (A 22), .int (zI (σ 23 0)), .int (zI 2), .int (zI fo), .ref (A 26), .int (zI cm), .ref (A 28)]) C dX9_hint_50 in_X9 rfl tyX9 tyX9_ok nmX9 hO 24 (by decide) (by decide +kernel) rfl rfl rfl rfl rfl (Nat.le_of_ble_eq_true rfl) rfl (fun μ64 hOw hF65 => ?_)
        have hMA : MA G μ64 A σ := hF65.ma hMA
        have hCi := hF65.ai hCi
        have hSu := hF65.ai hSu
        have hFr : Fr 3000 3999 μ μ64 := hFr.tr hF65
        have hO := hOw
        refine x_aload_n C dX9_hint_53 rfl 0 rfl ?_
        refine x_get (ci := 10) (Cn := RX9) (T := TX9) (N := 29) (ref := "CairnCipherModel") C dX9_hint_54 in_X9 rfl hO 24 (by decide) (by decide +kernel) rfl rfl ?_
        refine z_if_le (tgt := 62) C dX9_hint_57 (by decide) (rg_of (by omega) (by omega)) (fun c_66 => ?_) (fun c_66 => ?_)
        · exfalso; omega
        · refine z_iconst C dX9_hint_60 ?_
          exact x_iret C R dX9_hint_61 (Nat.le_of_ble_eq_true rfl) (Nat.le_of_ble_eq_true rfl) (⟨_, rfl, ⟨Or.inr ⟨by (rw [show t_hint σ k v mk = 2 from by (unfold t_hint; (repeat split) <;> omega)]; omega), by (rw [show t_hint σ k v mk = 2 from by (unfold t_hint; (repeat split) <;> omega)]; exact ⟨_, _, _, _, _, hO, hMA, hCi, hSu⟩)⟩, hFr⟩⟩)
  · refine z_iconst C dX9_hint_8 ?_
    refine x_goto (tgt := 50) C dX9_hint_9 (by decide) ?_
    refine z_put (ci := 10) (Cn := RX9) (T := TX9) (N := 29) (ref := "CairnCipherModel") (fs' := [.ref (A 0), .ref (A 1), .ref (A 2), .ref (A 3), .ref (A 4), .ref (A 5), .ref (A 6), .int (zI (σ 7 0)), .ref (A 8), .ref (A 9), .ref (A 10), .ref (A 11), .int (zI (σ 12 0)), .ref (A 13), .ref (A 14), .ref (A 15), .ref (A 16), .ref (A 17), .int (zI (σ 18 0)), .ref (A 19), .ref (A 20), .ref (A 21), .ref (A 22), .int (zI (σ 23 0)), .int (zI 1), .int (zI fo), .ref (A 26), .int (zI cm), .ref (A 28)]) C dX9_hint_50 in_X9 rfl tyX9 tyX9_ok nmX9 hO 24 (by decide) (by decide +kernel) rfl rfl rfl rfl rfl (Nat.le_of_ble_eq_true rfl) rfl (fun μ67 hOw hF68 => ?_)
    have hMA : MA G μ67 A σ := hF68.ma hMA
    have hCi := hF68.ai hCi
    have hSu := hF68.ai hSu
    have hFr : Fr 3000 3999 μ μ67 := hFr.tr hF68
    have hO := hOw
    refine x_aload_n C dX9_hint_53 rfl 0 rfl ?_
    refine x_get (ci := 10) (Cn := RX9) (T := TX9) (N := 29) (ref := "CairnCipherModel") C dX9_hint_54 in_X9 rfl hO 24 (by decide) (by decide +kernel) rfl rfl ?_
    refine z_if_le (tgt := 62) C dX9_hint_57 (by decide) (rg_of (by omega) (by omega)) (fun c_69 => ?_) (fun c_69 => ?_)
    · exfalso; omega
    · refine z_iconst C dX9_hint_60 ?_
      exact x_iret C R dX9_hint_61 (Nat.le_of_ble_eq_true rfl) (Nat.le_of_ble_eq_true rfl) (⟨_, rfl, ⟨Or.inr ⟨by (rw [show t_hint σ k v mk = 1 from by (unfold t_hint; (repeat split) <;> omega)]; omega), by (rw [show t_hint σ k v mk = 1 from by (unfold t_hint; (repeat split) <;> omega)]; exact ⟨_, _, _, _, _, hO, hMA, hCi, hSu⟩)⟩, hFr⟩⟩)
abbrev rm_X9_spell : Room := { frames := 1, cells := 0, slots := 0, locals := 22 }
set_option maxHeartbeats 4000000 in
set_option maxRecDepth 100000 in
theorem c_X9_spell (l : Launch) (hst : l.stackTraces = false) (G : GG) (z : Nat) (μ : Mm) (m : Nat) (σ : SS) (n : Nat) (th fo cm : Int) (Ci Su : Nat → Int) (A : Nat → Nat) (c : Int) (hM9 : RepY G μ m σ th fo cm Ci Su A) (hI : Iv σ n) (hc : -2147483648 ≤ c ∧ c < 2147483648) : Ct l yX9_spell wsX9_spell rm_X9_spell G z [.ref m, .int (zI c)] μ (rS (fun r9 μ' => MR G μ' m (t_spell σ c) (b_spell σ c) σ (n_spell σ c) r9 ∧ Fr 3000 3999 μ μ')) (nX) := by
  refine ct_of (cc := cX9_spell) (maxL := 4) (ret := (some .int)) (own := RX9) (by decide) rfl rfl hst (Nat.le_of_ble_eq_true rfl) ?_
  intro E hLl hnm C R hT
  have in_X9 : ∀ w ∈ u_ws RX9 TX9 29, w ∈ wsX9_spell := by decide +kernel
  have hM8 := hM9
  obtain ⟨hO, hMA, hCi, hSu⟩ := hM9
  have hn7 := hI.n7
  have hn12 := hI.n12
  have hn18 := hI.n18
  have hn23 := hI.n23
  have hn0 := hI.r11 0 (by decide)
  have hFr : Fr 3000 3999 μ μ := Fr.rf
  refine x_eq (lv' := [(0, .ref m), (1, .int (zI c))]) rfl rfl ?_
  refine x_aload_n C dX9_spell_0 rfl 0 rfl ?_
  refine x_iload_n C dX9_spell_1 rfl 1 rfl ?_
  refine z_iconst C dX9_spell_2 ?_
  refine z_bipush C dX9_spell_3 (by decide) ?_
  refine x_callS (n := 3) (cc9 := 0) (ss9 := 0) (rest := [.ref m]) C dX9_spell_5 (c_X9_in (kxL E) C.st G z μ c 0 26 (by omega) (by omega) (by omega)) gX9_spell_X9_in rfl (by decide +kernel) ⟨(Nat.le_of_ble_eq_true rfl), (Nat.le_of_ble_eq_true rfl)⟩ rfl rfl (Nat.le_of_ble_eq_true rfl) rfl rfl ⟨(Nat.le_of_ble_eq_true rfl), (Nat.le_of_ble_eq_true rfl)⟩ nX_no (fun v1 μ2 hv3 => ?_)
  obtain ⟨r4, hw7, h5, hm6⟩ := hv3
  subst hw7
  rw [hm6]
  refine x_stk (stk' := [.int (zI r4), .ref m]) rfl ?_
  refine z_if_ne (tgt := 15) C dX9_spell_8 (by decide) (rg_of (by omega) (by omega)) (fun c_8 => ?_) (fun c_8 => ?_)
  · refine x_aload_n C dX9_spell_15 rfl 0 rfl ?_
    refine x_get (ci := 10) (Cn := RX9) (T := TX9) (N := 29) (ref := "CairnCipherModel") C dX9_spell_16 in_X9 rfl hO 11 (by decide) (by decide +kernel) rfl rfl ?_
    refine z_iconst C dX9_spell_19 ?_
    refine z_iald (j := 0) C dX9_spell_20 (show AI G μ (A 11) 3012 7 (σ 11) from hMA.ai 11 rfl) (by omega) (by omega) (by decide) ?_
    have q_9 := hI.r11 0 (by omega)
    refine z_iconst C dX9_spell_21 ?_
    refine z_icmp_ne (tgt := 29) C dX9_spell_22 (by decide) (rg_of (by omega) (by omega)) (rg_of (by omega) (by omega)) (fun c_10 => ?_) (fun c_10 => ?_)
    · refine z_iconst C dX9_spell_29 ?_
      refine z_put (ci := 10) (Cn := RX9) (T := TX9) (N := 29) (ref := "CairnCipherModel") (fs' := [.ref (A 0), .ref (A 1), .ref (A 2), .ref (A 3), .ref (A 4), .ref (A 5), .ref (A 6), .int (zI (σ 7 0)), .ref (A 8), .ref (A 9), .ref (A 10), .ref (A 11), .int (zI (σ 12 0)), .ref (A 13), .ref (A 14), .ref (A 15), .ref (A 16), .ref (A 17), .int (zI (σ 18 0)), .ref (A 19), .ref (A 20), .ref (A 21), .ref (A 22), .int (zI (σ 23 0)), .int (zI 0), .int (zI fo), .ref (A 26), .int (zI cm), .ref (A 28)]) C dX9_spell_30 in_X9 rfl tyX9 tyX9_ok nmX9 hO 24 (by decide) (by decide +kernel) rfl rfl rfl rfl rfl (Nat.le_of_ble_eq_true rfl) rfl (fun μ11 hOw hF12 => ?_)
      have hMA : MA G μ11 A σ := hF12.ma hMA
      have hCi := hF12.ai hCi
      have hSu := hF12.ai hSu
      have hFr : Fr 3000 3999 μ μ11 := hFr.tr hF12
      have hO := hOw
      refine x_aload_n C dX9_spell_33 rfl 0 rfl ?_
      refine x_get (ci := 10) (Cn := RX9) (T := TX9) (N := 29) (ref := "CairnCipherModel") C dX9_spell_34 in_X9 rfl hO 24 (by decide) (by decide +kernel) rfl rfl ?_
      refine z_if_le (tgt := 42) C dX9_spell_37 (by decide) (rg_of (by omega) (by omega)) (fun c_13 => ?_) (fun c_13 => ?_)
      · refine x_aload_n C dX9_spell_42 rfl 0 rfl ?_
        refine x_get (ci := 10) (Cn := RX9) (T := TX9) (N := 29) (ref := "CairnCipherModel") C dX9_spell_43 in_X9 rfl hO 10 (by decide) (by decide +kernel) rfl rfl ?_
        refine x_aload_n C dX9_spell_46 rfl 0 rfl ?_
        refine x_get (ci := 10) (Cn := RX9) (T := TX9) (N := 29) (ref := "CairnCipherModel") C dX9_spell_47 in_X9 rfl hO 11 (by decide) (by decide +kernel) rfl rfl ?_
        refine z_iconst C dX9_spell_50 ?_
        refine z_iald (j := 0) C dX9_spell_51 (show AI G μ11 (A 11) 3012 7 (σ 11) from hMA.ai 11 rfl) (by omega) (by omega) (by decide) ?_
        have q_14 := hI.r11 0 (by omega)
        refine x_iload_n C dX9_spell_52 rfl 1 rfl ?_
        refine z_iast (j := ((σ 11) 0).toNat) C dX9_spell_53 (show AI G μ11 (A 10) 3011 35 (σ 10) from hMA.ai 10 rfl) (by omega) (by omega) (by decide) (fun μ15 hq17 hF16 => ?_)
        have hMAn : MA G μ15 A (su σ 10 (wr (σ 10) (((σ 11) 0).toNat) c)) := hMA.up (k := 10) rfl hq17 hF16
        have hO := hF16.ob hO
        have hCi := hF16.ai hCi
        have hSu := hF16.ai hSu
        have hFr : Fr 3000 3999 μ μ15 := hFr.tr hF16
        have hMA := hMAn
        refine x_aload_n C dX9_spell_54 rfl 0 rfl ?_
        refine x_get (ci := 10) (Cn := RX9) (T := TX9) (N := 29) (ref := "CairnCipherModel") C dX9_spell_55 in_X9 rfl hO 11 (by decide) (by decide +kernel) rfl rfl ?_
        refine z_iconst C dX9_spell_58 ?_
        refine x_dup2 C dX9_spell_59 rfl rfl ?_
        refine z_iald (j := 0) C dX9_spell_60 (show AI G μ15 (A 11) 3012 7 (σ 11) from hMA.ai 11 rfl) (by omega) (by omega) (by decide) ?_
        have q_18 := hI.r11 0 (by omega)
        refine z_iconst C dX9_spell_61 ?_
        refine z_iadd C dX9_spell_62 rfl ?_
        refine z_iast (j := 0) C dX9_spell_63 (show AI G μ15 (A 11) 3012 7 (σ 11) from hMA.ai 11 rfl) (by omega) (by omega) (by decide) (fun μ19 hq21 hF20 => ?_)
        have hMAn : MA G μ19 A (su (su σ 10 (wr (σ 10) (((σ 11) 0).toNat) c)) 11 (wr (σ 11) 0 (((σ 11) 0) + 1))) := hMA.up (k := 11) rfl hq21 hF20
        have hO := hF20.ob hO
        have hCi := hF20.ai hCi
        have hSu := hF20.ai hSu
        have hFr : Fr 3000 3999 μ μ19 := hFr.tr hF20
        have hMA := hMAn
        have hwr9 : ∀ j, j < 35 → 0 ≤ (wr (σ 10) (((σ 11) 0).toNat) c) j ∧ (wr (σ 10) (((σ 11) 0).toNat) c) j ≤ 26 := fun j hj => by (have := hI.r10 j hj; unfold wr; split <;> omega)
        have hlm9 : ∀ j, j < 1 → (wr (σ 11) 0 (((σ 11) 0) + 1)) j = σ 11 0 + 1 := fun j hj => by (obtain rfl : j = 0 := (by omega); exact wr_at)
        refine z_iconst C dX9_spell_64 ?_
        refine x_istore_n (lv' := [(2, .int (zI 0)), (0, .ref m), (1, .int (zI c))]) C dX9_spell_65 rfl (by decide) rfl ?_
        refine z_iconst C dX9_spell_66 ?_
        refine x_istore_n (lv' := [(3, .int (zI 0)), (2, .int (zI 0)), (0, .ref m), (1, .int (zI c))]) C dX9_spell_67 rfl (by decide) rfl ?_
        have L68 : ∀ (M9 : Nat) (k : Nat) (kz : Int) (hkz : kz = (k : Int)) (s : Int) (hk : k ≤ (σ 11 0).toNat + 1) (hs : s = chs (wr (σ 10) (σ 11 0).toNat c) k) (hM9 : (σ 11 0).toNat + 1 - k = M9), Wx E G 0 0 68 [(3, .int (zI kz)), (2, .int (zI s)), (0, .ref m), (1, .int (zI c))] [] μ19 := by
          intro M9
          induction M9 using Nat.strongRecOn with
          | ind M9 ih68 =>
            intro k kz hkz s hk hs hM9
            subst hkz
            have hsr := chs_rg (wr (σ 10) (σ 11 0).toNat c) k
            refine x_iload_n C dX9_spell_68 rfl 0 rfl ?_
            refine x_aload_n C dX9_spell_69 rfl 2 rfl ?_
            refine x_get (ci := 10) (Cn := RX9) (T := TX9) (N := 29) (ref := "CairnCipherModel") C dX9_spell_70 in_X9 rfl hO 11 (by decide) (by decide +kernel) rfl rfl ?_
            refine z_iconst C dX9_spell_73 ?_
            refine z_iald (j := 0) C dX9_spell_74 (show AI G μ19 (A 11) 3012 7 (wr (σ 11) 0 (((σ 11) 0) + 1)) from hMA.ai 11 rfl) (by omega) (by omega) (by decide) ?_
            have q_22 := hlm9 0 (by omega)
            refine z_icmp_ge (tgt := 103) C dX9_spell_75 (by decide) (rg_of (by omega) (by omega)) (rg_of (by omega) (by omega)) (fun c_23 => ?_) (fun c_23 => ?_)
            · refine x_iload_n C dX9_spell_103 rfl 1 rfl ?_
              exact x_iret C R dX9_spell_104 (Nat.le_of_ble_eq_true rfl) (Nat.le_of_ble_eq_true rfl) (⟨_, rfl, ⟨Or.inl ⟨by (unfold t_spell; (repeat split) <;> omega), by (rw [hs]; unfold b_spell; rw [show k = (σ 11 0).toNat + 1 by omega]), ⟨_, _, _, _, _, hO, hMA, hCi, hSu⟩⟩, hFr⟩⟩)
            · refine x_iload_n C dX9_spell_78 rfl 1 rfl ?_
              refine x_aload_n C dX9_spell_79 rfl 2 rfl ?_
              refine x_get (ci := 10) (Cn := RX9) (T := TX9) (N := 29) (ref := "CairnCipherModel") C dX9_spell_80 in_X9 rfl hO 10 (by decide) (by decide +kernel) rfl rfl ?_
              refine x_iload_n C dX9_spell_83 rfl 0 rfl ?_
              refine z_iald (j := k) C dX9_spell_84 (show AI G μ19 (A 10) 3011 35 (wr (σ 10) (((σ 11) 0).toNat) c) from hMA.ai 10 rfl) (by omega) (by omega) (by decide) ?_
              have q_24 := hwr9 k (by omega)
              refine z_bipush C dX9_spell_85 (by decide) ?_
              refine z_icmp_ne (tgt := 94) C dX9_spell_87 (by decide) (rg_of (by omega) (by omega)) (rg_of (by omega) (by omega)) (fun c_25 => ?_) (fun c_25 => ?_)
              · refine z_iconst C dX9_spell_94 ?_
                refine z_iadd C dX9_spell_95 rfl ?_
                refine x_istore_n (lv' := [(2, .int (zI (s + 1))), (3, .int (zI (k : Int))), (0, .ref m), (1, .int (zI c))]) C dX9_spell_96 rfl (by decide) rfl ?_
                refine z_iinc (lv' := [(3, .int (zI ((k : Int) + 1))), (2, .int (zI (s + 1))), (0, .ref m), (1, .int (zI c))]) C dX9_spell_97 1 rfl rfl (by decide) rfl ?_
                refine x_goto (tgt := 68) C dX9_spell_100 (by decide) ?_
                exact ih68 _ (by omega) (k + 1) _ (by omega) _ (by omega) (by rw [show chs (wr (σ 10) (σ 11 0).toNat c) (k + 1) = chs (wr (σ 10) (σ 11 0).toNat c) k + (if wr (σ 10) (σ 11 0).toNat c k = 26 then 2 else 1) from rfl]; split <;> omega) rfl
              · refine z_iconst C dX9_spell_90 ?_
                refine x_goto (tgt := 95) C dX9_spell_91 (by decide) ?_
                refine z_iadd C dX9_spell_95 rfl ?_
                refine x_istore_n (lv' := [(2, .int (zI (s + 2))), (3, .int (zI (k : Int))), (0, .ref m), (1, .int (zI c))]) C dX9_spell_96 rfl (by decide) rfl ?_
                refine z_iinc (lv' := [(3, .int (zI ((k : Int) + 1))), (2, .int (zI (s + 2))), (0, .ref m), (1, .int (zI c))]) C dX9_spell_97 1 rfl rfl (by decide) rfl ?_
                refine x_goto (tgt := 68) C dX9_spell_100 (by decide) ?_
                exact ih68 _ (by omega) (k + 1) _ (by omega) _ (by omega) (by rw [show chs (wr (σ 10) (σ 11 0).toNat c) (k + 1) = chs (wr (σ 10) (σ 11 0).toNat c) k + (if wr (σ 10) (σ 11 0).toNat c k = 26 then 2 else 1) from rfl]; split <;> omega) rfl
        exact L68 _ (0) _ (by omega) _ (by omega) rfl rfl
      · exfalso; omega
    · refine z_iconst C dX9_spell_25 ?_
      refine x_goto (tgt := 30) C dX9_spell_26 (by decide) ?_
      refine z_put (ci := 10) (Cn := RX9) (T := TX9) (N := 29) (ref := "CairnCipherModel") (fs' := [.ref (A 0), .ref (A 1), .ref (A 2), .ref (A 3), .ref (A 4), .ref (A 5), .ref (A 6), .int (zI (σ 7 0)), .ref (A 8), .ref (A 9), .ref (A 10), .ref (A 11), .int (zI (σ 12 0)), .ref (A 13), .ref (A 14), .ref (A 15), .ref (A 16), .ref (A 17), .int (zI (σ 18 0)), .ref (A 19), .ref (A 20), .ref (A 21), .ref (A 22), .int (zI (σ 23 0)), .int (zI 2), .int (zI fo), .ref (A 26), .int (zI cm), .ref (A 28)]) C dX9_spell_30 in_X9 rfl tyX9 tyX9_ok nmX9 hO 24 (by decide) (by decide +kernel) rfl rfl rfl rfl rfl (Nat.le_of_ble_eq_true rfl) rfl (fun μ26 hOw hF27 => ?_)
      have hMA : MA G μ26 A σ := hF27.ma hMA
      have hCi := hF27.ai hCi
      have hSu := hF27.ai hSu
      have hFr : Fr 3000 3999 μ μ26 := hFr.tr hF27
      have hO := hOw
      refine x_aload_n C dX9_spell_33 rfl 0 rfl ?_
      refine x_get (ci := 10) (Cn := RX9) (T := TX9) (N := 29) (ref := "CairnCipherModel") C dX9_spell_34 in_X9 rfl hO 24 (by decide) (by decide +kernel) rfl rfl ?_
      refine z_if_le (tgt := 42) C dX9_spell_37 (by decide) (rg_of (by omega) (by omega)) (fun c_28 => ?_) (fun c_28 => ?_)
      · exfalso; omega
      · refine z_iconst C dX9_spell_40 ?_
        exact x_iret C R dX9_spell_41 (Nat.le_of_ble_eq_true rfl) (Nat.le_of_ble_eq_true rfl) (⟨_, rfl, ⟨Or.inr ⟨by (rw [show t_spell σ c = 2 from by (unfold t_spell; (repeat split) <;> omega)]; omega), by (rw [show t_spell σ c = 2 from by (unfold t_spell; (repeat split) <;> omega)]; exact ⟨_, _, _, _, _, hO, hMA, hCi, hSu⟩)⟩, hFr⟩⟩)
  · refine z_iconst C dX9_spell_11 ?_
    refine x_goto (tgt := 30) C dX9_spell_12 (by decide) ?_
    refine z_put (ci := 10) (Cn := RX9) (T := TX9) (N := 29) (ref := "CairnCipherModel") (fs' := [.ref (A 0), .ref (A 1), .ref (A 2), .ref (A 3), .ref (A 4), .ref (A 5), .ref (A 6), .int (zI (σ 7 0)), .ref (A 8), .ref (A 9), .ref (A 10), .ref (A 11), .int (zI (σ 12 0)), .ref (A 13), .ref (A 14), .ref (A 15), .ref (A 16), .ref (A 17), .int (zI (σ 18 0)), .ref (A 19), .ref (A 20), .ref (A 21), .ref (A 22), .int (zI (σ 23 0)), .int (zI 1), .int (zI fo), .ref (A 26), .int (zI cm), .ref (A 28)]) C dX9_spell_30 in_X9 rfl tyX9 tyX9_ok nmX9 hO 24 (by decide) (by decide +kernel) rfl rfl rfl rfl rfl (Nat.le_of_ble_eq_true rfl) rfl (fun μ29 hOw hF30 => ?_)
    have hMA : MA G μ29 A σ := hF30.ma hMA
    have hCi := hF30.ai hCi
    have hSu := hF30.ai hSu
    have hFr : Fr 3000 3999 μ μ29 := hFr.tr hF30
    have hO := hOw
    refine x_aload_n C dX9_spell_33 rfl 0 rfl ?_
    refine x_get (ci := 10) (Cn := RX9) (T := TX9) (N := 29) (ref := "CairnCipherModel") C dX9_spell_34 in_X9 rfl hO 24 (by decide) (by decide +kernel) rfl rfl ?_
    refine z_if_le (tgt := 42) C dX9_spell_37 (by decide) (rg_of (by omega) (by omega)) (fun c_31 => ?_) (fun c_31 => ?_)
    · exfalso; omega
    · refine z_iconst C dX9_spell_40 ?_
      exact x_iret C R dX9_spell_41 (Nat.le_of_ble_eq_true rfl) (Nat.le_of_ble_eq_true rfl) (⟨_, rfl, ⟨Or.inr ⟨by (rw [show t_spell σ c = 1 from by (unfold t_spell; (repeat split) <;> omega)]; omega), by (rw [show t_spell σ c = 1 from by (unfold t_spell; (repeat split) <;> omega)]; exact ⟨_, _, _, _, _, hO, hMA, hCi, hSu⟩)⟩, hFr⟩⟩)
abbrev rm_X9_setHeight : Room := { frames := 5, cells := 0, slots := 0, locals := 114 }
set_option maxHeartbeats 4000000 in
set_option maxRecDepth 100000 in
theorem c_X9_setHeight (l : Launch) (hst : l.stackTraces = false) (G : GG) (z : Nat) (μ : Mm) (m : Nat) (σ : SS) (n : Nat) (th fo cm : Int) (Ci Su : Nat → Int) (A : Nat → Nat) (p h : Int) (hM9 : RepY G μ m σ th fo cm Ci Su A) (hI : Iv σ n) (hp : -2147483648 ≤ p ∧ p < 2147483648) (hh : -2147483648 ≤ h ∧ h < 2147483648) (hn5 : n ≤ 600) : Ct l yX9_setHeight wsX9_setHeight rm_X9_setHeight G z [.ref m, .int (zI p), .int (zI h)] μ (rS (fun r9 μ' => MR G μ' m (t_setHeight p h) (b_setHeight σ p.toNat h (σ 7 0).toNat) σ (n_setHeight σ p.toNat h) r9 ∧ Fr 3000 3999 μ μ')) (nX) := by
  refine ct_of (cc := cX9_setHeight) (maxL := 6) (ret := (some .int)) (own := RX9) (by decide) rfl rfl hst (Nat.le_of_ble_eq_true rfl) ?_
  intro E hLl hnm C R hT
  have in_X9 : ∀ w ∈ u_ws RX9 TX9 29, w ∈ wsX9_setHeight := by decide +kernel
  have hM8 := hM9
  obtain ⟨hO, hMA, hCi, hSu⟩ := hM9
  have hn7 := hI.n7
  have hn12 := hI.n12
  have hn18 := hI.n18
  have hn23 := hI.n23
  have hFr : Fr 3000 3999 μ μ := Fr.rf
  refine x_eq (lv' := [(0, .ref m), (1, .int (zI p)), (2, .int (zI h))]) rfl rfl ?_
  refine x_aload_n C dX9_setHeight_0 rfl 0 rfl ?_
  refine x_iload_n C dX9_setHeight_1 rfl 1 rfl ?_
  refine x_callS (n := 1) (cc9 := 0) (ss9 := 0) (rest := [.ref m]) C dX9_setHeight_2 (c_X9_isPlace (kxL E) C.st G z μ p (by omega)) gX9_setHeight_X9_isPlace rfl (by decide +kernel) ⟨(Nat.le_of_ble_eq_true rfl), (Nat.le_of_ble_eq_true rfl)⟩ rfl rfl (Nat.le_of_ble_eq_true rfl) rfl rfl ⟨(Nat.le_of_ble_eq_true rfl), (Nat.le_of_ble_eq_true rfl)⟩ nX_no (fun v1 μ2 hv3 => ?_)
  obtain ⟨r4, hw7, h5, hm6⟩ := hv3
  subst hw7
  rw [hm6]
  refine x_stk (stk' := [.int (zI r4), .ref m]) rfl ?_
  refine z_if_ne (tgt := 12) C dX9_setHeight_5 (by decide) (rg_of (by omega) (by omega)) (fun c_8 => ?_) (fun c_8 => ?_)
  · refine x_iload_n C dX9_setHeight_12 rfl 2 rfl ?_
    refine z_iconst C dX9_setHeight_13 ?_
    refine z_bipush C dX9_setHeight_14 (by decide) ?_
    refine x_callS (n := 3) (cc9 := 0) (ss9 := 0) (rest := [.ref m]) C dX9_setHeight_16 (c_X9_in (kxL E) C.st G z μ h 0 9 (by omega) (by omega) (by omega)) gX9_setHeight_X9_in rfl (by decide +kernel) ⟨(Nat.le_of_ble_eq_true rfl), (Nat.le_of_ble_eq_true rfl)⟩ rfl rfl (Nat.le_of_ble_eq_true rfl) rfl rfl ⟨(Nat.le_of_ble_eq_true rfl), (Nat.le_of_ble_eq_true rfl)⟩ nX_no (fun v9 μ10 hv11 => ?_)
    obtain ⟨r12, hw15, h13, hm14⟩ := hv11
    subst hw15
    rw [hm14]
    refine x_stk (stk' := [.int (zI r12), .ref m]) rfl ?_
    refine z_if_ne (tgt := 26) C dX9_setHeight_19 (by decide) (rg_of (by omega) (by omega)) (fun c_16 => ?_) (fun c_16 => ?_)
    · refine z_iconst C dX9_setHeight_26 ?_
      refine z_put (ci := 10) (Cn := RX9) (T := TX9) (N := 29) (ref := "CairnCipherModel") (fs' := [.ref (A 0), .ref (A 1), .ref (A 2), .ref (A 3), .ref (A 4), .ref (A 5), .ref (A 6), .int (zI (σ 7 0)), .ref (A 8), .ref (A 9), .ref (A 10), .ref (A 11), .int (zI (σ 12 0)), .ref (A 13), .ref (A 14), .ref (A 15), .ref (A 16), .ref (A 17), .int (zI (σ 18 0)), .ref (A 19), .ref (A 20), .ref (A 21), .ref (A 22), .int (zI (σ 23 0)), .int (zI 0), .int (zI fo), .ref (A 26), .int (zI cm), .ref (A 28)]) C dX9_setHeight_27 in_X9 rfl tyX9 tyX9_ok nmX9 hO 24 (by decide) (by decide +kernel) rfl rfl rfl rfl rfl (Nat.le_of_ble_eq_true rfl) rfl (fun μ17 hOw hF18 => ?_)
      have hMA : MA G μ17 A σ := hF18.ma hMA
      have hCi := hF18.ai hCi
      have hSu := hF18.ai hSu
      have hFr : Fr 3000 3999 μ μ17 := hFr.tr hF18
      have hO := hOw
      refine x_aload_n C dX9_setHeight_30 rfl 0 rfl ?_
      refine x_get (ci := 10) (Cn := RX9) (T := TX9) (N := 29) (ref := "CairnCipherModel") C dX9_setHeight_31 in_X9 rfl hO 24 (by decide) (by decide +kernel) rfl rfl ?_
      refine z_if_le (tgt := 39) C dX9_setHeight_34 (by decide) (rg_of (by omega) (by omega)) (fun c_19 => ?_) (fun c_19 => ?_)
      · refine x_aload_n C dX9_setHeight_39 rfl 0 rfl ?_
        refine x_get (ci := 10) (Cn := RX9) (T := TX9) (N := 29) (ref := "CairnCipherModel") C dX9_setHeight_40 in_X9 rfl hO 0 (by decide) (by decide +kernel) rfl rfl ?_
        refine x_iload_n C dX9_setHeight_43 rfl 1 rfl ?_
        refine x_iload_n C dX9_setHeight_44 rfl 2 rfl ?_
        refine z_iast (j := p.toNat) C dX9_setHeight_45 (show AI G μ17 (A 0) 3001 64 (σ 0) from hMA.ai 0 rfl) (by omega) (by omega) (by decide) (fun μ20 hq22 hF21 => ?_)
        have hMAn : MA G μ20 A (su σ 0 (wr (σ 0) p.toNat h)) := hMA.up (k := 0) rfl hq22 hF21
        have hO := hF21.ob hO
        have hCi := hF21.ai hCi
        have hSu := hF21.ai hSu
        have hFr : Fr 3000 3999 μ μ20 := hFr.tr hF21
        have hMA := hMAn
        have hMA : MA G μ20 A (shS σ p.toNat h 0) := by (rw [shS_0]; exact hMA)
        have hh9 : 0 ≤ h ∧ h ≤ 9 := by omega
        refine z_iconst C dX9_setHeight_46 ?_
        refine x_istore_n (lv' := [(3, .int (zI 0)), (0, .ref m), (1, .int (zI p)), (2, .int (zI h))]) C dX9_setHeight_47 rfl (by decide) rfl ?_
        refine z_iconst C dX9_setHeight_48 ?_
        refine x_istore (lv' := [(4, .int (zI 0)), (3, .int (zI 0)), (0, .ref m), (1, .int (zI p)), (2, .int (zI h))]) C dX9_setHeight_49 (by decide) rfl ?_
        have L51 : ∀ (M9 : Nat) (μk : Mm) (k : Nat) (kz : Int) (hkz : kz = (k : Int)) (c : Int) (fok : Int) (hO : OB μk m 3000 10 [.ref (A 0), .ref (A 1), .ref (A 2), .ref (A 3), .ref (A 4), .ref (A 5), .ref (A 6), .int (zI (σ 7 0)), .ref (A 8), .ref (A 9), .ref (A 10), .ref (A 11), .int (zI (σ 12 0)), .ref (A 13), .ref (A 14), .ref (A 15), .ref (A 16), .ref (A 17), .int (zI (σ 18 0)), .ref (A 19), .ref (A 20), .ref (A 21), .ref (A 22), .int (zI (σ 23 0)), .int (zI 0), .int (zI fok), .ref (A 26), .int (zI cm), .ref (A 28)]) (hMA : MA G μk A (shS σ p.toNat h k)) (hCi : AI G μk (A 26) 3027 12 Ci) (hSu : AI G μk (A 28) 3029 64 Su) (hFr : Fr 3000 3999 μ μk) (hk : k ≤ (σ 7 0).toNat) (hc : c = b_setHeight σ p.toNat h k) (hM9 : (σ 7 0).toNat - k = M9), Wx E G 0 0 51 [(4, .int (zI kz)), (3, .int (zI c)), (0, .ref m), (1, .int (zI p)), (2, .int (zI h))] [] μk := by
          intro M9
          induction M9 using Nat.strongRecOn with
          | ind M9 ih51 =>
            intro μk k kz hkz c fok hO hMA hCi hSu hFr hk hc hM9
            subst hkz
            have hpl8 : ∀ j, j < 6 → -1 ≤ pl9 σ p.toNat h k j ∧ pl9 σ p.toNat h k j ≤ 63 := (Iv_sh hI hh9 k).r8
            have hmv8 : ∀ j, j < 6 → 0 ≤ mv9 σ p.toNat h k j ∧ mv9 σ p.toNat h k j ≤ ((n + 1 : Nat) : Int) := (Iv_sh hI hh9 k).r9
            have hcr := b_setHeight_rg σ p.toNat h k
            refine x_iload C dX9_setHeight_51 0 rfl ?_
            refine x_aload_n C dX9_setHeight_53 rfl 2 rfl ?_
            refine x_get (ci := 10) (Cn := RX9) (T := TX9) (N := 29) (ref := "CairnCipherModel") C dX9_setHeight_54 in_X9 rfl hO 7 (by decide) (by decide +kernel) rfl rfl ?_
            refine z_icmp_ge (tgt := 111) C dX9_setHeight_57 (by decide) (rg_of (by omega) (by omega)) (rg_of (by omega) (by omega)) (fun c_23 => ?_) (fun c_23 => ?_)
            · refine x_iload_n C dX9_setHeight_111 rfl 1 rfl ?_
              exact x_iret C R dX9_setHeight_112 (Nat.le_of_ble_eq_true rfl) (Nat.le_of_ble_eq_true rfl) (⟨_, rfl, ⟨Or.inl ⟨by (unfold t_setHeight; (repeat split) <;> omega), by (rw [hc, show k = (σ 7 0).toNat by omega]), (by (obtain rfl : k = (σ 7 0).toNat := (by omega); exact ⟨_, _, _, _, _, hO, hMA, hCi, hSu⟩))⟩, hFr⟩⟩)
            · refine x_aload_n C dX9_setHeight_60 rfl 2 rfl ?_
              refine x_iload C dX9_setHeight_61 0 rfl ?_
              refine z_iconst C dX9_setHeight_63 ?_
              refine z_iadd C dX9_setHeight_64 rfl ?_
              refine x_callV (n := 1) (ci := 10) (Cn := RX9) (T := TX9) (N := 29) (cc9 := 0) (ss9 := 0) (rest := []) C dX9_setHeight_65 (c_X9_fixed (kxL E) C.st G z μk _ (shS σ p.toNat h k) _ _ _ _ _ _ _ ((k : Int) + 1) ⟨hO, hMA, hCi, hSu⟩ (Iv_sh hI hh9 k) (by omega)) gX9_setHeight_X9_fixed rfl (by decide +kernel) ⟨(Nat.le_of_ble_eq_true rfl), (Nat.le_of_ble_eq_true rfl)⟩ rfl ⟨_, _, hO⟩ rfl rfl (Nat.le_of_ble_eq_true rfl) rfl rfl ⟨(Nat.le_of_ble_eq_true rfl), (Nat.le_of_ble_eq_true rfl)⟩ nX_no (fun v25 μ26 hv27 => ?_)
              obtain ⟨r28, hw31, h29⟩ := hv27
              subst hw31
              obtain ⟨⟨hr9, fo24, hO⟩, hF9⟩ := h29
              have hF32 := hF9
              have hMA : MA G μ26 A (shS σ p.toNat h k) := hF32.ma hMA
              have hCi := hF32.ai hCi
              have hSu := hF32.ai hSu
              have hFr : Fr 3000 3999 μ μ26 := hFr.tr hF32
              have hnp : r28 = npl σ p.toNat h k := by (rw [hr9, show ((k : Int) + 1).toNat = k + 1 by omega]; rfl)
              have hpk : pl9 σ p.toNat h k k = σ 8 k := by (unfold pl9; rw [if_neg (by omega)])
              have hur := uq_rg (fitb (n_ph σ p.toNat h) (k + 1) (-1))
              have hnr : npl σ p.toNat h k = uq (fitb (n_ph σ p.toNat h) (k + 1) (-1)) := rfl
              have hbs : b_setHeight σ p.toNat h (k + 1) = b_setHeight σ p.toNat h k + (if npl σ p.toNat h k ≠ σ 8 k then 1 else 0) := rfl
              refine x_stk (stk' := [.int (zI r28)]) rfl ?_
              refine x_istore (lv' := [(5, .int (zI r28)), (4, .int (zI (k : Int))), (3, .int (zI c)), (0, .ref m), (1, .int (zI p)), (2, .int (zI h))]) C dX9_setHeight_68 (by decide) rfl ?_
              refine x_iload C dX9_setHeight_70 0 rfl ?_
              refine x_aload_n C dX9_setHeight_72 rfl 3 rfl ?_
              refine x_get (ci := 10) (Cn := RX9) (T := TX9) (N := 29) (ref := "CairnCipherModel") C dX9_setHeight_73 in_X9 rfl hO 8 (by decide) (by decide +kernel) rfl rfl ?_
              refine x_iload C dX9_setHeight_76 1 rfl ?_
              refine z_iald (j := k) C dX9_setHeight_78 (show AI G μ26 (A 8) 3009 6 (pl9 σ p.toNat h k) from hMA.ai 8 rfl) (by omega) (by omega) (by decide) ?_
              have q_33 := hpl8 k (by omega)
              refine z_icmp_eq (tgt := 105) C dX9_setHeight_79 (by decide) (rg_of (by omega) (by omega)) (rg_of (by omega) (by omega)) (fun c_34 => ?_) (fun c_34 => ?_)
              · refine z_iinc (lv' := [(4, .int (zI ((k : Int) + 1))), (5, .int (zI r28)), (3, .int (zI c)), (0, .ref m), (1, .int (zI p)), (2, .int (zI h))]) C dX9_setHeight_105 1 rfl rfl (by decide) rfl ?_
                refine x_goto (tgt := 51) C dX9_setHeight_108 (by decide) ?_
                refine x_sub (lv' := [(4, .int (zI ((k : Int) + 1))), (3, .int (zI c)), (0, .ref m), (1, .int (zI p)), (2, .int (zI h))]) [0, 2, 3, 4, 5] rfl ?_
                have hMA : MA G μ26 A (shS σ p.toNat h (k + 1)) := by (rw [← shS_n (show npl σ p.toNat h k = σ 8 k by omega)]; exact hMA)
                rw [if_neg (show ¬ npl σ p.toNat h k ≠ σ 8 k by omega)] at hbs
                exact ih51 _ (by omega) _ (k + 1) _ (by omega) _ _ hO hMA hCi hSu hFr (by omega) (by omega) rfl
              · refine x_aload_n C dX9_setHeight_82 rfl 3 rfl ?_
                refine x_get (ci := 10) (Cn := RX9) (T := TX9) (N := 29) (ref := "CairnCipherModel") C dX9_setHeight_83 in_X9 rfl hO 8 (by decide) (by decide +kernel) rfl rfl ?_
                refine x_iload C dX9_setHeight_86 1 rfl ?_
                refine x_iload C dX9_setHeight_88 0 rfl ?_
                refine z_iast (j := k) C dX9_setHeight_90 (show AI G μ26 (A 8) 3009 6 (pl9 σ p.toNat h k) from hMA.ai 8 rfl) (by omega) (by omega) (by decide) (fun μ35 hq37 hF36 => ?_)
                have hMAn : MA G μ35 A (su (shS σ p.toNat h k) 8 (wr (pl9 σ p.toNat h k) k r28)) := hMA.up (k := 8) rfl hq37 hF36
                have hCi := hF36.ai hCi
                have hSu := hF36.ai hSu
                have hO := hF36.ob hO
                have hFr : Fr 3000 3999 μ μ35 := hFr.tr hF36
                have hMA := hMAn
                refine x_aload_n C dX9_setHeight_91 rfl 3 rfl ?_
                refine x_get (ci := 10) (Cn := RX9) (T := TX9) (N := 29) (ref := "CairnCipherModel") C dX9_setHeight_92 in_X9 rfl hO 9 (by decide) (by decide +kernel) rfl rfl ?_
                refine x_iload C dX9_setHeight_95 1 rfl ?_
                refine x_dup2 C dX9_setHeight_97 rfl rfl ?_
                refine z_iald (j := k) C dX9_setHeight_98 (show AI G μ35 (A 9) 3010 6 (mv9 σ p.toNat h k) from hMA.ai 9 rfl) (by omega) (by omega) (by decide) ?_
                have q_38 := hmv8 k (by omega)
                refine z_iconst C dX9_setHeight_99 ?_
                refine z_iadd C dX9_setHeight_100 rfl ?_
                refine z_iast (j := k) C dX9_setHeight_101 (show AI G μ35 (A 9) 3010 6 (mv9 σ p.toNat h k) from hMA.ai 9 rfl) (by omega) (by omega) (by decide) (fun μ39 hq41 hF40 => ?_)
                have hMAn : MA G μ39 A (su (su (shS σ p.toNat h k) 8 (wr (pl9 σ p.toNat h k) k r28)) 9 (wr (mv9 σ p.toNat h k) k (((mv9 σ p.toNat h k) k) + 1))) := hMA.up (k := 9) rfl hq41 hF40
                have hCi := hF40.ai hCi
                have hSu := hF40.ai hSu
                have hO := hF40.ob hO
                have hFr : Fr 3000 3999 μ μ39 := hFr.tr hF40
                have hMA := hMAn
                refine z_iinc (lv' := [(3, .int (zI (c + 1))), (5, .int (zI r28)), (4, .int (zI (k : Int))), (0, .ref m), (1, .int (zI p)), (2, .int (zI h))]) C dX9_setHeight_102 2 rfl rfl (by decide) rfl ?_
                refine z_iinc (lv' := [(4, .int (zI ((k : Int) + 1))), (3, .int (zI (c + 1))), (5, .int (zI r28)), (0, .ref m), (1, .int (zI p)), (2, .int (zI h))]) C dX9_setHeight_105 2 rfl rfl (by decide) rfl ?_
                refine x_goto (tgt := 51) C dX9_setHeight_108 (by decide) ?_
                refine x_sub (lv' := [(4, .int (zI ((k : Int) + 1))), (3, .int (zI (c + 1))), (0, .ref m), (1, .int (zI p)), (2, .int (zI h))]) [0, 1, 3, 4, 5] rfl ?_
                have hMA : MA G μ39 A (shS σ p.toNat h (k + 1)) := by (rw [← shS_y hnp (by omega)]; exact hMA)
                rw [if_pos (show npl σ p.toNat h k ≠ σ 8 k by omega)] at hbs
                exact ih51 _ (by omega) _ (k + 1) _ (by omega) _ _ hO hMA hCi hSu hFr (by omega) (by omega) rfl
        exact L51 _ _ (0) _ (by omega) _ _ hO hMA hCi hSu hFr (by omega) rfl rfl
      · exfalso; omega
    · refine z_iconst C dX9_setHeight_22 ?_
      refine x_goto (tgt := 27) C dX9_setHeight_23 (by decide) ?_
      refine z_put (ci := 10) (Cn := RX9) (T := TX9) (N := 29) (ref := "CairnCipherModel") (fs' := [.ref (A 0), .ref (A 1), .ref (A 2), .ref (A 3), .ref (A 4), .ref (A 5), .ref (A 6), .int (zI (σ 7 0)), .ref (A 8), .ref (A 9), .ref (A 10), .ref (A 11), .int (zI (σ 12 0)), .ref (A 13), .ref (A 14), .ref (A 15), .ref (A 16), .ref (A 17), .int (zI (σ 18 0)), .ref (A 19), .ref (A 20), .ref (A 21), .ref (A 22), .int (zI (σ 23 0)), .int (zI 2), .int (zI fo), .ref (A 26), .int (zI cm), .ref (A 28)]) C dX9_setHeight_27 in_X9 rfl tyX9 tyX9_ok nmX9 hO 24 (by decide) (by decide +kernel) rfl rfl rfl rfl rfl (Nat.le_of_ble_eq_true rfl) rfl (fun μ42 hOw hF43 => ?_)
      have hMA : MA G μ42 A σ := hF43.ma hMA
      have hCi := hF43.ai hCi
      have hSu := hF43.ai hSu
      have hFr : Fr 3000 3999 μ μ42 := hFr.tr hF43
      have hO := hOw
      refine x_aload_n C dX9_setHeight_30 rfl 0 rfl ?_
      refine x_get (ci := 10) (Cn := RX9) (T := TX9) (N := 29) (ref := "CairnCipherModel") C dX9_setHeight_31 in_X9 rfl hO 24 (by decide) (by decide +kernel) rfl rfl ?_
      refine z_if_le (tgt := 39) C dX9_setHeight_34 (by decide) (rg_of (by omega) (by omega)) (fun c_44 => ?_) (fun c_44 => ?_)
      · exfalso; omega
      · refine z_iconst C dX9_setHeight_37 ?_
        exact x_iret C R dX9_setHeight_38 (Nat.le_of_ble_eq_true rfl) (Nat.le_of_ble_eq_true rfl) (⟨_, rfl, ⟨Or.inr ⟨by (rw [show t_setHeight p h = 2 from by (unfold t_setHeight; (repeat split) <;> omega)]; omega), by (rw [show t_setHeight p h = 2 from by (unfold t_setHeight; (repeat split) <;> omega)]; exact ⟨_, _, _, _, _, hO, hMA, hCi, hSu⟩)⟩, hFr⟩⟩)
  · refine z_iconst C dX9_setHeight_8 ?_
    refine x_goto (tgt := 27) C dX9_setHeight_9 (by decide) ?_
    refine z_put (ci := 10) (Cn := RX9) (T := TX9) (N := 29) (ref := "CairnCipherModel") (fs' := [.ref (A 0), .ref (A 1), .ref (A 2), .ref (A 3), .ref (A 4), .ref (A 5), .ref (A 6), .int (zI (σ 7 0)), .ref (A 8), .ref (A 9), .ref (A 10), .ref (A 11), .int (zI (σ 12 0)), .ref (A 13), .ref (A 14), .ref (A 15), .ref (A 16), .ref (A 17), .int (zI (σ 18 0)), .ref (A 19), .ref (A 20), .ref (A 21), .ref (A 22), .int (zI (σ 23 0)), .int (zI 1), .int (zI fo), .ref (A 26), .int (zI cm), .ref (A 28)]) C dX9_setHeight_27 in_X9 rfl tyX9 tyX9_ok nmX9 hO 24 (by decide) (by decide +kernel) rfl rfl rfl rfl rfl (Nat.le_of_ble_eq_true rfl) rfl (fun μ45 hOw hF46 => ?_)
    have hMA : MA G μ45 A σ := hF46.ma hMA
    have hCi := hF46.ai hCi
    have hSu := hF46.ai hSu
    have hFr : Fr 3000 3999 μ μ45 := hFr.tr hF46
    have hO := hOw
    refine x_aload_n C dX9_setHeight_30 rfl 0 rfl ?_
    refine x_get (ci := 10) (Cn := RX9) (T := TX9) (N := 29) (ref := "CairnCipherModel") C dX9_setHeight_31 in_X9 rfl hO 24 (by decide) (by decide +kernel) rfl rfl ?_
    refine z_if_le (tgt := 39) C dX9_setHeight_34 (by decide) (rg_of (by omega) (by omega)) (fun c_47 => ?_) (fun c_47 => ?_)
    · exfalso; omega
    · refine z_iconst C dX9_setHeight_37 ?_
      exact x_iret C R dX9_setHeight_38 (Nat.le_of_ble_eq_true rfl) (Nat.le_of_ble_eq_true rfl) (⟨_, rfl, ⟨Or.inr ⟨by (rw [show t_setHeight p h = 1 from by (unfold t_setHeight; (repeat split) <;> omega)]; omega), by (rw [show t_setHeight p h = 1 from by (unfold t_setHeight; (repeat split) <;> omega)]; exact ⟨_, _, _, _, _, hO, hMA, hCi, hSu⟩)⟩, hFr⟩⟩)
