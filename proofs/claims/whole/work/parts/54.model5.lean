abbrev rm_X9_comes : Room := { frames := 5, cells := 0, slots := 0, locals := 119 }
set_option maxHeartbeats 4000000 in
set_option maxRecDepth 100000 in
theorem c_X9_comes (l : Launch) (hst : l.stackTraces = false) (G : GG) (z : Nat) (μ : Mm) (m : Nat) (σ : SS) (n : Nat) (th fo cm : Int) (Ci Su : Nat → Int) (A : Nat → Nat) (w : Int) (hM9 : RepY G μ m σ th fo cm Ci Su A) (hI : Iv σ n) (hw : 0 ≤ w ∧ w < 6) (hpc : 1 ≤ σ 13 w.toNat ∧ σ 13 w.toNat ≤ 5) (hok : W4ok (σ 14 w.toNat, σ 15 w.toNat, σ 16 w.toNat, σ 17 w.toNat)) : Ct l yX9_comes wsX9_comes rm_X9_comes G z [.ref m, .int (zI w)] μ (rS (fun r9 μ' => ((∃ pl' go' st' le' S', MA G μ' A (cmS σ w.toNat pl' go' st' le') ∧ AI G μ' (A 26) 3027 12 Ci ∧ AI G μ' (A 28) 3029 64 S' ∧ wm (wb σ (σ 13 w.toNat) (σ 14 w.toNat, σ 15 w.toNat, σ 16 w.toNat, σ 17 w.toNat)) = ((pl', go', st', le'), r9)) ∧ (r9 = 0 ∨ r9 = 1)) ∧ Fr 3001 3030 μ μ')) (nX) := by
  refine ct_of (cc := cX9_comes) (maxL := 3) (ret := (some .boolean)) (own := RX9) (by decide) rfl rfl hst (Nat.le_of_ble_eq_true rfl) ?_
  intro E hLl hnm C R hT
  have in_X9 : ∀ w ∈ u_ws RX9 TX9 29, w ∈ wsX9_comes := by decide +kernel
  have hM8 := hM9
  obtain ⟨hO, hMA, hCi, hSu⟩ := hM9
  have hn7 := hI.n7
  have hn12 := hI.n12
  have hn18 := hI.n18
  have hn23 := hI.n23
  have hFr : Fr 3001 3030 μ μ := Fr.rf
  refine x_eq (lv' := [(0, .ref m), (1, .int (zI w))]) rfl rfl ?_
  refine x_aload_n C dX9_comes_0 rfl 0 rfl ?_
  refine x_get (ci := 10) (Cn := RX9) (T := TX9) (N := 29) (ref := "CairnCipherModel") C dX9_comes_1 in_X9 rfl hO 16 (by decide) (by decide +kernel) rfl rfl ?_
  refine x_iload_n C dX9_comes_4 rfl 1 rfl ?_
  refine z_iald (j := w.toNat) C dX9_comes_5 (show AI G μ (A 16) 3017 6 (σ 16) from hMA.ai 16 rfl) (by omega) (by omega) (by decide) ?_
  have q_1 := hI.r16 w.toNat (by omega)
  refine z_iconst C dX9_comes_6 ?_
  refine z_icmp_ne (tgt := 25) C dX9_comes_7 (by decide) (rg_of (by omega) (by omega)) (rg_of (by omega) (by omega)) (fun c_2 => ?_) (fun c_2 => ?_)
  · obtain ⟨go8, st8, le8, hMA, hwb⟩ : ∃ go' st' le', MA G μ A (bgS σ w.toNat go' st' le') ∧ wb σ (σ 13 w.toNat) (σ 14 w.toNat, σ 15 w.toNat, σ 16 w.toNat, σ 17 w.toNat) = (σ 14 w.toNat, go', st', le') := ⟨_, _, _, by (rw [bgS_3]; exact hMA), by first | (exact wb_step (by omega)) | (rw [show σ 15 w.toNat = -1 by omega]; exact wb_rest)⟩
    have hok8 := wb_ok hI hpc hok
    rw [hwb] at hok8
    obtain ⟨o1, o2, o3, o4, o5, o6⟩ := hok8
    dsimp only at o1 o2 o3 o4 o5 o6
    have hr15 : ∀ j, j = w.toNat → wr (σ 15) w.toNat go8 j = go8 := fun j e => by (rw [e, wr_at])
    have hr16 : ∀ j, j = w.toNat → wr (σ 16) w.toNat st8 j = st8 := fun j e => by (rw [e, wr_at])
    have hr17 : ∀ j, j = w.toNat → wr (σ 17) w.toNat le8 j = le8 := fun j e => by (rw [e, wr_at])
    refine x_aload_n C dX9_comes_25 rfl 0 rfl ?_
    refine x_get (ci := 10) (Cn := RX9) (T := TX9) (N := 29) (ref := "CairnCipherModel") C dX9_comes_26 in_X9 rfl hO 16 (by decide) (by decide +kernel) rfl rfl ?_
    refine x_iload_n C dX9_comes_29 rfl 1 rfl ?_
    refine z_iald (j := w.toNat) C dX9_comes_30 (show AI G μ (A 16) 3017 6 (wr (σ 16) w.toNat st8) from hMA.ai 16 rfl) (by omega) (by omega) (by decide) ?_
    have q_3 := hr16 w.toNat (by omega)
    refine z_iconst C dX9_comes_31 ?_
    refine z_icmp_ne (tgt := 37) C dX9_comes_32 (by decide) (rg_of (by omega) (by omega)) (rg_of (by omega) (by omega)) (fun c_4 => ?_) (fun c_4 => ?_)
    · refine x_aload_n C dX9_comes_37 rfl 0 rfl ?_
      refine x_get (ci := 10) (Cn := RX9) (T := TX9) (N := 29) (ref := "CairnCipherModel") C dX9_comes_38 in_X9 rfl hO 17 (by decide) (by decide +kernel) rfl rfl ?_
      refine x_iload_n C dX9_comes_41 rfl 1 rfl ?_
      refine x_dup2 C dX9_comes_42 rfl rfl ?_
      refine z_iald (j := w.toNat) C dX9_comes_43 (show AI G μ (A 17) 3018 6 (wr (σ 17) w.toNat le8) from hMA.ai 17 rfl) (by omega) (by omega) (by decide) ?_
      have q_5 := hr17 w.toNat (by omega)
      refine z_iconst C dX9_comes_44 ?_
      refine z_isub C dX9_comes_45 rfl ?_
      refine z_iast (j := w.toNat) C dX9_comes_46 (show AI G μ (A 17) 3018 6 (wr (σ 17) w.toNat le8) from hMA.ai 17 rfl) (by omega) (by omega) (by decide) (fun μ6 hq8 hF7 => ?_)
      have hMAn : MA G μ6 A (su (bgS σ w.toNat go8 st8 le8) 17 (wr (wr (σ 17) w.toNat le8) w.toNat (((wr (σ 17) w.toNat le8) w.toNat) - 1))) := hMA.up (k := 17) rfl hq8 hF7
      have hO := hF7.ob hO
      have hCi := hF7.ai hCi
      have hSu := hF7.ai hSu
      have hFr : Fr 3001 3030 μ μ6 := hFr.tr hF7
      have hMA := hMAn
      have e17 : wr (σ 17) w.toNat le8 w.toNat = le8 := wr_at
      rw [e17] at hMA
      have hMA : MA G μ6 A (bgS σ w.toNat go8 st8 (le8 - 1)) := by (rw [← bgS_17 (c := le8)]; exact hMA)
      have hr17 : ∀ j, j = w.toNat → wr (σ 17) w.toNat (le8 - 1) j = le8 - 1 := fun j e => by (rw [e, wr_at])
      refine x_aload_n C dX9_comes_47 rfl 0 rfl ?_
      refine x_get (ci := 10) (Cn := RX9) (T := TX9) (N := 29) (ref := "CairnCipherModel") C dX9_comes_48 in_X9 rfl hO 17 (by decide) (by decide +kernel) rfl rfl ?_
      refine x_iload_n C dX9_comes_51 rfl 1 rfl ?_
      refine z_iald (j := w.toNat) C dX9_comes_52 (show AI G μ6 (A 17) 3018 6 (wr (σ 17) w.toNat (le8 - 1)) from hMA.ai 17 rfl) (by omega) (by omega) (by decide) ?_
      have q_9 := hr17 w.toNat (by omega)
      refine z_if_le (tgt := 58) C dX9_comes_53 (by decide) (rg_of (by omega) (by omega)) (fun c_10 => ?_) (fun c_10 => ?_)
      · refine x_aload_n C dX9_comes_58 rfl 0 rfl ?_
        refine x_get (ci := 10) (Cn := RX9) (T := TX9) (N := 29) (ref := "CairnCipherModel") C dX9_comes_59 in_X9 rfl hO 14 (by decide) (by decide +kernel) rfl rfl ?_
        refine x_iload_n C dX9_comes_62 rfl 1 rfl ?_
        refine x_aload_n C dX9_comes_63 rfl 0 rfl ?_
        refine x_get (ci := 10) (Cn := RX9) (T := TX9) (N := 29) (ref := "CairnCipherModel") C dX9_comes_64 in_X9 rfl hO 16 (by decide) (by decide +kernel) rfl rfl ?_
        refine x_iload_n C dX9_comes_67 rfl 1 rfl ?_
        refine z_iald (j := w.toNat) C dX9_comes_68 (show AI G μ6 (A 16) 3017 6 (wr (σ 16) w.toNat st8) from hMA.ai 16 rfl) (by omega) (by omega) (by decide) ?_
        have q_11 := hr16 w.toNat (by omega)
        refine z_iast (j := w.toNat) C dX9_comes_69 (show AI G μ6 (A 14) 3015 6 (σ 14) from hMA.ai 14 rfl) (by omega) (by omega) (by decide) (fun μ12 hq14 hF13 => ?_)
        have hMAn : MA G μ12 A (su (bgS σ w.toNat go8 st8 (le8 - 1)) 14 (wr (σ 14) w.toNat ((wr (σ 16) w.toNat st8) w.toNat))) := hMA.up (k := 14) rfl hq14 hF13
        have hO := hF13.ob hO
        have hCi := hF13.ai hCi
        have hSu := hF13.ai hSu
        have hFr : Fr 3001 3030 μ μ12 := hFr.tr hF13
        have hMA := hMAn
        have e16 : wr (σ 16) w.toNat st8 w.toNat = st8 := wr_at
        have hr14 : ∀ j, j = w.toNat → (wr (σ 14) w.toNat ((wr (σ 16) w.toNat st8) w.toNat)) j = st8 := fun j e => by (rw [e, wr_at]; exact e16)
        refine x_aload_n C dX9_comes_70 rfl 0 rfl ?_
        refine x_get (ci := 10) (Cn := RX9) (T := TX9) (N := 29) (ref := "CairnCipherModel") C dX9_comes_71 in_X9 rfl hO 16 (by decide) (by decide +kernel) rfl rfl ?_
        refine x_iload_n C dX9_comes_74 rfl 1 rfl ?_
        refine z_iconst C dX9_comes_75 ?_
        refine z_iast (j := w.toNat) C dX9_comes_76 (show AI G μ12 (A 16) 3017 6 (wr (σ 16) w.toNat st8) from hMA.ai 16 rfl) (by omega) (by omega) (by decide) (fun μ15 hq17 hF16 => ?_)
        have hMAn : MA G μ15 A (su (su (bgS σ w.toNat go8 st8 (le8 - 1)) 14 (wr (σ 14) w.toNat ((wr (σ 16) w.toNat st8) w.toNat))) 16 (wr (wr (σ 16) w.toNat st8) w.toNat (-1))) := hMA.up (k := 16) rfl hq17 hF16
        have hO := hF16.ob hO
        have hCi := hF16.ai hCi
        have hSu := hF16.ai hSu
        have hFr : Fr 3001 3030 μ μ15 := hFr.tr hF16
        have hMA := hMAn
        refine x_aload_n C dX9_comes_77 rfl 0 rfl ?_
        refine x_get (ci := 10) (Cn := RX9) (T := TX9) (N := 29) (ref := "CairnCipherModel") C dX9_comes_78 in_X9 rfl hO 14 (by decide) (by decide +kernel) rfl rfl ?_
        refine x_iload_n C dX9_comes_81 rfl 1 rfl ?_
        refine z_iald (j := w.toNat) C dX9_comes_82 (show AI G μ15 (A 14) 3015 6 (wr (σ 14) w.toNat ((wr (σ 16) w.toNat st8) w.toNat)) from hMA.ai 14 rfl) (by omega) (by omega) (by decide) ?_
        have q_18 := hr14 w.toNat (by omega)
        refine x_aload_n C dX9_comes_83 rfl 0 rfl ?_
        refine x_get (ci := 10) (Cn := RX9) (T := TX9) (N := 29) (ref := "CairnCipherModel") C dX9_comes_84 in_X9 rfl hO 15 (by decide) (by decide +kernel) rfl rfl ?_
        refine x_iload_n C dX9_comes_87 rfl 1 rfl ?_
        refine z_iald (j := w.toNat) C dX9_comes_88 (show AI G μ15 (A 15) 3016 6 (wr (σ 15) w.toNat go8) from hMA.ai 15 rfl) (by omega) (by omega) (by decide) ?_
        have q_19 := hr15 w.toNat (by omega)
        refine z_icmp_ne (tgt := 96) C dX9_comes_89 (by decide) (rg_of (by omega) (by omega)) (rg_of (by omega) (by omega)) (fun c_20 => ?_) (fun c_20 => ?_)
        · refine z_iconst C dX9_comes_96 ?_
          refine x_istore_n (lv' := [(2, .int (zI 0)), (0, .ref m), (1, .int (zI w))]) C dX9_comes_97 rfl (by decide) rfl ?_
          refine x_aload_n C dX9_comes_98 rfl 1 rfl ?_
          refine x_get (ci := 10) (Cn := RX9) (T := TX9) (N := 29) (ref := "CairnCipherModel") C dX9_comes_99 in_X9 rfl hO 15 (by decide) (by decide +kernel) rfl rfl ?_
          refine x_iload_n C dX9_comes_102 rfl 2 rfl ?_
          refine x_iload_n C dX9_comes_103 rfl 0 rfl ?_
          refine z_if_eq (tgt := 111) C dX9_comes_104 (by decide) (rg_of (by omega) (by omega)) (fun c_21 => ?_) (fun c_21 => ?_)
          · refine x_aload_n C dX9_comes_111 rfl 1 rfl ?_
            refine x_get (ci := 10) (Cn := RX9) (T := TX9) (N := 29) (ref := "CairnCipherModel") C dX9_comes_112 in_X9 rfl hO 15 (by decide) (by decide +kernel) rfl rfl ?_
            refine x_iload_n C dX9_comes_115 rfl 2 rfl ?_
            refine z_iald (j := w.toNat) C dX9_comes_116 (show AI G μ15 (A 15) 3016 6 (wr (σ 15) w.toNat go8) from hMA.ai 15 rfl) (by omega) (by omega) (by decide) ?_
            have q_22 := hr15 w.toNat (by omega)
            refine z_iast (j := w.toNat) C dX9_comes_117 (show AI G μ15 (A 15) 3016 6 (wr (σ 15) w.toNat go8) from hMA.ai 15 rfl) (by omega) (by omega) (by decide) (fun μ23 hq25 hF24 => ?_)
            have hMAn : MA G μ23 A (su (su (su (bgS σ w.toNat go8 st8 (le8 - 1)) 14 (wr (σ 14) w.toNat ((wr (σ 16) w.toNat st8) w.toNat))) 16 (wr (wr (σ 16) w.toNat st8) w.toNat (-1))) 15 (wr (wr (σ 15) w.toNat go8) w.toNat ((wr (σ 15) w.toNat go8) w.toNat))) := hMA.up (k := 15) rfl hq25 hF24
            have hO := hF24.ob hO
            have hCi := hF24.ai hCi
            have hSu := hF24.ai hSu
            have hFr : Fr 3001 3030 μ μ23 := hFr.tr hF24
            have hMA := hMAn
            rw [e16] at hMA
            have e15 : wr (σ 15) w.toNat go8 w.toNat = go8 := wr_at
            rw [e15] at hMA
            have hMA : MA G μ23 A (cmS σ w.toNat st8 go8 (-1) (le8 - 1)) := by (rw [← bgS_cm2 (a := go8) (b := st8)]; exact hMA)
            refine x_iload_n C dX9_comes_118 rfl 0 rfl ?_
            exact x_zret C R dX9_comes_119 (nar_z (by omega)) (Nat.le_of_ble_eq_true rfl) (Nat.le_of_ble_eq_true rfl) (⟨_, rfl, ⟨⟨st8, go8, (-1), (le8 - 1), _, hMA, hCi, hSu, by (rw [hwb]; exact wm_of (Or.inr (Or.inr (Or.inl ⟨by omega, by omega, by omega, rfl, rfl, rfl, rfl, rfl⟩))))⟩, by omega⟩, hFr⟩)
          · exfalso; omega
        · refine z_iconst C dX9_comes_92 ?_
          refine x_goto (tgt := 97) C dX9_comes_93 (by decide) ?_
          refine x_istore_n (lv' := [(2, .int (zI 1)), (0, .ref m), (1, .int (zI w))]) C dX9_comes_97 rfl (by decide) rfl ?_
          refine x_aload_n C dX9_comes_98 rfl 1 rfl ?_
          refine x_get (ci := 10) (Cn := RX9) (T := TX9) (N := 29) (ref := "CairnCipherModel") C dX9_comes_99 in_X9 rfl hO 15 (by decide) (by decide +kernel) rfl rfl ?_
          refine x_iload_n C dX9_comes_102 rfl 2 rfl ?_
          refine x_iload_n C dX9_comes_103 rfl 0 rfl ?_
          refine z_if_eq (tgt := 111) C dX9_comes_104 (by decide) (rg_of (by omega) (by omega)) (fun c_26 => ?_) (fun c_26 => ?_)
          · exfalso; omega
          · refine z_iconst C dX9_comes_107 ?_
            refine x_goto (tgt := 117) C dX9_comes_108 (by decide) ?_
            refine z_iast (j := w.toNat) C dX9_comes_117 (show AI G μ15 (A 15) 3016 6 (wr (σ 15) w.toNat go8) from hMA.ai 15 rfl) (by omega) (by omega) (by decide) (fun μ27 hq29 hF28 => ?_)
            have hMAn : MA G μ27 A (su (su (su (bgS σ w.toNat go8 st8 (le8 - 1)) 14 (wr (σ 14) w.toNat ((wr (σ 16) w.toNat st8) w.toNat))) 16 (wr (wr (σ 16) w.toNat st8) w.toNat (-1))) 15 (wr (wr (σ 15) w.toNat go8) w.toNat (-1))) := hMA.up (k := 15) rfl hq29 hF28
            have hO := hF28.ob hO
            have hCi := hF28.ai hCi
            have hSu := hF28.ai hSu
            have hFr : Fr 3001 3030 μ μ27 := hFr.tr hF28
            have hMA := hMAn
            rw [e16] at hMA
            have hMA : MA G μ27 A (cmS σ w.toNat st8 (-1) (-1) (le8 - 1)) := by (rw [← bgS_cm2 (a := go8) (b := st8)]; exact hMA)
            refine x_iload_n C dX9_comes_118 rfl 0 rfl ?_
            exact x_zret C R dX9_comes_119 (nar_z (by omega)) (Nat.le_of_ble_eq_true rfl) (Nat.le_of_ble_eq_true rfl) (⟨_, rfl, ⟨⟨st8, (-1), (-1), (le8 - 1), _, hMA, hCi, hSu, by (rw [hwb]; exact wm_of (Or.inr (Or.inr (Or.inr ⟨by omega, by omega, by omega, rfl, rfl, rfl, rfl, rfl⟩))))⟩, by omega⟩, hFr⟩)
      · refine z_iconst C dX9_comes_56 ?_
        exact x_zret C R dX9_comes_57 (nar_z (by omega)) (Nat.le_of_ble_eq_true rfl) (Nat.le_of_ble_eq_true rfl) (⟨_, rfl, ⟨⟨σ 14 w.toNat, go8, st8, (le8 - 1), _, by (rw [cmS_0]; exact hMA), hCi, hSu, by (rw [hwb]; exact wm_of (Or.inr (Or.inl ⟨by omega, by omega, rfl, rfl, rfl, rfl, rfl⟩)))⟩, by omega⟩, hFr⟩)
    · refine z_iconst C dX9_comes_35 ?_
      exact x_zret C R dX9_comes_36 (nar_z (by omega)) (Nat.le_of_ble_eq_true rfl) (Nat.le_of_ble_eq_true rfl) (⟨_, rfl, ⟨⟨σ 14 w.toNat, go8, st8, le8, _, by (rw [cmS_0]; exact hMA), hCi, hSu, by (rw [hwb]; exact wm_of (Or.inl ⟨by omega, rfl, rfl, rfl, rfl, rfl⟩))⟩, by omega⟩, hFr⟩)
  · refine x_aload_n C dX9_comes_10 rfl 0 rfl ?_
    refine x_get (ci := 10) (Cn := RX9) (T := TX9) (N := 29) (ref := "CairnCipherModel") C dX9_comes_11 in_X9 rfl hO 15 (by decide) (by decide +kernel) rfl rfl ?_
    refine x_iload_n C dX9_comes_14 rfl 1 rfl ?_
    refine z_iald (j := w.toNat) C dX9_comes_15 (show AI G μ (A 15) 3016 6 (σ 15) from hMA.ai 15 rfl) (by omega) (by omega) (by decide) ?_
    have q_30 := hI.r15 w.toNat (by omega)
    refine z_iconst C dX9_comes_16 ?_
    refine z_icmp_eq (tgt := 25) C dX9_comes_17 (by decide) (rg_of (by omega) (by omega)) (rg_of (by omega) (by omega)) (fun c_31 => ?_) (fun c_31 => ?_)
    · obtain ⟨go8, st8, le8, hMA, hwb⟩ : ∃ go' st' le', MA G μ A (bgS σ w.toNat go' st' le') ∧ wb σ (σ 13 w.toNat) (σ 14 w.toNat, σ 15 w.toNat, σ 16 w.toNat, σ 17 w.toNat) = (σ 14 w.toNat, go', st', le') := ⟨_, _, _, by (rw [bgS_3]; exact hMA), by first | (exact wb_step (by omega)) | (rw [show σ 15 w.toNat = -1 by omega]; exact wb_rest)⟩
      have hok8 := wb_ok hI hpc hok
      rw [hwb] at hok8
      obtain ⟨o1, o2, o3, o4, o5, o6⟩ := hok8
      dsimp only at o1 o2 o3 o4 o5 o6
      have hr15 : ∀ j, j = w.toNat → wr (σ 15) w.toNat go8 j = go8 := fun j e => by (rw [e, wr_at])
      have hr16 : ∀ j, j = w.toNat → wr (σ 16) w.toNat st8 j = st8 := fun j e => by (rw [e, wr_at])
      have hr17 : ∀ j, j = w.toNat → wr (σ 17) w.toNat le8 j = le8 := fun j e => by (rw [e, wr_at])
      refine x_aload_n C dX9_comes_25 rfl 0 rfl ?_
      refine x_get (ci := 10) (Cn := RX9) (T := TX9) (N := 29) (ref := "CairnCipherModel") C dX9_comes_26 in_X9 rfl hO 16 (by decide) (by decide +kernel) rfl rfl ?_
      refine x_iload_n C dX9_comes_29 rfl 1 rfl ?_
      refine z_iald (j := w.toNat) C dX9_comes_30 (show AI G μ (A 16) 3017 6 (wr (σ 16) w.toNat st8) from hMA.ai 16 rfl) (by omega) (by omega) (by decide) ?_
      have q_32 := hr16 w.toNat (by omega)
      refine z_iconst C dX9_comes_31 ?_
      refine z_icmp_ne (tgt := 37) C dX9_comes_32 (by decide) (rg_of (by omega) (by omega)) (rg_of (by omega) (by omega)) (fun c_33 => ?_) (fun c_33 => ?_)
      · refine x_aload_n C dX9_comes_37 rfl 0 rfl ?_
        refine x_get (ci := 10) (Cn := RX9) (T := TX9) (N := 29) (ref := "CairnCipherModel") C dX9_comes_38 in_X9 rfl hO 17 (by decide) (by decide +kernel) rfl rfl ?_
        refine x_iload_n C dX9_comes_41 rfl 1 rfl ?_
        refine x_dup2 C dX9_comes_42 rfl rfl ?_
        refine z_iald (j := w.toNat) C dX9_comes_43 (show AI G μ (A 17) 3018 6 (wr (σ 17) w.toNat le8) from hMA.ai 17 rfl) (by omega) (by omega) (by decide) ?_
        have q_34 := hr17 w.toNat (by omega)
        refine z_iconst C dX9_comes_44 ?_
        refine z_isub C dX9_comes_45 rfl ?_
        refine z_iast (j := w.toNat) C dX9_comes_46 (show AI G μ (A 17) 3018 6 (wr (σ 17) w.toNat le8) from hMA.ai 17 rfl) (by omega) (by omega) (by decide) (fun μ35 hq37 hF36 => ?_)
        have hMAn : MA G μ35 A (su (bgS σ w.toNat go8 st8 le8) 17 (wr (wr (σ 17) w.toNat le8) w.toNat (((wr (σ 17) w.toNat le8) w.toNat) - 1))) := hMA.up (k := 17) rfl hq37 hF36
        have hO := hF36.ob hO
        have hCi := hF36.ai hCi
        have hSu := hF36.ai hSu
        have hFr : Fr 3001 3030 μ μ35 := hFr.tr hF36
        have hMA := hMAn
        have e17 : wr (σ 17) w.toNat le8 w.toNat = le8 := wr_at
        rw [e17] at hMA
        have hMA : MA G μ35 A (bgS σ w.toNat go8 st8 (le8 - 1)) := by (rw [← bgS_17 (c := le8)]; exact hMA)
        have hr17 : ∀ j, j = w.toNat → wr (σ 17) w.toNat (le8 - 1) j = le8 - 1 := fun j e => by (rw [e, wr_at])
        refine x_aload_n C dX9_comes_47 rfl 0 rfl ?_
        refine x_get (ci := 10) (Cn := RX9) (T := TX9) (N := 29) (ref := "CairnCipherModel") C dX9_comes_48 in_X9 rfl hO 17 (by decide) (by decide +kernel) rfl rfl ?_
        refine x_iload_n C dX9_comes_51 rfl 1 rfl ?_
        refine z_iald (j := w.toNat) C dX9_comes_52 (show AI G μ35 (A 17) 3018 6 (wr (σ 17) w.toNat (le8 - 1)) from hMA.ai 17 rfl) (by omega) (by omega) (by decide) ?_
        have q_38 := hr17 w.toNat (by omega)
        refine z_if_le (tgt := 58) C dX9_comes_53 (by decide) (rg_of (by omega) (by omega)) (fun c_39 => ?_) (fun c_39 => ?_)
        · refine x_aload_n C dX9_comes_58 rfl 0 rfl ?_
          refine x_get (ci := 10) (Cn := RX9) (T := TX9) (N := 29) (ref := "CairnCipherModel") C dX9_comes_59 in_X9 rfl hO 14 (by decide) (by decide +kernel) rfl rfl ?_
          refine x_iload_n C dX9_comes_62 rfl 1 rfl ?_
          refine x_aload_n C dX9_comes_63 rfl 0 rfl ?_
          refine x_get (ci := 10) (Cn := RX9) (T := TX9) (N := 29) (ref := "CairnCipherModel") C dX9_comes_64 in_X9 rfl hO 16 (by decide) (by decide +kernel) rfl rfl ?_
          refine x_iload_n C dX9_comes_67 rfl 1 rfl ?_
          refine z_iald (j := w.toNat) C dX9_comes_68 (show AI G μ35 (A 16) 3017 6 (wr (σ 16) w.toNat st8) from hMA.ai 16 rfl) (by omega) (by omega) (by decide) ?_
          have q_40 := hr16 w.toNat (by omega)
          refine z_iast (j := w.toNat) C dX9_comes_69 (show AI G μ35 (A 14) 3015 6 (σ 14) from hMA.ai 14 rfl) (by omega) (by omega) (by decide) (fun μ41 hq43 hF42 => ?_)
          have hMAn : MA G μ41 A (su (bgS σ w.toNat go8 st8 (le8 - 1)) 14 (wr (σ 14) w.toNat ((wr (σ 16) w.toNat st8) w.toNat))) := hMA.up (k := 14) rfl hq43 hF42
          have hO := hF42.ob hO
          have hCi := hF42.ai hCi
          have hSu := hF42.ai hSu
          have hFr : Fr 3001 3030 μ μ41 := hFr.tr hF42
          have hMA := hMAn
          have e16 : wr (σ 16) w.toNat st8 w.toNat = st8 := wr_at
          have hr14 : ∀ j, j = w.toNat → (wr (σ 14) w.toNat ((wr (σ 16) w.toNat st8) w.toNat)) j = st8 := fun j e => by (rw [e, wr_at]; exact e16)
          refine x_aload_n C dX9_comes_70 rfl 0 rfl ?_
          refine x_get (ci := 10) (Cn := RX9) (T := TX9) (N := 29) (ref := "CairnCipherModel") C dX9_comes_71 in_X9 rfl hO 16 (by decide) (by decide +kernel) rfl rfl ?_
          refine x_iload_n C dX9_comes_74 rfl 1 rfl ?_
          refine z_iconst C dX9_comes_75 ?_
          refine z_iast (j := w.toNat) C dX9_comes_76 (show AI G μ41 (A 16) 3017 6 (wr (σ 16) w.toNat st8) from hMA.ai 16 rfl) (by omega) (by omega) (by decide) (fun μ44 hq46 hF45 => ?_)
          have hMAn : MA G μ44 A (su (su (bgS σ w.toNat go8 st8 (le8 - 1)) 14 (wr (σ 14) w.toNat ((wr (σ 16) w.toNat st8) w.toNat))) 16 (wr (wr (σ 16) w.toNat st8) w.toNat (-1))) := hMA.up (k := 16) rfl hq46 hF45
          have hO := hF45.ob hO
          have hCi := hF45.ai hCi
          have hSu := hF45.ai hSu
          have hFr : Fr 3001 3030 μ μ44 := hFr.tr hF45
          have hMA := hMAn
          refine x_aload_n C dX9_comes_77 rfl 0 rfl ?_
          refine x_get (ci := 10) (Cn := RX9) (T := TX9) (N := 29) (ref := "CairnCipherModel") C dX9_comes_78 in_X9 rfl hO 14 (by decide) (by decide +kernel) rfl rfl ?_
          refine x_iload_n C dX9_comes_81 rfl 1 rfl ?_
          refine z_iald (j := w.toNat) C dX9_comes_82 (show AI G μ44 (A 14) 3015 6 (wr (σ 14) w.toNat ((wr (σ 16) w.toNat st8) w.toNat)) from hMA.ai 14 rfl) (by omega) (by omega) (by decide) ?_
          have q_47 := hr14 w.toNat (by omega)
          refine x_aload_n C dX9_comes_83 rfl 0 rfl ?_
          refine x_get (ci := 10) (Cn := RX9) (T := TX9) (N := 29) (ref := "CairnCipherModel") C dX9_comes_84 in_X9 rfl hO 15 (by decide) (by decide +kernel) rfl rfl ?_
          refine x_iload_n C dX9_comes_87 rfl 1 rfl ?_
          refine z_iald (j := w.toNat) C dX9_comes_88 (show AI G μ44 (A 15) 3016 6 (wr (σ 15) w.toNat go8) from hMA.ai 15 rfl) (by omega) (by omega) (by decide) ?_
          have q_48 := hr15 w.toNat (by omega)
          refine z_icmp_ne (tgt := 96) C dX9_comes_89 (by decide) (rg_of (by omega) (by omega)) (rg_of (by omega) (by omega)) (fun c_49 => ?_) (fun c_49 => ?_)
          · refine z_iconst C dX9_comes_96 ?_
            refine x_istore_n (lv' := [(2, .int (zI 0)), (0, .ref m), (1, .int (zI w))]) C dX9_comes_97 rfl (by decide) rfl ?_
            refine x_aload_n C dX9_comes_98 rfl 1 rfl ?_
            refine x_get (ci := 10) (Cn := RX9) (T := TX9) (N := 29) (ref := "CairnCipherModel") C dX9_comes_99 in_X9 rfl hO 15 (by decide) (by decide +kernel) rfl rfl ?_
            refine x_iload_n C dX9_comes_102 rfl 2 rfl ?_
            refine x_iload_n C dX9_comes_103 rfl 0 rfl ?_
            refine z_if_eq (tgt := 111) C dX9_comes_104 (by decide) (rg_of (by omega) (by omega)) (fun c_50 => ?_) (fun c_50 => ?_)
            · refine x_aload_n C dX9_comes_111 rfl 1 rfl ?_
              refine x_get (ci := 10) (Cn := RX9) (T := TX9) (N := 29) (ref := "CairnCipherModel") C dX9_comes_112 in_X9 rfl hO 15 (by decide) (by decide +kernel) rfl rfl ?_
              refine x_iload_n C dX9_comes_115 rfl 2 rfl ?_
              refine z_iald (j := w.toNat) C dX9_comes_116 (show AI G μ44 (A 15) 3016 6 (wr (σ 15) w.toNat go8) from hMA.ai 15 rfl) (by omega) (by omega) (by decide) ?_
              have q_51 := hr15 w.toNat (by omega)
              refine z_iast (j := w.toNat) C dX9_comes_117 (show AI G μ44 (A 15) 3016 6 (wr (σ 15) w.toNat go8) from hMA.ai 15 rfl) (by omega) (by omega) (by decide) (fun μ52 hq54 hF53 => ?_)
              have hMAn : MA G μ52 A (su (su (su (bgS σ w.toNat go8 st8 (le8 - 1)) 14 (wr (σ 14) w.toNat ((wr (σ 16) w.toNat st8) w.toNat))) 16 (wr (wr (σ 16) w.toNat st8) w.toNat (-1))) 15 (wr (wr (σ 15) w.toNat go8) w.toNat ((wr (σ 15) w.toNat go8) w.toNat))) := hMA.up (k := 15) rfl hq54 hF53
              have hO := hF53.ob hO
              have hCi := hF53.ai hCi
              have hSu := hF53.ai hSu
              have hFr : Fr 3001 3030 μ μ52 := hFr.tr hF53
              have hMA := hMAn
              rw [e16] at hMA
              have e15 : wr (σ 15) w.toNat go8 w.toNat = go8 := wr_at
              rw [e15] at hMA
              have hMA : MA G μ52 A (cmS σ w.toNat st8 go8 (-1) (le8 - 1)) := by (rw [← bgS_cm2 (a := go8) (b := st8)]; exact hMA)
              refine x_iload_n C dX9_comes_118 rfl 0 rfl ?_
              exact x_zret C R dX9_comes_119 (nar_z (by omega)) (Nat.le_of_ble_eq_true rfl) (Nat.le_of_ble_eq_true rfl) (⟨_, rfl, ⟨⟨st8, go8, (-1), (le8 - 1), _, hMA, hCi, hSu, by (rw [hwb]; exact wm_of (Or.inr (Or.inr (Or.inl ⟨by omega, by omega, by omega, rfl, rfl, rfl, rfl, rfl⟩))))⟩, by omega⟩, hFr⟩)
            · exfalso; omega
          · refine z_iconst C dX9_comes_92 ?_
            refine x_goto (tgt := 97) C dX9_comes_93 (by decide) ?_
            refine x_istore_n (lv' := [(2, .int (zI 1)), (0, .ref m), (1, .int (zI w))]) C dX9_comes_97 rfl (by decide) rfl ?_
            refine x_aload_n C dX9_comes_98 rfl 1 rfl ?_
            refine x_get (ci := 10) (Cn := RX9) (T := TX9) (N := 29) (ref := "CairnCipherModel") C dX9_comes_99 in_X9 rfl hO 15 (by decide) (by decide +kernel) rfl rfl ?_
            refine x_iload_n C dX9_comes_102 rfl 2 rfl ?_
            refine x_iload_n C dX9_comes_103 rfl 0 rfl ?_
            refine z_if_eq (tgt := 111) C dX9_comes_104 (by decide) (rg_of (by omega) (by omega)) (fun c_55 => ?_) (fun c_55 => ?_)
            · exfalso; omega
            · refine z_iconst C dX9_comes_107 ?_
              refine x_goto (tgt := 117) C dX9_comes_108 (by decide) ?_
              refine z_iast (j := w.toNat) C dX9_comes_117 (show AI G μ44 (A 15) 3016 6 (wr (σ 15) w.toNat go8) from hMA.ai 15 rfl) (by omega) (by omega) (by decide) (fun μ56 hq58 hF57 => ?_)
              have hMAn : MA G μ56 A (su (su (su (bgS σ w.toNat go8 st8 (le8 - 1)) 14 (wr (σ 14) w.toNat ((wr (σ 16) w.toNat st8) w.toNat))) 16 (wr (wr (σ 16) w.toNat st8) w.toNat (-1))) 15 (wr (wr (σ 15) w.toNat go8) w.toNat (-1))) := hMA.up (k := 15) rfl hq58 hF57
              have hO := hF57.ob hO
              have hCi := hF57.ai hCi
              have hSu := hF57.ai hSu
              have hFr : Fr 3001 3030 μ μ56 := hFr.tr hF57
              have hMA := hMAn
              rw [e16] at hMA
              have hMA : MA G μ56 A (cmS σ w.toNat st8 (-1) (-1) (le8 - 1)) := by (rw [← bgS_cm2 (a := go8) (b := st8)]; exact hMA)
              refine x_iload_n C dX9_comes_118 rfl 0 rfl ?_
              exact x_zret C R dX9_comes_119 (nar_z (by omega)) (Nat.le_of_ble_eq_true rfl) (Nat.le_of_ble_eq_true rfl) (⟨_, rfl, ⟨⟨st8, (-1), (-1), (le8 - 1), _, hMA, hCi, hSu, by (rw [hwb]; exact wm_of (Or.inr (Or.inr (Or.inr ⟨by omega, by omega, by omega, rfl, rfl, rfl, rfl, rfl⟩))))⟩, by omega⟩, hFr⟩)
        · refine z_iconst C dX9_comes_56 ?_
          exact x_zret C R dX9_comes_57 (nar_z (by omega)) (Nat.le_of_ble_eq_true rfl) (Nat.le_of_ble_eq_true rfl) (⟨_, rfl, ⟨⟨σ 14 w.toNat, go8, st8, (le8 - 1), _, by (rw [cmS_0]; exact hMA), hCi, hSu, by (rw [hwb]; exact wm_of (Or.inr (Or.inl ⟨by omega, by omega, rfl, rfl, rfl, rfl, rfl⟩)))⟩, by omega⟩, hFr⟩)
      · refine z_iconst C dX9_comes_35 ?_
        exact x_zret C R dX9_comes_36 (nar_z (by omega)) (Nat.le_of_ble_eq_true rfl) (Nat.le_of_ble_eq_true rfl) (⟨_, rfl, ⟨⟨σ 14 w.toNat, go8, st8, le8, _, by (rw [cmS_0]; exact hMA), hCi, hSu, by (rw [hwb]; exact wm_of (Or.inl ⟨by omega, rfl, rfl, rfl, rfl, rfl⟩))⟩, by omega⟩, hFr⟩)
    · refine x_aload_n C dX9_comes_20 rfl 0 rfl ?_
      refine x_iload_n C dX9_comes_21 rfl 1 rfl ?_
      have hok5 := hok.2.2.2.2.1
      dsimp only at hok5
      refine x_callV (n := 1) (ci := 10) (Cn := RX9) (T := TX9) (N := 29) (cc9 := 0) (ss9 := 0) (rest := []) C dX9_comes_22 (c_X9_begin (kxL E) C.st G z μ _ σ _ _ _ _ _ _ _ w ⟨hO, hMA, hCi, hSu⟩ hI (by omega) (by omega) (by (rcases hok5 (by omega) with h77 | h77; omega; exact h77)) (by omega) (by omega)) gX9_comes_X9_begin rfl (by decide +kernel) ⟨(Nat.le_of_ble_eq_true rfl), (Nat.le_of_ble_eq_true rfl)⟩ rfl ⟨_, _, hO⟩ rfl rfl (Nat.le_of_ble_eq_true rfl) rfl rfl ⟨(Nat.le_of_ble_eq_true rfl), (Nat.le_of_ble_eq_true rfl)⟩ nX_no (fun v59 μ60 hv61 => ?_)
      obtain ⟨hw65, h63⟩ := hv61
      subst hw65
      obtain ⟨⟨go8, st8, le8, Sn8, hMA, hCi, hSu, hwb⟩, hF9⟩ := h63
      have hF66 := hF9
      have hO := hF66.ob hO
      have hFr : Fr 3001 3030 μ μ60 := hFr.tr hF66
      have hwb : wb σ (σ 13 w.toNat) (σ 14 w.toNat, σ 15 w.toNat, σ 16 w.toNat, σ 17 w.toNat) = (σ 14 w.toNat, go8, st8, le8) := by (rw [show σ 16 w.toNat = -1 by omega]; exact hwb)
      refine x_stk (stk' := []) rfl ?_
      have hok8 := wb_ok hI hpc hok
      rw [hwb] at hok8
      obtain ⟨o1, o2, o3, o4, o5, o6⟩ := hok8
      dsimp only at o1 o2 o3 o4 o5 o6
      have hr15 : ∀ j, j = w.toNat → wr (σ 15) w.toNat go8 j = go8 := fun j e => by (rw [e, wr_at])
      have hr16 : ∀ j, j = w.toNat → wr (σ 16) w.toNat st8 j = st8 := fun j e => by (rw [e, wr_at])
      have hr17 : ∀ j, j = w.toNat → wr (σ 17) w.toNat le8 j = le8 := fun j e => by (rw [e, wr_at])
      refine x_aload_n C dX9_comes_25 rfl 0 rfl ?_
      refine x_get (ci := 10) (Cn := RX9) (T := TX9) (N := 29) (ref := "CairnCipherModel") C dX9_comes_26 in_X9 rfl hO 16 (by decide) (by decide +kernel) rfl rfl ?_
      refine x_iload_n C dX9_comes_29 rfl 1 rfl ?_
      refine z_iald (j := w.toNat) C dX9_comes_30 (show AI G μ60 (A 16) 3017 6 (wr (σ 16) w.toNat st8) from hMA.ai 16 rfl) (by omega) (by omega) (by decide) ?_
      have q_67 := hr16 w.toNat (by omega)
      refine z_iconst C dX9_comes_31 ?_
      refine z_icmp_ne (tgt := 37) C dX9_comes_32 (by decide) (rg_of (by omega) (by omega)) (rg_of (by omega) (by omega)) (fun c_68 => ?_) (fun c_68 => ?_)
      · refine x_aload_n C dX9_comes_37 rfl 0 rfl ?_
        refine x_get (ci := 10) (Cn := RX9) (T := TX9) (N := 29) (ref := "CairnCipherModel") C dX9_comes_38 in_X9 rfl hO 17 (by decide) (by decide +kernel) rfl rfl ?_
        refine x_iload_n C dX9_comes_41 rfl 1 rfl ?_
        refine x_dup2 C dX9_comes_42 rfl rfl ?_
        refine z_iald (j := w.toNat) C dX9_comes_43 (show AI G μ60 (A 17) 3018 6 (wr (σ 17) w.toNat le8) from hMA.ai 17 rfl) (by omega) (by omega) (by decide) ?_
        have q_69 := hr17 w.toNat (by omega)
        refine z_iconst C dX9_comes_44 ?_
        refine z_isub C dX9_comes_45 rfl ?_
        refine z_iast (j := w.toNat) C dX9_comes_46 (show AI G μ60 (A 17) 3018 6 (wr (σ 17) w.toNat le8) from hMA.ai 17 rfl) (by omega) (by omega) (by decide) (fun μ70 hq72 hF71 => ?_)
        have hMAn : MA G μ70 A (su (bgS σ w.toNat go8 st8 le8) 17 (wr (wr (σ 17) w.toNat le8) w.toNat (((wr (σ 17) w.toNat le8) w.toNat) - 1))) := hMA.up (k := 17) rfl hq72 hF71
        have hO := hF71.ob hO
        have hCi := hF71.ai hCi
        have hSu := hF71.ai hSu
        have hFr : Fr 3001 3030 μ μ70 := hFr.tr hF71
        have hMA := hMAn
        have e17 : wr (σ 17) w.toNat le8 w.toNat = le8 := wr_at
        rw [e17] at hMA
        have hMA : MA G μ70 A (bgS σ w.toNat go8 st8 (le8 - 1)) := by (rw [← bgS_17 (c := le8)]; exact hMA)
        have hr17 : ∀ j, j = w.toNat → wr (σ 17) w.toNat (le8 - 1) j = le8 - 1 := fun j e => by (rw [e, wr_at])
        refine x_aload_n C dX9_comes_47 rfl 0 rfl ?_
        refine x_get (ci := 10) (Cn := RX9) (T := TX9) (N := 29) (ref := "CairnCipherModel") C dX9_comes_48 in_X9 rfl hO 17 (by decide) (by decide +kernel) rfl rfl ?_
        refine x_iload_n C dX9_comes_51 rfl 1 rfl ?_
        refine z_iald (j := w.toNat) C dX9_comes_52 (show AI G μ70 (A 17) 3018 6 (wr (σ 17) w.toNat (le8 - 1)) from hMA.ai 17 rfl) (by omega) (by omega) (by decide) ?_
        have q_73 := hr17 w.toNat (by omega)
        refine z_if_le (tgt := 58) C dX9_comes_53 (by decide) (rg_of (by omega) (by omega)) (fun c_74 => ?_) (fun c_74 => ?_)
        · refine x_aload_n C dX9_comes_58 rfl 0 rfl ?_
          refine x_get (ci := 10) (Cn := RX9) (T := TX9) (N := 29) (ref := "CairnCipherModel") C dX9_comes_59 in_X9 rfl hO 14 (by decide) (by decide +kernel) rfl rfl ?_
          refine x_iload_n C dX9_comes_62 rfl 1 rfl ?_
          refine x_aload_n C dX9_comes_63 rfl 0 rfl ?_
          refine x_get (ci := 10) (Cn := RX9) (T := TX9) (N := 29) (ref := "CairnCipherModel") C dX9_comes_64 in_X9 rfl hO 16 (by decide) (by decide +kernel) rfl rfl ?_
          refine x_iload_n C dX9_comes_67 rfl 1 rfl ?_
          refine z_iald (j := w.toNat) C dX9_comes_68 (show AI G μ70 (A 16) 3017 6 (wr (σ 16) w.toNat st8) from hMA.ai 16 rfl) (by omega) (by omega) (by decide) ?_
          have q_75 := hr16 w.toNat (by omega)
          refine z_iast (j := w.toNat) C dX9_comes_69 (show AI G μ70 (A 14) 3015 6 (σ 14) from hMA.ai 14 rfl) (by omega) (by omega) (by decide) (fun μ76 hq78 hF77 => ?_)
          have hMAn : MA G μ76 A (su (bgS σ w.toNat go8 st8 (le8 - 1)) 14 (wr (σ 14) w.toNat ((wr (σ 16) w.toNat st8) w.toNat))) := hMA.up (k := 14) rfl hq78 hF77
          have hO := hF77.ob hO
          have hCi := hF77.ai hCi
          have hSu := hF77.ai hSu
          have hFr : Fr 3001 3030 μ μ76 := hFr.tr hF77
          have hMA := hMAn
          have e16 : wr (σ 16) w.toNat st8 w.toNat = st8 := wr_at
          have hr14 : ∀ j, j = w.toNat → (wr (σ 14) w.toNat ((wr (σ 16) w.toNat st8) w.toNat)) j = st8 := fun j e => by (rw [e, wr_at]; exact e16)
          refine x_aload_n C dX9_comes_70 rfl 0 rfl ?_
          refine x_get (ci := 10) (Cn := RX9) (T := TX9) (N := 29) (ref := "CairnCipherModel") C dX9_comes_71 in_X9 rfl hO 16 (by decide) (by decide +kernel) rfl rfl ?_
          refine x_iload_n C dX9_comes_74 rfl 1 rfl ?_
          refine z_iconst C dX9_comes_75 ?_
          refine z_iast (j := w.toNat) C dX9_comes_76 (show AI G μ76 (A 16) 3017 6 (wr (σ 16) w.toNat st8) from hMA.ai 16 rfl) (by omega) (by omega) (by decide) (fun μ79 hq81 hF80 => ?_)
          have hMAn : MA G μ79 A (su (su (bgS σ w.toNat go8 st8 (le8 - 1)) 14 (wr (σ 14) w.toNat ((wr (σ 16) w.toNat st8) w.toNat))) 16 (wr (wr (σ 16) w.toNat st8) w.toNat (-1))) := hMA.up (k := 16) rfl hq81 hF80
          have hO := hF80.ob hO
          have hCi := hF80.ai hCi
          have hSu := hF80.ai hSu
          have hFr : Fr 3001 3030 μ μ79 := hFr.tr hF80
          have hMA := hMAn
          refine x_aload_n C dX9_comes_77 rfl 0 rfl ?_
          refine x_get (ci := 10) (Cn := RX9) (T := TX9) (N := 29) (ref := "CairnCipherModel") C dX9_comes_78 in_X9 rfl hO 14 (by decide) (by decide +kernel) rfl rfl ?_
          refine x_iload_n C dX9_comes_81 rfl 1 rfl ?_
          refine z_iald (j := w.toNat) C dX9_comes_82 (show AI G μ79 (A 14) 3015 6 (wr (σ 14) w.toNat ((wr (σ 16) w.toNat st8) w.toNat)) from hMA.ai 14 rfl) (by omega) (by omega) (by decide) ?_
          have q_82 := hr14 w.toNat (by omega)
          refine x_aload_n C dX9_comes_83 rfl 0 rfl ?_
          refine x_get (ci := 10) (Cn := RX9) (T := TX9) (N := 29) (ref := "CairnCipherModel") C dX9_comes_84 in_X9 rfl hO 15 (by decide) (by decide +kernel) rfl rfl ?_
          refine x_iload_n C dX9_comes_87 rfl 1 rfl ?_
          refine z_iald (j := w.toNat) C dX9_comes_88 (show AI G μ79 (A 15) 3016 6 (wr (σ 15) w.toNat go8) from hMA.ai 15 rfl) (by omega) (by omega) (by decide) ?_
          have q_83 := hr15 w.toNat (by omega)
          refine z_icmp_ne (tgt := 96) C dX9_comes_89 (by decide) (rg_of (by omega) (by omega)) (rg_of (by omega) (by omega)) (fun c_84 => ?_) (fun c_84 => ?_)
          · refine z_iconst C dX9_comes_96 ?_
            refine x_istore_n (lv' := [(2, .int (zI 0)), (0, .ref m), (1, .int (zI w))]) C dX9_comes_97 rfl (by decide) rfl ?_
            refine x_aload_n C dX9_comes_98 rfl 1 rfl ?_
            refine x_get (ci := 10) (Cn := RX9) (T := TX9) (N := 29) (ref := "CairnCipherModel") C dX9_comes_99 in_X9 rfl hO 15 (by decide) (by decide +kernel) rfl rfl ?_
            refine x_iload_n C dX9_comes_102 rfl 2 rfl ?_
            refine x_iload_n C dX9_comes_103 rfl 0 rfl ?_
            refine z_if_eq (tgt := 111) C dX9_comes_104 (by decide) (rg_of (by omega) (by omega)) (fun c_85 => ?_) (fun c_85 => ?_)
            · refine x_aload_n C dX9_comes_111 rfl 1 rfl ?_
              refine x_get (ci := 10) (Cn := RX9) (T := TX9) (N := 29) (ref := "CairnCipherModel") C dX9_comes_112 in_X9 rfl hO 15 (by decide) (by decide +kernel) rfl rfl ?_
              refine x_iload_n C dX9_comes_115 rfl 2 rfl ?_
              refine z_iald (j := w.toNat) C dX9_comes_116 (show AI G μ79 (A 15) 3016 6 (wr (σ 15) w.toNat go8) from hMA.ai 15 rfl) (by omega) (by omega) (by decide) ?_
              have q_86 := hr15 w.toNat (by omega)
              refine z_iast (j := w.toNat) C dX9_comes_117 (show AI G μ79 (A 15) 3016 6 (wr (σ 15) w.toNat go8) from hMA.ai 15 rfl) (by omega) (by omega) (by decide) (fun μ87 hq89 hF88 => ?_)
              have hMAn : MA G μ87 A (su (su (su (bgS σ w.toNat go8 st8 (le8 - 1)) 14 (wr (σ 14) w.toNat ((wr (σ 16) w.toNat st8) w.toNat))) 16 (wr (wr (σ 16) w.toNat st8) w.toNat (-1))) 15 (wr (wr (σ 15) w.toNat go8) w.toNat ((wr (σ 15) w.toNat go8) w.toNat))) := hMA.up (k := 15) rfl hq89 hF88
              have hO := hF88.ob hO
              have hCi := hF88.ai hCi
              have hSu := hF88.ai hSu
              have hFr : Fr 3001 3030 μ μ87 := hFr.tr hF88
              have hMA := hMAn
              rw [e16] at hMA
              have e15 : wr (σ 15) w.toNat go8 w.toNat = go8 := wr_at
              rw [e15] at hMA
              have hMA : MA G μ87 A (cmS σ w.toNat st8 go8 (-1) (le8 - 1)) := by (rw [← bgS_cm2 (a := go8) (b := st8)]; exact hMA)
              refine x_iload_n C dX9_comes_118 rfl 0 rfl ?_
              exact x_zret C R dX9_comes_119 (nar_z (by omega)) (Nat.le_of_ble_eq_true rfl) (Nat.le_of_ble_eq_true rfl) (⟨_, rfl, ⟨⟨st8, go8, (-1), (le8 - 1), _, hMA, hCi, hSu, by (rw [hwb]; exact wm_of (Or.inr (Or.inr (Or.inl ⟨by omega, by omega, by omega, rfl, rfl, rfl, rfl, rfl⟩))))⟩, by omega⟩, hFr⟩)
            · exfalso; omega
          · refine z_iconst C dX9_comes_92 ?_
            refine x_goto (tgt := 97) C dX9_comes_93 (by decide) ?_
            refine x_istore_n (lv' := [(2, .int (zI 1)), (0, .ref m), (1, .int (zI w))]) C dX9_comes_97 rfl (by decide) rfl ?_
            refine x_aload_n C dX9_comes_98 rfl 1 rfl ?_
            refine x_get (ci := 10) (Cn := RX9) (T := TX9) (N := 29) (ref := "CairnCipherModel") C dX9_comes_99 in_X9 rfl hO 15 (by decide) (by decide +kernel) rfl rfl ?_
            refine x_iload_n C dX9_comes_102 rfl 2 rfl ?_
            refine x_iload_n C dX9_comes_103 rfl 0 rfl ?_
            refine z_if_eq (tgt := 111) C dX9_comes_104 (by decide) (rg_of (by omega) (by omega)) (fun c_90 => ?_) (fun c_90 => ?_)
            · exfalso; omega
            · refine z_iconst C dX9_comes_107 ?_
              refine x_goto (tgt := 117) C dX9_comes_108 (by decide) ?_
              refine z_iast (j := w.toNat) C dX9_comes_117 (show AI G μ79 (A 15) 3016 6 (wr (σ 15) w.toNat go8) from hMA.ai 15 rfl) (by omega) (by omega) (by decide) (fun μ91 hq93 hF92 => ?_)
              have hMAn : MA G μ91 A (su (su (su (bgS σ w.toNat go8 st8 (le8 - 1)) 14 (wr (σ 14) w.toNat ((wr (σ 16) w.toNat st8) w.toNat))) 16 (wr (wr (σ 16) w.toNat st8) w.toNat (-1))) 15 (wr (wr (σ 15) w.toNat go8) w.toNat (-1))) := hMA.up (k := 15) rfl hq93 hF92
              have hO := hF92.ob hO
              have hCi := hF92.ai hCi
              have hSu := hF92.ai hSu
              have hFr : Fr 3001 3030 μ μ91 := hFr.tr hF92
              have hMA := hMAn
              rw [e16] at hMA
              have hMA : MA G μ91 A (cmS σ w.toNat st8 (-1) (-1) (le8 - 1)) := by (rw [← bgS_cm2 (a := go8) (b := st8)]; exact hMA)
              refine x_iload_n C dX9_comes_118 rfl 0 rfl ?_
              exact x_zret C R dX9_comes_119 (nar_z (by omega)) (Nat.le_of_ble_eq_true rfl) (Nat.le_of_ble_eq_true rfl) (⟨_, rfl, ⟨⟨st8, (-1), (-1), (le8 - 1), _, hMA, hCi, hSu, by (rw [hwb]; exact wm_of (Or.inr (Or.inr (Or.inr ⟨by omega, by omega, by omega, rfl, rfl, rfl, rfl, rfl⟩))))⟩, by omega⟩, hFr⟩)
        · refine z_iconst C dX9_comes_56 ?_
          exact x_zret C R dX9_comes_57 (nar_z (by omega)) (Nat.le_of_ble_eq_true rfl) (Nat.le_of_ble_eq_true rfl) (⟨_, rfl, ⟨⟨σ 14 w.toNat, go8, st8, (le8 - 1), _, by (rw [cmS_0]; exact hMA), hCi, hSu, by (rw [hwb]; exact wm_of (Or.inr (Or.inl ⟨by omega, by omega, rfl, rfl, rfl, rfl, rfl⟩)))⟩, by omega⟩, hFr⟩)
      · refine z_iconst C dX9_comes_35 ?_
        exact x_zret C R dX9_comes_36 (nar_z (by omega)) (Nat.le_of_ble_eq_true rfl) (Nat.le_of_ble_eq_true rfl) (⟨_, rfl, ⟨⟨σ 14 w.toNat, go8, st8, le8, _, by (rw [cmS_0]; exact hMA), hCi, hSu, by (rw [hwb]; exact wm_of (Or.inl ⟨by omega, rfl, rfl, rfl, rfl, rfl⟩))⟩, by omega⟩, hFr⟩)
abbrev rm_X9_pass : Room := { frames := 6, cells := 0, slots := 0, locals := 141 }
set_option maxHeartbeats 4000000 in
set_option maxRecDepth 100000 in
theorem c_X9_pass (l : Launch) (hst : l.stackTraces = false) (G : GG) (z : Nat) (μ : Mm) (m : Nat) (σ : SS) (n : Nat) (th fo cm : Int) (Ci Su : Nat → Int) (A : Nat → Nat) (mm : Int) (hM9 : RepY G μ m σ th fo cm Ci Su A) (hI : Iv σ n) (hJ : Jv σ) (hmm : -2147483648 ≤ mm ∧ mm < 2147483648) : Ct l yX9_pass wsX9_pass rm_X9_pass G z [.ref m, .int (zI mm)] μ (rS (fun r9 μ' => MR G μ' m (t_pass σ mm) (b_pass σ mm (σ 12 0).toNat) σ (n_pass σ mm) r9 ∧ Fr 3000 3999 μ μ')) (nX) := by
  refine ct_of (cc := cX9_pass) (maxL := 5) (ret := (some .int)) (own := RX9) (by decide) rfl rfl hst (Nat.le_of_ble_eq_true rfl) ?_
  intro E hLl hnm C R hT
  have in_X9 : ∀ w ∈ u_ws RX9 TX9 29, w ∈ wsX9_pass := by decide +kernel
  have hM8 := hM9
  obtain ⟨hO, hMA, hCi, hSu⟩ := hM9
  have hn7 := hI.n7
  have hn12 := hI.n12
  have hn18 := hI.n18
  have hn23 := hI.n23
  have hFr : Fr 3000 3999 μ μ := Fr.rf
  refine x_eq (lv' := [(0, .ref m), (1, .int (zI mm))]) rfl rfl ?_
  refine x_aload_n C dX9_pass_0 rfl 0 rfl ?_
  refine x_iload_n C dX9_pass_1 rfl 1 rfl ?_
  refine z_iconst C dX9_pass_2 ?_
  refine z_bipush C dX9_pass_3 (by decide) ?_
  refine x_callS (n := 3) (cc9 := 0) (ss9 := 0) (rest := [.ref m]) C dX9_pass_5 (c_X9_in (kxL E) C.st G z μ mm 1 60 (by omega) (by omega) (by omega)) gX9_pass_X9_in rfl (by decide +kernel) ⟨(Nat.le_of_ble_eq_true rfl), (Nat.le_of_ble_eq_true rfl)⟩ rfl rfl (Nat.le_of_ble_eq_true rfl) rfl rfl ⟨(Nat.le_of_ble_eq_true rfl), (Nat.le_of_ble_eq_true rfl)⟩ nX_no (fun v1 μ2 hv3 => ?_)
  obtain ⟨r4, hw7, h5, hm6⟩ := hv3
  subst hw7
  rw [hm6]
  refine x_stk (stk' := [.int (zI r4), .ref m]) rfl ?_
  refine z_if_ne (tgt := 15) C dX9_pass_8 (by decide) (rg_of (by omega) (by omega)) (fun c_8 => ?_) (fun c_8 => ?_)
  · refine x_aload_n C dX9_pass_15 rfl 0 rfl ?_
    refine x_get (ci := 10) (Cn := RX9) (T := TX9) (N := 29) (ref := "CairnCipherModel") C dX9_pass_16 in_X9 rfl hO 23 (by decide) (by decide +kernel) rfl rfl ?_
    refine x_iload_n C dX9_pass_19 rfl 1 rfl ?_
    refine z_iadd C dX9_pass_20 rfl ?_
    refine z_sipush C dX9_pass_21 (by decide) ?_
    refine z_icmp_le (tgt := 31) C dX9_pass_24 (by decide) (rg_of (by omega) (by omega)) (rg_of (by omega) (by omega)) (fun c_9 => ?_) (fun c_9 => ?_)
    · refine z_iconst C dX9_pass_31 ?_
      refine z_put (ci := 10) (Cn := RX9) (T := TX9) (N := 29) (ref := "CairnCipherModel") (fs' := [.ref (A 0), .ref (A 1), .ref (A 2), .ref (A 3), .ref (A 4), .ref (A 5), .ref (A 6), .int (zI (σ 7 0)), .ref (A 8), .ref (A 9), .ref (A 10), .ref (A 11), .int (zI (σ 12 0)), .ref (A 13), .ref (A 14), .ref (A 15), .ref (A 16), .ref (A 17), .int (zI (σ 18 0)), .ref (A 19), .ref (A 20), .ref (A 21), .ref (A 22), .int (zI (σ 23 0)), .int (zI 0), .int (zI fo), .ref (A 26), .int (zI cm), .ref (A 28)]) C dX9_pass_32 in_X9 rfl tyX9 tyX9_ok nmX9 hO 24 (by decide) (by decide +kernel) rfl rfl rfl rfl rfl (Nat.le_of_ble_eq_true rfl) rfl (fun μ10 hOw hF11 => ?_)
      have hMA : MA G μ10 A σ := hF11.ma hMA
      have hCi := hF11.ai hCi
      have hSu := hF11.ai hSu
      have hFr : Fr 3000 3999 μ μ10 := hFr.tr hF11
      have hO := hOw
      refine z_iconst C dX9_pass_35 ?_
      refine x_istore_n (lv' := [(2, .int (zI 0)), (0, .ref m), (1, .int (zI mm))]) C dX9_pass_36 rfl (by decide) rfl ?_
      refine z_iconst C dX9_pass_37 ?_
      refine x_istore_n (lv' := [(3, .int (zI 0)), (2, .int (zI 0)), (0, .ref m), (1, .int (zI mm))]) C dX9_pass_38 rfl (by decide) rfl ?_
      have L39 : ∀ (M9 : Nat) (μt : Mm) (t : Nat) (tz : Int) (htz : tz = (t : Int)) (many : Int) (St : Nat → Int) (hO : OB μt m 3000 10 [.ref (A 0), .ref (A 1), .ref (A 2), .ref (A 3), .ref (A 4), .ref (A 5), .ref (A 6), .int (zI (σ 7 0)), .ref (A 8), .ref (A 9), .ref (A 10), .ref (A 11), .int (zI (σ 12 0)), .ref (A 13), .ref (A 14), .ref (A 15), .ref (A 16), .ref (A 17), .int (zI (σ 18 0)), .ref (A 19), .ref (A 20), .ref (A 21), .ref (A 22), .int (zI ((σ 23 0) + (t : Int))), .int (zI 0), .int (zI fo), .ref (A 26), .int (zI cm), .ref (A 28)]) (hMA : MA G μt A (psS σ t 0)) (hCi : AI G μt (A 26) 3027 12 Ci) (hSu : AI G μt (A 28) 3029 64 St) (hFr : Fr 3000 3999 μ μt) (ht : (t : Int) ≤ mm) (hmy : many = pS σ t 0) (hmr : 0 ≤ many ∧ many ≤ 6 * t) (hM9 : mm.toNat - t = M9), Wx E G 0 0 39 [(3, .int (zI tz)), (2, .int (zI many)), (0, .ref m), (1, .int (zI mm))] [] μt := by
        intro M9
        induction M9 using Nat.strongRecOn with
        | ind M9 ih39 =>
          intro μt t tz htz many St hO hMA hCi hSu hFr ht hmy hmr hM9
          subst htz
          refine x_iload_n C dX9_pass_39 rfl 0 rfl ?_
          refine x_iload_n C dX9_pass_40 rfl 3 rfl ?_
          refine z_icmp_ge (tgt := 102) C dX9_pass_41 (by decide) (rg_of (by omega) (by omega)) (rg_of (by omega) (by omega)) (fun c_12 => ?_) (fun c_12 => ?_)
          · refine x_iload_n C dX9_pass_102 rfl 1 rfl ?_
            exact x_iret C R dX9_pass_103 (Nat.le_of_ble_eq_true rfl) (Nat.le_of_ble_eq_true rfl) ((by (have et : (t : Int) = mm := (by omega); obtain rfl : t = mm.toNat := (by omega); rw [et] at hO; exact ⟨_, rfl, ⟨Or.inl ⟨by (unfold t_pass; (repeat split) <;> omega), by (rw [hmy]; exact pS_pass _), ⟨_, _, _, _, _, hO, MA.sc hMA (by decide), hCi, hSu⟩⟩, hFr⟩⟩)))
          · refine x_aload_n C dX9_pass_44 rfl 2 rfl ?_
            refine x_get (ci := 10) (Cn := RX9) (T := TX9) (N := 29) (ref := "CairnCipherModel") C dX9_pass_45 in_X9 rfl hO 24 (by decide) (by decide +kernel) rfl rfl ?_
            refine z_if_ne (tgt := 102) C dX9_pass_48 (by decide) (rg_of (by omega) (by omega)) (fun c_13 => ?_) (fun c_13 => ?_)
            · exfalso; omega
            · refine x_aload_n C dX9_pass_51 rfl 2 rfl ?_
              refine x_dup C dX9_pass_52 rfl ?_
              refine x_get (ci := 10) (Cn := RX9) (T := TX9) (N := 29) (ref := "CairnCipherModel") C dX9_pass_53 in_X9 rfl hO 23 (by decide) (by decide +kernel) rfl rfl ?_
              refine z_iconst C dX9_pass_56 ?_
              refine z_iadd C dX9_pass_57 rfl ?_
              refine z_put (ci := 10) (Cn := RX9) (T := TX9) (N := 29) (ref := "CairnCipherModel") (fs' := [.ref (A 0), .ref (A 1), .ref (A 2), .ref (A 3), .ref (A 4), .ref (A 5), .ref (A 6), .int (zI (σ 7 0)), .ref (A 8), .ref (A 9), .ref (A 10), .ref (A 11), .int (zI (σ 12 0)), .ref (A 13), .ref (A 14), .ref (A 15), .ref (A 16), .ref (A 17), .int (zI (σ 18 0)), .ref (A 19), .ref (A 20), .ref (A 21), .ref (A 22), .int (zI (((σ 23 0) + (t : Int)) + 1)), .int (zI 0), .int (zI fo), .ref (A 26), .int (zI cm), .ref (A 28)]) C dX9_pass_58 in_X9 rfl tyX9 tyX9_ok nmX9 hO 23 (by decide) (by decide +kernel) rfl rfl rfl rfl rfl (Nat.le_of_ble_eq_true rfl) rfl (fun μ14 hOw hF15 => ?_)
              have hMA : MA G μ14 A (psS σ t 0) := hF15.ma hMA
              have hCi := hF15.ai hCi
              have hSu := hF15.ai hSu
              have hFr : Fr 3000 3999 μ μ14 := hFr.tr hF15
              have hO := hOw
              refine z_iconst C dX9_pass_61 ?_
              refine x_istore (lv' := [(4, .int (zI 0)), (3, .int (zI (t : Int))), (2, .int (zI many)), (0, .ref m), (1, .int (zI mm))]) C dX9_pass_62 (by decide) rfl ?_
              have L64 : ∀ (M9 : Nat) (μv : Mm) (v : Nat) (vz : Int) (hvz : vz = (v : Int)) (many : Int) (Sv : Nat → Int) (hO : OB μv m 3000 10 [.ref (A 0), .ref (A 1), .ref (A 2), .ref (A 3), .ref (A 4), .ref (A 5), .ref (A 6), .int (zI (σ 7 0)), .ref (A 8), .ref (A 9), .ref (A 10), .ref (A 11), .int (zI (σ 12 0)), .ref (A 13), .ref (A 14), .ref (A 15), .ref (A 16), .ref (A 17), .int (zI (σ 18 0)), .ref (A 19), .ref (A 20), .ref (A 21), .ref (A 22), .int (zI (((σ 23 0) + (t : Int)) + 1)), .int (zI 0), .int (zI fo), .ref (A 26), .int (zI cm), .ref (A 28)]) (hMA : MA G μv A (psS σ t v)) (hCi : AI G μv (A 26) 3027 12 Ci) (hSu : AI G μv (A 28) 3029 64 Sv) (hFr : Fr 3000 3999 μ μv) (hv : v ≤ (σ 12 0).toNat) (hmy : many = pS σ t v) (hmr : 0 ≤ many ∧ many ≤ 6 * t + v) (hM9 : (σ 12 0).toNat - v = M9), Wx E G 0 0 64 [(4, .int (zI vz)), (3, .int (zI (t : Int))), (2, .int (zI many)), (0, .ref m), (1, .int (zI mm))] [] μv := by
                intro M9
                induction M9 using Nat.strongRecOn with
                | ind M9 ih64 =>
                  intro μv v vz hvz many Sv hO hMA hCi hSu hFr hv hmy hmr hM9
                  subst hvz
                  refine x_iload C dX9_pass_64 0 rfl ?_
                  refine x_aload_n C dX9_pass_66 rfl 3 rfl ?_
                  refine x_get (ci := 10) (Cn := RX9) (T := TX9) (N := 29) (ref := "CairnCipherModel") C dX9_pass_67 in_X9 rfl hO 12 (by decide) (by decide +kernel) rfl rfl ?_
                  refine z_icmp_ge (tgt := 96) C dX9_pass_70 (by decide) (rg_of (by omega) (by omega)) (rg_of (by omega) (by omega)) (fun c_16 => ?_) (fun c_16 => ?_)
                  · refine z_iinc (lv' := [(3, .int (zI ((t : Int) + 1))), (4, .int (zI (v : Int))), (2, .int (zI many)), (0, .ref m), (1, .int (zI mm))]) C dX9_pass_96 1 rfl rfl (by decide) rfl ?_
                    refine x_goto (tgt := 39) C dX9_pass_99 (by decide) ?_
                    refine x_sub (lv' := [(3, .int (zI ((t : Int) + 1))), (2, .int (zI many)), (0, .ref m), (1, .int (zI mm))]) [0, 2, 3, 4] rfl ?_
                    have hMA : MA G μv A (psS σ (t + 1) 0) := by (rw [← psS_nx]; (obtain rfl : v = (σ 12 0).toNat := by omega); exact hMA)
                    have hO : OB μv m 3000 10 [.ref (A 0), .ref (A 1), .ref (A 2), .ref (A 3), .ref (A 4), .ref (A 5), .ref (A 6), .int (zI (σ 7 0)), .ref (A 8), .ref (A 9), .ref (A 10), .ref (A 11), .int (zI (σ 12 0)), .ref (A 13), .ref (A 14), .ref (A 15), .ref (A 16), .ref (A 17), .int (zI (σ 18 0)), .ref (A 19), .ref (A 20), .ref (A 21), .ref (A 22), .int (zI ((σ 23 0) + ((t + 1 : Nat) : Int))), .int (zI 0), .int (zI fo), .ref (A 26), .int (zI cm), .ref (A 28)] := by (rw [show σ 23 0 + ((t + 1 : Nat) : Int) = σ 23 0 + (t : Int) + 1 by omega]; exact hO)
                    exact ih39 _ (by omega) _ (t + 1) _ (by omega) _ _ hO hMA hCi hSu hFr (by omega) (by (rw [← pS_nx]; (obtain rfl : v = (σ 12 0).toNat := by omega); exact hmy)) (by omega) rfl
                  · refine x_iload_n C dX9_pass_73 rfl 2 rfl ?_
                    refine x_aload_n C dX9_pass_74 rfl 3 rfl ?_
                    refine x_iload C dX9_pass_75 0 rfl ?_
                    have hIp := Iv_23 (f := (fun _ => σ 23 0 + (t : Int) + 1)) (Iv_ps hI hJ t v) (by (show (0 : Int) ≤ σ 23 0 + (t : Int) + 1 ∧ σ 23 0 + (t : Int) + 1 ≤ 5000; omega))
                    have htp := tp_ok hI hJ (w := v) (by omega) t
                    refine x_callV (n := 1) (ci := 10) (Cn := RX9) (T := TX9) (N := 29) (cc9 := 0) (ss9 := 0) (rest := [.int (zI many)]) C dX9_pass_77 (c_X9_comes (kxL E) C.st G z μv _ (su (psS σ t v) 23 (fun _ => σ 23 0 + (t : Int) + 1)) _ _ _ _ _ _ _ (v : Int) ⟨hO, hMA.sc (by decide), hCi, hSu⟩ hIp (by omega) ⟨htp.2.1, htp.2.2⟩ (psS_ok hI hJ (by omega))) gX9_pass_X9_comes rfl (by decide +kernel) ⟨(Nat.le_of_ble_eq_true rfl), (Nat.le_of_ble_eq_true rfl)⟩ rfl ⟨_, _, hO⟩ rfl rfl (Nat.le_of_ble_eq_true rfl) rfl rfl ⟨(Nat.le_of_ble_eq_true rfl), (Nat.le_of_ble_eq_true rfl)⟩ nX_no (fun v17 μ18 hv19 => ?_)
                    obtain ⟨r20, hw23, h21⟩ := hv19
                    subst hw23
                    obtain ⟨⟨⟨pl9, go9, st9, le9, Sn9, hMA, hCi, hSu, hwm9⟩, hr01⟩, hF9⟩ := h21
                    have hF24 := hF9
                    have hO := hF24.ob hO
                    have hFr : Fr 3000 3999 μ μ18 := hFr.tr hF24
                    have hwm8 : wm (wb (psS σ t v) ((psS σ t v) 13 v) ((psS σ t v) 14 v, (psS σ t v) 15 v, (psS σ t v) 16 v, (psS σ t v) 17 v)) = ((pl9, go9, st9, le9), r20) := hwm9
                    have hps := psS_s (by omega) hwm8
                    have hpm := pS_s (by omega) hwm8
                    have hMA : MA G μ18 A (psS σ t (v + 1)) := by (rw [cmS_23] at hMA; rw [← hps]; exact hMA.un23)
                    refine x_stk (stk' := [.int (zI r20), .int (zI many)]) rfl ?_
                    refine z_if_eq (tgt := 87) C dX9_pass_80 (by decide) (rg_of (by omega) (by omega)) (fun c_25 => ?_) (fun c_25 => ?_)
                    · refine z_iconst C dX9_pass_87 ?_
                      refine z_iadd C dX9_pass_88 rfl ?_
                      refine x_istore_n (lv' := [(2, .int (zI (many + 0))), (4, .int (zI (v : Int))), (3, .int (zI (t : Int))), (0, .ref m), (1, .int (zI mm))]) C dX9_pass_89 rfl (by decide) rfl ?_
                      refine z_iinc (lv' := [(4, .int (zI ((v : Int) + 1))), (2, .int (zI (many + 0))), (3, .int (zI (t : Int))), (0, .ref m), (1, .int (zI mm))]) C dX9_pass_90 1 rfl rfl (by decide) rfl ?_
                      refine x_goto (tgt := 64) C dX9_pass_93 (by decide) ?_
                      refine x_sub (lv' := [(4, .int (zI ((v : Int) + 1))), (3, .int (zI (t : Int))), (2, .int (zI (many + 0))), (0, .ref m), (1, .int (zI mm))]) [0, 2, 1, 3, 4] rfl ?_
                      exact ih64 _ (by omega) _ (v + 1) _ (by omega) _ _ hO hMA hCi hSu hFr (by omega) (by omega) (by omega) rfl
                    · refine z_iconst C dX9_pass_83 ?_
                      refine x_goto (tgt := 88) C dX9_pass_84 (by decide) ?_
                      refine z_iadd C dX9_pass_88 rfl ?_
                      refine x_istore_n (lv' := [(2, .int (zI (many + 1))), (4, .int (zI (v : Int))), (3, .int (zI (t : Int))), (0, .ref m), (1, .int (zI mm))]) C dX9_pass_89 rfl (by decide) rfl ?_
                      refine z_iinc (lv' := [(4, .int (zI ((v : Int) + 1))), (2, .int (zI (many + 1))), (3, .int (zI (t : Int))), (0, .ref m), (1, .int (zI mm))]) C dX9_pass_90 1 rfl rfl (by decide) rfl ?_
                      refine x_goto (tgt := 64) C dX9_pass_93 (by decide) ?_
                      refine x_sub (lv' := [(4, .int (zI ((v : Int) + 1))), (3, .int (zI (t : Int))), (2, .int (zI (many + 1))), (0, .ref m), (1, .int (zI mm))]) [0, 2, 1, 3, 4] rfl ?_
                      exact ih64 _ (by omega) _ (v + 1) _ (by omega) _ _ hO hMA hCi hSu hFr (by omega) (by omega) (by omega) rfl
              exact L64 _ _ (0) _ (by omega) _ _ hO hMA hCi hSu hFr (by omega) (by omega) (by omega) rfl
      have hMA : MA G μ10 A (psS σ 0 0) := by (rw [psS_0]; exact hMA)
      have hO : OB μ10 m 3000 10 [.ref (A 0), .ref (A 1), .ref (A 2), .ref (A 3), .ref (A 4), .ref (A 5), .ref (A 6), .int (zI (σ 7 0)), .ref (A 8), .ref (A 9), .ref (A 10), .ref (A 11), .int (zI (σ 12 0)), .ref (A 13), .ref (A 14), .ref (A 15), .ref (A 16), .ref (A 17), .int (zI (σ 18 0)), .ref (A 19), .ref (A 20), .ref (A 21), .ref (A 22), .int (zI ((σ 23 0) + ((0 : Nat) : Int))), .int (zI 0), .int (zI fo), .ref (A 26), .int (zI cm), .ref (A 28)] := by (rw [show σ 23 0 + ((0 : Nat) : Int) = σ 23 0 by omega]; exact hO)
      exact L39 _ _ (0) _ (by omega) _ _ hO hMA hCi hSu hFr (by omega) (by (unfold pS; exact Eq.symm (sm_0 (fun w _ => rfl)))) (by omega) rfl
    · refine z_iconst C dX9_pass_27 ?_
      refine x_goto (tgt := 32) C dX9_pass_28 (by decide) ?_
      refine z_put (ci := 10) (Cn := RX9) (T := TX9) (N := 29) (ref := "CairnCipherModel") (fs' := [.ref (A 0), .ref (A 1), .ref (A 2), .ref (A 3), .ref (A 4), .ref (A 5), .ref (A 6), .int (zI (σ 7 0)), .ref (A 8), .ref (A 9), .ref (A 10), .ref (A 11), .int (zI (σ 12 0)), .ref (A 13), .ref (A 14), .ref (A 15), .ref (A 16), .ref (A 17), .int (zI (σ 18 0)), .ref (A 19), .ref (A 20), .ref (A 21), .ref (A 22), .int (zI (σ 23 0)), .int (zI 2), .int (zI fo), .ref (A 26), .int (zI cm), .ref (A 28)]) C dX9_pass_32 in_X9 rfl tyX9 tyX9_ok nmX9 hO 24 (by decide) (by decide +kernel) rfl rfl rfl rfl rfl (Nat.le_of_ble_eq_true rfl) rfl (fun μ26 hOw hF27 => ?_)
      have hMA : MA G μ26 A σ := hF27.ma hMA
      have hCi := hF27.ai hCi
      have hSu := hF27.ai hSu
      have hFr : Fr 3000 3999 μ μ26 := hFr.tr hF27
      have hO := hOw
      refine z_iconst C dX9_pass_35 ?_
      refine x_istore_n (lv' := [(2, .int (zI 0)), (0, .ref m), (1, .int (zI mm))]) C dX9_pass_36 rfl (by decide) rfl ?_
      refine z_iconst C dX9_pass_37 ?_
      refine x_istore_n (lv' := [(3, .int (zI 0)), (2, .int (zI 0)), (0, .ref m), (1, .int (zI mm))]) C dX9_pass_38 rfl (by decide) rfl ?_
      refine x_iload_n C dX9_pass_39 rfl 0 rfl ?_
      refine x_iload_n C dX9_pass_40 rfl 3 rfl ?_
      refine z_icmp_ge (tgt := 102) C dX9_pass_41 (by decide) (rg_of (by omega) (by omega)) (rg_of (by omega) (by omega)) (fun c_28 => ?_) (fun c_28 => ?_)
      · refine x_iload_n C dX9_pass_102 rfl 1 rfl ?_
        exact x_iret C R dX9_pass_103 (Nat.le_of_ble_eq_true rfl) (Nat.le_of_ble_eq_true rfl) (⟨_, rfl, ⟨Or.inr ⟨by (rw [show t_pass σ mm = 2 from by (unfold t_pass; (repeat split) <;> omega)]; omega), by (rw [show t_pass σ mm = 2 from by (unfold t_pass; (repeat split) <;> omega)]; exact ⟨_, _, _, _, _, hO, hMA, hCi, hSu⟩)⟩, hFr⟩⟩)
      · refine x_aload_n C dX9_pass_44 rfl 2 rfl ?_
        refine x_get (ci := 10) (Cn := RX9) (T := TX9) (N := 29) (ref := "CairnCipherModel") C dX9_pass_45 in_X9 rfl hO 24 (by decide) (by decide +kernel) rfl rfl ?_
        refine z_if_ne (tgt := 102) C dX9_pass_48 (by decide) (rg_of (by omega) (by omega)) (fun c_29 => ?_) (fun c_29 => ?_)
        · refine x_iload_n C dX9_pass_102 rfl 1 rfl ?_
          exact x_iret C R dX9_pass_103 (Nat.le_of_ble_eq_true rfl) (Nat.le_of_ble_eq_true rfl) (⟨_, rfl, ⟨Or.inr ⟨by (rw [show t_pass σ mm = 2 from by (unfold t_pass; (repeat split) <;> omega)]; omega), by (rw [show t_pass σ mm = 2 from by (unfold t_pass; (repeat split) <;> omega)]; exact ⟨_, _, _, _, _, hO, hMA, hCi, hSu⟩)⟩, hFr⟩⟩)
        · exfalso; omega
  · refine z_iconst C dX9_pass_11 ?_
    refine x_goto (tgt := 32) C dX9_pass_12 (by decide) ?_
    refine z_put (ci := 10) (Cn := RX9) (T := TX9) (N := 29) (ref := "CairnCipherModel") (fs' := [.ref (A 0), .ref (A 1), .ref (A 2), .ref (A 3), .ref (A 4), .ref (A 5), .ref (A 6), .int (zI (σ 7 0)), .ref (A 8), .ref (A 9), .ref (A 10), .ref (A 11), .int (zI (σ 12 0)), .ref (A 13), .ref (A 14), .ref (A 15), .ref (A 16), .ref (A 17), .int (zI (σ 18 0)), .ref (A 19), .ref (A 20), .ref (A 21), .ref (A 22), .int (zI (σ 23 0)), .int (zI 1), .int (zI fo), .ref (A 26), .int (zI cm), .ref (A 28)]) C dX9_pass_32 in_X9 rfl tyX9 tyX9_ok nmX9 hO 24 (by decide) (by decide +kernel) rfl rfl rfl rfl rfl (Nat.le_of_ble_eq_true rfl) rfl (fun μ30 hOw hF31 => ?_)
    have hMA : MA G μ30 A σ := hF31.ma hMA
    have hCi := hF31.ai hCi
    have hSu := hF31.ai hSu
    have hFr : Fr 3000 3999 μ μ30 := hFr.tr hF31
    have hO := hOw
    refine z_iconst C dX9_pass_35 ?_
    refine x_istore_n (lv' := [(2, .int (zI 0)), (0, .ref m), (1, .int (zI mm))]) C dX9_pass_36 rfl (by decide) rfl ?_
    refine z_iconst C dX9_pass_37 ?_
    refine x_istore_n (lv' := [(3, .int (zI 0)), (2, .int (zI 0)), (0, .ref m), (1, .int (zI mm))]) C dX9_pass_38 rfl (by decide) rfl ?_
    refine x_iload_n C dX9_pass_39 rfl 0 rfl ?_
    refine x_iload_n C dX9_pass_40 rfl 3 rfl ?_
    refine z_icmp_ge (tgt := 102) C dX9_pass_41 (by decide) (rg_of (by omega) (by omega)) (rg_of (by omega) (by omega)) (fun c_32 => ?_) (fun c_32 => ?_)
    · refine x_iload_n C dX9_pass_102 rfl 1 rfl ?_
      exact x_iret C R dX9_pass_103 (Nat.le_of_ble_eq_true rfl) (Nat.le_of_ble_eq_true rfl) (⟨_, rfl, ⟨Or.inr ⟨by (rw [show t_pass σ mm = 1 from by (unfold t_pass; (repeat split) <;> omega)]; omega), by (rw [show t_pass σ mm = 1 from by (unfold t_pass; (repeat split) <;> omega)]; exact ⟨_, _, _, _, _, hO, hMA, hCi, hSu⟩)⟩, hFr⟩⟩)
    · refine x_aload_n C dX9_pass_44 rfl 2 rfl ?_
      refine x_get (ci := 10) (Cn := RX9) (T := TX9) (N := 29) (ref := "CairnCipherModel") C dX9_pass_45 in_X9 rfl hO 24 (by decide) (by decide +kernel) rfl rfl ?_
      refine z_if_ne (tgt := 102) C dX9_pass_48 (by decide) (rg_of (by omega) (by omega)) (fun c_33 => ?_) (fun c_33 => ?_)
      · refine x_iload_n C dX9_pass_102 rfl 1 rfl ?_
        exact x_iret C R dX9_pass_103 (Nat.le_of_ble_eq_true rfl) (Nat.le_of_ble_eq_true rfl) (⟨_, rfl, ⟨Or.inr ⟨by (rw [show t_pass σ mm = 1 from by (unfold t_pass; (repeat split) <;> omega)]; omega), by (rw [show t_pass σ mm = 1 from by (unfold t_pass; (repeat split) <;> omega)]; exact ⟨_, _, _, _, _, hO, hMA, hCi, hSu⟩)⟩, hFr⟩⟩)
      · exfalso; omega
