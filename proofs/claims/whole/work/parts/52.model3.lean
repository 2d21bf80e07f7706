abbrev rm_X9_solvedMany : Room := { frames := 0, cells := 0, slots := 0, locals := 0 }
set_option maxHeartbeats 4000000 in
set_option maxRecDepth 100000 in
theorem c_X9_solvedMany (l : Launch) (hst : l.stackTraces = false) (G : GG) (z : Nat) (μ : Mm) (m : Nat) (σ : SS) (n : Nat) (th fo cm : Int) (Ci Su : Nat → Int) (A : Nat → Nat) (w : Int) (hM9 : RepY G μ m σ th fo cm Ci Su A) (hI : Iv σ n) (hw : 0 ≤ w ∧ w < 6) : Ct l yX9_solvedMany wsX9_solvedMany rm_X9_solvedMany G z [.ref m, .int (zI w)] μ (rP μ (fun r9 => r9 = b_solved σ w.toNat)) (nX) := by
  refine ct_of (cc := cX9_solvedMany) (maxL := 4) (ret := (some .int)) (own := RX9) (by decide) rfl rfl hst (Nat.le_of_ble_eq_true rfl) ?_
  intro E hLl hnm C R hT
  have in_X9 : ∀ w ∈ u_ws RX9 TX9 29, w ∈ wsX9_solvedMany := by decide +kernel
  have hM8 := hM9
  obtain ⟨hO, hMA, hCi, hSu⟩ := hM9
  have hn7 := hI.n7
  have hn12 := hI.n12
  have hn18 := hI.n18
  have hn23 := hI.n23
  refine x_eq (lv' := [(0, .ref m), (1, .int (zI w))]) rfl rfl ?_
  refine z_iconst C dX9_solvedMany_0 ?_
  refine x_istore_n (lv' := [(2, .int (zI 0)), (0, .ref m), (1, .int (zI w))]) C dX9_solvedMany_1 rfl (by decide) rfl ?_
  refine z_iconst C dX9_solvedMany_2 ?_
  refine x_istore_n (lv' := [(3, .int (zI 0)), (2, .int (zI 0)), (0, .ref m), (1, .int (zI w))]) C dX9_solvedMany_3 rfl (by decide) rfl ?_
  have L4 : ∀ (M9 : Nat) (k : Nat) (kz : Int) (hkz : kz = (k : Int)) (s : Int) (hk : k ≤ (σ 7 0).toNat) (hs : s = sm (fun s => σ 20 (6 * w.toNat + s)) k) (hsr : 0 ≤ s ∧ s ≤ k) (hM9 : (σ 7 0).toNat - k = M9), Wx E G 0 0 4 [(3, .int (zI kz)), (2, .int (zI s)), (0, .ref m), (1, .int (zI w))] [] μ := by
    intro M9
    induction M9 using Nat.strongRecOn with
    | ind M9 ih4 =>
      intro k kz hkz s hk hs hsr hM9
      subst hkz
      have ew : ((6 * w) + (k : Int)).toNat = 6 * w.toNat + k := by omega
      refine x_iload_n C dX9_solvedMany_4 rfl 0 rfl ?_
      refine x_aload_n C dX9_solvedMany_5 rfl 2 rfl ?_
      refine x_get (ci := 10) (Cn := RX9) (T := TX9) (N := 29) (ref := "CairnCipherModel") C dX9_solvedMany_6 in_X9 rfl hO 7 (by decide) (by decide +kernel) rfl rfl ?_
      refine z_icmp_ge (tgt := 40) C dX9_solvedMany_9 (by decide) (rg_of (by omega) (by omega)) (rg_of (by omega) (by omega)) (fun c_1 => ?_) (fun c_1 => ?_)
      · refine x_iload_n C dX9_solvedMany_40 rfl 1 rfl ?_
        exact x_iret C R dX9_solvedMany_41 (Nat.le_of_ble_eq_true rfl) (Nat.le_of_ble_eq_true rfl) (⟨_, rfl, by (unfold b_solved; rw [hs, show k = (σ 7 0).toNat by omega]), rfl⟩)
      · refine x_iload_n C dX9_solvedMany_12 rfl 1 rfl ?_
        refine x_aload_n C dX9_solvedMany_13 rfl 2 rfl ?_
        refine x_get (ci := 10) (Cn := RX9) (T := TX9) (N := 29) (ref := "CairnCipherModel") C dX9_solvedMany_14 in_X9 rfl hO 20 (by decide) (by decide +kernel) rfl rfl ?_
        refine z_bipush C dX9_solvedMany_17 (by decide) ?_
        refine x_iload_n C dX9_solvedMany_19 rfl 3 rfl ?_
        refine z_imul C dX9_solvedMany_20 rfl ?_
        refine x_iload_n C dX9_solvedMany_21 rfl 0 rfl ?_
        refine z_iadd C dX9_solvedMany_22 rfl ?_
        refine z_zald (j := ((6 * w) + (k : Int)).toNat) C dX9_solvedMany_23 (show AZ G μ (A 20) 3021 36 (σ 20) from hMA.az 20 rfl) (by omega) (by omega) (by decide) ?_
        have q_2 := hI.r20 (((6 * w) + (k : Int)).toNat) (by omega)
        refine z_if_eq (tgt := 31) C dX9_solvedMany_24 (by decide) (rg_of (by omega) (by omega)) (fun c_3 => ?_) (fun c_3 => ?_)
        · refine z_iconst C dX9_solvedMany_31 ?_
          refine z_iadd C dX9_solvedMany_32 rfl ?_
          refine x_istore_n (lv' := [(2, .int (zI (s + 0))), (3, .int (zI (k : Int))), (0, .ref m), (1, .int (zI w))]) C dX9_solvedMany_33 rfl (by decide) rfl ?_
          refine z_iinc (lv' := [(3, .int (zI ((k : Int) + 1))), (2, .int (zI (s + 0))), (0, .ref m), (1, .int (zI w))]) C dX9_solvedMany_34 1 rfl rfl (by decide) rfl ?_
          refine x_goto (tgt := 4) C dX9_solvedMany_37 (by decide) ?_
          exact ih4 _ (by omega) (k + 1) _ (by omega) _ (by omega) (by rw [show sm (fun s => σ 20 (6 * w.toNat + s)) (k + 1) = sm (fun s => σ 20 (6 * w.toNat + s)) k + σ 20 (6 * w.toNat + k) from rfl, ← ew]; omega) (by omega) rfl
        · refine z_iconst C dX9_solvedMany_27 ?_
          refine x_goto (tgt := 32) C dX9_solvedMany_28 (by decide) ?_
          refine z_iadd C dX9_solvedMany_32 rfl ?_
          refine x_istore_n (lv' := [(2, .int (zI (s + 1))), (3, .int (zI (k : Int))), (0, .ref m), (1, .int (zI w))]) C dX9_solvedMany_33 rfl (by decide) rfl ?_
          refine z_iinc (lv' := [(3, .int (zI ((k : Int) + 1))), (2, .int (zI (s + 1))), (0, .ref m), (1, .int (zI w))]) C dX9_solvedMany_34 1 rfl rfl (by decide) rfl ?_
          refine x_goto (tgt := 4) C dX9_solvedMany_37 (by decide) ?_
          exact ih4 _ (by omega) (k + 1) _ (by omega) _ (by omega) (by rw [show sm (fun s => σ 20 (6 * w.toNat + s)) (k + 1) = sm (fun s => σ 20 (6 * w.toNat + s)) k + σ 20 (6 * w.toNat + k) from rfl, ← ew]; omega) (by omega) rfl
  exact L4 _ (0) _ (by omega) _ (by omega) rfl (by omega) rfl
abbrev rm_X9_isWord : Room := { frames := 0, cells := 0, slots := 0, locals := 0 }
set_option maxHeartbeats 4000000 in
set_option maxRecDepth 100000 in
theorem c_X9_isWord (l : Launch) (hst : l.stackTraces = false) (G : GG) (z : Nat) (μ : Mm) (m : Nat) (σ : SS) (n : Nat) (th fo cm : Int) (Ci Su : Nat → Int) (A : Nat → Nat) (s : Int) (hM9 : RepY G μ m σ th fo cm Ci Su A) (hI : Iv σ n) (hs : 0 ≤ s ∧ s < 6) : Ct l yX9_isWord wsX9_isWord rm_X9_isWord G z [.ref m, .int (zI s)] μ (rP μ (fun r9 => r9 = isWd σ s.toNat ∧ (r9 = 0 ∨ r9 = 1))) (nX) := by
  refine ct_of (cc := cX9_isWord) (maxL := 5) (ret := (some .boolean)) (own := RX9) (by decide) rfl rfl hst (Nat.le_of_ble_eq_true rfl) ?_
  intro E hLl hnm C R hT
  have in_X9 : ∀ w ∈ u_ws RX9 TX9 29, w ∈ wsX9_isWord := by decide +kernel
  have hM8 := hM9
  obtain ⟨hO, hMA, hCi, hSu⟩ := hM9
  have hn7 := hI.n7
  have hn12 := hI.n12
  have hn18 := hI.n18
  have hn23 := hI.n23
  have es : (s + 1).toNat = s.toNat + 1 := by omega
  have hl0 := hI.r11 0 (by decide)
  have hl1 := hI.r11 (s.toNat + 1) (by omega)
  have eln : (ln σ 0 : Int) = σ 11 0 := by (unfold ln; omega)
  refine x_eq (lv' := [(0, .ref m), (1, .int (zI s))]) rfl rfl ?_
  refine x_iload_n C dX9_isWord_0 rfl 1 rfl ?_
  refine z_iconst C dX9_isWord_1 ?_
  refine z_iadd C dX9_isWord_2 rfl ?_
  refine x_istore_n (lv' := [(2, .int (zI (s + 1))), (0, .ref m), (1, .int (zI s))]) C dX9_isWord_3 rfl (by decide) rfl ?_
  refine x_aload_n C dX9_isWord_4 rfl 1 rfl ?_
  refine x_get (ci := 10) (Cn := RX9) (T := TX9) (N := 29) (ref := "CairnCipherModel") C dX9_isWord_5 in_X9 rfl hO 11 (by decide) (by decide +kernel) rfl rfl ?_
  refine z_iconst C dX9_isWord_8 ?_
  refine z_iald (j := 0) C dX9_isWord_9 (show AI G μ (A 11) 3012 7 (σ 11) from hMA.ai 11 rfl) (by omega) (by omega) (by decide) ?_
  have q_1 := hI.r11 0 (by omega)
  refine x_aload_n C dX9_isWord_10 rfl 1 rfl ?_
  refine x_get (ci := 10) (Cn := RX9) (T := TX9) (N := 29) (ref := "CairnCipherModel") C dX9_isWord_11 in_X9 rfl hO 11 (by decide) (by decide +kernel) rfl rfl ?_
  refine x_iload_n C dX9_isWord_14 rfl 0 rfl ?_
  refine z_iald (j := (s + 1).toNat) C dX9_isWord_15 (show AI G μ (A 11) 3012 7 (σ 11) from hMA.ai 11 rfl) (by omega) (by omega) (by decide) ?_
  have q_2 := hI.r11 ((s + 1).toNat) (by omega)
  refine z_icmp_ne (tgt := 23) C dX9_isWord_16 (by decide) (rg_of (by omega) (by omega)) (rg_of (by omega) (by omega)) (fun c_3 => ?_) (fun c_3 => ?_)
  · refine z_iconst C dX9_isWord_23 ?_
    refine x_istore_n (lv' := [(3, .int (zI 0)), (2, .int (zI (s + 1))), (0, .ref m), (1, .int (zI s))]) C dX9_isWord_24 rfl (by decide) rfl ?_
    have hwd : WdI σ s.toNat 0 0 := WdI_0 (by (rw [es] at *; omega))
    refine z_iconst C dX9_isWord_25 ?_
    refine x_istore (lv' := [(4, .int (zI 0)), (3, .int (zI 0)), (2, .int (zI (s + 1))), (0, .ref m), (1, .int (zI s))]) C dX9_isWord_26 (by decide) rfl ?_
    have L28 : ∀ (M9 : Nat) (k : Nat) (kz : Int) (hkz : kz = (k : Int)) (i9 : Int) (hk : k ≤ ln σ 0) (hi : WdI σ s.toNat k i9) (hM9 : ln σ 0 - k = M9), Wx E G 0 0 28 [(4, .int (zI kz)), (3, .int (zI i9)), (2, .int (zI (s + 1))), (0, .ref m), (1, .int (zI s))] [] μ := by
      intro M9
      induction M9 using Nat.strongRecOn with
      | ind M9 ih28 =>
        intro k kz hkz i9 hk hi hM9
        subst hkz
        have hir := hi.rg
        have ew : ((5 * (s + 1)) + (k : Int)).toNat = 5 * (s.toNat + 1) + k := by omega
        refine x_iload C dX9_isWord_28 0 rfl ?_
        refine x_aload_n C dX9_isWord_30 rfl 3 rfl ?_
        refine x_get (ci := 10) (Cn := RX9) (T := TX9) (N := 29) (ref := "CairnCipherModel") C dX9_isWord_31 in_X9 rfl hO 11 (by decide) (by decide +kernel) rfl rfl ?_
        refine z_iconst C dX9_isWord_34 ?_
        refine z_iald (j := 0) C dX9_isWord_35 (show AI G μ (A 11) 3012 7 (σ 11) from hMA.ai 11 rfl) (by omega) (by omega) (by decide) ?_
        have q_4 := hI.r11 0 (by omega)
        refine z_icmp_ge (tgt := 76) C dX9_isWord_36 (by decide) (rg_of (by omega) (by omega)) (rg_of (by omega) (by omega)) (fun c_5 => ?_) (fun c_5 => ?_)
        · refine x_iload_n C dX9_isWord_76 rfl 1 rfl ?_
          exact x_zret C R dX9_isWord_77 (nar_z (by omega)) (Nat.le_of_ble_eq_true rfl) (Nat.le_of_ble_eq_true rfl) (⟨_, rfl, ⟨WdI_e hi (by omega), hir⟩, rfl⟩)
        · refine x_iload_n C dX9_isWord_39 rfl 1 rfl ?_
          refine z_if_eq (tgt := 76) C dX9_isWord_40 (by decide) (rg_of (by omega) (by omega)) (fun c_6 => ?_) (fun c_6 => ?_)
          · refine x_iload_n C dX9_isWord_76 rfl 1 rfl ?_
            exact x_zret C R dX9_isWord_77 (nar_z (by omega)) (Nat.le_of_ble_eq_true rfl) (Nat.le_of_ble_eq_true rfl) (⟨_, rfl, ⟨WdI_e hi (by omega), hir⟩, rfl⟩)
          · refine x_aload_n C dX9_isWord_43 rfl 3 rfl ?_
            refine x_get (ci := 10) (Cn := RX9) (T := TX9) (N := 29) (ref := "CairnCipherModel") C dX9_isWord_44 in_X9 rfl hO 10 (by decide) (by decide +kernel) rfl rfl ?_
            refine x_iload C dX9_isWord_47 0 rfl ?_
            refine z_iald (j := k) C dX9_isWord_49 (show AI G μ (A 10) 3011 35 (σ 10) from hMA.ai 10 rfl) (by omega) (by omega) (by decide) ?_
            have q_7 := hI.r10 k (by omega)
            refine x_aload_n C dX9_isWord_50 rfl 3 rfl ?_
            refine x_get (ci := 10) (Cn := RX9) (T := TX9) (N := 29) (ref := "CairnCipherModel") C dX9_isWord_51 in_X9 rfl hO 10 (by decide) (by decide +kernel) rfl rfl ?_
            refine z_iconst C dX9_isWord_54 ?_
            refine x_iload_n C dX9_isWord_55 rfl 2 rfl ?_
            refine z_imul C dX9_isWord_56 rfl ?_
            refine x_iload C dX9_isWord_57 0 rfl ?_
            refine z_iadd C dX9_isWord_59 rfl ?_
            refine z_iald (j := ((5 * (s + 1)) + (k : Int)).toNat) C dX9_isWord_60 (show AI G μ (A 10) 3011 35 (σ 10) from hMA.ai 10 rfl) (by omega) (by omega) (by decide) ?_
            have q_8 := hI.r10 (((5 * (s + 1)) + (k : Int)).toNat) (by omega)
            refine z_icmp_ne (tgt := 68) C dX9_isWord_61 (by decide) (rg_of (by omega) (by omega)) (rg_of (by omega) (by omega)) (fun c_9 => ?_) (fun c_9 => ?_)
            · refine z_iconst C dX9_isWord_68 ?_
              refine x_istore_n (lv' := [(3, .int (zI 0)), (4, .int (zI (k : Int))), (2, .int (zI (s + 1))), (0, .ref m), (1, .int (zI s))]) C dX9_isWord_69 rfl (by decide) rfl ?_
              refine z_iinc (lv' := [(4, .int (zI ((k : Int) + 1))), (3, .int (zI 0)), (2, .int (zI (s + 1))), (0, .ref m), (1, .int (zI s))]) C dX9_isWord_70 1 rfl rfl (by decide) rfl ?_
              refine x_goto (tgt := 28) C dX9_isWord_73 (by decide) ?_
              exact ih28 _ (by omega) (k + 1) _ (by omega) _ (by omega) (WdI_s hi (by omega) (by omega) (by (rw [← ew]; omega))) rfl
            · refine z_iconst C dX9_isWord_64 ?_
              refine x_goto (tgt := 69) C dX9_isWord_65 (by decide) ?_
              refine x_istore_n (lv' := [(3, .int (zI 1)), (4, .int (zI (k : Int))), (2, .int (zI (s + 1))), (0, .ref m), (1, .int (zI s))]) C dX9_isWord_69 rfl (by decide) rfl ?_
              refine z_iinc (lv' := [(4, .int (zI ((k : Int) + 1))), (3, .int (zI 1)), (2, .int (zI (s + 1))), (0, .ref m), (1, .int (zI s))]) C dX9_isWord_70 1 rfl rfl (by decide) rfl ?_
              refine x_goto (tgt := 28) C dX9_isWord_73 (by decide) ?_
              exact ih28 _ (by omega) (k + 1) _ (by omega) _ (by omega) (WdI_s hi (by omega) (by omega) (by (rw [← ew]; omega))) rfl
    exact L28 _ (0) _ (by omega) _ (by omega) hwd rfl
  · refine z_iconst C dX9_isWord_19 ?_
    refine x_goto (tgt := 24) C dX9_isWord_20 (by decide) ?_
    refine x_istore_n (lv' := [(3, .int (zI 1)), (2, .int (zI (s + 1))), (0, .ref m), (1, .int (zI s))]) C dX9_isWord_24 rfl (by decide) rfl ?_
    have hwd : WdI σ s.toNat 0 1 := WdI_0 (by (rw [es] at *; omega))
    refine z_iconst C dX9_isWord_25 ?_
    refine x_istore (lv' := [(4, .int (zI 0)), (3, .int (zI 1)), (2, .int (zI (s + 1))), (0, .ref m), (1, .int (zI s))]) C dX9_isWord_26 (by decide) rfl ?_
    have L28 : ∀ (M9 : Nat) (k : Nat) (kz : Int) (hkz : kz = (k : Int)) (i9 : Int) (hk : k ≤ ln σ 0) (hi : WdI σ s.toNat k i9) (hM9 : ln σ 0 - k = M9), Wx E G 0 0 28 [(4, .int (zI kz)), (3, .int (zI i9)), (2, .int (zI (s + 1))), (0, .ref m), (1, .int (zI s))] [] μ := by
      intro M9
      induction M9 using Nat.strongRecOn with
      | ind M9 ih28 =>
        intro k kz hkz i9 hk hi hM9
        subst hkz
        have hir := hi.rg
        have ew : ((5 * (s + 1)) + (k : Int)).toNat = 5 * (s.toNat + 1) + k := by omega
        refine x_iload C dX9_isWord_28 0 rfl ?_
        refine x_aload_n C dX9_isWord_30 rfl 3 rfl ?_
        refine x_get (ci := 10) (Cn := RX9) (T := TX9) (N := 29) (ref := "CairnCipherModel") C dX9_isWord_31 in_X9 rfl hO 11 (by decide) (by decide +kernel) rfl rfl ?_
        refine z_iconst C dX9_isWord_34 ?_
        refine z_iald (j := 0) C dX9_isWord_35 (show AI G μ (A 11) 3012 7 (σ 11) from hMA.ai 11 rfl) (by omega) (by omega) (by decide) ?_
        have q_10 := hI.r11 0 (by omega)
        refine z_icmp_ge (tgt := 76) C dX9_isWord_36 (by decide) (rg_of (by omega) (by omega)) (rg_of (by omega) (by omega)) (fun c_11 => ?_) (fun c_11 => ?_)
        · refine x_iload_n C dX9_isWord_76 rfl 1 rfl ?_
          exact x_zret C R dX9_isWord_77 (nar_z (by omega)) (Nat.le_of_ble_eq_true rfl) (Nat.le_of_ble_eq_true rfl) (⟨_, rfl, ⟨WdI_e hi (by omega), hir⟩, rfl⟩)
        · refine x_iload_n C dX9_isWord_39 rfl 1 rfl ?_
          refine z_if_eq (tgt := 76) C dX9_isWord_40 (by decide) (rg_of (by omega) (by omega)) (fun c_12 => ?_) (fun c_12 => ?_)
          · refine x_iload_n C dX9_isWord_76 rfl 1 rfl ?_
            exact x_zret C R dX9_isWord_77 (nar_z (by omega)) (Nat.le_of_ble_eq_true rfl) (Nat.le_of_ble_eq_true rfl) (⟨_, rfl, ⟨WdI_e hi (by omega), hir⟩, rfl⟩)
          · refine x_aload_n C dX9_isWord_43 rfl 3 rfl ?_
            refine x_get (ci := 10) (Cn := RX9) (T := TX9) (N := 29) (ref := "CairnCipherModel") C dX9_isWord_44 in_X9 rfl hO 10 (by decide) (by decide +kernel) rfl rfl ?_
            refine x_iload C dX9_isWord_47 0 rfl ?_
            refine z_iald (j := k) C dX9_isWord_49 (show AI G μ (A 10) 3011 35 (σ 10) from hMA.ai 10 rfl) (by omega) (by omega) (by decide) ?_
            have q_13 := hI.r10 k (by omega)
            refine x_aload_n C dX9_isWord_50 rfl 3 rfl ?_
            refine x_get (ci := 10) (Cn := RX9) (T := TX9) (N := 29) (ref := "CairnCipherModel") C dX9_isWord_51 in_X9 rfl hO 10 (by decide) (by decide +kernel) rfl rfl ?_
            refine z_iconst C dX9_isWord_54 ?_
            refine x_iload_n C dX9_isWord_55 rfl 2 rfl ?_
            refine z_imul C dX9_isWord_56 rfl ?_
            refine x_iload C dX9_isWord_57 0 rfl ?_
            refine z_iadd C dX9_isWord_59 rfl ?_
            refine z_iald (j := ((5 * (s + 1)) + (k : Int)).toNat) C dX9_isWord_60 (show AI G μ (A 10) 3011 35 (σ 10) from hMA.ai 10 rfl) (by omega) (by omega) (by decide) ?_
            have q_14 := hI.r10 (((5 * (s + 1)) + (k : Int)).toNat) (by omega)
            refine z_icmp_ne (tgt := 68) C dX9_isWord_61 (by decide) (rg_of (by omega) (by omega)) (rg_of (by omega) (by omega)) (fun c_15 => ?_) (fun c_15 => ?_)
            · refine z_iconst C dX9_isWord_68 ?_
              refine x_istore_n (lv' := [(3, .int (zI 0)), (4, .int (zI (k : Int))), (2, .int (zI (s + 1))), (0, .ref m), (1, .int (zI s))]) C dX9_isWord_69 rfl (by decide) rfl ?_
              refine z_iinc (lv' := [(4, .int (zI ((k : Int) + 1))), (3, .int (zI 0)), (2, .int (zI (s + 1))), (0, .ref m), (1, .int (zI s))]) C dX9_isWord_70 1 rfl rfl (by decide) rfl ?_
              refine x_goto (tgt := 28) C dX9_isWord_73 (by decide) ?_
              exact ih28 _ (by omega) (k + 1) _ (by omega) _ (by omega) (WdI_s hi (by omega) (by omega) (by (rw [← ew]; omega))) rfl
            · refine z_iconst C dX9_isWord_64 ?_
              refine x_goto (tgt := 69) C dX9_isWord_65 (by decide) ?_
              refine x_istore_n (lv' := [(3, .int (zI 1)), (4, .int (zI (k : Int))), (2, .int (zI (s + 1))), (0, .ref m), (1, .int (zI s))]) C dX9_isWord_69 rfl (by decide) rfl ?_
              refine z_iinc (lv' := [(4, .int (zI ((k : Int) + 1))), (3, .int (zI 1)), (2, .int (zI (s + 1))), (0, .ref m), (1, .int (zI s))]) C dX9_isWord_70 1 rfl rfl (by decide) rfl ?_
              refine x_goto (tgt := 28) C dX9_isWord_73 (by decide) ?_
              exact ih28 _ (by omega) (k + 1) _ (by omega) _ (by omega) (WdI_s hi (by omega) (by omega) (by (rw [← ew]; omega))) rfl
    exact L28 _ (0) _ (by omega) _ (by omega) hwd rfl
abbrev rm_X9_answer : Room := { frames := 2, cells := 0, slots := 0, locals := 43 }
set_option maxHeartbeats 4000000 in
set_option maxRecDepth 100000 in
theorem c_X9_answer (l : Launch) (hst : l.stackTraces = false) (G : GG) (z : Nat) (μ : Mm) (m : Nat) (σ : SS) (n : Nat) (th fo cm : Int) (Ci Su : Nat → Int) (A : Nat → Nat) (w s : Int) (hM9 : RepY G μ m σ th fo cm Ci Su A) (hI : Iv σ n) (hw : -2147483648 ≤ w ∧ w < 2147483648) (hs : -2147483648 ≤ s ∧ s < 2147483648) (hn5 : n ≤ 600) : Ct l yX9_answer wsX9_answer rm_X9_answer G z [.ref m, .int (zI w), .int (zI s)] μ (rS (fun r9 μ' => MR G μ' m (t_answer σ w s) (isWd σ s.toNat) σ (n_answer σ w s) r9 ∧ Fr 3000 3999 μ μ')) (nX) := by
  refine ct_of (cc := cX9_answer) (maxL := 4) (ret := (some .boolean)) (own := RX9) (by decide) rfl rfl hst (Nat.le_of_ble_eq_true rfl) ?_
  intro E hLl hnm C R hT
  have in_X9 : ∀ w ∈ u_ws RX9 TX9 29, w ∈ wsX9_answer := by decide +kernel
  have hM8 := hM9
  obtain ⟨hO, hMA, hCi, hSu⟩ := hM9
  have hn7 := hI.n7
  have hn12 := hI.n12
  have hn18 := hI.n18
  have hn23 := hI.n23
  have hFr : Fr 3000 3999 μ μ := Fr.rf
  refine x_eq (lv' := [(0, .ref m), (1, .int (zI w)), (2, .int (zI s))]) rfl rfl ?_
  refine x_aload_n C dX9_answer_0 rfl 0 rfl ?_
  refine x_aload_n C dX9_answer_1 rfl 0 rfl ?_
  refine x_iload_n C dX9_answer_2 rfl 1 rfl ?_
  refine x_callV (n := 1) (ci := 10) (Cn := RX9) (T := TX9) (N := 29) (cc9 := 0) (ss9 := 0) (rest := [.ref m]) C dX9_answer_3 (c_X9_isWalker (kxL E) C.st G z μ _ σ _ _ _ _ _ _ _ w ⟨hO, hMA, hCi, hSu⟩ hI (by omega)) gX9_answer_X9_isWalker rfl (by decide +kernel) ⟨(Nat.le_of_ble_eq_true rfl), (Nat.le_of_ble_eq_true rfl)⟩ rfl ⟨_, _, hO⟩ rfl rfl (Nat.le_of_ble_eq_true rfl) rfl rfl ⟨(Nat.le_of_ble_eq_true rfl), (Nat.le_of_ble_eq_true rfl)⟩ nX_no (fun v1 μ2 hv3 => ?_)
  obtain ⟨r4, hw7, h5, hm6⟩ := hv3
  subst hw7
  rw [hm6]
  refine x_stk (stk' := [.int (zI r4), .ref m]) rfl ?_
  refine z_if_eq (tgt := 17) C dX9_answer_6 (by decide) (rg_of (by omega) (by omega)) (fun c_8 => ?_) (fun c_8 => ?_)
  · refine z_iconst C dX9_answer_17 ?_
    refine x_goto (tgt := 22) C dX9_answer_18 (by decide) ?_
    refine z_put (ci := 10) (Cn := RX9) (T := TX9) (N := 29) (ref := "CairnCipherModel") (fs' := [.ref (A 0), .ref (A 1), .ref (A 2), .ref (A 3), .ref (A 4), .ref (A 5), .ref (A 6), .int (zI (σ 7 0)), .ref (A 8), .ref (A 9), .ref (A 10), .ref (A 11), .int (zI (σ 12 0)), .ref (A 13), .ref (A 14), .ref (A 15), .ref (A 16), .ref (A 17), .int (zI (σ 18 0)), .ref (A 19), .ref (A 20), .ref (A 21), .ref (A 22), .int (zI (σ 23 0)), .int (zI 1), .int (zI fo), .ref (A 26), .int (zI cm), .ref (A 28)]) C dX9_answer_22 in_X9 rfl tyX9 tyX9_ok nmX9 hO 24 (by decide) (by decide +kernel) rfl rfl rfl rfl rfl (Nat.le_of_ble_eq_true rfl) rfl (fun μ9 hOw hF10 => ?_)
    have hMA : MA G μ9 A σ := hF10.ma hMA
    have hCi := hF10.ai hCi
    have hSu := hF10.ai hSu
    have hFr : Fr 3000 3999 μ μ9 := hFr.tr hF10
    have hO := hOw
    refine x_aload_n C dX9_answer_25 rfl 0 rfl ?_
    refine x_get (ci := 10) (Cn := RX9) (T := TX9) (N := 29) (ref := "CairnCipherModel") C dX9_answer_26 in_X9 rfl hO 24 (by decide) (by decide +kernel) rfl rfl ?_
    refine z_if_ne (tgt := 73) C dX9_answer_29 (by decide) (rg_of (by omega) (by omega)) (fun c_11 => ?_) (fun c_11 => ?_)
    · refine x_aload_n C dX9_answer_73 rfl 0 rfl ?_
      refine x_get (ci := 10) (Cn := RX9) (T := TX9) (N := 29) (ref := "CairnCipherModel") C dX9_answer_74 in_X9 rfl hO 24 (by decide) (by decide +kernel) rfl rfl ?_
      refine z_if_le (tgt := 82) C dX9_answer_77 (by decide) (rg_of (by omega) (by omega)) (fun c_12 => ?_) (fun c_12 => ?_)
      · exfalso; omega
      · refine z_iconst C dX9_answer_80 ?_
        exact x_zret C R dX9_answer_81 (nar_z (by omega)) (Nat.le_of_ble_eq_true rfl) (Nat.le_of_ble_eq_true rfl) (⟨_, rfl, ⟨Or.inr ⟨by (rw [show t_answer σ w s = 1 from by (unfold t_answer; (repeat split) <;> omega)]; omega), by (rw [show t_answer σ w s = 1 from by (unfold t_answer; (repeat split) <;> omega)]; exact ⟨_, _, _, _, _, hO, hMA, hCi, hSu⟩)⟩, hFr⟩⟩)
    · exfalso; omega
  · refine x_aload_n C dX9_answer_9 rfl 0 rfl ?_
    refine x_iload_n C dX9_answer_10 rfl 2 rfl ?_
    refine x_callV (n := 1) (ci := 10) (Cn := RX9) (T := TX9) (N := 29) (cc9 := 0) (ss9 := 0) (rest := [.ref m]) C dX9_answer_11 (c_X9_isStage (kxL E) C.st G z μ _ σ _ _ _ _ _ _ _ s ⟨hO, hMA, hCi, hSu⟩ hI (by omega)) gX9_answer_X9_isStage rfl (by decide +kernel) ⟨(Nat.le_of_ble_eq_true rfl), (Nat.le_of_ble_eq_true rfl)⟩ rfl ⟨_, _, hO⟩ rfl rfl (Nat.le_of_ble_eq_true rfl) rfl rfl ⟨(Nat.le_of_ble_eq_true rfl), (Nat.le_of_ble_eq_true rfl)⟩ nX_no (fun v13 μ14 hv15 => ?_)
    obtain ⟨r16, hw19, h17, hm18⟩ := hv15
    subst hw19
    rw [hm18]
    refine x_stk (stk' := [.int (zI r16), .ref m]) rfl ?_
    refine z_if_ne (tgt := 21) C dX9_answer_14 (by decide) (rg_of (by omega) (by omega)) (fun c_20 => ?_) (fun c_20 => ?_)
    · refine z_iconst C dX9_answer_21 ?_
      refine z_put (ci := 10) (Cn := RX9) (T := TX9) (N := 29) (ref := "CairnCipherModel") (fs' := [.ref (A 0), .ref (A 1), .ref (A 2), .ref (A 3), .ref (A 4), .ref (A 5), .ref (A 6), .int (zI (σ 7 0)), .ref (A 8), .ref (A 9), .ref (A 10), .ref (A 11), .int (zI (σ 12 0)), .ref (A 13), .ref (A 14), .ref (A 15), .ref (A 16), .ref (A 17), .int (zI (σ 18 0)), .ref (A 19), .ref (A 20), .ref (A 21), .ref (A 22), .int (zI (σ 23 0)), .int (zI 0), .int (zI fo), .ref (A 26), .int (zI cm), .ref (A 28)]) C dX9_answer_22 in_X9 rfl tyX9 tyX9_ok nmX9 hO 24 (by decide) (by decide +kernel) rfl rfl rfl rfl rfl (Nat.le_of_ble_eq_true rfl) rfl (fun μ21 hOw hF22 => ?_)
      have hMA : MA G μ21 A σ := hF22.ma hMA
      have hCi := hF22.ai hCi
      have hSu := hF22.ai hSu
      have hFr : Fr 3000 3999 μ μ21 := hFr.tr hF22
      have hO := hOw
      refine x_aload_n C dX9_answer_25 rfl 0 rfl ?_
      refine x_get (ci := 10) (Cn := RX9) (T := TX9) (N := 29) (ref := "CairnCipherModel") C dX9_answer_26 in_X9 rfl hO 24 (by decide) (by decide +kernel) rfl rfl ?_
      refine z_if_ne (tgt := 73) C dX9_answer_29 (by decide) (rg_of (by omega) (by omega)) (fun c_23 => ?_) (fun c_23 => ?_)
      · exfalso; omega
      · refine x_aload_n C dX9_answer_32 rfl 0 rfl ?_
        refine x_aload_n C dX9_answer_33 rfl 0 rfl ?_
        refine x_iload_n C dX9_answer_34 rfl 1 rfl ?_
        refine x_callV (n := 1) (ci := 10) (Cn := RX9) (T := TX9) (N := 29) (cc9 := 0) (ss9 := 0) (rest := [.ref m]) C dX9_answer_35 (c_X9_isResting (kxL E) C.st G z μ21 _ σ _ _ _ _ _ _ _ w ⟨hO, hMA, hCi, hSu⟩ hI (by omega)) gX9_answer_X9_isResting rfl (by decide +kernel) ⟨(Nat.le_of_ble_eq_true rfl), (Nat.le_of_ble_eq_true rfl)⟩ rfl ⟨_, _, hO⟩ rfl rfl (Nat.le_of_ble_eq_true rfl) rfl rfl ⟨(Nat.le_of_ble_eq_true rfl), (Nat.le_of_ble_eq_true rfl)⟩ nX_no (fun v24 μ25 hv26 => ?_)
        obtain ⟨r27, hw30, h28, hm29⟩ := hv26
        subst hw30
        rw [hm29]
        refine x_stk (stk' := [.int (zI r27), .ref m]) rfl ?_
        refine z_if_eq (tgt := 65) C dX9_answer_38 (by decide) (rg_of (by omega) (by omega)) (fun c_31 => ?_) (fun c_31 => ?_)
        · refine z_iconst C dX9_answer_65 ?_
          refine x_goto (tgt := 70) C dX9_answer_66 (by decide) ?_
          refine z_put (ci := 10) (Cn := RX9) (T := TX9) (N := 29) (ref := "CairnCipherModel") (fs' := [.ref (A 0), .ref (A 1), .ref (A 2), .ref (A 3), .ref (A 4), .ref (A 5), .ref (A 6), .int (zI (σ 7 0)), .ref (A 8), .ref (A 9), .ref (A 10), .ref (A 11), .int (zI (σ 12 0)), .ref (A 13), .ref (A 14), .ref (A 15), .ref (A 16), .ref (A 17), .int (zI (σ 18 0)), .ref (A 19), .ref (A 20), .ref (A 21), .ref (A 22), .int (zI (σ 23 0)), .int (zI 2), .int (zI fo), .ref (A 26), .int (zI cm), .ref (A 28)]) C dX9_answer_70 in_X9 rfl tyX9 tyX9_ok nmX9 hO 24 (by decide) (by decide +kernel) rfl rfl rfl rfl rfl (Nat.le_of_ble_eq_true rfl) rfl (fun μ32 hOw hF33 => ?_)
          have hMA : MA G μ32 A σ := hF33.ma hMA
          have hCi := hF33.ai hCi
          have hSu := hF33.ai hSu
          have hFr : Fr 3000 3999 μ μ32 := hFr.tr hF33
          have hO := hOw
          refine x_aload_n C dX9_answer_73 rfl 0 rfl ?_
          refine x_get (ci := 10) (Cn := RX9) (T := TX9) (N := 29) (ref := "CairnCipherModel") C dX9_answer_74 in_X9 rfl hO 24 (by decide) (by decide +kernel) rfl rfl ?_
          refine z_if_le (tgt := 82) C dX9_answer_77 (by decide) (rg_of (by omega) (by omega)) (fun c_34 => ?_) (fun c_34 => ?_)
          · exfalso; omega
          · refine z_iconst C dX9_answer_80 ?_
            exact x_zret C R dX9_answer_81 (nar_z (by omega)) (Nat.le_of_ble_eq_true rfl) (Nat.le_of_ble_eq_true rfl) (⟨_, rfl, ⟨Or.inr ⟨by (rw [show t_answer σ w s = 2 from by (unfold t_answer; (repeat split) <;> omega)]; omega), by (rw [show t_answer σ w s = 2 from by (unfold t_answer; (repeat split) <;> omega)]; exact ⟨_, _, _, _, _, hO, hMA, hCi, hSu⟩)⟩, hFr⟩⟩)
        · refine x_aload_n C dX9_answer_41 rfl 0 rfl ?_
          refine x_get (ci := 10) (Cn := RX9) (T := TX9) (N := 29) (ref := "CairnCipherModel") C dX9_answer_42 in_X9 rfl hO 14 (by decide) (by decide +kernel) rfl rfl ?_
          refine x_iload_n C dX9_answer_45 rfl 1 rfl ?_
          refine z_iald (j := w.toNat) C dX9_answer_46 (show AI G μ21 (A 14) 3015 6 (σ 14) from hMA.ai 14 rfl) (by omega) (by omega) (by decide) ?_
          have q_35 := hI.r14 w.toNat (by omega)
          refine x_aload_n C dX9_answer_47 rfl 0 rfl ?_
          refine x_get (ci := 10) (Cn := RX9) (T := TX9) (N := 29) (ref := "CairnCipherModel") C dX9_answer_48 in_X9 rfl hO 8 (by decide) (by decide +kernel) rfl rfl ?_
          refine x_iload_n C dX9_answer_51 rfl 2 rfl ?_
          refine z_iald (j := s.toNat) C dX9_answer_52 (show AI G μ21 (A 8) 3009 6 (σ 8) from hMA.ai 8 rfl) (by omega) (by omega) (by decide) ?_
          have q_36 := hI.r8 s.toNat (by omega)
          refine z_icmp_ne (tgt := 65) C dX9_answer_53 (by decide) (rg_of (by omega) (by omega)) (rg_of (by omega) (by omega)) (fun c_37 => ?_) (fun c_37 => ?_)
          · refine z_iconst C dX9_answer_65 ?_
            refine x_goto (tgt := 70) C dX9_answer_66 (by decide) ?_
            refine z_put (ci := 10) (Cn := RX9) (T := TX9) (N := 29) (ref := "CairnCipherModel") (fs' := [.ref (A 0), .ref (A 1), .ref (A 2), .ref (A 3), .ref (A 4), .ref (A 5), .ref (A 6), .int (zI (σ 7 0)), .ref (A 8), .ref (A 9), .ref (A 10), .ref (A 11), .int (zI (σ 12 0)), .ref (A 13), .ref (A 14), .ref (A 15), .ref (A 16), .ref (A 17), .int (zI (σ 18 0)), .ref (A 19), .ref (A 20), .ref (A 21), .ref (A 22), .int (zI (σ 23 0)), .int (zI 2), .int (zI fo), .ref (A 26), .int (zI cm), .ref (A 28)]) C dX9_answer_70 in_X9 rfl tyX9 tyX9_ok nmX9 hO 24 (by decide) (by decide +kernel) rfl rfl rfl rfl rfl (Nat.le_of_ble_eq_true rfl) rfl (fun μ38 hOw hF39 => ?_)
            have hMA : MA G μ38 A σ := hF39.ma hMA
            have hCi := hF39.ai hCi
            have hSu := hF39.ai hSu
            have hFr : Fr 3000 3999 μ μ38 := hFr.tr hF39
            have hO := hOw
            refine x_aload_n C dX9_answer_73 rfl 0 rfl ?_
            refine x_get (ci := 10) (Cn := RX9) (T := TX9) (N := 29) (ref := "CairnCipherModel") C dX9_answer_74 in_X9 rfl hO 24 (by decide) (by decide +kernel) rfl rfl ?_
            refine z_if_le (tgt := 82) C dX9_answer_77 (by decide) (rg_of (by omega) (by omega)) (fun c_40 => ?_) (fun c_40 => ?_)
            · exfalso; omega
            · refine z_iconst C dX9_answer_80 ?_
              exact x_zret C R dX9_answer_81 (nar_z (by omega)) (Nat.le_of_ble_eq_true rfl) (Nat.le_of_ble_eq_true rfl) (⟨_, rfl, ⟨Or.inr ⟨by (rw [show t_answer σ w s = 2 from by (unfold t_answer; (repeat split) <;> omega)]; omega), by (rw [show t_answer σ w s = 2 from by (unfold t_answer; (repeat split) <;> omega)]; exact ⟨_, _, _, _, _, hO, hMA, hCi, hSu⟩)⟩, hFr⟩⟩)
          · refine x_aload_n C dX9_answer_56 rfl 0 rfl ?_
            refine x_iload_n C dX9_answer_57 rfl 1 rfl ?_
            refine x_callV (n := 1) (ci := 10) (Cn := RX9) (T := TX9) (N := 29) (cc9 := 0) (ss9 := 0) (rest := [.ref m]) C dX9_answer_58 (c_X9_solvedMany (kxL E) C.st G z μ21 _ σ _ _ _ _ _ _ _ w ⟨hO, hMA, hCi, hSu⟩ hI (by omega)) gX9_answer_X9_solvedMany rfl (by decide +kernel) ⟨(Nat.le_of_ble_eq_true rfl), (Nat.le_of_ble_eq_true rfl)⟩ rfl ⟨_, _, hO⟩ rfl rfl (Nat.le_of_ble_eq_true rfl) rfl rfl ⟨(Nat.le_of_ble_eq_true rfl), (Nat.le_of_ble_eq_true rfl)⟩ nX_no (fun v41 μ42 hv43 => ?_)
            obtain ⟨r44, hw47, h45, hm46⟩ := hv43
            subst hw47
            rw [hm46]
            have hsm := h45
            refine x_stk (stk' := [.int (zI r44), .ref m]) rfl ?_
            have hsr : 0 ≤ b_solved σ w.toNat ∧ b_solved σ w.toNat ≤ 6 := b_solved_rg hI (by omega)
            refine x_iload_n C dX9_answer_61 rfl 2 rfl ?_
            refine z_icmp_eq (tgt := 69) C dX9_answer_62 (by decide) (rg_of (by omega) (by omega)) (rg_of (by omega) (by omega)) (fun c_48 => ?_) (fun c_48 => ?_)
            · refine z_iconst C dX9_answer_69 ?_
              refine z_put (ci := 10) (Cn := RX9) (T := TX9) (N := 29) (ref := "CairnCipherModel") (fs' := [.ref (A 0), .ref (A 1), .ref (A 2), .ref (A 3), .ref (A 4), .ref (A 5), .ref (A 6), .int (zI (σ 7 0)), .ref (A 8), .ref (A 9), .ref (A 10), .ref (A 11), .int (zI (σ 12 0)), .ref (A 13), .ref (A 14), .ref (A 15), .ref (A 16), .ref (A 17), .int (zI (σ 18 0)), .ref (A 19), .ref (A 20), .ref (A 21), .ref (A 22), .int (zI (σ 23 0)), .int (zI 0), .int (zI fo), .ref (A 26), .int (zI cm), .ref (A 28)]) C dX9_answer_70 in_X9 rfl tyX9 tyX9_ok nmX9 hO 24 (by decide) (by decide +kernel) rfl rfl rfl rfl rfl (Nat.le_of_ble_eq_true rfl) rfl (fun μ49 hOw hF50 => ?_)
              have hMA : MA G μ49 A σ := hF50.ma hMA
              have hCi := hF50.ai hCi
              have hSu := hF50.ai hSu
              have hFr : Fr 3000 3999 μ μ49 := hFr.tr hF50
              have hO := hOw
              refine x_aload_n C dX9_answer_73 rfl 0 rfl ?_
              refine x_get (ci := 10) (Cn := RX9) (T := TX9) (N := 29) (ref := "CairnCipherModel") C dX9_answer_74 in_X9 rfl hO 24 (by decide) (by decide +kernel) rfl rfl ?_
              refine z_if_le (tgt := 82) C dX9_answer_77 (by decide) (rg_of (by omega) (by omega)) (fun c_51 => ?_) (fun c_51 => ?_)
              · refine x_aload_n C dX9_answer_82 rfl 0 rfl ?_
                refine x_iload_n C dX9_answer_83 rfl 2 rfl ?_
                refine x_callV (n := 1) (ci := 10) (Cn := RX9) (T := TX9) (N := 29) (cc9 := 0) (ss9 := 0) (rest := []) C dX9_answer_84 (c_X9_isWord (kxL E) C.st G z μ49 _ σ _ _ _ _ _ _ _ s ⟨hO, hMA, hCi, hSu⟩ hI (by omega)) gX9_answer_X9_isWord rfl (by decide +kernel) ⟨(Nat.le_of_ble_eq_true rfl), (Nat.le_of_ble_eq_true rfl)⟩ rfl ⟨_, _, hO⟩ rfl rfl (Nat.le_of_ble_eq_true rfl) rfl rfl ⟨(Nat.le_of_ble_eq_true rfl), (Nat.le_of_ble_eq_true rfl)⟩ nX_no (fun v52 μ53 hv54 => ?_)
                obtain ⟨r55, hw58, h56, hm57⟩ := hv54
                subst hw58
                rw [hm57]
                obtain ⟨hwd9, hwd8⟩ := h56
                have ew : ((6 * w) + s).toNat = 6 * w.toNat + s.toNat := by omega
                refine x_stk (stk' := [.int (zI r55)]) rfl ?_
                refine x_istore_n (lv' := [(3, .int (zI r55)), (0, .ref m), (1, .int (zI w)), (2, .int (zI s))]) C dX9_answer_87 rfl (by decide) rfl ?_
                refine x_aload_n C dX9_answer_88 rfl 1 rfl ?_
                refine x_get (ci := 10) (Cn := RX9) (T := TX9) (N := 29) (ref := "CairnCipherModel") C dX9_answer_89 in_X9 rfl hO 20 (by decide) (by decide +kernel) rfl rfl ?_
                refine z_bipush C dX9_answer_92 (by decide) ?_
                refine x_iload_n C dX9_answer_94 rfl 2 rfl ?_
                refine z_imul C dX9_answer_95 rfl ?_
                refine x_iload_n C dX9_answer_96 rfl 3 rfl ?_
                refine z_iadd C dX9_answer_97 rfl ?_
                refine x_iload_n C dX9_answer_98 rfl 0 rfl ?_
                refine z_zast (j := ((6 * w) + s).toNat) C dX9_answer_99 (show AZ G μ49 (A 20) 3021 36 (σ 20) from hMA.az 20 rfl) (by omega) (by omega) (by decide) (by omega) (fun μ59 hq61 hF60 => ?_)
                have hMAn : MA G μ59 A (su σ 20 (wr (σ 20) (((6 * w) + s).toNat) r55)) := hMA.upz (k := 20) rfl hq61 hF60
                have hO := hF60.ob hO
                have hCi := hF60.ai hCi
                have hSu := hF60.ai hSu
                have hFr : Fr 3000 3999 μ μ59 := hFr.tr hF60
                have hMA := hMAn
                refine x_aload_n C dX9_answer_100 rfl 1 rfl ?_
                refine x_get (ci := 10) (Cn := RX9) (T := TX9) (N := 29) (ref := "CairnCipherModel") C dX9_answer_101 in_X9 rfl hO 22 (by decide) (by decide +kernel) rfl rfl ?_
                refine z_bipush C dX9_answer_104 (by decide) ?_
                refine x_iload_n C dX9_answer_106 rfl 2 rfl ?_
                refine z_imul C dX9_answer_107 rfl ?_
                refine x_iload_n C dX9_answer_108 rfl 3 rfl ?_
                refine z_iadd C dX9_answer_109 rfl ?_
                refine x_dup2 C dX9_answer_110 rfl rfl ?_
                refine z_iald (j := ((6 * w) + s).toNat) C dX9_answer_111 (show AI G μ59 (A 22) 3023 36 (σ 22) from hMA.ai 22 rfl) (by omega) (by omega) (by decide) ?_
                have q_62 := hI.r22 (((6 * w) + s).toNat) (by omega)
                refine x_iload_n C dX9_answer_112 rfl 0 rfl ?_
                refine z_if_eq (tgt := 120) C dX9_answer_113 (by decide) (rg_of (by omega) (by omega)) (fun c_63 => ?_) (fun c_63 => ?_)
                · refine z_iconst C dX9_answer_120 ?_
                  refine z_iadd C dX9_answer_121 rfl ?_
                  refine z_iast (j := ((6 * w) + s).toNat) C dX9_answer_122 (show AI G μ59 (A 22) 3023 36 (σ 22) from hMA.ai 22 rfl) (by omega) (by omega) (by decide) (fun μ64 hq66 hF65 => ?_)
                  have hMAn : MA G μ64 A (su (su σ 20 (wr (σ 20) (((6 * w) + s).toNat) r55)) 22 (wr (σ 22) (((6 * w) + s).toNat) (((σ 22) (((6 * w) + s).toNat)) + 1))) := hMA.up (k := 22) rfl hq66 hF65
                  have hO := hF65.ob hO
                  have hCi := hF65.ai hCi
                  have hSu := hF65.ai hSu
                  have hFr : Fr 3000 3999 μ μ64 := hFr.tr hF65
                  have hMA := hMAn
                  have hMA : MA G μ64 A (n_answer σ w s) := by (unfold n_answer; rw [← ew, ← hwd9, show 1 - r55 = 1 by omega]; exact hMA)
                  refine x_iload_n C dX9_answer_123 rfl 0 rfl ?_
                  exact x_zret C R dX9_answer_124 (nar_z (by omega)) (Nat.le_of_ble_eq_true rfl) (Nat.le_of_ble_eq_true rfl) (⟨_, rfl, ⟨Or.inl ⟨by (unfold t_answer; (repeat split) <;> omega), by omega, ⟨_, _, _, _, _, hO, hMA, hCi, hSu⟩⟩, hFr⟩⟩)
                · refine z_iconst C dX9_answer_116 ?_
                  refine x_goto (tgt := 121) C dX9_answer_117 (by decide) ?_
                  refine z_iadd C dX9_answer_121 rfl ?_
                  refine z_iast (j := ((6 * w) + s).toNat) C dX9_answer_122 (show AI G μ59 (A 22) 3023 36 (σ 22) from hMA.ai 22 rfl) (by omega) (by omega) (by decide) (fun μ67 hq69 hF68 => ?_)
                  have hMAn : MA G μ67 A (su (su σ 20 (wr (σ 20) (((6 * w) + s).toNat) r55)) 22 (wr (σ 22) (((6 * w) + s).toNat) (((σ 22) (((6 * w) + s).toNat)) + 0))) := hMA.up (k := 22) rfl hq69 hF68
                  have hO := hF68.ob hO
                  have hCi := hF68.ai hCi
                  have hSu := hF68.ai hSu
                  have hFr : Fr 3000 3999 μ μ67 := hFr.tr hF68
                  have hMA := hMAn
                  have hMA : MA G μ67 A (n_answer σ w s) := by (unfold n_answer; rw [← ew, ← hwd9, show 1 - r55 = 0 by omega]; exact hMA)
                  refine x_iload_n C dX9_answer_123 rfl 0 rfl ?_
                  exact x_zret C R dX9_answer_124 (nar_z (by omega)) (Nat.le_of_ble_eq_true rfl) (Nat.le_of_ble_eq_true rfl) (⟨_, rfl, ⟨Or.inl ⟨by (unfold t_answer; (repeat split) <;> omega), by omega, ⟨_, _, _, _, _, hO, hMA, hCi, hSu⟩⟩, hFr⟩⟩)
              · exfalso; omega
            · refine z_iconst C dX9_answer_65 ?_
              refine x_goto (tgt := 70) C dX9_answer_66 (by decide) ?_
              refine z_put (ci := 10) (Cn := RX9) (T := TX9) (N := 29) (ref := "CairnCipherModel") (fs' := [.ref (A 0), .ref (A 1), .ref (A 2), .ref (A 3), .ref (A 4), .ref (A 5), .ref (A 6), .int (zI (σ 7 0)), .ref (A 8), .ref (A 9), .ref (A 10), .ref (A 11), .int (zI (σ 12 0)), .ref (A 13), .ref (A 14), .ref (A 15), .ref (A 16), .ref (A 17), .int (zI (σ 18 0)), .ref (A 19), .ref (A 20), .ref (A 21), .ref (A 22), .int (zI (σ 23 0)), .int (zI 2), .int (zI fo), .ref (A 26), .int (zI cm), .ref (A 28)]) C dX9_answer_70 in_X9 rfl tyX9 tyX9_ok nmX9 hO 24 (by decide) (by decide +kernel) rfl rfl rfl rfl rfl (Nat.le_of_ble_eq_true rfl) rfl (fun μ70 hOw hF71 => ?_)
              have hMA : MA G μ70 A σ := hF71.ma hMA
              have hCi := hF71.ai hCi
              have hSu := hF71.ai hSu
              have hFr : Fr 3000 3999 μ μ70 := hFr.tr hF71
              have hO := hOw
              refine x_aload_n C dX9_answer_73 rfl 0 rfl ?_
              refine x_get (ci := 10) (Cn := RX9) (T := TX9) (N := 29) (ref := "CairnCipherModel") C dX9_answer_74 in_X9 rfl hO 24 (by decide) (by decide +kernel) rfl rfl ?_
              refine z_if_le (tgt := 82) C dX9_answer_77 (by decide) (rg_of (by omega) (by omega)) (fun c_72 => ?_) (fun c_72 => ?_)
              · exfalso; omega
              · refine z_iconst C dX9_answer_80 ?_
                exact x_zret C R dX9_answer_81 (nar_z (by omega)) (Nat.le_of_ble_eq_true rfl) (Nat.le_of_ble_eq_true rfl) (⟨_, rfl, ⟨Or.inr ⟨by (rw [show t_answer σ w s = 2 from by (unfold t_answer; (repeat split) <;> omega)]; omega), by (rw [show t_answer σ w s = 2 from by (unfold t_answer; (repeat split) <;> omega)]; exact ⟨_, _, _, _, _, hO, hMA, hCi, hSu⟩)⟩, hFr⟩⟩)
    · refine z_iconst C dX9_answer_17 ?_
      refine x_goto (tgt := 22) C dX9_answer_18 (by decide) ?_
      refine z_put (ci := 10) (Cn := RX9) (T := TX9) (N := 29) (ref := "CairnCipherModel") (fs' := [.ref (A 0), .ref (A 1), .ref (A 2), .ref (A 3), .ref (A 4), .ref (A 5), .ref (A 6), .int (zI (σ 7 0)), .ref (A 8), .ref (A 9), .ref (A 10), .ref (A 11), .int (zI (σ 12 0)), .ref (A 13), .ref (A 14), .ref (A 15), .ref (A 16), .ref (A 17), .int (zI (σ 18 0)), .ref (A 19), .ref (A 20), .ref (A 21), .ref (A 22), .int (zI (σ 23 0)), .int (zI 1), .int (zI fo), .ref (A 26), .int (zI cm), .ref (A 28)]) C dX9_answer_22 in_X9 rfl tyX9 tyX9_ok nmX9 hO 24 (by decide) (by decide +kernel) rfl rfl rfl rfl rfl (Nat.le_of_ble_eq_true rfl) rfl (fun μ73 hOw hF74 => ?_)
      have hMA : MA G μ73 A σ := hF74.ma hMA
      have hCi := hF74.ai hCi
      have hSu := hF74.ai hSu
      have hFr : Fr 3000 3999 μ μ73 := hFr.tr hF74
      have hO := hOw
      refine x_aload_n C dX9_answer_25 rfl 0 rfl ?_
      refine x_get (ci := 10) (Cn := RX9) (T := TX9) (N := 29) (ref := "CairnCipherModel") C dX9_answer_26 in_X9 rfl hO 24 (by decide) (by decide +kernel) rfl rfl ?_
      refine z_if_ne (tgt := 73) C dX9_answer_29 (by decide) (rg_of (by omega) (by omega)) (fun c_75 => ?_) (fun c_75 => ?_)
      · refine x_aload_n C dX9_answer_73 rfl 0 rfl ?_
        refine x_get (ci := 10) (Cn := RX9) (T := TX9) (N := 29) (ref := "CairnCipherModel") C dX9_answer_74 in_X9 rfl hO 24 (by decide) (by decide +kernel) rfl rfl ?_
        refine z_if_le (tgt := 82) C dX9_answer_77 (by decide) (rg_of (by omega) (by omega)) (fun c_76 => ?_) (fun c_76 => ?_)
        · exfalso; omega
        · refine z_iconst C dX9_answer_80 ?_
          exact x_zret C R dX9_answer_81 (nar_z (by omega)) (Nat.le_of_ble_eq_true rfl) (Nat.le_of_ble_eq_true rfl) (⟨_, rfl, ⟨Or.inr ⟨by (rw [show t_answer σ w s = 1 from by (unfold t_answer; (repeat split) <;> omega)]; omega), by (rw [show t_answer σ w s = 1 from by (unfold t_answer; (repeat split) <;> omega)]; exact ⟨_, _, _, _, _, hO, hMA, hCi, hSu⟩)⟩, hFr⟩⟩)
      · exfalso; omega
abbrev rm_X9_tell : Room := { frames := 2, cells := 0, slots := 0, locals := 43 }
set_option maxHeartbeats 4000000 in
set_option maxRecDepth 100000 in
theorem c_X9_tell (l : Launch) (hst : l.stackTraces = false) (G : GG) (z : Nat) (μ : Mm) (m : Nat) (σ : SS) (n : Nat) (th fo cm : Int) (Ci Su : Nat → Int) (A : Nat → Nat) (w o s : Int) (hM9 : RepY G μ m σ th fo cm Ci Su A) (hI : Iv σ n) (hw : -2147483648 ≤ w ∧ w < 2147483648) (ho : -2147483648 ≤ o ∧ o < 2147483648) (hs : -2147483648 ≤ s ∧ s < 2147483648) (hn5 : n ≤ 600) : Ct l yX9_tell wsX9_tell rm_X9_tell G z [.ref m, .int (zI w), .int (zI o), .int (zI s)] μ (rS (fun r9 μ' => MR G μ' m (t_tell σ w o s) (b_tell σ o s) σ (n_tell σ o s) r9 ∧ Fr 3000 3999 μ μ')) (nX) := by
  refine ct_of (cc := cX9_tell) (maxL := 6) (ret := (some .int)) (own := RX9) (by decide) rfl rfl hst (Nat.le_of_ble_eq_true rfl) ?_
  intro E hLl hnm C R hT
  have in_X9 : ∀ w ∈ u_ws RX9 TX9 29, w ∈ wsX9_tell := by decide +kernel
  have hM8 := hM9
  obtain ⟨hO, hMA, hCi, hSu⟩ := hM9
  have hn7 := hI.n7
  have hn12 := hI.n12
  have hn18 := hI.n18
  have hn23 := hI.n23
  have hFr : Fr 3000 3999 μ μ := Fr.rf
  refine x_eq (lv' := [(0, .ref m), (1, .int (zI w)), (2, .int (zI o)), (3, .int (zI s))]) rfl rfl ?_
  refine x_aload_n C dX9_tell_0 rfl 0 rfl ?_
  refine x_aload_n C dX9_tell_1 rfl 0 rfl ?_
  refine x_iload_n C dX9_tell_2 rfl 1 rfl ?_
  refine x_callV (n := 1) (ci := 10) (Cn := RX9) (T := TX9) (N := 29) (cc9 := 0) (ss9 := 0) (rest := [.ref m]) C dX9_tell_3 (c_X9_isWalker (kxL E) C.st G z μ _ σ _ _ _ _ _ _ _ w ⟨hO, hMA, hCi, hSu⟩ hI (by omega)) gX9_tell_X9_isWalker rfl (by decide +kernel) ⟨(Nat.le_of_ble_eq_true rfl), (Nat.le_of_ble_eq_true rfl)⟩ rfl ⟨_, _, hO⟩ rfl rfl (Nat.le_of_ble_eq_true rfl) rfl rfl ⟨(Nat.le_of_ble_eq_true rfl), (Nat.le_of_ble_eq_true rfl)⟩ nX_no (fun v1 μ2 hv3 => ?_)
  obtain ⟨r4, hw7, h5, hm6⟩ := hv3
  subst hw7
  rw [hm6]
  refine x_stk (stk' := [.int (zI r4), .ref m]) rfl ?_
  refine z_if_eq (tgt := 25) C dX9_tell_6 (by decide) (rg_of (by omega) (by omega)) (fun c_8 => ?_) (fun c_8 => ?_)
  · refine z_iconst C dX9_tell_25 ?_
    refine x_goto (tgt := 39) C dX9_tell_26 (by decide) ?_
    refine z_put (ci := 10) (Cn := RX9) (T := TX9) (N := 29) (ref := "CairnCipherModel") (fs' := [.ref (A 0), .ref (A 1), .ref (A 2), .ref (A 3), .ref (A 4), .ref (A 5), .ref (A 6), .int (zI (σ 7 0)), .ref (A 8), .ref (A 9), .ref (A 10), .ref (A 11), .int (zI (σ 12 0)), .ref (A 13), .ref (A 14), .ref (A 15), .ref (A 16), .ref (A 17), .int (zI (σ 18 0)), .ref (A 19), .ref (A 20), .ref (A 21), .ref (A 22), .int (zI (σ 23 0)), .int (zI 1), .int (zI fo), .ref (A 26), .int (zI cm), .ref (A 28)]) C dX9_tell_39 in_X9 rfl tyX9 tyX9_ok nmX9 hO 24 (by decide) (by decide +kernel) rfl rfl rfl rfl rfl (Nat.le_of_ble_eq_true rfl) rfl (fun μ9 hOw hF10 => ?_)
    have hMA : MA G μ9 A σ := hF10.ma hMA
    have hCi := hF10.ai hCi
    have hSu := hF10.ai hSu
    have hFr : Fr 3000 3999 μ μ9 := hFr.tr hF10
    have hO := hOw
    refine x_aload_n C dX9_tell_42 rfl 0 rfl ?_
    refine x_get (ci := 10) (Cn := RX9) (T := TX9) (N := 29) (ref := "CairnCipherModel") C dX9_tell_43 in_X9 rfl hO 24 (by decide) (by decide +kernel) rfl rfl ?_
    refine z_if_ne (tgt := 131) C dX9_tell_46 (by decide) (rg_of (by omega) (by omega)) (fun c_11 => ?_) (fun c_11 => ?_)
    · refine x_aload_n C dX9_tell_131 rfl 0 rfl ?_
      refine x_get (ci := 10) (Cn := RX9) (T := TX9) (N := 29) (ref := "CairnCipherModel") C dX9_tell_132 in_X9 rfl hO 24 (by decide) (by decide +kernel) rfl rfl ?_
      refine z_if_le (tgt := 140) C dX9_tell_135 (by decide) (rg_of (by omega) (by omega)) (fun c_12 => ?_) (fun c_12 => ?_)
      · exfalso; omega
      · refine z_iconst C dX9_tell_138 ?_
        exact x_iret C R dX9_tell_139 (Nat.le_of_ble_eq_true rfl) (Nat.le_of_ble_eq_true rfl) (⟨_, rfl, ⟨Or.inr ⟨by (rw [show t_tell σ w o s = 1 from by (unfold t_tell; (repeat split) <;> omega)]; omega), by (rw [show t_tell σ w o s = 1 from by (unfold t_tell; (repeat split) <;> omega)]; exact ⟨_, _, _, _, _, hO, hMA, hCi, hSu⟩)⟩, hFr⟩⟩)
    · exfalso; omega
  · refine x_aload_n C dX9_tell_9 rfl 0 rfl ?_
    refine x_iload_n C dX9_tell_10 rfl 2 rfl ?_
    refine x_callV (n := 1) (ci := 10) (Cn := RX9) (T := TX9) (N := 29) (cc9 := 0) (ss9 := 0) (rest := [.ref m]) C dX9_tell_11 (c_X9_isWalker (kxL E) C.st G z μ _ σ _ _ _ _ _ _ _ o ⟨hO, hMA, hCi, hSu⟩ hI (by omega)) gX9_tell_X9_isWalker rfl (by decide +kernel) ⟨(Nat.le_of_ble_eq_true rfl), (Nat.le_of_ble_eq_true rfl)⟩ rfl ⟨_, _, hO⟩ rfl rfl (Nat.le_of_ble_eq_true rfl) rfl rfl ⟨(Nat.le_of_ble_eq_true rfl), (Nat.le_of_ble_eq_true rfl)⟩ nX_no (fun v13 μ14 hv15 => ?_)
    obtain ⟨r16, hw19, h17, hm18⟩ := hv15
    subst hw19
    rw [hm18]
    refine x_stk (stk' := [.int (zI r16), .ref m]) rfl ?_
    refine z_if_eq (tgt := 25) C dX9_tell_14 (by decide) (rg_of (by omega) (by omega)) (fun c_20 => ?_) (fun c_20 => ?_)
    · refine z_iconst C dX9_tell_25 ?_
      refine x_goto (tgt := 39) C dX9_tell_26 (by decide) ?_
      refine z_put (ci := 10) (Cn := RX9) (T := TX9) (N := 29) (ref := "CairnCipherModel") (fs' := [.ref (A 0), .ref (A 1), .ref (A 2), .ref (A 3), .ref (A 4), .ref (A 5), .ref (A 6), .int (zI (σ 7 0)), .ref (A 8), .ref (A 9), .ref (A 10), .ref (A 11), .int (zI (σ 12 0)), .ref (A 13), .ref (A 14), .ref (A 15), .ref (A 16), .ref (A 17), .int (zI (σ 18 0)), .ref (A 19), .ref (A 20), .ref (A 21), .ref (A 22), .int (zI (σ 23 0)), .int (zI 1), .int (zI fo), .ref (A 26), .int (zI cm), .ref (A 28)]) C dX9_tell_39 in_X9 rfl tyX9 tyX9_ok nmX9 hO 24 (by decide) (by decide +kernel) rfl rfl rfl rfl rfl (Nat.le_of_ble_eq_true rfl) rfl (fun μ21 hOw hF22 => ?_)
      have hMA : MA G μ21 A σ := hF22.ma hMA
      have hCi := hF22.ai hCi
      have hSu := hF22.ai hSu
      have hFr : Fr 3000 3999 μ μ21 := hFr.tr hF22
      have hO := hOw
      refine x_aload_n C dX9_tell_42 rfl 0 rfl ?_
      refine x_get (ci := 10) (Cn := RX9) (T := TX9) (N := 29) (ref := "CairnCipherModel") C dX9_tell_43 in_X9 rfl hO 24 (by decide) (by decide +kernel) rfl rfl ?_
      refine z_if_ne (tgt := 131) C dX9_tell_46 (by decide) (rg_of (by omega) (by omega)) (fun c_23 => ?_) (fun c_23 => ?_)
      · refine x_aload_n C dX9_tell_131 rfl 0 rfl ?_
        refine x_get (ci := 10) (Cn := RX9) (T := TX9) (N := 29) (ref := "CairnCipherModel") C dX9_tell_132 in_X9 rfl hO 24 (by decide) (by decide +kernel) rfl rfl ?_
        refine z_if_le (tgt := 140) C dX9_tell_135 (by decide) (rg_of (by omega) (by omega)) (fun c_24 => ?_) (fun c_24 => ?_)
        · exfalso; omega
        · refine z_iconst C dX9_tell_138 ?_
          exact x_iret C R dX9_tell_139 (Nat.le_of_ble_eq_true rfl) (Nat.le_of_ble_eq_true rfl) (⟨_, rfl, ⟨Or.inr ⟨by (rw [show t_tell σ w o s = 1 from by (unfold t_tell; (repeat split) <;> omega)]; omega), by (rw [show t_tell σ w o s = 1 from by (unfold t_tell; (repeat split) <;> omega)]; exact ⟨_, _, _, _, _, hO, hMA, hCi, hSu⟩)⟩, hFr⟩⟩)
      · exfalso; omega
    · refine x_aload_n C dX9_tell_17 rfl 0 rfl ?_
      refine x_iload_n C dX9_tell_18 rfl 3 rfl ?_
      refine x_callV (n := 1) (ci := 10) (Cn := RX9) (T := TX9) (N := 29) (cc9 := 0) (ss9 := 0) (rest := [.ref m]) C dX9_tell_19 (c_X9_isStage (kxL E) C.st G z μ _ σ _ _ _ _ _ _ _ s ⟨hO, hMA, hCi, hSu⟩ hI (by omega)) gX9_tell_X9_isStage rfl (by decide +kernel) ⟨(Nat.le_of_ble_eq_true rfl), (Nat.le_of_ble_eq_true rfl)⟩ rfl ⟨_, _, hO⟩ rfl rfl (Nat.le_of_ble_eq_true rfl) rfl rfl ⟨(Nat.le_of_ble_eq_true rfl), (Nat.le_of_ble_eq_true rfl)⟩ nX_no (fun v25 μ26 hv27 => ?_)
      obtain ⟨r28, hw31, h29, hm30⟩ := hv27
      subst hw31
      rw [hm30]
      refine x_stk (stk' := [.int (zI r28), .ref m]) rfl ?_
      refine z_if_ne (tgt := 29) C dX9_tell_22 (by decide) (rg_of (by omega) (by omega)) (fun c_32 => ?_) (fun c_32 => ?_)
      · refine x_iload_n C dX9_tell_29 rfl 1 rfl ?_
        refine x_iload_n C dX9_tell_30 rfl 2 rfl ?_
        refine z_icmp_ne (tgt := 38) C dX9_tell_31 (by decide) (rg_of (by omega) (by omega)) (rg_of (by omega) (by omega)) (fun c_33 => ?_) (fun c_33 => ?_)
        · refine z_iconst C dX9_tell_38 ?_
          refine z_put (ci := 10) (Cn := RX9) (T := TX9) (N := 29) (ref := "CairnCipherModel") (fs' := [.ref (A 0), .ref (A 1), .ref (A 2), .ref (A 3), .ref (A 4), .ref (A 5), .ref (A 6), .int (zI (σ 7 0)), .ref (A 8), .ref (A 9), .ref (A 10), .ref (A 11), .int (zI (σ 12 0)), .ref (A 13), .ref (A 14), .ref (A 15), .ref (A 16), .ref (A 17), .int (zI (σ 18 0)), .ref (A 19), .ref (A 20), .ref (A 21), .ref (A 22), .int (zI (σ 23 0)), .int (zI 0), .int (zI fo), .ref (A 26), .int (zI cm), .ref (A 28)]) C dX9_tell_39 in_X9 rfl tyX9 tyX9_ok nmX9 hO 24 (by decide) (by decide +kernel) rfl rfl rfl rfl rfl (Nat.le_of_ble_eq_true rfl) rfl (fun μ34 hOw hF35 => ?_)
          have hMA : MA G μ34 A σ := hF35.ma hMA
          have hCi := hF35.ai hCi
          have hSu := hF35.ai hSu
          have hFr : Fr 3000 3999 μ μ34 := hFr.tr hF35
          have hO := hOw
          refine x_aload_n C dX9_tell_42 rfl 0 rfl ?_
          refine x_get (ci := 10) (Cn := RX9) (T := TX9) (N := 29) (ref := "CairnCipherModel") C dX9_tell_43 in_X9 rfl hO 24 (by decide) (by decide +kernel) rfl rfl ?_
          refine z_if_ne (tgt := 131) C dX9_tell_46 (by decide) (rg_of (by omega) (by omega)) (fun c_36 => ?_) (fun c_36 => ?_)
          · exfalso; omega
          · have ew : ((6 * w) + s).toNat = 6 * w.toNat + s.toNat := by omega
            have eo : ((6 * o) + s).toNat = 6 * o.toNat + s.toNat := by omega
            refine z_bipush C dX9_tell_49 (by decide) ?_
            refine x_iload_n C dX9_tell_51 rfl 2 rfl ?_
            refine z_imul C dX9_tell_52 rfl ?_
            refine x_iload_n C dX9_tell_53 rfl 3 rfl ?_
            refine z_iadd C dX9_tell_54 rfl ?_
            refine x_istore (lv' := [(4, .int (zI ((6 * o) + s))), (0, .ref m), (1, .int (zI w)), (2, .int (zI o)), (3, .int (zI s))]) C dX9_tell_55 (by decide) rfl ?_
            refine x_aload_n C dX9_tell_57 rfl 1 rfl ?_
            refine x_get (ci := 10) (Cn := RX9) (T := TX9) (N := 29) (ref := "CairnCipherModel") C dX9_tell_58 in_X9 rfl hO 20 (by decide) (by decide +kernel) rfl rfl ?_
            refine z_bipush C dX9_tell_61 (by decide) ?_
            refine x_iload_n C dX9_tell_63 rfl 2 rfl ?_
            refine z_imul C dX9_tell_64 rfl ?_
            refine x_iload_n C dX9_tell_65 rfl 4 rfl ?_
            refine z_iadd C dX9_tell_66 rfl ?_
            refine z_zald (j := ((6 * w) + s).toNat) C dX9_tell_67 (show AZ G μ34 (A 20) 3021 36 (σ 20) from hMA.az 20 rfl) (by omega) (by omega) (by decide) ?_
            have q_37 := hI.r20 (((6 * w) + s).toNat) (by omega)
            refine z_if_eq (tgt := 114) C dX9_tell_68 (by decide) (rg_of (by omega) (by omega)) (fun c_38 => ?_) (fun c_38 => ?_)
            · refine z_iconst C dX9_tell_114 ?_
              refine x_istore (lv' := [(5, .int (zI 0)), (4, .int (zI ((6 * o) + s))), (0, .ref m), (1, .int (zI w)), (2, .int (zI o)), (3, .int (zI s))]) C dX9_tell_115 (by decide) rfl ?_
              refine x_aload_n C dX9_tell_117 rfl 2 rfl ?_
              refine x_iload C dX9_tell_118 0 rfl ?_
              refine z_if_eq (tgt := 127) C dX9_tell_120 (by decide) (rg_of (by omega) (by omega)) (fun c_39 => ?_) (fun c_39 => ?_)
              · refine z_iconst C dX9_tell_127 ?_
                refine z_put (ci := 10) (Cn := RX9) (T := TX9) (N := 29) (ref := "CairnCipherModel") (fs' := [.ref (A 0), .ref (A 1), .ref (A 2), .ref (A 3), .ref (A 4), .ref (A 5), .ref (A 6), .int (zI (σ 7 0)), .ref (A 8), .ref (A 9), .ref (A 10), .ref (A 11), .int (zI (σ 12 0)), .ref (A 13), .ref (A 14), .ref (A 15), .ref (A 16), .ref (A 17), .int (zI (σ 18 0)), .ref (A 19), .ref (A 20), .ref (A 21), .ref (A 22), .int (zI (σ 23 0)), .int (zI 3), .int (zI fo), .ref (A 26), .int (zI cm), .ref (A 28)]) C dX9_tell_128 in_X9 rfl tyX9 tyX9_ok nmX9 hO 24 (by decide) (by decide +kernel) rfl rfl rfl rfl rfl (Nat.le_of_ble_eq_true rfl) rfl (fun μ40 hOw hF41 => ?_)
                have hMA : MA G μ40 A σ := hF41.ma hMA
                have hCi := hF41.ai hCi
                have hSu := hF41.ai hSu
                have hFr : Fr 3000 3999 μ μ40 := hFr.tr hF41
                have hO := hOw
                refine x_aload_n C dX9_tell_131 rfl 2 rfl ?_
                refine x_get (ci := 10) (Cn := RX9) (T := TX9) (N := 29) (ref := "CairnCipherModel") C dX9_tell_132 in_X9 rfl hO 24 (by decide) (by decide +kernel) rfl rfl ?_
                refine z_if_le (tgt := 140) C dX9_tell_135 (by decide) (rg_of (by omega) (by omega)) (fun c_42 => ?_) (fun c_42 => ?_)
                · exfalso; omega
                · refine z_iconst C dX9_tell_138 ?_
                  exact x_iret C R dX9_tell_139 (Nat.le_of_ble_eq_true rfl) (Nat.le_of_ble_eq_true rfl) (⟨_, rfl, ⟨Or.inr ⟨by (rw [show t_tell σ w o s = 3 from by (unfold t_tell; rw [← ew, ← eo]; (repeat split) <;> omega)]; omega), by (rw [show t_tell σ w o s = 3 from by (unfold t_tell; rw [← ew, ← eo]; (repeat split) <;> omega)]; exact ⟨_, _, _, _, _, hO, hMA, hCi, hSu⟩)⟩, hFr⟩⟩)
              · exfalso; omega
            · refine x_aload_n C dX9_tell_71 rfl 1 rfl ?_
              refine x_get (ci := 10) (Cn := RX9) (T := TX9) (N := 29) (ref := "CairnCipherModel") C dX9_tell_72 in_X9 rfl hO 14 (by decide) (by decide +kernel) rfl rfl ?_
              refine x_iload_n C dX9_tell_75 rfl 2 rfl ?_
              refine z_iald (j := w.toNat) C dX9_tell_76 (show AI G μ34 (A 14) 3015 6 (σ 14) from hMA.ai 14 rfl) (by omega) (by omega) (by decide) ?_
              have q_43 := hI.r14 w.toNat (by omega)
              refine x_aload_n C dX9_tell_77 rfl 1 rfl ?_
              refine x_get (ci := 10) (Cn := RX9) (T := TX9) (N := 29) (ref := "CairnCipherModel") C dX9_tell_78 in_X9 rfl hO 14 (by decide) (by decide +kernel) rfl rfl ?_
              refine x_iload_n C dX9_tell_81 rfl 3 rfl ?_
              refine z_iald (j := o.toNat) C dX9_tell_82 (show AI G μ34 (A 14) 3015 6 (σ 14) from hMA.ai 14 rfl) (by omega) (by omega) (by decide) ?_
              have q_44 := hI.r14 o.toNat (by omega)
              refine x_callS (n := 2) (cc9 := 0) (ss9 := 0) (rest := []) C dX9_tell_83 (c_X9_distance (kxL E) C.st G z μ34 ((σ 14) w.toNat) ((σ 14) o.toNat) (by omega) (by omega)) gX9_tell_X9_distance rfl (by decide +kernel) ⟨(Nat.le_of_ble_eq_true rfl), (Nat.le_of_ble_eq_true rfl)⟩ rfl rfl (Nat.le_of_ble_eq_true rfl) rfl rfl ⟨(Nat.le_of_ble_eq_true rfl), (Nat.le_of_ble_eq_true rfl)⟩ nX_no (fun v45 μ46 hv47 => ?_)
              obtain ⟨r48, hw51, h49, hm50⟩ := hv47
              subst hw51
              rw [hm50]
              have hd8 := h49
              have hd9 := dst_rg (p := σ 14 w.toNat) (q := σ 14 o.toNat) (by omega) (by omega)
              refine x_stk (stk' := [.int (zI r48)]) rfl ?_
              refine z_iconst C dX9_tell_86 ?_
              refine z_icmp_ge (tgt := 114) C dX9_tell_87 (by decide) (rg_of (by omega) (by omega)) (rg_of (by omega) (by omega)) (fun c_52 => ?_) (fun c_52 => ?_)
              · refine z_iconst C dX9_tell_114 ?_
                refine x_istore (lv' := [(5, .int (zI 0)), (4, .int (zI ((6 * o) + s))), (0, .ref m), (1, .int (zI w)), (2, .int (zI o)), (3, .int (zI s))]) C dX9_tell_115 (by decide) rfl ?_
                refine x_aload_n C dX9_tell_117 rfl 2 rfl ?_
                refine x_iload C dX9_tell_118 0 rfl ?_
                refine z_if_eq (tgt := 127) C dX9_tell_120 (by decide) (rg_of (by omega) (by omega)) (fun c_53 => ?_) (fun c_53 => ?_)
                · refine z_iconst C dX9_tell_127 ?_
                  refine z_put (ci := 10) (Cn := RX9) (T := TX9) (N := 29) (ref := "CairnCipherModel") (fs' := [.ref (A 0), .ref (A 1), .ref (A 2), .ref (A 3), .ref (A 4), .ref (A 5), .ref (A 6), .int (zI (σ 7 0)), .ref (A 8), .ref (A 9), .ref (A 10), .ref (A 11), .int (zI (σ 12 0)), .ref (A 13), .ref (A 14), .ref (A 15), .ref (A 16), .ref (A 17), .int (zI (σ 18 0)), .ref (A 19), .ref (A 20), .ref (A 21), .ref (A 22), .int (zI (σ 23 0)), .int (zI 3), .int (zI fo), .ref (A 26), .int (zI cm), .ref (A 28)]) C dX9_tell_128 in_X9 rfl tyX9 tyX9_ok nmX9 hO 24 (by decide) (by decide +kernel) rfl rfl rfl rfl rfl (Nat.le_of_ble_eq_true rfl) rfl (fun μ54 hOw hF55 => ?_)
                  have hMA : MA G μ54 A σ := hF55.ma hMA
                  have hCi := hF55.ai hCi
                  have hSu := hF55.ai hSu
                  have hFr : Fr 3000 3999 μ μ54 := hFr.tr hF55
                  have hO := hOw
                  refine x_aload_n C dX9_tell_131 rfl 2 rfl ?_
                  refine x_get (ci := 10) (Cn := RX9) (T := TX9) (N := 29) (ref := "CairnCipherModel") C dX9_tell_132 in_X9 rfl hO 24 (by decide) (by decide +kernel) rfl rfl ?_
                  refine z_if_le (tgt := 140) C dX9_tell_135 (by decide) (rg_of (by omega) (by omega)) (fun c_56 => ?_) (fun c_56 => ?_)
                  · exfalso; omega
                  · refine z_iconst C dX9_tell_138 ?_
                    exact x_iret C R dX9_tell_139 (Nat.le_of_ble_eq_true rfl) (Nat.le_of_ble_eq_true rfl) (⟨_, rfl, ⟨Or.inr ⟨by (rw [show t_tell σ w o s = 3 from by (unfold t_tell; rw [← ew, ← eo]; (repeat split) <;> omega)]; omega), by (rw [show t_tell σ w o s = 3 from by (unfold t_tell; rw [← ew, ← eo]; (repeat split) <;> omega)]; exact ⟨_, _, _, _, _, hO, hMA, hCi, hSu⟩)⟩, hFr⟩⟩)
                · exfalso; omega
              · refine x_aload_n C dX9_tell_90 rfl 1 rfl ?_
                refine x_get (ci := 10) (Cn := RX9) (T := TX9) (N := 29) (ref := "CairnCipherModel") C dX9_tell_91 in_X9 rfl hO 20 (by decide) (by decide +kernel) rfl rfl ?_
                refine x_iload C dX9_tell_94 0 rfl ?_
                refine z_zald (j := ((6 * o) + s).toNat) C dX9_tell_96 (show AZ G μ34 (A 20) 3021 36 (σ 20) from hMA.az 20 rfl) (by omega) (by omega) (by decide) ?_
                have q_57 := hI.r20 (((6 * o) + s).toNat) (by omega)
                refine z_if_ne (tgt := 114) C dX9_tell_97 (by decide) (rg_of (by omega) (by omega)) (fun c_58 => ?_) (fun c_58 => ?_)
                · refine z_iconst C dX9_tell_114 ?_
                  refine x_istore (lv' := [(5, .int (zI 0)), (4, .int (zI ((6 * o) + s))), (0, .ref m), (1, .int (zI w)), (2, .int (zI o)), (3, .int (zI s))]) C dX9_tell_115 (by decide) rfl ?_
                  refine x_aload_n C dX9_tell_117 rfl 2 rfl ?_
                  refine x_iload C dX9_tell_118 0 rfl ?_
                  refine z_if_eq (tgt := 127) C dX9_tell_120 (by decide) (rg_of (by omega) (by omega)) (fun c_59 => ?_) (fun c_59 => ?_)
                  · refine z_iconst C dX9_tell_127 ?_
                    refine z_put (ci := 10) (Cn := RX9) (T := TX9) (N := 29) (ref := "CairnCipherModel") (fs' := [.ref (A 0), .ref (A 1), .ref (A 2), .ref (A 3), .ref (A 4), .ref (A 5), .ref (A 6), .int (zI (σ 7 0)), .ref (A 8), .ref (A 9), .ref (A 10), .ref (A 11), .int (zI (σ 12 0)), .ref (A 13), .ref (A 14), .ref (A 15), .ref (A 16), .ref (A 17), .int (zI (σ 18 0)), .ref (A 19), .ref (A 20), .ref (A 21), .ref (A 22), .int (zI (σ 23 0)), .int (zI 3), .int (zI fo), .ref (A 26), .int (zI cm), .ref (A 28)]) C dX9_tell_128 in_X9 rfl tyX9 tyX9_ok nmX9 hO 24 (by decide) (by decide +kernel) rfl rfl rfl rfl rfl (Nat.le_of_ble_eq_true rfl) rfl (fun μ60 hOw hF61 => ?_)
                    have hMA : MA G μ60 A σ := hF61.ma hMA
                    have hCi := hF61.ai hCi
                    have hSu := hF61.ai hSu
                    have hFr : Fr 3000 3999 μ μ60 := hFr.tr hF61
                    have hO := hOw
                    refine x_aload_n C dX9_tell_131 rfl 2 rfl ?_
                    refine x_get (ci := 10) (Cn := RX9) (T := TX9) (N := 29) (ref := "CairnCipherModel") C dX9_tell_132 in_X9 rfl hO 24 (by decide) (by decide +kernel) rfl rfl ?_
                    refine z_if_le (tgt := 140) C dX9_tell_135 (by decide) (rg_of (by omega) (by omega)) (fun c_62 => ?_) (fun c_62 => ?_)
                    · exfalso; omega
                    · refine z_iconst C dX9_tell_138 ?_
                      exact x_iret C R dX9_tell_139 (Nat.le_of_ble_eq_true rfl) (Nat.le_of_ble_eq_true rfl) (⟨_, rfl, ⟨Or.inr ⟨by (rw [show t_tell σ w o s = 3 from by (unfold t_tell; rw [← ew, ← eo]; (repeat split) <;> omega)]; omega), by (rw [show t_tell σ w o s = 3 from by (unfold t_tell; rw [← ew, ← eo]; (repeat split) <;> omega)]; exact ⟨_, _, _, _, _, hO, hMA, hCi, hSu⟩)⟩, hFr⟩⟩)
                  · exfalso; omega
                · refine x_aload_n C dX9_tell_100 rfl 1 rfl ?_
                  refine x_get (ci := 10) (Cn := RX9) (T := TX9) (N := 29) (ref := "CairnCipherModel") C dX9_tell_101 in_X9 rfl hO 21 (by decide) (by decide +kernel) rfl rfl ?_
                  refine x_iload C dX9_tell_104 0 rfl ?_
                  refine z_zald (j := ((6 * o) + s).toNat) C dX9_tell_106 (show AZ G μ34 (A 21) 3022 36 (σ 21) from hMA.az 21 rfl) (by omega) (by omega) (by decide) ?_
                  have q_63 := hI.r21 (((6 * o) + s).toNat) (by omega)
                  refine z_if_ne (tgt := 114) C dX9_tell_107 (by decide) (rg_of (by omega) (by omega)) (fun c_64 => ?_) (fun c_64 => ?_)
                  · refine z_iconst C dX9_tell_114 ?_
                    refine x_istore (lv' := [(5, .int (zI 0)), (4, .int (zI ((6 * o) + s))), (0, .ref m), (1, .int (zI w)), (2, .int (zI o)), (3, .int (zI s))]) C dX9_tell_115 (by decide) rfl ?_
                    refine x_aload_n C dX9_tell_117 rfl 2 rfl ?_
                    refine x_iload C dX9_tell_118 0 rfl ?_
                    refine z_if_eq (tgt := 127) C dX9_tell_120 (by decide) (rg_of (by omega) (by omega)) (fun c_65 => ?_) (fun c_65 => ?_)
                    · refine z_iconst C dX9_tell_127 ?_
                      refine z_put (ci := 10) (Cn := RX9) (T := TX9) (N := 29) (ref := "CairnCipherModel") (fs' := [.ref (A 0), .ref (A 1), .ref (A 2), .ref (A 3), .ref (A 4), .ref (A 5), .ref (A 6), .int (zI (σ 7 0)), .ref (A 8), .ref (A 9), .ref (A 10), .ref (A 11), .int (zI (σ 12 0)), .ref (A 13), .ref (A 14), .ref (A 15), .ref (A 16), .ref (A 17), .int (zI (σ 18 0)), .ref (A 19), .ref (A 20), .ref (A 21), .ref (A 22), .int (zI (σ 23 0)), .int (zI 3), .int (zI fo), .ref (A 26), .int (zI cm), .ref (A 28)]) C dX9_tell_128 in_X9 rfl tyX9 tyX9_ok nmX9 hO 24 (by decide) (by decide +kernel) rfl rfl rfl rfl rfl (Nat.le_of_ble_eq_true rfl) rfl (fun μ66 hOw hF67 => ?_)
                      have hMA : MA G μ66 A σ := hF67.ma hMA
                      have hCi := hF67.ai hCi
                      have hSu := hF67.ai hSu
                      have hFr : Fr 3000 3999 μ μ66 := hFr.tr hF67
                      have hO := hOw
                      refine x_aload_n C dX9_tell_131 rfl 2 rfl ?_
                      refine x_get (ci := 10) (Cn := RX9) (T := TX9) (N := 29) (ref := "CairnCipherModel") C dX9_tell_132 in_X9 rfl hO 24 (by decide) (by decide +kernel) rfl rfl ?_
                      refine z_if_le (tgt := 140) C dX9_tell_135 (by decide) (rg_of (by omega) (by omega)) (fun c_68 => ?_) (fun c_68 => ?_)
                      · exfalso; omega
                      · refine z_iconst C dX9_tell_138 ?_
                        exact x_iret C R dX9_tell_139 (Nat.le_of_ble_eq_true rfl) (Nat.le_of_ble_eq_true rfl) (⟨_, rfl, ⟨Or.inr ⟨by (rw [show t_tell σ w o s = 3 from by (unfold t_tell; rw [← ew, ← eo]; (repeat split) <;> omega)]; omega), by (rw [show t_tell σ w o s = 3 from by (unfold t_tell; rw [← ew, ← eo]; (repeat split) <;> omega)]; exact ⟨_, _, _, _, _, hO, hMA, hCi, hSu⟩)⟩, hFr⟩⟩)
                    · exfalso; omega
                  · refine z_iconst C dX9_tell_110 ?_
                    refine x_goto (tgt := 115) C dX9_tell_111 (by decide) ?_
                    refine x_istore (lv' := [(5, .int (zI 1)), (4, .int (zI ((6 * o) + s))), (0, .ref m), (1, .int (zI w)), (2, .int (zI o)), (3, .int (zI s))]) C dX9_tell_115 (by decide) rfl ?_
                    refine x_aload_n C dX9_tell_117 rfl 2 rfl ?_
                    refine x_iload C dX9_tell_118 0 rfl ?_
                    refine z_if_eq (tgt := 127) C dX9_tell_120 (by decide) (rg_of (by omega) (by omega)) (fun c_69 => ?_) (fun c_69 => ?_)
                    · exfalso; omega
                    · refine z_iconst C dX9_tell_123 ?_
                      refine x_goto (tgt := 128) C dX9_tell_124 (by decide) ?_
                      refine z_put (ci := 10) (Cn := RX9) (T := TX9) (N := 29) (ref := "CairnCipherModel") (fs' := [.ref (A 0), .ref (A 1), .ref (A 2), .ref (A 3), .ref (A 4), .ref (A 5), .ref (A 6), .int (zI (σ 7 0)), .ref (A 8), .ref (A 9), .ref (A 10), .ref (A 11), .int (zI (σ 12 0)), .ref (A 13), .ref (A 14), .ref (A 15), .ref (A 16), .ref (A 17), .int (zI (σ 18 0)), .ref (A 19), .ref (A 20), .ref (A 21), .ref (A 22), .int (zI (σ 23 0)), .int (zI 0), .int (zI fo), .ref (A 26), .int (zI cm), .ref (A 28)]) C dX9_tell_128 in_X9 rfl tyX9 tyX9_ok nmX9 hO 24 (by decide) (by decide +kernel) rfl rfl rfl rfl rfl (Nat.le_of_ble_eq_true rfl) rfl (fun μ70 hOw hF71 => ?_)
                      have hMA : MA G μ70 A σ := hF71.ma hMA
                      have hCi := hF71.ai hCi
                      have hSu := hF71.ai hSu
                      have hFr : Fr 3000 3999 μ μ70 := hFr.tr hF71
                      have hO := hOw
                      refine x_aload_n C dX9_tell_131 rfl 2 rfl ?_
                      refine x_get (ci := 10) (Cn := RX9) (T := TX9) (N := 29) (ref := "CairnCipherModel") C dX9_tell_132 in_X9 rfl hO 24 (by decide) (by decide +kernel) rfl rfl ?_
                      refine z_if_le (tgt := 140) C dX9_tell_135 (by decide) (rg_of (by omega) (by omega)) (fun c_72 => ?_) (fun c_72 => ?_)
                      · refine x_aload_n C dX9_tell_140 rfl 2 rfl ?_
                        refine x_get (ci := 10) (Cn := RX9) (T := TX9) (N := 29) (ref := "CairnCipherModel") C dX9_tell_141 in_X9 rfl hO 21 (by decide) (by decide +kernel) rfl rfl ?_
                        refine z_bipush C dX9_tell_144 (by decide) ?_
                        refine x_iload_n C dX9_tell_146 rfl 4 rfl ?_
                        refine z_imul C dX9_tell_147 rfl ?_
                        refine x_iload_n C dX9_tell_148 rfl 5 rfl ?_
                        refine z_iadd C dX9_tell_149 rfl ?_
                        refine z_iconst C dX9_tell_150 ?_
                        refine z_zast (j := ((6 * o) + s).toNat) C dX9_tell_151 (show AZ G μ70 (A 21) 3022 36 (σ 21) from hMA.az 21 rfl) (by omega) (by omega) (by decide) (by omega) (fun μ73 hq75 hF74 => ?_)
                        have hMAn : MA G μ73 A (su σ 21 (wr (σ 21) (((6 * o) + s).toNat) 1)) := hMA.upz (k := 21) rfl hq75 hF74
                        have hO := hF74.ob hO
                        have hCi := hF74.ai hCi
                        have hSu := hF74.ai hSu
                        have hFr : Fr 3000 3999 μ μ73 := hFr.tr hF74
                        have hMA := hMAn
                        have hMA : MA G μ73 A (n_tell σ o s) := by (unfold n_tell; rw [← eo]; exact hMA)
                        have hI9 := Iv_tell (o := o) (s := s) hI
                        refine x_aload_n C dX9_tell_152 rfl 2 rfl ?_
                        refine x_iload_n C dX9_tell_153 rfl 4 rfl ?_
                        refine x_iload_n C dX9_tell_154 rfl 5 rfl ?_
                        refine x_callV (n := 2) (ci := 10) (Cn := RX9) (T := TX9) (N := 29) (cc9 := 0) (ss9 := 0) (rest := []) C dX9_tell_155 (c_X9_points (kxL E) C.st G z μ73 _ (n_tell σ o s) _ _ _ _ _ _ _ o s ⟨hO, hMA, hCi, hSu⟩ hI9 (by omega) (by omega) (by omega)) gX9_tell_X9_points rfl (by decide +kernel) ⟨(Nat.le_of_ble_eq_true rfl), (Nat.le_of_ble_eq_true rfl)⟩ rfl ⟨_, _, hO⟩ rfl rfl (Nat.le_of_ble_eq_true rfl) rfl rfl ⟨(Nat.le_of_ble_eq_true rfl), (Nat.le_of_ble_eq_true rfl)⟩ nX_no (fun v76 μ77 hv78 => ?_)
                        obtain ⟨r79, hw82, h80, hm81⟩ := hv78
                        subst hw82
                        rw [hm81]
                        have hp9 := h80
                        rw [show n_tell σ o s 21 (6 * o.toNat + s.toNat) = 1 from wr_at] at hp9
                        refine x_stk (stk' := [.int (zI r79)]) rfl ?_
                        exact x_iret C R dX9_tell_158 (Nat.le_of_ble_eq_true rfl) (Nat.le_of_ble_eq_true rfl) (⟨_, rfl, ⟨Or.inl ⟨by (unfold t_tell; rw [← ew, ← eo]; (repeat split) <;> omega), hp9, ⟨_, _, _, _, _, hO, hMA, hCi, hSu⟩⟩, hFr⟩⟩)
                      · exfalso; omega
        · refine z_iconst C dX9_tell_34 ?_
          refine x_goto (tgt := 39) C dX9_tell_35 (by decide) ?_
          refine z_put (ci := 10) (Cn := RX9) (T := TX9) (N := 29) (ref := "CairnCipherModel") (fs' := [.ref (A 0), .ref (A 1), .ref (A 2), .ref (A 3), .ref (A 4), .ref (A 5), .ref (A 6), .int (zI (σ 7 0)), .ref (A 8), .ref (A 9), .ref (A 10), .ref (A 11), .int (zI (σ 12 0)), .ref (A 13), .ref (A 14), .ref (A 15), .ref (A 16), .ref (A 17), .int (zI (σ 18 0)), .ref (A 19), .ref (A 20), .ref (A 21), .ref (A 22), .int (zI (σ 23 0)), .int (zI 2), .int (zI fo), .ref (A 26), .int (zI cm), .ref (A 28)]) C dX9_tell_39 in_X9 rfl tyX9 tyX9_ok nmX9 hO 24 (by decide) (by decide +kernel) rfl rfl rfl rfl rfl (Nat.le_of_ble_eq_true rfl) rfl (fun μ83 hOw hF84 => ?_)
          have hMA : MA G μ83 A σ := hF84.ma hMA
          have hCi := hF84.ai hCi
          have hSu := hF84.ai hSu
          have hFr : Fr 3000 3999 μ μ83 := hFr.tr hF84
          have hO := hOw
          refine x_aload_n C dX9_tell_42 rfl 0 rfl ?_
          refine x_get (ci := 10) (Cn := RX9) (T := TX9) (N := 29) (ref := "CairnCipherModel") C dX9_tell_43 in_X9 rfl hO 24 (by decide) (by decide +kernel) rfl rfl ?_
          refine z_if_ne (tgt := 131) C dX9_tell_46 (by decide) (rg_of (by omega) (by omega)) (fun c_85 => ?_) (fun c_85 => ?_)
          · refine x_aload_n C dX9_tell_131 rfl 0 rfl ?_
            refine x_get (ci := 10) (Cn := RX9) (T := TX9) (N := 29) (ref := "CairnCipherModel") C dX9_tell_132 in_X9 rfl hO 24 (by decide) (by decide +kernel) rfl rfl ?_
            refine z_if_le (tgt := 140) C dX9_tell_135 (by decide) (rg_of (by omega) (by omega)) (fun c_86 => ?_) (fun c_86 => ?_)
            · exfalso; omega
            · refine z_iconst C dX9_tell_138 ?_
              exact x_iret C R dX9_tell_139 (Nat.le_of_ble_eq_true rfl) (Nat.le_of_ble_eq_true rfl) (⟨_, rfl, ⟨Or.inr ⟨by (rw [show t_tell σ w o s = 2 from by (unfold t_tell; (repeat split) <;> omega)]; omega), by (rw [show t_tell σ w o s = 2 from by (unfold t_tell; (repeat split) <;> omega)]; exact ⟨_, _, _, _, _, hO, hMA, hCi, hSu⟩)⟩, hFr⟩⟩)
          · exfalso; omega
      · refine z_iconst C dX9_tell_25 ?_
        refine x_goto (tgt := 39) C dX9_tell_26 (by decide) ?_
        refine z_put (ci := 10) (Cn := RX9) (T := TX9) (N := 29) (ref := "CairnCipherModel") (fs' := [.ref (A 0), .ref (A 1), .ref (A 2), .ref (A 3), .ref (A 4), .ref (A 5), .ref (A 6), .int (zI (σ 7 0)), .ref (A 8), .ref (A 9), .ref (A 10), .ref (A 11), .int (zI (σ 12 0)), .ref (A 13), .ref (A 14), .ref (A 15), .ref (A 16), .ref (A 17), .int (zI (σ 18 0)), .ref (A 19), .ref (A 20), .ref (A 21), .ref (A 22), .int (zI (σ 23 0)), .int (zI 1), .int (zI fo), .ref (A 26), .int (zI cm), .ref (A 28)]) C dX9_tell_39 in_X9 rfl tyX9 tyX9_ok nmX9 hO 24 (by decide) (by decide +kernel) rfl rfl rfl rfl rfl (Nat.le_of_ble_eq_true rfl) rfl (fun μ87 hOw hF88 => ?_)
        have hMA : MA G μ87 A σ := hF88.ma hMA
        have hCi := hF88.ai hCi
        have hSu := hF88.ai hSu
        have hFr : Fr 3000 3999 μ μ87 := hFr.tr hF88
        have hO := hOw
        refine x_aload_n C dX9_tell_42 rfl 0 rfl ?_
        refine x_get (ci := 10) (Cn := RX9) (T := TX9) (N := 29) (ref := "CairnCipherModel") C dX9_tell_43 in_X9 rfl hO 24 (by decide) (by decide +kernel) rfl rfl ?_
        refine z_if_ne (tgt := 131) C dX9_tell_46 (by decide) (rg_of (by omega) (by omega)) (fun c_89 => ?_) (fun c_89 => ?_)
        · refine x_aload_n C dX9_tell_131 rfl 0 rfl ?_
          refine x_get (ci := 10) (Cn := RX9) (T := TX9) (N := 29) (ref := "CairnCipherModel") C dX9_tell_132 in_X9 rfl hO 24 (by decide) (by decide +kernel) rfl rfl ?_
          refine z_if_le (tgt := 140) C dX9_tell_135 (by decide) (rg_of (by omega) (by omega)) (fun c_90 => ?_) (fun c_90 => ?_)
          · exfalso; omega
          · refine z_iconst C dX9_tell_138 ?_
            exact x_iret C R dX9_tell_139 (Nat.le_of_ble_eq_true rfl) (Nat.le_of_ble_eq_true rfl) (⟨_, rfl, ⟨Or.inr ⟨by (rw [show t_tell σ w o s = 1 from by (unfold t_tell; (repeat split) <;> omega)]; omega), by (rw [show t_tell σ w o s = 1 from by (unfold t_tell; (repeat split) <;> omega)]; exact ⟨_, _, _, _, _, hO, hMA, hCi, hSu⟩)⟩, hFr⟩⟩)
        · exfalso; omega
abbrev rm_X9_scoreOf : Room := { frames := 1, cells := 0, slots := 0, locals := 23 }
set_option maxHeartbeats 4000000 in
set_option maxRecDepth 100000 in
theorem c_X9_scoreOf (l : Launch) (hst : l.stackTraces = false) (G : GG) (z : Nat) (μ : Mm) (m : Nat) (σ : SS) (n : Nat) (th fo cm : Int) (Ci Su : Nat → Int) (A : Nat → Nat) (w : Int) (hM9 : RepY G μ m σ th fo cm Ci Su A) (hI : Iv σ n) (hw : 0 ≤ w ∧ w < 6) (hn5 : n ≤ 600) : Ct l yX9_scoreOf wsX9_scoreOf rm_X9_scoreOf G z [.ref m, .int (zI w)] μ (rP μ (fun r9 => r9 = b_score σ w.toNat ∧ 0 ≤ r9 ∧ r9 ≤ 600)) (nX) := by
  refine ct_of (cc := cX9_scoreOf) (maxL := 4) (ret := (some .int)) (own := RX9) (by decide) rfl rfl hst (Nat.le_of_ble_eq_true rfl) ?_
  intro E hLl hnm C R hT
  have in_X9 : ∀ w ∈ u_ws RX9 TX9 29, w ∈ wsX9_scoreOf := by decide +kernel
  have hM8 := hM9
  obtain ⟨hO, hMA, hCi, hSu⟩ := hM9
  have hn7 := hI.n7
  have hn12 := hI.n12
  have hn18 := hI.n18
  have hn23 := hI.n23
  refine x_eq (lv' := [(0, .ref m), (1, .int (zI w))]) rfl rfl ?_
  refine z_iconst C dX9_scoreOf_0 ?_
  refine x_istore_n (lv' := [(2, .int (zI 0)), (0, .ref m), (1, .int (zI w))]) C dX9_scoreOf_1 rfl (by decide) rfl ?_
  refine z_iconst C dX9_scoreOf_2 ?_
  refine x_istore_n (lv' := [(3, .int (zI 0)), (2, .int (zI 0)), (0, .ref m), (1, .int (zI w))]) C dX9_scoreOf_3 rfl (by decide) rfl ?_
  have L4 : ∀ (M9 : Nat) (k : Nat) (kz : Int) (hkz : kz = (k : Int)) (s : Int) (hk : k ≤ (σ 7 0).toNat) (hs : s = sm (ptq σ w.toNat) k) (hM9 : (σ 7 0).toNat - k = M9), Wx E G 0 0 4 [(3, .int (zI kz)), (2, .int (zI s)), (0, .ref m), (1, .int (zI w))] [] μ := by
    intro M9
    induction M9 using Nat.strongRecOn with
    | ind M9 ih4 =>
      intro k kz hkz s hk hs hM9
      subst hkz
      have ew : ((6 * w) + (k : Int)).toNat = 6 * w.toNat + k := by omega
      have hsr := b_score_rg hI hn5 (w := w.toNat) (by omega) k (by omega)
      have hk6 := hI.n7
      refine x_iload_n C dX9_scoreOf_4 rfl 0 rfl ?_
      refine x_aload_n C dX9_scoreOf_5 rfl 2 rfl ?_
      refine x_get (ci := 10) (Cn := RX9) (T := TX9) (N := 29) (ref := "CairnCipherModel") C dX9_scoreOf_6 in_X9 rfl hO 7 (by decide) (by decide +kernel) rfl rfl ?_
      refine z_icmp_ge (tgt := 45) C dX9_scoreOf_9 (by decide) (rg_of (by omega) (by omega)) (rg_of (by omega) (by omega)) (fun c_1 => ?_) (fun c_1 => ?_)
      · refine x_iload_n C dX9_scoreOf_45 rfl 1 rfl ?_
        exact x_iret C R dX9_scoreOf_46 (Nat.le_of_ble_eq_true rfl) (Nat.le_of_ble_eq_true rfl) (⟨_, rfl, ⟨by (unfold b_score; rw [hs, show k = (σ 7 0).toNat by omega]), by omega, by omega⟩, rfl⟩)
      · refine x_iload_n C dX9_scoreOf_12 rfl 1 rfl ?_
        refine x_aload_n C dX9_scoreOf_13 rfl 2 rfl ?_
        refine x_get (ci := 10) (Cn := RX9) (T := TX9) (N := 29) (ref := "CairnCipherModel") C dX9_scoreOf_14 in_X9 rfl hO 20 (by decide) (by decide +kernel) rfl rfl ?_
        refine z_bipush C dX9_scoreOf_17 (by decide) ?_
        refine x_iload_n C dX9_scoreOf_19 rfl 3 rfl ?_
        refine z_imul C dX9_scoreOf_20 rfl ?_
        refine x_iload_n C dX9_scoreOf_21 rfl 0 rfl ?_
        refine z_iadd C dX9_scoreOf_22 rfl ?_
        refine z_zald (j := ((6 * w) + (k : Int)).toNat) C dX9_scoreOf_23 (show AZ G μ (A 20) 3021 36 (σ 20) from hMA.az 20 rfl) (by omega) (by omega) (by decide) ?_
        have q_2 := hI.r20 (((6 * w) + (k : Int)).toNat) (by omega)
        refine z_if_eq (tgt := 36) C dX9_scoreOf_24 (by decide) (rg_of (by omega) (by omega)) (fun c_3 => ?_) (fun c_3 => ?_)
        · refine z_iconst C dX9_scoreOf_36 ?_
          refine z_iadd C dX9_scoreOf_37 rfl ?_
          refine x_istore_n (lv' := [(2, .int (zI (s + 0))), (3, .int (zI (k : Int))), (0, .ref m), (1, .int (zI w))]) C dX9_scoreOf_38 rfl (by decide) rfl ?_
          refine z_iinc (lv' := [(3, .int (zI ((k : Int) + 1))), (2, .int (zI (s + 0))), (0, .ref m), (1, .int (zI w))]) C dX9_scoreOf_39 1 rfl rfl (by decide) rfl ?_
          refine x_goto (tgt := 4) C dX9_scoreOf_42 (by decide) ?_
          exact ih4 _ (by omega) (k + 1) _ (by omega) _ (by omega) (by rw [show sm (ptq σ w.toNat) (k + 1) = sm (ptq σ w.toNat) k + (if σ 20 (6 * w.toNat + k) = 1 then pts (σ 22 (6 * w.toNat + k)) (σ 21 (6 * w.toNat + k)) else 0) from rfl, ← ew]; split <;> omega) rfl
        · refine x_aload_n C dX9_scoreOf_27 rfl 2 rfl ?_
          refine x_iload_n C dX9_scoreOf_28 rfl 3 rfl ?_
          refine x_iload_n C dX9_scoreOf_29 rfl 0 rfl ?_
          refine x_callV (n := 2) (ci := 10) (Cn := RX9) (T := TX9) (N := 29) (cc9 := 0) (ss9 := 0) (rest := [.int (zI s)]) C dX9_scoreOf_30 (c_X9_points (kxL E) C.st G z μ _ σ _ _ _ _ _ _ _ w (k : Int) ⟨hO, hMA, hCi, hSu⟩ hI (by omega) (by omega) (by omega)) gX9_scoreOf_X9_points rfl (by decide +kernel) ⟨(Nat.le_of_ble_eq_true rfl), (Nat.le_of_ble_eq_true rfl)⟩ rfl ⟨_, _, hO⟩ rfl rfl (Nat.le_of_ble_eq_true rfl) rfl rfl ⟨(Nat.le_of_ble_eq_true rfl), (Nat.le_of_ble_eq_true rfl)⟩ nX_no (fun v4 μ5 hv6 => ?_)
          obtain ⟨r7, hw10, h8, hm9⟩ := hv6
          subst hw10
          rw [hm9]
          rw [Int.toNat_natCast, ← ew] at h8
          have hp9 := h8
          have hp8 := pts_rg (w := σ 22 (((6 * w) + (k : Int)).toNat)) (t := σ 21 (((6 * w) + (k : Int)).toNat)) (by (have := hI.r22 _ (show ((6 * w) + (k : Int)).toNat < 36 by omega); omega))
          refine x_stk (stk' := [.int (zI r7), .int (zI s)]) rfl ?_
          refine x_goto (tgt := 37) C dX9_scoreOf_33 (by decide) ?_
          refine z_iadd C dX9_scoreOf_37 rfl ?_
          refine x_istore_n (lv' := [(2, .int (zI (s + r7))), (3, .int (zI (k : Int))), (0, .ref m), (1, .int (zI w))]) C dX9_scoreOf_38 rfl (by decide) rfl ?_
          refine z_iinc (lv' := [(3, .int (zI ((k : Int) + 1))), (2, .int (zI (s + r7))), (0, .ref m), (1, .int (zI w))]) C dX9_scoreOf_39 1 rfl rfl (by decide) rfl ?_
          refine x_goto (tgt := 4) C dX9_scoreOf_42 (by decide) ?_
          exact ih4 _ (by omega) (k + 1) _ (by omega) _ (by omega) (by rw [show sm (ptq σ w.toNat) (k + 1) = sm (ptq σ w.toNat) k + (if σ 20 (6 * w.toNat + k) = 1 then pts (σ 22 (6 * w.toNat + k)) (σ 21 (6 * w.toNat + k)) else 0) from rfl, ← ew]; split <;> omega) rfl
  exact L4 _ (0) _ (by omega) _ (by omega) rfl rfl
abbrev rm_X9_solved : Room := { frames := 2, cells := 0, slots := 0, locals := 43 }
set_option maxHeartbeats 4000000 in
set_option maxRecDepth 100000 in
theorem c_X9_solved (l : Launch) (hst : l.stackTraces = false) (G : GG) (z : Nat) (μ : Mm) (m : Nat) (σ : SS) (n : Nat) (th fo cm : Int) (Ci Su : Nat → Int) (A : Nat → Nat) (k : Int) (hM9 : RepY G μ m σ th fo cm Ci Su A) (hI : Iv σ n) (hk : -2147483648 ≤ k ∧ k < 2147483648) : Ct l yX9_solved wsX9_solved rm_X9_solved G z [.ref m, .int (zI k)] μ (rS (fun r9 μ' => MR G μ' m (t_wk σ k) (b_solved σ k.toNat) σ (σ) r9 ∧ Fr 3000 3999 μ μ')) (nX) := by
  refine ct_of (cc := cX9_solved) (maxL := 2) (ret := (some .int)) (own := RX9) (by decide) rfl rfl hst (Nat.le_of_ble_eq_true rfl) ?_
  intro E hLl hnm C R hT
  have in_X9 : ∀ w ∈ u_ws RX9 TX9 29, w ∈ wsX9_solved := by decide +kernel
  have hM8 := hM9
  obtain ⟨hO, hMA, hCi, hSu⟩ := hM9
  have hn7 := hI.n7
  have hn12 := hI.n12
  have hn18 := hI.n18
  have hn23 := hI.n23
  have hFr : Fr 3000 3999 μ μ := Fr.rf
  refine x_eq (lv' := [(0, .ref m), (1, .int (zI k))]) rfl rfl ?_
  refine x_aload_n C dX9_solved_0 rfl 0 rfl ?_
  refine x_aload_n C dX9_solved_1 rfl 0 rfl ?_
  refine x_iload_n C dX9_solved_2 rfl 1 rfl ?_
  refine x_callV (n := 1) (ci := 10) (Cn := RX9) (T := TX9) (N := 29) (cc9 := 0) (ss9 := 0) (rest := [.ref m]) C dX9_solved_3 (c_X9_isWalker (kxL E) C.st G z μ _ σ _ _ _ _ _ _ _ k ⟨hO, hMA, hCi, hSu⟩ hI (by omega)) gX9_solved_X9_isWalker rfl (by decide +kernel) ⟨(Nat.le_of_ble_eq_true rfl), (Nat.le_of_ble_eq_true rfl)⟩ rfl ⟨_, _, hO⟩ rfl rfl (Nat.le_of_ble_eq_true rfl) rfl rfl ⟨(Nat.le_of_ble_eq_true rfl), (Nat.le_of_ble_eq_true rfl)⟩ nX_no (fun v1 μ2 hv3 => ?_)
  obtain ⟨r4, hw7, h5, hm6⟩ := hv3
  subst hw7
  rw [hm6]
  refine x_stk (stk' := [.int (zI r4), .ref m]) rfl ?_
  refine z_if_eq (tgt := 13) C dX9_solved_6 (by decide) (rg_of (by omega) (by omega)) (fun c_8 => ?_) (fun c_8 => ?_)
  · refine z_iconst C dX9_solved_13 ?_
    refine z_put (ci := 10) (Cn := RX9) (T := TX9) (N := 29) (ref := "CairnCipherModel") (fs' := [.ref (A 0), .ref (A 1), .ref (A 2), .ref (A 3), .ref (A 4), .ref (A 5), .ref (A 6), .int (zI (σ 7 0)), .ref (A 8), .ref (A 9), .ref (A 10), .ref (A 11), .int (zI (σ 12 0)), .ref (A 13), .ref (A 14), .ref (A 15), .ref (A 16), .ref (A 17), .int (zI (σ 18 0)), .ref (A 19), .ref (A 20), .ref (A 21), .ref (A 22), .int (zI (σ 23 0)), .int (zI 1), .int (zI fo), .ref (A 26), .int (zI cm), .ref (A 28)]) C dX9_solved_14 in_X9 rfl tyX9 tyX9_ok nmX9 hO 24 (by decide) (by decide +kernel) rfl rfl rfl rfl rfl (Nat.le_of_ble_eq_true rfl) rfl (fun μ9 hOw hF10 => ?_)
    have hMA : MA G μ9 A σ := hF10.ma hMA
    have hCi := hF10.ai hCi
    have hSu := hF10.ai hSu
    have hFr : Fr 3000 3999 μ μ9 := hFr.tr hF10
    have hO := hOw
    refine x_aload_n C dX9_solved_17 rfl 0 rfl ?_
    refine x_get (ci := 10) (Cn := RX9) (T := TX9) (N := 29) (ref := "CairnCipherModel") C dX9_solved_18 in_X9 rfl hO 24 (by decide) (by decide +kernel) rfl rfl ?_
    refine z_if_ne (tgt := 32) C dX9_solved_21 (by decide) (rg_of (by omega) (by omega)) (fun c_11 => ?_) (fun c_11 => ?_)
    · refine z_iconst C dX9_solved_32 ?_
      exact x_iret C R dX9_solved_33 (Nat.le_of_ble_eq_true rfl) (Nat.le_of_ble_eq_true rfl) (⟨_, rfl, ⟨Or.inr ⟨by (rw [show t_wk σ k = 1 from by (unfold t_wk; (repeat split) <;> omega)]; omega), by (rw [show t_wk σ k = 1 from by (unfold t_wk; (repeat split) <;> omega)]; exact ⟨_, _, _, _, _, hO, hMA, hCi, hSu⟩)⟩, hFr⟩⟩)
    · exfalso; omega
  · refine z_iconst C dX9_solved_9 ?_
    refine x_goto (tgt := 14) C dX9_solved_10 (by decide) ?_
    refine z_put (ci := 10) (Cn := RX9) (T := TX9) (N := 29) (ref := "CairnCipherModel") (fs' := [.ref (A 0), .ref (A 1), .ref (A 2), .ref (A 3), .ref (A 4), .ref (A 5), .ref (A 6), .int (zI (σ 7 0)), .ref (A 8), .ref (A 9), .ref (A 10), .ref (A 11), .int (zI (σ 12 0)), .ref (A 13), .ref (A 14), .ref (A 15), .ref (A 16), .ref (A 17), .int (zI (σ 18 0)), .ref (A 19), .ref (A 20), .ref (A 21), .ref (A 22), .int (zI (σ 23 0)), .int (zI 0), .int (zI fo), .ref (A 26), .int (zI cm), .ref (A 28)]) C dX9_solved_14 in_X9 rfl tyX9 tyX9_ok nmX9 hO 24 (by decide) (by decide +kernel) rfl rfl rfl rfl rfl (Nat.le_of_ble_eq_true rfl) rfl (fun μ12 hOw hF13 => ?_)
    have hMA : MA G μ12 A σ := hF13.ma hMA
    have hCi := hF13.ai hCi
    have hSu := hF13.ai hSu
    have hFr : Fr 3000 3999 μ μ12 := hFr.tr hF13
    have hO := hOw
    refine x_aload_n C dX9_solved_17 rfl 0 rfl ?_
    refine x_get (ci := 10) (Cn := RX9) (T := TX9) (N := 29) (ref := "CairnCipherModel") C dX9_solved_18 in_X9 rfl hO 24 (by decide) (by decide +kernel) rfl rfl ?_
    refine z_if_ne (tgt := 32) C dX9_solved_21 (by decide) (rg_of (by omega) (by omega)) (fun c_14 => ?_) (fun c_14 => ?_)
    · exfalso; omega
    · refine x_aload_n C dX9_solved_24 rfl 0 rfl ?_
      refine x_iload_n C dX9_solved_25 rfl 1 rfl ?_
      refine x_callV (n := 1) (ci := 10) (Cn := RX9) (T := TX9) (N := 29) (cc9 := 0) (ss9 := 0) (rest := []) C dX9_solved_26 (c_X9_solvedMany (kxL E) C.st G z μ12 _ σ _ _ _ _ _ _ _ k ⟨hO, hMA, hCi, hSu⟩ hI (by omega)) gX9_solved_X9_solvedMany rfl (by decide +kernel) ⟨(Nat.le_of_ble_eq_true rfl), (Nat.le_of_ble_eq_true rfl)⟩ rfl ⟨_, _, hO⟩ rfl rfl (Nat.le_of_ble_eq_true rfl) rfl rfl ⟨(Nat.le_of_ble_eq_true rfl), (Nat.le_of_ble_eq_true rfl)⟩ nX_no (fun v15 μ16 hv17 => ?_)
      obtain ⟨r18, hw21, h19, hm20⟩ := hv17
      subst hw21
      rw [hm20]
      refine x_stk (stk' := [.int (zI r18)]) rfl ?_
      refine x_goto (tgt := 33) C dX9_solved_29 (by decide) ?_
      exact x_iret C R dX9_solved_33 (Nat.le_of_ble_eq_true rfl) (Nat.le_of_ble_eq_true rfl) (⟨_, rfl, ⟨Or.inl ⟨by (unfold t_wk; (repeat split) <;> omega), by omega, ⟨_, _, _, _, _, hO, hMA, hCi, hSu⟩⟩, hFr⟩⟩)
abbrev rm_X9_score : Room := { frames := 2, cells := 0, slots := 0, locals := 46 }
set_option maxHeartbeats 4000000 in
set_option maxRecDepth 100000 in
theorem c_X9_score (l : Launch) (hst : l.stackTraces = false) (G : GG) (z : Nat) (μ : Mm) (m : Nat) (σ : SS) (n : Nat) (th fo cm : Int) (Ci Su : Nat → Int) (A : Nat → Nat) (k : Int) (hM9 : RepY G μ m σ th fo cm Ci Su A) (hI : Iv σ n) (hk : -2147483648 ≤ k ∧ k < 2147483648) (hn5 : n ≤ 600) : Ct l yX9_score wsX9_score rm_X9_score G z [.ref m, .int (zI k)] μ (rS (fun r9 μ' => MR G μ' m (t_wk σ k) (b_score σ k.toNat) σ (σ) r9 ∧ Fr 3000 3999 μ μ')) (nX) := by
  refine ct_of (cc := cX9_score) (maxL := 2) (ret := (some .int)) (own := RX9) (by decide) rfl rfl hst (Nat.le_of_ble_eq_true rfl) ?_
  intro E hLl hnm C R hT
  have in_X9 : ∀ w ∈ u_ws RX9 TX9 29, w ∈ wsX9_score := by decide +kernel
  have hM8 := hM9
  obtain ⟨hO, hMA, hCi, hSu⟩ := hM9
  have hn7 := hI.n7
  have hn12 := hI.n12
  have hn18 := hI.n18
  have hn23 := hI.n23
  have hFr : Fr 3000 3999 μ μ := Fr.rf
  refine x_eq (lv' := [(0, .ref m), (1, .int (zI k))]) rfl rfl ?_
  refine x_aload_n C dX9_score_0 rfl 0 rfl ?_
  refine x_aload_n C dX9_score_1 rfl 0 rfl ?_
  refine x_iload_n C dX9_score_2 rfl 1 rfl ?_
  refine x_callV (n := 1) (ci := 10) (Cn := RX9) (T := TX9) (N := 29) (cc9 := 0) (ss9 := 0) (rest := [.ref m]) C dX9_score_3 (c_X9_isWalker (kxL E) C.st G z μ _ σ _ _ _ _ _ _ _ k ⟨hO, hMA, hCi, hSu⟩ hI (by omega)) gX9_score_X9_isWalker rfl (by decide +kernel) ⟨(Nat.le_of_ble_eq_true rfl), (Nat.le_of_ble_eq_true rfl)⟩ rfl ⟨_, _, hO⟩ rfl rfl (Nat.le_of_ble_eq_true rfl) rfl rfl ⟨(Nat.le_of_ble_eq_true rfl), (Nat.le_of_ble_eq_true rfl)⟩ nX_no (fun v1 μ2 hv3 => ?_)
  obtain ⟨r4, hw7, h5, hm6⟩ := hv3
  subst hw7
  rw [hm6]
  refine x_stk (stk' := [.int (zI r4), .ref m]) rfl ?_
  refine z_if_eq (tgt := 13) C dX9_score_6 (by decide) (rg_of (by omega) (by omega)) (fun c_8 => ?_) (fun c_8 => ?_)
  · refine z_iconst C dX9_score_13 ?_
    refine z_put (ci := 10) (Cn := RX9) (T := TX9) (N := 29) (ref := "CairnCipherModel") (fs' := [.ref (A 0), .ref (A 1), .ref (A 2), .ref (A 3), .ref (A 4), .ref (A 5), .ref (A 6), .int (zI (σ 7 0)), .ref (A 8), .ref (A 9), .ref (A 10), .ref (A 11), .int (zI (σ 12 0)), .ref (A 13), .ref (A 14), .ref (A 15), .ref (A 16), .ref (A 17), .int (zI (σ 18 0)), .ref (A 19), .ref (A 20), .ref (A 21), .ref (A 22), .int (zI (σ 23 0)), .int (zI 1), .int (zI fo), .ref (A 26), .int (zI cm), .ref (A 28)]) C dX9_score_14 in_X9 rfl tyX9 tyX9_ok nmX9 hO 24 (by decide) (by decide +kernel) rfl rfl rfl rfl rfl (Nat.le_of_ble_eq_true rfl) rfl (fun μ9 hOw hF10 => ?_)
    have hMA : MA G μ9 A σ := hF10.ma hMA
    have hCi := hF10.ai hCi
    have hSu := hF10.ai hSu
    have hFr : Fr 3000 3999 μ μ9 := hFr.tr hF10
    have hO := hOw
    refine x_aload_n C dX9_score_17 rfl 0 rfl ?_
    refine x_get (ci := 10) (Cn := RX9) (T := TX9) (N := 29) (ref := "CairnCipherModel") C dX9_score_18 in_X9 rfl hO 24 (by decide) (by decide +kernel) rfl rfl ?_
    refine z_if_ne (tgt := 32) C dX9_score_21 (by decide) (rg_of (by omega) (by omega)) (fun c_11 => ?_) (fun c_11 => ?_)
    · refine z_iconst C dX9_score_32 ?_
      exact x_iret C R dX9_score_33 (Nat.le_of_ble_eq_true rfl) (Nat.le_of_ble_eq_true rfl) (⟨_, rfl, ⟨Or.inr ⟨by (rw [show t_wk σ k = 1 from by (unfold t_wk; (repeat split) <;> omega)]; omega), by (rw [show t_wk σ k = 1 from by (unfold t_wk; (repeat split) <;> omega)]; exact ⟨_, _, _, _, _, hO, hMA, hCi, hSu⟩)⟩, hFr⟩⟩)
    · exfalso; omega
  · refine z_iconst C dX9_score_9 ?_
    refine x_goto (tgt := 14) C dX9_score_10 (by decide) ?_
    refine z_put (ci := 10) (Cn := RX9) (T := TX9) (N := 29) (ref := "CairnCipherModel") (fs' := [.ref (A 0), .ref (A 1), .ref (A 2), .ref (A 3), .ref (A 4), .ref (A 5), .ref (A 6), .int (zI (σ 7 0)), .ref (A 8), .ref (A 9), .ref (A 10), .ref (A 11), .int (zI (σ 12 0)), .ref (A 13), .ref (A 14), .ref (A 15), .ref (A 16), .ref (A 17), .int (zI (σ 18 0)), .ref (A 19), .ref (A 20), .ref (A 21), .ref (A 22), .int (zI (σ 23 0)), .int (zI 0), .int (zI fo), .ref (A 26), .int (zI cm), .ref (A 28)]) C dX9_score_14 in_X9 rfl tyX9 tyX9_ok nmX9 hO 24 (by decide) (by decide +kernel) rfl rfl rfl rfl rfl (Nat.le_of_ble_eq_true rfl) rfl (fun μ12 hOw hF13 => ?_)
    have hMA : MA G μ12 A σ := hF13.ma hMA
    have hCi := hF13.ai hCi
    have hSu := hF13.ai hSu
    have hFr : Fr 3000 3999 μ μ12 := hFr.tr hF13
    have hO := hOw
    refine x_aload_n C dX9_score_17 rfl 0 rfl ?_
    refine x_get (ci := 10) (Cn := RX9) (T := TX9) (N := 29) (ref := "CairnCipherModel") C dX9_score_18 in_X9 rfl hO 24 (by decide) (by decide +kernel) rfl rfl ?_
    refine z_if_ne (tgt := 32) C dX9_score_21 (by decide) (rg_of (by omega) (by omega)) (fun c_14 => ?_) (fun c_14 => ?_)
    · exfalso; omega
    · refine x_aload_n C dX9_score_24 rfl 0 rfl ?_
      refine x_iload_n C dX9_score_25 rfl 1 rfl ?_
      refine x_callV (n := 1) (ci := 10) (Cn := RX9) (T := TX9) (N := 29) (cc9 := 0) (ss9 := 0) (rest := []) C dX9_score_26 (c_X9_scoreOf (kxL E) C.st G z μ12 _ σ _ _ _ _ _ _ _ k ⟨hO, hMA, hCi, hSu⟩ hI (by omega) (by omega)) gX9_score_X9_scoreOf rfl (by decide +kernel) ⟨(Nat.le_of_ble_eq_true rfl), (Nat.le_of_ble_eq_true rfl)⟩ rfl ⟨_, _, hO⟩ rfl rfl (Nat.le_of_ble_eq_true rfl) rfl rfl ⟨(Nat.le_of_ble_eq_true rfl), (Nat.le_of_ble_eq_true rfl)⟩ nX_no (fun v15 μ16 hv17 => ?_)
      obtain ⟨r18, hw21, h19, hm20⟩ := hv17
      subst hw21
      rw [hm20]
      refine x_stk (stk' := [.int (zI r18)]) rfl ?_
      refine x_goto (tgt := 33) C dX9_score_29 (by decide) ?_
      exact x_iret C R dX9_score_33 (Nat.le_of_ble_eq_true rfl) (Nat.le_of_ble_eq_true rfl) (⟨_, rfl, ⟨Or.inl ⟨by (unfold t_wk; (repeat split) <;> omega), by omega, ⟨_, _, _, _, _, hO, hMA, hCi, hSu⟩⟩, hFr⟩⟩)
abbrev rm_X9_scoreAnew : Room := { frames := 3, cells := 0, slots := 0, locals := 67 }
set_option maxHeartbeats 4000000 in
set_option maxRecDepth 100000 in
theorem c_X9_scoreAnew (l : Launch) (hst : l.stackTraces = false) (G : GG) (z : Nat) (μ : Mm) (m : Nat) (σ : SS) (n : Nat) (th fo cm : Int) (Ci Su : Nat → Int) (A : Nat → Nat) (k : Int) (hM9 : RepY G μ m σ th fo cm Ci Su A) (hI : Iv σ n) (hk : -2147483648 ≤ k ∧ k < 2147483648) (hn5 : n ≤ 600) : Ct l yX9_scoreAnew wsX9_scoreAnew rm_X9_scoreAnew G z [.ref m, .int (zI k)] μ (rS (fun r9 μ' => MR G μ' m (t_wk σ k) (b_score σ k.toNat) σ (σ) r9 ∧ Fr 3000 3999 μ μ')) (nX) := by
  refine ct_of (cc := cX9_scoreAnew) (maxL := 2) (ret := (some .int)) (own := RX9) (by decide) rfl rfl hst (Nat.le_of_ble_eq_true rfl) ?_
  intro E hLl hnm C R hT
  have hM8 := hM9
  obtain ⟨hO, hMA, hCi, hSu⟩ := hM9
  have hn7 := hI.n7
  have hn12 := hI.n12
  have hn18 := hI.n18
  have hn23 := hI.n23
  have hFr : Fr 3000 3999 μ μ := Fr.rf
  refine x_eq (lv' := [(0, .ref m), (1, .int (zI k))]) rfl rfl ?_
  refine x_aload_n C dX9_scoreAnew_0 rfl 0 rfl ?_
  refine x_iload_n C dX9_scoreAnew_1 rfl 1 rfl ?_
  refine x_callV (n := 1) (ci := 10) (Cn := RX9) (T := TX9) (N := 29) (cc9 := 0) (ss9 := 0) (rest := []) C dX9_scoreAnew_2 (c_X9_score (kxL E) C.st G z μ _ σ _ _ _ _ _ _ _ k ⟨hO, hMA, hCi, hSu⟩ hI (by omega) (by omega)) gX9_scoreAnew_X9_score rfl (by decide +kernel) ⟨(Nat.le_of_ble_eq_true rfl), (Nat.le_of_ble_eq_true rfl)⟩ rfl ⟨_, _, hO⟩ rfl rfl (Nat.le_of_ble_eq_true rfl) rfl rfl ⟨(Nat.le_of_ble_eq_true rfl), (Nat.le_of_ble_eq_true rfl)⟩ nX_no (fun v1 μ2 hv3 => ?_)
  obtain ⟨r4, hw7, h5⟩ := hv3
  subst hw7
  obtain ⟨hmr9, hF9⟩ := h5
  have hF8 := hF9
  have hFr : Fr 3000 3999 μ μ2 := hFr.tr hF8
  refine x_stk (stk' := [.int (zI r4)]) rfl ?_
  exact x_iret C R dX9_scoreAnew_5 (Nat.le_of_ble_eq_true rfl) (Nat.le_of_ble_eq_true rfl) (⟨_, rfl, ⟨hmr9, hFr⟩⟩)
abbrev rm_X9_walkerAt : Room := { frames := 2, cells := 0, slots := 0, locals := 46 }
set_option maxHeartbeats 4000000 in
set_option maxRecDepth 100000 in
theorem c_X9_walkerAt (l : Launch) (hst : l.stackTraces = false) (G : GG) (z : Nat) (μ : Mm) (m : Nat) (σ : SS) (n : Nat) (th fo cm : Int) (Ci Su : Nat → Int) (A : Nat → Nat) (c : Int) (hM9 : RepY G μ m σ th fo cm Ci Su A) (hI : Iv σ n) (hc : -2147483648 ≤ c ∧ c < 2147483648) (hn5 : n ≤ 600) : Ct l yX9_walkerAt wsX9_walkerAt rm_X9_walkerAt G z [.ref m, .int (zI c)] μ (rS (fun r9 μ' => (b_walkerAt σ c r9 ∧ RepM G μ' m σ 0) ∧ Fr 3000 3999 μ μ')) (nX) := by
  refine ct_of (cc := cX9_walkerAt) (maxL := 6) (ret := (some .int)) (own := RX9) (by decide) rfl rfl hst (Nat.le_of_ble_eq_true rfl) ?_
  intro E hLl hnm C R hT
  have in_X9 : ∀ w ∈ u_ws RX9 TX9 29, w ∈ wsX9_walkerAt := by decide +kernel
  have hM8 := hM9
  obtain ⟨hO, hMA, hCi, hSu⟩ := hM9
  have hn7 := hI.n7
  have hn12 := hI.n12
  have hn18 := hI.n18
  have hn23 := hI.n23
  have hFr : Fr 3000 3999 μ μ := Fr.rf
  refine x_eq (lv' := [(0, .ref m), (1, .int (zI c))]) rfl rfl ?_
  refine x_aload_n C dX9_walkerAt_0 rfl 0 rfl ?_
  refine z_iconst C dX9_walkerAt_1 ?_
  refine z_put (ci := 10) (Cn := RX9) (T := TX9) (N := 29) (ref := "CairnCipherModel") (fs' := [.ref (A 0), .ref (A 1), .ref (A 2), .ref (A 3), .ref (A 4), .ref (A 5), .ref (A 6), .int (zI (σ 7 0)), .ref (A 8), .ref (A 9), .ref (A 10), .ref (A 11), .int (zI (σ 12 0)), .ref (A 13), .ref (A 14), .ref (A 15), .ref (A 16), .ref (A 17), .int (zI (σ 18 0)), .ref (A 19), .ref (A 20), .ref (A 21), .ref (A 22), .int (zI (σ 23 0)), .int (zI 0), .int (zI fo), .ref (A 26), .int (zI cm), .ref (A 28)]) C dX9_walkerAt_2 in_X9 rfl tyX9 tyX9_ok nmX9 hO 24 (by decide) (by decide +kernel) rfl rfl rfl rfl rfl (Nat.le_of_ble_eq_true rfl) rfl (fun μ1 hOw hF2 => ?_)
  have hMA : MA G μ1 A σ := hF2.ma hMA
  have hCi := hF2.ai hCi
  have hSu := hF2.ai hSu
  have hFr : Fr 3000 3999 μ μ1 := hFr.tr hF2
  have hO := hOw
  refine z_iconst C dX9_walkerAt_5 ?_
  refine x_istore_n (lv' := [(2, .int (zI 0)), (0, .ref m), (1, .int (zI c))]) C dX9_walkerAt_6 rfl (by decide) rfl ?_
  have L7 : ∀ (M9 : Nat) (k : Nat) (kz : Int) (hkz : kz = (k : Int)) (hk : k ≤ (σ 12 0).toNat) (hno : ∀ v, v < k → rkw σ v ≠ c) (hM9 : (σ 12 0).toNat - k = M9), Wx E G 0 0 7 [(2, .int (zI kz)), (0, .ref m), (1, .int (zI c))] [] μ1 := by
    intro M9
    induction M9 using Nat.strongRecOn with
    | ind M9 ih7 =>
      intro k kz hkz hk hno hM9
      subst hkz
      refine x_iload_n C dX9_walkerAt_7 rfl 0 rfl ?_
      refine x_aload_n C dX9_walkerAt_8 rfl 1 rfl ?_
      refine x_get (ci := 10) (Cn := RX9) (T := TX9) (N := 29) (ref := "CairnCipherModel") C dX9_walkerAt_9 in_X9 rfl hO 12 (by decide) (by decide +kernel) rfl rfl ?_
      refine z_icmp_ge (tgt := 86) C dX9_walkerAt_12 (by decide) (rg_of (by omega) (by omega)) (rg_of (by omega) (by omega)) (fun c_3 => ?_) (fun c_3 => ?_)
      · refine z_iconst C dX9_walkerAt_86 ?_
        exact x_iret C R dX9_walkerAt_87 (Nat.le_of_ble_eq_true rfl) (Nat.le_of_ble_eq_true rfl) (⟨_, rfl, ⟨⟨Or.inr ⟨fun w hw => hno w (by omega), rfl⟩, ⟨_, _, _, _, _, hO, hMA, hCi, hSu⟩⟩, hFr⟩⟩)
      · refine z_iconst C dX9_walkerAt_15 ?_
        refine x_istore_n (lv' := [(3, .int (zI 0)), (2, .int (zI (k : Int))), (0, .ref m), (1, .int (zI c))]) C dX9_walkerAt_16 rfl (by decide) rfl ?_
        refine z_iconst C dX9_walkerAt_17 ?_
        refine x_istore (lv' := [(4, .int (zI 0)), (3, .int (zI 0)), (2, .int (zI (k : Int))), (0, .ref m), (1, .int (zI c))]) C dX9_walkerAt_18 (by decide) rfl ?_
        have L20 : ∀ (M9 : Nat) (v : Nat) (vz : Int) (hvz : vz = (v : Int)) (rk : Int) (hv : v ≤ (σ 12 0).toNat) (hrk : rk = b_rank σ (k : Int) (b_score σ k) v) (hM9 : (σ 12 0).toNat - v = M9), Wx E G 0 0 20 [(4, .int (zI vz)), (3, .int (zI rk)), (2, .int (zI (k : Int))), (0, .ref m), (1, .int (zI c))] [] μ1 := by
          intro M9
          induction M9 using Nat.strongRecOn with
          | ind M9 ih20 =>
            intro v vz hvz rk hv hrk hM9
            subst hvz
            have hbr := b_rank_rg σ (k : Int) (b_score σ k) v
            refine x_iload C dX9_walkerAt_20 0 rfl ?_
            refine x_aload_n C dX9_walkerAt_22 rfl 3 rfl ?_
            refine x_get (ci := 10) (Cn := RX9) (T := TX9) (N := 29) (ref := "CairnCipherModel") C dX9_walkerAt_23 in_X9 rfl hO 12 (by decide) (by decide +kernel) rfl rfl ?_
            refine z_icmp_ge (tgt := 73) C dX9_walkerAt_26 (by decide) (rg_of (by omega) (by omega)) (rg_of (by omega) (by omega)) (fun c_4 => ?_) (fun c_4 => ?_)
            · have hr9 : rk = rkw σ k := by (rw [hrk, show v = (σ 12 0).toNat by omega]; rfl)
              refine x_iload_n C dX9_walkerAt_73 rfl 1 rfl ?_
              refine x_iload_n C dX9_walkerAt_74 rfl 4 rfl ?_
              refine z_icmp_ne (tgt := 80) C dX9_walkerAt_75 (by decide) (rg_of (by omega) (by omega)) (rg_of (by omega) (by omega)) (fun c_5 => ?_) (fun c_5 => ?_)
              · refine z_iinc (lv' := [(2, .int (zI ((k : Int) + 1))), (4, .int (zI (v : Int))), (3, .int (zI rk)), (0, .ref m), (1, .int (zI c))]) C dX9_walkerAt_80 2 rfl rfl (by decide) rfl ?_
                refine x_goto (tgt := 7) C dX9_walkerAt_83 (by decide) ?_
                refine x_sub (lv' := [(2, .int (zI ((k : Int) + 1))), (0, .ref m), (1, .int (zI c))]) [0, 3, 4] rfl ?_
                exact ih7 _ (by omega) (k + 1) _ (by omega) (by omega) (fun v hv => by (by_cases e : v = k); subst e; omega; exact hno v (by omega)) rfl
              · refine x_iload_n C dX9_walkerAt_78 rfl 2 rfl ?_
                exact x_iret C R dX9_walkerAt_79 (Nat.le_of_ble_eq_true rfl) (Nat.le_of_ble_eq_true rfl) (⟨_, rfl, ⟨⟨Or.inl ⟨k, by omega, rfl, by omega, hno⟩, ⟨_, _, _, _, _, hO, hMA, hCi, hSu⟩⟩, hFr⟩⟩)
            · refine x_aload_n C dX9_walkerAt_29 rfl 3 rfl ?_
              refine x_iload C dX9_walkerAt_30 0 rfl ?_
              refine x_callV (n := 1) (ci := 10) (Cn := RX9) (T := TX9) (N := 29) (cc9 := 0) (ss9 := 0) (rest := []) C dX9_walkerAt_32 (c_X9_scoreOf (kxL E) C.st G z μ1 _ σ _ _ _ _ _ _ _ (v : Int) ⟨hO, hMA, hCi, hSu⟩ hI (by omega) (by omega)) gX9_walkerAt_X9_scoreOf rfl (by decide +kernel) ⟨(Nat.le_of_ble_eq_true rfl), (Nat.le_of_ble_eq_true rfl)⟩ rfl ⟨_, _, hO⟩ rfl rfl (Nat.le_of_ble_eq_true rfl) rfl rfl ⟨(Nat.le_of_ble_eq_true rfl), (Nat.le_of_ble_eq_true rfl)⟩ nX_no (fun v6 μ7 hv8 => ?_)
              obtain ⟨r9, hw12, h10, hm11⟩ := hv8
              subst hw12
              rw [hm11]
              have hx1 := h10.1
              rw [Int.toNat_natCast] at hx1
              have hx2 := h10.2
              refine x_stk (stk' := [.int (zI r9)]) rfl ?_
              refine x_aload_n C dX9_walkerAt_35 rfl 3 rfl ?_
              refine x_iload_n C dX9_walkerAt_36 rfl 2 rfl ?_
              refine x_callV (n := 1) (ci := 10) (Cn := RX9) (T := TX9) (N := 29) (cc9 := 0) (ss9 := 0) (rest := [.int (zI r9)]) C dX9_walkerAt_37 (c_X9_scoreOf (kxL E) C.st G z μ1 _ σ _ _ _ _ _ _ _ (k : Int) ⟨hO, hMA, hCi, hSu⟩ hI (by omega) (by omega)) gX9_walkerAt_X9_scoreOf rfl (by decide +kernel) ⟨(Nat.le_of_ble_eq_true rfl), (Nat.le_of_ble_eq_true rfl)⟩ rfl ⟨_, _, hO⟩ rfl rfl (Nat.le_of_ble_eq_true rfl) rfl rfl ⟨(Nat.le_of_ble_eq_true rfl), (Nat.le_of_ble_eq_true rfl)⟩ nX_no (fun v13 μ14 hv15 => ?_)
              obtain ⟨r16, hw19, h17, hm18⟩ := hv15
              subst hw19
              rw [hm18]
              have hx3 := h17.1
              rw [Int.toNat_natCast] at hx3
              have hx4 := h17.2
              refine x_stk (stk' := [.int (zI r16), .int (zI r9)]) rfl ?_
              refine z_isub C dX9_walkerAt_40 rfl ?_
              refine x_istore (lv' := [(5, .int (zI (r9 - r16))), (4, .int (zI (v : Int))), (3, .int (zI rk)), (2, .int (zI (k : Int))), (0, .ref m), (1, .int (zI c))]) C dX9_walkerAt_41 (by decide) rfl ?_
              refine x_iload_n C dX9_walkerAt_43 rfl 2 rfl ?_
              refine x_iload C dX9_walkerAt_44 0 rfl ?_
              refine z_if_gt (tgt := 60) C dX9_walkerAt_46 (by decide) (rg_of (by omega) (by omega)) (fun c_20 => ?_) (fun c_20 => ?_)
              · refine z_iconst C dX9_walkerAt_60 ?_
                refine x_goto (tgt := 65) C dX9_walkerAt_61 (by decide) ?_
                refine z_iadd C dX9_walkerAt_65 rfl ?_
                refine x_istore_n (lv' := [(3, .int (zI (rk + 1))), (5, .int (zI (r9 - r16))), (4, .int (zI (v : Int))), (2, .int (zI (k : Int))), (0, .ref m), (1, .int (zI c))]) C dX9_walkerAt_66 rfl (by decide) rfl ?_
                refine z_iinc (lv' := [(4, .int (zI ((v : Int) + 1))), (3, .int (zI (rk + 1))), (5, .int (zI (r9 - r16))), (2, .int (zI (k : Int))), (0, .ref m), (1, .int (zI c))]) C dX9_walkerAt_67 2 rfl rfl (by decide) rfl ?_
                refine x_goto (tgt := 20) C dX9_walkerAt_70 (by decide) ?_
                refine x_sub (lv' := [(4, .int (zI ((v : Int) + 1))), (3, .int (zI (rk + 1))), (2, .int (zI (k : Int))), (0, .ref m), (1, .int (zI c))]) [0, 1, 3, 4, 5] rfl ?_
                exact ih20 _ (by omega) (v + 1) _ (by omega) _ (by omega) (by rw [show b_rank σ (k : Int) (b_score σ k) (v + 1) = b_rank σ (k : Int) (b_score σ k) v + (if b_score σ k < b_score σ v ∨ (b_score σ v = b_score σ k ∧ (v : Int) < (k : Int)) then 1 else 0) from rfl]; split <;> omega) rfl
              · refine x_iload C dX9_walkerAt_49 0 rfl ?_
                refine z_if_ne (tgt := 64) C dX9_walkerAt_51 (by decide) (rg_of (by omega) (by omega)) (fun c_21 => ?_) (fun c_21 => ?_)
                · refine z_iconst C dX9_walkerAt_64 ?_
                  refine z_iadd C dX9_walkerAt_65 rfl ?_
                  refine x_istore_n (lv' := [(3, .int (zI (rk + 0))), (5, .int (zI (r9 - r16))), (4, .int (zI (v : Int))), (2, .int (zI (k : Int))), (0, .ref m), (1, .int (zI c))]) C dX9_walkerAt_66 rfl (by decide) rfl ?_
                  refine z_iinc (lv' := [(4, .int (zI ((v : Int) + 1))), (3, .int (zI (rk + 0))), (5, .int (zI (r9 - r16))), (2, .int (zI (k : Int))), (0, .ref m), (1, .int (zI c))]) C dX9_walkerAt_67 2 rfl rfl (by decide) rfl ?_
                  refine x_goto (tgt := 20) C dX9_walkerAt_70 (by decide) ?_
                  refine x_sub (lv' := [(4, .int (zI ((v : Int) + 1))), (3, .int (zI (rk + 0))), (2, .int (zI (k : Int))), (0, .ref m), (1, .int (zI c))]) [0, 1, 3, 4, 5] rfl ?_
                  exact ih20 _ (by omega) (v + 1) _ (by omega) _ (by omega) (by rw [show b_rank σ (k : Int) (b_score σ k) (v + 1) = b_rank σ (k : Int) (b_score σ k) v + (if b_score σ k < b_score σ v ∨ (b_score σ v = b_score σ k ∧ (v : Int) < (k : Int)) then 1 else 0) from rfl]; split <;> omega) rfl
                · refine x_iload C dX9_walkerAt_54 1 rfl ?_
                  refine x_iload_n C dX9_walkerAt_56 rfl 3 rfl ?_
                  refine z_icmp_ge (tgt := 64) C dX9_walkerAt_57 (by decide) (rg_of (by omega) (by omega)) (rg_of (by omega) (by omega)) (fun c_22 => ?_) (fun c_22 => ?_)
                  · refine z_iconst C dX9_walkerAt_64 ?_
                    refine z_iadd C dX9_walkerAt_65 rfl ?_
                    refine x_istore_n (lv' := [(3, .int (zI (rk + 0))), (5, .int (zI (r9 - r16))), (4, .int (zI (v : Int))), (2, .int (zI (k : Int))), (0, .ref m), (1, .int (zI c))]) C dX9_walkerAt_66 rfl (by decide) rfl ?_
                    refine z_iinc (lv' := [(4, .int (zI ((v : Int) + 1))), (3, .int (zI (rk + 0))), (5, .int (zI (r9 - r16))), (2, .int (zI (k : Int))), (0, .ref m), (1, .int (zI c))]) C dX9_walkerAt_67 2 rfl rfl (by decide) rfl ?_
                    refine x_goto (tgt := 20) C dX9_walkerAt_70 (by decide) ?_
                    refine x_sub (lv' := [(4, .int (zI ((v : Int) + 1))), (3, .int (zI (rk + 0))), (2, .int (zI (k : Int))), (0, .ref m), (1, .int (zI c))]) [0, 1, 3, 4, 5] rfl ?_
                    exact ih20 _ (by omega) (v + 1) _ (by omega) _ (by omega) (by rw [show b_rank σ (k : Int) (b_score σ k) (v + 1) = b_rank σ (k : Int) (b_score σ k) v + (if b_score σ k < b_score σ v ∨ (b_score σ v = b_score σ k ∧ (v : Int) < (k : Int)) then 1 else 0) from rfl]; split <;> omega) rfl
                  · refine z_iconst C dX9_walkerAt_60 ?_
                    refine x_goto (tgt := 65) C dX9_walkerAt_61 (by decide) ?_
                    refine z_iadd C dX9_walkerAt_65 rfl ?_
                    refine x_istore_n (lv' := [(3, .int (zI (rk + 1))), (5, .int (zI (r9 - r16))), (4, .int (zI (v : Int))), (2, .int (zI (k : Int))), (0, .ref m), (1, .int (zI c))]) C dX9_walkerAt_66 rfl (by decide) rfl ?_
                    refine z_iinc (lv' := [(4, .int (zI ((v : Int) + 1))), (3, .int (zI (rk + 1))), (5, .int (zI (r9 - r16))), (2, .int (zI (k : Int))), (0, .ref m), (1, .int (zI c))]) C dX9_walkerAt_67 2 rfl rfl (by decide) rfl ?_
                    refine x_goto (tgt := 20) C dX9_walkerAt_70 (by decide) ?_
                    refine x_sub (lv' := [(4, .int (zI ((v : Int) + 1))), (3, .int (zI (rk + 1))), (2, .int (zI (k : Int))), (0, .ref m), (1, .int (zI c))]) [0, 1, 3, 4, 5] rfl ?_
                    exact ih20 _ (by omega) (v + 1) _ (by omega) _ (by omega) (by rw [show b_rank σ (k : Int) (b_score σ k) (v + 1) = b_rank σ (k : Int) (b_score σ k) v + (if b_score σ k < b_score σ v ∨ (b_score σ v = b_score σ k ∧ (v : Int) < (k : Int)) then 1 else 0) from rfl]; split <;> omega) rfl
        exact L20 _ (0) _ (by omega) _ (by omega) rfl rfl
  exact L7 _ (0) _ (by omega) (by omega) (fun v hv => absurd hv (Nat.not_lt_zero v)) rfl
abbrev rm_X9_sees : Room := { frames := 2, cells := 0, slots := 0, locals := 42 }
set_option maxHeartbeats 4000000 in
set_option maxRecDepth 100000 in
theorem c_X9_sees (l : Launch) (hst : l.stackTraces = false) (G : GG) (z : Nat) (μ : Mm) (m : Nat) (σ : SS) (n : Nat) (th fo cm : Int) (Ci Su : Nat → Int) (A : Nat → Nat) (w : Int) (hM9 : RepY G μ m σ th fo cm Ci Su A) (hI : Iv σ n) (hw : -2147483648 ≤ w ∧ w < 2147483648) : Ct l yX9_sees wsX9_sees rm_X9_sees G z [.ref m, .int (zI w)] μ (rS (fun r9 μ' => MR G μ' m (t_sees σ w) (seeN σ (σ 19 w.toNat) (σ 12 0).toNat) σ (σ) r9 ∧ Fr 3000 3999 μ μ')) (nX) := by
  refine ct_of (cc := cX9_sees) (maxL := 4) (ret := (some .int)) (own := RX9) (by decide) rfl rfl hst (Nat.le_of_ble_eq_true rfl) ?_
  intro E hLl hnm C R hT
  have in_X9 : ∀ w ∈ u_ws RX9 TX9 29, w ∈ wsX9_sees := by decide +kernel
  have hM8 := hM9
  obtain ⟨hO, hMA, hCi, hSu⟩ := hM9
  have hn7 := hI.n7
  have hn12 := hI.n12
  have hn18 := hI.n18
  have hn23 := hI.n23
  have hFr : Fr 3000 3999 μ μ := Fr.rf
  refine x_eq (lv' := [(0, .ref m), (1, .int (zI w))]) rfl rfl ?_
  refine x_aload_n C dX9_sees_0 rfl 0 rfl ?_
  refine x_iload_n C dX9_sees_1 rfl 1 rfl ?_
  refine z_iconst C dX9_sees_2 ?_
  refine x_aload_n C dX9_sees_3 rfl 0 rfl ?_
  refine x_get (ci := 10) (Cn := RX9) (T := TX9) (N := 29) (ref := "CairnCipherModel") C dX9_sees_4 in_X9 rfl hO 18 (by decide) (by decide +kernel) rfl rfl ?_
  refine z_iconst C dX9_sees_7 ?_
  refine z_isub C dX9_sees_8 rfl ?_
  refine x_callS (n := 3) (cc9 := 0) (ss9 := 0) (rest := [.ref m]) C dX9_sees_9 (c_X9_in (kxL E) C.st G z μ w 0 ((σ 18 0) - 1) (by omega) (by omega) (by omega)) gX9_sees_X9_in rfl (by decide +kernel) ⟨(Nat.le_of_ble_eq_true rfl), (Nat.le_of_ble_eq_true rfl)⟩ rfl rfl (Nat.le_of_ble_eq_true rfl) rfl rfl ⟨(Nat.le_of_ble_eq_true rfl), (Nat.le_of_ble_eq_true rfl)⟩ nX_no (fun v1 μ2 hv3 => ?_)
  obtain ⟨r4, hw7, h5, hm6⟩ := hv3
  subst hw7
  rw [hm6]
  refine x_stk (stk' := [.int (zI r4), .ref m]) rfl ?_
  refine z_if_eq (tgt := 19) C dX9_sees_12 (by decide) (rg_of (by omega) (by omega)) (fun c_8 => ?_) (fun c_8 => ?_)
  · refine z_iconst C dX9_sees_19 ?_
    refine z_put (ci := 10) (Cn := RX9) (T := TX9) (N := 29) (ref := "CairnCipherModel") (fs' := [.ref (A 0), .ref (A 1), .ref (A 2), .ref (A 3), .ref (A 4), .ref (A 5), .ref (A 6), .int (zI (σ 7 0)), .ref (A 8), .ref (A 9), .ref (A 10), .ref (A 11), .int (zI (σ 12 0)), .ref (A 13), .ref (A 14), .ref (A 15), .ref (A 16), .ref (A 17), .int (zI (σ 18 0)), .ref (A 19), .ref (A 20), .ref (A 21), .ref (A 22), .int (zI (σ 23 0)), .int (zI 1), .int (zI fo), .ref (A 26), .int (zI cm), .ref (A 28)]) C dX9_sees_20 in_X9 rfl tyX9 tyX9_ok nmX9 hO 24 (by decide) (by decide +kernel) rfl rfl rfl rfl rfl (Nat.le_of_ble_eq_true rfl) rfl (fun μ9 hOw hF10 => ?_)
    have hMA : MA G μ9 A σ := hF10.ma hMA
    have hCi := hF10.ai hCi
    have hSu := hF10.ai hSu
    have hFr : Fr 3000 3999 μ μ9 := hFr.tr hF10
    have hO := hOw
    refine z_iconst C dX9_sees_23 ?_
    refine x_istore_n (lv' := [(2, .int (zI 0)), (0, .ref m), (1, .int (zI w))]) C dX9_sees_24 rfl (by decide) rfl ?_
    refine z_iconst C dX9_sees_25 ?_
    refine x_istore_n (lv' := [(3, .int (zI 0)), (2, .int (zI 0)), (0, .ref m), (1, .int (zI w))]) C dX9_sees_26 rfl (by decide) rfl ?_
    have L27 : ∀ (M9 : Nat) (k : Nat) (kz : Int) (hkz : kz = (k : Int)) (s : Int) (hk : k ≤ (σ 12 0).toNat) (hs : s = seeN σ (σ 19 w.toNat) k) (hM9 : (σ 12 0).toNat - k = M9), Wx E G 0 0 27 [(3, .int (zI kz)), (2, .int (zI s)), (0, .ref m), (1, .int (zI w))] [] μ9 := by
      intro M9
      induction M9 using Nat.strongRecOn with
      | ind M9 ih27 =>
        intro k kz hkz s hk hs hM9
        subst hkz
        have hsr := seeN_rg σ (σ 19 w.toNat) k
        have hp2 := p2_6 k (by omega)
        refine x_iload_n C dX9_sees_27 rfl 0 rfl ?_
        refine x_aload_n C dX9_sees_28 rfl 2 rfl ?_
        refine x_get (ci := 10) (Cn := RX9) (T := TX9) (N := 29) (ref := "CairnCipherModel") C dX9_sees_29 in_X9 rfl hO 12 (by decide) (by decide +kernel) rfl rfl ?_
        refine z_icmp_ge (tgt := 77) C dX9_sees_32 (by decide) (rg_of (by omega) (by omega)) (rg_of (by omega) (by omega)) (fun c_11 => ?_) (fun c_11 => ?_)
        · refine x_iload_n C dX9_sees_77 rfl 1 rfl ?_
          exact x_iret C R dX9_sees_78 (Nat.le_of_ble_eq_true rfl) (Nat.le_of_ble_eq_true rfl) (⟨_, rfl, ⟨Or.inr ⟨by (rw [show t_sees σ w = 1 from by (unfold t_sees; (repeat split) <;> omega)]; omega), by (rw [show t_sees σ w = 1 from by (unfold t_sees; (repeat split) <;> omega)]; exact ⟨_, _, _, _, _, hO, hMA, hCi, hSu⟩)⟩, hFr⟩⟩)
        · refine x_aload_n C dX9_sees_35 rfl 2 rfl ?_
          refine x_get (ci := 10) (Cn := RX9) (T := TX9) (N := 29) (ref := "CairnCipherModel") C dX9_sees_36 in_X9 rfl hO 24 (by decide) (by decide +kernel) rfl rfl ?_
          refine z_if_ne (tgt := 77) C dX9_sees_39 (by decide) (rg_of (by omega) (by omega)) (fun c_12 => ?_) (fun c_12 => ?_)
          · refine x_iload_n C dX9_sees_77 rfl 1 rfl ?_
            exact x_iret C R dX9_sees_78 (Nat.le_of_ble_eq_true rfl) (Nat.le_of_ble_eq_true rfl) (⟨_, rfl, ⟨Or.inr ⟨by (rw [show t_sees σ w = 1 from by (unfold t_sees; (repeat split) <;> omega)]; omega), by (rw [show t_sees σ w = 1 from by (unfold t_sees; (repeat split) <;> omega)]; exact ⟨_, _, _, _, _, hO, hMA, hCi, hSu⟩)⟩, hFr⟩⟩)
          · exfalso; omega
    exact L27 _ (0) _ (by omega) _ (by omega) rfl rfl
  · refine z_iconst C dX9_sees_15 ?_
    refine x_goto (tgt := 20) C dX9_sees_16 (by decide) ?_
    refine z_put (ci := 10) (Cn := RX9) (T := TX9) (N := 29) (ref := "CairnCipherModel") (fs' := [.ref (A 0), .ref (A 1), .ref (A 2), .ref (A 3), .ref (A 4), .ref (A 5), .ref (A 6), .int (zI (σ 7 0)), .ref (A 8), .ref (A 9), .ref (A 10), .ref (A 11), .int (zI (σ 12 0)), .ref (A 13), .ref (A 14), .ref (A 15), .ref (A 16), .ref (A 17), .int (zI (σ 18 0)), .ref (A 19), .ref (A 20), .ref (A 21), .ref (A 22), .int (zI (σ 23 0)), .int (zI 0), .int (zI fo), .ref (A 26), .int (zI cm), .ref (A 28)]) C dX9_sees_20 in_X9 rfl tyX9 tyX9_ok nmX9 hO 24 (by decide) (by decide +kernel) rfl rfl rfl rfl rfl (Nat.le_of_ble_eq_true rfl) rfl (fun μ13 hOw hF14 => ?_)
    have hMA : MA G μ13 A σ := hF14.ma hMA
    have hCi := hF14.ai hCi
    have hSu := hF14.ai hSu
    have hFr : Fr 3000 3999 μ μ13 := hFr.tr hF14
    have hO := hOw
    refine z_iconst C dX9_sees_23 ?_
    refine x_istore_n (lv' := [(2, .int (zI 0)), (0, .ref m), (1, .int (zI w))]) C dX9_sees_24 rfl (by decide) rfl ?_
    refine z_iconst C dX9_sees_25 ?_
    refine x_istore_n (lv' := [(3, .int (zI 0)), (2, .int (zI 0)), (0, .ref m), (1, .int (zI w))]) C dX9_sees_26 rfl (by decide) rfl ?_
    have L27 : ∀ (M9 : Nat) (k : Nat) (kz : Int) (hkz : kz = (k : Int)) (s : Int) (hk : k ≤ (σ 12 0).toNat) (hs : s = seeN σ (σ 19 w.toNat) k) (hM9 : (σ 12 0).toNat - k = M9), Wx E G 0 0 27 [(3, .int (zI kz)), (2, .int (zI s)), (0, .ref m), (1, .int (zI w))] [] μ13 := by
      intro M9
      induction M9 using Nat.strongRecOn with
      | ind M9 ih27 =>
        intro k kz hkz s hk hs hM9
        subst hkz
        have hsr := seeN_rg σ (σ 19 w.toNat) k
        have hp2 := p2_6 k (by omega)
        refine x_iload_n C dX9_sees_27 rfl 0 rfl ?_
        refine x_aload_n C dX9_sees_28 rfl 2 rfl ?_
        refine x_get (ci := 10) (Cn := RX9) (T := TX9) (N := 29) (ref := "CairnCipherModel") C dX9_sees_29 in_X9 rfl hO 12 (by decide) (by decide +kernel) rfl rfl ?_
        refine z_icmp_ge (tgt := 77) C dX9_sees_32 (by decide) (rg_of (by omega) (by omega)) (rg_of (by omega) (by omega)) (fun c_15 => ?_) (fun c_15 => ?_)
        · refine x_iload_n C dX9_sees_77 rfl 1 rfl ?_
          exact x_iret C R dX9_sees_78 (Nat.le_of_ble_eq_true rfl) (Nat.le_of_ble_eq_true rfl) (⟨_, rfl, ⟨Or.inl ⟨by (unfold t_sees; (repeat split) <;> omega), by (rw [hs, show k = (σ 12 0).toNat by omega]), ⟨_, _, _, _, _, hO, hMA, hCi, hSu⟩⟩, hFr⟩⟩)
        · refine x_aload_n C dX9_sees_35 rfl 2 rfl ?_
          refine x_get (ci := 10) (Cn := RX9) (T := TX9) (N := 29) (ref := "CairnCipherModel") C dX9_sees_36 in_X9 rfl hO 24 (by decide) (by decide +kernel) rfl rfl ?_
          refine z_if_ne (tgt := 77) C dX9_sees_39 (by decide) (rg_of (by omega) (by omega)) (fun c_16 => ?_) (fun c_16 => ?_)
          · exfalso; omega
          · refine x_iload_n C dX9_sees_42 rfl 1 rfl ?_
            refine x_aload_n C dX9_sees_43 rfl 2 rfl ?_
            refine x_get (ci := 10) (Cn := RX9) (T := TX9) (N := 29) (ref := "CairnCipherModel") C dX9_sees_44 in_X9 rfl hO 14 (by decide) (by decide +kernel) rfl rfl ?_
            refine x_iload_n C dX9_sees_47 rfl 0 rfl ?_
            refine z_iald (j := k) C dX9_sees_48 (show AI G μ13 (A 14) 3015 6 (σ 14) from hMA.ai 14 rfl) (by omega) (by omega) (by decide) ?_
            have q_17 := hI.r14 k (by omega)
            refine x_aload_n C dX9_sees_49 rfl 2 rfl ?_
            refine x_get (ci := 10) (Cn := RX9) (T := TX9) (N := 29) (ref := "CairnCipherModel") C dX9_sees_50 in_X9 rfl hO 19 (by decide) (by decide +kernel) rfl rfl ?_
            refine x_iload_n C dX9_sees_53 rfl 3 rfl ?_
            refine z_iald (j := w.toNat) C dX9_sees_54 (show AI G μ13 (A 19) 3020 4 (σ 19) from hMA.ai 19 rfl) (by omega) (by omega) (by decide) ?_
            have q_18 := hI.r19 w.toNat (by omega)
            refine x_callS (n := 2) (cc9 := 0) (ss9 := 0) (rest := [.int (zI s)]) C dX9_sees_55 (c_X9_distance (kxL E) C.st G z μ13 ((σ 14) k) ((σ 19) w.toNat) (by omega) (by omega)) gX9_sees_X9_distance rfl (by decide +kernel) ⟨(Nat.le_of_ble_eq_true rfl), (Nat.le_of_ble_eq_true rfl)⟩ rfl rfl (Nat.le_of_ble_eq_true rfl) rfl rfl ⟨(Nat.le_of_ble_eq_true rfl), (Nat.le_of_ble_eq_true rfl)⟩ nX_no (fun v19 μ20 hv21 => ?_)
            obtain ⟨r22, hw25, h23, hm24⟩ := hv21
            subst hw25
            rw [hm24]
            rw [dst_sym] at h23
            have hd9 := h23
            have hd8 := dst_rg (p := σ 19 w.toNat) (q := σ 14 k) (by omega) (by omega)
            refine x_stk (stk' := [.int (zI r22), .int (zI s)]) rfl ?_
            refine z_iconst C dX9_sees_58 ?_
            refine z_icmp_gt (tgt := 68) C dX9_sees_59 (by decide) (rg_of (by omega) (by omega)) (rg_of (by omega) (by omega)) (fun c_26 => ?_) (fun c_26 => ?_)
            · refine z_iconst C dX9_sees_68 ?_
              refine x_ior (v := zI (s)) C dX9_sees_69 ior_0 ?_
              refine x_istore_n (lv' := [(2, .int (zI s)), (3, .int (zI (k : Int))), (0, .ref m), (1, .int (zI w))]) C dX9_sees_70 rfl (by decide) rfl ?_
              refine z_iinc (lv' := [(3, .int (zI ((k : Int) + 1))), (2, .int (zI s)), (0, .ref m), (1, .int (zI w))]) C dX9_sees_71 1 rfl rfl (by decide) rfl ?_
              refine x_goto (tgt := 27) C dX9_sees_74 (by decide) ?_
              exact ih27 _ (by omega) (k + 1) _ (by omega) _ (by omega) (by rw [show seeN σ (σ 19 w.toNat) (k + 1) = seeN σ (σ 19 w.toNat) k + (if dst (σ 19 w.toNat) (σ 14 k) ≤ 3 then p2 k else 0) from rfl]; split <;> omega) rfl
            · refine z_iconst C dX9_sees_62 ?_
              refine x_iload_n C dX9_sees_63 rfl 0 rfl ?_
              refine x_ishl C dX9_sees_64 rfl ?_
              refine x_goto (tgt := 69) C dX9_sees_65 (by decide) ?_
              refine x_ior (v := zI (s + p2 k)) C dX9_sees_69 (ior_z (by omega) (by omega)) ?_
              refine x_istore_n (lv' := [(2, .int (zI (s + p2 k))), (3, .int (zI (k : Int))), (0, .ref m), (1, .int (zI w))]) C dX9_sees_70 rfl (by decide) rfl ?_
              refine z_iinc (lv' := [(3, .int (zI ((k : Int) + 1))), (2, .int (zI (s + p2 k))), (0, .ref m), (1, .int (zI w))]) C dX9_sees_71 1 rfl rfl (by decide) rfl ?_
              refine x_goto (tgt := 27) C dX9_sees_74 (by decide) ?_
              exact ih27 _ (by omega) (k + 1) _ (by omega) _ (by omega) (by rw [show seeN σ (σ 19 w.toNat) (k + 1) = seeN σ (σ 19 w.toNat) k + (if dst (σ 19 w.toNat) (σ 14 k) ≤ 3 then p2 k else 0) from rfl]; split <;> omega) rfl
    exact L27 _ (0) _ (by omega) _ (by omega) rfl rfl
