abbrev rm_X9_lay : Room := { frames := 0, cells := 0, slots := 0, locals := 0 }
set_option maxHeartbeats 4000000 in
set_option maxRecDepth 100000 in
theorem c_X9_lay (l : Launch) (hst : l.stackTraces = false) (G : GG) (z : Nat) (μ : Mm) (m : Nat) (σ : SS) (n : Nat) (th fo cm : Int) (Ci Su : Nat → Int) (A : Nat → Nat) (c : Int) (hM9 : RepY G μ m σ th fo cm Ci Su A) (hI : Iv σ n) (hc : 0 ≤ c ∧ c ≤ 26) (hcm : 0 ≤ cm ∧ cm ≤ 10) : Ct l yX9_lay wsX9_lay rm_X9_lay G z [.ref m, .int (zI c)] μ (rV (fun μ' => (OB μ' m 3000 10 [.ref (A 0), .ref (A 1), .ref (A 2), .ref (A 3), .ref (A 4), .ref (A 5), .ref (A 6), .int (zI (σ 7 0)), .ref (A 8), .ref (A 9), .ref (A 10), .ref (A 11), .int (zI (σ 12 0)), .ref (A 13), .ref (A 14), .ref (A 15), .ref (A 16), .ref (A 17), .int (zI (σ 18 0)), .ref (A 19), .ref (A 20), .ref (A 21), .ref (A 22), .int (zI (σ 23 0)), .int (zI th), .int (zI fo), .ref (A 26), .int (zI (layN cm c)), .ref (A 28)] ∧ MA G μ' A σ ∧ AI G μ' (A 26) 3027 12 (layC Ci cm c)) ∧ Fr 3000 3028 μ μ')) (nX) := by
  refine ct_of (cc := cX9_lay) (maxL := 2) (ret := none) (own := RX9) (by decide) rfl rfl hst (Nat.le_of_ble_eq_true rfl) ?_
  intro E hLl hnm C R hT
  have in_X9 : ∀ w ∈ u_ws RX9 TX9 29, w ∈ wsX9_lay := by decide +kernel
  have hM8 := hM9
  obtain ⟨hO, hMA, hCi, hSu⟩ := hM9
  have hn7 := hI.n7
  have hn12 := hI.n12
  have hn18 := hI.n18
  have hn23 := hI.n23
  have hFr : Fr 3000 3028 μ μ := Fr.rf
  refine x_eq (lv' := [(0, .ref m), (1, .int (zI c))]) rfl rfl ?_
  refine x_iload_n C dX9_lay_0 rfl 1 rfl ?_
  refine z_bipush C dX9_lay_1 (by decide) ?_
  refine z_icmp_ne (tgt := 43) C dX9_lay_3 (by decide) (rg_of (by omega) (by omega)) (rg_of (by omega) (by omega)) (fun c_1 => ?_) (fun c_1 => ?_)
  · refine x_aload_n C dX9_lay_43 rfl 0 rfl ?_
    refine x_get (ci := 10) (Cn := RX9) (T := TX9) (N := 29) (ref := "CairnCipherModel") C dX9_lay_44 in_X9 rfl hO 26 (by decide) (by decide +kernel) rfl rfl ?_
    refine x_aload_n C dX9_lay_47 rfl 0 rfl ?_
    refine x_get (ci := 10) (Cn := RX9) (T := TX9) (N := 29) (ref := "CairnCipherModel") C dX9_lay_48 in_X9 rfl hO 27 (by decide) (by decide +kernel) rfl rfl ?_
    refine z_bipush C dX9_lay_51 (by decide) ?_
    refine x_iload_n C dX9_lay_53 rfl 1 rfl ?_
    refine z_iadd C dX9_lay_54 rfl ?_
    refine z_iast (j := cm.toNat) C dX9_lay_55 hCi (by omega) (by omega) (by decide) (fun μ2 hCiw hF3 => ?_)
    have hO := hF3.ob hO
    have hMA : MA G μ2 A σ := hF3.ma hMA
    have hSu := hF3.ai hSu
    have hFr : Fr 3000 3028 μ μ2 := hFr.tr hF3
    have hCi := hCiw
    refine x_aload_n C dX9_lay_56 rfl 0 rfl ?_
    refine x_dup C dX9_lay_57 rfl ?_
    refine x_get (ci := 10) (Cn := RX9) (T := TX9) (N := 29) (ref := "CairnCipherModel") C dX9_lay_58 in_X9 rfl hO 27 (by decide) (by decide +kernel) rfl rfl ?_
    refine z_iconst C dX9_lay_61 ?_
    refine z_iadd C dX9_lay_62 rfl ?_
    refine z_put (ci := 10) (Cn := RX9) (T := TX9) (N := 29) (ref := "CairnCipherModel") (fs' := [.ref (A 0), .ref (A 1), .ref (A 2), .ref (A 3), .ref (A 4), .ref (A 5), .ref (A 6), .int (zI (σ 7 0)), .ref (A 8), .ref (A 9), .ref (A 10), .ref (A 11), .int (zI (σ 12 0)), .ref (A 13), .ref (A 14), .ref (A 15), .ref (A 16), .ref (A 17), .int (zI (σ 18 0)), .ref (A 19), .ref (A 20), .ref (A 21), .ref (A 22), .int (zI (σ 23 0)), .int (zI th), .int (zI fo), .ref (A 26), .int (zI (cm + 1)), .ref (A 28)]) C dX9_lay_63 in_X9 rfl tyX9 tyX9_ok nmX9 hO 27 (by decide) (by decide +kernel) rfl rfl rfl rfl rfl (Nat.le_of_ble_eq_true rfl) rfl (fun μ4 hOw hF5 => ?_)
    have hMA : MA G μ4 A σ := hF5.ma hMA
    have hCi := hF5.ai hCi
    have hSu := hF5.ai hSu
    have hFr : Fr 3000 3028 μ μ4 := hFr.tr hF5
    have hO := hOw
    exact x_vret C R dX9_lay_66 (Nat.le_of_ble_eq_true rfl) (Nat.le_of_ble_eq_true rfl) (⟨rfl, ⟨(by (unfold layN; rw [if_neg (by omega)]; exact hO)), hMA, (by (unfold layC; rw [if_neg (by omega)]; exact hCi))⟩, hFr⟩)
  · refine x_aload_n C dX9_lay_6 rfl 0 rfl ?_
    refine x_get (ci := 10) (Cn := RX9) (T := TX9) (N := 29) (ref := "CairnCipherModel") C dX9_lay_7 in_X9 rfl hO 26 (by decide) (by decide +kernel) rfl rfl ?_
    refine x_aload_n C dX9_lay_10 rfl 0 rfl ?_
    refine x_get (ci := 10) (Cn := RX9) (T := TX9) (N := 29) (ref := "CairnCipherModel") C dX9_lay_11 in_X9 rfl hO 27 (by decide) (by decide +kernel) rfl rfl ?_
    refine z_ldc (w := (55357)) (v := (55357)) C dX9_lay_14 (by decide +kernel) (by decide) ?_
    refine z_iast (j := cm.toNat) C dX9_lay_16 hCi (by omega) (by omega) (by decide) (fun μ6 hCiw hF7 => ?_)
    have hO := hF7.ob hO
    have hMA : MA G μ6 A σ := hF7.ma hMA
    have hSu := hF7.ai hSu
    have hFr : Fr 3000 3028 μ μ6 := hFr.tr hF7
    have hCi := hCiw
    refine x_aload_n C dX9_lay_17 rfl 0 rfl ?_
    refine x_get (ci := 10) (Cn := RX9) (T := TX9) (N := 29) (ref := "CairnCipherModel") C dX9_lay_18 in_X9 rfl hO 26 (by decide) (by decide +kernel) rfl rfl ?_
    refine x_aload_n C dX9_lay_21 rfl 0 rfl ?_
    refine x_get (ci := 10) (Cn := RX9) (T := TX9) (N := 29) (ref := "CairnCipherModel") C dX9_lay_22 in_X9 rfl hO 27 (by decide) (by decide +kernel) rfl rfl ?_
    refine z_iconst C dX9_lay_25 ?_
    refine z_iadd C dX9_lay_26 rfl ?_
    refine z_ldc (w := (56831)) (v := (56831)) C dX9_lay_27 (by decide +kernel) (by decide) ?_
    refine z_iast (j := (cm + 1).toNat) C dX9_lay_29 hCi (by omega) (by omega) (by decide) (fun μ8 hCiw hF9 => ?_)
    have hO := hF9.ob hO
    have hMA : MA G μ8 A σ := hF9.ma hMA
    have hSu := hF9.ai hSu
    have hFr : Fr 3000 3028 μ μ8 := hFr.tr hF9
    have hCi := hCiw
    refine x_aload_n C dX9_lay_30 rfl 0 rfl ?_
    refine x_dup C dX9_lay_31 rfl ?_
    refine x_get (ci := 10) (Cn := RX9) (T := TX9) (N := 29) (ref := "CairnCipherModel") C dX9_lay_32 in_X9 rfl hO 27 (by decide) (by decide +kernel) rfl rfl ?_
    refine z_iconst C dX9_lay_35 ?_
    refine z_iadd C dX9_lay_36 rfl ?_
    refine z_put (ci := 10) (Cn := RX9) (T := TX9) (N := 29) (ref := "CairnCipherModel") (fs' := [.ref (A 0), .ref (A 1), .ref (A 2), .ref (A 3), .ref (A 4), .ref (A 5), .ref (A 6), .int (zI (σ 7 0)), .ref (A 8), .ref (A 9), .ref (A 10), .ref (A 11), .int (zI (σ 12 0)), .ref (A 13), .ref (A 14), .ref (A 15), .ref (A 16), .ref (A 17), .int (zI (σ 18 0)), .ref (A 19), .ref (A 20), .ref (A 21), .ref (A 22), .int (zI (σ 23 0)), .int (zI th), .int (zI fo), .ref (A 26), .int (zI (cm + 2)), .ref (A 28)]) C dX9_lay_37 in_X9 rfl tyX9 tyX9_ok nmX9 hO 27 (by decide) (by decide +kernel) rfl rfl rfl rfl rfl (Nat.le_of_ble_eq_true rfl) rfl (fun μ10 hOw hF11 => ?_)
    have hMA : MA G μ10 A σ := hF11.ma hMA
    have hCi := hF11.ai hCi
    have hSu := hF11.ai hSu
    have hFr : Fr 3000 3028 μ μ10 := hFr.tr hF11
    have hO := hOw
    refine x_goto (tgt := 66) C dX9_lay_40 (by decide) ?_
    exact x_vret C R dX9_lay_66 (Nat.le_of_ble_eq_true rfl) (Nat.le_of_ble_eq_true rfl) (⟨rfl, ⟨(by (unfold layN; rw [if_pos (by omega)]; exact hO)), hMA, (by (unfold layC; rw [if_pos (by omega)]; exact hCi))⟩, hFr⟩)
abbrev rm_X9_layCipher : Room := { frames := 1, cells := 0, slots := 0, locals := 21 }
set_option maxHeartbeats 4000000 in
set_option maxRecDepth 100000 in
theorem c_X9_layCipher (l : Launch) (hst : l.stackTraces = false) (G : GG) (z : Nat) (μ : Mm) (m : Nat) (σ : SS) (n : Nat) (th fo cm : Int) (Ci Su : Nat → Int) (A : Nat → Nat) (s : Int) (hM9 : RepY G μ m σ th fo cm Ci Su A) (hI : Iv σ n) (hs : 0 ≤ s ∧ s < 6) (hp8 : 0 ≤ σ 8 s.toNat) (hm1 : 1 ≤ ln σ (s.toNat + 1)) : Ct l yX9_layCipher wsX9_layCipher rm_X9_layCipher G z [.ref m, .int (zI s)] μ (rV (fun μ' => (∃ C', (OB μ' m 3000 10 [.ref (A 0), .ref (A 1), .ref (A 2), .ref (A 3), .ref (A 4), .ref (A 5), .ref (A 6), .int (zI (σ 7 0)), .ref (A 8), .ref (A 9), .ref (A 10), .ref (A 11), .int (zI (σ 12 0)), .ref (A 13), .ref (A 14), .ref (A 15), .ref (A 16), .ref (A 17), .int (zI (σ 18 0)), .ref (A 19), .ref (A 20), .ref (A 21), .ref (A 22), .int (zI (σ 23 0)), .int (zI th), .int (zI fo), .ref (A 26), .int (zI (csm σ s.toNat (ln σ (s.toNat + 1) + 1))), .ref (A 28)] ∧ MA G μ' A σ ∧ AI G μ' (A 26) 3027 12 (C')) ∧ CiOK σ s.toNat C' (ln σ (s.toNat + 1) + 1)) ∧ Fr 3000 3028 μ μ')) (nX) := by
  refine ct_of (cc := cX9_layCipher) (maxL := 8) (ret := none) (own := RX9) (by decide) rfl rfl hst (Nat.le_of_ble_eq_true rfl) ?_
  intro E hLl hnm C R hT
  have in_X9 : ∀ w ∈ u_ws RX9 TX9 29, w ∈ wsX9_layCipher := by decide +kernel
  have hM8 := hM9
  obtain ⟨hO, hMA, hCi, hSu⟩ := hM9
  have hn7 := hI.n7
  have hn12 := hI.n12
  have hn18 := hI.n18
  have hn23 := hI.n23
  have es : (s + 1).toNat = s.toNat + 1 := by omega
  have hr11 := hI.r11 (s.toNat + 1) (by omega)
  have eln : (ln σ (s.toNat + 1) : Int) = σ 11 (s + 1).toNat := by (rw [es]; unfold ln; omega)
  have hgp : 0 ≤ σ 8 s.toNat % ((ln σ (s.toNat + 1) : Int) + 1) ∧ σ 8 s.toNat % ((ln σ (s.toNat + 1) : Int) + 1) ≤ ln σ (s.toNat + 1) := ⟨Int.emod_nonneg _ (by omega), by have := Int.emod_lt_of_pos (σ 8 s.toNat) (show (0 : Int) < (ln σ (s.toNat + 1) : Int) + 1 by omega); omega⟩
  have hFr : Fr 3000 3028 μ μ := Fr.rf
  refine x_eq (lv' := [(0, .ref m), (1, .int (zI s))]) rfl rfl ?_
  refine x_aload_n C dX9_layCipher_0 rfl 0 rfl ?_
  refine x_get (ci := 10) (Cn := RX9) (T := TX9) (N := 29) (ref := "CairnCipherModel") C dX9_layCipher_1 in_X9 rfl hO 8 (by decide) (by decide +kernel) rfl rfl ?_
  refine x_iload_n C dX9_layCipher_4 rfl 1 rfl ?_
  refine z_iald (j := s.toNat) C dX9_layCipher_5 (show AI G μ (A 8) 3009 6 (σ 8) from hMA.ai 8 rfl) (by omega) (by omega) (by decide) ?_
  have q_1 := hI.r8 s.toNat (by omega)
  refine x_istore_n (lv' := [(2, .int (zI ((σ 8) s.toNat))), (0, .ref m), (1, .int (zI s))]) C dX9_layCipher_6 rfl (by decide) rfl ?_
  refine x_iload_n C dX9_layCipher_7 rfl 2 rfl ?_
  refine z_iconst C dX9_layCipher_8 ?_
  refine z_iadd C dX9_layCipher_9 rfl ?_
  refine x_istore_n (lv' := [(3, .int (zI (s + 1))), (2, .int (zI ((σ 8) s.toNat))), (0, .ref m), (1, .int (zI s))]) C dX9_layCipher_10 rfl (by decide) rfl ?_
  refine x_aload_n C dX9_layCipher_11 rfl 2 rfl ?_
  refine x_get (ci := 10) (Cn := RX9) (T := TX9) (N := 29) (ref := "CairnCipherModel") C dX9_layCipher_12 in_X9 rfl hO 11 (by decide) (by decide +kernel) rfl rfl ?_
  refine x_iload_n C dX9_layCipher_15 rfl 0 rfl ?_
  refine z_iald (j := (s + 1).toNat) C dX9_layCipher_16 (show AI G μ (A 11) 3012 7 (σ 11) from hMA.ai 11 rfl) (by omega) (by omega) (by decide) ?_
  have q_2 := hI.r11 ((s + 1).toNat) (by omega)
  refine x_istore (lv' := [(4, .int (zI ((σ 11) ((s + 1).toNat)))), (3, .int (zI (s + 1))), (2, .int (zI ((σ 8) s.toNat))), (0, .ref m), (1, .int (zI s))]) C dX9_layCipher_17 (by decide) rfl ?_
  refine x_iload_n C dX9_layCipher_19 rfl 2 rfl ?_
  refine x_iload C dX9_layCipher_20 0 rfl ?_
  refine z_iconst C dX9_layCipher_22 ?_
  refine z_iadd C dX9_layCipher_23 rfl ?_
  refine x_stk (stk' := [.int (zI ((ln σ (s.toNat + 1) : Int) + 1)), .int (zI (σ 8 s.toNat))]) (by (rw [eln])) ?_
  obtain ⟨gp, hgp9⟩ : ∃ gp : Int, gp = σ 8 s.toNat % ((ln σ (s.toNat + 1) : Int) + 1) := ⟨_, rfl⟩
  refine z_irem C dX9_layCipher_24 (rg_of (by omega) (by omega)) (by omega) (rg_of (by omega) (by omega)) (by omega) rfl ?_
  refine x_stk (stk' := [.int (zI gp)]) (by rw [hgp9]) ?_
  rw [← hgp9] at hgp
  refine x_istore (lv' := [(5, .int (zI gp)), (4, .int (zI ((σ 11) ((s + 1).toNat)))), (3, .int (zI (s + 1))), (2, .int (zI ((σ 8) s.toNat))), (0, .ref m), (1, .int (zI s))]) C dX9_layCipher_25 (by decide) rfl ?_
  refine x_aload_n C dX9_layCipher_27 rfl 4 rfl ?_
  refine z_iconst C dX9_layCipher_28 ?_
  refine z_put (ci := 10) (Cn := RX9) (T := TX9) (N := 29) (ref := "CairnCipherModel") (fs' := [.ref (A 0), .ref (A 1), .ref (A 2), .ref (A 3), .ref (A 4), .ref (A 5), .ref (A 6), .int (zI (σ 7 0)), .ref (A 8), .ref (A 9), .ref (A 10), .ref (A 11), .int (zI (σ 12 0)), .ref (A 13), .ref (A 14), .ref (A 15), .ref (A 16), .ref (A 17), .int (zI (σ 18 0)), .ref (A 19), .ref (A 20), .ref (A 21), .ref (A 22), .int (zI (σ 23 0)), .int (zI th), .int (zI fo), .ref (A 26), .int (zI 0), .ref (A 28)]) C dX9_layCipher_29 in_X9 rfl tyX9 tyX9_ok nmX9 hO 27 (by decide) (by decide +kernel) rfl rfl rfl rfl rfl (Nat.le_of_ble_eq_true rfl) rfl (fun μ3 hOw hF4 => ?_)
  have hMA : MA G μ3 A σ := hF4.ma hMA
  have hCi := hF4.ai hCi
  have hSu := hF4.ai hSu
  have hFr : Fr 3000 3028 μ μ3 := hFr.tr hF4
  have hO := hOw
  refine z_iconst C dX9_layCipher_32 ?_
  refine x_istore (lv' := [(6, .int (zI 0)), (5, .int (zI gp)), (4, .int (zI ((σ 11) ((s + 1).toNat)))), (3, .int (zI (s + 1))), (2, .int (zI ((σ 8) s.toNat))), (0, .ref m), (1, .int (zI s))]) C dX9_layCipher_33 (by decide) rfl ?_
  have L35 : ∀ (M9 : Nat) (μk : Mm) (k : Nat) (kz : Int) (hkz : kz = (k : Int)) (cmk : Int) (Ck : Nat → Int) (c : Nat) (hO : OB μk m 3000 10 [.ref (A 0), .ref (A 1), .ref (A 2), .ref (A 3), .ref (A 4), .ref (A 5), .ref (A 6), .int (zI (σ 7 0)), .ref (A 8), .ref (A 9), .ref (A 10), .ref (A 11), .int (zI (σ 12 0)), .ref (A 13), .ref (A 14), .ref (A 15), .ref (A 16), .ref (A 17), .int (zI (σ 18 0)), .ref (A 19), .ref (A 20), .ref (A 21), .ref (A 22), .int (zI (σ 23 0)), .int (zI th), .int (zI fo), .ref (A 26), .int (zI cmk), .ref (A 28)]) (hMA : MA G μk A σ) (hCi : AI G μk (A 26) 3027 12 Ck) (hSu : AI G μk (A 28) 3029 64 Su) (hFr : Fr 3000 3028 μ μk) (hk : k ≤ ln σ (s.toNat + 1)) (hci : CiOK σ s.toNat Ck c) (hcm : cmk = csm σ s.toNat c) (hc : (c = k ∧ (k : Int) ≤ gp) ∨ (c = k + 1 ∧ gp < (k : Int))) (hM9 : ln σ (s.toNat + 1) - k = M9), Wx E G 0 0 35 [(6, .int (zI kz)), (5, .int (zI gp)), (4, .int (zI ((σ 11) ((s + 1).toNat)))), (3, .int (zI (s + 1))), (2, .int (zI ((σ 8) s.toNat))), (0, .ref m), (1, .int (zI s))] [] μk := by
    intro M9
    induction M9 using Nat.strongRecOn with
    | ind M9 ih35 =>
      intro μk k kz hkz cmk Ck c hO hMA hCi hSu hFr hk hci hcm hc hM9
      subst hkz
      refine x_iload C dX9_layCipher_35 0 rfl ?_
      refine x_iload C dX9_layCipher_37 2 rfl ?_
      refine z_icmp_ge (tgt := 104) C dX9_layCipher_39 (by decide) (rg_of (by omega) (by omega)) (rg_of (by omega) (by omega)) (fun c_5 => ?_) (fun c_5 => ?_)
      · refine x_iload C dX9_layCipher_104 1 rfl ?_
        refine x_iload C dX9_layCipher_106 2 rfl ?_
        refine z_icmp_ne (tgt := 119) C dX9_layCipher_108 (by decide) (rg_of (by omega) (by omega)) (rg_of (by omega) (by omega)) (fun c_6 => ?_) (fun c_6 => ?_)
        · exact x_vret C R dX9_layCipher_119 (Nat.le_of_ble_eq_true rfl) (Nat.le_of_ble_eq_true rfl) (⟨rfl, ⟨_, (by (have ec : c = ln σ (s.toNat + 1) + 1 := (by omega); have e1 := hci; have e2 := hcm; rw [ec] at e1 e2; rw [e2] at hO; exact ⟨⟨hO, hMA, hCi⟩, e1⟩))⟩, hFr⟩)
        · refine x_aload_n C dX9_layCipher_111 rfl 5 rfl ?_
          refine x_iload_n C dX9_layCipher_112 rfl 4 rfl ?_
          refine z_bipush C dX9_layCipher_113 (by decide) ?_
          refine z_irem C dX9_layCipher_115 (rg_of (by omega) (by omega)) (by omega) (rg_of (by omega) (by omega)) (by omega) rfl ?_
          have hl9 : (((σ 8) s.toNat) % 27) = cl9 σ s.toNat ((c : Nat) : Int) := by (unfold cl9 cil; rw [if_pos (by omega)])
          have hcsr := csm_rg σ s.toNat c
          have hlr := cl9_rg hI (s := s.toNat) (by omega) hp8 hm1 (i := ((c : Nat) : Int)) (by omega)
          obtain ⟨ho7a, ho7b⟩ := CiOK_s hci hcm hl9
          refine x_callV (n := 1) (ci := 10) (Cn := RX9) (T := TX9) (N := 29) (cc9 := 0) (ss9 := 0) (rest := []) C dX9_layCipher_116 (c_X9_lay (kxL E) C.st G z μk _ σ _ _ _ _ _ _ _ (((σ 8) s.toNat) % 27) ⟨hO, hMA, hCi, hSu⟩ hI (by omega) (by omega)) gX9_layCipher_X9_lay rfl (by decide +kernel) ⟨(Nat.le_of_ble_eq_true rfl), (Nat.le_of_ble_eq_true rfl)⟩ rfl ⟨_, _, hO⟩ rfl rfl (Nat.le_of_ble_eq_true rfl) rfl rfl ⟨(Nat.le_of_ble_eq_true rfl), (Nat.le_of_ble_eq_true rfl)⟩ nX_no (fun v8 μ9 hv10 => ?_)
          obtain ⟨hw14, h12⟩ := hv10
          subst hw14
          obtain ⟨⟨hO, hMA, hCi⟩, hF9⟩ := h12
          have hF15 := hF9
          have hSu := hF15.ai hSu
          have hFr : Fr 3000 3028 μ μ9 := hFr.tr hF15
          refine x_stk (stk' := []) rfl ?_
          exact x_vret C R dX9_layCipher_119 (Nat.le_of_ble_eq_true rfl) (Nat.le_of_ble_eq_true rfl) (⟨rfl, ⟨_, (by (have ec : (c + 1) = ln σ (s.toNat + 1) + 1 := (by omega); have e1 := ho7a; have e2 := ho7b; rw [ec] at e1 e2; rw [e2] at hO; exact ⟨⟨hO, hMA, hCi⟩, e1⟩))⟩, hFr⟩)
      · refine x_iload C dX9_layCipher_42 0 rfl ?_
        refine x_iload C dX9_layCipher_44 1 rfl ?_
        refine z_icmp_ne (tgt := 57) C dX9_layCipher_46 (by decide) (rg_of (by omega) (by omega)) (rg_of (by omega) (by omega)) (fun c_16 => ?_) (fun c_16 => ?_)
        · refine x_aload_n C dX9_layCipher_57 rfl 5 rfl ?_
          refine x_get (ci := 10) (Cn := RX9) (T := TX9) (N := 29) (ref := "CairnCipherModel") C dX9_layCipher_58 in_X9 rfl hO 10 (by decide) (by decide +kernel) rfl rfl ?_
          refine z_iconst C dX9_layCipher_61 ?_
          refine x_iload_n C dX9_layCipher_62 rfl 3 rfl ?_
          refine z_imul C dX9_layCipher_63 rfl ?_
          refine x_iload_n C dX9_layCipher_64 rfl 4 rfl ?_
          refine z_iconst C dX9_layCipher_65 ?_
          refine z_irem C dX9_layCipher_66 (rg_of (by omega) (by omega)) (by omega) (rg_of (by omega) (by omega)) (by omega) rfl ?_
          refine z_iconst C dX9_layCipher_67 ?_
          refine z_icmp_ne (tgt := 81) C dX9_layCipher_68 (by decide) (rg_of (by omega) (by omega)) (rg_of (by omega) (by omega)) (fun c_17 => ?_) (fun c_17 => ?_)
          · refine x_iload C dX9_layCipher_81 0 rfl ?_
            refine z_iadd C dX9_layCipher_83 rfl ?_
            refine z_iald (j := ((5 * (s + 1)) + (k : Int)).toNat) C dX9_layCipher_84 (show AI G μk (A 10) 3011 35 (σ 10) from hMA.ai 10 rfl) (by omega) (by omega) (by decide) ?_
            have q_18 := hI.r10 (((5 * (s + 1)) + (k : Int)).toNat) (by omega)
            refine x_istore (lv' := [(7, .int (zI ((σ 10) (((5 * (s + 1)) + (k : Int)).toNat)))), (6, .int (zI (k : Int))), (5, .int (zI gp)), (4, .int (zI ((σ 11) ((s + 1).toNat)))), (3, .int (zI (s + 1))), (2, .int (zI ((σ 8) s.toNat))), (0, .ref m), (1, .int (zI s))]) C dX9_layCipher_85 (by decide) rfl ?_
            refine x_aload_n C dX9_layCipher_87 rfl 6 rfl ?_
            refine x_iload C dX9_layCipher_88 0 rfl ?_
            refine x_iload_n C dX9_layCipher_90 rfl 5 rfl ?_
            refine z_iadd C dX9_layCipher_91 rfl ?_
            refine z_bipush C dX9_layCipher_92 (by decide) ?_
            refine z_irem C dX9_layCipher_94 (rg_of (by omega) (by omega)) (by omega) (rg_of (by omega) (by omega)) (by omega) rfl ?_
            have hl9 : ((((σ 10) (((5 * (s + 1)) + (k : Int)).toNat)) + ((σ 8) s.toNat)) % 27) = cl9 σ s.toNat ((c : Nat) : Int) := by (rcases hc with hc1 | hc1 <;> (unfold cl9 cil; rw [if_neg (by omega), if_neg (show ¬ σ 8 s.toNat % 2 = 1 by omega)]; first | (rw [if_pos (show ((c : Nat) : Int) < σ 8 s.toNat % ((ln σ (s.toNat + 1) : Int) + 1) by omega), show ((5 * (s + 1)) + (k : Int)).toNat = 5 * (s.toNat + 1) + (((c : Nat) : Int)).toNat by omega]; rfl) | (rw [if_neg (show ¬ ((c : Nat) : Int) < σ 8 s.toNat % ((ln σ (s.toNat + 1) : Int) + 1) by omega), show ((5 * (s + 1)) + (k : Int)).toNat = 5 * (s.toNat + 1) + ((((c : Nat) : Int) - 1)).toNat by omega]; rfl)))
            have hcsr := csm_rg σ s.toNat c
            have hlr := cl9_rg hI (s := s.toNat) (by omega) hp8 hm1 (i := ((c : Nat) : Int)) (by omega)
            obtain ⟨ho19a, ho19b⟩ := CiOK_s hci hcm hl9
            refine x_callV (n := 1) (ci := 10) (Cn := RX9) (T := TX9) (N := 29) (cc9 := 0) (ss9 := 0) (rest := []) C dX9_layCipher_95 (c_X9_lay (kxL E) C.st G z μk _ σ _ _ _ _ _ _ _ ((((σ 10) (((5 * (s + 1)) + (k : Int)).toNat)) + ((σ 8) s.toNat)) % 27) ⟨hO, hMA, hCi, hSu⟩ hI (by omega) (by omega)) gX9_layCipher_X9_lay rfl (by decide +kernel) ⟨(Nat.le_of_ble_eq_true rfl), (Nat.le_of_ble_eq_true rfl)⟩ rfl ⟨_, _, hO⟩ rfl rfl (Nat.le_of_ble_eq_true rfl) rfl rfl ⟨(Nat.le_of_ble_eq_true rfl), (Nat.le_of_ble_eq_true rfl)⟩ nX_no (fun v20 μ21 hv22 => ?_)
            obtain ⟨hw26, h24⟩ := hv22
            subst hw26
            obtain ⟨⟨hO, hMA, hCi⟩, hF9⟩ := h24
            have hF27 := hF9
            have hSu := hF27.ai hSu
            have hFr : Fr 3000 3028 μ μ21 := hFr.tr hF27
            refine x_stk (stk' := []) rfl ?_
            refine z_iinc (lv' := [(6, .int (zI ((k : Int) + 1))), (7, .int (zI ((σ 10) (((5 * (s + 1)) + (k : Int)).toNat)))), (5, .int (zI gp)), (4, .int (zI ((σ 11) ((s + 1).toNat)))), (3, .int (zI (s + 1))), (2, .int (zI ((σ 8) s.toNat))), (0, .ref m), (1, .int (zI s))]) C dX9_layCipher_98 1 rfl rfl (by decide) rfl ?_
            refine x_goto (tgt := 35) C dX9_layCipher_101 (by decide) ?_
            refine x_sub (lv' := [(6, .int (zI ((k : Int) + 1))), (5, .int (zI gp)), (4, .int (zI ((σ 11) ((s + 1).toNat)))), (3, .int (zI (s + 1))), (2, .int (zI ((σ 8) s.toNat))), (0, .ref m), (1, .int (zI s))]) [0, 2, 3, 4, 5, 6, 7] rfl ?_
            exact ih35 _ (by omega) _ (k + 1) _ (by omega) _ _ (c + 1) hO hMA hCi hSu hFr (by omega) ho19a ho19b (by omega) rfl
          · refine x_iload C dX9_layCipher_71 2 rfl ?_
            refine z_iconst C dX9_layCipher_73 ?_
            refine z_isub C dX9_layCipher_74 rfl ?_
            refine x_iload C dX9_layCipher_75 0 rfl ?_
            refine z_isub C dX9_layCipher_77 rfl ?_
            refine x_goto (tgt := 83) C dX9_layCipher_78 (by decide) ?_
            refine z_iadd C dX9_layCipher_83 rfl ?_
            refine z_iald (j := ((5 * (s + 1)) + ((((σ 11) ((s + 1).toNat)) - 1) - (k : Int))).toNat) C dX9_layCipher_84 (show AI G μk (A 10) 3011 35 (σ 10) from hMA.ai 10 rfl) (by omega) (by omega) (by decide) ?_
            have q_28 := hI.r10 (((5 * (s + 1)) + ((((σ 11) ((s + 1).toNat)) - 1) - (k : Int))).toNat) (by omega)
            refine x_istore (lv' := [(7, .int (zI ((σ 10) (((5 * (s + 1)) + ((((σ 11) ((s + 1).toNat)) - 1) - (k : Int))).toNat)))), (6, .int (zI (k : Int))), (5, .int (zI gp)), (4, .int (zI ((σ 11) ((s + 1).toNat)))), (3, .int (zI (s + 1))), (2, .int (zI ((σ 8) s.toNat))), (0, .ref m), (1, .int (zI s))]) C dX9_layCipher_85 (by decide) rfl ?_
            refine x_aload_n C dX9_layCipher_87 rfl 6 rfl ?_
            refine x_iload C dX9_layCipher_88 0 rfl ?_
            refine x_iload_n C dX9_layCipher_90 rfl 5 rfl ?_
            refine z_iadd C dX9_layCipher_91 rfl ?_
            refine z_bipush C dX9_layCipher_92 (by decide) ?_
            refine z_irem C dX9_layCipher_94 (rg_of (by omega) (by omega)) (by omega) (rg_of (by omega) (by omega)) (by omega) rfl ?_
            have hl9 : ((((σ 10) (((5 * (s + 1)) + ((((σ 11) ((s + 1).toNat)) - 1) - (k : Int))).toNat)) + ((σ 8) s.toNat)) % 27) = cl9 σ s.toNat ((c : Nat) : Int) := by (rcases hc with hc1 | hc1 <;> (unfold cl9 cil; rw [if_neg (by omega), if_pos (show σ 8 s.toNat % 2 = 1 by omega)]; first | (rw [if_pos (show ((c : Nat) : Int) < σ 8 s.toNat % ((ln σ (s.toNat + 1) : Int) + 1) by omega), show ((5 * (s + 1)) + ((((σ 11) ((s + 1).toNat)) - 1) - (k : Int))).toNat = 5 * (s.toNat + 1) + (((ln σ (s.toNat + 1) : Int) - 1 - ((c : Nat) : Int))).toNat by omega]; rfl) | (rw [if_neg (show ¬ ((c : Nat) : Int) < σ 8 s.toNat % ((ln σ (s.toNat + 1) : Int) + 1) by omega), show ((5 * (s + 1)) + ((((σ 11) ((s + 1).toNat)) - 1) - (k : Int))).toNat = 5 * (s.toNat + 1) + (((ln σ (s.toNat + 1) : Int) - 1 - (((c : Nat) : Int) - 1))).toNat by omega]; rfl)))
            have hcsr := csm_rg σ s.toNat c
            have hlr := cl9_rg hI (s := s.toNat) (by omega) hp8 hm1 (i := ((c : Nat) : Int)) (by omega)
            obtain ⟨ho29a, ho29b⟩ := CiOK_s hci hcm hl9
            refine x_callV (n := 1) (ci := 10) (Cn := RX9) (T := TX9) (N := 29) (cc9 := 0) (ss9 := 0) (rest := []) C dX9_layCipher_95 (c_X9_lay (kxL E) C.st G z μk _ σ _ _ _ _ _ _ _ ((((σ 10) (((5 * (s + 1)) + ((((σ 11) ((s + 1).toNat)) - 1) - (k : Int))).toNat)) + ((σ 8) s.toNat)) % 27) ⟨hO, hMA, hCi, hSu⟩ hI (by omega) (by omega)) gX9_layCipher_X9_lay rfl (by decide +kernel) ⟨(Nat.le_of_ble_eq_true rfl), (Nat.le_of_ble_eq_true rfl)⟩ rfl ⟨_, _, hO⟩ rfl rfl (Nat.le_of_ble_eq_true rfl) rfl rfl ⟨(Nat.le_of_ble_eq_true rfl), (Nat.le_of_ble_eq_true rfl)⟩ nX_no (fun v30 μ31 hv32 => ?_)
            obtain ⟨hw36, h34⟩ := hv32
            subst hw36
            obtain ⟨⟨hO, hMA, hCi⟩, hF9⟩ := h34
            have hF37 := hF9
            have hSu := hF37.ai hSu
            have hFr : Fr 3000 3028 μ μ31 := hFr.tr hF37
            refine x_stk (stk' := []) rfl ?_
            refine z_iinc (lv' := [(6, .int (zI ((k : Int) + 1))), (7, .int (zI ((σ 10) (((5 * (s + 1)) + ((((σ 11) ((s + 1).toNat)) - 1) - (k : Int))).toNat)))), (5, .int (zI gp)), (4, .int (zI ((σ 11) ((s + 1).toNat)))), (3, .int (zI (s + 1))), (2, .int (zI ((σ 8) s.toNat))), (0, .ref m), (1, .int (zI s))]) C dX9_layCipher_98 1 rfl rfl (by decide) rfl ?_
            refine x_goto (tgt := 35) C dX9_layCipher_101 (by decide) ?_
            refine x_sub (lv' := [(6, .int (zI ((k : Int) + 1))), (5, .int (zI gp)), (4, .int (zI ((σ 11) ((s + 1).toNat)))), (3, .int (zI (s + 1))), (2, .int (zI ((σ 8) s.toNat))), (0, .ref m), (1, .int (zI s))]) [0, 2, 3, 4, 5, 6, 7] rfl ?_
            exact ih35 _ (by omega) _ (k + 1) _ (by omega) _ _ (c + 1) hO hMA hCi hSu hFr (by omega) ho29a ho29b (by omega) rfl
        · refine x_aload_n C dX9_layCipher_49 rfl 5 rfl ?_
          refine x_iload_n C dX9_layCipher_50 rfl 4 rfl ?_
          refine z_bipush C dX9_layCipher_51 (by decide) ?_
          refine z_irem C dX9_layCipher_53 (rg_of (by omega) (by omega)) (by omega) (rg_of (by omega) (by omega)) (by omega) rfl ?_
          have hl9 : (((σ 8) s.toNat) % 27) = cl9 σ s.toNat ((c : Nat) : Int) := by (unfold cl9 cil; rw [if_pos (by omega)])
          have hcsr := csm_rg σ s.toNat c
          have hlr := cl9_rg hI (s := s.toNat) (by omega) hp8 hm1 (i := ((c : Nat) : Int)) (by omega)
          obtain ⟨ho38a, ho38b⟩ := CiOK_s hci hcm hl9
          refine x_callV (n := 1) (ci := 10) (Cn := RX9) (T := TX9) (N := 29) (cc9 := 0) (ss9 := 0) (rest := []) C dX9_layCipher_54 (c_X9_lay (kxL E) C.st G z μk _ σ _ _ _ _ _ _ _ (((σ 8) s.toNat) % 27) ⟨hO, hMA, hCi, hSu⟩ hI (by omega) (by omega)) gX9_layCipher_X9_lay rfl (by decide +kernel) ⟨(Nat.le_of_ble_eq_true rfl), (Nat.le_of_ble_eq_true rfl)⟩ rfl ⟨_, _, hO⟩ rfl rfl (Nat.le_of_ble_eq_true rfl) rfl rfl ⟨(Nat.le_of_ble_eq_true rfl), (Nat.le_of_ble_eq_true rfl)⟩ nX_no (fun v39 μ40 hv41 => ?_)
          obtain ⟨hw45, h43⟩ := hv41
          subst hw45
          obtain ⟨⟨hO, hMA, hCi⟩, hF9⟩ := h43
          have hF46 := hF9
          have hSu := hF46.ai hSu
          have hFr : Fr 3000 3028 μ μ40 := hFr.tr hF46
          refine x_stk (stk' := []) rfl ?_
          refine x_aload_n C dX9_layCipher_57 rfl 5 rfl ?_
          refine x_get (ci := 10) (Cn := RX9) (T := TX9) (N := 29) (ref := "CairnCipherModel") C dX9_layCipher_58 in_X9 rfl hO 10 (by decide) (by decide +kernel) rfl rfl ?_
          refine z_iconst C dX9_layCipher_61 ?_
          refine x_iload_n C dX9_layCipher_62 rfl 3 rfl ?_
          refine z_imul C dX9_layCipher_63 rfl ?_
          refine x_iload_n C dX9_layCipher_64 rfl 4 rfl ?_
          refine z_iconst C dX9_layCipher_65 ?_
          refine z_irem C dX9_layCipher_66 (rg_of (by omega) (by omega)) (by omega) (rg_of (by omega) (by omega)) (by omega) rfl ?_
          refine z_iconst C dX9_layCipher_67 ?_
          refine z_icmp_ne (tgt := 81) C dX9_layCipher_68 (by decide) (rg_of (by omega) (by omega)) (rg_of (by omega) (by omega)) (fun c_47 => ?_) (fun c_47 => ?_)
          · refine x_iload C dX9_layCipher_81 0 rfl ?_
            refine z_iadd C dX9_layCipher_83 rfl ?_
            refine z_iald (j := ((5 * (s + 1)) + (k : Int)).toNat) C dX9_layCipher_84 (show AI G μ40 (A 10) 3011 35 (σ 10) from hMA.ai 10 rfl) (by omega) (by omega) (by decide) ?_
            have q_48 := hI.r10 (((5 * (s + 1)) + (k : Int)).toNat) (by omega)
            refine x_istore (lv' := [(7, .int (zI ((σ 10) (((5 * (s + 1)) + (k : Int)).toNat)))), (6, .int (zI (k : Int))), (5, .int (zI gp)), (4, .int (zI ((σ 11) ((s + 1).toNat)))), (3, .int (zI (s + 1))), (2, .int (zI ((σ 8) s.toNat))), (0, .ref m), (1, .int (zI s))]) C dX9_layCipher_85 (by decide) rfl ?_
            refine x_aload_n C dX9_layCipher_87 rfl 6 rfl ?_
            refine x_iload C dX9_layCipher_88 0 rfl ?_
            refine x_iload_n C dX9_layCipher_90 rfl 5 rfl ?_
            refine z_iadd C dX9_layCipher_91 rfl ?_
            refine z_bipush C dX9_layCipher_92 (by decide) ?_
            refine z_irem C dX9_layCipher_94 (rg_of (by omega) (by omega)) (by omega) (rg_of (by omega) (by omega)) (by omega) rfl ?_
            have hl9 : ((((σ 10) (((5 * (s + 1)) + (k : Int)).toNat)) + ((σ 8) s.toNat)) % 27) = cl9 σ s.toNat (((c + 1) : Nat) : Int) := by (rcases hc with hc1 | hc1 <;> (unfold cl9 cil; rw [if_neg (by omega), if_neg (show ¬ σ 8 s.toNat % 2 = 1 by omega)]; first | (rw [if_pos (show (((c + 1) : Nat) : Int) < σ 8 s.toNat % ((ln σ (s.toNat + 1) : Int) + 1) by omega), show ((5 * (s + 1)) + (k : Int)).toNat = 5 * (s.toNat + 1) + ((((c + 1) : Nat) : Int)).toNat by omega]; rfl) | (rw [if_neg (show ¬ (((c + 1) : Nat) : Int) < σ 8 s.toNat % ((ln σ (s.toNat + 1) : Int) + 1) by omega), show ((5 * (s + 1)) + (k : Int)).toNat = 5 * (s.toNat + 1) + (((((c + 1) : Nat) : Int) - 1)).toNat by omega]; rfl)))
            have hcsr := csm_rg σ s.toNat (c + 1)
            have hlr := cl9_rg hI (s := s.toNat) (by omega) hp8 hm1 (i := (((c + 1) : Nat) : Int)) (by omega)
            obtain ⟨ho49a, ho49b⟩ := CiOK_s ho38a ho38b hl9
            refine x_callV (n := 1) (ci := 10) (Cn := RX9) (T := TX9) (N := 29) (cc9 := 0) (ss9 := 0) (rest := []) C dX9_layCipher_95 (c_X9_lay (kxL E) C.st G z μ40 _ σ _ _ _ _ _ _ _ ((((σ 10) (((5 * (s + 1)) + (k : Int)).toNat)) + ((σ 8) s.toNat)) % 27) ⟨hO, hMA, hCi, hSu⟩ hI (by omega) (by omega)) gX9_layCipher_X9_lay rfl (by decide +kernel) ⟨(Nat.le_of_ble_eq_true rfl), (Nat.le_of_ble_eq_true rfl)⟩ rfl ⟨_, _, hO⟩ rfl rfl (Nat.le_of_ble_eq_true rfl) rfl rfl ⟨(Nat.le_of_ble_eq_true rfl), (Nat.le_of_ble_eq_true rfl)⟩ nX_no (fun v50 μ51 hv52 => ?_)
            obtain ⟨hw56, h54⟩ := hv52
            subst hw56
            obtain ⟨⟨hO, hMA, hCi⟩, hF9⟩ := h54
            have hF57 := hF9
            have hSu := hF57.ai hSu
            have hFr : Fr 3000 3028 μ μ51 := hFr.tr hF57
            refine x_stk (stk' := []) rfl ?_
            refine z_iinc (lv' := [(6, .int (zI ((k : Int) + 1))), (7, .int (zI ((σ 10) (((5 * (s + 1)) + (k : Int)).toNat)))), (5, .int (zI gp)), (4, .int (zI ((σ 11) ((s + 1).toNat)))), (3, .int (zI (s + 1))), (2, .int (zI ((σ 8) s.toNat))), (0, .ref m), (1, .int (zI s))]) C dX9_layCipher_98 1 rfl rfl (by decide) rfl ?_
            refine x_goto (tgt := 35) C dX9_layCipher_101 (by decide) ?_
            refine x_sub (lv' := [(6, .int (zI ((k : Int) + 1))), (5, .int (zI gp)), (4, .int (zI ((σ 11) ((s + 1).toNat)))), (3, .int (zI (s + 1))), (2, .int (zI ((σ 8) s.toNat))), (0, .ref m), (1, .int (zI s))]) [0, 2, 3, 4, 5, 6, 7] rfl ?_
            exact ih35 _ (by omega) _ (k + 1) _ (by omega) _ _ ((c + 1) + 1) hO hMA hCi hSu hFr (by omega) ho49a ho49b (by omega) rfl
          · refine x_iload C dX9_layCipher_71 2 rfl ?_
            refine z_iconst C dX9_layCipher_73 ?_
            refine z_isub C dX9_layCipher_74 rfl ?_
            refine x_iload C dX9_layCipher_75 0 rfl ?_
            refine z_isub C dX9_layCipher_77 rfl ?_
            refine x_goto (tgt := 83) C dX9_layCipher_78 (by decide) ?_
            refine z_iadd C dX9_layCipher_83 rfl ?_
            refine z_iald (j := ((5 * (s + 1)) + ((((σ 11) ((s + 1).toNat)) - 1) - (k : Int))).toNat) C dX9_layCipher_84 (show AI G μ40 (A 10) 3011 35 (σ 10) from hMA.ai 10 rfl) (by omega) (by omega) (by decide) ?_
            have q_58 := hI.r10 (((5 * (s + 1)) + ((((σ 11) ((s + 1).toNat)) - 1) - (k : Int))).toNat) (by omega)
            refine x_istore (lv' := [(7, .int (zI ((σ 10) (((5 * (s + 1)) + ((((σ 11) ((s + 1).toNat)) - 1) - (k : Int))).toNat)))), (6, .int (zI (k : Int))), (5, .int (zI gp)), (4, .int (zI ((σ 11) ((s + 1).toNat)))), (3, .int (zI (s + 1))), (2, .int (zI ((σ 8) s.toNat))), (0, .ref m), (1, .int (zI s))]) C dX9_layCipher_85 (by decide) rfl ?_
            refine x_aload_n C dX9_layCipher_87 rfl 6 rfl ?_
            refine x_iload C dX9_layCipher_88 0 rfl ?_
            refine x_iload_n C dX9_layCipher_90 rfl 5 rfl ?_
            refine z_iadd C dX9_layCipher_91 rfl ?_
            refine z_bipush C dX9_layCipher_92 (by decide) ?_
            refine z_irem C dX9_layCipher_94 (rg_of (by omega) (by omega)) (by omega) (rg_of (by omega) (by omega)) (by omega) rfl ?_
            have hl9 : ((((σ 10) (((5 * (s + 1)) + ((((σ 11) ((s + 1).toNat)) - 1) - (k : Int))).toNat)) + ((σ 8) s.toNat)) % 27) = cl9 σ s.toNat (((c + 1) : Nat) : Int) := by (rcases hc with hc1 | hc1 <;> (unfold cl9 cil; rw [if_neg (by omega), if_pos (show σ 8 s.toNat % 2 = 1 by omega)]; first | (rw [if_pos (show (((c + 1) : Nat) : Int) < σ 8 s.toNat % ((ln σ (s.toNat + 1) : Int) + 1) by omega), show ((5 * (s + 1)) + ((((σ 11) ((s + 1).toNat)) - 1) - (k : Int))).toNat = 5 * (s.toNat + 1) + (((ln σ (s.toNat + 1) : Int) - 1 - (((c + 1) : Nat) : Int))).toNat by omega]; rfl) | (rw [if_neg (show ¬ (((c + 1) : Nat) : Int) < σ 8 s.toNat % ((ln σ (s.toNat + 1) : Int) + 1) by omega), show ((5 * (s + 1)) + ((((σ 11) ((s + 1).toNat)) - 1) - (k : Int))).toNat = 5 * (s.toNat + 1) + (((ln σ (s.toNat + 1) : Int) - 1 - ((((c + 1) : Nat) : Int) - 1))).toNat by omega]; rfl)))
            have hcsr := csm_rg σ s.toNat (c + 1)
            have hlr := cl9_rg hI (s := s.toNat) (by omega) hp8 hm1 (i := (((c + 1) : Nat) : Int)) (by omega)
            obtain ⟨ho59a, ho59b⟩ := CiOK_s ho38a ho38b hl9
            refine x_callV (n := 1) (ci := 10) (Cn := RX9) (T := TX9) (N := 29) (cc9 := 0) (ss9 := 0) (rest := []) C dX9_layCipher_95 (c_X9_lay (kxL E) C.st G z μ40 _ σ _ _ _ _ _ _ _ ((((σ 10) (((5 * (s + 1)) + ((((σ 11) ((s + 1).toNat)) - 1) - (k : Int))).toNat)) + ((σ 8) s.toNat)) % 27) ⟨hO, hMA, hCi, hSu⟩ hI (by omega) (by omega)) gX9_layCipher_X9_lay rfl (by decide +kernel) ⟨(Nat.le_of_ble_eq_true rfl), (Nat.le_of_ble_eq_true rfl)⟩ rfl ⟨_, _, hO⟩ rfl rfl (Nat.le_of_ble_eq_true rfl) rfl rfl ⟨(Nat.le_of_ble_eq_true rfl), (Nat.le_of_ble_eq_true rfl)⟩ nX_no (fun v60 μ61 hv62 => ?_)
            obtain ⟨hw66, h64⟩ := hv62
            subst hw66
            obtain ⟨⟨hO, hMA, hCi⟩, hF9⟩ := h64
            have hF67 := hF9
            have hSu := hF67.ai hSu
            have hFr : Fr 3000 3028 μ μ61 := hFr.tr hF67
            refine x_stk (stk' := []) rfl ?_
            refine z_iinc (lv' := [(6, .int (zI ((k : Int) + 1))), (7, .int (zI ((σ 10) (((5 * (s + 1)) + ((((σ 11) ((s + 1).toNat)) - 1) - (k : Int))).toNat)))), (5, .int (zI gp)), (4, .int (zI ((σ 11) ((s + 1).toNat)))), (3, .int (zI (s + 1))), (2, .int (zI ((σ 8) s.toNat))), (0, .ref m), (1, .int (zI s))]) C dX9_layCipher_98 1 rfl rfl (by decide) rfl ?_
            refine x_goto (tgt := 35) C dX9_layCipher_101 (by decide) ?_
            refine x_sub (lv' := [(6, .int (zI ((k : Int) + 1))), (5, .int (zI gp)), (4, .int (zI ((σ 11) ((s + 1).toNat)))), (3, .int (zI (s + 1))), (2, .int (zI ((σ 8) s.toNat))), (0, .ref m), (1, .int (zI s))]) [0, 2, 3, 4, 5, 6, 7] rfl ?_
            exact ih35 _ (by omega) _ (k + 1) _ (by omega) _ _ ((c + 1) + 1) hO hMA hCi hSu hFr (by omega) ho59a ho59b (by omega) rfl
  exact L35 _ _ (0) _ (by omega) 0 _ 0 hO hMA hCi hSu hFr (by omega) CiOK_0 rfl (by omega) rfl
abbrev rm_X9_hasCipher : Room := { frames := 2, cells := 0, slots := 0, locals := 48 }
set_option maxHeartbeats 4000000 in
set_option maxRecDepth 100000 in
theorem c_X9_hasCipher (l : Launch) (hst : l.stackTraces = false) (G : GG) (z : Nat) (μ : Mm) (m : Nat) (σ : SS) (n : Nat) (th fo cm : Int) (Ci Su : Nat → Int) (A : Nat → Nat) (k : Int) (hM9 : RepY G μ m σ th fo cm Ci Su A) (hI : Iv σ n) (hJ : Jv σ) (hk : -2147483648 ≤ k ∧ k < 2147483648) : Ct l yX9_hasCipher wsX9_hasCipher rm_X9_hasCipher G z [.ref m, .int (zI k)] μ (rS (fun r9 μ' => (∃ th' cm' C', OB μ' m 3000 10 [.ref (A 0), .ref (A 1), .ref (A 2), .ref (A 3), .ref (A 4), .ref (A 5), .ref (A 6), .int (zI (σ 7 0)), .ref (A 8), .ref (A 9), .ref (A 10), .ref (A 11), .int (zI (σ 12 0)), .ref (A 13), .ref (A 14), .ref (A 15), .ref (A 16), .ref (A 17), .int (zI (σ 18 0)), .ref (A 19), .ref (A 20), .ref (A 21), .ref (A 22), .int (zI (σ 23 0)), .int (zI th'), .int (zI fo), .ref (A 26), .int (zI cm'), .ref (A 28)] ∧ MA G μ' A σ ∧ AI G μ' (A 26) 3027 12 C' ∧ ((r9 = 1 ∧ th' = 0 ∧ t_cipher σ k = 0 ∧ (0 ≤ k ∧ k < 6) ∧ 0 ≤ σ 8 k.toNat ∧ 1 ≤ ln σ (k.toNat + 1) ∧ cm' = clen σ k ∧ CiOK σ k.toNat C' (ln σ (k.toNat + 1) + 1)) ∨ (r9 = 0 ∧ t_cipher σ k = th' ∧ (th' = 1 ∨ th' = 2)))) ∧ Fr 3000 3028 μ μ')) (nX) := by
  refine ct_of (cc := cX9_hasCipher) (maxL := 2) (ret := (some .boolean)) (own := RX9) (by decide) rfl rfl hst (Nat.le_of_ble_eq_true rfl) ?_
  intro E hLl hnm C R hT
  have in_X9 : ∀ w ∈ u_ws RX9 TX9 29, w ∈ wsX9_hasCipher := by decide +kernel
  have hM8 := hM9
  obtain ⟨hO, hMA, hCi, hSu⟩ := hM9
  have hn7 := hI.n7
  have hn12 := hI.n12
  have hn18 := hI.n18
  have hn23 := hI.n23
  have hFr : Fr 3000 3028 μ μ := Fr.rf
  refine x_eq (lv' := [(0, .ref m), (1, .int (zI k))]) rfl rfl ?_
  refine x_aload_n C dX9_hasCipher_0 rfl 0 rfl ?_
  refine x_aload_n C dX9_hasCipher_1 rfl 0 rfl ?_
  refine x_iload_n C dX9_hasCipher_2 rfl 1 rfl ?_
  refine x_callV (n := 1) (ci := 10) (Cn := RX9) (T := TX9) (N := 29) (cc9 := 0) (ss9 := 0) (rest := [.ref m]) C dX9_hasCipher_3 (c_X9_isStage (kxL E) C.st G z μ _ σ _ _ _ _ _ _ _ k ⟨hO, hMA, hCi, hSu⟩ hI (by omega)) gX9_hasCipher_X9_isStage rfl (by decide +kernel) ⟨(Nat.le_of_ble_eq_true rfl), (Nat.le_of_ble_eq_true rfl)⟩ rfl ⟨_, _, hO⟩ rfl rfl (Nat.le_of_ble_eq_true rfl) rfl rfl ⟨(Nat.le_of_ble_eq_true rfl), (Nat.le_of_ble_eq_true rfl)⟩ nX_no (fun v1 μ2 hv3 => ?_)
  obtain ⟨r4, hw7, h5, hm6⟩ := hv3
  subst hw7
  rw [hm6]
  refine x_stk (stk' := [.int (zI r4), .ref m]) rfl ?_
  refine z_if_ne (tgt := 13) C dX9_hasCipher_6 (by decide) (rg_of (by omega) (by omega)) (fun c_8 => ?_) (fun c_8 => ?_)
  · refine x_aload_n C dX9_hasCipher_13 rfl 0 rfl ?_
    refine x_get (ci := 10) (Cn := RX9) (T := TX9) (N := 29) (ref := "CairnCipherModel") C dX9_hasCipher_14 in_X9 rfl hO 8 (by decide) (by decide +kernel) rfl rfl ?_
    refine x_iload_n C dX9_hasCipher_17 rfl 1 rfl ?_
    refine z_iald (j := k.toNat) C dX9_hasCipher_18 (show AI G μ (A 8) 3009 6 (σ 8) from hMA.ai 8 rfl) (by omega) (by omega) (by decide) ?_
    have q_9 := hI.r8 k.toNat (by omega)
    refine z_iconst C dX9_hasCipher_19 ?_
    refine z_icmp_ne (tgt := 27) C dX9_hasCipher_20 (by decide) (rg_of (by omega) (by omega)) (rg_of (by omega) (by omega)) (fun c_10 => ?_) (fun c_10 => ?_)
    · refine z_iconst C dX9_hasCipher_27 ?_
      refine z_put (ci := 10) (Cn := RX9) (T := TX9) (N := 29) (ref := "CairnCipherModel") (fs' := [.ref (A 0), .ref (A 1), .ref (A 2), .ref (A 3), .ref (A 4), .ref (A 5), .ref (A 6), .int (zI (σ 7 0)), .ref (A 8), .ref (A 9), .ref (A 10), .ref (A 11), .int (zI (σ 12 0)), .ref (A 13), .ref (A 14), .ref (A 15), .ref (A 16), .ref (A 17), .int (zI (σ 18 0)), .ref (A 19), .ref (A 20), .ref (A 21), .ref (A 22), .int (zI (σ 23 0)), .int (zI 0), .int (zI fo), .ref (A 26), .int (zI cm), .ref (A 28)]) C dX9_hasCipher_28 in_X9 rfl tyX9 tyX9_ok nmX9 hO 24 (by decide) (by decide +kernel) rfl rfl rfl rfl rfl (Nat.le_of_ble_eq_true rfl) rfl (fun μ11 hOw hF12 => ?_)
      have hMA : MA G μ11 A σ := hF12.ma hMA
      have hCi := hF12.ai hCi
      have hSu := hF12.ai hSu
      have hFr : Fr 3000 3028 μ μ11 := hFr.tr hF12
      have hO := hOw
      refine x_aload_n C dX9_hasCipher_31 rfl 0 rfl ?_
      refine x_get (ci := 10) (Cn := RX9) (T := TX9) (N := 29) (ref := "CairnCipherModel") C dX9_hasCipher_32 in_X9 rfl hO 24 (by decide) (by decide +kernel) rfl rfl ?_
      refine z_if_ne (tgt := 43) C dX9_hasCipher_35 (by decide) (rg_of (by omega) (by omega)) (fun c_13 => ?_) (fun c_13 => ?_)
      · exfalso; omega
      · refine x_aload_n C dX9_hasCipher_38 rfl 0 rfl ?_
        refine x_iload_n C dX9_hasCipher_39 rfl 1 rfl ?_
        have hm9 : 1 ≤ ln σ (k.toNat + 1) := by (have h77 := hJ.2.2.1 k.toNat (by omega); unfold ln; omega)
        refine x_callV (n := 1) (ci := 10) (Cn := RX9) (T := TX9) (N := 29) (cc9 := 0) (ss9 := 0) (rest := []) C dX9_hasCipher_40 (c_X9_layCipher (kxL E) C.st G z μ11 _ σ _ _ _ _ _ _ _ k ⟨hO, hMA, hCi, hSu⟩ hI (by omega) (by omega) (by omega)) gX9_hasCipher_X9_layCipher rfl (by decide +kernel) ⟨(Nat.le_of_ble_eq_true rfl), (Nat.le_of_ble_eq_true rfl)⟩ rfl ⟨_, _, hO⟩ rfl rfl (Nat.le_of_ble_eq_true rfl) rfl rfl ⟨(Nat.le_of_ble_eq_true rfl), (Nat.le_of_ble_eq_true rfl)⟩ nX_no (fun v14 μ15 hv16 => ?_)
        obtain ⟨hw20, h18⟩ := hv16
        subst hw20
        obtain ⟨⟨C9, ⟨hO, hMA, hCi⟩, hci9⟩, hF9⟩ := h18
        have hF21 := hF9
        have hSu := hF21.ai hSu
        have hFr : Fr 3000 3028 μ μ15 := hFr.tr hF21
        refine x_stk (stk' := []) rfl ?_
        refine x_aload_n C dX9_hasCipher_43 rfl 0 rfl ?_
        refine x_get (ci := 10) (Cn := RX9) (T := TX9) (N := 29) (ref := "CairnCipherModel") C dX9_hasCipher_44 in_X9 rfl hO 24 (by decide) (by decide +kernel) rfl rfl ?_
        refine z_if_ne (tgt := 54) C dX9_hasCipher_47 (by decide) (rg_of (by omega) (by omega)) (fun c_22 => ?_) (fun c_22 => ?_)
        · exfalso; omega
        · refine z_iconst C dX9_hasCipher_50 ?_
          refine x_goto (tgt := 55) C dX9_hasCipher_51 (by decide) ?_
          exact x_zret C R dX9_hasCipher_55 (nar_z (by omega)) (Nat.le_of_ble_eq_true rfl) (Nat.le_of_ble_eq_true rfl) (⟨_, rfl, ⟨0, _, _, hO, hMA, hCi, Or.inl ⟨rfl, rfl, by (unfold t_cipher; (repeat split) <;> omega), by omega, by omega, hm9, rfl, hci9⟩⟩, hFr⟩)
    · refine z_iconst C dX9_hasCipher_23 ?_
      refine x_goto (tgt := 28) C dX9_hasCipher_24 (by decide) ?_
      refine z_put (ci := 10) (Cn := RX9) (T := TX9) (N := 29) (ref := "CairnCipherModel") (fs' := [.ref (A 0), .ref (A 1), .ref (A 2), .ref (A 3), .ref (A 4), .ref (A 5), .ref (A 6), .int (zI (σ 7 0)), .ref (A 8), .ref (A 9), .ref (A 10), .ref (A 11), .int (zI (σ 12 0)), .ref (A 13), .ref (A 14), .ref (A 15), .ref (A 16), .ref (A 17), .int (zI (σ 18 0)), .ref (A 19), .ref (A 20), .ref (A 21), .ref (A 22), .int (zI (σ 23 0)), .int (zI 2), .int (zI fo), .ref (A 26), .int (zI cm), .ref (A 28)]) C dX9_hasCipher_28 in_X9 rfl tyX9 tyX9_ok nmX9 hO 24 (by decide) (by decide +kernel) rfl rfl rfl rfl rfl (Nat.le_of_ble_eq_true rfl) rfl (fun μ23 hOw hF24 => ?_)
      have hMA : MA G μ23 A σ := hF24.ma hMA
      have hCi := hF24.ai hCi
      have hSu := hF24.ai hSu
      have hFr : Fr 3000 3028 μ μ23 := hFr.tr hF24
      have hO := hOw
      refine x_aload_n C dX9_hasCipher_31 rfl 0 rfl ?_
      refine x_get (ci := 10) (Cn := RX9) (T := TX9) (N := 29) (ref := "CairnCipherModel") C dX9_hasCipher_32 in_X9 rfl hO 24 (by decide) (by decide +kernel) rfl rfl ?_
      refine z_if_ne (tgt := 43) C dX9_hasCipher_35 (by decide) (rg_of (by omega) (by omega)) (fun c_25 => ?_) (fun c_25 => ?_)
      · refine x_aload_n C dX9_hasCipher_43 rfl 0 rfl ?_
        refine x_get (ci := 10) (Cn := RX9) (T := TX9) (N := 29) (ref := "CairnCipherModel") C dX9_hasCipher_44 in_X9 rfl hO 24 (by decide) (by decide +kernel) rfl rfl ?_
        refine z_if_ne (tgt := 54) C dX9_hasCipher_47 (by decide) (rg_of (by omega) (by omega)) (fun c_26 => ?_) (fun c_26 => ?_)
        · refine z_iconst C dX9_hasCipher_54 ?_
          exact x_zret C R dX9_hasCipher_55 (nar_z (by omega)) (Nat.le_of_ble_eq_true rfl) (Nat.le_of_ble_eq_true rfl) (⟨_, rfl, ⟨2, _, _, hO, hMA, hCi, Or.inr ⟨rfl, by (unfold t_cipher; (repeat split) <;> omega), by omega⟩⟩, hFr⟩)
        · exfalso; omega
      · exfalso; omega
  · refine z_iconst C dX9_hasCipher_9 ?_
    refine x_goto (tgt := 28) C dX9_hasCipher_10 (by decide) ?_
    refine z_put (ci := 10) (Cn := RX9) (T := TX9) (N := 29) (ref := "CairnCipherModel") (fs' := [.ref (A 0), .ref (A 1), .ref (A 2), .ref (A 3), .ref (A 4), .ref (A 5), .ref (A 6), .int (zI (σ 7 0)), .ref (A 8), .ref (A 9), .ref (A 10), .ref (A 11), .int (zI (σ 12 0)), .ref (A 13), .ref (A 14), .ref (A 15), .ref (A 16), .ref (A 17), .int (zI (σ 18 0)), .ref (A 19), .ref (A 20), .ref (A 21), .ref (A 22), .int (zI (σ 23 0)), .int (zI 1), .int (zI fo), .ref (A 26), .int (zI cm), .ref (A 28)]) C dX9_hasCipher_28 in_X9 rfl tyX9 tyX9_ok nmX9 hO 24 (by decide) (by decide +kernel) rfl rfl rfl rfl rfl (Nat.le_of_ble_eq_true rfl) rfl (fun μ27 hOw hF28 => ?_)
    have hMA : MA G μ27 A σ := hF28.ma hMA
    have hCi := hF28.ai hCi
    have hSu := hF28.ai hSu
    have hFr : Fr 3000 3028 μ μ27 := hFr.tr hF28
    have hO := hOw
    refine x_aload_n C dX9_hasCipher_31 rfl 0 rfl ?_
    refine x_get (ci := 10) (Cn := RX9) (T := TX9) (N := 29) (ref := "CairnCipherModel") C dX9_hasCipher_32 in_X9 rfl hO 24 (by decide) (by decide +kernel) rfl rfl ?_
    refine z_if_ne (tgt := 43) C dX9_hasCipher_35 (by decide) (rg_of (by omega) (by omega)) (fun c_29 => ?_) (fun c_29 => ?_)
    · refine x_aload_n C dX9_hasCipher_43 rfl 0 rfl ?_
      refine x_get (ci := 10) (Cn := RX9) (T := TX9) (N := 29) (ref := "CairnCipherModel") C dX9_hasCipher_44 in_X9 rfl hO 24 (by decide) (by decide +kernel) rfl rfl ?_
      refine z_if_ne (tgt := 54) C dX9_hasCipher_47 (by decide) (rg_of (by omega) (by omega)) (fun c_30 => ?_) (fun c_30 => ?_)
      · refine z_iconst C dX9_hasCipher_54 ?_
        exact x_zret C R dX9_hasCipher_55 (nar_z (by omega)) (Nat.le_of_ble_eq_true rfl) (Nat.le_of_ble_eq_true rfl) (⟨_, rfl, ⟨1, _, _, hO, hMA, hCi, Or.inr ⟨rfl, by (unfold t_cipher; (repeat split) <;> omega), by omega⟩⟩, hFr⟩)
      · exfalso; omega
    · exfalso; omega
abbrev rm_X9_cipherLength : Room := { frames := 3, cells := 0, slots := 0, locals := 69 }
set_option maxHeartbeats 4000000 in
set_option maxRecDepth 100000 in
theorem c_X9_cipherLength (l : Launch) (hst : l.stackTraces = false) (G : GG) (z : Nat) (μ : Mm) (m : Nat) (σ : SS) (n : Nat) (th fo cm : Int) (Ci Su : Nat → Int) (A : Nat → Nat) (k : Int) (hM9 : RepY G μ m σ th fo cm Ci Su A) (hI : Iv σ n) (hJ : Jv σ) (hk : -2147483648 ≤ k ∧ k < 2147483648) : Ct l yX9_cipherLength wsX9_cipherLength rm_X9_cipherLength G z [.ref m, .int (zI k)] μ (rS (fun r9 μ' => MR G μ' m (t_cipher σ k) (clen σ k) σ (σ) r9 ∧ Fr 3000 3999 μ μ')) (nX) := by
  refine ct_of (cc := cX9_cipherLength) (maxL := 2) (ret := (some .int)) (own := RX9) (by decide) rfl rfl hst (Nat.le_of_ble_eq_true rfl) ?_
  intro E hLl hnm C R hT
  have in_X9 : ∀ w ∈ u_ws RX9 TX9 29, w ∈ wsX9_cipherLength := by decide +kernel
  have hM8 := hM9
  obtain ⟨hO, hMA, hCi, hSu⟩ := hM9
  have hn7 := hI.n7
  have hn12 := hI.n12
  have hn18 := hI.n18
  have hn23 := hI.n23
  have hFr : Fr 3000 3999 μ μ := Fr.rf
  refine x_eq (lv' := [(0, .ref m), (1, .int (zI k))]) rfl rfl ?_
  refine x_aload_n C dX9_cipherLength_0 rfl 0 rfl ?_
  refine x_iload_n C dX9_cipherLength_1 rfl 1 rfl ?_
  refine x_callV (n := 1) (ci := 10) (Cn := RX9) (T := TX9) (N := 29) (cc9 := 0) (ss9 := 0) (rest := []) C dX9_cipherLength_2 (c_X9_hasCipher (kxL E) C.st G z μ _ σ _ _ _ _ _ _ _ k ⟨hO, hMA, hCi, hSu⟩ hI hJ (by omega)) gX9_cipherLength_X9_hasCipher rfl (by decide +kernel) ⟨(Nat.le_of_ble_eq_true rfl), (Nat.le_of_ble_eq_true rfl)⟩ rfl ⟨_, _, hO⟩ rfl rfl (Nat.le_of_ble_eq_true rfl) rfl rfl ⟨(Nat.le_of_ble_eq_true rfl), (Nat.le_of_ble_eq_true rfl)⟩ nX_no (fun v1 μ2 hv3 => ?_)
  obtain ⟨r4, hw7, h5⟩ := hv3
  subst hw7
  obtain ⟨⟨th9, cm9, C9, hO, hMA, hCi, hhas⟩, hF9⟩ := h5
  have hF8 := hF9
  have hSu := hF8.ai hSu
  have hFr : Fr 3000 3999 μ μ2 := hFr.tr hF8
  refine x_stk (stk' := [.int (zI r4)]) rfl ?_
  refine z_if_eq (tgt := 15) C dX9_cipherLength_5 (by decide) (rg_of (by omega) (by omega)) (fun c_9 => ?_) (fun c_9 => ?_)
  · refine z_iconst C dX9_cipherLength_15 ?_
    exact x_iret C R dX9_cipherLength_16 (Nat.le_of_ble_eq_true rfl) (Nat.le_of_ble_eq_true rfl) ((by (rcases hhas with ⟨a1, a2, a3, a4, a5, a6, a7, a8⟩ | ⟨a1, a2, a3⟩; exfalso; omega; exact ⟨_, rfl, ⟨Or.inr ⟨by omega, by (rw [a2]; exact ⟨_, _, _, _, _, hO, hMA, hCi, hSu⟩)⟩, hFr⟩⟩)))
  · refine x_aload_n C dX9_cipherLength_8 rfl 0 rfl ?_
    refine x_get (ci := 10) (Cn := RX9) (T := TX9) (N := 29) (ref := "CairnCipherModel") C dX9_cipherLength_9 in_X9 rfl hO 27 (by decide) (by decide +kernel) rfl rfl ?_
    refine x_goto (tgt := 16) C dX9_cipherLength_12 (by decide) ?_
    exact x_iret C R dX9_cipherLength_16 (Nat.le_of_ble_eq_true rfl) (Nat.le_of_ble_eq_true rfl) ((by (rcases hhas with ⟨a1, a2, a3, a4, a5, a6, a7, a8⟩ | ⟨a1, a2, a3⟩; exact ⟨_, rfl, ⟨Or.inl ⟨a3, a7, (by (rw [a2] at hO; exact ⟨_, _, _, _, _, hO, hMA, hCi, hSu⟩))⟩, hFr⟩⟩; exfalso; omega)))
abbrev rm_X9_cipherAt : Room := { frames := 3, cells := 0, slots := 0, locals := 69 }
set_option maxHeartbeats 4000000 in
set_option maxRecDepth 100000 in
theorem c_X9_cipherAt (l : Launch) (hst : l.stackTraces = false) (G : GG) (z : Nat) (μ : Mm) (m : Nat) (σ : SS) (n : Nat) (th fo cm : Int) (Ci Su : Nat → Int) (A : Nat → Nat) (k c : Int) (hM9 : RepY G μ m σ th fo cm Ci Su A) (hI : Iv σ n) (hJ : Jv σ) (hk : -2147483648 ≤ k ∧ k < 2147483648) (hc : -2147483648 ≤ c ∧ c < 2147483648) : Ct l yX9_cipherAt wsX9_cipherAt rm_X9_cipherAt G z [.ref m, .int (zI k), .int (zI c)] μ (rS (fun r9 μ' => ((t_cipherAt σ k c = 0 ∧ b_cipherAt σ k c r9 ∧ RepM G μ' m σ 0) ∨ (t_cipherAt σ k c ≠ 0 ∧ RepM G μ' m σ (t_cipherAt σ k c))) ∧ Fr 3000 3999 μ μ')) (nX) := by
  refine ct_of (cc := cX9_cipherAt) (maxL := 3) (ret := (some .char)) (own := RX9) (by decide) rfl rfl hst (Nat.le_of_ble_eq_true rfl) ?_
  intro E hLl hnm C R hT
  have in_X9 : ∀ w ∈ u_ws RX9 TX9 29, w ∈ wsX9_cipherAt := by decide +kernel
  have hM8 := hM9
  obtain ⟨hO, hMA, hCi, hSu⟩ := hM9
  have hn7 := hI.n7
  have hn12 := hI.n12
  have hn18 := hI.n18
  have hn23 := hI.n23
  have hFr : Fr 3000 3999 μ μ := Fr.rf
  refine x_eq (lv' := [(0, .ref m), (1, .int (zI k)), (2, .int (zI c))]) rfl rfl ?_
  refine x_aload_n C dX9_cipherAt_0 rfl 0 rfl ?_
  refine x_iload_n C dX9_cipherAt_1 rfl 1 rfl ?_
  refine x_callV (n := 1) (ci := 10) (Cn := RX9) (T := TX9) (N := 29) (cc9 := 0) (ss9 := 0) (rest := []) C dX9_cipherAt_2 (c_X9_hasCipher (kxL E) C.st G z μ _ σ _ _ _ _ _ _ _ k ⟨hO, hMA, hCi, hSu⟩ hI hJ (by omega)) gX9_cipherAt_X9_hasCipher rfl (by decide +kernel) ⟨(Nat.le_of_ble_eq_true rfl), (Nat.le_of_ble_eq_true rfl)⟩ rfl ⟨_, _, hO⟩ rfl rfl (Nat.le_of_ble_eq_true rfl) rfl rfl ⟨(Nat.le_of_ble_eq_true rfl), (Nat.le_of_ble_eq_true rfl)⟩ nX_no (fun v1 μ2 hv3 => ?_)
  obtain ⟨r4, hw7, h5⟩ := hv3
  subst hw7
  obtain ⟨⟨th9, cm9, C9, hO, hMA, hCi, hhas⟩, hF9⟩ := h5
  have hF8 := hF9
  have hSu := hF8.ai hSu
  have hFr : Fr 3000 3999 μ μ2 := hFr.tr hF8
  refine x_stk (stk' := [.int (zI r4)]) rfl ?_
  refine z_if_eq (tgt := 31) C dX9_cipherAt_5 (by decide) (rg_of (by omega) (by omega)) (fun c_9 => ?_) (fun c_9 => ?_)
  · refine x_aload_n C dX9_cipherAt_31 rfl 0 rfl ?_
    refine x_get (ci := 10) (Cn := RX9) (T := TX9) (N := 29) (ref := "CairnCipherModel") C dX9_cipherAt_32 in_X9 rfl hO 24 (by decide) (by decide +kernel) rfl rfl ?_
    refine z_if_ne (tgt := 48) C dX9_cipherAt_35 (by decide) (rg_of (by omega) (by omega)) (fun c_10 => ?_) (fun c_10 => ?_)
    · refine z_iconst C dX9_cipherAt_48 ?_
      exact x_zret C R dX9_cipherAt_49 (nar_c (by omega)) (Nat.le_of_ble_eq_true rfl) (Nat.le_of_ble_eq_true rfl) ((by (rcases hhas with ⟨a1, a2, a3, a4, a5, a6, a7, a8⟩ | ⟨a1, a2, a3⟩; exfalso; omega; exact ⟨_, rfl, ⟨Or.inr (by (have e9 : t_cipherAt σ k c = th9 := (by (unfold t_cipher at a2; unfold t_cipherAt; (repeat split at a2) <;> (repeat split) <;> omega)); rw [e9]; exact ⟨by omega, ⟨_, _, _, _, _, hO, hMA, hCi, hSu⟩⟩)), hFr⟩⟩)))
    · (exfalso; rcases hhas with ⟨a1, -⟩ | ⟨a1, a2, a3⟩ <;> omega)
  · obtain ⟨a2, a3, a4, a5, a6, a7, a8⟩ : th9 = 0 ∧ t_cipher σ k = 0 ∧ (0 ≤ k ∧ k < 6) ∧ 0 ≤ σ 8 k.toNat ∧ 1 ≤ ln σ (k.toNat + 1) ∧ cm9 = clen σ k ∧ CiOK σ k.toNat C9 (ln σ (k.toNat + 1) + 1) := by (rcases hhas with ⟨a1, a2⟩ | ⟨a1, a2, a3⟩; exact a2; exfalso; omega)
    have hcl := csm_rg σ k.toNat (ln σ (k.toNat + 1) + 1)
    have hce : clen σ k = csm σ k.toNat (ln σ (k.toNat + 1) + 1) := rfl
    have hl11 := hI.r11 (k.toNat + 1) (by omega)
    have hl5 : (ln σ (k.toNat + 1) : Int) = σ 11 (k.toNat + 1) := by (unfold ln; omega)
    have hk7 : 0 ≤ k ∧ k < σ 7 0 ∧ σ 8 k.toNat ≠ -1 := by (unfold t_cipher at a3; (repeat split at a3) <;> omega)
    refine x_aload_n C dX9_cipherAt_8 rfl 0 rfl ?_
    refine x_iload_n C dX9_cipherAt_9 rfl 2 rfl ?_
    refine z_iconst C dX9_cipherAt_10 ?_
    refine x_aload_n C dX9_cipherAt_11 rfl 0 rfl ?_
    refine x_get (ci := 10) (Cn := RX9) (T := TX9) (N := 29) (ref := "CairnCipherModel") C dX9_cipherAt_12 in_X9 rfl hO 27 (by decide) (by decide +kernel) rfl rfl ?_
    refine z_iconst C dX9_cipherAt_15 ?_
    refine z_isub C dX9_cipherAt_16 rfl ?_
    refine x_callS (n := 3) (cc9 := 0) (ss9 := 0) (rest := [.ref m]) C dX9_cipherAt_17 (c_X9_in (kxL E) C.st G z μ2 c 0 (cm9 - 1) (by omega) (by omega) (by omega)) gX9_cipherAt_X9_in rfl (by decide +kernel) ⟨(Nat.le_of_ble_eq_true rfl), (Nat.le_of_ble_eq_true rfl)⟩ rfl rfl (Nat.le_of_ble_eq_true rfl) rfl rfl ⟨(Nat.le_of_ble_eq_true rfl), (Nat.le_of_ble_eq_true rfl)⟩ nX_no (fun v11 μ12 hv13 => ?_)
    obtain ⟨r14, hw17, h15, hm16⟩ := hv13
    subst hw17
    rw [hm16]
    refine x_stk (stk' := [.int (zI r14), .ref m]) rfl ?_
    refine z_if_eq (tgt := 27) C dX9_cipherAt_20 (by decide) (rg_of (by omega) (by omega)) (fun c_18 => ?_) (fun c_18 => ?_)
    · refine z_iconst C dX9_cipherAt_27 ?_
      refine z_put (ci := 10) (Cn := RX9) (T := TX9) (N := 29) (ref := "CairnCipherModel") (fs' := [.ref (A 0), .ref (A 1), .ref (A 2), .ref (A 3), .ref (A 4), .ref (A 5), .ref (A 6), .int (zI (σ 7 0)), .ref (A 8), .ref (A 9), .ref (A 10), .ref (A 11), .int (zI (σ 12 0)), .ref (A 13), .ref (A 14), .ref (A 15), .ref (A 16), .ref (A 17), .int (zI (σ 18 0)), .ref (A 19), .ref (A 20), .ref (A 21), .ref (A 22), .int (zI (σ 23 0)), .int (zI 2), .int (zI fo), .ref (A 26), .int (zI cm9), .ref (A 28)]) C dX9_cipherAt_28 in_X9 rfl tyX9 tyX9_ok nmX9 hO 24 (by decide) (by decide +kernel) rfl rfl rfl rfl rfl (Nat.le_of_ble_eq_true rfl) rfl (fun μ19 hOw hF20 => ?_)
      have hSu := hF20.ai hSu
      have hMA : MA G μ19 A σ := hF20.ma hMA
      have hCi := hF20.ai hCi
      have hFr : Fr 3000 3999 μ μ19 := hFr.tr hF20
      have hO := hOw
      refine x_aload_n C dX9_cipherAt_31 rfl 0 rfl ?_
      refine x_get (ci := 10) (Cn := RX9) (T := TX9) (N := 29) (ref := "CairnCipherModel") C dX9_cipherAt_32 in_X9 rfl hO 24 (by decide) (by decide +kernel) rfl rfl ?_
      refine z_if_ne (tgt := 48) C dX9_cipherAt_35 (by decide) (rg_of (by omega) (by omega)) (fun c_21 => ?_) (fun c_21 => ?_)
      · refine z_iconst C dX9_cipherAt_48 ?_
        exact x_zret C R dX9_cipherAt_49 (nar_c (by omega)) (Nat.le_of_ble_eq_true rfl) (Nat.le_of_ble_eq_true rfl) (⟨_, rfl, ⟨Or.inr (by (rw [show t_cipherAt σ k c = 2 from by (unfold t_cipherAt; (repeat split) <;> omega)]; exact ⟨by omega, ⟨_, _, _, _, _, hO, hMA, hCi, hSu⟩⟩)), hFr⟩⟩)
      · exfalso; omega
    · refine z_iconst C dX9_cipherAt_23 ?_
      refine x_goto (tgt := 28) C dX9_cipherAt_24 (by decide) ?_
      refine z_put (ci := 10) (Cn := RX9) (T := TX9) (N := 29) (ref := "CairnCipherModel") (fs' := [.ref (A 0), .ref (A 1), .ref (A 2), .ref (A 3), .ref (A 4), .ref (A 5), .ref (A 6), .int (zI (σ 7 0)), .ref (A 8), .ref (A 9), .ref (A 10), .ref (A 11), .int (zI (σ 12 0)), .ref (A 13), .ref (A 14), .ref (A 15), .ref (A 16), .ref (A 17), .int (zI (σ 18 0)), .ref (A 19), .ref (A 20), .ref (A 21), .ref (A 22), .int (zI (σ 23 0)), .int (zI 0), .int (zI fo), .ref (A 26), .int (zI cm9), .ref (A 28)]) C dX9_cipherAt_28 in_X9 rfl tyX9 tyX9_ok nmX9 hO 24 (by decide) (by decide +kernel) rfl rfl rfl rfl rfl (Nat.le_of_ble_eq_true rfl) rfl (fun μ22 hOw hF23 => ?_)
      have hSu := hF23.ai hSu
      have hMA : MA G μ22 A σ := hF23.ma hMA
      have hCi := hF23.ai hCi
      have hFr : Fr 3000 3999 μ μ22 := hFr.tr hF23
      have hO := hOw
      refine x_aload_n C dX9_cipherAt_31 rfl 0 rfl ?_
      refine x_get (ci := 10) (Cn := RX9) (T := TX9) (N := 29) (ref := "CairnCipherModel") C dX9_cipherAt_32 in_X9 rfl hO 24 (by decide) (by decide +kernel) rfl rfl ?_
      refine z_if_ne (tgt := 48) C dX9_cipherAt_35 (by decide) (rg_of (by omega) (by omega)) (fun c_24 => ?_) (fun c_24 => ?_)
      · exfalso; omega
      · refine x_aload_n C dX9_cipherAt_38 rfl 0 rfl ?_
        refine x_get (ci := 10) (Cn := RX9) (T := TX9) (N := 29) (ref := "CairnCipherModel") C dX9_cipherAt_39 in_X9 rfl hO 26 (by decide) (by decide +kernel) rfl rfl ?_
        refine x_iload_n C dX9_cipherAt_42 rfl 2 rfl ?_
        refine z_iald (j := c.toNat) C dX9_cipherAt_43 hCi (by omega) (by omega) (by decide) ?_
        have hcv := CiOK_at a8 (show 0 ≤ c by omega) (show c < clen σ k by omega)
        have hcw := b_cipherAt_rg hI a4 a5 a6 hcv
        refine z_i2c C dX9_cipherAt_44 (by omega) ?_
        refine x_goto (tgt := 49) C dX9_cipherAt_45 (by decide) ?_
        exact x_zret C R dX9_cipherAt_49 (nar_c (by omega)) (Nat.le_of_ble_eq_true rfl) (Nat.le_of_ble_eq_true rfl) (⟨_, rfl, ⟨Or.inl ⟨by (unfold t_cipherAt; (repeat split) <;> omega), hcv, ⟨_, _, _, _, _, hO, hMA, hCi, hSu⟩⟩, hFr⟩⟩)
abbrev rm_X9_stage : Room := { frames := 5, cells := 0, slots := 0, locals := 114 }
set_option maxHeartbeats 4000000 in
set_option maxRecDepth 100000 in
theorem c_X9_stage (l : Launch) (hst : l.stackTraces = false) (G : GG) (z : Nat) (μ : Mm) (m : Nat) (σ : SS) (n : Nat) (th fo cm : Int) (Ci Su : Nat → Int) (A : Nat → Nat) (hM9 : RepY G μ m σ th fo cm Ci Su A) (hI : Iv σ n) : Ct l yX9_stage wsX9_stage rm_X9_stage G z [.ref m] μ (rS (fun r9 μ' => MR G μ' m (t_stage σ) (σ 7 0) σ (n_stage σ) r9 ∧ Fr 3000 3999 μ μ')) (nX) := by
  refine ct_of (cc := cX9_stage) (maxL := 4) (ret := (some .int)) (own := RX9) (by decide) rfl rfl hst (Nat.le_of_ble_eq_true rfl) ?_
  intro E hLl hnm C R hT
  have in_X9 : ∀ w ∈ u_ws RX9 TX9 29, w ∈ wsX9_stage := by decide +kernel
  have hM8 := hM9
  obtain ⟨hO, hMA, hCi, hSu⟩ := hM9
  have hn7 := hI.n7
  have hn12 := hI.n12
  have hn18 := hI.n18
  have hn23 := hI.n23
  have er1 : ((σ 7 0) + 1).toNat = (σ 7 0).toNat + 1 := by omega
  have hl6 := hI.r6 0 (by decide)
  have eh0 : (hn σ 0 : Int) = σ 6 0 := by (unfold hn; omega)
  have hFr : Fr 3000 3999 μ μ := Fr.rf
  refine x_eq (lv' := [(0, .ref m)]) rfl rfl ?_
  refine x_aload_n C dX9_stage_0 rfl 0 rfl ?_
  refine z_iconst C dX9_stage_1 ?_
  refine x_callV (n := 1) (ci := 10) (Cn := RX9) (T := TX9) (N := 29) (cc9 := 0) (ss9 := 0) (rest := []) C dX9_stage_2 (c_X9_fixed (kxL E) C.st G z μ _ σ _ _ _ _ _ _ _ 0 ⟨hO, hMA, hCi, hSu⟩ hI (by omega)) gX9_stage_X9_fixed rfl (by decide +kernel) ⟨(Nat.le_of_ble_eq_true rfl), (Nat.le_of_ble_eq_true rfl)⟩ rfl ⟨_, _, hO⟩ rfl rfl (Nat.le_of_ble_eq_true rfl) rfl rfl ⟨(Nat.le_of_ble_eq_true rfl), (Nat.le_of_ble_eq_true rfl)⟩ nX_no (fun v2 μ3 hv4 => ?_)
  obtain ⟨r5, hw8, h6⟩ := hv4
  subst hw8
  obtain ⟨⟨hr9, fo1, hO⟩, hF9⟩ := h6
  have hF9 := hF9
  have hMA : MA G μ3 A σ := hF9.ma hMA
  have hCi := hF9.ai hCi
  have hSu := hF9.ai hSu
  have hFr : Fr 3000 3999 μ μ3 := hFr.tr hF9
  change _ = uq (fitb σ 0 (-1)) at hr9
  have huq := uq_rg (fitb σ 0 (-1))
  refine x_stk (stk' := [.int (zI r5)]) rfl ?_
  refine z_iconst C dX9_stage_5 ?_
  refine z_icmp_eq (tgt := 31) C dX9_stage_6 (by decide) (rg_of (by omega) (by omega)) (rg_of (by omega) (by omega)) (fun c_10 => ?_) (fun c_10 => ?_)
  · refine z_iconst C dX9_stage_31 ?_
    refine x_istore_n (lv' := [(1, .int (zI 0)), (0, .ref m)]) C dX9_stage_32 rfl (by decide) rfl ?_
    have hcan0 : CanI σ 0 0 := CanI_0 (by (have huq := uq_rg (fitb σ 0 (-1)); omega))
    refine z_iconst C dX9_stage_33 ?_
    refine x_istore_n (lv' := [(2, .int (zI 0)), (1, .int (zI 0)), (0, .ref m)]) C dX9_stage_34 rfl (by decide) rfl ?_
    have L35 : ∀ (M9 : Nat) (μc : Mm) (k : Nat) (kz : Int) (hkz : kz = (k : Int)) (can : Int) (fok : Int) (hMA : MA G μc A σ) (hCi : AI G μc (A 26) 3027 12 Ci) (hSu : AI G μc (A 28) 3029 64 Su) (hO : OB μc m 3000 10 [.ref (A 0), .ref (A 1), .ref (A 2), .ref (A 3), .ref (A 4), .ref (A 5), .ref (A 6), .int (zI (σ 7 0)), .ref (A 8), .ref (A 9), .ref (A 10), .ref (A 11), .int (zI (σ 12 0)), .ref (A 13), .ref (A 14), .ref (A 15), .ref (A 16), .ref (A 17), .int (zI (σ 18 0)), .ref (A 19), .ref (A 20), .ref (A 21), .ref (A 22), .int (zI (σ 23 0)), .int (zI th), .int (zI fok), .ref (A 26), .int (zI cm), .ref (A 28)]) (hFr : Fr 3000 3999 μ μc) (hk : k ≤ hn σ 0) (hcan : CanI σ k can) (hM9 : hn σ 0 - k = M9), Wx E G 0 0 35 [(2, .int (zI kz)), (1, .int (zI can)), (0, .ref m)] [] μc := by
      intro M9
      induction M9 using Nat.strongRecOn with
      | ind M9 ih35 =>
        intro μc k kz hkz can fok hMA hCi hSu hO hFr hk hcan hM9
        subst hkz
        have hcr := hcan.rg
        refine x_iload_n C dX9_stage_35 rfl 0 rfl ?_
        refine x_aload_n C dX9_stage_36 rfl 2 rfl ?_
        refine x_get (ci := 10) (Cn := RX9) (T := TX9) (N := 29) (ref := "CairnCipherModel") C dX9_stage_37 in_X9 rfl hO 6 (by decide) (by decide +kernel) rfl rfl ?_
        refine z_iconst C dX9_stage_40 ?_
        refine z_iald (j := 0) C dX9_stage_41 (show AI G μc (A 6) 3007 7 (σ 6) from hMA.ai 6 rfl) (by omega) (by omega) (by decide) ?_
        have q_11 := hI.r6 0 (by omega)
        refine z_icmp_ge (tgt := 71) C dX9_stage_42 (by decide) (rg_of (by omega) (by omega)) (rg_of (by omega) (by omega)) (fun c_12 => ?_) (fun c_12 => ?_)
        · have hce := hcan.e (by omega)
          refine x_aload_n C dX9_stage_71 rfl 2 rfl ?_
          refine x_iload_n C dX9_stage_72 rfl 1 rfl ?_
          refine z_if_eq (tgt := 80) C dX9_stage_73 (by decide) (rg_of (by omega) (by omega)) (fun c_13 => ?_) (fun c_13 => ?_)
          · refine z_iconst C dX9_stage_80 ?_
            refine z_put (ci := 10) (Cn := RX9) (T := TX9) (N := 29) (ref := "CairnCipherModel") (fs' := [.ref (A 0), .ref (A 1), .ref (A 2), .ref (A 3), .ref (A 4), .ref (A 5), .ref (A 6), .int (zI (σ 7 0)), .ref (A 8), .ref (A 9), .ref (A 10), .ref (A 11), .int (zI (σ 12 0)), .ref (A 13), .ref (A 14), .ref (A 15), .ref (A 16), .ref (A 17), .int (zI (σ 18 0)), .ref (A 19), .ref (A 20), .ref (A 21), .ref (A 22), .int (zI (σ 23 0)), .int (zI 1), .int (zI fok), .ref (A 26), .int (zI cm), .ref (A 28)]) C dX9_stage_81 in_X9 rfl tyX9 tyX9_ok nmX9 hO 24 (by decide) (by decide +kernel) rfl rfl rfl rfl rfl (Nat.le_of_ble_eq_true rfl) rfl (fun μ14 hOw hF15 => ?_)
            have hMA : MA G μ14 A σ := hF15.ma hMA
            have hCi := hF15.ai hCi
            have hSu := hF15.ai hSu
            have hFr : Fr 3000 3999 μ μ14 := hFr.tr hF15
            have hO := hOw
            refine x_aload_n C dX9_stage_84 rfl 2 rfl ?_
            refine x_get (ci := 10) (Cn := RX9) (T := TX9) (N := 29) (ref := "CairnCipherModel") C dX9_stage_85 in_X9 rfl hO 24 (by decide) (by decide +kernel) rfl rfl ?_
            refine z_if_le (tgt := 93) C dX9_stage_88 (by decide) (rg_of (by omega) (by omega)) (fun c_16 => ?_) (fun c_16 => ?_)
            · exfalso; omega
            · refine z_iconst C dX9_stage_91 ?_
              exact x_iret C R dX9_stage_92 (Nat.le_of_ble_eq_true rfl) (Nat.le_of_ble_eq_true rfl) (⟨_, rfl, ⟨Or.inr ⟨by omega, by (rw [show t_stage σ = 1 by omega]; exact ⟨_, _, _, _, _, hO, hMA, hCi, hSu⟩)⟩, hFr⟩⟩)
          · refine z_iconst C dX9_stage_76 ?_
            refine x_goto (tgt := 81) C dX9_stage_77 (by decide) ?_
            refine z_put (ci := 10) (Cn := RX9) (T := TX9) (N := 29) (ref := "CairnCipherModel") (fs' := [.ref (A 0), .ref (A 1), .ref (A 2), .ref (A 3), .ref (A 4), .ref (A 5), .ref (A 6), .int (zI (σ 7 0)), .ref (A 8), .ref (A 9), .ref (A 10), .ref (A 11), .int (zI (σ 12 0)), .ref (A 13), .ref (A 14), .ref (A 15), .ref (A 16), .ref (A 17), .int (zI (σ 18 0)), .ref (A 19), .ref (A 20), .ref (A 21), .ref (A 22), .int (zI (σ 23 0)), .int (zI 0), .int (zI fok), .ref (A 26), .int (zI cm), .ref (A 28)]) C dX9_stage_81 in_X9 rfl tyX9 tyX9_ok nmX9 hO 24 (by decide) (by decide +kernel) rfl rfl rfl rfl rfl (Nat.le_of_ble_eq_true rfl) rfl (fun μ17 hOw hF18 => ?_)
            have hMA : MA G μ17 A σ := hF18.ma hMA
            have hCi := hF18.ai hCi
            have hSu := hF18.ai hSu
            have hFr : Fr 3000 3999 μ μ17 := hFr.tr hF18
            have hO := hOw
            refine x_aload_n C dX9_stage_84 rfl 2 rfl ?_
            refine x_get (ci := 10) (Cn := RX9) (T := TX9) (N := 29) (ref := "CairnCipherModel") C dX9_stage_85 in_X9 rfl hO 24 (by decide) (by decide +kernel) rfl rfl ?_
            refine z_if_le (tgt := 93) C dX9_stage_88 (by decide) (rg_of (by omega) (by omega)) (fun c_19 => ?_) (fun c_19 => ?_)
            · refine x_aload_n C dX9_stage_93 rfl 2 rfl ?_
              refine x_get (ci := 10) (Cn := RX9) (T := TX9) (N := 29) (ref := "CairnCipherModel") C dX9_stage_94 in_X9 rfl hO 7 (by decide) (by decide +kernel) rfl rfl ?_
              refine z_iconst C dX9_stage_97 ?_
              refine z_iadd C dX9_stage_98 rfl ?_
              refine x_istore_n (lv' := [(2, .int (zI ((σ 7 0) + 1))), (1, .int (zI can)), (0, .ref m)]) C dX9_stage_99 rfl (by decide) rfl ?_
              refine x_aload_n C dX9_stage_100 rfl 2 rfl ?_
              refine x_get (ci := 10) (Cn := RX9) (T := TX9) (N := 29) (ref := "CairnCipherModel") C dX9_stage_101 in_X9 rfl hO 6 (by decide) (by decide +kernel) rfl rfl ?_
              refine x_iload_n C dX9_stage_104 rfl 0 rfl ?_
              refine x_aload_n C dX9_stage_105 rfl 2 rfl ?_
              refine x_get (ci := 10) (Cn := RX9) (T := TX9) (N := 29) (ref := "CairnCipherModel") C dX9_stage_106 in_X9 rfl hO 6 (by decide) (by decide +kernel) rfl rfl ?_
              refine z_iconst C dX9_stage_109 ?_
              refine z_iald (j := 0) C dX9_stage_110 (show AI G μ17 (A 6) 3007 7 (σ 6) from hMA.ai 6 rfl) (by omega) (by omega) (by decide) ?_
              have q_20 := hI.r6 0 (by omega)
              refine z_iast (j := ((σ 7 0) + 1).toNat) C dX9_stage_111 (show AI G μ17 (A 6) 3007 7 (σ 6) from hMA.ai 6 rfl) (by omega) (by omega) (by decide) (fun μ21 hq23 hF22 => ?_)
              have hMAn : MA G μ21 A (su σ 6 (wr (σ 6) (((σ 7 0) + 1).toNat) ((σ 6) 0))) := hMA.up (k := 6) rfl hq23 hF22
              have hCi := hF22.ai hCi
              have hSu := hF22.ai hSu
              have hO := hF22.ob hO
              have hFr : Fr 3000 3999 μ μ21 := hFr.tr hF22
              have hMA := hMAn
              refine x_aload_n C dX9_stage_112 rfl 2 rfl ?_
              refine x_get (ci := 10) (Cn := RX9) (T := TX9) (N := 29) (ref := "CairnCipherModel") C dX9_stage_113 in_X9 rfl hO 11 (by decide) (by decide +kernel) rfl rfl ?_
              refine x_iload_n C dX9_stage_116 rfl 0 rfl ?_
              refine x_aload_n C dX9_stage_117 rfl 2 rfl ?_
              refine x_get (ci := 10) (Cn := RX9) (T := TX9) (N := 29) (ref := "CairnCipherModel") C dX9_stage_118 in_X9 rfl hO 11 (by decide) (by decide +kernel) rfl rfl ?_
              refine z_iconst C dX9_stage_121 ?_
              refine z_iald (j := 0) C dX9_stage_122 (show AI G μ21 (A 11) 3012 7 (σ 11) from hMA.ai 11 rfl) (by omega) (by omega) (by decide) ?_
              have q_24 := hI.r11 0 (by omega)
              refine z_iast (j := ((σ 7 0) + 1).toNat) C dX9_stage_123 (show AI G μ21 (A 11) 3012 7 (σ 11) from hMA.ai 11 rfl) (by omega) (by omega) (by decide) (fun μ25 hq27 hF26 => ?_)
              have hMAn : MA G μ25 A (su (su σ 6 (wr (σ 6) (((σ 7 0) + 1).toNat) ((σ 6) 0))) 11 (wr (σ 11) (((σ 7 0) + 1).toNat) ((σ 11) 0))) := hMA.up (k := 11) rfl hq27 hF26
              have hCi := hF26.ai hCi
              have hSu := hF26.ai hSu
              have hO := hF26.ob hO
              have hFr : Fr 3000 3999 μ μ25 := hFr.tr hF26
              have hMA := hMAn
              refine z_iconst C dX9_stage_124 ?_
              refine x_istore_n (lv' := [(3, .int (zI 0)), (2, .int (zI ((σ 7 0) + 1))), (1, .int (zI can)), (0, .ref m)]) C dX9_stage_125 rfl (by decide) rfl ?_
              have L126 : ∀ (M9 : Nat) (μj : Mm) (k : Nat) (kz : Int) (hkz : kz = (k : Int)) (hMA : MA G μj A (stK σ ((σ 7 0).toNat + 1) k)) (hCi : AI G μj (A 26) 3027 12 Ci) (hSu : AI G μj (A 28) 3029 64 Su) (hO : OB μj m 3000 10 [.ref (A 0), .ref (A 1), .ref (A 2), .ref (A 3), .ref (A 4), .ref (A 5), .ref (A 6), .int (zI (σ 7 0)), .ref (A 8), .ref (A 9), .ref (A 10), .ref (A 11), .int (zI (σ 12 0)), .ref (A 13), .ref (A 14), .ref (A 15), .ref (A 16), .ref (A 17), .int (zI (σ 18 0)), .ref (A 19), .ref (A 20), .ref (A 21), .ref (A 22), .int (zI (σ 23 0)), .int (zI 0), .int (zI fok), .ref (A 26), .int (zI cm), .ref (A 28)]) (hFr : Fr 3000 3999 μ μj) (hk : k ≤ 5) (hM9 : 5 - k = M9), Wx E G 0 0 126 [(3, .int (zI kz)), (2, .int (zI ((σ 7 0) + 1))), (1, .int (zI can)), (0, .ref m)] [] μj := by
                intro M9
                induction M9 using Nat.strongRecOn with
                | ind M9 ih126 =>
                  intro μj k kz hkz hMA hCi hSu hO hFr hk hM9
                  subst hkz
                  have hIk := Iv_stK (r := ((σ 7 0).toNat + 1)) (k := k) hI (by omega) hk
                  have hk5 : ∀ j, j < 35 → 0 ≤ cpk (σ 5) ((σ 7 0).toNat + 1) k j ∧ cpk (σ 5) ((σ 7 0).toNat + 1) k j ≤ 1 := hIk.r5
                  refine x_iload_n C dX9_stage_126 rfl 0 rfl ?_
                  refine z_iconst C dX9_stage_127 ?_
                  refine z_icmp_ge (tgt := 217) C dX9_stage_128 (by decide) (rg_of (by omega) (by omega)) (rg_of (by omega) (by omega)) (fun c_28 => ?_) (fun c_28 => ?_)
                  · refine x_aload_n C dX9_stage_217 rfl 3 rfl ?_
                    refine x_get (ci := 10) (Cn := RX9) (T := TX9) (N := 29) (ref := "CairnCipherModel") C dX9_stage_218 in_X9 rfl hO 8 (by decide) (by decide +kernel) rfl rfl ?_
                    refine x_aload_n C dX9_stage_221 rfl 3 rfl ?_
                    refine x_get (ci := 10) (Cn := RX9) (T := TX9) (N := 29) (ref := "CairnCipherModel") C dX9_stage_222 in_X9 rfl hO 7 (by decide) (by decide +kernel) rfl rfl ?_
                    refine x_aload_n C dX9_stage_225 rfl 3 rfl ?_
                    refine x_iload_n C dX9_stage_226 rfl 1 rfl ?_
                    have hI5 := Iv_stK (r := ((σ 7 0).toNat + 1)) (k := 5) hI (by omega) (by omega)
                    have hMA : MA G μj A (stK σ ((σ 7 0).toNat + 1) 5) := by (rw [← show k = 5 by omega]; exact hMA)
                    have hl0 : ∀ j, j < 1 → (wr (σ 6) ((σ 7 0).toNat + 1) (σ 6 0)) j = σ 6 0 := fun j hj => by (obtain rfl : j = 0 := (by omega); exact wr_ne (by omega))
                    refine x_callV (n := 1) (ci := 10) (Cn := RX9) (T := TX9) (N := 29) (cc9 := 0) (ss9 := 0) (rest := [.int (zI (σ 7 0)), .ref (A 8)]) C dX9_stage_227 (c_X9_fixed (kxL E) C.st G z μj _ (stK σ ((σ 7 0).toNat + 1) 5) _ _ _ _ _ _ _ ((σ 7 0) + 1) ⟨hO, hMA, hCi, hSu⟩ hI5 (by omega)) gX9_stage_X9_fixed rfl (by decide +kernel) ⟨(Nat.le_of_ble_eq_true rfl), (Nat.le_of_ble_eq_true rfl)⟩ rfl ⟨_, _, hO⟩ rfl rfl (Nat.le_of_ble_eq_true rfl) rfl rfl ⟨(Nat.le_of_ble_eq_true rfl), (Nat.le_of_ble_eq_true rfl)⟩ nX_no (fun v30 μ31 hv32 => ?_)
                    obtain ⟨r33, hw36, h34⟩ := hv32
                    subst hw36
                    obtain ⟨⟨hr9, fo29, hO⟩, hF9⟩ := h34
                    have hF37 := hF9
                    have hMA : MA G μ31 A (stK σ ((σ 7 0).toNat + 1) 5) := hF37.ma hMA
                    have hCi := hF37.ai hCi
                    have hSu := hF37.ai hSu
                    have hFr : Fr 3000 3999 μ μ31 := hFr.tr hF37
                    rw [er1, stK_uq hI (by omega)] at hr9
                    refine x_stk (stk' := [.int (zI r33), .int (zI (σ 7 0)), .ref (A 8)]) rfl ?_
                    refine z_iast (j := (σ 7 0).toNat) C dX9_stage_230 (show AI G μ31 (A 8) 3009 6 (σ 8) from hMA.ai 8 rfl) (by omega) (by omega) (by decide) (fun μ38 hq40 hF39 => ?_)
                    have hMAn : MA G μ38 A (su (stK σ ((σ 7 0).toNat + 1) 5) 8 (wr (σ 8) ((σ 7 0).toNat) r33)) := hMA.up (k := 8) rfl hq40 hF39
                    have hCi := hF39.ai hCi
                    have hSu := hF39.ai hSu
                    have hO := hF39.ob hO
                    have hFr : Fr 3000 3999 μ μ38 := hFr.tr hF39
                    have hMA := hMAn
                    refine x_aload_n C dX9_stage_231 rfl 3 rfl ?_
                    refine x_dup C dX9_stage_232 rfl ?_
                    refine x_get (ci := 10) (Cn := RX9) (T := TX9) (N := 29) (ref := "CairnCipherModel") C dX9_stage_233 in_X9 rfl hO 7 (by decide) (by decide +kernel) rfl rfl ?_
                    refine z_iconst C dX9_stage_236 ?_
                    refine z_iadd C dX9_stage_237 rfl ?_
                    refine z_put (ci := 10) (Cn := RX9) (T := TX9) (N := 29) (ref := "CairnCipherModel") (fs' := [.ref (A 0), .ref (A 1), .ref (A 2), .ref (A 3), .ref (A 4), .ref (A 5), .ref (A 6), .int (zI ((σ 7 0) + 1)), .ref (A 8), .ref (A 9), .ref (A 10), .ref (A 11), .int (zI (σ 12 0)), .ref (A 13), .ref (A 14), .ref (A 15), .ref (A 16), .ref (A 17), .int (zI (σ 18 0)), .ref (A 19), .ref (A 20), .ref (A 21), .ref (A 22), .int (zI (σ 23 0)), .int (zI 0), .int (zI fo29), .ref (A 26), .int (zI cm), .ref (A 28)]) C dX9_stage_238 in_X9 rfl tyX9 tyX9_ok nmX9 hO 7 (by decide) (by decide +kernel) rfl rfl rfl rfl rfl (Nat.le_of_ble_eq_true rfl) rfl (fun μ41 hOw hF42 => ?_)
                    have hMA : MA G μ41 A (su (stK σ ((σ 7 0).toNat + 1) 5) 8 (wr (σ 8) ((σ 7 0).toNat) r33)) := hF42.ma hMA
                    have hCi := hF42.ai hCi
                    have hSu := hF42.ai hSu
                    have hFr : Fr 3000 3999 μ μ41 := hFr.tr hF42
                    have hO := hOw
                    refine x_aload_n C dX9_stage_241 rfl 3 rfl ?_
                    refine x_get (ci := 10) (Cn := RX9) (T := TX9) (N := 29) (ref := "CairnCipherModel") C dX9_stage_242 in_X9 rfl hO 6 (by decide) (by decide +kernel) rfl rfl ?_
                    refine z_iconst C dX9_stage_245 ?_
                    refine z_iconst C dX9_stage_246 ?_
                    refine z_iast (j := 0) C dX9_stage_247 (show AI G μ41 (A 6) 3007 7 (wr (σ 6) ((σ 7 0).toNat + 1) (σ 6 0)) from hMA.ai 6 rfl) (by omega) (by omega) (by decide) (fun μ43 hq45 hF44 => ?_)
                    have hMAn : MA G μ43 A (su (su (stK σ ((σ 7 0).toNat + 1) 5) 8 (wr (σ 8) ((σ 7 0).toNat) r33)) 6 (wr (wr (σ 6) ((σ 7 0).toNat + 1) (σ 6 0)) 0 0)) := hMA.up (k := 6) rfl hq45 hF44
                    have hCi := hF44.ai hCi
                    have hSu := hF44.ai hSu
                    have hO := hF44.ob hO
                    have hFr : Fr 3000 3999 μ μ43 := hFr.tr hF44
                    have hMA := hMAn
                    refine x_aload_n C dX9_stage_248 rfl 3 rfl ?_
                    refine x_get (ci := 10) (Cn := RX9) (T := TX9) (N := 29) (ref := "CairnCipherModel") C dX9_stage_249 in_X9 rfl hO 7 (by decide) (by decide +kernel) rfl rfl ?_
                    refine z_iconst C dX9_stage_252 ?_
                    refine z_isub C dX9_stage_253 rfl ?_
                    exact x_iret C R dX9_stage_254 (Nat.le_of_ble_eq_true rfl) (Nat.le_of_ble_eq_true rfl) (⟨_, rfl, ⟨Or.inl ⟨by omega, by omega, ⟨_, _, _, _, _, hO, (by (rw [hr9] at hMA; rw [← stK_n rfl rfl]; exact MA.sc (k := 7) hMA (by decide))), hCi, hSu⟩⟩, hFr⟩⟩)
                  · refine x_aload_n C dX9_stage_131 rfl 3 rfl ?_
                    refine x_get (ci := 10) (Cn := RX9) (T := TX9) (N := 29) (ref := "CairnCipherModel") C dX9_stage_132 in_X9 rfl hO 2 (by decide) (by decide +kernel) rfl rfl ?_
                    refine z_iconst C dX9_stage_135 ?_
                    refine x_iload_n C dX9_stage_136 rfl 1 rfl ?_
                    refine z_imul C dX9_stage_137 rfl ?_
                    refine x_iload_n C dX9_stage_138 rfl 0 rfl ?_
                    refine z_iadd C dX9_stage_139 rfl ?_
                    refine x_aload_n C dX9_stage_140 rfl 3 rfl ?_
                    refine x_get (ci := 10) (Cn := RX9) (T := TX9) (N := 29) (ref := "CairnCipherModel") C dX9_stage_141 in_X9 rfl hO 2 (by decide) (by decide +kernel) rfl rfl ?_
                    refine x_iload_n C dX9_stage_144 rfl 0 rfl ?_
                    refine z_iald (j := k) C dX9_stage_145 (show AI G μj (A 2) 3003 35 (cpk (σ 2) ((σ 7 0).toNat + 1) k) from hMA.ai 2 rfl) (by omega) (by omega) (by decide) ?_
                    refine z_iast (j := ((5 * ((σ 7 0) + 1)) + (k : Int)).toNat) C dX9_stage_146 (show AI G μj (A 2) 3003 35 (cpk (σ 2) ((σ 7 0).toNat + 1) k) from hMA.ai 2 rfl) (by omega) (by omega) (by decide) (fun μ46 hq48 hF47 => ?_)
                    have hMAn : MA G μ46 A (su (stK σ ((σ 7 0).toNat + 1) k) 2 (wr (cpk (σ 2) ((σ 7 0).toNat + 1) k) (((5 * ((σ 7 0) + 1)) + (k : Int)).toNat) ((cpk (σ 2) ((σ 7 0).toNat + 1) k) k))) := hMA.up (k := 2) rfl hq48 hF47
                    have hCi := hF47.ai hCi
                    have hSu := hF47.ai hSu
                    have hO := hF47.ob hO
                    have hFr : Fr 3000 3999 μ μ46 := hFr.tr hF47
                    have hMA := hMAn
                    refine x_aload_n C dX9_stage_147 rfl 3 rfl ?_
                    refine x_get (ci := 10) (Cn := RX9) (T := TX9) (N := 29) (ref := "CairnCipherModel") C dX9_stage_148 in_X9 rfl hO 3 (by decide) (by decide +kernel) rfl rfl ?_
                    refine z_iconst C dX9_stage_151 ?_
                    refine x_iload_n C dX9_stage_152 rfl 1 rfl ?_
                    refine z_imul C dX9_stage_153 rfl ?_
                    refine x_iload_n C dX9_stage_154 rfl 0 rfl ?_
                    refine z_iadd C dX9_stage_155 rfl ?_
                    refine x_aload_n C dX9_stage_156 rfl 3 rfl ?_
                    refine x_get (ci := 10) (Cn := RX9) (T := TX9) (N := 29) (ref := "CairnCipherModel") C dX9_stage_157 in_X9 rfl hO 3 (by decide) (by decide +kernel) rfl rfl ?_
                    refine x_iload_n C dX9_stage_160 rfl 0 rfl ?_
                    refine z_iald (j := k) C dX9_stage_161 (show AI G μ46 (A 3) 3004 35 (cpk (σ 3) ((σ 7 0).toNat + 1) k) from hMA.ai 3 rfl) (by omega) (by omega) (by decide) ?_
                    refine z_iast (j := ((5 * ((σ 7 0) + 1)) + (k : Int)).toNat) C dX9_stage_162 (show AI G μ46 (A 3) 3004 35 (cpk (σ 3) ((σ 7 0).toNat + 1) k) from hMA.ai 3 rfl) (by omega) (by omega) (by decide) (fun μ49 hq51 hF50 => ?_)
                    have hMAn : MA G μ49 A (su (su (stK σ ((σ 7 0).toNat + 1) k) 2 (wr (cpk (σ 2) ((σ 7 0).toNat + 1) k) (((5 * ((σ 7 0) + 1)) + (k : Int)).toNat) ((cpk (σ 2) ((σ 7 0).toNat + 1) k) k))) 3 (wr (cpk (σ 3) ((σ 7 0).toNat + 1) k) (((5 * ((σ 7 0) + 1)) + (k : Int)).toNat) ((cpk (σ 3) ((σ 7 0).toNat + 1) k) k))) := hMA.up (k := 3) rfl hq51 hF50
                    have hCi := hF50.ai hCi
                    have hSu := hF50.ai hSu
                    have hO := hF50.ob hO
                    have hFr : Fr 3000 3999 μ μ49 := hFr.tr hF50
                    have hMA := hMAn
                    refine x_aload_n C dX9_stage_163 rfl 3 rfl ?_
                    refine x_get (ci := 10) (Cn := RX9) (T := TX9) (N := 29) (ref := "CairnCipherModel") C dX9_stage_164 in_X9 rfl hO 4 (by decide) (by decide +kernel) rfl rfl ?_
                    refine z_iconst C dX9_stage_167 ?_
                    refine x_iload_n C dX9_stage_168 rfl 1 rfl ?_
                    refine z_imul C dX9_stage_169 rfl ?_
                    refine x_iload_n C dX9_stage_170 rfl 0 rfl ?_
                    refine z_iadd C dX9_stage_171 rfl ?_
                    refine x_aload_n C dX9_stage_172 rfl 3 rfl ?_
                    refine x_get (ci := 10) (Cn := RX9) (T := TX9) (N := 29) (ref := "CairnCipherModel") C dX9_stage_173 in_X9 rfl hO 4 (by decide) (by decide +kernel) rfl rfl ?_
                    refine x_iload_n C dX9_stage_176 rfl 0 rfl ?_
                    refine z_iald (j := k) C dX9_stage_177 (show AI G μ49 (A 4) 3005 35 (cpk (σ 4) ((σ 7 0).toNat + 1) k) from hMA.ai 4 rfl) (by omega) (by omega) (by decide) ?_
                    refine z_iast (j := ((5 * ((σ 7 0) + 1)) + (k : Int)).toNat) C dX9_stage_178 (show AI G μ49 (A 4) 3005 35 (cpk (σ 4) ((σ 7 0).toNat + 1) k) from hMA.ai 4 rfl) (by omega) (by omega) (by decide) (fun μ52 hq54 hF53 => ?_)
                    have hMAn : MA G μ52 A (su (su (su (stK σ ((σ 7 0).toNat + 1) k) 2 (wr (cpk (σ 2) ((σ 7 0).toNat + 1) k) (((5 * ((σ 7 0) + 1)) + (k : Int)).toNat) ((cpk (σ 2) ((σ 7 0).toNat + 1) k) k))) 3 (wr (cpk (σ 3) ((σ 7 0).toNat + 1) k) (((5 * ((σ 7 0) + 1)) + (k : Int)).toNat) ((cpk (σ 3) ((σ 7 0).toNat + 1) k) k))) 4 (wr (cpk (σ 4) ((σ 7 0).toNat + 1) k) (((5 * ((σ 7 0) + 1)) + (k : Int)).toNat) ((cpk (σ 4) ((σ 7 0).toNat + 1) k) k))) := hMA.up (k := 4) rfl hq54 hF53
                    have hCi := hF53.ai hCi
                    have hSu := hF53.ai hSu
                    have hO := hF53.ob hO
                    have hFr : Fr 3000 3999 μ μ52 := hFr.tr hF53
                    have hMA := hMAn
                    refine x_aload_n C dX9_stage_179 rfl 3 rfl ?_
                    refine x_get (ci := 10) (Cn := RX9) (T := TX9) (N := 29) (ref := "CairnCipherModel") C dX9_stage_180 in_X9 rfl hO 5 (by decide) (by decide +kernel) rfl rfl ?_
                    refine z_iconst C dX9_stage_183 ?_
                    refine x_iload_n C dX9_stage_184 rfl 1 rfl ?_
                    refine z_imul C dX9_stage_185 rfl ?_
                    refine x_iload_n C dX9_stage_186 rfl 0 rfl ?_
                    refine z_iadd C dX9_stage_187 rfl ?_
                    refine x_aload_n C dX9_stage_188 rfl 3 rfl ?_
                    refine x_get (ci := 10) (Cn := RX9) (T := TX9) (N := 29) (ref := "CairnCipherModel") C dX9_stage_189 in_X9 rfl hO 5 (by decide) (by decide +kernel) rfl rfl ?_
                    refine x_iload_n C dX9_stage_192 rfl 0 rfl ?_
                    refine z_zald (j := k) C dX9_stage_193 (show AZ G μ52 (A 5) 3006 35 (cpk (σ 5) ((σ 7 0).toNat + 1) k) from hMA.az 5 rfl) (by omega) (by omega) (by decide) ?_
                    have q_55 := hk5 k (by omega)
                    refine z_zast (j := ((5 * ((σ 7 0) + 1)) + (k : Int)).toNat) C dX9_stage_194 (show AZ G μ52 (A 5) 3006 35 (cpk (σ 5) ((σ 7 0).toNat + 1) k) from hMA.az 5 rfl) (by omega) (by omega) (by decide) (by omega) (fun μ56 hq58 hF57 => ?_)
                    have hMAn : MA G μ56 A (su (su (su (su (stK σ ((σ 7 0).toNat + 1) k) 2 (wr (cpk (σ 2) ((σ 7 0).toNat + 1) k) (((5 * ((σ 7 0) + 1)) + (k : Int)).toNat) ((cpk (σ 2) ((σ 7 0).toNat + 1) k) k))) 3 (wr (cpk (σ 3) ((σ 7 0).toNat + 1) k) (((5 * ((σ 7 0) + 1)) + (k : Int)).toNat) ((cpk (σ 3) ((σ 7 0).toNat + 1) k) k))) 4 (wr (cpk (σ 4) ((σ 7 0).toNat + 1) k) (((5 * ((σ 7 0) + 1)) + (k : Int)).toNat) ((cpk (σ 4) ((σ 7 0).toNat + 1) k) k))) 5 (wr (cpk (σ 5) ((σ 7 0).toNat + 1) k) (((5 * ((σ 7 0) + 1)) + (k : Int)).toNat) ((cpk (σ 5) ((σ 7 0).toNat + 1) k) k))) := hMA.upz (k := 5) rfl hq58 hF57
                    have hCi := hF57.ai hCi
                    have hSu := hF57.ai hSu
                    have hO := hF57.ob hO
                    have hFr : Fr 3000 3999 μ μ56 := hFr.tr hF57
                    have hMA := hMAn
                    refine x_aload_n C dX9_stage_195 rfl 3 rfl ?_
                    refine x_get (ci := 10) (Cn := RX9) (T := TX9) (N := 29) (ref := "CairnCipherModel") C dX9_stage_196 in_X9 rfl hO 10 (by decide) (by decide +kernel) rfl rfl ?_
                    refine z_iconst C dX9_stage_199 ?_
                    refine x_iload_n C dX9_stage_200 rfl 1 rfl ?_
                    refine z_imul C dX9_stage_201 rfl ?_
                    refine x_iload_n C dX9_stage_202 rfl 0 rfl ?_
                    refine z_iadd C dX9_stage_203 rfl ?_
                    refine x_aload_n C dX9_stage_204 rfl 3 rfl ?_
                    refine x_get (ci := 10) (Cn := RX9) (T := TX9) (N := 29) (ref := "CairnCipherModel") C dX9_stage_205 in_X9 rfl hO 10 (by decide) (by decide +kernel) rfl rfl ?_
                    refine x_iload_n C dX9_stage_208 rfl 0 rfl ?_
                    refine z_iald (j := k) C dX9_stage_209 (show AI G μ56 (A 10) 3011 35 (cpk (σ 10) ((σ 7 0).toNat + 1) k) from hMA.ai 10 rfl) (by omega) (by omega) (by decide) ?_
                    refine z_iast (j := ((5 * ((σ 7 0) + 1)) + (k : Int)).toNat) C dX9_stage_210 (show AI G μ56 (A 10) 3011 35 (cpk (σ 10) ((σ 7 0).toNat + 1) k) from hMA.ai 10 rfl) (by omega) (by omega) (by decide) (fun μ59 hq61 hF60 => ?_)
                    have hMAn : MA G μ59 A (su (su (su (su (su (stK σ ((σ 7 0).toNat + 1) k) 2 (wr (cpk (σ 2) ((σ 7 0).toNat + 1) k) (((5 * ((σ 7 0) + 1)) + (k : Int)).toNat) ((cpk (σ 2) ((σ 7 0).toNat + 1) k) k))) 3 (wr (cpk (σ 3) ((σ 7 0).toNat + 1) k) (((5 * ((σ 7 0) + 1)) + (k : Int)).toNat) ((cpk (σ 3) ((σ 7 0).toNat + 1) k) k))) 4 (wr (cpk (σ 4) ((σ 7 0).toNat + 1) k) (((5 * ((σ 7 0) + 1)) + (k : Int)).toNat) ((cpk (σ 4) ((σ 7 0).toNat + 1) k) k))) 5 (wr (cpk (σ 5) ((σ 7 0).toNat + 1) k) (((5 * ((σ 7 0) + 1)) + (k : Int)).toNat) ((cpk (σ 5) ((σ 7 0).toNat + 1) k) k))) 10 (wr (cpk (σ 10) ((σ 7 0).toNat + 1) k) (((5 * ((σ 7 0) + 1)) + (k : Int)).toNat) ((cpk (σ 10) ((σ 7 0).toNat + 1) k) k))) := hMA.up (k := 10) rfl hq61 hF60
                    have hCi := hF60.ai hCi
                    have hSu := hF60.ai hSu
                    have hO := hF60.ob hO
                    have hFr : Fr 3000 3999 μ μ59 := hFr.tr hF60
                    have hMA := hMAn
                    refine z_iinc (lv' := [(3, .int (zI ((k : Int) + 1))), (2, .int (zI ((σ 7 0) + 1))), (1, .int (zI can)), (0, .ref m)]) C dX9_stage_211 0 rfl rfl (by decide) rfl ?_
                    refine x_goto (tgt := 126) C dX9_stage_214 (by decide) ?_
                    have ei : ((5 * ((σ 7 0) + 1)) + (k : Int)).toNat = 5 * ((σ 7 0).toNat + 1) + k := by omega
                    rw [ei] at hMA
                    have hMA : MA G μ59 A (stK σ ((σ 7 0).toNat + 1) (k + 1)) := by (rw [← stK_s (σ := σ) (k := k) (cpk_s (by omega) (by omega)) (cpk_s (by omega) (by omega)) (cpk_s (by omega) (by omega)) (cpk_s (by omega) (by omega)) (cpk_s (by omega) (by omega))]; exact hMA)
                    exact ih126 _ (by omega) _ (k + 1) _ (by omega) hMA hCi hSu hO hFr (by omega) rfl
              have hMA : MA G μ25 A (stK σ ((σ 7 0).toNat + 1) 0) := by (rw [stK_0, ← er1]; exact hMA)
              exact L126 _ _ (0) _ (by omega) hMA hCi hSu hO hFr (by omega) rfl
            · exfalso; omega
        · refine x_iload_n C dX9_stage_45 rfl 1 rfl ?_
          refine z_if_eq (tgt := 63) C dX9_stage_46 (by decide) (rg_of (by omega) (by omega)) (fun c_62 => ?_) (fun c_62 => ?_)
          · refine z_iconst C dX9_stage_63 ?_
            refine x_istore_n (lv' := [(1, .int (zI 0)), (2, .int (zI (k : Int))), (0, .ref m)]) C dX9_stage_64 rfl (by decide) rfl ?_
            refine z_iinc (lv' := [(2, .int (zI ((k : Int) + 1))), (1, .int (zI 0)), (0, .ref m)]) C dX9_stage_65 1 rfl rfl (by decide) rfl ?_
            refine x_goto (tgt := 35) C dX9_stage_68 (by decide) ?_
            exact ih35 _ (by omega) _ (k + 1) _ (by omega) _ _ hMA hCi hSu hO hFr (by omega) (by first | exact CanI_y hcan (by omega) (by omega) | exact CanI_n hcan (by omega) (by omega)) rfl
          · refine x_aload_n C dX9_stage_49 rfl 2 rfl ?_
            refine z_iconst C dX9_stage_50 ?_
            refine x_iload_n C dX9_stage_51 rfl 0 rfl ?_
            refine x_callV (n := 2) (ci := 10) (Cn := RX9) (T := TX9) (N := 29) (cc9 := 0) (ss9 := 0) (rest := []) C dX9_stage_52 (c_X9_fitting (kxL E) C.st G z μc _ σ _ _ _ _ _ _ _ 0 (k : Int) ⟨hO, hMA, hCi, hSu⟩ hI (by omega) (by omega)) gX9_stage_X9_fitting rfl (by decide +kernel) ⟨(Nat.le_of_ble_eq_true rfl), (Nat.le_of_ble_eq_true rfl)⟩ rfl ⟨_, _, hO⟩ rfl rfl (Nat.le_of_ble_eq_true rfl) rfl rfl ⟨(Nat.le_of_ble_eq_true rfl), (Nat.le_of_ble_eq_true rfl)⟩ nX_no (fun v63 μ64 hv65 => ?_)
            obtain ⟨r66, hw69, h67⟩ := hv65
            subst hw69
            obtain ⟨⟨hr9, hO⟩, hF9⟩ := h67
            have hF70 := hF9
            have hMA : MA G μ64 A σ := hF70.ma hMA
            have hCi := hF70.ai hCi
            have hSu := hF70.ai hSu
            have hFr : Fr 3000 3999 μ μ64 := hFr.tr hF70
            have hcb := ctb_rg (fitb σ 0 (k : Int)) 64
            change _ = ctb (fitb σ 0 (k : Int)) 64 at hr9
            refine x_stk (stk' := [.int (zI r66)]) rfl ?_
            refine z_iconst C dX9_stage_55 ?_
            refine z_icmp_eq (tgt := 63) C dX9_stage_56 (by decide) (rg_of (by omega) (by omega)) (rg_of (by omega) (by omega)) (fun c_71 => ?_) (fun c_71 => ?_)
            · refine z_iconst C dX9_stage_63 ?_
              refine x_istore_n (lv' := [(1, .int (zI 0)), (2, .int (zI (k : Int))), (0, .ref m)]) C dX9_stage_64 rfl (by decide) rfl ?_
              refine z_iinc (lv' := [(2, .int (zI ((k : Int) + 1))), (1, .int (zI 0)), (0, .ref m)]) C dX9_stage_65 1 rfl rfl (by decide) rfl ?_
              refine x_goto (tgt := 35) C dX9_stage_68 (by decide) ?_
              exact ih35 _ (by omega) _ (k + 1) _ (by omega) _ _ hMA hCi hSu hO hFr (by omega) (by first | exact CanI_y hcan (by omega) (by omega) | exact CanI_n hcan (by omega) (by omega)) rfl
            · refine z_iconst C dX9_stage_59 ?_
              refine x_goto (tgt := 64) C dX9_stage_60 (by decide) ?_
              refine x_istore_n (lv' := [(1, .int (zI 1)), (2, .int (zI (k : Int))), (0, .ref m)]) C dX9_stage_64 rfl (by decide) rfl ?_
              refine z_iinc (lv' := [(2, .int (zI ((k : Int) + 1))), (1, .int (zI 1)), (0, .ref m)]) C dX9_stage_65 1 rfl rfl (by decide) rfl ?_
              refine x_goto (tgt := 35) C dX9_stage_68 (by decide) ?_
              exact ih35 _ (by omega) _ (k + 1) _ (by omega) _ _ hMA hCi hSu hO hFr (by omega) (by first | exact CanI_y hcan (by omega) (by omega) | exact CanI_n hcan (by omega) (by omega)) rfl
    exact L35 _ _ (0) _ (by omega) _ _ hMA hCi hSu hO hFr (by omega) hcan0 rfl
  · refine x_aload_n C dX9_stage_9 rfl 0 rfl ?_
    refine x_get (ci := 10) (Cn := RX9) (T := TX9) (N := 29) (ref := "CairnCipherModel") C dX9_stage_10 in_X9 rfl hO 11 (by decide) (by decide +kernel) rfl rfl ?_
    refine z_iconst C dX9_stage_13 ?_
    refine z_iald (j := 0) C dX9_stage_14 (show AI G μ3 (A 11) 3012 7 (σ 11) from hMA.ai 11 rfl) (by omega) (by omega) (by decide) ?_
    have q_72 := hI.r11 0 (by omega)
    refine z_if_le (tgt := 31) C dX9_stage_15 (by decide) (rg_of (by omega) (by omega)) (fun c_73 => ?_) (fun c_73 => ?_)
    · refine z_iconst C dX9_stage_31 ?_
      refine x_istore_n (lv' := [(1, .int (zI 0)), (0, .ref m)]) C dX9_stage_32 rfl (by decide) rfl ?_
      have hcan0 : CanI σ 0 0 := CanI_0 (by (have huq := uq_rg (fitb σ 0 (-1)); omega))
      refine z_iconst C dX9_stage_33 ?_
      refine x_istore_n (lv' := [(2, .int (zI 0)), (1, .int (zI 0)), (0, .ref m)]) C dX9_stage_34 rfl (by decide) rfl ?_
      have L35 : ∀ (M9 : Nat) (μc : Mm) (k : Nat) (kz : Int) (hkz : kz = (k : Int)) (can : Int) (fok : Int) (hMA : MA G μc A σ) (hCi : AI G μc (A 26) 3027 12 Ci) (hSu : AI G μc (A 28) 3029 64 Su) (hO : OB μc m 3000 10 [.ref (A 0), .ref (A 1), .ref (A 2), .ref (A 3), .ref (A 4), .ref (A 5), .ref (A 6), .int (zI (σ 7 0)), .ref (A 8), .ref (A 9), .ref (A 10), .ref (A 11), .int (zI (σ 12 0)), .ref (A 13), .ref (A 14), .ref (A 15), .ref (A 16), .ref (A 17), .int (zI (σ 18 0)), .ref (A 19), .ref (A 20), .ref (A 21), .ref (A 22), .int (zI (σ 23 0)), .int (zI th), .int (zI fok), .ref (A 26), .int (zI cm), .ref (A 28)]) (hFr : Fr 3000 3999 μ μc) (hk : k ≤ hn σ 0) (hcan : CanI σ k can) (hM9 : hn σ 0 - k = M9), Wx E G 0 0 35 [(2, .int (zI kz)), (1, .int (zI can)), (0, .ref m)] [] μc := by
        intro M9
        induction M9 using Nat.strongRecOn with
        | ind M9 ih35 =>
          intro μc k kz hkz can fok hMA hCi hSu hO hFr hk hcan hM9
          subst hkz
          have hcr := hcan.rg
          refine x_iload_n C dX9_stage_35 rfl 0 rfl ?_
          refine x_aload_n C dX9_stage_36 rfl 2 rfl ?_
          refine x_get (ci := 10) (Cn := RX9) (T := TX9) (N := 29) (ref := "CairnCipherModel") C dX9_stage_37 in_X9 rfl hO 6 (by decide) (by decide +kernel) rfl rfl ?_
          refine z_iconst C dX9_stage_40 ?_
          refine z_iald (j := 0) C dX9_stage_41 (show AI G μc (A 6) 3007 7 (σ 6) from hMA.ai 6 rfl) (by omega) (by omega) (by decide) ?_
          have q_74 := hI.r6 0 (by omega)
          refine z_icmp_ge (tgt := 71) C dX9_stage_42 (by decide) (rg_of (by omega) (by omega)) (rg_of (by omega) (by omega)) (fun c_75 => ?_) (fun c_75 => ?_)
          · have hce := hcan.e (by omega)
            refine x_aload_n C dX9_stage_71 rfl 2 rfl ?_
            refine x_iload_n C dX9_stage_72 rfl 1 rfl ?_
            refine z_if_eq (tgt := 80) C dX9_stage_73 (by decide) (rg_of (by omega) (by omega)) (fun c_76 => ?_) (fun c_76 => ?_)
            · refine z_iconst C dX9_stage_80 ?_
              refine z_put (ci := 10) (Cn := RX9) (T := TX9) (N := 29) (ref := "CairnCipherModel") (fs' := [.ref (A 0), .ref (A 1), .ref (A 2), .ref (A 3), .ref (A 4), .ref (A 5), .ref (A 6), .int (zI (σ 7 0)), .ref (A 8), .ref (A 9), .ref (A 10), .ref (A 11), .int (zI (σ 12 0)), .ref (A 13), .ref (A 14), .ref (A 15), .ref (A 16), .ref (A 17), .int (zI (σ 18 0)), .ref (A 19), .ref (A 20), .ref (A 21), .ref (A 22), .int (zI (σ 23 0)), .int (zI 1), .int (zI fok), .ref (A 26), .int (zI cm), .ref (A 28)]) C dX9_stage_81 in_X9 rfl tyX9 tyX9_ok nmX9 hO 24 (by decide) (by decide +kernel) rfl rfl rfl rfl rfl (Nat.le_of_ble_eq_true rfl) rfl (fun μ77 hOw hF78 => ?_)
              have hMA : MA G μ77 A σ := hF78.ma hMA
              have hCi := hF78.ai hCi
              have hSu := hF78.ai hSu
              have hFr : Fr 3000 3999 μ μ77 := hFr.tr hF78
              have hO := hOw
              refine x_aload_n C dX9_stage_84 rfl 2 rfl ?_
              refine x_get (ci := 10) (Cn := RX9) (T := TX9) (N := 29) (ref := "CairnCipherModel") C dX9_stage_85 in_X9 rfl hO 24 (by decide) (by decide +kernel) rfl rfl ?_
              refine z_if_le (tgt := 93) C dX9_stage_88 (by decide) (rg_of (by omega) (by omega)) (fun c_79 => ?_) (fun c_79 => ?_)
              · exfalso; omega
              · refine z_iconst C dX9_stage_91 ?_
                exact x_iret C R dX9_stage_92 (Nat.le_of_ble_eq_true rfl) (Nat.le_of_ble_eq_true rfl) (⟨_, rfl, ⟨Or.inr ⟨by omega, by (rw [show t_stage σ = 1 by omega]; exact ⟨_, _, _, _, _, hO, hMA, hCi, hSu⟩)⟩, hFr⟩⟩)
            · refine z_iconst C dX9_stage_76 ?_
              refine x_goto (tgt := 81) C dX9_stage_77 (by decide) ?_
              refine z_put (ci := 10) (Cn := RX9) (T := TX9) (N := 29) (ref := "CairnCipherModel") (fs' := [.ref (A 0), .ref (A 1), .ref (A 2), .ref (A 3), .ref (A 4), .ref (A 5), .ref (A 6), .int (zI (σ 7 0)), .ref (A 8), .ref (A 9), .ref (A 10), .ref (A 11), .int (zI (σ 12 0)), .ref (A 13), .ref (A 14), .ref (A 15), .ref (A 16), .ref (A 17), .int (zI (σ 18 0)), .ref (A 19), .ref (A 20), .ref (A 21), .ref (A 22), .int (zI (σ 23 0)), .int (zI 0), .int (zI fok), .ref (A 26), .int (zI cm), .ref (A 28)]) C dX9_stage_81 in_X9 rfl tyX9 tyX9_ok nmX9 hO 24 (by decide) (by decide +kernel) rfl rfl rfl rfl rfl (Nat.le_of_ble_eq_true rfl) rfl (fun μ80 hOw hF81 => ?_)
              have hMA : MA G μ80 A σ := hF81.ma hMA
              have hCi := hF81.ai hCi
              have hSu := hF81.ai hSu
              have hFr : Fr 3000 3999 μ μ80 := hFr.tr hF81
              have hO := hOw
              refine x_aload_n C dX9_stage_84 rfl 2 rfl ?_
              refine x_get (ci := 10) (Cn := RX9) (T := TX9) (N := 29) (ref := "CairnCipherModel") C dX9_stage_85 in_X9 rfl hO 24 (by decide) (by decide +kernel) rfl rfl ?_
              refine z_if_le (tgt := 93) C dX9_stage_88 (by decide) (rg_of (by omega) (by omega)) (fun c_82 => ?_) (fun c_82 => ?_)
              · refine x_aload_n C dX9_stage_93 rfl 2 rfl ?_
                refine x_get (ci := 10) (Cn := RX9) (T := TX9) (N := 29) (ref := "CairnCipherModel") C dX9_stage_94 in_X9 rfl hO 7 (by decide) (by decide +kernel) rfl rfl ?_
                refine z_iconst C dX9_stage_97 ?_
                refine z_iadd C dX9_stage_98 rfl ?_
                refine x_istore_n (lv' := [(2, .int (zI ((σ 7 0) + 1))), (1, .int (zI can)), (0, .ref m)]) C dX9_stage_99 rfl (by decide) rfl ?_
                refine x_aload_n C dX9_stage_100 rfl 2 rfl ?_
                refine x_get (ci := 10) (Cn := RX9) (T := TX9) (N := 29) (ref := "CairnCipherModel") C dX9_stage_101 in_X9 rfl hO 6 (by decide) (by decide +kernel) rfl rfl ?_
                refine x_iload_n C dX9_stage_104 rfl 0 rfl ?_
                refine x_aload_n C dX9_stage_105 rfl 2 rfl ?_
                refine x_get (ci := 10) (Cn := RX9) (T := TX9) (N := 29) (ref := "CairnCipherModel") C dX9_stage_106 in_X9 rfl hO 6 (by decide) (by decide +kernel) rfl rfl ?_
                refine z_iconst C dX9_stage_109 ?_
                refine z_iald (j := 0) C dX9_stage_110 (show AI G μ80 (A 6) 3007 7 (σ 6) from hMA.ai 6 rfl) (by omega) (by omega) (by decide) ?_
                have q_83 := hI.r6 0 (by omega)
                refine z_iast (j := ((σ 7 0) + 1).toNat) C dX9_stage_111 (show AI G μ80 (A 6) 3007 7 (σ 6) from hMA.ai 6 rfl) (by omega) (by omega) (by decide) (fun μ84 hq86 hF85 => ?_)
                have hMAn : MA G μ84 A (su σ 6 (wr (σ 6) (((σ 7 0) + 1).toNat) ((σ 6) 0))) := hMA.up (k := 6) rfl hq86 hF85
                have hCi := hF85.ai hCi
                have hSu := hF85.ai hSu
                have hO := hF85.ob hO
                have hFr : Fr 3000 3999 μ μ84 := hFr.tr hF85
                have hMA := hMAn
                refine x_aload_n C dX9_stage_112 rfl 2 rfl ?_
                refine x_get (ci := 10) (Cn := RX9) (T := TX9) (N := 29) (ref := "CairnCipherModel") C dX9_stage_113 in_X9 rfl hO 11 (by decide) (by decide +kernel) rfl rfl ?_
                refine x_iload_n C dX9_stage_116 rfl 0 rfl ?_
                refine x_aload_n C dX9_stage_117 rfl 2 rfl ?_
                refine x_get (ci := 10) (Cn := RX9) (T := TX9) (N := 29) (ref := "CairnCipherModel") C dX9_stage_118 in_X9 rfl hO 11 (by decide) (by decide +kernel) rfl rfl ?_
                refine z_iconst C dX9_stage_121 ?_
                refine z_iald (j := 0) C dX9_stage_122 (show AI G μ84 (A 11) 3012 7 (σ 11) from hMA.ai 11 rfl) (by omega) (by omega) (by decide) ?_
                have q_87 := hI.r11 0 (by omega)
                refine z_iast (j := ((σ 7 0) + 1).toNat) C dX9_stage_123 (show AI G μ84 (A 11) 3012 7 (σ 11) from hMA.ai 11 rfl) (by omega) (by omega) (by decide) (fun μ88 hq90 hF89 => ?_)
                have hMAn : MA G μ88 A (su (su σ 6 (wr (σ 6) (((σ 7 0) + 1).toNat) ((σ 6) 0))) 11 (wr (σ 11) (((σ 7 0) + 1).toNat) ((σ 11) 0))) := hMA.up (k := 11) rfl hq90 hF89
                have hCi := hF89.ai hCi
                have hSu := hF89.ai hSu
                have hO := hF89.ob hO
                have hFr : Fr 3000 3999 μ μ88 := hFr.tr hF89
                have hMA := hMAn
                refine z_iconst C dX9_stage_124 ?_
                refine x_istore_n (lv' := [(3, .int (zI 0)), (2, .int (zI ((σ 7 0) + 1))), (1, .int (zI can)), (0, .ref m)]) C dX9_stage_125 rfl (by decide) rfl ?_
                have L126 : ∀ (M9 : Nat) (μj : Mm) (k : Nat) (kz : Int) (hkz : kz = (k : Int)) (hMA : MA G μj A (stK σ ((σ 7 0).toNat + 1) k)) (hCi : AI G μj (A 26) 3027 12 Ci) (hSu : AI G μj (A 28) 3029 64 Su) (hO : OB μj m 3000 10 [.ref (A 0), .ref (A 1), .ref (A 2), .ref (A 3), .ref (A 4), .ref (A 5), .ref (A 6), .int (zI (σ 7 0)), .ref (A 8), .ref (A 9), .ref (A 10), .ref (A 11), .int (zI (σ 12 0)), .ref (A 13), .ref (A 14), .ref (A 15), .ref (A 16), .ref (A 17), .int (zI (σ 18 0)), .ref (A 19), .ref (A 20), .ref (A 21), .ref (A 22), .int (zI (σ 23 0)), .int (zI 0), .int (zI fok), .ref (A 26), .int (zI cm), .ref (A 28)]) (hFr : Fr 3000 3999 μ μj) (hk : k ≤ 5) (hM9 : 5 - k = M9), Wx E G 0 0 126 [(3, .int (zI kz)), (2, .int (zI ((σ 7 0) + 1))), (1, .int (zI can)), (0, .ref m)] [] μj := by
                  intro M9
                  induction M9 using Nat.strongRecOn with
                  | ind M9 ih126 =>
                    intro μj k kz hkz hMA hCi hSu hO hFr hk hM9
                    subst hkz
                    have hIk := Iv_stK (r := ((σ 7 0).toNat + 1)) (k := k) hI (by omega) hk
                    have hk5 : ∀ j, j < 35 → 0 ≤ cpk (σ 5) ((σ 7 0).toNat + 1) k j ∧ cpk (σ 5) ((σ 7 0).toNat + 1) k j ≤ 1 := hIk.r5
                    refine x_iload_n C dX9_stage_126 rfl 0 rfl ?_
                    refine z_iconst C dX9_stage_127 ?_
                    refine z_icmp_ge (tgt := 217) C dX9_stage_128 (by decide) (rg_of (by omega) (by omega)) (rg_of (by omega) (by omega)) (fun c_91 => ?_) (fun c_91 => ?_)
                    · refine x_aload_n C dX9_stage_217 rfl 3 rfl ?_
                      refine x_get (ci := 10) (Cn := RX9) (T := TX9) (N := 29) (ref := "CairnCipherModel") C dX9_stage_218 in_X9 rfl hO 8 (by decide) (by decide +kernel) rfl rfl ?_
                      refine x_aload_n C dX9_stage_221 rfl 3 rfl ?_
                      refine x_get (ci := 10) (Cn := RX9) (T := TX9) (N := 29) (ref := "CairnCipherModel") C dX9_stage_222 in_X9 rfl hO 7 (by decide) (by decide +kernel) rfl rfl ?_
                      refine x_aload_n C dX9_stage_225 rfl 3 rfl ?_
                      refine x_iload_n C dX9_stage_226 rfl 1 rfl ?_
                      have hI5 := Iv_stK (r := ((σ 7 0).toNat + 1)) (k := 5) hI (by omega) (by omega)
                      have hMA : MA G μj A (stK σ ((σ 7 0).toNat + 1) 5) := by (rw [← show k = 5 by omega]; exact hMA)
                      have hl0 : ∀ j, j < 1 → (wr (σ 6) ((σ 7 0).toNat + 1) (σ 6 0)) j = σ 6 0 := fun j hj => by (obtain rfl : j = 0 := (by omega); exact wr_ne (by omega))
                      refine x_callV (n := 1) (ci := 10) (Cn := RX9) (T := TX9) (N := 29) (cc9 := 0) (ss9 := 0) (rest := [.int (zI (σ 7 0)), .ref (A 8)]) C dX9_stage_227 (c_X9_fixed (kxL E) C.st G z μj _ (stK σ ((σ 7 0).toNat + 1) 5) _ _ _ _ _ _ _ ((σ 7 0) + 1) ⟨hO, hMA, hCi, hSu⟩ hI5 (by omega)) gX9_stage_X9_fixed rfl (by decide +kernel) ⟨(Nat.le_of_ble_eq_true rfl), (Nat.le_of_ble_eq_true rfl)⟩ rfl ⟨_, _, hO⟩ rfl rfl (Nat.le_of_ble_eq_true rfl) rfl rfl ⟨(Nat.le_of_ble_eq_true rfl), (Nat.le_of_ble_eq_true rfl)⟩ nX_no (fun v93 μ94 hv95 => ?_)
                      obtain ⟨r96, hw99, h97⟩ := hv95
                      subst hw99
                      obtain ⟨⟨hr9, fo92, hO⟩, hF9⟩ := h97
                      have hF100 := hF9
                      have hMA : MA G μ94 A (stK σ ((σ 7 0).toNat + 1) 5) := hF100.ma hMA
                      have hCi := hF100.ai hCi
                      have hSu := hF100.ai hSu
                      have hFr : Fr 3000 3999 μ μ94 := hFr.tr hF100
                      rw [er1, stK_uq hI (by omega)] at hr9
                      refine x_stk (stk' := [.int (zI r96), .int (zI (σ 7 0)), .ref (A 8)]) rfl ?_
                      refine z_iast (j := (σ 7 0).toNat) C dX9_stage_230 (show AI G μ94 (A 8) 3009 6 (σ 8) from hMA.ai 8 rfl) (by omega) (by omega) (by decide) (fun μ101 hq103 hF102 => ?_)
                      have hMAn : MA G μ101 A (su (stK σ ((σ 7 0).toNat + 1) 5) 8 (wr (σ 8) ((σ 7 0).toNat) r96)) := hMA.up (k := 8) rfl hq103 hF102
                      have hCi := hF102.ai hCi
                      have hSu := hF102.ai hSu
                      have hO := hF102.ob hO
                      have hFr : Fr 3000 3999 μ μ101 := hFr.tr hF102
                      have hMA := hMAn
                      refine x_aload_n C dX9_stage_231 rfl 3 rfl ?_
                      refine x_dup C dX9_stage_232 rfl ?_
                      refine x_get (ci := 10) (Cn := RX9) (T := TX9) (N := 29) (ref := "CairnCipherModel") C dX9_stage_233 in_X9 rfl hO 7 (by decide) (by decide +kernel) rfl rfl ?_
                      refine z_iconst C dX9_stage_236 ?_
                      refine z_iadd C dX9_stage_237 rfl ?_
                      refine z_put (ci := 10) (Cn := RX9) (T := TX9) (N := 29) (ref := "CairnCipherModel") (fs' := [.ref (A 0), .ref (A 1), .ref (A 2), .ref (A 3), .ref (A 4), .ref (A 5), .ref (A 6), .int (zI ((σ 7 0) + 1)), .ref (A 8), .ref (A 9), .ref (A 10), .ref (A 11), .int (zI (σ 12 0)), .ref (A 13), .ref (A 14), .ref (A 15), .ref (A 16), .ref (A 17), .int (zI (σ 18 0)), .ref (A 19), .ref (A 20), .ref (A 21), .ref (A 22), .int (zI (σ 23 0)), .int (zI 0), .int (zI fo92), .ref (A 26), .int (zI cm), .ref (A 28)]) C dX9_stage_238 in_X9 rfl tyX9 tyX9_ok nmX9 hO 7 (by decide) (by decide +kernel) rfl rfl rfl rfl rfl (Nat.le_of_ble_eq_true rfl) rfl (fun μ104 hOw hF105 => ?_)
                      have hMA : MA G μ104 A (su (stK σ ((σ 7 0).toNat + 1) 5) 8 (wr (σ 8) ((σ 7 0).toNat) r96)) := hF105.ma hMA
                      have hCi := hF105.ai hCi
                      have hSu := hF105.ai hSu
                      have hFr : Fr 3000 3999 μ μ104 := hFr.tr hF105
                      have hO := hOw
                      refine x_aload_n C dX9_stage_241 rfl 3 rfl ?_
                      refine x_get (ci := 10) (Cn := RX9) (T := TX9) (N := 29) (ref := "CairnCipherModel") C dX9_stage_242 in_X9 rfl hO 6 (by decide) (by decide +kernel) rfl rfl ?_
                      refine z_iconst C dX9_stage_245 ?_
                      refine z_iconst C dX9_stage_246 ?_
                      refine z_iast (j := 0) C dX9_stage_247 (show AI G μ104 (A 6) 3007 7 (wr (σ 6) ((σ 7 0).toNat + 1) (σ 6 0)) from hMA.ai 6 rfl) (by omega) (by omega) (by decide) (fun μ106 hq108 hF107 => ?_)
                      have hMAn : MA G μ106 A (su (su (stK σ ((σ 7 0).toNat + 1) 5) 8 (wr (σ 8) ((σ 7 0).toNat) r96)) 6 (wr (wr (σ 6) ((σ 7 0).toNat + 1) (σ 6 0)) 0 0)) := hMA.up (k := 6) rfl hq108 hF107
                      have hCi := hF107.ai hCi
                      have hSu := hF107.ai hSu
                      have hO := hF107.ob hO
                      have hFr : Fr 3000 3999 μ μ106 := hFr.tr hF107
                      have hMA := hMAn
                      refine x_aload_n C dX9_stage_248 rfl 3 rfl ?_
                      refine x_get (ci := 10) (Cn := RX9) (T := TX9) (N := 29) (ref := "CairnCipherModel") C dX9_stage_249 in_X9 rfl hO 7 (by decide) (by decide +kernel) rfl rfl ?_
                      refine z_iconst C dX9_stage_252 ?_
                      refine z_isub C dX9_stage_253 rfl ?_
                      exact x_iret C R dX9_stage_254 (Nat.le_of_ble_eq_true rfl) (Nat.le_of_ble_eq_true rfl) (⟨_, rfl, ⟨Or.inl ⟨by omega, by omega, ⟨_, _, _, _, _, hO, (by (rw [hr9] at hMA; rw [← stK_n rfl rfl]; exact MA.sc (k := 7) hMA (by decide))), hCi, hSu⟩⟩, hFr⟩⟩)
                    · refine x_aload_n C dX9_stage_131 rfl 3 rfl ?_
                      refine x_get (ci := 10) (Cn := RX9) (T := TX9) (N := 29) (ref := "CairnCipherModel") C dX9_stage_132 in_X9 rfl hO 2 (by decide) (by decide +kernel) rfl rfl ?_
                      refine z_iconst C dX9_stage_135 ?_
                      refine x_iload_n C dX9_stage_136 rfl 1 rfl ?_
                      refine z_imul C dX9_stage_137 rfl ?_
                      refine x_iload_n C dX9_stage_138 rfl 0 rfl ?_
                      refine z_iadd C dX9_stage_139 rfl ?_
                      refine x_aload_n C dX9_stage_140 rfl 3 rfl ?_
                      refine x_get (ci := 10) (Cn := RX9) (T := TX9) (N := 29) (ref := "CairnCipherModel") C dX9_stage_141 in_X9 rfl hO 2 (by decide) (by decide +kernel) rfl rfl ?_
                      refine x_iload_n C dX9_stage_144 rfl 0 rfl ?_
                      refine z_iald (j := k) C dX9_stage_145 (show AI G μj (A 2) 3003 35 (cpk (σ 2) ((σ 7 0).toNat + 1) k) from hMA.ai 2 rfl) (by omega) (by omega) (by decide) ?_
                      refine z_iast (j := ((5 * ((σ 7 0) + 1)) + (k : Int)).toNat) C dX9_stage_146 (show AI G μj (A 2) 3003 35 (cpk (σ 2) ((σ 7 0).toNat + 1) k) from hMA.ai 2 rfl) (by omega) (by omega) (by decide) (fun μ109 hq111 hF110 => ?_)
                      have hMAn : MA G μ109 A (su (stK σ ((σ 7 0).toNat + 1) k) 2 (wr (cpk (σ 2) ((σ 7 0).toNat + 1) k) (((5 * ((σ 7 0) + 1)) + (k : Int)).toNat) ((cpk (σ 2) ((σ 7 0).toNat + 1) k) k))) := hMA.up (k := 2) rfl hq111 hF110
                      have hCi := hF110.ai hCi
                      have hSu := hF110.ai hSu
                      have hO := hF110.ob hO
                      have hFr : Fr 3000 3999 μ μ109 := hFr.tr hF110
                      have hMA := hMAn
                      refine x_aload_n C dX9_stage_147 rfl 3 rfl ?_
                      refine x_get (ci := 10) (Cn := RX9) (T := TX9) (N := 29) (ref := "CairnCipherModel") C dX9_stage_148 in_X9 rfl hO 3 (by decide) (by decide +kernel) rfl rfl ?_
                      refine z_iconst C dX9_stage_151 ?_
                      refine x_iload_n C dX9_stage_152 rfl 1 rfl ?_
                      refine z_imul C dX9_stage_153 rfl ?_
                      refine x_iload_n C dX9_stage_154 rfl 0 rfl ?_
                      refine z_iadd C dX9_stage_155 rfl ?_
                      refine x_aload_n C dX9_stage_156 rfl 3 rfl ?_
                      refine x_get (ci := 10) (Cn := RX9) (T := TX9) (N := 29) (ref := "CairnCipherModel") C dX9_stage_157 in_X9 rfl hO 3 (by decide) (by decide +kernel) rfl rfl ?_
                      refine x_iload_n C dX9_stage_160 rfl 0 rfl ?_
                      refine z_iald (j := k) C dX9_stage_161 (show AI G μ109 (A 3) 3004 35 (cpk (σ 3) ((σ 7 0).toNat + 1) k) from hMA.ai 3 rfl) (by omega) (by omega) (by decide) ?_
                      refine z_iast (j := ((5 * ((σ 7 0) + 1)) + (k : Int)).toNat) C dX9_stage_162 (show AI G μ109 (A 3) 3004 35 (cpk (σ 3) ((σ 7 0).toNat + 1) k) from hMA.ai 3 rfl) (by omega) (by omega) (by decide) (fun μ112 hq114 hF113 => ?_)
                      have hMAn : MA G μ112 A (su (su (stK σ ((σ 7 0).toNat + 1) k) 2 (wr (cpk (σ 2) ((σ 7 0).toNat + 1) k) (((5 * ((σ 7 0) + 1)) + (k : Int)).toNat) ((cpk (σ 2) ((σ 7 0).toNat + 1) k) k))) 3 (wr (cpk (σ 3) ((σ 7 0).toNat + 1) k) (((5 * ((σ 7 0) + 1)) + (k : Int)).toNat) ((cpk (σ 3) ((σ 7 0).toNat + 1) k) k))) := hMA.up (k := 3) rfl hq114 hF113
                      have hCi := hF113.ai hCi
                      have hSu := hF113.ai hSu
                      have hO := hF113.ob hO
                      have hFr : Fr 3000 3999 μ μ112 := hFr.tr hF113
                      have hMA := hMAn
                      refine x_aload_n C dX9_stage_163 rfl 3 rfl ?_
                      refine x_get (ci := 10) (Cn := RX9) (T := TX9) (N := 29) (ref := "CairnCipherModel") C dX9_stage_164 in_X9 rfl hO 4 (by decide) (by decide +kernel) rfl rfl ?_
                      refine z_iconst C dX9_stage_167 ?_
                      refine x_iload_n C dX9_stage_168 rfl 1 rfl ?_
                      refine z_imul C dX9_stage_169 rfl ?_
                      refine x_iload_n C dX9_stage_170 rfl 0 rfl ?_
                      refine z_iadd C dX9_stage_171 rfl ?_
                      refine x_aload_n C dX9_stage_172 rfl 3 rfl ?_
                      refine x_get (ci := 10) (Cn := RX9) (T := TX9) (N := 29) (ref := "CairnCipherModel") C dX9_stage_173 in_X9 rfl hO 4 (by decide) (by decide +kernel) rfl rfl ?_
                      refine x_iload_n C dX9_stage_176 rfl 0 rfl ?_
                      refine z_iald (j := k) C dX9_stage_177 (show AI G μ112 (A 4) 3005 35 (cpk (σ 4) ((σ 7 0).toNat + 1) k) from hMA.ai 4 rfl) (by omega) (by omega) (by decide) ?_
                      refine z_iast (j := ((5 * ((σ 7 0) + 1)) + (k : Int)).toNat) C dX9_stage_178 (show AI G μ112 (A 4) 3005 35 (cpk (σ 4) ((σ 7 0).toNat + 1) k) from hMA.ai 4 rfl) (by omega) (by omega) (by decide) (fun μ115 hq117 hF116 => ?_)
                      have hMAn : MA G μ115 A (su (su (su (stK σ ((σ 7 0).toNat + 1) k) 2 (wr (cpk (σ 2) ((σ 7 0).toNat + 1) k) (((5 * ((σ 7 0) + 1)) + (k : Int)).toNat) ((cpk (σ 2) ((σ 7 0).toNat + 1) k) k))) 3 (wr (cpk (σ 3) ((σ 7 0).toNat + 1) k) (((5 * ((σ 7 0) + 1)) + (k : Int)).toNat) ((cpk (σ 3) ((σ 7 0).toNat + 1) k) k))) 4 (wr (cpk (σ 4) ((σ 7 0).toNat + 1) k) (((5 * ((σ 7 0) + 1)) + (k : Int)).toNat) ((cpk (σ 4) ((σ 7 0).toNat + 1) k) k))) := hMA.up (k := 4) rfl hq117 hF116
                      have hCi := hF116.ai hCi
                      have hSu := hF116.ai hSu
                      have hO := hF116.ob hO
                      have hFr : Fr 3000 3999 μ μ115 := hFr.tr hF116
                      have hMA := hMAn
                      refine x_aload_n C dX9_stage_179 rfl 3 rfl ?_
                      refine x_get (ci := 10) (Cn := RX9) (T := TX9) (N := 29) (ref := "CairnCipherModel") C dX9_stage_180 in_X9 rfl hO 5 (by decide) (by decide +kernel) rfl rfl ?_
                      refine z_iconst C dX9_stage_183 ?_
                      refine x_iload_n C dX9_stage_184 rfl 1 rfl ?_
                      refine z_imul C dX9_stage_185 rfl ?_
                      refine x_iload_n C dX9_stage_186 rfl 0 rfl ?_
                      refine z_iadd C dX9_stage_187 rfl ?_
                      refine x_aload_n C dX9_stage_188 rfl 3 rfl ?_
                      refine x_get (ci := 10) (Cn := RX9) (T := TX9) (N := 29) (ref := "CairnCipherModel") C dX9_stage_189 in_X9 rfl hO 5 (by decide) (by decide +kernel) rfl rfl ?_
                      refine x_iload_n C dX9_stage_192 rfl 0 rfl ?_
                      refine z_zald (j := k) C dX9_stage_193 (show AZ G μ115 (A 5) 3006 35 (cpk (σ 5) ((σ 7 0).toNat + 1) k) from hMA.az 5 rfl) (by omega) (by omega) (by decide) ?_
                      have q_118 := hk5 k (by omega)
                      refine z_zast (j := ((5 * ((σ 7 0) + 1)) + (k : Int)).toNat) C dX9_stage_194 (show AZ G μ115 (A 5) 3006 35 (cpk (σ 5) ((σ 7 0).toNat + 1) k) from hMA.az 5 rfl) (by omega) (by omega) (by decide) (by omega) (fun μ119 hq121 hF120 => ?_)
                      have hMAn : MA G μ119 A (su (su (su (su (stK σ ((σ 7 0).toNat + 1) k) 2 (wr (cpk (σ 2) ((σ 7 0).toNat + 1) k) (((5 * ((σ 7 0) + 1)) + (k : Int)).toNat) ((cpk (σ 2) ((σ 7 0).toNat + 1) k) k))) 3 (wr (cpk (σ 3) ((σ 7 0).toNat + 1) k) (((5 * ((σ 7 0) + 1)) + (k : Int)).toNat) ((cpk (σ 3) ((σ 7 0).toNat + 1) k) k))) 4 (wr (cpk (σ 4) ((σ 7 0).toNat + 1) k) (((5 * ((σ 7 0) + 1)) + (k : Int)).toNat) ((cpk (σ 4) ((σ 7 0).toNat + 1) k) k))) 5 (wr (cpk (σ 5) ((σ 7 0).toNat + 1) k) (((5 * ((σ 7 0) + 1)) + (k : Int)).toNat) ((cpk (σ 5) ((σ 7 0).toNat + 1) k) k))) := hMA.upz (k := 5) rfl hq121 hF120
                      have hCi := hF120.ai hCi
                      have hSu := hF120.ai hSu
                      have hO := hF120.ob hO
                      have hFr : Fr 3000 3999 μ μ119 := hFr.tr hF120
                      have hMA := hMAn
                      refine x_aload_n C dX9_stage_195 rfl 3 rfl ?_
                      refine x_get (ci := 10) (Cn := RX9) (T := TX9) (N := 29) (ref := "CairnCipherModel") C dX9_stage_196 in_X9 rfl hO 10 (by decide) (by decide +kernel) rfl rfl ?_
                      refine z_iconst C dX9_stage_199 ?_
                      refine x_iload_n C dX9_stage_200 rfl 1 rfl ?_
                      refine z_imul C dX9_stage_201 rfl ?_
                      refine x_iload_n C dX9_stage_202 rfl 0 rfl ?_
                      refine z_iadd C dX9_stage_203 rfl ?_
                      refine x_aload_n C dX9_stage_204 rfl 3 rfl ?_
                      refine x_get (ci := 10) (Cn := RX9) (T := TX9) (N := 29) (ref := "CairnCipherModel") C dX9_stage_205 in_X9 rfl hO 10 (by decide) (by decide +kernel) rfl rfl ?_
                      refine x_iload_n C dX9_stage_208 rfl 0 rfl ?_
                      refine z_iald (j := k) C dX9_stage_209 (show AI G μ119 (A 10) 3011 35 (cpk (σ 10) ((σ 7 0).toNat + 1) k) from hMA.ai 10 rfl) (by omega) (by omega) (by decide) ?_
                      refine z_iast (j := ((5 * ((σ 7 0) + 1)) + (k : Int)).toNat) C dX9_stage_210 (show AI G μ119 (A 10) 3011 35 (cpk (σ 10) ((σ 7 0).toNat + 1) k) from hMA.ai 10 rfl) (by omega) (by omega) (by decide) (fun μ122 hq124 hF123 => ?_)
                      have hMAn : MA G μ122 A (su (su (su (su (su (stK σ ((σ 7 0).toNat + 1) k) 2 (wr (cpk (σ 2) ((σ 7 0).toNat + 1) k) (((5 * ((σ 7 0) + 1)) + (k : Int)).toNat) ((cpk (σ 2) ((σ 7 0).toNat + 1) k) k))) 3 (wr (cpk (σ 3) ((σ 7 0).toNat + 1) k) (((5 * ((σ 7 0) + 1)) + (k : Int)).toNat) ((cpk (σ 3) ((σ 7 0).toNat + 1) k) k))) 4 (wr (cpk (σ 4) ((σ 7 0).toNat + 1) k) (((5 * ((σ 7 0) + 1)) + (k : Int)).toNat) ((cpk (σ 4) ((σ 7 0).toNat + 1) k) k))) 5 (wr (cpk (σ 5) ((σ 7 0).toNat + 1) k) (((5 * ((σ 7 0) + 1)) + (k : Int)).toNat) ((cpk (σ 5) ((σ 7 0).toNat + 1) k) k))) 10 (wr (cpk (σ 10) ((σ 7 0).toNat + 1) k) (((5 * ((σ 7 0) + 1)) + (k : Int)).toNat) ((cpk (σ 10) ((σ 7 0).toNat + 1) k) k))) := hMA.up (k := 10) rfl hq124 hF123
                      have hCi := hF123.ai hCi
                      have hSu := hF123.ai hSu
                      have hO := hF123.ob hO
                      have hFr : Fr 3000 3999 μ μ122 := hFr.tr hF123
                      have hMA := hMAn
                      refine z_iinc (lv' := [(3, .int (zI ((k : Int) + 1))), (2, .int (zI ((σ 7 0) + 1))), (1, .int (zI can)), (0, .ref m)]) C dX9_stage_211 0 rfl rfl (by decide) rfl ?_
                      refine x_goto (tgt := 126) C dX9_stage_214 (by decide) ?_
                      have ei : ((5 * ((σ 7 0) + 1)) + (k : Int)).toNat = 5 * ((σ 7 0).toNat + 1) + k := by omega
                      rw [ei] at hMA
                      have hMA : MA G μ122 A (stK σ ((σ 7 0).toNat + 1) (k + 1)) := by (rw [← stK_s (σ := σ) (k := k) (cpk_s (by omega) (by omega)) (cpk_s (by omega) (by omega)) (cpk_s (by omega) (by omega)) (cpk_s (by omega) (by omega)) (cpk_s (by omega) (by omega))]; exact hMA)
                      exact ih126 _ (by omega) _ (k + 1) _ (by omega) hMA hCi hSu hO hFr (by omega) rfl
                have hMA : MA G μ88 A (stK σ ((σ 7 0).toNat + 1) 0) := by (rw [stK_0, ← er1]; exact hMA)
                exact L126 _ _ (0) _ (by omega) hMA hCi hSu hO hFr (by omega) rfl
              · exfalso; omega
          · refine x_iload_n C dX9_stage_45 rfl 1 rfl ?_
            refine z_if_eq (tgt := 63) C dX9_stage_46 (by decide) (rg_of (by omega) (by omega)) (fun c_125 => ?_) (fun c_125 => ?_)
            · refine z_iconst C dX9_stage_63 ?_
              refine x_istore_n (lv' := [(1, .int (zI 0)), (2, .int (zI (k : Int))), (0, .ref m)]) C dX9_stage_64 rfl (by decide) rfl ?_
              refine z_iinc (lv' := [(2, .int (zI ((k : Int) + 1))), (1, .int (zI 0)), (0, .ref m)]) C dX9_stage_65 1 rfl rfl (by decide) rfl ?_
              refine x_goto (tgt := 35) C dX9_stage_68 (by decide) ?_
              exact ih35 _ (by omega) _ (k + 1) _ (by omega) _ _ hMA hCi hSu hO hFr (by omega) (by first | exact CanI_y hcan (by omega) (by omega) | exact CanI_n hcan (by omega) (by omega)) rfl
            · refine x_aload_n C dX9_stage_49 rfl 2 rfl ?_
              refine z_iconst C dX9_stage_50 ?_
              refine x_iload_n C dX9_stage_51 rfl 0 rfl ?_
              refine x_callV (n := 2) (ci := 10) (Cn := RX9) (T := TX9) (N := 29) (cc9 := 0) (ss9 := 0) (rest := []) C dX9_stage_52 (c_X9_fitting (kxL E) C.st G z μc _ σ _ _ _ _ _ _ _ 0 (k : Int) ⟨hO, hMA, hCi, hSu⟩ hI (by omega) (by omega)) gX9_stage_X9_fitting rfl (by decide +kernel) ⟨(Nat.le_of_ble_eq_true rfl), (Nat.le_of_ble_eq_true rfl)⟩ rfl ⟨_, _, hO⟩ rfl rfl (Nat.le_of_ble_eq_true rfl) rfl rfl ⟨(Nat.le_of_ble_eq_true rfl), (Nat.le_of_ble_eq_true rfl)⟩ nX_no (fun v126 μ127 hv128 => ?_)
              obtain ⟨r129, hw132, h130⟩ := hv128
              subst hw132
              obtain ⟨⟨hr9, hO⟩, hF9⟩ := h130
              have hF133 := hF9
              have hMA : MA G μ127 A σ := hF133.ma hMA
              have hCi := hF133.ai hCi
              have hSu := hF133.ai hSu
              have hFr : Fr 3000 3999 μ μ127 := hFr.tr hF133
              have hcb := ctb_rg (fitb σ 0 (k : Int)) 64
              change _ = ctb (fitb σ 0 (k : Int)) 64 at hr9
              refine x_stk (stk' := [.int (zI r129)]) rfl ?_
              refine z_iconst C dX9_stage_55 ?_
              refine z_icmp_eq (tgt := 63) C dX9_stage_56 (by decide) (rg_of (by omega) (by omega)) (rg_of (by omega) (by omega)) (fun c_134 => ?_) (fun c_134 => ?_)
              · refine z_iconst C dX9_stage_63 ?_
                refine x_istore_n (lv' := [(1, .int (zI 0)), (2, .int (zI (k : Int))), (0, .ref m)]) C dX9_stage_64 rfl (by decide) rfl ?_
                refine z_iinc (lv' := [(2, .int (zI ((k : Int) + 1))), (1, .int (zI 0)), (0, .ref m)]) C dX9_stage_65 1 rfl rfl (by decide) rfl ?_
                refine x_goto (tgt := 35) C dX9_stage_68 (by decide) ?_
                exact ih35 _ (by omega) _ (k + 1) _ (by omega) _ _ hMA hCi hSu hO hFr (by omega) (by first | exact CanI_y hcan (by omega) (by omega) | exact CanI_n hcan (by omega) (by omega)) rfl
              · refine z_iconst C dX9_stage_59 ?_
                refine x_goto (tgt := 64) C dX9_stage_60 (by decide) ?_
                refine x_istore_n (lv' := [(1, .int (zI 1)), (2, .int (zI (k : Int))), (0, .ref m)]) C dX9_stage_64 rfl (by decide) rfl ?_
                refine z_iinc (lv' := [(2, .int (zI ((k : Int) + 1))), (1, .int (zI 1)), (0, .ref m)]) C dX9_stage_65 1 rfl rfl (by decide) rfl ?_
                refine x_goto (tgt := 35) C dX9_stage_68 (by decide) ?_
                exact ih35 _ (by omega) _ (k + 1) _ (by omega) _ _ hMA hCi hSu hO hFr (by omega) (by first | exact CanI_y hcan (by omega) (by omega) | exact CanI_n hcan (by omega) (by omega)) rfl
      exact L35 _ _ (0) _ (by omega) _ _ hMA hCi hSu hO hFr (by omega) hcan0 rfl
    · refine x_aload_n C dX9_stage_18 rfl 0 rfl ?_
      refine x_get (ci := 10) (Cn := RX9) (T := TX9) (N := 29) (ref := "CairnCipherModel") C dX9_stage_19 in_X9 rfl hO 7 (by decide) (by decide +kernel) rfl rfl ?_
      refine z_bipush C dX9_stage_22 (by decide) ?_
      refine z_icmp_ge (tgt := 31) C dX9_stage_24 (by decide) (rg_of (by omega) (by omega)) (rg_of (by omega) (by omega)) (fun c_135 => ?_) (fun c_135 => ?_)
      · refine z_iconst C dX9_stage_31 ?_
        refine x_istore_n (lv' := [(1, .int (zI 0)), (0, .ref m)]) C dX9_stage_32 rfl (by decide) rfl ?_
        have hcan0 : CanI σ 0 0 := CanI_0 (by (have huq := uq_rg (fitb σ 0 (-1)); omega))
        refine z_iconst C dX9_stage_33 ?_
        refine x_istore_n (lv' := [(2, .int (zI 0)), (1, .int (zI 0)), (0, .ref m)]) C dX9_stage_34 rfl (by decide) rfl ?_
        have L35 : ∀ (M9 : Nat) (μc : Mm) (k : Nat) (kz : Int) (hkz : kz = (k : Int)) (can : Int) (fok : Int) (hMA : MA G μc A σ) (hCi : AI G μc (A 26) 3027 12 Ci) (hSu : AI G μc (A 28) 3029 64 Su) (hO : OB μc m 3000 10 [.ref (A 0), .ref (A 1), .ref (A 2), .ref (A 3), .ref (A 4), .ref (A 5), .ref (A 6), .int (zI (σ 7 0)), .ref (A 8), .ref (A 9), .ref (A 10), .ref (A 11), .int (zI (σ 12 0)), .ref (A 13), .ref (A 14), .ref (A 15), .ref (A 16), .ref (A 17), .int (zI (σ 18 0)), .ref (A 19), .ref (A 20), .ref (A 21), .ref (A 22), .int (zI (σ 23 0)), .int (zI th), .int (zI fok), .ref (A 26), .int (zI cm), .ref (A 28)]) (hFr : Fr 3000 3999 μ μc) (hk : k ≤ hn σ 0) (hcan : CanI σ k can) (hM9 : hn σ 0 - k = M9), Wx E G 0 0 35 [(2, .int (zI kz)), (1, .int (zI can)), (0, .ref m)] [] μc := by
          intro M9
          induction M9 using Nat.strongRecOn with
          | ind M9 ih35 =>
            intro μc k kz hkz can fok hMA hCi hSu hO hFr hk hcan hM9
            subst hkz
            have hcr := hcan.rg
            refine x_iload_n C dX9_stage_35 rfl 0 rfl ?_
            refine x_aload_n C dX9_stage_36 rfl 2 rfl ?_
            refine x_get (ci := 10) (Cn := RX9) (T := TX9) (N := 29) (ref := "CairnCipherModel") C dX9_stage_37 in_X9 rfl hO 6 (by decide) (by decide +kernel) rfl rfl ?_
            refine z_iconst C dX9_stage_40 ?_
            refine z_iald (j := 0) C dX9_stage_41 (show AI G μc (A 6) 3007 7 (σ 6) from hMA.ai 6 rfl) (by omega) (by omega) (by decide) ?_
            have q_136 := hI.r6 0 (by omega)
            refine z_icmp_ge (tgt := 71) C dX9_stage_42 (by decide) (rg_of (by omega) (by omega)) (rg_of (by omega) (by omega)) (fun c_137 => ?_) (fun c_137 => ?_)
            · have hce := hcan.e (by omega)
              refine x_aload_n C dX9_stage_71 rfl 2 rfl ?_
              refine x_iload_n C dX9_stage_72 rfl 1 rfl ?_
              refine z_if_eq (tgt := 80) C dX9_stage_73 (by decide) (rg_of (by omega) (by omega)) (fun c_138 => ?_) (fun c_138 => ?_)
              · refine z_iconst C dX9_stage_80 ?_
                refine z_put (ci := 10) (Cn := RX9) (T := TX9) (N := 29) (ref := "CairnCipherModel") (fs' := [.ref (A 0), .ref (A 1), .ref (A 2), .ref (A 3), .ref (A 4), .ref (A 5), .ref (A 6), .int (zI (σ 7 0)), .ref (A 8), .ref (A 9), .ref (A 10), .ref (A 11), .int (zI (σ 12 0)), .ref (A 13), .ref (A 14), .ref (A 15), .ref (A 16), .ref (A 17), .int (zI (σ 18 0)), .ref (A 19), .ref (A 20), .ref (A 21), .ref (A 22), .int (zI (σ 23 0)), .int (zI 1), .int (zI fok), .ref (A 26), .int (zI cm), .ref (A 28)]) C dX9_stage_81 in_X9 rfl tyX9 tyX9_ok nmX9 hO 24 (by decide) (by decide +kernel) rfl rfl rfl rfl rfl (Nat.le_of_ble_eq_true rfl) rfl (fun μ139 hOw hF140 => ?_)
                have hMA : MA G μ139 A σ := hF140.ma hMA
                have hCi := hF140.ai hCi
                have hSu := hF140.ai hSu
                have hFr : Fr 3000 3999 μ μ139 := hFr.tr hF140
                have hO := hOw
                refine x_aload_n C dX9_stage_84 rfl 2 rfl ?_
                refine x_get (ci := 10) (Cn := RX9) (T := TX9) (N := 29) (ref := "CairnCipherModel") C dX9_stage_85 in_X9 rfl hO 24 (by decide) (by decide +kernel) rfl rfl ?_
                refine z_if_le (tgt := 93) C dX9_stage_88 (by decide) (rg_of (by omega) (by omega)) (fun c_141 => ?_) (fun c_141 => ?_)
                · exfalso; omega
                · refine z_iconst C dX9_stage_91 ?_
                  exact x_iret C R dX9_stage_92 (Nat.le_of_ble_eq_true rfl) (Nat.le_of_ble_eq_true rfl) (⟨_, rfl, ⟨Or.inr ⟨by omega, by (rw [show t_stage σ = 1 by omega]; exact ⟨_, _, _, _, _, hO, hMA, hCi, hSu⟩)⟩, hFr⟩⟩)
              · refine z_iconst C dX9_stage_76 ?_
                refine x_goto (tgt := 81) C dX9_stage_77 (by decide) ?_
                refine z_put (ci := 10) (Cn := RX9) (T := TX9) (N := 29) (ref := "CairnCipherModel") (fs' := [.ref (A 0), .ref (A 1), .ref (A 2), .ref (A 3), .ref (A 4), .ref (A 5), .ref (A 6), .int (zI (σ 7 0)), .ref (A 8), .ref (A 9), .ref (A 10), .ref (A 11), .int (zI (σ 12 0)), .ref (A 13), .ref (A 14), .ref (A 15), .ref (A 16), .ref (A 17), .int (zI (σ 18 0)), .ref (A 19), .ref (A 20), .ref (A 21), .ref (A 22), .int (zI (σ 23 0)), .int (zI 0), .int (zI fok), .ref (A 26), .int (zI cm), .ref (A 28)]) C dX9_stage_81 in_X9 rfl tyX9 tyX9_ok nmX9 hO 24 (by decide) (by decide +kernel) rfl rfl rfl rfl rfl (Nat.le_of_ble_eq_true rfl) rfl (fun μ142 hOw hF143 => ?_)
                have hMA : MA G μ142 A σ := hF143.ma hMA
                have hCi := hF143.ai hCi
                have hSu := hF143.ai hSu
                have hFr : Fr 3000 3999 μ μ142 := hFr.tr hF143
                have hO := hOw
                refine x_aload_n C dX9_stage_84 rfl 2 rfl ?_
                refine x_get (ci := 10) (Cn := RX9) (T := TX9) (N := 29) (ref := "CairnCipherModel") C dX9_stage_85 in_X9 rfl hO 24 (by decide) (by decide +kernel) rfl rfl ?_
                refine z_if_le (tgt := 93) C dX9_stage_88 (by decide) (rg_of (by omega) (by omega)) (fun c_144 => ?_) (fun c_144 => ?_)
                · refine x_aload_n C dX9_stage_93 rfl 2 rfl ?_
                  refine x_get (ci := 10) (Cn := RX9) (T := TX9) (N := 29) (ref := "CairnCipherModel") C dX9_stage_94 in_X9 rfl hO 7 (by decide) (by decide +kernel) rfl rfl ?_
                  refine z_iconst C dX9_stage_97 ?_
                  refine z_iadd C dX9_stage_98 rfl ?_
                  refine x_istore_n (lv' := [(2, .int (zI ((σ 7 0) + 1))), (1, .int (zI can)), (0, .ref m)]) C dX9_stage_99 rfl (by decide) rfl ?_
                  refine x_aload_n C dX9_stage_100 rfl 2 rfl ?_
                  refine x_get (ci := 10) (Cn := RX9) (T := TX9) (N := 29) (ref := "CairnCipherModel") C dX9_stage_101 in_X9 rfl hO 6 (by decide) (by decide +kernel) rfl rfl ?_
                  refine x_iload_n C dX9_stage_104 rfl 0 rfl ?_
                  refine x_aload_n C dX9_stage_105 rfl 2 rfl ?_
                  refine x_get (ci := 10) (Cn := RX9) (T := TX9) (N := 29) (ref := "CairnCipherModel") C dX9_stage_106 in_X9 rfl hO 6 (by decide) (by decide +kernel) rfl rfl ?_
                  refine z_iconst C dX9_stage_109 ?_
                  refine z_iald (j := 0) C dX9_stage_110 (show AI G μ142 (A 6) 3007 7 (σ 6) from hMA.ai 6 rfl) (by omega) (by omega) (by decide) ?_
                  have q_145 := hI.r6 0 (by omega)
                  refine z_iast (j := ((σ 7 0) + 1).toNat) C dX9_stage_111 (show AI G μ142 (A 6) 3007 7 (σ 6) from hMA.ai 6 rfl) (by omega) (by omega) (by decide) (fun μ146 hq148 hF147 => ?_)
                  have hMAn : MA G μ146 A (su σ 6 (wr (σ 6) (((σ 7 0) + 1).toNat) ((σ 6) 0))) := hMA.up (k := 6) rfl hq148 hF147
                  have hCi := hF147.ai hCi
                  have hSu := hF147.ai hSu
                  have hO := hF147.ob hO
                  have hFr : Fr 3000 3999 μ μ146 := hFr.tr hF147
                  have hMA := hMAn
                  refine x_aload_n C dX9_stage_112 rfl 2 rfl ?_
                  refine x_get (ci := 10) (Cn := RX9) (T := TX9) (N := 29) (ref := "CairnCipherModel") C dX9_stage_113 in_X9 rfl hO 11 (by decide) (by decide +kernel) rfl rfl ?_
                  refine x_iload_n C dX9_stage_116 rfl 0 rfl ?_
                  refine x_aload_n C dX9_stage_117 rfl 2 rfl ?_
                  refine x_get (ci := 10) (Cn := RX9) (T := TX9) (N := 29) (ref := "CairnCipherModel") C dX9_stage_118 in_X9 rfl hO 11 (by decide) (by decide +kernel) rfl rfl ?_
                  refine z_iconst C dX9_stage_121 ?_
                  refine z_iald (j := 0) C dX9_stage_122 (show AI G μ146 (A 11) 3012 7 (σ 11) from hMA.ai 11 rfl) (by omega) (by omega) (by decide) ?_
                  have q_149 := hI.r11 0 (by omega)
                  refine z_iast (j := ((σ 7 0) + 1).toNat) C dX9_stage_123 (show AI G μ146 (A 11) 3012 7 (σ 11) from hMA.ai 11 rfl) (by omega) (by omega) (by decide) (fun μ150 hq152 hF151 => ?_)
                  have hMAn : MA G μ150 A (su (su σ 6 (wr (σ 6) (((σ 7 0) + 1).toNat) ((σ 6) 0))) 11 (wr (σ 11) (((σ 7 0) + 1).toNat) ((σ 11) 0))) := hMA.up (k := 11) rfl hq152 hF151
                  have hCi := hF151.ai hCi
                  have hSu := hF151.ai hSu
                  have hO := hF151.ob hO
                  have hFr : Fr 3000 3999 μ μ150 := hFr.tr hF151
                  have hMA := hMAn
                  refine z_iconst C dX9_stage_124 ?_
                  refine x_istore_n (lv' := [(3, .int (zI 0)), (2, .int (zI ((σ 7 0) + 1))), (1, .int (zI can)), (0, .ref m)]) C dX9_stage_125 rfl (by decide) rfl ?_
                  have L126 : ∀ (M9 : Nat) (μj : Mm) (k : Nat) (kz : Int) (hkz : kz = (k : Int)) (hMA : MA G μj A (stK σ ((σ 7 0).toNat + 1) k)) (hCi : AI G μj (A 26) 3027 12 Ci) (hSu : AI G μj (A 28) 3029 64 Su) (hO : OB μj m 3000 10 [.ref (A 0), .ref (A 1), .ref (A 2), .ref (A 3), .ref (A 4), .ref (A 5), .ref (A 6), .int (zI (σ 7 0)), .ref (A 8), .ref (A 9), .ref (A 10), .ref (A 11), .int (zI (σ 12 0)), .ref (A 13), .ref (A 14), .ref (A 15), .ref (A 16), .ref (A 17), .int (zI (σ 18 0)), .ref (A 19), .ref (A 20), .ref (A 21), .ref (A 22), .int (zI (σ 23 0)), .int (zI 0), .int (zI fok), .ref (A 26), .int (zI cm), .ref (A 28)]) (hFr : Fr 3000 3999 μ μj) (hk : k ≤ 5) (hM9 : 5 - k = M9), Wx E G 0 0 126 [(3, .int (zI kz)), (2, .int (zI ((σ 7 0) + 1))), (1, .int (zI can)), (0, .ref m)] [] μj := by
                    intro M9
                    induction M9 using Nat.strongRecOn with
                    | ind M9 ih126 =>
                      intro μj k kz hkz hMA hCi hSu hO hFr hk hM9
                      subst hkz
                      have hIk := Iv_stK (r := ((σ 7 0).toNat + 1)) (k := k) hI (by omega) hk
                      have hk5 : ∀ j, j < 35 → 0 ≤ cpk (σ 5) ((σ 7 0).toNat + 1) k j ∧ cpk (σ 5) ((σ 7 0).toNat + 1) k j ≤ 1 := hIk.r5
                      refine x_iload_n C dX9_stage_126 rfl 0 rfl ?_
                      refine z_iconst C dX9_stage_127 ?_
                      refine z_icmp_ge (tgt := 217) C dX9_stage_128 (by decide) (rg_of (by omega) (by omega)) (rg_of (by omega) (by omega)) (fun c_153 => ?_) (fun c_153 => ?_)
                      · refine x_aload_n C dX9_stage_217 rfl 3 rfl ?_
                        refine x_get (ci := 10) (Cn := RX9) (T := TX9) (N := 29) (ref := "CairnCipherModel") C dX9_stage_218 in_X9 rfl hO 8 (by decide) (by decide +kernel) rfl rfl ?_
                        refine x_aload_n C dX9_stage_221 rfl 3 rfl ?_
                        refine x_get (ci := 10) (Cn := RX9) (T := TX9) (N := 29) (ref := "CairnCipherModel") C dX9_stage_222 in_X9 rfl hO 7 (by decide) (by decide +kernel) rfl rfl ?_
                        refine x_aload_n C dX9_stage_225 rfl 3 rfl ?_
                        refine x_iload_n C dX9_stage_226 rfl 1 rfl ?_
                        have hI5 := Iv_stK (r := ((σ 7 0).toNat + 1)) (k := 5) hI (by omega) (by omega)
                        have hMA : MA G μj A (stK σ ((σ 7 0).toNat + 1) 5) := by (rw [← show k = 5 by omega]; exact hMA)
                        have hl0 : ∀ j, j < 1 → (wr (σ 6) ((σ 7 0).toNat + 1) (σ 6 0)) j = σ 6 0 := fun j hj => by (obtain rfl : j = 0 := (by omega); exact wr_ne (by omega))
                        refine x_callV (n := 1) (ci := 10) (Cn := RX9) (T := TX9) (N := 29) (cc9 := 0) (ss9 := 0) (rest := [.int (zI (σ 7 0)), .ref (A 8)]) C dX9_stage_227 (c_X9_fixed (kxL E) C.st G z μj _ (stK σ ((σ 7 0).toNat + 1) 5) _ _ _ _ _ _ _ ((σ 7 0) + 1) ⟨hO, hMA, hCi, hSu⟩ hI5 (by omega)) gX9_stage_X9_fixed rfl (by decide +kernel) ⟨(Nat.le_of_ble_eq_true rfl), (Nat.le_of_ble_eq_true rfl)⟩ rfl ⟨_, _, hO⟩ rfl rfl (Nat.le_of_ble_eq_true rfl) rfl rfl ⟨(Nat.le_of_ble_eq_true rfl), (Nat.le_of_ble_eq_true rfl)⟩ nX_no (fun v155 μ156 hv157 => ?_)
                        obtain ⟨r158, hw161, h159⟩ := hv157
                        subst hw161
                        obtain ⟨⟨hr9, fo154, hO⟩, hF9⟩ := h159
                        have hF162 := hF9
                        have hMA : MA G μ156 A (stK σ ((σ 7 0).toNat + 1) 5) := hF162.ma hMA
                        have hCi := hF162.ai hCi
                        have hSu := hF162.ai hSu
                        have hFr : Fr 3000 3999 μ μ156 := hFr.tr hF162
                        rw [er1, stK_uq hI (by omega)] at hr9
                        refine x_stk (stk' := [.int (zI r158), .int (zI (σ 7 0)), .ref (A 8)]) rfl ?_
                        refine z_iast (j := (σ 7 0).toNat) C dX9_stage_230 (show AI G μ156 (A 8) 3009 6 (σ 8) from hMA.ai 8 rfl) (by omega) (by omega) (by decide) (fun μ163 hq165 hF164 => ?_)
                        have hMAn : MA G μ163 A (su (stK σ ((σ 7 0).toNat + 1) 5) 8 (wr (σ 8) ((σ 7 0).toNat) r158)) := hMA.up (k := 8) rfl hq165 hF164
                        have hCi := hF164.ai hCi
                        have hSu := hF164.ai hSu
                        have hO := hF164.ob hO
                        have hFr : Fr 3000 3999 μ μ163 := hFr.tr hF164
                        have hMA := hMAn
                        refine x_aload_n C dX9_stage_231 rfl 3 rfl ?_
                        refine x_dup C dX9_stage_232 rfl ?_
                        refine x_get (ci := 10) (Cn := RX9) (T := TX9) (N := 29) (ref := "CairnCipherModel") C dX9_stage_233 in_X9 rfl hO 7 (by decide) (by decide +kernel) rfl rfl ?_
                        refine z_iconst C dX9_stage_236 ?_
                        refine z_iadd C dX9_stage_237 rfl ?_
                        refine z_put (ci := 10) (Cn := RX9) (T := TX9) (N := 29) (ref := "CairnCipherModel") (fs' := [.ref (A 0), .ref (A 1), .ref (A 2), .ref (A 3), .ref (A 4), .ref (A 5), .ref (A 6), .int (zI ((σ 7 0) + 1)), .ref (A 8), .ref (A 9), .ref (A 10), .ref (A 11), .int (zI (σ 12 0)), .ref (A 13), .ref (A 14), .ref (A 15), .ref (A 16), .ref (A 17), .int (zI (σ 18 0)), .ref (A 19), .ref (A 20), .ref (A 21), .ref (A 22), .int (zI (σ 23 0)), .int (zI 0), .int (zI fo154), .ref (A 26), .int (zI cm), .ref (A 28)]) C dX9_stage_238 in_X9 rfl tyX9 tyX9_ok nmX9 hO 7 (by decide) (by decide +kernel) rfl rfl rfl rfl rfl (Nat.le_of_ble_eq_true rfl) rfl (fun μ166 hOw hF167 => ?_)
                        have hMA : MA G μ166 A (su (stK σ ((σ 7 0).toNat + 1) 5) 8 (wr (σ 8) ((σ 7 0).toNat) r158)) := hF167.ma hMA
                        have hCi := hF167.ai hCi
                        have hSu := hF167.ai hSu
                        have hFr : Fr 3000 3999 μ μ166 := hFr.tr hF167
                        have hO := hOw
                        refine x_aload_n C dX9_stage_241 rfl 3 rfl ?_
                        refine x_get (ci := 10) (Cn := RX9) (T := TX9) (N := 29) (ref := "CairnCipherModel") C dX9_stage_242 in_X9 rfl hO 6 (by decide) (by decide +kernel) rfl rfl ?_
                        refine z_iconst C dX9_stage_245 ?_
                        refine z_iconst C dX9_stage_246 ?_
                        refine z_iast (j := 0) C dX9_stage_247 (show AI G μ166 (A 6) 3007 7 (wr (σ 6) ((σ 7 0).toNat + 1) (σ 6 0)) from hMA.ai 6 rfl) (by omega) (by omega) (by decide) (fun μ168 hq170 hF169 => ?_)
                        have hMAn : MA G μ168 A (su (su (stK σ ((σ 7 0).toNat + 1) 5) 8 (wr (σ 8) ((σ 7 0).toNat) r158)) 6 (wr (wr (σ 6) ((σ 7 0).toNat + 1) (σ 6 0)) 0 0)) := hMA.up (k := 6) rfl hq170 hF169
                        have hCi := hF169.ai hCi
                        have hSu := hF169.ai hSu
                        have hO := hF169.ob hO
                        have hFr : Fr 3000 3999 μ μ168 := hFr.tr hF169
                        have hMA := hMAn
                        refine x_aload_n C dX9_stage_248 rfl 3 rfl ?_
                        refine x_get (ci := 10) (Cn := RX9) (T := TX9) (N := 29) (ref := "CairnCipherModel") C dX9_stage_249 in_X9 rfl hO 7 (by decide) (by decide +kernel) rfl rfl ?_
                        refine z_iconst C dX9_stage_252 ?_
                        refine z_isub C dX9_stage_253 rfl ?_
                        exact x_iret C R dX9_stage_254 (Nat.le_of_ble_eq_true rfl) (Nat.le_of_ble_eq_true rfl) (⟨_, rfl, ⟨Or.inl ⟨by omega, by omega, ⟨_, _, _, _, _, hO, (by (rw [hr9] at hMA; rw [← stK_n rfl rfl]; exact MA.sc (k := 7) hMA (by decide))), hCi, hSu⟩⟩, hFr⟩⟩)
                      · refine x_aload_n C dX9_stage_131 rfl 3 rfl ?_
                        refine x_get (ci := 10) (Cn := RX9) (T := TX9) (N := 29) (ref := "CairnCipherModel") C dX9_stage_132 in_X9 rfl hO 2 (by decide) (by decide +kernel) rfl rfl ?_
                        refine z_iconst C dX9_stage_135 ?_
                        refine x_iload_n C dX9_stage_136 rfl 1 rfl ?_
                        refine z_imul C dX9_stage_137 rfl ?_
                        refine x_iload_n C dX9_stage_138 rfl 0 rfl ?_
                        refine z_iadd C dX9_stage_139 rfl ?_
                        refine x_aload_n C dX9_stage_140 rfl 3 rfl ?_
                        refine x_get (ci := 10) (Cn := RX9) (T := TX9) (N := 29) (ref := "CairnCipherModel") C dX9_stage_141 in_X9 rfl hO 2 (by decide) (by decide +kernel) rfl rfl ?_
                        refine x_iload_n C dX9_stage_144 rfl 0 rfl ?_
                        refine z_iald (j := k) C dX9_stage_145 (show AI G μj (A 2) 3003 35 (cpk (σ 2) ((σ 7 0).toNat + 1) k) from hMA.ai 2 rfl) (by omega) (by omega) (by decide) ?_
                        refine z_iast (j := ((5 * ((σ 7 0) + 1)) + (k : Int)).toNat) C dX9_stage_146 (show AI G μj (A 2) 3003 35 (cpk (σ 2) ((σ 7 0).toNat + 1) k) from hMA.ai 2 rfl) (by omega) (by omega) (by decide) (fun μ171 hq173 hF172 => ?_)
                        have hMAn : MA G μ171 A (su (stK σ ((σ 7 0).toNat + 1) k) 2 (wr (cpk (σ 2) ((σ 7 0).toNat + 1) k) (((5 * ((σ 7 0) + 1)) + (k : Int)).toNat) ((cpk (σ 2) ((σ 7 0).toNat + 1) k) k))) := hMA.up (k := 2) rfl hq173 hF172
                        have hCi := hF172.ai hCi
                        have hSu := hF172.ai hSu
                        have hO := hF172.ob hO
                        have hFr : Fr 3000 3999 μ μ171 := hFr.tr hF172
                        have hMA := hMAn
                        refine x_aload_n C dX9_stage_147 rfl 3 rfl ?_
                        refine x_get (ci := 10) (Cn := RX9) (T := TX9) (N := 29) (ref := "CairnCipherModel") C dX9_stage_148 in_X9 rfl hO 3 (by decide) (by decide +kernel) rfl rfl ?_
                        refine z_iconst C dX9_stage_151 ?_
                        refine x_iload_n C dX9_stage_152 rfl 1 rfl ?_
                        refine z_imul C dX9_stage_153 rfl ?_
                        refine x_iload_n C dX9_stage_154 rfl 0 rfl ?_
                        refine z_iadd C dX9_stage_155 rfl ?_
                        refine x_aload_n C dX9_stage_156 rfl 3 rfl ?_
                        refine x_get (ci := 10) (Cn := RX9) (T := TX9) (N := 29) (ref := "CairnCipherModel") C dX9_stage_157 in_X9 rfl hO 3 (by decide) (by decide +kernel) rfl rfl ?_
                        refine x_iload_n C dX9_stage_160 rfl 0 rfl ?_
                        refine z_iald (j := k) C dX9_stage_161 (show AI G μ171 (A 3) 3004 35 (cpk (σ 3) ((σ 7 0).toNat + 1) k) from hMA.ai 3 rfl) (by omega) (by omega) (by decide) ?_
                        refine z_iast (j := ((5 * ((σ 7 0) + 1)) + (k : Int)).toNat) C dX9_stage_162 (show AI G μ171 (A 3) 3004 35 (cpk (σ 3) ((σ 7 0).toNat + 1) k) from hMA.ai 3 rfl) (by omega) (by omega) (by decide) (fun μ174 hq176 hF175 => ?_)
                        have hMAn : MA G μ174 A (su (su (stK σ ((σ 7 0).toNat + 1) k) 2 (wr (cpk (σ 2) ((σ 7 0).toNat + 1) k) (((5 * ((σ 7 0) + 1)) + (k : Int)).toNat) ((cpk (σ 2) ((σ 7 0).toNat + 1) k) k))) 3 (wr (cpk (σ 3) ((σ 7 0).toNat + 1) k) (((5 * ((σ 7 0) + 1)) + (k : Int)).toNat) ((cpk (σ 3) ((σ 7 0).toNat + 1) k) k))) := hMA.up (k := 3) rfl hq176 hF175
                        have hCi := hF175.ai hCi
                        have hSu := hF175.ai hSu
                        have hO := hF175.ob hO
                        have hFr : Fr 3000 3999 μ μ174 := hFr.tr hF175
                        have hMA := hMAn
                        refine x_aload_n C dX9_stage_163 rfl 3 rfl ?_
                        refine x_get (ci := 10) (Cn := RX9) (T := TX9) (N := 29) (ref := "CairnCipherModel") C dX9_stage_164 in_X9 rfl hO 4 (by decide) (by decide +kernel) rfl rfl ?_
                        refine z_iconst C dX9_stage_167 ?_
                        refine x_iload_n C dX9_stage_168 rfl 1 rfl ?_
                        refine z_imul C dX9_stage_169 rfl ?_
                        refine x_iload_n C dX9_stage_170 rfl 0 rfl ?_
                        refine z_iadd C dX9_stage_171 rfl ?_
                        refine x_aload_n C dX9_stage_172 rfl 3 rfl ?_
                        refine x_get (ci := 10) (Cn := RX9) (T := TX9) (N := 29) (ref := "CairnCipherModel") C dX9_stage_173 in_X9 rfl hO 4 (by decide) (by decide +kernel) rfl rfl ?_
                        refine x_iload_n C dX9_stage_176 rfl 0 rfl ?_
                        refine z_iald (j := k) C dX9_stage_177 (show AI G μ174 (A 4) 3005 35 (cpk (σ 4) ((σ 7 0).toNat + 1) k) from hMA.ai 4 rfl) (by omega) (by omega) (by decide) ?_
                        refine z_iast (j := ((5 * ((σ 7 0) + 1)) + (k : Int)).toNat) C dX9_stage_178 (show AI G μ174 (A 4) 3005 35 (cpk (σ 4) ((σ 7 0).toNat + 1) k) from hMA.ai 4 rfl) (by omega) (by omega) (by decide) (fun μ177 hq179 hF178 => ?_)
                        have hMAn : MA G μ177 A (su (su (su (stK σ ((σ 7 0).toNat + 1) k) 2 (wr (cpk (σ 2) ((σ 7 0).toNat + 1) k) (((5 * ((σ 7 0) + 1)) + (k : Int)).toNat) ((cpk (σ 2) ((σ 7 0).toNat + 1) k) k))) 3 (wr (cpk (σ 3) ((σ 7 0).toNat + 1) k) (((5 * ((σ 7 0) + 1)) + (k : Int)).toNat) ((cpk (σ 3) ((σ 7 0).toNat + 1) k) k))) 4 (wr (cpk (σ 4) ((σ 7 0).toNat + 1) k) (((5 * ((σ 7 0) + 1)) + (k : Int)).toNat) ((cpk (σ 4) ((σ 7 0).toNat + 1) k) k))) := hMA.up (k := 4) rfl hq179 hF178
                        have hCi := hF178.ai hCi
                        have hSu := hF178.ai hSu
                        have hO := hF178.ob hO
                        have hFr : Fr 3000 3999 μ μ177 := hFr.tr hF178
                        have hMA := hMAn
                        refine x_aload_n C dX9_stage_179 rfl 3 rfl ?_
                        refine x_get (ci := 10) (Cn := RX9) (T := TX9) (N := 29) (ref := "CairnCipherModel") C dX9_stage_180 in_X9 rfl hO 5 (by decide) (by decide +kernel) rfl rfl ?_
                        refine z_iconst C dX9_stage_183 ?_
                        refine x_iload_n C dX9_stage_184 rfl 1 rfl ?_
                        refine z_imul C dX9_stage_185 rfl ?_
                        refine x_iload_n C dX9_stage_186 rfl 0 rfl ?_
                        refine z_iadd C dX9_stage_187 rfl ?_
                        refine x_aload_n C dX9_stage_188 rfl 3 rfl ?_
                        refine x_get (ci := 10) (Cn := RX9) (T := TX9) (N := 29) (ref := "CairnCipherModel") C dX9_stage_189 in_X9 rfl hO 5 (by decide) (by decide +kernel) rfl rfl ?_
                        refine x_iload_n C dX9_stage_192 rfl 0 rfl ?_
                        refine z_zald (j := k) C dX9_stage_193 (show AZ G μ177 (A 5) 3006 35 (cpk (σ 5) ((σ 7 0).toNat + 1) k) from hMA.az 5 rfl) (by omega) (by omega) (by decide) ?_
                        have q_180 := hk5 k (by omega)
                        refine z_zast (j := ((5 * ((σ 7 0) + 1)) + (k : Int)).toNat) C dX9_stage_194 (show AZ G μ177 (A 5) 3006 35 (cpk (σ 5) ((σ 7 0).toNat + 1) k) from hMA.az 5 rfl) (by omega) (by omega) (by decide) (by omega) (fun μ181 hq183 hF182 => ?_)
                        have hMAn : MA G μ181 A (su (su (su (su (stK σ ((σ 7 0).toNat + 1) k) 2 (wr (cpk (σ 2) ((σ 7 0).toNat + 1) k) (((5 * ((σ 7 0) + 1)) + (k : Int)).toNat) ((cpk (σ 2) ((σ 7 0).toNat + 1) k) k))) 3 (wr (cpk (σ 3) ((σ 7 0).toNat + 1) k) (((5 * ((σ 7 0) + 1)) + (k : Int)).toNat) ((cpk (σ 3) ((σ 7 0).toNat + 1) k) k))) 4 (wr (cpk (σ 4) ((σ 7 0).toNat + 1) k) (((5 * ((σ 7 0) + 1)) + (k : Int)).toNat) ((cpk (σ 4) ((σ 7 0).toNat + 1) k) k))) 5 (wr (cpk (σ 5) ((σ 7 0).toNat + 1) k) (((5 * ((σ 7 0) + 1)) + (k : Int)).toNat) ((cpk (σ 5) ((σ 7 0).toNat + 1) k) k))) := hMA.upz (k := 5) rfl hq183 hF182
                        have hCi := hF182.ai hCi
                        have hSu := hF182.ai hSu
                        have hO := hF182.ob hO
                        have hFr : Fr 3000 3999 μ μ181 := hFr.tr hF182
                        have hMA := hMAn
                        refine x_aload_n C dX9_stage_195 rfl 3 rfl ?_
                        refine x_get (ci := 10) (Cn := RX9) (T := TX9) (N := 29) (ref := "CairnCipherModel") C dX9_stage_196 in_X9 rfl hO 10 (by decide) (by decide +kernel) rfl rfl ?_
                        refine z_iconst C dX9_stage_199 ?_
                        refine x_iload_n C dX9_stage_200 rfl 1 rfl ?_
                        refine z_imul C dX9_stage_201 rfl ?_
                        refine x_iload_n C dX9_stage_202 rfl 0 rfl ?_
                        refine z_iadd C dX9_stage_203 rfl ?_
                        refine x_aload_n C dX9_stage_204 rfl 3 rfl ?_
                        refine x_get (ci := 10) (Cn := RX9) (T := TX9) (N := 29) (ref := "CairnCipherModel") C dX9_stage_205 in_X9 rfl hO 10 (by decide) (by decide +kernel) rfl rfl ?_
                        refine x_iload_n C dX9_stage_208 rfl 0 rfl ?_
                        refine z_iald (j := k) C dX9_stage_209 (show AI G μ181 (A 10) 3011 35 (cpk (σ 10) ((σ 7 0).toNat + 1) k) from hMA.ai 10 rfl) (by omega) (by omega) (by decide) ?_
                        refine z_iast (j := ((5 * ((σ 7 0) + 1)) + (k : Int)).toNat) C dX9_stage_210 (show AI G μ181 (A 10) 3011 35 (cpk (σ 10) ((σ 7 0).toNat + 1) k) from hMA.ai 10 rfl) (by omega) (by omega) (by decide) (fun μ184 hq186 hF185 => ?_)
                        have hMAn : MA G μ184 A (su (su (su (su (su (stK σ ((σ 7 0).toNat + 1) k) 2 (wr (cpk (σ 2) ((σ 7 0).toNat + 1) k) (((5 * ((σ 7 0) + 1)) + (k : Int)).toNat) ((cpk (σ 2) ((σ 7 0).toNat + 1) k) k))) 3 (wr (cpk (σ 3) ((σ 7 0).toNat + 1) k) (((5 * ((σ 7 0) + 1)) + (k : Int)).toNat) ((cpk (σ 3) ((σ 7 0).toNat + 1) k) k))) 4 (wr (cpk (σ 4) ((σ 7 0).toNat + 1) k) (((5 * ((σ 7 0) + 1)) + (k : Int)).toNat) ((cpk (σ 4) ((σ 7 0).toNat + 1) k) k))) 5 (wr (cpk (σ 5) ((σ 7 0).toNat + 1) k) (((5 * ((σ 7 0) + 1)) + (k : Int)).toNat) ((cpk (σ 5) ((σ 7 0).toNat + 1) k) k))) 10 (wr (cpk (σ 10) ((σ 7 0).toNat + 1) k) (((5 * ((σ 7 0) + 1)) + (k : Int)).toNat) ((cpk (σ 10) ((σ 7 0).toNat + 1) k) k))) := hMA.up (k := 10) rfl hq186 hF185
                        have hCi := hF185.ai hCi
                        have hSu := hF185.ai hSu
                        have hO := hF185.ob hO
                        have hFr : Fr 3000 3999 μ μ184 := hFr.tr hF185
                        have hMA := hMAn
                        refine z_iinc (lv' := [(3, .int (zI ((k : Int) + 1))), (2, .int (zI ((σ 7 0) + 1))), (1, .int (zI can)), (0, .ref m)]) C dX9_stage_211 0 rfl rfl (by decide) rfl ?_
                        refine x_goto (tgt := 126) C dX9_stage_214 (by decide) ?_
                        have ei : ((5 * ((σ 7 0) + 1)) + (k : Int)).toNat = 5 * ((σ 7 0).toNat + 1) + k := by omega
                        rw [ei] at hMA
                        have hMA : MA G μ184 A (stK σ ((σ 7 0).toNat + 1) (k + 1)) := by (rw [← stK_s (σ := σ) (k := k) (cpk_s (by omega) (by omega)) (cpk_s (by omega) (by omega)) (cpk_s (by omega) (by omega)) (cpk_s (by omega) (by omega)) (cpk_s (by omega) (by omega))]; exact hMA)
                        exact ih126 _ (by omega) _ (k + 1) _ (by omega) hMA hCi hSu hO hFr (by omega) rfl
                  have hMA : MA G μ150 A (stK σ ((σ 7 0).toNat + 1) 0) := by (rw [stK_0, ← er1]; exact hMA)
                  exact L126 _ _ (0) _ (by omega) hMA hCi hSu hO hFr (by omega) rfl
                · exfalso; omega
            · refine x_iload_n C dX9_stage_45 rfl 1 rfl ?_
              refine z_if_eq (tgt := 63) C dX9_stage_46 (by decide) (rg_of (by omega) (by omega)) (fun c_187 => ?_) (fun c_187 => ?_)
              · refine z_iconst C dX9_stage_63 ?_
                refine x_istore_n (lv' := [(1, .int (zI 0)), (2, .int (zI (k : Int))), (0, .ref m)]) C dX9_stage_64 rfl (by decide) rfl ?_
                refine z_iinc (lv' := [(2, .int (zI ((k : Int) + 1))), (1, .int (zI 0)), (0, .ref m)]) C dX9_stage_65 1 rfl rfl (by decide) rfl ?_
                refine x_goto (tgt := 35) C dX9_stage_68 (by decide) ?_
                exact ih35 _ (by omega) _ (k + 1) _ (by omega) _ _ hMA hCi hSu hO hFr (by omega) (by first | exact CanI_y hcan (by omega) (by omega) | exact CanI_n hcan (by omega) (by omega)) rfl
              · refine x_aload_n C dX9_stage_49 rfl 2 rfl ?_
                refine z_iconst C dX9_stage_50 ?_
                refine x_iload_n C dX9_stage_51 rfl 0 rfl ?_
                refine x_callV (n := 2) (ci := 10) (Cn := RX9) (T := TX9) (N := 29) (cc9 := 0) (ss9 := 0) (rest := []) C dX9_stage_52 (c_X9_fitting (kxL E) C.st G z μc _ σ _ _ _ _ _ _ _ 0 (k : Int) ⟨hO, hMA, hCi, hSu⟩ hI (by omega) (by omega)) gX9_stage_X9_fitting rfl (by decide +kernel) ⟨(Nat.le_of_ble_eq_true rfl), (Nat.le_of_ble_eq_true rfl)⟩ rfl ⟨_, _, hO⟩ rfl rfl (Nat.le_of_ble_eq_true rfl) rfl rfl ⟨(Nat.le_of_ble_eq_true rfl), (Nat.le_of_ble_eq_true rfl)⟩ nX_no (fun v188 μ189 hv190 => ?_)
                obtain ⟨r191, hw194, h192⟩ := hv190
                subst hw194
                obtain ⟨⟨hr9, hO⟩, hF9⟩ := h192
                have hF195 := hF9
                have hMA : MA G μ189 A σ := hF195.ma hMA
                have hCi := hF195.ai hCi
                have hSu := hF195.ai hSu
                have hFr : Fr 3000 3999 μ μ189 := hFr.tr hF195
                have hcb := ctb_rg (fitb σ 0 (k : Int)) 64
                change _ = ctb (fitb σ 0 (k : Int)) 64 at hr9
                refine x_stk (stk' := [.int (zI r191)]) rfl ?_
                refine z_iconst C dX9_stage_55 ?_
                refine z_icmp_eq (tgt := 63) C dX9_stage_56 (by decide) (rg_of (by omega) (by omega)) (rg_of (by omega) (by omega)) (fun c_196 => ?_) (fun c_196 => ?_)
                · refine z_iconst C dX9_stage_63 ?_
                  refine x_istore_n (lv' := [(1, .int (zI 0)), (2, .int (zI (k : Int))), (0, .ref m)]) C dX9_stage_64 rfl (by decide) rfl ?_
                  refine z_iinc (lv' := [(2, .int (zI ((k : Int) + 1))), (1, .int (zI 0)), (0, .ref m)]) C dX9_stage_65 1 rfl rfl (by decide) rfl ?_
                  refine x_goto (tgt := 35) C dX9_stage_68 (by decide) ?_
                  exact ih35 _ (by omega) _ (k + 1) _ (by omega) _ _ hMA hCi hSu hO hFr (by omega) (by first | exact CanI_y hcan (by omega) (by omega) | exact CanI_n hcan (by omega) (by omega)) rfl
                · refine z_iconst C dX9_stage_59 ?_
                  refine x_goto (tgt := 64) C dX9_stage_60 (by decide) ?_
                  refine x_istore_n (lv' := [(1, .int (zI 1)), (2, .int (zI (k : Int))), (0, .ref m)]) C dX9_stage_64 rfl (by decide) rfl ?_
                  refine z_iinc (lv' := [(2, .int (zI ((k : Int) + 1))), (1, .int (zI 1)), (0, .ref m)]) C dX9_stage_65 1 rfl rfl (by decide) rfl ?_
                  refine x_goto (tgt := 35) C dX9_stage_68 (by decide) ?_
                  exact ih35 _ (by omega) _ (k + 1) _ (by omega) _ _ hMA hCi hSu hO hFr (by omega) (by first | exact CanI_y hcan (by omega) (by omega) | exact CanI_n hcan (by omega) (by omega)) rfl
        exact L35 _ _ (0) _ (by omega) _ _ hMA hCi hSu hO hFr (by omega) hcan0 rfl
      · refine z_iconst C dX9_stage_27 ?_
        refine x_goto (tgt := 32) C dX9_stage_28 (by decide) ?_
        refine x_istore_n (lv' := [(1, .int (zI 1)), (0, .ref m)]) C dX9_stage_32 rfl (by decide) rfl ?_
        have hcan0 : CanI σ 0 1 := CanI_0 (by (have huq := uq_rg (fitb σ 0 (-1)); omega))
        refine z_iconst C dX9_stage_33 ?_
        refine x_istore_n (lv' := [(2, .int (zI 0)), (1, .int (zI 1)), (0, .ref m)]) C dX9_stage_34 rfl (by decide) rfl ?_
        have L35 : ∀ (M9 : Nat) (μc : Mm) (k : Nat) (kz : Int) (hkz : kz = (k : Int)) (can : Int) (fok : Int) (hMA : MA G μc A σ) (hCi : AI G μc (A 26) 3027 12 Ci) (hSu : AI G μc (A 28) 3029 64 Su) (hO : OB μc m 3000 10 [.ref (A 0), .ref (A 1), .ref (A 2), .ref (A 3), .ref (A 4), .ref (A 5), .ref (A 6), .int (zI (σ 7 0)), .ref (A 8), .ref (A 9), .ref (A 10), .ref (A 11), .int (zI (σ 12 0)), .ref (A 13), .ref (A 14), .ref (A 15), .ref (A 16), .ref (A 17), .int (zI (σ 18 0)), .ref (A 19), .ref (A 20), .ref (A 21), .ref (A 22), .int (zI (σ 23 0)), .int (zI th), .int (zI fok), .ref (A 26), .int (zI cm), .ref (A 28)]) (hFr : Fr 3000 3999 μ μc) (hk : k ≤ hn σ 0) (hcan : CanI σ k can) (hM9 : hn σ 0 - k = M9), Wx E G 0 0 35 [(2, .int (zI kz)), (1, .int (zI can)), (0, .ref m)] [] μc := by
          intro M9
          induction M9 using Nat.strongRecOn with
          | ind M9 ih35 =>
            intro μc k kz hkz can fok hMA hCi hSu hO hFr hk hcan hM9
            subst hkz
            have hcr := hcan.rg
            refine x_iload_n C dX9_stage_35 rfl 0 rfl ?_
            refine x_aload_n C dX9_stage_36 rfl 2 rfl ?_
            refine x_get (ci := 10) (Cn := RX9) (T := TX9) (N := 29) (ref := "CairnCipherModel") C dX9_stage_37 in_X9 rfl hO 6 (by decide) (by decide +kernel) rfl rfl ?_
            refine z_iconst C dX9_stage_40 ?_
            refine z_iald (j := 0) C dX9_stage_41 (show AI G μc (A 6) 3007 7 (σ 6) from hMA.ai 6 rfl) (by omega) (by omega) (by decide) ?_
            have q_197 := hI.r6 0 (by omega)
            refine z_icmp_ge (tgt := 71) C dX9_stage_42 (by decide) (rg_of (by omega) (by omega)) (rg_of (by omega) (by omega)) (fun c_198 => ?_) (fun c_198 => ?_)
            · have hce := hcan.e (by omega)
              refine x_aload_n C dX9_stage_71 rfl 2 rfl ?_
              refine x_iload_n C dX9_stage_72 rfl 1 rfl ?_
              refine z_if_eq (tgt := 80) C dX9_stage_73 (by decide) (rg_of (by omega) (by omega)) (fun c_199 => ?_) (fun c_199 => ?_)
              · refine z_iconst C dX9_stage_80 ?_
                refine z_put (ci := 10) (Cn := RX9) (T := TX9) (N := 29) (ref := "CairnCipherModel") (fs' := [.ref (A 0), .ref (A 1), .ref (A 2), .ref (A 3), .ref (A 4), .ref (A 5), .ref (A 6), .int (zI (σ 7 0)), .ref (A 8), .ref (A 9), .ref (A 10), .ref (A 11), .int (zI (σ 12 0)), .ref (A 13), .ref (A 14), .ref (A 15), .ref (A 16), .ref (A 17), .int (zI (σ 18 0)), .ref (A 19), .ref (A 20), .ref (A 21), .ref (A 22), .int (zI (σ 23 0)), .int (zI 1), .int (zI fok), .ref (A 26), .int (zI cm), .ref (A 28)]) C dX9_stage_81 in_X9 rfl tyX9 tyX9_ok nmX9 hO 24 (by decide) (by decide +kernel) rfl rfl rfl rfl rfl (Nat.le_of_ble_eq_true rfl) rfl (fun μ200 hOw hF201 => ?_)
                have hMA : MA G μ200 A σ := hF201.ma hMA
                have hCi := hF201.ai hCi
                have hSu := hF201.ai hSu
                have hFr : Fr 3000 3999 μ μ200 := hFr.tr hF201
                have hO := hOw
                refine x_aload_n C dX9_stage_84 rfl 2 rfl ?_
                refine x_get (ci := 10) (Cn := RX9) (T := TX9) (N := 29) (ref := "CairnCipherModel") C dX9_stage_85 in_X9 rfl hO 24 (by decide) (by decide +kernel) rfl rfl ?_
                refine z_if_le (tgt := 93) C dX9_stage_88 (by decide) (rg_of (by omega) (by omega)) (fun c_202 => ?_) (fun c_202 => ?_)
                · exfalso; omega
                · refine z_iconst C dX9_stage_91 ?_
                  exact x_iret C R dX9_stage_92 (Nat.le_of_ble_eq_true rfl) (Nat.le_of_ble_eq_true rfl) (⟨_, rfl, ⟨Or.inr ⟨by omega, by (rw [show t_stage σ = 1 by omega]; exact ⟨_, _, _, _, _, hO, hMA, hCi, hSu⟩)⟩, hFr⟩⟩)
              · refine z_iconst C dX9_stage_76 ?_
                refine x_goto (tgt := 81) C dX9_stage_77 (by decide) ?_
                refine z_put (ci := 10) (Cn := RX9) (T := TX9) (N := 29) (ref := "CairnCipherModel") (fs' := [.ref (A 0), .ref (A 1), .ref (A 2), .ref (A 3), .ref (A 4), .ref (A 5), .ref (A 6), .int (zI (σ 7 0)), .ref (A 8), .ref (A 9), .ref (A 10), .ref (A 11), .int (zI (σ 12 0)), .ref (A 13), .ref (A 14), .ref (A 15), .ref (A 16), .ref (A 17), .int (zI (σ 18 0)), .ref (A 19), .ref (A 20), .ref (A 21), .ref (A 22), .int (zI (σ 23 0)), .int (zI 0), .int (zI fok), .ref (A 26), .int (zI cm), .ref (A 28)]) C dX9_stage_81 in_X9 rfl tyX9 tyX9_ok nmX9 hO 24 (by decide) (by decide +kernel) rfl rfl rfl rfl rfl (Nat.le_of_ble_eq_true rfl) rfl (fun μ203 hOw hF204 => ?_)
                have hMA : MA G μ203 A σ := hF204.ma hMA
                have hCi := hF204.ai hCi
                have hSu := hF204.ai hSu
                have hFr : Fr 3000 3999 μ μ203 := hFr.tr hF204
                have hO := hOw
                refine x_aload_n C dX9_stage_84 rfl 2 rfl ?_
                refine x_get (ci := 10) (Cn := RX9) (T := TX9) (N := 29) (ref := "CairnCipherModel") C dX9_stage_85 in_X9 rfl hO 24 (by decide) (by decide +kernel) rfl rfl ?_
                refine z_if_le (tgt := 93) C dX9_stage_88 (by decide) (rg_of (by omega) (by omega)) (fun c_205 => ?_) (fun c_205 => ?_)
                · refine x_aload_n C dX9_stage_93 rfl 2 rfl ?_
                  refine x_get (ci := 10) (Cn := RX9) (T := TX9) (N := 29) (ref := "CairnCipherModel") C dX9_stage_94 in_X9 rfl hO 7 (by decide) (by decide +kernel) rfl rfl ?_
                  refine z_iconst C dX9_stage_97 ?_
                  refine z_iadd C dX9_stage_98 rfl ?_
                  refine x_istore_n (lv' := [(2, .int (zI ((σ 7 0) + 1))), (1, .int (zI can)), (0, .ref m)]) C dX9_stage_99 rfl (by decide) rfl ?_
                  refine x_aload_n C dX9_stage_100 rfl 2 rfl ?_
                  refine x_get (ci := 10) (Cn := RX9) (T := TX9) (N := 29) (ref := "CairnCipherModel") C dX9_stage_101 in_X9 rfl hO 6 (by decide) (by decide +kernel) rfl rfl ?_
                  refine x_iload_n C dX9_stage_104 rfl 0 rfl ?_
                  refine x_aload_n C dX9_stage_105 rfl 2 rfl ?_
                  refine x_get (ci := 10) (Cn := RX9) (T := TX9) (N := 29) (ref := "CairnCipherModel") C dX9_stage_106 in_X9 rfl hO 6 (by decide) (by decide +kernel) rfl rfl ?_
                  refine z_iconst C dX9_stage_109 ?_
                  refine z_iald (j := 0) C dX9_stage_110 (show AI G μ203 (A 6) 3007 7 (σ 6) from hMA.ai 6 rfl) (by omega) (by omega) (by decide) ?_
                  have q_206 := hI.r6 0 (by omega)
                  refine z_iast (j := ((σ 7 0) + 1).toNat) C dX9_stage_111 (show AI G μ203 (A 6) 3007 7 (σ 6) from hMA.ai 6 rfl) (by omega) (by omega) (by decide) (fun μ207 hq209 hF208 => ?_)
                  have hMAn : MA G μ207 A (su σ 6 (wr (σ 6) (((σ 7 0) + 1).toNat) ((σ 6) 0))) := hMA.up (k := 6) rfl hq209 hF208
                  have hCi := hF208.ai hCi
                  have hSu := hF208.ai hSu
                  have hO := hF208.ob hO
                  have hFr : Fr 3000 3999 μ μ207 := hFr.tr hF208
                  have hMA := hMAn
                  refine x_aload_n C dX9_stage_112 rfl 2 rfl ?_
                  refine x_get (ci := 10) (Cn := RX9) (T := TX9) (N := 29) (ref := "CairnCipherModel") C dX9_stage_113 in_X9 rfl hO 11 (by decide) (by decide +kernel) rfl rfl ?_
                  refine x_iload_n C dX9_stage_116 rfl 0 rfl ?_
                  refine x_aload_n C dX9_stage_117 rfl 2 rfl ?_
                  refine x_get (ci := 10) (Cn := RX9) (T := TX9) (N := 29) (ref := "CairnCipherModel") C dX9_stage_118 in_X9 rfl hO 11 (by decide) (by decide +kernel) rfl rfl ?_
                  refine z_iconst C dX9_stage_121 ?_
                  refine z_iald (j := 0) C dX9_stage_122 (show AI G μ207 (A 11) 3012 7 (σ 11) from hMA.ai 11 rfl) (by omega) (by omega) (by decide) ?_
                  have q_210 := hI.r11 0 (by omega)
                  refine z_iast (j := ((σ 7 0) + 1).toNat) C dX9_stage_123 (show AI G μ207 (A 11) 3012 7 (σ 11) from hMA.ai 11 rfl) (by omega) (by omega) (by decide) (fun μ211 hq213 hF212 => ?_)
                  have hMAn : MA G μ211 A (su (su σ 6 (wr (σ 6) (((σ 7 0) + 1).toNat) ((σ 6) 0))) 11 (wr (σ 11) (((σ 7 0) + 1).toNat) ((σ 11) 0))) := hMA.up (k := 11) rfl hq213 hF212
                  have hCi := hF212.ai hCi
                  have hSu := hF212.ai hSu
                  have hO := hF212.ob hO
                  have hFr : Fr 3000 3999 μ μ211 := hFr.tr hF212
                  have hMA := hMAn
                  refine z_iconst C dX9_stage_124 ?_
                  refine x_istore_n (lv' := [(3, .int (zI 0)), (2, .int (zI ((σ 7 0) + 1))), (1, .int (zI can)), (0, .ref m)]) C dX9_stage_125 rfl (by decide) rfl ?_
                  have L126 : ∀ (M9 : Nat) (μj : Mm) (k : Nat) (kz : Int) (hkz : kz = (k : Int)) (hMA : MA G μj A (stK σ ((σ 7 0).toNat + 1) k)) (hCi : AI G μj (A 26) 3027 12 Ci) (hSu : AI G μj (A 28) 3029 64 Su) (hO : OB μj m 3000 10 [.ref (A 0), .ref (A 1), .ref (A 2), .ref (A 3), .ref (A 4), .ref (A 5), .ref (A 6), .int (zI (σ 7 0)), .ref (A 8), .ref (A 9), .ref (A 10), .ref (A 11), .int (zI (σ 12 0)), .ref (A 13), .ref (A 14), .ref (A 15), .ref (A 16), .ref (A 17), .int (zI (σ 18 0)), .ref (A 19), .ref (A 20), .ref (A 21), .ref (A 22), .int (zI (σ 23 0)), .int (zI 0), .int (zI fok), .ref (A 26), .int (zI cm), .ref (A 28)]) (hFr : Fr 3000 3999 μ μj) (hk : k ≤ 5) (hM9 : 5 - k = M9), Wx E G 0 0 126 [(3, .int (zI kz)), (2, .int (zI ((σ 7 0) + 1))), (1, .int (zI can)), (0, .ref m)] [] μj := by
                    intro M9
                    induction M9 using Nat.strongRecOn with
                    | ind M9 ih126 =>
                      intro μj k kz hkz hMA hCi hSu hO hFr hk hM9
                      subst hkz
                      have hIk := Iv_stK (r := ((σ 7 0).toNat + 1)) (k := k) hI (by omega) hk
                      have hk5 : ∀ j, j < 35 → 0 ≤ cpk (σ 5) ((σ 7 0).toNat + 1) k j ∧ cpk (σ 5) ((σ 7 0).toNat + 1) k j ≤ 1 := hIk.r5
                      refine x_iload_n C dX9_stage_126 rfl 0 rfl ?_
                      refine z_iconst C dX9_stage_127 ?_
                      refine z_icmp_ge (tgt := 217) C dX9_stage_128 (by decide) (rg_of (by omega) (by omega)) (rg_of (by omega) (by omega)) (fun c_214 => ?_) (fun c_214 => ?_)
                      · refine x_aload_n C dX9_stage_217 rfl 3 rfl ?_
                        refine x_get (ci := 10) (Cn := RX9) (T := TX9) (N := 29) (ref := "CairnCipherModel") C dX9_stage_218 in_X9 rfl hO 8 (by decide) (by decide +kernel) rfl rfl ?_
                        refine x_aload_n C dX9_stage_221 rfl 3 rfl ?_
                        refine x_get (ci := 10) (Cn := RX9) (T := TX9) (N := 29) (ref := "CairnCipherModel") C dX9_stage_222 in_X9 rfl hO 7 (by decide) (by decide +kernel) rfl rfl ?_
                        refine x_aload_n C dX9_stage_225 rfl 3 rfl ?_
                        refine x_iload_n C dX9_stage_226 rfl 1 rfl ?_
                        have hI5 := Iv_stK (r := ((σ 7 0).toNat + 1)) (k := 5) hI (by omega) (by omega)
                        have hMA : MA G μj A (stK σ ((σ 7 0).toNat + 1) 5) := by (rw [← show k = 5 by omega]; exact hMA)
                        have hl0 : ∀ j, j < 1 → (wr (σ 6) ((σ 7 0).toNat + 1) (σ 6 0)) j = σ 6 0 := fun j hj => by (obtain rfl : j = 0 := (by omega); exact wr_ne (by omega))
                        refine x_callV (n := 1) (ci := 10) (Cn := RX9) (T := TX9) (N := 29) (cc9 := 0) (ss9 := 0) (rest := [.int (zI (σ 7 0)), .ref (A 8)]) C dX9_stage_227 (c_X9_fixed (kxL E) C.st G z μj _ (stK σ ((σ 7 0).toNat + 1) 5) _ _ _ _ _ _ _ ((σ 7 0) + 1) ⟨hO, hMA, hCi, hSu⟩ hI5 (by omega)) gX9_stage_X9_fixed rfl (by decide +kernel) ⟨(Nat.le_of_ble_eq_true rfl), (Nat.le_of_ble_eq_true rfl)⟩ rfl ⟨_, _, hO⟩ rfl rfl (Nat.le_of_ble_eq_true rfl) rfl rfl ⟨(Nat.le_of_ble_eq_true rfl), (Nat.le_of_ble_eq_true rfl)⟩ nX_no (fun v216 μ217 hv218 => ?_)
                        obtain ⟨r219, hw222, h220⟩ := hv218
                        subst hw222
                        obtain ⟨⟨hr9, fo215, hO⟩, hF9⟩ := h220
                        have hF223 := hF9
                        have hMA : MA G μ217 A (stK σ ((σ 7 0).toNat + 1) 5) := hF223.ma hMA
                        have hCi := hF223.ai hCi
                        have hSu := hF223.ai hSu
                        have hFr : Fr 3000 3999 μ μ217 := hFr.tr hF223
                        rw [er1, stK_uq hI (by omega)] at hr9
                        refine x_stk (stk' := [.int (zI r219), .int (zI (σ 7 0)), .ref (A 8)]) rfl ?_
                        refine z_iast (j := (σ 7 0).toNat) C dX9_stage_230 (show AI G μ217 (A 8) 3009 6 (σ 8) from hMA.ai 8 rfl) (by omega) (by omega) (by decide) (fun μ224 hq226 hF225 => ?_)
                        have hMAn : MA G μ224 A (su (stK σ ((σ 7 0).toNat + 1) 5) 8 (wr (σ 8) ((σ 7 0).toNat) r219)) := hMA.up (k := 8) rfl hq226 hF225
                        have hCi := hF225.ai hCi
                        have hSu := hF225.ai hSu
                        have hO := hF225.ob hO
                        have hFr : Fr 3000 3999 μ μ224 := hFr.tr hF225
                        have hMA := hMAn
                        refine x_aload_n C dX9_stage_231 rfl 3 rfl ?_
                        refine x_dup C dX9_stage_232 rfl ?_
                        refine x_get (ci := 10) (Cn := RX9) (T := TX9) (N := 29) (ref := "CairnCipherModel") C dX9_stage_233 in_X9 rfl hO 7 (by decide) (by decide +kernel) rfl rfl ?_
                        refine z_iconst C dX9_stage_236 ?_
                        refine z_iadd C dX9_stage_237 rfl ?_
                        refine z_put (ci := 10) (Cn := RX9) (T := TX9) (N := 29) (ref := "CairnCipherModel") (fs' := [.ref (A 0), .ref (A 1), .ref (A 2), .ref (A 3), .ref (A 4), .ref (A 5), .ref (A 6), .int (zI ((σ 7 0) + 1)), .ref (A 8), .ref (A 9), .ref (A 10), .ref (A 11), .int (zI (σ 12 0)), .ref (A 13), .ref (A 14), .ref (A 15), .ref (A 16), .ref (A 17), .int (zI (σ 18 0)), .ref (A 19), .ref (A 20), .ref (A 21), .ref (A 22), .int (zI (σ 23 0)), .int (zI 0), .int (zI fo215), .ref (A 26), .int (zI cm), .ref (A 28)]) C dX9_stage_238 in_X9 rfl tyX9 tyX9_ok nmX9 hO 7 (by decide) (by decide +kernel) rfl rfl rfl rfl rfl (Nat.le_of_ble_eq_true rfl) rfl (fun μ227 hOw hF228 => ?_)
                        have hMA : MA G μ227 A (su (stK σ ((σ 7 0).toNat + 1) 5) 8 (wr (σ 8) ((σ 7 0).toNat) r219)) := hF228.ma hMA
                        have hCi := hF228.ai hCi
                        have hSu := hF228.ai hSu
                        have hFr : Fr 3000 3999 μ μ227 := hFr.tr hF228
                        have hO := hOw
                        refine x_aload_n C dX9_stage_241 rfl 3 rfl ?_
                        refine x_get (ci := 10) (Cn := RX9) (T := TX9) (N := 29) (ref := "CairnCipherModel") C dX9_stage_242 in_X9 rfl hO 6 (by decide) (by decide +kernel) rfl rfl ?_
                        refine z_iconst C dX9_stage_245 ?_
                        refine z_iconst C dX9_stage_246 ?_
                        refine z_iast (j := 0) C dX9_stage_247 (show AI G μ227 (A 6) 3007 7 (wr (σ 6) ((σ 7 0).toNat + 1) (σ 6 0)) from hMA.ai 6 rfl) (by omega) (by omega) (by decide) (fun μ229 hq231 hF230 => ?_)
                        have hMAn : MA G μ229 A (su (su (stK σ ((σ 7 0).toNat + 1) 5) 8 (wr (σ 8) ((σ 7 0).toNat) r219)) 6 (wr (wr (σ 6) ((σ 7 0).toNat + 1) (σ 6 0)) 0 0)) := hMA.up (k := 6) rfl hq231 hF230
                        have hCi := hF230.ai hCi
                        have hSu := hF230.ai hSu
                        have hO := hF230.ob hO
                        have hFr : Fr 3000 3999 μ μ229 := hFr.tr hF230
                        have hMA := hMAn
                        refine x_aload_n C dX9_stage_248 rfl 3 rfl ?_
                        refine x_get (ci := 10) (Cn := RX9) (T := TX9) (N := 29) (ref := "CairnCipherModel") C dX9_stage_249 in_X9 rfl hO 7 (by decide) (by decide +kernel) rfl rfl ?_
                        refine z_iconst C dX9_stage_252 ?_
                        refine z_isub C dX9_stage_253 rfl ?_
                        exact x_iret C R dX9_stage_254 (Nat.le_of_ble_eq_true rfl) (Nat.le_of_ble_eq_true rfl) (⟨_, rfl, ⟨Or.inl ⟨by omega, by omega, ⟨_, _, _, _, _, hO, (by (rw [hr9] at hMA; rw [← stK_n rfl rfl]; exact MA.sc (k := 7) hMA (by decide))), hCi, hSu⟩⟩, hFr⟩⟩)
                      · refine x_aload_n C dX9_stage_131 rfl 3 rfl ?_
                        refine x_get (ci := 10) (Cn := RX9) (T := TX9) (N := 29) (ref := "CairnCipherModel") C dX9_stage_132 in_X9 rfl hO 2 (by decide) (by decide +kernel) rfl rfl ?_
                        refine z_iconst C dX9_stage_135 ?_
                        refine x_iload_n C dX9_stage_136 rfl 1 rfl ?_
                        refine z_imul C dX9_stage_137 rfl ?_
                        refine x_iload_n C dX9_stage_138 rfl 0 rfl ?_
                        refine z_iadd C dX9_stage_139 rfl ?_
                        refine x_aload_n C dX9_stage_140 rfl 3 rfl ?_
                        refine x_get (ci := 10) (Cn := RX9) (T := TX9) (N := 29) (ref := "CairnCipherModel") C dX9_stage_141 in_X9 rfl hO 2 (by decide) (by decide +kernel) rfl rfl ?_
                        refine x_iload_n C dX9_stage_144 rfl 0 rfl ?_
                        refine z_iald (j := k) C dX9_stage_145 (show AI G μj (A 2) 3003 35 (cpk (σ 2) ((σ 7 0).toNat + 1) k) from hMA.ai 2 rfl) (by omega) (by omega) (by decide) ?_
                        refine z_iast (j := ((5 * ((σ 7 0) + 1)) + (k : Int)).toNat) C dX9_stage_146 (show AI G μj (A 2) 3003 35 (cpk (σ 2) ((σ 7 0).toNat + 1) k) from hMA.ai 2 rfl) (by omega) (by omega) (by decide) (fun μ232 hq234 hF233 => ?_)
                        have hMAn : MA G μ232 A (su (stK σ ((σ 7 0).toNat + 1) k) 2 (wr (cpk (σ 2) ((σ 7 0).toNat + 1) k) (((5 * ((σ 7 0) + 1)) + (k : Int)).toNat) ((cpk (σ 2) ((σ 7 0).toNat + 1) k) k))) := hMA.up (k := 2) rfl hq234 hF233
                        have hCi := hF233.ai hCi
                        have hSu := hF233.ai hSu
                        have hO := hF233.ob hO
                        have hFr : Fr 3000 3999 μ μ232 := hFr.tr hF233
                        have hMA := hMAn
                        refine x_aload_n C dX9_stage_147 rfl 3 rfl ?_
                        refine x_get (ci := 10) (Cn := RX9) (T := TX9) (N := 29) (ref := "CairnCipherModel") C dX9_stage_148 in_X9 rfl hO 3 (by decide) (by decide +kernel) rfl rfl ?_
                        refine z_iconst C dX9_stage_151 ?_
                        refine x_iload_n C dX9_stage_152 rfl 1 rfl ?_
                        refine z_imul C dX9_stage_153 rfl ?_
                        refine x_iload_n C dX9_stage_154 rfl 0 rfl ?_
                        refine z_iadd C dX9_stage_155 rfl ?_
                        refine x_aload_n C dX9_stage_156 rfl 3 rfl ?_
                        refine x_get (ci := 10) (Cn := RX9) (T := TX9) (N := 29) (ref := "CairnCipherModel") C dX9_stage_157 in_X9 rfl hO 3 (by decide) (by decide +kernel) rfl rfl ?_
                        refine x_iload_n C dX9_stage_160 rfl 0 rfl ?_
                        refine z_iald (j := k) C dX9_stage_161 (show AI G μ232 (A 3) 3004 35 (cpk (σ 3) ((σ 7 0).toNat + 1) k) from hMA.ai 3 rfl) (by omega) (by omega) (by decide) ?_
                        refine z_iast (j := ((5 * ((σ 7 0) + 1)) + (k : Int)).toNat) C dX9_stage_162 (show AI G μ232 (A 3) 3004 35 (cpk (σ 3) ((σ 7 0).toNat + 1) k) from hMA.ai 3 rfl) (by omega) (by omega) (by decide) (fun μ235 hq237 hF236 => ?_)
                        have hMAn : MA G μ235 A (su (su (stK σ ((σ 7 0).toNat + 1) k) 2 (wr (cpk (σ 2) ((σ 7 0).toNat + 1) k) (((5 * ((σ 7 0) + 1)) + (k : Int)).toNat) ((cpk (σ 2) ((σ 7 0).toNat + 1) k) k))) 3 (wr (cpk (σ 3) ((σ 7 0).toNat + 1) k) (((5 * ((σ 7 0) + 1)) + (k : Int)).toNat) ((cpk (σ 3) ((σ 7 0).toNat + 1) k) k))) := hMA.up (k := 3) rfl hq237 hF236
                        have hCi := hF236.ai hCi
                        have hSu := hF236.ai hSu
                        have hO := hF236.ob hO
                        have hFr : Fr 3000 3999 μ μ235 := hFr.tr hF236
                        have hMA := hMAn
                        refine x_aload_n C dX9_stage_163 rfl 3 rfl ?_
                        refine x_get (ci := 10) (Cn := RX9) (T := TX9) (N := 29) (ref := "CairnCipherModel") C dX9_stage_164 in_X9 rfl hO 4 (by decide) (by decide +kernel) rfl rfl ?_
                        refine z_iconst C dX9_stage_167 ?_
                        refine x_iload_n C dX9_stage_168 rfl 1 rfl ?_
                        refine z_imul C dX9_stage_169 rfl ?_
                        refine x_iload_n C dX9_stage_170 rfl 0 rfl ?_
                        refine z_iadd C dX9_stage_171 rfl ?_
                        refine x_aload_n C dX9_stage_172 rfl 3 rfl ?_
                        refine x_get (ci := 10) (Cn := RX9) (T := TX9) (N := 29) (ref := "CairnCipherModel") C dX9_stage_173 in_X9 rfl hO 4 (by decide) (by decide +kernel) rfl rfl ?_
                        refine x_iload_n C dX9_stage_176 rfl 0 rfl ?_
                        refine z_iald (j := k) C dX9_stage_177 (show AI G μ235 (A 4) 3005 35 (cpk (σ 4) ((σ 7 0).toNat + 1) k) from hMA.ai 4 rfl) (by omega) (by omega) (by decide) ?_
                        refine z_iast (j := ((5 * ((σ 7 0) + 1)) + (k : Int)).toNat) C dX9_stage_178 (show AI G μ235 (A 4) 3005 35 (cpk (σ 4) ((σ 7 0).toNat + 1) k) from hMA.ai 4 rfl) (by omega) (by omega) (by decide) (fun μ238 hq240 hF239 => ?_)
                        have hMAn : MA G μ238 A (su (su (su (stK σ ((σ 7 0).toNat + 1) k) 2 (wr (cpk (σ 2) ((σ 7 0).toNat + 1) k) (((5 * ((σ 7 0) + 1)) + (k : Int)).toNat) ((cpk (σ 2) ((σ 7 0).toNat + 1) k) k))) 3 (wr (cpk (σ 3) ((σ 7 0).toNat + 1) k) (((5 * ((σ 7 0) + 1)) + (k : Int)).toNat) ((cpk (σ 3) ((σ 7 0).toNat + 1) k) k))) 4 (wr (cpk (σ 4) ((σ 7 0).toNat + 1) k) (((5 * ((σ 7 0) + 1)) + (k : Int)).toNat) ((cpk (σ 4) ((σ 7 0).toNat + 1) k) k))) := hMA.up (k := 4) rfl hq240 hF239
                        have hCi := hF239.ai hCi
                        have hSu := hF239.ai hSu
                        have hO := hF239.ob hO
                        have hFr : Fr 3000 3999 μ μ238 := hFr.tr hF239
                        have hMA := hMAn
                        refine x_aload_n C dX9_stage_179 rfl 3 rfl ?_
                        refine x_get (ci := 10) (Cn := RX9) (T := TX9) (N := 29) (ref := "CairnCipherModel") C dX9_stage_180 in_X9 rfl hO 5 (by decide) (by decide +kernel) rfl rfl ?_
                        refine z_iconst C dX9_stage_183 ?_
                        refine x_iload_n C dX9_stage_184 rfl 1 rfl ?_
                        refine z_imul C dX9_stage_185 rfl ?_
                        refine x_iload_n C dX9_stage_186 rfl 0 rfl ?_
                        refine z_iadd C dX9_stage_187 rfl ?_
                        refine x_aload_n C dX9_stage_188 rfl 3 rfl ?_
                        refine x_get (ci := 10) (Cn := RX9) (T := TX9) (N := 29) (ref := "CairnCipherModel") C dX9_stage_189 in_X9 rfl hO 5 (by decide) (by decide +kernel) rfl rfl ?_
                        refine x_iload_n C dX9_stage_192 rfl 0 rfl ?_
                        refine z_zald (j := k) C dX9_stage_193 (show AZ G μ238 (A 5) 3006 35 (cpk (σ 5) ((σ 7 0).toNat + 1) k) from hMA.az 5 rfl) (by omega) (by omega) (by decide) ?_
                        have q_241 := hk5 k (by omega)
                        refine z_zast (j := ((5 * ((σ 7 0) + 1)) + (k : Int)).toNat) C dX9_stage_194 (show AZ G μ238 (A 5) 3006 35 (cpk (σ 5) ((σ 7 0).toNat + 1) k) from hMA.az 5 rfl) (by omega) (by omega) (by decide) (by omega) (fun μ242 hq244 hF243 => ?_)
                        have hMAn : MA G μ242 A (su (su (su (su (stK σ ((σ 7 0).toNat + 1) k) 2 (wr (cpk (σ 2) ((σ 7 0).toNat + 1) k) (((5 * ((σ 7 0) + 1)) + (k : Int)).toNat) ((cpk (σ 2) ((σ 7 0).toNat + 1) k) k))) 3 (wr (cpk (σ 3) ((σ 7 0).toNat + 1) k) (((5 * ((σ 7 0) + 1)) + (k : Int)).toNat) ((cpk (σ 3) ((σ 7 0).toNat + 1) k) k))) 4 (wr (cpk (σ 4) ((σ 7 0).toNat + 1) k) (((5 * ((σ 7 0) + 1)) + (k : Int)).toNat) ((cpk (σ 4) ((σ 7 0).toNat + 1) k) k))) 5 (wr (cpk (σ 5) ((σ 7 0).toNat + 1) k) (((5 * ((σ 7 0) + 1)) + (k : Int)).toNat) ((cpk (σ 5) ((σ 7 0).toNat + 1) k) k))) := hMA.upz (k := 5) rfl hq244 hF243
                        have hCi := hF243.ai hCi
                        have hSu := hF243.ai hSu
                        have hO := hF243.ob hO
                        have hFr : Fr 3000 3999 μ μ242 := hFr.tr hF243
                        have hMA := hMAn
                        refine x_aload_n C dX9_stage_195 rfl 3 rfl ?_
                        refine x_get (ci := 10) (Cn := RX9) (T := TX9) (N := 29) (ref := "CairnCipherModel") C dX9_stage_196 in_X9 rfl hO 10 (by decide) (by decide +kernel) rfl rfl ?_
                        refine z_iconst C dX9_stage_199 ?_
                        refine x_iload_n C dX9_stage_200 rfl 1 rfl ?_
                        refine z_imul C dX9_stage_201 rfl ?_
                        refine x_iload_n C dX9_stage_202 rfl 0 rfl ?_
                        refine z_iadd C dX9_stage_203 rfl ?_
                        refine x_aload_n C dX9_stage_204 rfl 3 rfl ?_
                        refine x_get (ci := 10) (Cn := RX9) (T := TX9) (N := 29) (ref := "CairnCipherModel") C dX9_stage_205 in_X9 rfl hO 10 (by decide) (by decide +kernel) rfl rfl ?_
                        refine x_iload_n C dX9_stage_208 rfl 0 rfl ?_
                        refine z_iald (j := k) C dX9_stage_209 (show AI G μ242 (A 10) 3011 35 (cpk (σ 10) ((σ 7 0).toNat + 1) k) from hMA.ai 10 rfl) (by omega) (by omega) (by decide) ?_
                        refine z_iast (j := ((5 * ((σ 7 0) + 1)) + (k : Int)).toNat) C dX9_stage_210 (show AI G μ242 (A 10) 3011 35 (cpk (σ 10) ((σ 7 0).toNat + 1) k) from hMA.ai 10 rfl) (by omega) (by omega) (by decide) (fun μ245 hq247 hF246 => ?_)
                        have hMAn : MA G μ245 A (su (su (su (su (su (stK σ ((σ 7 0).toNat + 1) k) 2 (wr (cpk (σ 2) ((σ 7 0).toNat + 1) k) (((5 * ((σ 7 0) + 1)) + (k : Int)).toNat) ((cpk (σ 2) ((σ 7 0).toNat + 1) k) k))) 3 (wr (cpk (σ 3) ((σ 7 0).toNat + 1) k) (((5 * ((σ 7 0) + 1)) + (k : Int)).toNat) ((cpk (σ 3) ((σ 7 0).toNat + 1) k) k))) 4 (wr (cpk (σ 4) ((σ 7 0).toNat + 1) k) (((5 * ((σ 7 0) + 1)) + (k : Int)).toNat) ((cpk (σ 4) ((σ 7 0).toNat + 1) k) k))) 5 (wr (cpk (σ 5) ((σ 7 0).toNat + 1) k) (((5 * ((σ 7 0) + 1)) + (k : Int)).toNat) ((cpk (σ 5) ((σ 7 0).toNat + 1) k) k))) 10 (wr (cpk (σ 10) ((σ 7 0).toNat + 1) k) (((5 * ((σ 7 0) + 1)) + (k : Int)).toNat) ((cpk (σ 10) ((σ 7 0).toNat + 1) k) k))) := hMA.up (k := 10) rfl hq247 hF246
                        have hCi := hF246.ai hCi
                        have hSu := hF246.ai hSu
                        have hO := hF246.ob hO
                        have hFr : Fr 3000 3999 μ μ245 := hFr.tr hF246
                        have hMA := hMAn
                        refine z_iinc (lv' := [(3, .int (zI ((k : Int) + 1))), (2, .int (zI ((σ 7 0) + 1))), (1, .int (zI can)), (0, .ref m)]) C dX9_stage_211 0 rfl rfl (by decide) rfl ?_
                        refine x_goto (tgt := 126) C dX9_stage_214 (by decide) ?_
                        have ei : ((5 * ((σ 7 0) + 1)) + (k : Int)).toNat = 5 * ((σ 7 0).toNat + 1) + k := by omega
                        rw [ei] at hMA
                        have hMA : MA G μ245 A (stK σ ((σ 7 0).toNat + 1) (k + 1)) := by (rw [← stK_s (σ := σ) (k := k) (cpk_s (by omega) (by omega)) (cpk_s (by omega) (by omega)) (cpk_s (by omega) (by omega)) (cpk_s (by omega) (by omega)) (cpk_s (by omega) (by omega))]; exact hMA)
                        exact ih126 _ (by omega) _ (k + 1) _ (by omega) hMA hCi hSu hO hFr (by omega) rfl
                  have hMA : MA G μ211 A (stK σ ((σ 7 0).toNat + 1) 0) := by (rw [stK_0, ← er1]; exact hMA)
                  exact L126 _ _ (0) _ (by omega) hMA hCi hSu hO hFr (by omega) rfl
                · exfalso; omega
            · refine x_iload_n C dX9_stage_45 rfl 1 rfl ?_
              refine z_if_eq (tgt := 63) C dX9_stage_46 (by decide) (rg_of (by omega) (by omega)) (fun c_248 => ?_) (fun c_248 => ?_)
              · refine z_iconst C dX9_stage_63 ?_
                refine x_istore_n (lv' := [(1, .int (zI 0)), (2, .int (zI (k : Int))), (0, .ref m)]) C dX9_stage_64 rfl (by decide) rfl ?_
                refine z_iinc (lv' := [(2, .int (zI ((k : Int) + 1))), (1, .int (zI 0)), (0, .ref m)]) C dX9_stage_65 1 rfl rfl (by decide) rfl ?_
                refine x_goto (tgt := 35) C dX9_stage_68 (by decide) ?_
                exact ih35 _ (by omega) _ (k + 1) _ (by omega) _ _ hMA hCi hSu hO hFr (by omega) (by first | exact CanI_y hcan (by omega) (by omega) | exact CanI_n hcan (by omega) (by omega)) rfl
              · refine x_aload_n C dX9_stage_49 rfl 2 rfl ?_
                refine z_iconst C dX9_stage_50 ?_
                refine x_iload_n C dX9_stage_51 rfl 0 rfl ?_
                refine x_callV (n := 2) (ci := 10) (Cn := RX9) (T := TX9) (N := 29) (cc9 := 0) (ss9 := 0) (rest := []) C dX9_stage_52 (c_X9_fitting (kxL E) C.st G z μc _ σ _ _ _ _ _ _ _ 0 (k : Int) ⟨hO, hMA, hCi, hSu⟩ hI (by omega) (by omega)) gX9_stage_X9_fitting rfl (by decide +kernel) ⟨(Nat.le_of_ble_eq_true rfl), (Nat.le_of_ble_eq_true rfl)⟩ rfl ⟨_, _, hO⟩ rfl rfl (Nat.le_of_ble_eq_true rfl) rfl rfl ⟨(Nat.le_of_ble_eq_true rfl), (Nat.le_of_ble_eq_true rfl)⟩ nX_no (fun v249 μ250 hv251 => ?_)
                obtain ⟨r252, hw255, h253⟩ := hv251
                subst hw255
                obtain ⟨⟨hr9, hO⟩, hF9⟩ := h253
                have hF256 := hF9
                have hMA : MA G μ250 A σ := hF256.ma hMA
                have hCi := hF256.ai hCi
                have hSu := hF256.ai hSu
                have hFr : Fr 3000 3999 μ μ250 := hFr.tr hF256
                have hcb := ctb_rg (fitb σ 0 (k : Int)) 64
                change _ = ctb (fitb σ 0 (k : Int)) 64 at hr9
                refine x_stk (stk' := [.int (zI r252)]) rfl ?_
                refine z_iconst C dX9_stage_55 ?_
                refine z_icmp_eq (tgt := 63) C dX9_stage_56 (by decide) (rg_of (by omega) (by omega)) (rg_of (by omega) (by omega)) (fun c_257 => ?_) (fun c_257 => ?_)
                · refine z_iconst C dX9_stage_63 ?_
                  refine x_istore_n (lv' := [(1, .int (zI 0)), (2, .int (zI (k : Int))), (0, .ref m)]) C dX9_stage_64 rfl (by decide) rfl ?_
                  refine z_iinc (lv' := [(2, .int (zI ((k : Int) + 1))), (1, .int (zI 0)), (0, .ref m)]) C dX9_stage_65 1 rfl rfl (by decide) rfl ?_
                  refine x_goto (tgt := 35) C dX9_stage_68 (by decide) ?_
                  exact ih35 _ (by omega) _ (k + 1) _ (by omega) _ _ hMA hCi hSu hO hFr (by omega) (by first | exact CanI_y hcan (by omega) (by omega) | exact CanI_n hcan (by omega) (by omega)) rfl
                · refine z_iconst C dX9_stage_59 ?_
                  refine x_goto (tgt := 64) C dX9_stage_60 (by decide) ?_
                  refine x_istore_n (lv' := [(1, .int (zI 1)), (2, .int (zI (k : Int))), (0, .ref m)]) C dX9_stage_64 rfl (by decide) rfl ?_
                  refine z_iinc (lv' := [(2, .int (zI ((k : Int) + 1))), (1, .int (zI 1)), (0, .ref m)]) C dX9_stage_65 1 rfl rfl (by decide) rfl ?_
                  refine x_goto (tgt := 35) C dX9_stage_68 (by decide) ?_
                  exact ih35 _ (by omega) _ (k + 1) _ (by omega) _ _ hMA hCi hSu hO hFr (by omega) (by first | exact CanI_y hcan (by omega) (by omega) | exact CanI_n hcan (by omega) (by omega)) rfl
        exact L35 _ _ (0) _ (by omega) _ _ hMA hCi hSu hO hFr (by omega) hcan0 rfl
