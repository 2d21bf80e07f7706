def aA (q0 q1 q2 q3 q4 q5 q6 q7 q8 q9 q10 q11 q12 : Nat) : Nat → Nat := fun k => match k with
  | 0 => q0 | 1 => q1 | 2 => q2 | 3 => q3 | 4 => q4 | 5 => q5 | 6 => q6 | 7 => q7 | 8 => q8 | 9 => q9 | 10 => q10 | 11 => q11 | _ => q12
theorem nF_s0 (j : Nat) : nF s0 j = 0 := by
  match j with
  | 0 => rfl
  | 1 => rfl
  | 2 => rfl
  | j + 3 => rfl
theorem gF_s00 (j : Nat) : gF s0 j = 0 := by
  unfold gF
  split <;> rfl
theorem uF_s0 (j : Nat) : uF s0 j = 0 := rfl
theorem sF_s0 (j : Nat) : sF s0 j = 0 := rfl
theorem tF_s0 (j : Nat) : tF s0 j = 0 := rfl
theorem dF_s0 (j : Nat) : dF s0 j = 0 := rfl
theorem ZB_s0 : ZB s0 0 := fun p _ => by rw [kb_0]; rfl
theorem WR_s0 (W : Nat → Int) : WR s0 W := fun i hi => by
  exfalso
  have : (i : Int) < 0 := hi
  omega
set_option maxHeartbeats 4000000 in
set_option maxRecDepth 100000 in
/-- the law's turns -/
theorem law_loop {E : EE} {G : GG} {z : Nat} (C : Cx E G z cL_law RL wsL_law room_1 27) {bs L : Nat} {xs : Nat → Int32} (hX : Sc E bs L xs) (kend : ∀ (cells slots : Nat) (lv : List (Nat × Value)) (μ : Mm), cells ≤ 600000 → slots ≤ 7000000 → Wx E G cells slots 2125 lv [.int (zI 1)] μ) {xa : Nat} {A : Nat → Nat} : ∀ (M τ : Nat) (σ : SS) (μ : Mm), 130 - τ = M → τ ≤ 130 → LwS G z μ xa A σ τ → Wx E G (500 + 1040 * τ) (5000 + 48600 * τ) 114 [(0, .ref bs), (1, .ref xa), (2, .ref (A 0)), (3, .ref (A 1)), (4, .ref (A 2)), (5, .ref (A 3)), (6, .ref (A 4)), (7, .ref (A 5)), (8, .ref (A 6)), (9, .ref (A 7)), (10, .ref (A 8)), (11, .ref (A 9)), (12, .ref (A 10)), (13, .ref (A 11)), (14, .ref (A 12)), (15, .int (zI 1)), (16, .int (zI (τ : Int)))] [] μ := by
  intro M
  induction M using Nat.strongRecOn with
  | ind M ih =>
    intro τ σ μ hM hτ hS
    by_cases e : τ = 130
    · exact law_last C ⟨Nat.le_trans (show _ ≤ 600000 by omega) (Nat.le_of_ble_eq_true rfl), Nat.le_trans (show _ ≤ 7000000 by omega) (Nat.le_of_ble_eq_true rfl)⟩ hS (by omega) e (fun lv μ' => kend _ _ lv μ' (by omega) (by omega))
    · refine law_turn C hX ⟨Nat.le_trans (show _ ≤ 600000 by omega) (Nat.le_of_ble_eq_true rfl), Nat.le_trans (show _ ≤ 7000000 by omega) (Nat.le_of_ble_eq_true rfl)⟩ hS (by omega) (fun μ' σ' h => ?_)
      have h5 := ih (130 - (τ + 1)) (by omega) (τ + 1) σ' μ' rfl (by omega) h
      rw [show 500 + 1040 * (τ + 1) = 500 + 1040 * τ + 1040 by omega, show 5000 + 48600 * (τ + 1) = 5000 + 48600 * τ + 48600 by omega] at h5
      exact h5
set_option maxHeartbeats 4000000 in
set_option maxRecDepth 100000 in
/-- from the law's entry -/
theorem law_start {E : EE} {G : GG} {z : Nat} (C : Cx E G z cL_law RL wsL_law room_1 27) {bs L : Nat} {xs : Nat → Int32} (hX : Sc E bs L xs) (kend : ∀ (cells slots : Nat) (lv : List (Nat × Value)) (μ : Mm), cells ≤ 600000 → slots ≤ 7000000 → Wx E G cells slots 2125 lv [.int (zI 1)] μ) : Wx E G 0 0 0 [(0, .ref bs)] [] (fun _ => none) := by
  have in_X8 : ∀ w ∈ u_ws RX8 TX8 10, w ∈ wsL_law := by decide +kernel
  refine z_new (ci := 9) (Cn := RX8) (T := TX8) (N := 10) (cc9 := 1) (ss9 := 10) (fs := [.null, .null, .null, .null, .null, .null, .null, .null, .int (zI 0), .int (zI 0)]) C 0 dL_law_0 in_X8 rfl tyX8 tyX8_ok (by decide +kernel) (by decide +kernel) (by decide +kernel) (fun j hj => by rcases (show j = 0 ∨ j = 1 ∨ j = 2 ∨ j = 3 ∨ j = 4 ∨ j = 5 ∨ j = 6 ∨ j = 7 ∨ j = 8 ∨ j = 9 by omega) with rfl | rfl | rfl | rfl | rfl | rfl | rfl | rfl | rfl | rfl <;> rfl) rfl rfl (Nat.le_of_ble_eq_true rfl) (Nat.le_of_ble_eq_true rfl) (fun a1 μ2 hq3 hO4 hF5 => ?_)
  have hF6 : Fr 3500 3500 (fun _ => none) μ2 := hF5 _ _
  refine x_dup C dL_law_3 rfl ?_
  refine x_callI (n := 0) (cc9 := 16) (ss9 := 805) (rest := [.ref a1]) C dL_law_4 (c_X8_init (kxL E) C.st G z μ2 a1 hO4) gL_law_X8_init rfl (by decide +kernel) (by decide +kernel) (by decide +kernel) rfl (by decide +kernel) ⟨(Nat.le_of_ble_eq_true rfl), (Nat.le_of_ble_eq_true rfl)⟩ rfl rfl (Nat.le_of_ble_eq_true rfl) rfl rfl ⟨(Nat.le_of_ble_eq_true rfl), (Nat.le_of_ble_eq_true rfl)⟩ nX_no (fun v7 μ8 hv9 => ?_)
  obtain ⟨hw10, hC, hF9⟩ := hv9
  subst hw10
  refine x_stk (stk' := [.ref a1]) rfl ?_
  refine x_astore_n (lv' := [(1, .ref a1), (0, .ref bs)]) C dL_law_7 rfl (by decide) rfl ?_
  refine z_iconst C dL_law_8 ?_
  refine z_newI (N9 := 4) (cc9 := 17) (ss9 := 809) C 3006 dL_law_9 (by decide +kernel) rfl (by decide) rfl rfl (Nat.le_of_ble_eq_true rfl) (Nat.le_of_ble_eq_true rfl) (fun a11 μ12 hq13 hA14 hF15 => ?_)
  have hF16 : Fr 3500 3500 μ8 μ12 := hF15 _ _
  have hC : RepC G z μ12 a1 s0 0 := (hF15 3500 3500).repc hC
  refine x_astore_n (lv' := [(2, .ref a11), (1, .ref a1), (0, .ref bs)]) C dL_law_11 rfl (by decide) rfl ?_
  refine z_bipush C dL_law_12 (by decide) ?_
  refine z_newI (N9 := 64) (cc9 := 18) (ss9 := 873) C 4001 dL_law_14 (by decide +kernel) rfl (by decide) rfl rfl (Nat.le_of_ble_eq_true rfl) (Nat.le_of_ble_eq_true rfl) (fun a17 μ18 hq19 hA20 hF21 => ?_)
  have hF22 : Fr 3500 3500 μ12 μ18 := hF21 _ _
  have hC : RepC G z μ18 a1 s0 0 := (hF21 3500 3500).repc hC
  have hA14 := (hF21 0 0).ai hA14 (Or.inr (Nat.zero_le _))
  refine x_astore_n (lv' := [(3, .ref a17), (2, .ref a11), (1, .ref a1), (0, .ref bs)]) C dL_law_16 rfl (by decide) rfl ?_
  refine z_iconst C dL_law_17 ?_
  refine x_newJ (N9 := 1) (cc9 := 19) (ss9 := 874) C 4002 dL_law_18 (by decide +kernel) (by decide) (by decide) (by decide) rfl rfl (Nat.le_of_ble_eq_true rfl) (Nat.le_of_ble_eq_true rfl) (fun aJ hq9 => ?_)
  have hf9 : ∀ lo hi, Fr lo hi μ18 (mU μ18 aJ 4002 (eJ G 1 (fun _ => 0))) := fun lo hi => mU_frn hq9
  have hC : RepC G z (mU μ18 aJ 4002 (eJ G 1 (fun _ => 0))) a1 s0 0 := (hf9 3500 3500).repc hC
  have hA14 := (hf9 0 0).ai hA14 (Or.inr (Nat.zero_le _))
  have hA20 := (hf9 0 0).ai hA20 (Or.inr (Nat.zero_le _))
  have hzz : OL G (mU μ18 aJ 4002 (eJ G 1 (fun _ => 0))) aJ 4002 0 := ⟨_, mU_at, rfl⟩
  refine x_astore (lv' := [(4, .ref aJ), (3, .ref a17), (2, .ref a11), (1, .ref a1), (0, .ref bs)]) C dL_law_20 (by decide) rfl ?_
  refine z_bipush C dL_law_22 (by decide) ?_
  refine z_newI (N9 := 35) (cc9 := 20) (ss9 := 909) C 4003 dL_law_24 (by decide +kernel) rfl (by decide) rfl rfl (Nat.le_of_ble_eq_true rfl) (Nat.le_of_ble_eq_true rfl) (fun a23 μ24 hq25 hA26 hF27 => ?_)
  have hF28 : Fr 3500 3500 (mU μ18 aJ 4002 (eJ G 1 (fun _ => 0))) μ24 := hF27 _ _
  have hC : RepC G z μ24 a1 s0 0 := (hF27 3500 3500).repc hC
  have hA14 := (hF27 0 0).ai hA14 (Or.inr (Nat.zero_le _))
  have hA20 := (hF27 0 0).ai hA20 (Or.inr (Nat.zero_le _))
  have hzz := (hF27 0 0).ol hzz (Or.inr (Nat.zero_le _))
  refine x_astore (lv' := [(5, .ref a23), (4, .ref aJ), (3, .ref a17), (2, .ref a11), (1, .ref a1), (0, .ref bs)]) C dL_law_26 (by decide) rfl ?_
  refine z_bipush C dL_law_28 (by decide) ?_
  refine z_newI (N9 := 7) (cc9 := 21) (ss9 := 916) C 4004 dL_law_30 (by decide +kernel) rfl (by decide) rfl rfl (Nat.le_of_ble_eq_true rfl) (Nat.le_of_ble_eq_true rfl) (fun a29 μ30 hq31 hA32 hF33 => ?_)
  have hF34 : Fr 3500 3500 μ24 μ30 := hF33 _ _
  have hC : RepC G z μ30 a1 s0 0 := (hF33 3500 3500).repc hC
  have hA14 := (hF33 0 0).ai hA14 (Or.inr (Nat.zero_le _))
  have hA20 := (hF33 0 0).ai hA20 (Or.inr (Nat.zero_le _))
  have hzz := (hF33 0 0).ol hzz (Or.inr (Nat.zero_le _))
  have hA26 := (hF33 0 0).ai hA26 (Or.inr (Nat.zero_le _))
  refine x_astore (lv' := [(6, .ref a29), (5, .ref a23), (4, .ref aJ), (3, .ref a17), (2, .ref a11), (1, .ref a1), (0, .ref bs)]) C dL_law_32 (by decide) rfl ?_
  refine z_bipush C dL_law_34 (by decide) ?_
  refine z_newI (N9 := 12) (cc9 := 22) (ss9 := 928) C 4005 dL_law_36 (by decide +kernel) rfl (by decide) rfl rfl (Nat.le_of_ble_eq_true rfl) (Nat.le_of_ble_eq_true rfl) (fun a35 μ36 hq37 hA38 hF39 => ?_)
  have hF40 : Fr 3500 3500 μ30 μ36 := hF39 _ _
  have hC : RepC G z μ36 a1 s0 0 := (hF39 3500 3500).repc hC
  have hA14 := (hF39 0 0).ai hA14 (Or.inr (Nat.zero_le _))
  have hA20 := (hF39 0 0).ai hA20 (Or.inr (Nat.zero_le _))
  have hzz := (hF39 0 0).ol hzz (Or.inr (Nat.zero_le _))
  have hA26 := (hF39 0 0).ai hA26 (Or.inr (Nat.zero_le _))
  have hA32 := (hF39 0 0).ai hA32 (Or.inr (Nat.zero_le _))
  refine x_astore (lv' := [(7, .ref a35), (6, .ref a29), (5, .ref a23), (4, .ref aJ), (3, .ref a17), (2, .ref a11), (1, .ref a1), (0, .ref bs)]) C dL_law_38 (by decide) rfl ?_
  refine z_bipush C dL_law_40 (by decide) ?_
  refine z_newI (N9 := 7) (cc9 := 23) (ss9 := 935) C 4006 dL_law_42 (by decide +kernel) rfl (by decide) rfl rfl (Nat.le_of_ble_eq_true rfl) (Nat.le_of_ble_eq_true rfl) (fun a41 μ42 hq43 hA44 hF45 => ?_)
  have hF46 : Fr 3500 3500 μ36 μ42 := hF45 _ _
  have hC : RepC G z μ42 a1 s0 0 := (hF45 3500 3500).repc hC
  have hA14 := (hF45 0 0).ai hA14 (Or.inr (Nat.zero_le _))
  have hA20 := (hF45 0 0).ai hA20 (Or.inr (Nat.zero_le _))
  have hzz := (hF45 0 0).ol hzz (Or.inr (Nat.zero_le _))
  have hA26 := (hF45 0 0).ai hA26 (Or.inr (Nat.zero_le _))
  have hA32 := (hF45 0 0).ai hA32 (Or.inr (Nat.zero_le _))
  have hA38 := (hF45 0 0).ai hA38 (Or.inr (Nat.zero_le _))
  refine x_astore (lv' := [(8, .ref a41), (7, .ref a35), (6, .ref a29), (5, .ref a23), (4, .ref aJ), (3, .ref a17), (2, .ref a11), (1, .ref a1), (0, .ref bs)]) C dL_law_44 (by decide) rfl ?_
  refine z_bipush C dL_law_46 (by decide) ?_
  refine z_newI (N9 := 30) (cc9 := 24) (ss9 := 965) C 3007 dL_law_48 (by decide +kernel) rfl (by decide) rfl rfl (Nat.le_of_ble_eq_true rfl) (Nat.le_of_ble_eq_true rfl) (fun a47 μ48 hq49 hA50 hF51 => ?_)
  have hF52 : Fr 3500 3500 μ42 μ48 := hF51 _ _
  have hC : RepC G z μ48 a1 s0 0 := (hF51 3500 3500).repc hC
  have hA14 := (hF51 0 0).ai hA14 (Or.inr (Nat.zero_le _))
  have hA20 := (hF51 0 0).ai hA20 (Or.inr (Nat.zero_le _))
  have hzz := (hF51 0 0).ol hzz (Or.inr (Nat.zero_le _))
  have hA26 := (hF51 0 0).ai hA26 (Or.inr (Nat.zero_le _))
  have hA32 := (hF51 0 0).ai hA32 (Or.inr (Nat.zero_le _))
  have hA38 := (hF51 0 0).ai hA38 (Or.inr (Nat.zero_le _))
  have hA44 := (hF51 0 0).ai hA44 (Or.inr (Nat.zero_le _))
  refine x_astore (lv' := [(9, .ref a47), (8, .ref a41), (7, .ref a35), (6, .ref a29), (5, .ref a23), (4, .ref aJ), (3, .ref a17), (2, .ref a11), (1, .ref a1), (0, .ref bs)]) C dL_law_50 (by decide) rfl ?_
  refine z_bipush C dL_law_52 (by decide) ?_
  refine z_newI (N9 := 6) (cc9 := 25) (ss9 := 971) C 4008 dL_law_54 (by decide +kernel) rfl (by decide) rfl rfl (Nat.le_of_ble_eq_true rfl) (Nat.le_of_ble_eq_true rfl) (fun a53 μ54 hq55 hA56 hF57 => ?_)
  have hF58 : Fr 3500 3500 μ48 μ54 := hF57 _ _
  have hC : RepC G z μ54 a1 s0 0 := (hF57 3500 3500).repc hC
  have hA14 := (hF57 0 0).ai hA14 (Or.inr (Nat.zero_le _))
  have hA20 := (hF57 0 0).ai hA20 (Or.inr (Nat.zero_le _))
  have hzz := (hF57 0 0).ol hzz (Or.inr (Nat.zero_le _))
  have hA26 := (hF57 0 0).ai hA26 (Or.inr (Nat.zero_le _))
  have hA32 := (hF57 0 0).ai hA32 (Or.inr (Nat.zero_le _))
  have hA38 := (hF57 0 0).ai hA38 (Or.inr (Nat.zero_le _))
  have hA44 := (hF57 0 0).ai hA44 (Or.inr (Nat.zero_le _))
  have hA50 := (hF57 0 0).ai hA50 (Or.inr (Nat.zero_le _))
  refine x_astore (lv' := [(10, .ref a53), (9, .ref a47), (8, .ref a41), (7, .ref a35), (6, .ref a29), (5, .ref a23), (4, .ref aJ), (3, .ref a17), (2, .ref a11), (1, .ref a1), (0, .ref bs)]) C dL_law_56 (by decide) rfl ?_
  refine z_bipush C dL_law_58 (by decide) ?_
  refine z_newI (N9 := 6) (cc9 := 26) (ss9 := 977) C 4009 dL_law_60 (by decide +kernel) rfl (by decide) rfl rfl (Nat.le_of_ble_eq_true rfl) (Nat.le_of_ble_eq_true rfl) (fun a59 μ60 hq61 hA62 hF63 => ?_)
  have hF64 : Fr 3500 3500 μ54 μ60 := hF63 _ _
  have hC : RepC G z μ60 a1 s0 0 := (hF63 3500 3500).repc hC
  have hA14 := (hF63 0 0).ai hA14 (Or.inr (Nat.zero_le _))
  have hA20 := (hF63 0 0).ai hA20 (Or.inr (Nat.zero_le _))
  have hzz := (hF63 0 0).ol hzz (Or.inr (Nat.zero_le _))
  have hA26 := (hF63 0 0).ai hA26 (Or.inr (Nat.zero_le _))
  have hA32 := (hF63 0 0).ai hA32 (Or.inr (Nat.zero_le _))
  have hA38 := (hF63 0 0).ai hA38 (Or.inr (Nat.zero_le _))
  have hA44 := (hF63 0 0).ai hA44 (Or.inr (Nat.zero_le _))
  have hA50 := (hF63 0 0).ai hA50 (Or.inr (Nat.zero_le _))
  have hA56 := (hF63 0 0).ai hA56 (Or.inr (Nat.zero_le _))
  refine x_astore (lv' := [(11, .ref a59), (10, .ref a53), (9, .ref a47), (8, .ref a41), (7, .ref a35), (6, .ref a29), (5, .ref a23), (4, .ref aJ), (3, .ref a17), (2, .ref a11), (1, .ref a1), (0, .ref bs)]) C dL_law_62 (by decide) rfl ?_
  refine z_bipush C dL_law_64 (by decide) ?_
  refine z_newI (N9 := 36) (cc9 := 27) (ss9 := 1013) C 4010 dL_law_66 (by decide +kernel) rfl (by decide) rfl rfl (Nat.le_of_ble_eq_true rfl) (Nat.le_of_ble_eq_true rfl) (fun a65 μ66 hq67 hA68 hF69 => ?_)
  have hF70 : Fr 3500 3500 μ60 μ66 := hF69 _ _
  have hC : RepC G z μ66 a1 s0 0 := (hF69 3500 3500).repc hC
  have hA14 := (hF69 0 0).ai hA14 (Or.inr (Nat.zero_le _))
  have hA20 := (hF69 0 0).ai hA20 (Or.inr (Nat.zero_le _))
  have hzz := (hF69 0 0).ol hzz (Or.inr (Nat.zero_le _))
  have hA26 := (hF69 0 0).ai hA26 (Or.inr (Nat.zero_le _))
  have hA32 := (hF69 0 0).ai hA32 (Or.inr (Nat.zero_le _))
  have hA38 := (hF69 0 0).ai hA38 (Or.inr (Nat.zero_le _))
  have hA44 := (hF69 0 0).ai hA44 (Or.inr (Nat.zero_le _))
  have hA50 := (hF69 0 0).ai hA50 (Or.inr (Nat.zero_le _))
  have hA56 := (hF69 0 0).ai hA56 (Or.inr (Nat.zero_le _))
  have hA62 := (hF69 0 0).ai hA62 (Or.inr (Nat.zero_le _))
  refine x_astore (lv' := [(12, .ref a65), (11, .ref a59), (10, .ref a53), (9, .ref a47), (8, .ref a41), (7, .ref a35), (6, .ref a29), (5, .ref a23), (4, .ref aJ), (3, .ref a17), (2, .ref a11), (1, .ref a1), (0, .ref bs)]) C dL_law_68 (by decide) rfl ?_
  refine z_iconst C dL_law_70 ?_
  refine z_newI (N9 := 4) (cc9 := 28) (ss9 := 1017) C 4011 dL_law_71 (by decide +kernel) rfl (by decide) rfl rfl (Nat.le_of_ble_eq_true rfl) (Nat.le_of_ble_eq_true rfl) (fun a71 μ72 hq73 hA74 hF75 => ?_)
  have hF76 : Fr 3500 3500 μ66 μ72 := hF75 _ _
  have hC : RepC G z μ72 a1 s0 0 := (hF75 3500 3500).repc hC
  have hA14 := (hF75 0 0).ai hA14 (Or.inr (Nat.zero_le _))
  have hA20 := (hF75 0 0).ai hA20 (Or.inr (Nat.zero_le _))
  have hzz := (hF75 0 0).ol hzz (Or.inr (Nat.zero_le _))
  have hA26 := (hF75 0 0).ai hA26 (Or.inr (Nat.zero_le _))
  have hA32 := (hF75 0 0).ai hA32 (Or.inr (Nat.zero_le _))
  have hA38 := (hF75 0 0).ai hA38 (Or.inr (Nat.zero_le _))
  have hA44 := (hF75 0 0).ai hA44 (Or.inr (Nat.zero_le _))
  have hA50 := (hF75 0 0).ai hA50 (Or.inr (Nat.zero_le _))
  have hA56 := (hF75 0 0).ai hA56 (Or.inr (Nat.zero_le _))
  have hA62 := (hF75 0 0).ai hA62 (Or.inr (Nat.zero_le _))
  have hA68 := (hF75 0 0).ai hA68 (Or.inr (Nat.zero_le _))
  refine x_astore (lv' := [(13, .ref a71), (12, .ref a65), (11, .ref a59), (10, .ref a53), (9, .ref a47), (8, .ref a41), (7, .ref a35), (6, .ref a29), (5, .ref a23), (4, .ref aJ), (3, .ref a17), (2, .ref a11), (1, .ref a1), (0, .ref bs)]) C dL_law_73 (by decide) rfl ?_
  refine z_bipush C dL_law_75 (by decide) ?_
  refine z_newI (N9 := 64) (cc9 := 29) (ss9 := 1081) C 3010 dL_law_77 (by decide +kernel) rfl (by decide) rfl rfl (Nat.le_of_ble_eq_true rfl) (Nat.le_of_ble_eq_true rfl) (fun a77 μ78 hq79 hA80 hF81 => ?_)
  have hF82 : Fr 3500 3500 μ72 μ78 := hF81 _ _
  have hC : RepC G z μ78 a1 s0 0 := (hF81 3500 3500).repc hC
  have hA14 := (hF81 0 0).ai hA14 (Or.inr (Nat.zero_le _))
  have hA20 := (hF81 0 0).ai hA20 (Or.inr (Nat.zero_le _))
  have hzz := (hF81 0 0).ol hzz (Or.inr (Nat.zero_le _))
  have hA26 := (hF81 0 0).ai hA26 (Or.inr (Nat.zero_le _))
  have hA32 := (hF81 0 0).ai hA32 (Or.inr (Nat.zero_le _))
  have hA38 := (hF81 0 0).ai hA38 (Or.inr (Nat.zero_le _))
  have hA44 := (hF81 0 0).ai hA44 (Or.inr (Nat.zero_le _))
  have hA50 := (hF81 0 0).ai hA50 (Or.inr (Nat.zero_le _))
  have hA56 := (hF81 0 0).ai hA56 (Or.inr (Nat.zero_le _))
  have hA62 := (hF81 0 0).ai hA62 (Or.inr (Nat.zero_le _))
  have hA68 := (hF81 0 0).ai hA68 (Or.inr (Nat.zero_le _))
  have hA74 := (hF81 0 0).ai hA74 (Or.inr (Nat.zero_le _))
  refine x_astore (lv' := [(14, .ref a77), (13, .ref a71), (12, .ref a65), (11, .ref a59), (10, .ref a53), (9, .ref a47), (8, .ref a41), (7, .ref a35), (6, .ref a29), (5, .ref a23), (4, .ref aJ), (3, .ref a17), (2, .ref a11), (1, .ref a1), (0, .ref bs)]) C dL_law_79 (by decide) rfl ?_
  have hS : LwS G z μ78 a1 (aA a11 a17 aJ a23 a29 a35 a41 a47 a53 a59 a65 a71 a77) s0 0 := ⟨hC, Kv_0, hA14.cong (fun j _ => (nF_s0 j).symm), hA20, ⟨_, hzz, ZB_s0⟩, hA26.cong (fun j _ => (dF_s0 j).symm), hA32, hA38.cong (fun j _ => (gF_s00 j).symm), hA44.cong (fun j _ => (uF_s0 j).symm), ⟨_, hA50, WR_s0 _⟩, hA56.cong (fun j _ => (sF_s0 j).symm), hA62.cong (fun j _ => (tF_s0 j).symm), hA68, hA74, _, hA80⟩
  refine x_sub (lv' := [(0, .ref bs), (1, .ref a1), (2, .ref a11), (3, .ref a17), (4, .ref aJ), (5, .ref a23), (6, .ref a29), (7, .ref a35), (8, .ref a41), (9, .ref a47), (10, .ref a53), (11, .ref a59), (12, .ref a65), (13, .ref a71), (14, .ref a77)]) [14, 13, 12, 11, 10, 9, 8, 7, 6, 5, 4, 3, 2, 1, 0] rfl ?_
  refine law_first C ⟨Nat.le_of_ble_eq_true rfl, Nat.le_of_ble_eq_true rfl⟩ (A := (aA a11 a17 aJ a23 a29 a35 a41 a47 a53 a59 a65 a71 a77)) hS (by omega) (fun μ' h => ?_)
  exact x_wid (a := 500 + 1040 * 0) (b := 5000 + 48600 * 0) (Nat.le_of_ble_eq_true rfl) (Nat.le_of_ble_eq_true rfl) (law_loop C hX kend _ 0 s0 μ' rfl (Nat.zero_le _) h)
