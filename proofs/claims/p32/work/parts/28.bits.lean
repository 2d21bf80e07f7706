abbrev rm_J13_bitCount_95d88 : Room := { frames := 0, cells := 0, slots := 0, locals := 0 }
set_option maxHeartbeats 4000000 in
set_option maxRecDepth 100000 in
theorem c_J13_bitCount_95d88 (l : Launch) (hst : l.stackTraces = false) (G : GG) (z : Nat) (μ : Mm) (n : Nat) (b_n : n < 2 ^ 64) : Ct l yJ13_bitCount_95d88 wsJ13_bitCount_95d88 rm_J13_bitCount_95d88 G z [.long (lN n)] μ (rP μ (fun r9 => r9 = ctb (fun j => n.testBit j) 64)) (nX) := by
  refine ct_of (cc := cJ13_bitCount_95d88) (maxL := 2) (ret := (some .int)) (own := RJ13) (by decide) rfl rfl hst (Nat.le_of_ble_eq_true rfl) ?_
  intro E hLl hnm C R hT
  refine x_eq (lv' := [(0, .long (lN n))]) rfl rfl ?_
  refine x_lload_n C dJ13_bitCount_95d88_0 rfl 0 rfl ?_
  refine x_lload_n C dJ13_bitCount_95d88_1 rfl 0 rfl ?_
  refine z_iconst C dJ13_bitCount_95d88_2 ?_
  refine x_lushr (v := lN (n / 2)) C dJ13_bitCount_95d88_3 (bt_shr 1 b_n (by decide)) ?_
  refine x_ldc2 (v := lN 6148914691236517205) C dJ13_bitCount_95d88_4 (by decide +kernel) ?_
  refine x_land (v := lN ((n / 2) &&& 6148914691236517205)) C dJ13_bitCount_95d88_7 (bt_and _ _) ?_
  refine x_lsub (v := lN (n - ((n / 2) &&& 6148914691236517205))) C dJ13_bitCount_95d88_8 (bt_sub (bt_le n)) ?_
  refine x_lstore_n (lv' := [(0, .long (lN (n - ((n / 2) &&& 6148914691236517205))))]) C dJ13_bitCount_95d88_9 rfl (by decide) rfl ?_
  obtain ⟨n1, e_n1⟩ : ∃ m : Nat, m = (n - ((n / 2) &&& 6148914691236517205)) := ⟨_, rfl⟩
  have b_n1 : n1 < 2 ^ 64 := by rw [e_n1]; exact Nat.lt_of_le_of_lt (Nat.sub_le _ _) b_n
  refine x_eq (lv' := [(0, .long (lN n1))]) (by rw [e_n1]) rfl ?_
  refine x_lload_n C dJ13_bitCount_95d88_10 rfl 0 rfl ?_
  refine x_ldc2 (v := lN 3689348814741910323) C dJ13_bitCount_95d88_11 (by decide +kernel) ?_
  refine x_land (v := lN (n1 &&& 3689348814741910323)) C dJ13_bitCount_95d88_14 (bt_and _ _) ?_
  refine x_lload_n C dJ13_bitCount_95d88_15 rfl 0 rfl ?_
  refine z_iconst C dJ13_bitCount_95d88_16 ?_
  refine x_lushr (v := lN (n1 / 4)) C dJ13_bitCount_95d88_17 (bt_shr 2 b_n1 (by decide)) ?_
  refine x_ldc2 (v := lN 3689348814741910323) C dJ13_bitCount_95d88_18 (by decide +kernel) ?_
  refine x_land (v := lN ((n1 / 4) &&& 3689348814741910323)) C dJ13_bitCount_95d88_21 (bt_and _ _) ?_
  refine x_ladd (v := lN ((n1 &&& 3689348814741910323) + ((n1 / 4) &&& 3689348814741910323))) C dJ13_bitCount_95d88_22 (bt_add _ _) ?_
  refine x_lstore_n (lv' := [(0, .long (lN ((n1 &&& 3689348814741910323) + ((n1 / 4) &&& 3689348814741910323))))]) C dJ13_bitCount_95d88_23 rfl (by decide) rfl ?_
  obtain ⟨n2, e_n2⟩ : ∃ m : Nat, m = ((n1 &&& 3689348814741910323) + ((n1 / 4) &&& 3689348814741910323)) := ⟨_, rfl⟩
  have b_n2 : n2 < 2 ^ 64 := by rw [e_n2]; exact Nat.lt_of_le_of_lt (Nat.add_le_add (Nat.and_le_right) (Nat.and_le_right)) (by decide)
  refine x_eq (lv' := [(0, .long (lN n2))]) (by rw [e_n2]) rfl ?_
  refine x_lload_n C dJ13_bitCount_95d88_24 rfl 0 rfl ?_
  refine x_lload_n C dJ13_bitCount_95d88_25 rfl 0 rfl ?_
  refine z_iconst C dJ13_bitCount_95d88_26 ?_
  refine x_lushr (v := lN (n2 / 16)) C dJ13_bitCount_95d88_27 (bt_shr 4 b_n2 (by decide)) ?_
  refine x_ladd (v := lN (n2 + (n2 / 16))) C dJ13_bitCount_95d88_28 (bt_add _ _) ?_
  refine x_ldc2 (v := lN 1085102592571150095) C dJ13_bitCount_95d88_29 (by decide +kernel) ?_
  refine x_land (v := lN ((n2 + (n2 / 16)) &&& 1085102592571150095)) C dJ13_bitCount_95d88_32 (bt_and _ _) ?_
  refine x_lstore_n (lv' := [(0, .long (lN ((n2 + (n2 / 16)) &&& 1085102592571150095)))]) C dJ13_bitCount_95d88_33 rfl (by decide) rfl ?_
  obtain ⟨n3, e_n3⟩ : ∃ m : Nat, m = ((n2 + (n2 / 16)) &&& 1085102592571150095) := ⟨_, rfl⟩
  have b_n3 : n3 < 2 ^ 64 := by rw [e_n3]; exact Nat.lt_of_le_of_lt (Nat.and_le_right) (by decide)
  refine x_eq (lv' := [(0, .long (lN n3))]) (by rw [e_n3]) rfl ?_
  refine x_lload_n C dJ13_bitCount_95d88_34 rfl 0 rfl ?_
  refine x_lload_n C dJ13_bitCount_95d88_35 rfl 0 rfl ?_
  refine z_bipush C dJ13_bitCount_95d88_36 (by decide) ?_
  refine x_lushr (v := lN (n3 / 256)) C dJ13_bitCount_95d88_38 (bt_shr 8 b_n3 (by decide)) ?_
  refine x_ladd (v := lN (n3 + (n3 / 256))) C dJ13_bitCount_95d88_39 (bt_add _ _) ?_
  refine x_lstore_n (lv' := [(0, .long (lN (n3 + (n3 / 256))))]) C dJ13_bitCount_95d88_40 rfl (by decide) rfl ?_
  have u3 : n3 ≤ 1085102592571150095 := by rw [e_n3]; exact Nat.and_le_right
  obtain ⟨n4, e_n4⟩ : ∃ m : Nat, m = (n3 + (n3 / 256)) := ⟨_, rfl⟩
  have b_n4 : n4 < 2 ^ 64 := by rw [e_n4]; omega
  refine x_eq (lv' := [(0, .long (lN n4))]) (by rw [e_n4]) rfl ?_
  refine x_lload_n C dJ13_bitCount_95d88_41 rfl 0 rfl ?_
  refine x_lload_n C dJ13_bitCount_95d88_42 rfl 0 rfl ?_
  refine z_bipush C dJ13_bitCount_95d88_43 (by decide) ?_
  refine x_lushr (v := lN (n4 / 65536)) C dJ13_bitCount_95d88_45 (bt_shr 16 b_n4 (by decide)) ?_
  refine x_ladd (v := lN (n4 + (n4 / 65536))) C dJ13_bitCount_95d88_46 (bt_add _ _) ?_
  refine x_lstore_n (lv' := [(0, .long (lN (n4 + (n4 / 65536))))]) C dJ13_bitCount_95d88_47 rfl (by decide) rfl ?_
  obtain ⟨n5, e_n5⟩ : ∃ m : Nat, m = (n4 + (n4 / 65536)) := ⟨_, rfl⟩
  have b_n5 : n5 < 2 ^ 64 := by rw [e_n5]; omega
  refine x_eq (lv' := [(0, .long (lN n5))]) (by rw [e_n5]) rfl ?_
  refine x_lload_n C dJ13_bitCount_95d88_48 rfl 0 rfl ?_
  refine x_lload_n C dJ13_bitCount_95d88_49 rfl 0 rfl ?_
  refine z_bipush C dJ13_bitCount_95d88_50 (by decide) ?_
  refine x_lushr (v := lN (n5 / 4294967296)) C dJ13_bitCount_95d88_52 (bt_shr 32 b_n5 (by decide)) ?_
  refine x_ladd (v := lN (n5 + (n5 / 4294967296))) C dJ13_bitCount_95d88_53 (bt_add _ _) ?_
  refine x_lstore_n (lv' := [(0, .long (lN (n5 + (n5 / 4294967296))))]) C dJ13_bitCount_95d88_54 rfl (by decide) rfl ?_
  obtain ⟨n6, e_n6⟩ : ∃ m : Nat, m = (n5 + (n5 / 4294967296)) := ⟨_, rfl⟩
  have b_n6 : n6 < 2 ^ 64 := by rw [e_n6]; omega
  refine x_eq (lv' := [(0, .long (lN n6))]) (by rw [e_n6]) rfl ?_
  refine x_lload_n C dJ13_bitCount_95d88_55 rfl 0 rfl ?_
  refine x_l2i (v := (lN n6).toInt32) C dJ13_bitCount_95d88_56 rfl ?_
  refine z_bipush C dJ13_bitCount_95d88_57 (by decide) ?_
  refine x_iand (v := zI ((n6 % 128 : Nat) : Int)) C dJ13_bitCount_95d88_59 (bt_end _) ?_
  exact x_iret C R dJ13_bitCount_95d88_60 (Nat.le_of_ble_eq_true rfl) (Nat.le_of_ble_eq_true rfl) (⟨_, rfl, bt_all b_n e_n1 e_n2 e_n3 e_n4 e_n5 e_n6, rfl⟩)
