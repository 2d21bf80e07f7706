/-! p32: the law's helpers -/
theorem all_y {σ : SS} {row k : Nat} {but : Int} {S : Int64} (h : ∀ p, p < 64 → kb S p = ab σ row but p k) (e : (k : Int) = but) : ∀ p, p < 64 → kb (S &&& (-1)) p = ab σ row but p (k + 1) := fun p hp => by
  rw [kb_and, kb_m1 hp, Bool.and_true, h p hp]
  show _ = (ab σ row but p k && (decide ((k : Int) = but) || hb (σ 0 p) (dq σ row k) (p : Int)))
  rw [decide_eq_true e, Bool.true_or, Bool.and_true]
theorem all_n {σ : SS} {row k : Nat} {but : Int} {S K : Int64} (h : ∀ p, p < 64 → kb S p = ab σ row but p k) (e : ¬ (k : Int) = but) (hK : ∀ p, p < 64 → kb K p = hb (σ 0 p) (dq σ row k) (p : Int)) : ∀ p, p < 64 → kb (S &&& K) p = ab σ row but p (k + 1) := fun p hp => by
  rw [kb_and, h p hp, hK p hp]
  show _ = (ab σ row but p k && (decide ((k : Int) = but) || hb (σ 0 p) (dq σ row k) (p : Int)))
  rw [decide_eq_false e, Bool.false_or]
theorem ZB.yes {σ : SS} {K : Int64} (h : ZB σ K) {p : Nat} (hp : p < 64) (e : kb K p = true) : σ 1 p ≠ 0 := by
  rw [h p hp] at e; exact of_decide_eq_true e
theorem ZB.no {σ : SS} {K : Int64} (h : ZB σ K) {p : Nat} (hp : p < 64) (e : kb K p = false) : σ 1 p = 0 := by
  rw [h p hp] at e
  have := of_decide_eq_false e
  omega
theorem dv_rg {x : Int} (h : 0 ≤ x) (k : Nat) : 0 ≤ x / 2 ^ k ∧ x / 2 ^ k ≤ x := ⟨Int.ediv_nonneg h (Int.le_of_lt (Int.pow_pos (by decide))), Int.ediv_le_self _ h⟩
theorem ptq_c (σ : SS) (w s : Nat) : (σ 20 (6 * w + s) = 1 ∧ ptq σ w s = pts (σ 22 (6 * w + s)) (σ 21 (6 * w + s))) ∨ (σ 20 (6 * w + s) ≠ 1 ∧ ptq σ w s = 0) := by
  unfold ptq
  by_cases e : σ 20 (6 * w + s) = 1
  · exact Or.inl ⟨e, if_pos e⟩
  · exact Or.inr ⟨e, if_neg e⟩
theorem sm_s {P : Nat → Int} {k : Nat} : sm P (k + 1) = sm P k + P k := rfl
abbrev rm_L_far : Room := { frames := 0, cells := 0, slots := 0, locals := 0 }
set_option maxHeartbeats 4000000 in
set_option maxRecDepth 100000 in
theorem c_L_far (l : Launch) (hst : l.stackTraces = false) (G : GG) (z : Nat) (μ : Mm) (p q : Int) (hp : 0 ≤ p ∧ p < 64) (hq : 0 ≤ q ∧ q < 64) : Ct l yL_far wsL_far rm_L_far G z [.int (zI p), .int (zI q)] μ (rP μ (fun r => r = dst p q)) (nX) := by
  refine ct_of (cc := cL_far) (maxL := 4) (ret := (some .int)) (own := RL) (by decide) rfl rfl hst (Nat.le_of_ble_eq_true rfl) ?_
  intro E hLl hnm C R hT
  have h1 := iabs_c (p / 8 - q / 8)
  have h2 := iabs_c (p % 8 - q % 8)
  refine x_eq (lv' := [(0, .int (zI p)), (1, .int (zI q))]) rfl rfl ?_
  refine x_iload_n C dL_far_0 rfl 0 rfl ?_
  refine z_bipush C dL_far_1 (by decide) ?_
  refine z_idiv C dL_far_3 (rg_of (by omega) (by omega)) (by omega) (rg_of (by omega) (by omega)) (by omega) rfl ?_
  refine x_iload_n C dL_far_4 rfl 1 rfl ?_
  refine z_bipush C dL_far_5 (by decide) ?_
  refine z_idiv C dL_far_7 (rg_of (by omega) (by omega)) (by omega) (rg_of (by omega) (by omega)) (by omega) rfl ?_
  refine z_isub C dL_far_8 rfl ?_
  refine x_istore_n (lv' := [(2, .int (zI ((p / 8) - (q / 8)))), (0, .int (zI p)), (1, .int (zI q))]) C dL_far_9 rfl (by decide) rfl ?_
  refine x_iload_n C dL_far_10 rfl 1 rfl ?_
  refine z_bipush C dL_far_11 (by decide) ?_
  refine z_irem C dL_far_13 (rg_of (by omega) (by omega)) (by omega) (rg_of (by omega) (by omega)) (by omega) rfl ?_
  refine x_iload_n C dL_far_14 rfl 2 rfl ?_
  refine z_bipush C dL_far_15 (by decide) ?_
  refine z_irem C dL_far_17 (rg_of (by omega) (by omega)) (by omega) (rg_of (by omega) (by omega)) (by omega) rfl ?_
  refine z_isub C dL_far_18 rfl ?_
  refine x_istore_n (lv' := [(3, .int (zI ((p % 8) - (q % 8)))), (2, .int (zI ((p / 8) - (q / 8)))), (0, .int (zI p)), (1, .int (zI q))]) C dL_far_19 rfl (by decide) rfl ?_
  refine x_iload_n C dL_far_20 rfl 1 rfl ?_
  refine z_if_ge (tgt := 29) C dL_far_21 (by decide) (rg_of (by omega) (by omega)) (fun c_1 => ?_) (fun c_1 => ?_)
  · refine x_iload_n C dL_far_29 rfl 1 rfl ?_
    refine x_iload_n C dL_far_30 rfl 0 rfl ?_
    refine z_if_ge (tgt := 39) C dL_far_31 (by decide) (rg_of (by omega) (by omega)) (fun c_2 => ?_) (fun c_2 => ?_)
    · refine x_iload_n C dL_far_39 rfl 0 rfl ?_
      refine z_iadd C dL_far_40 rfl ?_
      exact x_iret C R dL_far_41 (Nat.le_of_ble_eq_true rfl) (Nat.le_of_ble_eq_true rfl) (⟨_, rfl, by (unfold dst; omega), rfl⟩)
    · refine x_iload_n C dL_far_34 rfl 0 rfl ?_
      refine z_ineg C dL_far_35 ?_
      refine x_goto (tgt := 40) C dL_far_36 (by decide) ?_
      refine z_iadd C dL_far_40 rfl ?_
      exact x_iret C R dL_far_41 (Nat.le_of_ble_eq_true rfl) (Nat.le_of_ble_eq_true rfl) (⟨_, rfl, by (unfold dst; omega), rfl⟩)
  · refine x_iload_n C dL_far_24 rfl 1 rfl ?_
    refine z_ineg C dL_far_25 ?_
    refine x_goto (tgt := 30) C dL_far_26 (by decide) ?_
    refine x_iload_n C dL_far_30 rfl 0 rfl ?_
    refine z_if_ge (tgt := 39) C dL_far_31 (by decide) (rg_of (by omega) (by omega)) (fun c_3 => ?_) (fun c_3 => ?_)
    · refine x_iload_n C dL_far_39 rfl 0 rfl ?_
      refine z_iadd C dL_far_40 rfl ?_
      exact x_iret C R dL_far_41 (Nat.le_of_ble_eq_true rfl) (Nat.le_of_ble_eq_true rfl) (⟨_, rfl, by (unfold dst; omega), rfl⟩)
    · refine x_iload_n C dL_far_34 rfl 0 rfl ?_
      refine z_ineg C dL_far_35 ?_
      refine x_goto (tgt := 40) C dL_far_36 (by decide) ?_
      refine z_iadd C dL_far_40 rfl ?_
      exact x_iret C R dL_far_41 (Nat.le_of_ble_eq_true rfl) (Nat.le_of_ble_eq_true rfl) (⟨_, rfl, by (unfold dst; omega), rfl⟩)
abbrev rm_L_where : Room := { frames := 1, cells := 0, slots := 0, locals := 23 }
set_option maxHeartbeats 4000000 in
set_option maxRecDepth 100000 in
theorem c_L_where (l : Launch) (hst : l.stackTraces = false) (G : GG) (z : Nat) (μ : Mm) (A1 : Nat) (H q : Nat → Int) (x : Int) (hh : AI G μ A1 4001 64 H) (hHr : ∀ j, j < 64 → 0 ≤ H j ∧ H j ≤ 9) (hx : 0 ≤ x ∧ x < 16384) (x8 : x % 8 = q 0) (x16 : x / 8 % 16 = q 1) (x64 : x / 128 % 64 = q 2) (x9 : (8191 < x ∧ q 3 = 1) ∨ (x ≤ 8191 ∧ q 3 = 0)) (hq0 : 0 ≤ q 0 ∧ q 0 ≤ 4) : Ct l yL_where wsL_where rm_L_where G z [.ref A1, .int (zI x)] μ (rPL μ (fun K => ∀ p, p < 64 → kb K p = hb (H p) q (p : Int))) (nX) := by
  refine ct_of (cc := cL_where) (maxL := 8) (ret := (some .long)) (own := RL) (by decide) rfl rfl hst (Nat.le_of_ble_eq_true rfl) ?_
  intro E hLl hnm C R hT
  refine x_eq (lv' := [(0, .ref A1), (1, .int (zI x))]) rfl rfl ?_
  refine x_lconst (v := (0 : Int64)) C dL_where_0 rfl ?_
  refine x_lstore_n (lv' := [(2, .long (0 : Int64)), (0, .ref A1), (1, .int (zI x))]) C dL_where_1 rfl (by decide) rfl ?_
  refine x_iload_n C dL_where_2 rfl 2 rfl ?_
  refine z_bipush C dL_where_3 (by decide) ?_
  refine z_idiv C dL_where_5 (rg_of (by omega) (by omega)) (by omega) (rg_of (by omega) (by omega)) (by omega) rfl ?_
  refine z_bipush C dL_where_6 (by decide) ?_
  refine z_irem C dL_where_8 (rg_of (by omega) (by omega)) (by omega) (rg_of (by omega) (by omega)) (by omega) rfl ?_
  refine x_istore (lv' := [(4, .int (zI ((x / 8) % 16))), (2, .long (0 : Int64)), (0, .ref A1), (1, .int (zI x))]) C dL_where_9 (by decide) rfl ?_
  refine z_iconst C dL_where_11 ?_
  refine x_istore (lv' := [(5, .int (zI 0)), (4, .int (zI ((x / 8) % 16))), (2, .long (0 : Int64)), (0, .ref A1), (1, .int (zI x))]) C dL_where_12 (by decide) rfl ?_
  have L14 : ∀ (M9 : Nat) (k : Nat) (kz : Int) (hkz : kz = (k : Int)) (S : Int64) (hk : k ≤ 64) (hS : WQ H q k S) (hM9 : 64 - k = M9), Wx E G 0 0 14 [(5, .int (zI kz)), (4, .int (zI ((x / 8) % 16))), (2, .long S), (0, .ref A1), (1, .int (zI x))] [] μ := by
    intro M9
    induction M9 using Nat.strongRecOn with
    | ind M9 ih14 =>
      intro k kz hkz S hk hS hM9
      subst hkz
      refine x_iload C dL_where_14 0 rfl ?_
      refine z_bipush C dL_where_16 (by decide) ?_
      refine z_icmp_ge (tgt := 213) C dL_where_18 (by decide) (rg_of (by omega) (by omega)) (rg_of (by omega) (by omega)) (fun c_1 => ?_) (fun c_1 => ?_)
      · refine x_iload_n C dL_where_213 rfl 4 rfl ?_
        refine z_sipush C dL_where_214 (by decide) ?_
        refine z_icmp_le (tgt := 228) C dL_where_217 (by decide) (rg_of (by omega) (by omega)) (rg_of (by omega) (by omega)) (fun c_2 => ?_) (fun c_2 => ?_)
        · refine x_lload_n C dL_where_228 rfl 2 rfl ?_
          exact x_lret C R dL_where_229 (Nat.le_of_ble_eq_true rfl) (Nat.le_of_ble_eq_true rfl) (⟨_, rfl, WQ_p hS (by omega) (by omega), rfl⟩)
        · refine x_lload_n C dL_where_220 rfl 2 rfl ?_
          refine x_ldc2 (v := (-1)) C dL_where_221 (by decide +kernel) ?_
          refine x_lxor C dL_where_224 rfl ?_
          refine x_goto (tgt := 229) C dL_where_225 (by decide) ?_
          exact x_lret C R dL_where_229 (Nat.le_of_ble_eq_true rfl) (Nat.le_of_ble_eq_true rfl) (⟨_, rfl, WQ_m hS (by omega) (by omega), rfl⟩)
      · have J95 : ∀ (its : Int) (hits : (q 0 = 0 ∧ its = (k : Int) / 8) ∨ (q 0 = 1 ∧ its = (k : Int) % 8) ∨ (q 0 = 2 ∧ its = 9 - H k) ∨ (q 0 = 3 ∧ its = dst (k : Int) (q 2)) ∨ (q 0 = 4 ∧ its = 0)), Wx E G 0 0 95 [(5, .int (zI (k : Int))), (4, .int (zI ((x / 8) % 16))), (2, .long S), (0, .ref A1), (1, .int (zI x))] [.int (zI its)] μ := by
          intro its hits
          have hd9 := dst_rg (p := (k : Int)) (q := q 2) (by omega) (by omega)
          have hH9 := hHr k (by omega)
          refine x_istore (lv' := [(6, .int (zI its)), (5, .int (zI (k : Int))), (4, .int (zI ((x / 8) % 16))), (2, .long S), (0, .ref A1), (1, .int (zI x))]) C dL_where_95 (by decide) rfl ?_
          have J189 : ∀ (b : Int) (hb9 : (b = 1 ∧ HS (H k) (q 0) (q 1) (q 2) (k : Int)) ∨ (b = 0 ∧ ¬ HS (H k) (q 0) (q 1) (q 2) (k : Int))), Wx E G 0 0 189 [(6, .int (zI its)), (5, .int (zI (k : Int))), (4, .int (zI ((x / 8) % 16))), (2, .long S), (0, .ref A1), (1, .int (zI x))] [.int (zI b)] μ := by
            intro b hb9
            refine x_istore (lv' := [(7, .int (zI b)), (6, .int (zI its)), (5, .int (zI (k : Int))), (4, .int (zI ((x / 8) % 16))), (2, .long S), (0, .ref A1), (1, .int (zI x))]) C dL_where_189 (by decide) rfl ?_
            refine x_lload_n C dL_where_191 rfl 4 rfl ?_
            refine x_iload C dL_where_192 0 rfl ?_
            refine z_if_eq (tgt := 204) C dL_where_194 (by decide) (rg_of (by omega) (by omega)) (fun c_3 => ?_) (fun c_3 => ?_)
            · refine x_lconst (v := (0 : Int64)) C dL_where_204 rfl ?_
              refine x_lor C dL_where_205 rfl ?_
              refine x_lstore_n (lv' := [(2, .long (S ||| (0 : Int64))), (7, .int (zI b)), (6, .int (zI its)), (5, .int (zI (k : Int))), (4, .int (zI ((x / 8) % 16))), (0, .ref A1), (1, .int (zI x))]) C dL_where_206 rfl (by decide) rfl ?_
              refine z_iinc (lv' := [(5, .int (zI ((k : Int) + 1))), (2, .long (S ||| (0 : Int64))), (7, .int (zI b)), (6, .int (zI its)), (4, .int (zI ((x / 8) % 16))), (0, .ref A1), (1, .int (zI x))]) C dL_where_207 3 rfl rfl (by decide) rfl ?_
              refine x_goto (tgt := 14) C dL_where_210 (by decide) ?_
              refine x_sub (lv' := [(5, .int (zI ((k : Int) + 1))), (4, .int (zI ((x / 8) % 16))), (2, .long (S ||| (0 : Int64))), (0, .ref A1), (1, .int (zI x))]) [0, 4, 1, 5, 6] rfl ?_
              exact ih14 _ (by omega) (k + 1) _ (by omega) _ (by omega) (WQ_n hS (by (rcases hb9 with ⟨h, -⟩ | ⟨-, h⟩; exfalso; omega; exact h))) rfl
            · refine x_lconst (v := (1 : Int64)) C dL_where_197 rfl ?_
              refine x_iload C dL_where_198 2 rfl ?_
              refine x_lshl (v := bitL k) C dL_where_200 rfl ?_
              refine x_goto (tgt := 205) C dL_where_201 (by decide) ?_
              refine x_lor C dL_where_205 rfl ?_
              refine x_lstore_n (lv' := [(2, .long (S ||| (bitL k))), (7, .int (zI b)), (6, .int (zI its)), (5, .int (zI (k : Int))), (4, .int (zI ((x / 8) % 16))), (0, .ref A1), (1, .int (zI x))]) C dL_where_206 rfl (by decide) rfl ?_
              refine z_iinc (lv' := [(5, .int (zI ((k : Int) + 1))), (2, .long (S ||| (bitL k))), (7, .int (zI b)), (6, .int (zI its)), (4, .int (zI ((x / 8) % 16))), (0, .ref A1), (1, .int (zI x))]) C dL_where_207 3 rfl rfl (by decide) rfl ?_
              refine x_goto (tgt := 14) C dL_where_210 (by decide) ?_
              refine x_sub (lv' := [(5, .int (zI ((k : Int) + 1))), (4, .int (zI ((x / 8) % 16))), (2, .long (S ||| (bitL k))), (0, .ref A1), (1, .int (zI x))]) [0, 4, 1, 5, 6] rfl ?_
              exact ih14 _ (by omega) (k + 1) _ (by omega) _ (by omega) (WQ_y hS (by omega) (by (rcases hb9 with ⟨-, h⟩ | ⟨h, -⟩; exact h; exfalso; omega))) rfl
          refine x_iload_n C dL_where_97 rfl 5 rfl ?_
          refine z_bipush C dL_where_98 (by decide) ?_
          refine z_irem C dL_where_100 (rg_of (by omega) (by omega)) (by omega) (rg_of (by omega) (by omega)) (by omega) rfl ?_
          refine z_iconst C dL_where_101 ?_
          refine z_icmp_ge (tgt := 120) C dL_where_102 (by decide) (rg_of (by omega) (by omega)) (rg_of (by omega) (by omega)) (fun c_4 => ?_) (fun c_4 => ?_)
          · refine x_iload_n C dL_where_120 rfl 5 rfl ?_
            refine z_bipush C dL_where_121 (by decide) ?_
            refine z_irem C dL_where_123 (rg_of (by omega) (by omega)) (by omega) (rg_of (by omega) (by omega)) (by omega) rfl ?_
            refine z_iconst C dL_where_124 ?_
            refine z_icmp_ne (tgt := 146) C dL_where_125 (by decide) (rg_of (by omega) (by omega)) (rg_of (by omega) (by omega)) (fun c_5 => ?_) (fun c_5 => ?_)
            · refine x_iload_n C dL_where_146 rfl 5 rfl ?_
              refine z_bipush C dL_where_147 (by decide) ?_
              refine z_irem C dL_where_149 (rg_of (by omega) (by omega)) (by omega) (rg_of (by omega) (by omega)) (by omega) rfl ?_
              refine z_iconst C dL_where_150 ?_
              refine z_icmp_ne (tgt := 169) C dL_where_151 (by decide) (rg_of (by omega) (by omega)) (rg_of (by omega) (by omega)) (fun c_6 => ?_) (fun c_6 => ?_)
              · refine x_iload C dL_where_169 1 rfl ?_
                refine z_bipush C dL_where_171 (by decide) ?_
                refine z_idiv C dL_where_173 (rg_of (by omega) (by omega)) (by omega) (rg_of (by omega) (by omega)) (by omega) rfl ?_
                refine x_iload C dL_where_174 1 rfl ?_
                refine z_iadd C dL_where_176 rfl ?_
                refine z_iconst C dL_where_177 ?_
                refine z_irem C dL_where_178 (rg_of (by omega) (by omega)) (by omega) (rg_of (by omega) (by omega)) (by omega) rfl ?_
                refine x_iload C dL_where_179 2 rfl ?_
                refine z_icmp_ne (tgt := 188) C dL_where_181 (by decide) (rg_of (by omega) (by omega)) (rg_of (by omega) (by omega)) (fun c_7 => ?_) (fun c_7 => ?_)
                · refine z_iconst C dL_where_188 ?_
                  exact J189 _ (Or.inr ⟨rfl, by (simp only [HS]; omega)⟩)
                · refine z_iconst C dL_where_184 ?_
                  refine x_goto (tgt := 189) C dL_where_185 (by decide) ?_
                  exact J189 _ (Or.inl ⟨rfl, by (simp only [HS]; omega)⟩)
              · refine x_iload C dL_where_154 0 rfl ?_
                refine x_iload C dL_where_156 2 rfl ?_
                refine z_icmp_gt (tgt := 165) C dL_where_158 (by decide) (rg_of (by omega) (by omega)) (rg_of (by omega) (by omega)) (fun c_8 => ?_) (fun c_8 => ?_)
                · refine z_iconst C dL_where_165 ?_
                  refine x_goto (tgt := 189) C dL_where_166 (by decide) ?_
                  exact J189 _ (Or.inr ⟨rfl, by (simp only [HS]; omega)⟩)
                · refine z_iconst C dL_where_161 ?_
                  refine x_goto (tgt := 189) C dL_where_162 (by decide) ?_
                  exact J189 _ (Or.inl ⟨rfl, by (simp only [HS]; omega)⟩)
            · refine x_iload C dL_where_128 0 rfl ?_
              refine z_bipush C dL_where_130 (by decide) ?_
              refine x_iload C dL_where_132 2 rfl ?_
              refine z_isub C dL_where_134 rfl ?_
              refine z_icmp_gt (tgt := 142) C dL_where_135 (by decide) (rg_of (by omega) (by omega)) (rg_of (by omega) (by omega)) (fun c_9 => ?_) (fun c_9 => ?_)
              · refine z_iconst C dL_where_142 ?_
                refine x_goto (tgt := 189) C dL_where_143 (by decide) ?_
                exact J189 _ (Or.inr ⟨rfl, by (simp only [HS]; omega)⟩)
              · refine z_iconst C dL_where_138 ?_
                refine x_goto (tgt := 189) C dL_where_139 (by decide) ?_
                exact J189 _ (Or.inl ⟨rfl, by (simp only [HS]; omega)⟩)
          · refine x_iload C dL_where_105 0 rfl ?_
            refine x_iload C dL_where_107 2 rfl ?_
            refine z_icmp_ge (tgt := 116) C dL_where_109 (by decide) (rg_of (by omega) (by omega)) (rg_of (by omega) (by omega)) (fun c_10 => ?_) (fun c_10 => ?_)
            · refine z_iconst C dL_where_116 ?_
              refine x_goto (tgt := 189) C dL_where_117 (by decide) ?_
              exact J189 _ (Or.inr ⟨rfl, by (simp only [HS]; omega)⟩)
            · refine z_iconst C dL_where_112 ?_
              refine x_goto (tgt := 189) C dL_where_113 (by decide) ?_
              exact J189 _ (Or.inl ⟨rfl, by (simp only [HS]; omega)⟩)
        refine x_iload_n C dL_where_21 rfl 4 rfl ?_
        refine z_bipush C dL_where_22 (by decide) ?_
        refine z_irem C dL_where_24 (rg_of (by omega) (by omega)) (by omega) (rg_of (by omega) (by omega)) (by omega) rfl ?_
        refine z_if_ne (tgt := 36) C dL_where_25 (by decide) (rg_of (by omega) (by omega)) (fun c_11 => ?_) (fun c_11 => ?_)
        · refine x_iload_n C dL_where_36 rfl 4 rfl ?_
          refine z_bipush C dL_where_37 (by decide) ?_
          refine z_irem C dL_where_39 (rg_of (by omega) (by omega)) (by omega) (rg_of (by omega) (by omega)) (by omega) rfl ?_
          refine z_iconst C dL_where_40 ?_
          refine z_icmp_ne (tgt := 52) C dL_where_41 (by decide) (rg_of (by omega) (by omega)) (rg_of (by omega) (by omega)) (fun c_12 => ?_) (fun c_12 => ?_)
          · refine x_iload_n C dL_where_52 rfl 4 rfl ?_
            refine z_bipush C dL_where_53 (by decide) ?_
            refine z_irem C dL_where_55 (rg_of (by omega) (by omega)) (by omega) (rg_of (by omega) (by omega)) (by omega) rfl ?_
            refine z_iconst C dL_where_56 ?_
            refine z_icmp_ne (tgt := 70) C dL_where_57 (by decide) (rg_of (by omega) (by omega)) (rg_of (by omega) (by omega)) (fun c_13 => ?_) (fun c_13 => ?_)
            · refine x_iload_n C dL_where_70 rfl 4 rfl ?_
              refine z_bipush C dL_where_71 (by decide) ?_
              refine z_irem C dL_where_73 (rg_of (by omega) (by omega)) (by omega) (rg_of (by omega) (by omega)) (by omega) rfl ?_
              refine z_iconst C dL_where_74 ?_
              refine z_icmp_ne (tgt := 94) C dL_where_75 (by decide) (rg_of (by omega) (by omega)) (rg_of (by omega) (by omega)) (fun c_14 => ?_) (fun c_14 => ?_)
              · refine z_iconst C dL_where_94 ?_
                exact J95 _ (by omega)
              · refine x_iload C dL_where_78 0 rfl ?_
                refine x_iload_n C dL_where_80 rfl 4 rfl ?_
                refine z_sipush C dL_where_81 (by decide) ?_
                refine z_idiv C dL_where_84 (rg_of (by omega) (by omega)) (by omega) (rg_of (by omega) (by omega)) (by omega) rfl ?_
                refine z_bipush C dL_where_85 (by decide) ?_
                refine z_irem C dL_where_87 (rg_of (by omega) (by omega)) (by omega) (rg_of (by omega) (by omega)) (by omega) rfl ?_
                refine x_callS (n := 2) (cc9 := 0) (ss9 := 0) (rest := []) C dL_where_88 (c_L_far (kxL E) C.st G z μ (k : Int) ((x / 128) % 64) (by omega) (by omega)) gL_where_L_far rfl (by decide +kernel) ⟨(Nat.le_of_ble_eq_true rfl), (Nat.le_of_ble_eq_true rfl)⟩ rfl rfl (Nat.le_of_ble_eq_true rfl) rfl rfl ⟨(Nat.le_of_ble_eq_true rfl), (Nat.le_of_ble_eq_true rfl)⟩ nX_no (fun v15 μ16 hv17 => ?_)
                obtain ⟨r18, hw21, h19, hm20⟩ := hv17
                subst hw21
                rw [hm20]
                rw [x64] at h19
                refine x_stk (stk' := [.int (zI r18)]) rfl ?_
                refine x_goto (tgt := 95) C dL_where_91 (by decide) ?_
                exact J95 _ (by omega)
            · refine z_bipush C dL_where_60 (by decide) ?_
              refine x_aload_n C dL_where_62 rfl 3 rfl ?_
              refine x_iload C dL_where_63 0 rfl ?_
              refine z_iald (j := k) C dL_where_65 hh (by omega) (by omega) (by decide) ?_
              have q_22 := hHr k (by omega)
              refine z_isub C dL_where_66 rfl ?_
              refine x_goto (tgt := 95) C dL_where_67 (by decide) ?_
              exact J95 _ (by omega)
          · refine x_iload C dL_where_44 0 rfl ?_
            refine z_bipush C dL_where_46 (by decide) ?_
            refine z_irem C dL_where_48 (rg_of (by omega) (by omega)) (by omega) (rg_of (by omega) (by omega)) (by omega) rfl ?_
            refine x_goto (tgt := 95) C dL_where_49 (by decide) ?_
            exact J95 _ (by omega)
        · refine x_iload C dL_where_28 0 rfl ?_
          refine z_bipush C dL_where_30 (by decide) ?_
          refine z_idiv C dL_where_32 (rg_of (by omega) (by omega)) (by omega) (rg_of (by omega) (by omega)) (by omega) rfl ?_
          refine x_goto (tgt := 95) C dL_where_33 (by decide) ?_
          exact J95 _ (by omega)
  exact L14 _ (0) _ (by omega) _ (by omega) WQ_0 rfl
abbrev rm_L_all : Room := { frames := 2, cells := 0, slots := 0, locals := 50 }
set_option maxHeartbeats 4000000 in
set_option maxRecDepth 100000 in
theorem c_L_all (l : Launch) (hst : l.stackTraces = false) (G : GG) (z : Nat) (μ : Mm) (A1 A3 A4 : Nat) (σ : SS) (n row : Nat) (but : Int) (hI : Iv σ n) (hh : AI G μ A1 4001 64 (σ 0)) (hd : AI G μ A3 4003 35 (dF σ)) (hy : AI G μ A4 4004 7 (σ 6)) (hrow : row < 7) (hbut : -2147483648 ≤ but ∧ but < 2147483648) : Ct l yL_all wsL_all rm_L_all G z [.ref A1, .ref A3, .ref A4, .int (zI (row : Int)), .int (zI but)] μ (rPL μ (fun K => ∀ p, p < 64 → kb K p = fitb σ row but p)) (nX) := by
  refine ct_of (cc := cL_all) (maxL := 8) (ret := (some .long)) (own := RL) (by decide) rfl rfl hst (Nat.le_of_ble_eq_true rfl) ?_
  intro E hLl hnm C R hT
  have h6 := hI.r6 row (by omega)
  have hnr : ((hn σ row : Nat) : Int) = σ 6 row := by (unfold hn; omega)
  refine x_eq (lv' := [(0, .ref A1), (1, .ref A3), (2, .ref A4), (3, .int (zI (row : Int))), (4, .int (zI but))]) rfl rfl ?_
  refine x_ldc2 (v := (-1)) C dL_all_0 (by decide +kernel) ?_
  refine x_lstore (lv' := [(5, .long (-1 : Int64)), (0, .ref A1), (1, .ref A3), (2, .ref A4), (3, .int (zI (row : Int))), (4, .int (zI but))]) C dL_all_3 (by decide) rfl ?_
  refine z_iconst C dL_all_5 ?_
  refine x_istore (lv' := [(7, .int (zI 0)), (5, .long (-1 : Int64)), (0, .ref A1), (1, .ref A3), (2, .ref A4), (3, .int (zI (row : Int))), (4, .int (zI but))]) C dL_all_6 (by decide) rfl ?_
  have L8 : ∀ (M9 : Nat) (k : Nat) (kz : Int) (hkz : kz = (k : Int)) (S : Int64) (hk : k ≤ hn σ row) (hS : ∀ p, p < 64 → kb S p = ab σ row but p k) (hM9 : hn σ row - k = M9), Wx E G 0 0 8 [(7, .int (zI kz)), (5, .long S), (0, .ref A1), (1, .ref A3), (2, .ref A4), (3, .int (zI (row : Int))), (4, .int (zI but))] [] μ := by
    intro M9
    induction M9 using Nat.strongRecOn with
    | ind M9 ih8 =>
      intro k kz hkz S hk hS hM9
      subst hkz
      refine x_iload C dL_all_8 0 rfl ?_
      refine x_aload_n C dL_all_10 rfl 4 rfl ?_
      refine x_iload_n C dL_all_11 rfl 5 rfl ?_
      refine z_iald (j := row) C dL_all_12 hy (by omega) (by omega) (by decide) ?_
      refine z_icmp_ge (tgt := 52) C dL_all_13 (by decide) (rg_of (by omega) (by omega)) (rg_of (by omega) (by omega)) (fun c_1 => ?_) (fun c_1 => ?_)
      · refine x_lload C dL_all_52 1 rfl ?_
        exact x_lret C R dL_all_54 (Nat.le_of_ble_eq_true rfl) (Nat.le_of_ble_eq_true rfl) (⟨_, rfl, (by (have ek : k = hn σ row := by omega); rw [ek] at hS; exact hS), rfl⟩)
      · refine x_lload C dL_all_16 1 rfl ?_
        refine x_iload C dL_all_18 0 rfl ?_
        refine x_iload C dL_all_20 6 rfl ?_
        refine z_icmp_ne (tgt := 31) C dL_all_22 (by decide) (rg_of (by omega) (by omega)) (rg_of (by omega) (by omega)) (fun c_2 => ?_) (fun c_2 => ?_)
        · refine x_aload_n C dL_all_31 rfl 2 rfl ?_
          refine x_aload_n C dL_all_32 rfl 3 rfl ?_
          refine z_iconst C dL_all_33 ?_
          refine x_iload_n C dL_all_34 rfl 5 rfl ?_
          refine z_imul C dL_all_35 rfl ?_
          refine x_iload C dL_all_36 0 rfl ?_
          refine z_iadd C dL_all_38 rfl ?_
          refine z_iald (j := 5 * row + k) C dL_all_39 hd (by omega) (by omega) (by decide) ?_
          have hd9 := dF_ok hI (j := 5 * row + k) (by omega)
          have hq9 := hI.r2 (5 * row + k) (by omega)
          refine x_callS (n := 2) (cc9 := 0) (ss9 := 0) (rest := [.long S]) C dL_all_40 (c_L_where (kxL E) C.st G z μ A1 (σ 0) (dq σ row k) (dF σ (5 * row + k)) hh (fun j hj => hI.r0 j hj) hd9.1 hd9.2.1 hd9.2.2.1 hd9.2.2.2.1 hd9.2.2.2.2 hq9) gL_all_L_where rfl (by decide +kernel) ⟨(Nat.le_of_ble_eq_true rfl), (Nat.le_of_ble_eq_true rfl)⟩ rfl rfl (Nat.le_of_ble_eq_true rfl) rfl rfl ⟨(Nat.le_of_ble_eq_true rfl), (Nat.le_of_ble_eq_true rfl)⟩ nX_no (fun v3 μ4 hv5 => ?_)
          obtain ⟨r6, hw9, h7, hm8⟩ := hv5
          subst hw9
          rw [hm8]
          refine x_stk (stk' := [.long r6, .long S]) rfl ?_
          refine x_land C dL_all_43 rfl ?_
          refine x_lstore (lv' := [(5, .long (S &&& r6)), (7, .int (zI (k : Int))), (0, .ref A1), (1, .ref A3), (2, .ref A4), (3, .int (zI (row : Int))), (4, .int (zI but))]) C dL_all_44 (by decide) rfl ?_
          refine z_iinc (lv' := [(7, .int (zI ((k : Int) + 1))), (5, .long (S &&& r6)), (0, .ref A1), (1, .ref A3), (2, .ref A4), (3, .int (zI (row : Int))), (4, .int (zI but))]) C dL_all_46 1 rfl rfl (by decide) rfl ?_
          refine x_goto (tgt := 8) C dL_all_49 (by decide) ?_
          exact ih8 _ (by omega) (k + 1) _ (by omega) _ (by omega) (all_n hS (by omega) h7) rfl
        · refine x_ldc2 (v := (-1)) C dL_all_25 (by decide +kernel) ?_
          refine x_goto (tgt := 43) C dL_all_28 (by decide) ?_
          refine x_land C dL_all_43 rfl ?_
          refine x_lstore (lv' := [(5, .long (S &&& (-1 : Int64))), (7, .int (zI (k : Int))), (0, .ref A1), (1, .ref A3), (2, .ref A4), (3, .int (zI (row : Int))), (4, .int (zI but))]) C dL_all_44 (by decide) rfl ?_
          refine z_iinc (lv' := [(7, .int (zI ((k : Int) + 1))), (5, .long (S &&& (-1 : Int64))), (0, .ref A1), (1, .ref A3), (2, .ref A4), (3, .int (zI (row : Int))), (4, .int (zI but))]) C dL_all_46 1 rfl rfl (by decide) rfl ?_
          refine x_goto (tgt := 8) C dL_all_49 (by decide) ?_
          exact ih8 _ (by omega) (k + 1) _ (by omega) _ (by omega) (all_y hS (by omega)) rfl
  exact L8 _ (0) _ (by omega) _ (by omega) (fun p hp => by (rw [kb_m1 hp]; rfl)) rfl
abbrev rm_L_many : Room := { frames := 0, cells := 0, slots := 0, locals := 0 }
set_option maxHeartbeats 4000000 in
set_option maxRecDepth 100000 in
theorem c_L_many (l : Launch) (hst : l.stackTraces = false) (G : GG) (z : Nat) (μ : Mm) (K : Int64)  : Ct l yL_many wsL_many rm_L_many G z [.long K] μ (rP μ (fun r => r = ctb (kb K) 64)) (nX) := by
  refine ct_of (cc := cL_many) (maxL := 5) (ret := (some .int)) (own := RL) (by decide) rfl rfl hst (Nat.le_of_ble_eq_true rfl) ?_
  intro E hLl hnm C R hT
  refine x_eq (lv' := [(0, .long K)]) rfl rfl ?_
  refine z_iconst C dL_many_0 ?_
  refine x_istore_n (lv' := [(2, .int (zI 0)), (0, .long K)]) C dL_many_1 rfl (by decide) rfl ?_
  refine x_lload_n C dL_many_2 rfl 1 rfl ?_
  refine x_lstore_n (lv' := [(3, .long K), (2, .int (zI 0)), (0, .long K)]) C dL_many_3 rfl (by decide) rfl ?_
  have L4 : ∀ (M9 : Nat) (m : Int) (R9 : Int64) (hm : m + ctb (kb R9) 64 = ctb (kb K) 64) (hmr : 0 ≤ m) (hM9 : (ctb (kb R9) 64).toNat = M9), Wx E G 0 0 4 [(3, .long R9), (2, .int (zI m)), (0, .long K)] [] μ := by
    intro M9
    induction M9 using Nat.strongRecOn with
    | ind M9 ih4 =>
      intro m R9 hm hmr hM9
      have hcr := ctb_rg (kb R9) 64
      have hck := ctb_rg (kb K) 64
      refine x_lload_n C dL_many_4 rfl 0 rfl ?_
      refine x_lconst (v := (0 : Int64)) C dL_many_5 rfl ?_
      refine x_lcmp C dL_many_6 rfl ?_
      refine x_if_eq (tgt := 22) C dL_many_7 (by decide) (fun c_l1 => ?_) (fun c_l1 => ?_)
      · replace c_l1 : R9 = (0 : Int64) := (lg_cmp_eq _ _).mp c_l1
        refine x_iload_n C dL_many_22 rfl 1 rfl ?_
        exact x_iret C R dL_many_23 (Nat.le_of_ble_eq_true rfl) (Nat.le_of_ble_eq_true rfl) (⟨_, rfl, (by (rw [c_l1, ctb_kz] at hm; omega)), rfl⟩)
      · replace c_l1 : ¬ R9 = (0 : Int64) := lg_ne.mp c_l1
        refine z_iinc (lv' := [(2, .int (zI (m + 1))), (3, .long R9), (0, .long K)]) C dL_many_10 1 rfl rfl (by decide) rfl ?_
        refine x_lload_n C dL_many_13 rfl 1 rfl ?_
        refine x_lload_n C dL_many_14 rfl 1 rfl ?_
        refine x_lconst (v := (1 : Int64)) C dL_many_15 rfl ?_
        refine x_lsub C dL_many_16 rfl ?_
        refine x_land C dL_many_17 rfl ?_
        refine x_lstore_n (lv' := [(3, .long (R9 &&& (R9 - (1 : Int64)))), (2, .int (zI (m + 1))), (0, .long K)]) C dL_many_18 rfl (by decide) rfl ?_
        refine x_goto (tgt := 4) C dL_many_19 (by decide) ?_
        have hlow := ctb_low c_l1
        have hcr2 := ctb_rg (kb (R9 &&& (R9 - 1))) 64
        exact ih4 _ (by omega) _ _ (by (have h9 : ctb (kb (R9 &&& (R9 - (1 : Int64)))) 64 = ctb (kb R9) 64 - 1 := hlow); omega) (by omega) rfl
  exact L4 _ _ _ (Int.zero_add _) (by omega) rfl
abbrev rm_L_only : Room := { frames := 0, cells := 0, slots := 0, locals := 0 }
set_option maxHeartbeats 4000000 in
set_option maxRecDepth 100000 in
theorem c_L_only (l : Launch) (hst : l.stackTraces = false) (G : GG) (z : Nat) (μ : Mm) (K : Int64)  : Ct l yL_only wsL_only rm_L_only G z [.long K] μ (rP μ (fun r => r = uq (kb K))) (nX) := by
  refine ct_of (cc := cL_only) (maxL := 4) (ret := (some .int)) (own := RL) (by decide) rfl rfl hst (Nat.le_of_ble_eq_true rfl) ?_
  intro E hLl hnm C R hT
  refine x_eq (lv' := [(0, .long K)]) rfl rfl ?_
  refine z_iconst C dL_only_0 ?_
  refine x_istore_n (lv' := [(2, .int (zI (-1))), (0, .long K)]) C dL_only_1 rfl (by decide) rfl ?_
  refine z_iconst C dL_only_2 ?_
  refine x_istore_n (lv' := [(3, .int (zI 0)), (2, .int (zI (-1))), (0, .long K)]) C dL_only_3 rfl (by decide) rfl ?_
  have L4 : ∀ (M9 : Nat) (r : Int) (k : Nat) (kz : Int) (hkz : kz = (k : Int)) (hk : k ≤ 64) (hO : OnI K k r) (hM9 : 64 - k = M9), Wx E G 0 0 4 [(3, .int (zI kz)), (2, .int (zI r)), (0, .long K)] [] μ := by
    intro M9
    induction M9 using Nat.strongRecOn with
    | ind M9 ih4 =>
      intro r k kz hkz hk hO hM9
      subst hkz
      have hrg := hO.rg
      refine x_iload_n C dL_only_4 rfl 0 rfl ?_
      refine z_bipush C dL_only_5 (by decide) ?_
      refine z_icmp_ge (tgt := 30) C dL_only_7 (by decide) (rg_of (by omega) (by omega)) (rg_of (by omega) (by omega)) (fun c_1 => ?_) (fun c_1 => ?_)
      · refine x_iload_n C dL_only_30 rfl 1 rfl ?_
        exact x_iret C R dL_only_31 (Nat.le_of_ble_eq_true rfl) (Nat.le_of_ble_eq_true rfl) (⟨_, rfl, hO.e (by omega), rfl⟩)
      · refine x_lload_n C dL_only_10 rfl 2 rfl ?_
        refine x_lconst (v := (1 : Int64)) C dL_only_11 rfl ?_
        refine x_iload_n C dL_only_12 rfl 0 rfl ?_
        refine x_lshl (v := bitL k) C dL_only_13 rfl ?_
        refine x_lcmp C dL_only_14 rfl ?_
        refine x_if_ne (tgt := 22) C dL_only_15 (by decide) (fun c_l2 => ?_) (fun c_l2 => ?_)
        · replace c_l2 : ¬ K = bitL k := lg_ne.mp c_l2
          refine x_iload_n C dL_only_22 rfl 1 rfl ?_
          refine x_istore_n (lv' := [(2, .int (zI r)), (3, .int (zI (k : Int))), (0, .long K)]) C dL_only_23 rfl (by decide) rfl ?_
          refine z_iinc (lv' := [(3, .int (zI ((k : Int) + 1))), (2, .int (zI r)), (0, .long K)]) C dL_only_24 1 rfl rfl (by decide) rfl ?_
          refine x_goto (tgt := 4) C dL_only_27 (by decide) ?_
          exact ih4 _ (by omega) _ (k + 1) _ (by omega) (by omega) (OnI_n hO c_l2) rfl
        · replace c_l2 : K = bitL k := (lg_cmp_eq _ _).mp c_l2
          refine x_iload_n C dL_only_18 rfl 0 rfl ?_
          refine x_goto (tgt := 23) C dL_only_19 (by decide) ?_
          refine x_istore_n (lv' := [(2, .int (zI (k : Int))), (3, .int (zI (k : Int))), (0, .long K)]) C dL_only_23 rfl (by decide) rfl ?_
          refine z_iinc (lv' := [(3, .int (zI ((k : Int) + 1))), (2, .int (zI (k : Int))), (0, .long K)]) C dL_only_24 1 rfl rfl (by decide) rfl ?_
          refine x_goto (tgt := 4) C dL_only_27 (by decide) ?_
          exact ih4 _ (by omega) _ (k + 1) _ (by omega) (by omega) (OnI_y (by omega) c_l2) rfl
  exact L4 _ _ (0) _ (by omega) (by omega) OnI_0 rfl
abbrev rm_L_letter : Room := { frames := 0, cells := 0, slots := 0, locals := 0 }
set_option maxHeartbeats 4000000 in
set_option maxRecDepth 100000 in
theorem c_L_letter (l : Launch) (hst : l.stackTraces = false) (G : GG) (z : Nat) (μ : Mm) (W : Nat → Int) (m k : Nat) (hL : L26 W m) (hk : k < m) (hm : m ≤ 5) : Ct l yL_letter wsL_letter rm_L_letter G z [.int (zI (wv W m)), .int (zI (k : Int))] μ (rP μ (fun r => r = W k)) (nX) := by
  refine ct_of (cc := cL_letter) (maxL := 2) (ret := (some .int)) (own := RL) (by decide) rfl rfl hst (Nat.le_of_ble_eq_true rfl) ?_
  intro E hLl hnm C R hT
  have hr := wv_rg hL hm
  have hv8 := dv_rg hr.1 (5 * k)
  refine x_eq (lv' := [(0, .int (zI (wv W m))), (1, .int (zI (k : Int)))]) rfl rfl ?_
  refine x_iload_n C dL_letter_0 rfl 0 rfl ?_
  refine z_iconst C dL_letter_1 ?_
  refine x_iload_n C dL_letter_2 rfl 1 rfl ?_
  refine z_imul C dL_letter_3 rfl ?_
  refine z_ishr C (5 * k) dL_letter_4 (by omega) (by omega) (by omega) (by omega) rfl ?_
  refine z_bipush C dL_letter_5 (by decide) ?_
  refine z_iand C 5 dL_letter_7 (by omega) (by omega) (by decide) rfl rfl ?_
  exact x_iret C R dL_letter_8 (Nat.le_of_ble_eq_true rfl) (Nat.le_of_ble_eq_true rfl) (⟨_, rfl, wv_let hL hk hm, rfl⟩)
abbrev rm_L_points : Room := { frames := 0, cells := 0, slots := 0, locals := 0 }
set_option maxHeartbeats 4000000 in
set_option maxRecDepth 100000 in
theorem c_L_points (l : Launch) (hst : l.stackTraces = false) (G : GG) (z : Nat) (μ : Mm) (A9 A10 : Nat) (σ : SS) (n w s : Nat) (hI : Iv σ n) (hn : n ≤ 600) (ht : AI G μ A9 4009 6 (tF σ)) (he : AI G μ A10 4010 36 (σ 22)) (hw : w < 6) (hs : s < 6) : Ct l yL_points wsL_points rm_L_points G z [.ref A9, .ref A10, .int (zI (w : Int)), .int (zI (s : Int))] μ (rP μ (fun r => r = pts (σ 22 (6 * w + s)) (σ 21 (6 * w + s)))) (nX) := by
  refine ct_of (cc := cL_points) (maxL := 5) (ret := (some .int)) (own := RL) (by decide) rfl rfl hst (Nat.le_of_ble_eq_true rfl) ?_
  intro E hLl hnm C R hT
  have h22 := hI.r22 (6 * w + s) (by omega)
  have h21 := hI.r21 (6 * w + s) (by omega)
  have hrf : ∀ u, u < 6 → 0 ≤ σ 21 (6 * w + u) ∧ σ 21 (6 * w + u) ≤ 1 := fun u hu => hI.r21 (6 * w + u) (by omega)
  have hbr : 0 ≤ tF σ w ∧ tF σ w < 64 := b6_rg hrf
  have hbb : tF σ w / 2 ^ s % 2 = σ 21 (6 * w + s) := b6_bit (f := fun u => σ 21 (6 * w + u)) hrf hs
  have hbv := dv_rg hbr.1 s
  refine x_eq (lv' := [(0, .ref A9), (1, .ref A10), (2, .int (zI (w : Int))), (3, .int (zI (s : Int)))]) rfl rfl ?_
  refine x_aload_n C dL_points_0 rfl 1 rfl ?_
  refine z_bipush C dL_points_1 (by decide) ?_
  refine x_iload_n C dL_points_3 rfl 2 rfl ?_
  refine z_imul C dL_points_4 rfl ?_
  refine x_iload_n C dL_points_5 rfl 3 rfl ?_
  refine z_iadd C dL_points_6 rfl ?_
  refine z_iald (j := 6 * w + s) C dL_points_7 he (by omega) (by omega) (by decide) ?_
  refine z_bipush C dL_points_8 (by decide) ?_
  refine z_icmp_le (tgt := 18) C dL_points_10 (by decide) (rg_of (by omega) (by omega)) (rg_of (by omega) (by omega)) (fun c_1 => ?_) (fun c_1 => ?_)
  · refine z_bipush C dL_points_18 (by decide) ?_
    refine z_bipush C dL_points_20 (by decide) ?_
    refine x_aload_n C dL_points_22 rfl 1 rfl ?_
    refine z_bipush C dL_points_23 (by decide) ?_
    refine x_iload_n C dL_points_25 rfl 2 rfl ?_
    refine z_imul C dL_points_26 rfl ?_
    refine x_iload_n C dL_points_27 rfl 3 rfl ?_
    refine z_iadd C dL_points_28 rfl ?_
    refine z_iald (j := 6 * w + s) C dL_points_29 he (by omega) (by omega) (by decide) ?_
    refine z_imul C dL_points_30 rfl ?_
    refine z_isub C dL_points_31 rfl ?_
    refine x_istore (lv' := [(4, .int (zI (100 - (10 * ((σ 22) (6 * w + s)))))), (0, .ref A9), (1, .ref A10), (2, .int (zI (w : Int))), (3, .int (zI (s : Int)))]) C dL_points_32 (by decide) rfl ?_
    refine x_aload_n C dL_points_34 rfl 1 rfl ?_
    refine x_iload_n C dL_points_35 rfl 3 rfl ?_
    refine z_iald (j := w) C dL_points_36 ht (by omega) (by omega) (by decide) ?_
    refine x_iload_n C dL_points_37 rfl 4 rfl ?_
    refine z_ishr C s dL_points_38 (by omega) (by omega) (by omega) (by omega) rfl ?_
    refine z_iconst C dL_points_39 ?_
    refine z_iand C 1 dL_points_40 (by omega) (by omega) (by decide) rfl rfl ?_
    refine z_iconst C dL_points_41 ?_
    refine z_icmp_ne (tgt := 52) C dL_points_42 (by decide) (rg_of (by omega) (by omega)) (rg_of (by omega) (by omega)) (fun c_2 => ?_) (fun c_2 => ?_)
    · refine x_iload C dL_points_52 0 rfl ?_
      exact x_iret C R dL_points_54 (Nat.le_of_ble_eq_true rfl) (Nat.le_of_ble_eq_true rfl) (⟨_, rfl, (by (have hp := pts_w (w := σ 22 (6 * w + s)) (t := σ 21 (6 * w + s)) (r := 100 - (10 * ((σ 22) (6 * w + s)))) h22.1 (by omega) (by omega)); omega), rfl⟩)
    · refine x_iload C dL_points_45 0 rfl ?_
      refine z_iconst C dL_points_47 ?_
      refine z_idiv C dL_points_48 (rg_of (by omega) (by omega)) (by omega) (rg_of (by omega) (by omega)) (by omega) rfl ?_
      refine x_goto (tgt := 54) C dL_points_49 (by decide) ?_
      exact x_iret C R dL_points_54 (Nat.le_of_ble_eq_true rfl) (Nat.le_of_ble_eq_true rfl) (⟨_, rfl, (by (have hp := pts_w (w := σ 22 (6 * w + s)) (t := σ 21 (6 * w + s)) (r := 100 - (10 * ((σ 22) (6 * w + s)))) h22.1 (by omega) (by omega)); omega), rfl⟩)
  · refine z_bipush C dL_points_13 (by decide) ?_
    refine x_goto (tgt := 32) C dL_points_15 (by decide) ?_
    refine x_istore (lv' := [(4, .int (zI 10)), (0, .ref A9), (1, .ref A10), (2, .int (zI (w : Int))), (3, .int (zI (s : Int)))]) C dL_points_32 (by decide) rfl ?_
    refine x_aload_n C dL_points_34 rfl 1 rfl ?_
    refine x_iload_n C dL_points_35 rfl 3 rfl ?_
    refine z_iald (j := w) C dL_points_36 ht (by omega) (by omega) (by decide) ?_
    refine x_iload_n C dL_points_37 rfl 4 rfl ?_
    refine z_ishr C s dL_points_38 (by omega) (by omega) (by omega) (by omega) rfl ?_
    refine z_iconst C dL_points_39 ?_
    refine z_iand C 1 dL_points_40 (by omega) (by omega) (by decide) rfl rfl ?_
    refine z_iconst C dL_points_41 ?_
    refine z_icmp_ne (tgt := 52) C dL_points_42 (by decide) (rg_of (by omega) (by omega)) (rg_of (by omega) (by omega)) (fun c_3 => ?_) (fun c_3 => ?_)
    · refine x_iload C dL_points_52 0 rfl ?_
      exact x_iret C R dL_points_54 (Nat.le_of_ble_eq_true rfl) (Nat.le_of_ble_eq_true rfl) (⟨_, rfl, (by (have hp := pts_w (w := σ 22 (6 * w + s)) (t := σ 21 (6 * w + s)) (r := 10) h22.1 (by omega) (by omega)); omega), rfl⟩)
    · refine x_iload C dL_points_45 0 rfl ?_
      refine z_iconst C dL_points_47 ?_
      refine z_idiv C dL_points_48 (rg_of (by omega) (by omega)) (by omega) (rg_of (by omega) (by omega)) (by omega) rfl ?_
      refine x_goto (tgt := 54) C dL_points_49 (by decide) ?_
      exact x_iret C R dL_points_54 (Nat.le_of_ble_eq_true rfl) (Nat.le_of_ble_eq_true rfl) (⟨_, rfl, (by (have hp := pts_w (w := σ 22 (6 * w + s)) (t := σ 21 (6 * w + s)) (r := 10) h22.1 (by omega) (by omega)); omega), rfl⟩)
abbrev rm_L_score : Room := { frames := 1, cells := 0, slots := 0, locals := 24 }
set_option maxHeartbeats 4000000 in
set_option maxRecDepth 100000 in
theorem c_L_score (l : Launch) (hst : l.stackTraces = false) (G : GG) (z : Nat) (μ : Mm) (A8 A9 A10 : Nat) (σ : SS) (n w : Nat) (hI : Iv σ n) (hn : n ≤ 600) (hs : AI G μ A8 4008 6 (sF σ)) (ht : AI G μ A9 4009 6 (tF σ)) (he : AI G μ A10 4010 36 (σ 22)) (hw : w < 6) : Ct l yL_score wsL_score rm_L_score G z [.ref A8, .ref A9, .ref A10, .int (zI (w : Int))] μ (rP μ (fun r => r = sm (ptq σ w) 6)) (nX) := by
  refine ct_of (cc := cL_score) (maxL := 6) (ret := (some .int)) (own := RL) (by decide) rfl rfl hst (Nat.le_of_ble_eq_true rfl) ?_
  intro E hLl hnm C R hT
  have hrf : ∀ u, u < 6 → 0 ≤ σ 20 (6 * w + u) ∧ σ 20 (6 * w + u) ≤ 1 := fun u hu => hI.r20 (6 * w + u) (by omega)
  have hbr : 0 ≤ sF σ w ∧ sF σ w < 64 := b6_rg hrf
  refine x_eq (lv' := [(0, .ref A8), (1, .ref A9), (2, .ref A10), (3, .int (zI (w : Int)))]) rfl rfl ?_
  refine z_iconst C dL_score_0 ?_
  refine x_istore (lv' := [(4, .int (zI 0)), (0, .ref A8), (1, .ref A9), (2, .ref A10), (3, .int (zI (w : Int)))]) C dL_score_1 (by decide) rfl ?_
  refine z_iconst C dL_score_3 ?_
  refine x_istore (lv' := [(5, .int (zI 0)), (4, .int (zI 0)), (0, .ref A8), (1, .ref A9), (2, .ref A10), (3, .int (zI (w : Int)))]) C dL_score_4 (by decide) rfl ?_
  have L6 : ∀ (M9 : Nat) (s9 : Int) (k : Nat) (kz : Int) (hkz : kz = (k : Int)) (hk : k ≤ 6) (hs9 : s9 = sm (ptq σ w) k) (hsr : 0 ≤ s9 ∧ s9 ≤ 100 * k) (hM9 : 6 - k = M9), Wx E G 0 0 6 [(5, .int (zI kz)), (4, .int (zI s9)), (0, .ref A8), (1, .ref A9), (2, .ref A10), (3, .int (zI (w : Int)))] [] μ := by
    intro M9
    induction M9 using Nat.strongRecOn with
    | ind M9 ih6 =>
      intro s9 k kz hkz hk hs9 hsr hM9
      subst hkz
      refine x_iload C dL_score_6 0 rfl ?_
      refine z_bipush C dL_score_8 (by decide) ?_
      refine z_icmp_ge (tgt := 48) C dL_score_10 (by decide) (rg_of (by omega) (by omega)) (rg_of (by omega) (by omega)) (fun c_1 => ?_) (fun c_1 => ?_)
      · refine x_iload C dL_score_48 1 rfl ?_
        exact x_iret C R dL_score_50 (Nat.le_of_ble_eq_true rfl) (Nat.le_of_ble_eq_true rfl) (⟨_, rfl, (by (rw [hs9, show k = 6 by omega])), rfl⟩)
      · have hbb : sF σ w / 2 ^ k % 2 = σ 20 (6 * w + k) := b6_bit (f := fun u => σ 20 (6 * w + u)) hrf (by omega)
        have hbv := dv_rg hbr.1 k
        have hpc := ptq_c σ w k
        have hpr := pts_rg (w := σ 22 (6 * w + k)) (t := σ 21 (6 * w + k)) (by (have := hI.r22 (6 * w + k) (by omega); omega))
        refine x_iload C dL_score_13 1 rfl ?_
        refine x_aload_n C dL_score_15 rfl 2 rfl ?_
        refine x_iload_n C dL_score_16 rfl 5 rfl ?_
        refine z_iald (j := w) C dL_score_17 hs (by omega) (by omega) (by decide) ?_
        refine x_iload C dL_score_18 0 rfl ?_
        refine z_ishr C k dL_score_20 (by omega) (by omega) (by omega) (by omega) rfl ?_
        refine z_iconst C dL_score_21 ?_
        refine z_iand C 1 dL_score_22 (by omega) (by omega) (by decide) rfl rfl ?_
        refine z_iconst C dL_score_23 ?_
        refine z_icmp_ne (tgt := 38) C dL_score_24 (by decide) (rg_of (by omega) (by omega)) (rg_of (by omega) (by omega)) (fun c_2 => ?_) (fun c_2 => ?_)
        · refine z_iconst C dL_score_38 ?_
          refine z_iadd C dL_score_39 rfl ?_
          refine x_istore (lv' := [(4, .int (zI (s9 + 0))), (5, .int (zI (k : Int))), (0, .ref A8), (1, .ref A9), (2, .ref A10), (3, .int (zI (w : Int)))]) C dL_score_40 (by decide) rfl ?_
          refine z_iinc (lv' := [(5, .int (zI ((k : Int) + 1))), (4, .int (zI (s9 + 0))), (0, .ref A8), (1, .ref A9), (2, .ref A10), (3, .int (zI (w : Int)))]) C dL_score_42 1 rfl rfl (by decide) rfl ?_
          refine x_goto (tgt := 6) C dL_score_45 (by decide) ?_
          exact ih6 _ (by omega) _ (k + 1) _ (by omega) (by omega) (by (rw [sm_s]; omega)) (by omega) rfl
        · refine x_aload_n C dL_score_27 rfl 3 rfl ?_
          refine x_aload_n C dL_score_28 rfl 4 rfl ?_
          refine x_iload_n C dL_score_29 rfl 5 rfl ?_
          refine x_iload C dL_score_30 0 rfl ?_
          refine x_callS (n := 4) (cc9 := 0) (ss9 := 0) (rest := [.int (zI s9)]) C dL_score_32 (c_L_points (kxL E) C.st G z μ A9 A10 σ n w k hI hn ht he hw (by omega)) gL_score_L_points rfl (by decide +kernel) ⟨(Nat.le_of_ble_eq_true rfl), (Nat.le_of_ble_eq_true rfl)⟩ rfl rfl (Nat.le_of_ble_eq_true rfl) rfl rfl ⟨(Nat.le_of_ble_eq_true rfl), (Nat.le_of_ble_eq_true rfl)⟩ nX_no (fun v3 μ4 hv5 => ?_)
          obtain ⟨r6, hw9, h7, hm8⟩ := hv5
          subst hw9
          rw [hm8]
          refine x_stk (stk' := [.int (zI r6), .int (zI s9)]) rfl ?_
          refine x_goto (tgt := 39) C dL_score_35 (by decide) ?_
          refine z_iadd C dL_score_39 rfl ?_
          refine x_istore (lv' := [(4, .int (zI (s9 + r6))), (5, .int (zI (k : Int))), (0, .ref A8), (1, .ref A9), (2, .ref A10), (3, .int (zI (w : Int)))]) C dL_score_40 (by decide) rfl ?_
          refine z_iinc (lv' := [(5, .int (zI ((k : Int) + 1))), (4, .int (zI (s9 + r6))), (0, .ref A8), (1, .ref A9), (2, .ref A10), (3, .int (zI (w : Int)))]) C dL_score_42 1 rfl rfl (by decide) rfl ?_
          refine x_goto (tgt := 6) C dL_score_45 (by decide) ?_
          exact ih6 _ (by omega) _ (k + 1) _ (by omega) (by omega) (by (rw [sm_s]; omega)) (by omega) rfl
  exact L6 _ _ (0) _ (by omega) (by omega) rfl (by omega) rfl
