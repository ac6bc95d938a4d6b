/-! The reference: what its calls rest on. -/
theorem g_le64 {x y : Int64} : ¬ x < y ↔ y ≤ x := by
  rw [Int64.lt_iff_toInt_lt, Int64.le_iff_toInt_le]; omega
abbrev q_rng (v a b : Int64) : Prop := a ≤ v ∧ v ≤ b
theorem q_rng_in {x : Int32} {K : Int64} {k : Nat} (hK : K.toInt = (k : Int)) : q_rng x.toInt64 0 K ↔ q_in x (k + 1) := by
  unfold q_rng q_in
  rw [Int64.le_iff_toInt_le, Int64.le_iff_toInt_le, Int64.toInt_zero, Int32.toInt_toInt64, hK]
  omega
theorem g_dec1 {n : Nat} (hn : n ≤ 1000) : (nI n - nI 1).toInt = (n : Int) - 1 := by
  rcases Nat.eq_zero_or_pos n with rfl | h
  · decide
  · rw [nI_sub h, nI_toInt (by omega)]; omega
theorem q_rng_f {x : Int32} {n : Nat} (hn : n ≤ 1000) : q_rng x.toInt64 0 (nI n - nI 1).toInt64 ↔ q_in x n := by
  unfold q_rng q_in
  rw [Int64.le_iff_toInt_le, Int64.le_iff_toInt_le, Int64.toInt_zero, Int32.toInt_toInt64, Int32.toInt_toInt64, g_dec1 hn]
  omega
theorem g_up_id {V : g_V} {c k x : Nat} (h : V c k = x) : g_up V c k x = V := by
  funext c' k'
  unfold g_up
  by_cases q : c' = c ∧ k' = k
  · rw [if_pos q, q.1, q.2, h]
  · rw [if_neg q]
theorem q_and1 {b k : Nat} : (b >>> k) &&& 1 = if b.testBit k = true then 1 else 0 := by
  by_cases h : b.testBit k = true
  · rw [if_pos h]
    rcases Nat.mod_two_eq_zero_or_one (b >>> k) with q | q
    · exact absurd h (q_tb.mp (by rw [Nat.and_one_is_mod, q]))
    · rw [Nat.and_one_is_mod, q]
  · rw [if_neg h]; exact q_tb.mpr h
set_option maxRecDepth 4000 in
theorem c_M_in {G : g_G} (l : Launch) (V : g_V) (S : g_L) (v a b : Int64) : g_C G l y_M_in b_M_in 6 (some .boolean) 1 [.long (v), .long (a), .long (b)] V S (fun r V' S' => r = some (.int (nI (g_z (decide (q_rng v a b))))) ∧ V' = V ∧ S' = S) := by
  refine g_C.of (lv := [some (.long (v)), none, some (.long (a)), none, some (.long (b)), none]) (by decide +kernel) rfl rfl rfl (Nat.le_of_ble_eq_true rfl) ?_
  refine j_lload_n (i := 0) d_M_in_0 rfl lg0 ?_
  refine j_lload_n (i := 2) d_M_in_1 rfl lg2 ?_
  refine j_lcmp d_M_in_2 ?_
  refine j_if_lt (tgt := 17) d_M_in_3 (by decide) (fun h_3 => ?_) (fun h_3 => ?_)
  ·
    refine j_iconstN (k := 0) d_M_in_17 (by decide) ?_
    refine j_zret d_M_in_18 (by decide) ⟨g_z0 (fun q => by first | exact g_le64.mpr q.1 ((lg_cmp_lt _ _).mp h_3) | exact g_le64.mpr q.2 ((lg_cmp_gt _ _).mp h_10)), rfl, rfl⟩
  ·
    refine j_lload_n (i := 0) d_M_in_6 rfl lg0 ?_
    refine j_lload d_M_in_7 lg4 ?_
    refine j_lcmp d_M_in_9 ?_
    refine j_if_gt (tgt := 17) d_M_in_10 (by decide) (fun h_10 => ?_) (fun h_10 => ?_)
    ·
      refine j_iconstN (k := 0) d_M_in_17 (by decide) ?_
      refine j_zret d_M_in_18 (by decide) ⟨g_z0 (fun q => by first | exact g_le64.mpr q.1 ((lg_cmp_lt _ _).mp h_3) | exact g_le64.mpr q.2 ((lg_cmp_gt _ _).mp h_10)), rfl, rfl⟩
    ·
      refine j_iconstN (k := 1) d_M_in_13 (by decide) ?_
      refine j_goto (tgt := 18) d_M_in_14 (by decide) ?_
      refine j_zret d_M_in_18 (by decide) ⟨g_z1 ⟨g_le64.mp (fun q => h_3 ((lg_cmp_lt _ _).mpr q)), g_le64.mp (fun q => h_10 ((lg_cmp_gt _ _).mpr q))⟩, rfl, rfl⟩
set_option maxRecDepth 4000 in
theorem c_M_has {G : g_G} (l : Launch) (V : g_V) (S : g_L) (b k : Nat) (hb : b < 2 ^ 31) (hk : k < 32) : g_C G l y_M_has b_M_has 2 (some .boolean) 1 [.int (nI (b)), .int (nI (k))] V S (fun r V' S' => r = some (.int (nI (g_z (decide (b.testBit k = true))))) ∧ V' = V ∧ S' = S) := by
  refine g_C.of (lv := [some (.int (nI (b))), some (.int (nI (k)))]) (by decide +kernel) rfl rfl rfl (Nat.le_of_ble_eq_true rfl) ?_
  refine j_iload_n (i := 0) d_M_has_0 rfl lg0 ?_
  refine j_iload_n (i := 1) d_M_has_1 rfl lg1 ?_
  refine j_ishrN d_M_has_2 (by omega) (by omega) ?_
  refine j_iconstN (k := 1) d_M_has_3 (by decide) ?_
  refine j_iandN d_M_has_4 ?_
  refine j_iconstN (k := 1) d_M_has_5 (by decide) ?_
  have h1 := q_and1 (b := b) (k := k)
  refine j_icmp_neN (tgt := 13) d_M_has_6 (by decide) (Nat.lt_of_le_of_lt Nat.and_le_right (by decide)) (by decide) (fun h_6 => ?_) (fun h_6 => ?_)
  ·
    refine j_iconstN (k := 0) d_M_has_13 (by decide) ?_
    refine j_zret d_M_has_14 (by decide) ⟨g_z0 (fun q => by rw [if_pos q] at h1; exact h_6 h1), rfl, rfl⟩
  ·
    refine j_iconstN (k := 1) d_M_has_9 (by decide) ?_
    refine j_goto (tgt := 14) d_M_has_10 (by decide) ?_
    refine j_zret d_M_has_14 (by decide) ⟨g_z1 (by by_cases q : b.testBit k = true; exact q; rw [if_neg q] at h1; omega), rfl, rfl⟩
set_option maxRecDepth 4000 in
theorem lp_M_many {G : g_G} (l : Launch) (V : g_V) (S : g_L) (x : Nat) (hx : x < 64) : ∀ (n : Nat) (i s : Nat), (i ≤ 6) → (s = q_sum i (fun i => if x.testBit i = true then 1 else 0)) → 6 - i < n → JW G (g_M G l 1 (some .int) (fun r V' S' => r = some (.int (nI (q_bc x))) ∧ V' = V ∧ S' = S)) b_M_many R_M 4 [some (.int (nI (x))), some (.int (nI (s))), some (.int (nI (i)))] [] V S := by
  intro n
  induction n with
  | zero => intro i s hi hs hm; exact absurd hm (Nat.not_lt_zero _)
  | succ n ih =>
    intro i s hi hs hm
    refine j_iload_n (i := 2) d_M_many_4 rfl lg2 ?_
    refine j_bipushN (k := 6) d_M_many_5 (by decide) ?_
    refine j_icmp_geN (tgt := 24) d_M_many_7 (by decide) (by omega) (by omega) (fun h_7 => ?_) (fun h_7 => ?_)
    ·
      refine j_iload_n (i := 1) d_M_many_24 rfl lg1 ?_
      refine j_iret d_M_many_25 ⟨by rw [hs, show i = 6 by omega]; rfl, rfl, rfl⟩
    ·
      refine j_iload_n (i := 1) d_M_many_10 rfl lg1 ?_
      refine j_iload_n (i := 0) d_M_many_11 rfl lg0 ?_
      refine j_iload_n (i := 2) d_M_many_12 rfl lg2 ?_
      refine j_ishrN d_M_many_13 (by omega) (by omega) ?_
      refine j_iconstN (k := 1) d_M_many_14 (by decide) ?_
      refine j_iandN d_M_many_15 ?_
      refine j_iaddN d_M_many_16 ?_
      refine j_istore_n d_M_many_17 rfl ls1i ?_
      refine j_iincN (k := 1) d_M_many_18 lg2 (by decide) ls2i ?_
      refine j_goto (tgt := 4) d_M_many_21 (by decide) ?_
      exact ih (i + 1) _ (by omega) (by rw [hs, q_and1]; rfl) (by omega)
set_option maxRecDepth 4000 in
theorem c_M_many {G : g_G} (l : Launch) (V : g_V) (S : g_L) (x : Nat) (hx : x < 64) : g_C G l y_M_many b_M_many 3 (some .int) 1 [.int (nI (x))] V S (fun r V' S' => r = some (.int (nI (q_bc x))) ∧ V' = V ∧ S' = S) := by
  refine g_C.of (lv := [some (.int (nI (x))), none, none]) (by decide +kernel) rfl rfl rfl (Nat.le_of_ble_eq_true rfl) ?_
  refine j_iconstN (k := 0) d_M_many_0 (by decide) ?_
  refine j_istore_n d_M_many_1 rfl ls1i ?_
  refine j_iconstN (k := 0) d_M_many_2 (by decide) ?_
  refine j_istore_n d_M_many_3 rfl ls2i ?_
  exact lp_M_many l V S x hx _ 0 0 (by omega) rfl (Nat.lt_succ_self _)
set_option maxRecDepth 4000 in
theorem c_M_noFarm {G : g_G} (l : Launch) (V : g_V) (S : g_L) (hn : V 201 4 ≤ 6) (x : Int32) : g_C G l y_M_noFarm b_M_noFarm 2 (some .boolean) 2 [.ref (g_a G (201)), .int (x)] V S (fun r V' S' => r = some (.int (nI (g_z (decide (¬ q_in x (V 201 4)))))) ∧ V' = V ∧ S' = S) := by
  refine g_C.of (lv := [some (.ref (g_a G (201))), some (.int (x))]) (by decide +kernel) rfl rfl rfl (Nat.le_of_ble_eq_true rfl) ?_
  refine j_iload_n (i := 1) d_M_noFarm_0 rfl lg1 ?_
  refine j_i2l d_M_noFarm_1 ?_
  refine j_lconst (v := 0) d_M_noFarm_2 rfl ?_
  refine j_aload_n (i := 0) d_M_noFarm_3 rfl lg0 ?_
  refine gf_M_51 d_M_noFarm_4 ?_
  refine j_iconstN (k := 1) d_M_noFarm_7 (by decide) ?_
  refine j_isub d_M_noFarm_8 ?_
  refine j_i2l d_M_noFarm_9 ?_
  refine cl_M_54 (c_M_in l V S ((x).toInt64) (0) (((nI (V 201 4)) - (nI (1))).toInt64)) d_M_noFarm_10 rfl rfl (g_ftM (by decide)) (Nat.le_of_ble_eq_true rfl) (g_pu ?_)
  refine j_if_neB (tgt := 20) d_M_noFarm_13 (by decide) (fun h_13 => ?_) (fun h_13 => ?_)
  ·
    refine j_iconstN (k := 0) d_M_noFarm_20 (by decide) ?_
    refine j_zret d_M_noFarm_21 (by decide) ⟨g_z0 (fun q => q ((q_rng_f (by omega)).mp h_13)), rfl, rfl⟩
  ·
    refine j_iconstN (k := 1) d_M_noFarm_16 (by decide) ?_
    refine j_goto (tgt := 21) d_M_noFarm_17 (by decide) ?_
    refine j_zret d_M_noFarm_21 (by decide) ⟨g_z1 (fun q => h_13 ((q_rng_f (by omega)).mpr q)), rfl, rfl⟩
set_option maxRecDepth 4000 in
theorem c_M_noStorm {G : g_G} (l : Launch) (V : g_V) (S : g_L) (x : Int32) : g_C G l y_M_noStorm b_M_noStorm 1 (some .boolean) 2 [.int (x)] V S (fun r V' S' => r = some (.int (nI (g_z (decide (¬ q_in x 21))))) ∧ V' = V ∧ S' = S) := by
  refine g_C.of (lv := [some (.int (x))]) (by decide +kernel) rfl rfl rfl (Nat.le_of_ble_eq_true rfl) ?_
  refine j_iload_n (i := 0) d_M_noStorm_0 rfl lg0 ?_
  refine j_i2l d_M_noStorm_1 ?_
  refine j_lconst (v := 0) d_M_noStorm_2 rfl ?_
  refine j_ldc2 (v := 20) d_M_noStorm_3 (g_use (List.mem_of_getElem? (i := 627) (by decide +kernel)) rfl) ?_
  refine cl_M_54 (c_M_in l V S ((x).toInt64) (0) (20)) d_M_noStorm_6 rfl rfl (g_ftM (by decide)) (Nat.le_of_ble_eq_true rfl) (g_pu ?_)
  refine j_if_neB (tgt := 16) d_M_noStorm_9 (by decide) (fun h_9 => ?_) (fun h_9 => ?_)
  ·
    refine j_iconstN (k := 0) d_M_noStorm_16 (by decide) ?_
    refine j_zret d_M_noStorm_17 (by decide) ⟨g_z0 (fun q => q ((q_rng_in (k := 20) (by decide)).mp h_9)), rfl, rfl⟩
  ·
    refine j_iconstN (k := 1) d_M_noStorm_12 (by decide) ?_
    refine j_goto (tgt := 17) d_M_noStorm_13 (by decide) ?_
    refine j_zret d_M_noStorm_17 (by decide) ⟨g_z1 (fun q => h_9 ((q_rng_in (k := 20) (by decide)).mpr q)), rfl, rfl⟩
set_option maxRecDepth 4000 in
theorem c_M_everyone {G : g_G} (l : Launch) (V : g_V) (S : g_L) (hn : V 201 4 ≤ 6) : g_C G l y_M_everyone b_M_everyone 1 (some .int) 1 [.ref (g_a G (201))] V S (fun r V' S' => r = some (.int (nI (1 <<< V 201 4 - 1))) ∧ V' = V ∧ S' = S) := by
  refine g_C.of (lv := [some (.ref (g_a G (201)))]) (by decide +kernel) rfl rfl rfl (Nat.le_of_ble_eq_true rfl) ?_
  refine j_iconstN (k := 1) d_M_everyone_0 (by decide) ?_
  refine j_aload_n (i := 0) d_M_everyone_1 rfl lg0 ?_
  refine gf_M_51 d_M_everyone_2 ?_
  refine j_ishlN d_M_everyone_5 (by omega) ?_
  refine j_iconstN (k := 1) d_M_everyone_6 (by decide) ?_
  refine j_isubN d_M_everyone_7 (Nat.one_shiftLeft _ ▸ Nat.two_pow_pos _) ?_
  refine j_iret d_M_everyone_8 ⟨rfl, rfl, rfl⟩
def M_K (V : g_V) : Prop := ∀ i, i < 6 → V 203 i ≤ 3 ∧ V 204 i ≤ 9 ∧ V 205 i ≤ 3
def M_str (V : g_V) (c i : Nat) : Nat := q_str (V 205 i) (V 203 i) (V c i)
theorem M_str_lt {V : g_V} {c : Nat} (hK : M_K V) (hH : g_H V c) {i : Nat} (hi : i < 6) : M_str V c i < 2000 := q_str_lt (hK i hi).1 (by have := hH i hi; omega)
set_option maxRecDepth 4000 in
theorem c_M_strength {G : g_G} (l : Launch) (V : g_V) (S : g_L) (c f : Nat) (hc : g_I c 57) (hf : f < 6) (hK : M_K V) : g_C G l y_M_strength b_M_strength 4 (some .int) 1 [.ref (g_a G (201)), .ref (g_a G (c)), .int (nI (f))] V S (fun r V' S' => r = some (.int (nI (M_str V c f))) ∧ V' = V ∧ S' = S) := by
  refine g_C.of (lv := [some (.ref (g_a G (201))), some (.ref (g_a G (c))), some (.int (nI (f))), none]) (by decide +kernel) rfl rfl rfl (Nat.le_of_ble_eq_true rfl) ?_
  have hk := (hK f hf).2.2
  refine j_aload_n (i := 0) d_M_strength_0 rfl lg0 ?_
  refine gf_M_19 d_M_strength_1 ?_
  refine j_iload_n (i := 2) d_M_strength_4 rfl lg2 ?_
  refine j_iald d_M_strength_5 gI_205 (by omega) ?_
  refine j_iconstN (k := 1) d_M_strength_6 (by decide) ?_
  refine j_icmp_neN (tgt := 14) d_M_strength_7 (by decide) (by omega) (by omega) (fun h_7 => ?_) (fun h_7 => ?_)
  ·
    refine j_aload_n (i := 0) d_M_strength_14 rfl lg0 ?_
    refine gf_M_19 d_M_strength_15 ?_
    refine j_iload_n (i := 2) d_M_strength_18 rfl lg2 ?_
    refine j_iald d_M_strength_19 gI_205 (by omega) ?_
    refine j_iconstN (k := 2) d_M_strength_20 (by decide) ?_
    refine j_icmp_neN (tgt := 35) d_M_strength_21 (by decide) (by omega) (by omega) (fun h_21 => ?_) (fun h_21 => ?_)
    ·
      refine j_aload_n (i := 0) d_M_strength_35 rfl lg0 ?_
      refine gf_M_19 d_M_strength_36 ?_
      refine j_iload_n (i := 2) d_M_strength_39 rfl lg2 ?_
      refine j_iald d_M_strength_40 gI_205 (by omega) ?_
      refine j_iconstN (k := 3) d_M_strength_41 (by decide) ?_
      refine j_icmp_neN (tgt := 56) d_M_strength_42 (by decide) (by omega) (by omega) (fun h_42 => ?_) (fun h_42 => ?_)
      ·
        refine j_aload_n (i := 0) d_M_strength_56 rfl lg0 ?_
        refine gf_M_13 d_M_strength_57 ?_
        refine j_iload_n (i := 2) d_M_strength_60 rfl lg2 ?_
        refine j_iald d_M_strength_61 gI_203 (by omega) ?_
        refine j_istore_n d_M_strength_62 rfl ls3i ?_
        refine j_aload_n (i := 1) d_M_strength_63 rfl lg1 ?_
        refine j_iconstN (k := 0) d_M_strength_64 (by decide) ?_
        refine j_iload_n (i := 2) d_M_strength_65 rfl lg2 ?_
        refine j_iaddN d_M_strength_66 ?_
        refine j_iald d_M_strength_67 hc (by omega) ?_
        refine j_iload_n (i := 3) d_M_strength_68 rfl lg3 ?_
        refine j_iaddN d_M_strength_69 ?_
        refine j_iret d_M_strength_70 ⟨by unfold M_str q_str; rw [Nat.zero_add, if_neg h_7, if_neg h_21, if_neg h_42], rfl, rfl⟩
      ·
        refine j_aload_n (i := 0) d_M_strength_45 rfl lg0 ?_
        refine gf_M_13 d_M_strength_46 ?_
        refine j_iload_n (i := 2) d_M_strength_49 rfl lg2 ?_
        refine j_iald d_M_strength_50 gI_203 (by omega) ?_
        refine j_iconstN (k := 2) d_M_strength_51 (by decide) ?_
        refine j_iaddN d_M_strength_52 ?_
        refine j_goto (tgt := 62) d_M_strength_53 (by decide) ?_
        refine j_istore_n d_M_strength_62 rfl ls3i ?_
        refine j_aload_n (i := 1) d_M_strength_63 rfl lg1 ?_
        refine j_iconstN (k := 0) d_M_strength_64 (by decide) ?_
        refine j_iload_n (i := 2) d_M_strength_65 rfl lg2 ?_
        refine j_iaddN d_M_strength_66 ?_
        refine j_iald d_M_strength_67 hc (by omega) ?_
        refine j_iload_n (i := 3) d_M_strength_68 rfl lg3 ?_
        refine j_iaddN d_M_strength_69 ?_
        refine j_iret d_M_strength_70 ⟨by unfold M_str q_str; rw [Nat.zero_add, if_neg h_7, if_neg h_21, if_pos h_42, Nat.add_assoc], rfl, rfl⟩
    ·
      refine j_iconstN (k := 2) d_M_strength_24 (by decide) ?_
      refine j_aload_n (i := 0) d_M_strength_25 rfl lg0 ?_
      refine gf_M_13 d_M_strength_26 ?_
      refine j_iload_n (i := 2) d_M_strength_29 rfl lg2 ?_
      refine j_iald d_M_strength_30 gI_203 (by omega) ?_
      refine j_imulN d_M_strength_31 ?_
      refine j_goto (tgt := 62) d_M_strength_32 (by decide) ?_
      refine j_istore_n d_M_strength_62 rfl ls3i ?_
      refine j_aload_n (i := 1) d_M_strength_63 rfl lg1 ?_
      refine j_iconstN (k := 0) d_M_strength_64 (by decide) ?_
      refine j_iload_n (i := 2) d_M_strength_65 rfl lg2 ?_
      refine j_iaddN d_M_strength_66 ?_
      refine j_iald d_M_strength_67 hc (by omega) ?_
      refine j_iload_n (i := 3) d_M_strength_68 rfl lg3 ?_
      refine j_iaddN d_M_strength_69 ?_
      refine j_iret d_M_strength_70 ⟨by unfold M_str q_str; rw [Nat.zero_add, if_neg h_7, if_pos h_21], rfl, rfl⟩
  ·
    refine j_iconstN (k := 0) d_M_strength_10 (by decide) ?_
    refine j_goto (tgt := 62) d_M_strength_11 (by decide) ?_
    refine j_istore_n d_M_strength_62 rfl ls3i ?_
    refine j_aload_n (i := 1) d_M_strength_63 rfl lg1 ?_
    refine j_iconstN (k := 0) d_M_strength_64 (by decide) ?_
    refine j_iload_n (i := 2) d_M_strength_65 rfl lg2 ?_
    refine j_iaddN d_M_strength_66 ?_
    refine j_iald d_M_strength_67 hc (by omega) ?_
    refine j_iload_n (i := 3) d_M_strength_68 rfl lg3 ?_
    refine j_iaddN d_M_strength_69 ?_
    refine j_iret d_M_strength_70 ⟨by unfold M_str q_str; rw [Nat.zero_add, if_pos h_7, Nat.add_zero], rfl, rfl⟩
set_option maxRecDepth 4000 in
theorem lp_M_breaksBy {G : g_G} (l : Launch) (V : g_V) (S : g_L) (hn : V 201 4 ≤ 6) (hK : M_K V) (c x : Nat) (hc : g_I c 57) (hH : g_H V c) (hx : x ≤ 20) : ∀ (n : Nat) (i b : Nat), (i ≤ V 201 4) → (b = q_brk i (M_str V c) x) → V 201 4 - i < n → JW G (g_M G l 2 (some .int) (fun r V' S' => r = some (.int (nI (q_brk (V 201 4) (M_str V c) x))) ∧ V' = V ∧ S' = S)) b_M_breaksBy R_M 5 [some (.ref (g_a G (201))), some (.ref (g_a G (c))), some (.int (nI (x))), some (.int (nI (b))), some (.int (nI (i)))] [] V S := by
  intro n
  induction n with
  | zero => intro i b hi hb hm; exact absurd hm (Nat.not_lt_zero _)
  | succ n ih =>
    intro i b hi hb hm
    refine j_iload d_M_breaksBy_5 lg4 ?_
    refine j_aload_n (i := 0) d_M_breaksBy_7 rfl lg0 ?_
    refine gf_M_51 d_M_breaksBy_8 ?_
    refine j_icmp_geN (tgt := 42) d_M_breaksBy_11 (by decide) (by omega) (by omega) (fun h_11 => ?_) (fun h_11 => ?_)
    ·
      refine j_iload_n (i := 3) d_M_breaksBy_42 rfl lg3 ?_
      refine j_iret d_M_breaksBy_43 ⟨by rw [hb, show i = V 201 4 by omega], rfl, rfl⟩
    ·
      have hs := M_str_lt hK hH (i := i) (by omega)
      refine j_iload_n (i := 3) d_M_breaksBy_14 rfl lg3 ?_
      refine j_iload_n (i := 2) d_M_breaksBy_15 rfl lg2 ?_
      refine j_aload_n (i := 0) d_M_breaksBy_16 rfl lg0 ?_
      refine j_aload_n (i := 1) d_M_breaksBy_17 rfl lg1 ?_
      refine j_iload d_M_breaksBy_18 lg4 ?_
      refine cl_M_101 (c_M_strength l V S (c) (i) hc (by omega) hK) d_M_breaksBy_20 rfl rfl (g_ftM (by decide)) (Nat.le_of_ble_eq_true rfl) (g_pu ?_)
      refine j_icmp_leN (tgt := 33) d_M_breaksBy_23 (by decide) (by omega) (by omega) (fun h_23 => ?_) (fun h_23 => ?_)
      ·
        refine j_iconstN (k := 0) d_M_breaksBy_33 (by decide) ?_
        refine j_iorN d_M_breaksBy_34 ?_
        refine j_istore_n d_M_breaksBy_35 rfl ls3i ?_
        refine j_iincN (k := 1) d_M_breaksBy_36 lg4 (by decide) ls4i ?_
        refine j_goto (tgt := 5) d_M_breaksBy_39 (by decide) ?_
        exact ih (i + 1) _ (by omega) (by rw [hb]; show _ = q_or i _ ||| (if _ then _ else _); rw [if_neg (show ¬ M_str V c i < x from Nat.not_lt.mpr h_23)]; rfl) (by omega)
      ·
        refine j_iconstN (k := 1) d_M_breaksBy_26 (by decide) ?_
        refine j_iload d_M_breaksBy_27 lg4 ?_
        refine j_ishlN d_M_breaksBy_29 (by omega) ?_
        refine j_goto (tgt := 34) d_M_breaksBy_30 (by decide) ?_
        refine j_iorN d_M_breaksBy_34 ?_
        refine j_istore_n d_M_breaksBy_35 rfl ls3i ?_
        refine j_iincN (k := 1) d_M_breaksBy_36 lg4 (by decide) ls4i ?_
        refine j_goto (tgt := 5) d_M_breaksBy_39 (by decide) ?_
        exact ih (i + 1) _ (by omega) (by rw [hb]; show _ = q_or i _ ||| (if _ then _ else _); rw [if_pos (show M_str V c i < x from h_23)]; rfl) (by omega)
set_option maxRecDepth 4000 in
theorem c_M_breaksBy {G : g_G} (l : Launch) (V : g_V) (S : g_L) (hn : V 201 4 ≤ 6) (hK : M_K V) (c x : Nat) (hc : g_I c 57) (hH : g_H V c) (hx : x ≤ 20) : g_C G l y_M_breaksBy b_M_breaksBy 5 (some .int) 2 [.ref (g_a G (201)), .ref (g_a G (c)), .int (nI (x))] V S (fun r V' S' => r = some (.int (nI (q_brk (V 201 4) (M_str V c) x))) ∧ V' = V ∧ S' = S) := by
  refine g_C.of (lv := [some (.ref (g_a G (201))), some (.ref (g_a G (c))), some (.int (nI (x))), none, none]) (by decide +kernel) rfl rfl rfl (Nat.le_of_ble_eq_true rfl) ?_
  refine j_iconstN (k := 0) d_M_breaksBy_0 (by decide) ?_
  refine j_istore_n d_M_breaksBy_1 rfl ls3i ?_
  refine j_iconstN (k := 0) d_M_breaksBy_2 (by decide) ?_
  refine j_istore d_M_breaksBy_3 ls4i ?_
  exact lp_M_breaksBy l V S hn hK c x hc hH hx _ 0 0 (by omega) rfl (Nat.lt_succ_self _)
set_option maxRecDepth 4000 in
theorem lp_M_drownsBy2 {G : g_G} (l : Launch) (V : g_V) (S : g_L) (hn : V 201 4 ≤ 6) (c b : Nat) (hc : g_I c 57) (hd : V c 19 < 64) (hb : b < 64) : ∀ (n : Nat) (k t : Nat) (i : Int32), (g_dn i k) → (k ≤ 5) → (t < 64) → (q_wet (V 201 4) (V c 19) b = q_dn (V c 19) k t) → k < n → JW G (g_M G l 2 (some .int) (fun r V' S' => r = some (.int (nI (q_wet (V 201 4) (V c 19) b))) ∧ V' = V ∧ S' = S)) b_M_drownsBy R_M 64 [some (.ref (g_a G (201))), some (.ref (g_a G (c))), some (.int (nI (b))), some (.int (nI (t))), some (.int (i))] [] V S := by
  intro n
  induction n with
  | zero => intro k t i hi hk ht he hm; exact absurd hm (Nat.not_lt_zero _)
  | succ n ih =>
    intro k t i hi hk ht he hm
    refine j_iload d_M_drownsBy_64 lg4 ?_
    refine j_if_lt (tgt := 109) d_M_drownsBy_66 (by decide) (fun h_66 => ?_) (fun h_66 => ?_)
    ·
      refine j_iload_n (i := 3) d_M_drownsBy_109 rfl lg3 ?_
      refine j_iret d_M_drownsBy_110 ⟨by rw [he, g_dn_neg hi h_66 (by omega)]; rfl, rfl, rfl⟩
    ·
      obtain ⟨k', rfl, rfl⟩ := g_dn_pos hi h_66
      refine j_iload_n (i := 3) d_M_drownsBy_69 rfl lg3 ?_
      refine j_iload_n (i := 3) d_M_drownsBy_70 rfl lg3 ?_
      refine j_iload d_M_drownsBy_71 lg4 ?_
      refine j_iconstN (k := 1) d_M_drownsBy_73 (by decide) ?_
      refine j_iaddN d_M_drownsBy_74 ?_
      refine cl_M_78 (c_M_has l V S (t) (k' + 1) (by omega) (by omega)) d_M_drownsBy_75 rfl rfl (g_ftM (by decide)) (Nat.le_of_ble_eq_true rfl) (g_pu ?_)
      refine j_if_eqB (tgt := 100) d_M_drownsBy_78 (by decide) (fun h_78 => ?_) (fun h_78 => ?_)
      ·
        refine j_iconstN (k := 0) d_M_drownsBy_100 (by decide) ?_
        refine j_iorN d_M_drownsBy_101 ?_
        refine j_istore_n d_M_drownsBy_102 rfl ls3i ?_
        refine j_iinc d_M_drownsBy_103 lg4 rfl ls4i ?_
        refine j_goto (tgt := 64) d_M_drownsBy_106 (by decide) ?_
        exact ih k' _ _ g_dn_dec (by omega) (by rw [Nat.or_zero]; exact ht) (by rw [he, Nat.or_zero]; show q_dn _ k' (if _ then _ else _) = _; rw [if_neg (fun q => by first | exact h_78 q.1 | exact q.2 h_90)]) (by omega)
      ·
        refine j_aload_n (i := 1) d_M_drownsBy_81 rfl lg1 ?_
        refine j_bipushN (k := 19) d_M_drownsBy_82 (by decide) ?_
        refine j_iald d_M_drownsBy_84 hc (by omega) ?_
        refine j_iload d_M_drownsBy_85 lg4 ?_
        refine cl_M_78 (c_M_has l V S (V c 19) (k') (by omega) (by omega)) d_M_drownsBy_87 rfl rfl (g_ftM (by decide)) (Nat.le_of_ble_eq_true rfl) (g_pu ?_)
        refine j_if_neB (tgt := 100) d_M_drownsBy_90 (by decide) (fun h_90 => ?_) (fun h_90 => ?_)
        ·
          refine j_iconstN (k := 0) d_M_drownsBy_100 (by decide) ?_
          refine j_iorN d_M_drownsBy_101 ?_
          refine j_istore_n d_M_drownsBy_102 rfl ls3i ?_
          refine j_iinc d_M_drownsBy_103 lg4 rfl ls4i ?_
          refine j_goto (tgt := 64) d_M_drownsBy_106 (by decide) ?_
          exact ih k' _ _ g_dn_dec (by omega) (by rw [Nat.or_zero]; exact ht) (by rw [he, Nat.or_zero]; show q_dn _ k' (if _ then _ else _) = _; rw [if_neg (fun q => by first | exact h_78 q.1 | exact q.2 h_90)]) (by omega)
        ·
          refine j_iconstN (k := 1) d_M_drownsBy_93 (by decide) ?_
          refine j_iload d_M_drownsBy_94 lg4 ?_
          refine j_ishlN d_M_drownsBy_96 (by omega) ?_
          refine j_goto (tgt := 101) d_M_drownsBy_97 (by decide) ?_
          refine j_iorN d_M_drownsBy_101 ?_
          refine j_istore_n d_M_drownsBy_102 rfl ls3i ?_
          refine j_iinc d_M_drownsBy_103 lg4 rfl ls4i ?_
          refine j_goto (tgt := 64) d_M_drownsBy_106 (by decide) ?_
          exact ih k' _ _ g_dn_dec (by omega) (Nat.or_lt_two_pow (n := 6) ht (q_bit_lt (by omega))) (by rw [he]; show q_dn _ k' (if _ then _ else _) = _; rw [if_pos ⟨h_78, h_90⟩]) (by omega)
set_option maxRecDepth 4000 in
theorem lp_M_drownsBy1 {G : g_G} (l : Launch) (V : g_V) (S : g_L) (hn : V 201 4 ≤ 6) (c b : Nat) (hc : g_I c 57) (hd : V c 19 < 64) (hb : b < 64) : ∀ (n : Nat) (i t : Nat), (1 ≤ i) → (i ≤ V 201 4 ∨ i = 1) → (t = q_up (V c 19) (i - 1) b) → V 201 4 - i < n → JW G (g_M G l 2 (some .int) (fun r V' S' => r = some (.int (nI (q_wet (V 201 4) (V c 19) b))) ∧ V' = V ∧ S' = S)) b_M_drownsBy R_M 5 [some (.ref (g_a G (201))), some (.ref (g_a G (c))), some (.int (nI (b))), some (.int (nI (t))), some (.int (nI (i)))] [] V S := by
  intro n
  induction n with
  | zero => intro i t hi1 hi ht hm; exact absurd hm (Nat.not_lt_zero _)
  | succ n ih =>
    intro i t hi1 hi ht hm
    have ht6 : t < 64 := by rw [ht]; exact q_up_lt (m := 6) hb (by omega)
    refine j_iload d_M_drownsBy_5 lg4 ?_
    refine j_aload_n (i := 0) d_M_drownsBy_7 rfl lg0 ?_
    refine gf_M_51 d_M_drownsBy_8 ?_
    refine j_icmp_geN (tgt := 56) d_M_drownsBy_11 (by decide) (by omega) (by omega) (fun h_11 => ?_) (fun h_11 => ?_)
    ·
      refine j_aload_n (i := 0) d_M_drownsBy_56 rfl lg0 ?_
      refine gf_M_51 d_M_drownsBy_57 ?_
      refine j_iconstN (k := 2) d_M_drownsBy_60 (by decide) ?_
      refine j_isub d_M_drownsBy_61 ?_
      refine j_istore d_M_drownsBy_62 ls4i ?_
      exact lp_M_drownsBy2 l V S hn c b hc hd hb _ (V 201 4 - 1) _ _ g_dn_2 (by omega) ht6 (by rw [ht, show i - 1 = V 201 4 - 1 by omega]; rfl) (Nat.lt_succ_self _)
    ·
      refine j_iload_n (i := 3) d_M_drownsBy_14 rfl lg3 ?_
      refine j_iload_n (i := 3) d_M_drownsBy_15 rfl lg3 ?_
      refine j_iload d_M_drownsBy_16 lg4 ?_
      refine j_iconstN (k := 1) d_M_drownsBy_18 (by decide) ?_
      refine j_isubN d_M_drownsBy_19 (by omega) ?_
      refine cl_M_78 (c_M_has l V S (t) (i - 1) (by omega) (by omega)) d_M_drownsBy_20 rfl rfl (g_ftM (by decide)) (Nat.le_of_ble_eq_true rfl) (g_pu ?_)
      refine j_if_eqB (tgt := 47) d_M_drownsBy_23 (by decide) (fun h_23 => ?_) (fun h_23 => ?_)
      ·
        refine j_iconstN (k := 0) d_M_drownsBy_47 (by decide) ?_
        refine j_iorN d_M_drownsBy_48 ?_
        refine j_istore_n d_M_drownsBy_49 rfl ls3i ?_
        refine j_iincN (k := 1) d_M_drownsBy_50 lg4 (by decide) ls4i ?_
        refine j_goto (tgt := 5) d_M_drownsBy_53 (by decide) ?_
        exact ih (i + 1) _ (by omega) (by omega) (by rw [ht, Nat.or_zero, show i + 1 - 1 = (i - 1) + 1 by omega]; show _ = (if _ then _ else _); rw [ht] at h_23; rw [if_neg (fun q => by first | exact h_23 q.1 | exact q.2 h_37)]) (by omega)
      ·
        refine j_aload_n (i := 1) d_M_drownsBy_26 rfl lg1 ?_
        refine j_bipushN (k := 19) d_M_drownsBy_27 (by decide) ?_
        refine j_iald d_M_drownsBy_29 hc (by omega) ?_
        refine j_iload d_M_drownsBy_30 lg4 ?_
        refine j_iconstN (k := 1) d_M_drownsBy_32 (by decide) ?_
        refine j_isubN d_M_drownsBy_33 (by omega) ?_
        refine cl_M_78 (c_M_has l V S (V c 19) (i - 1) (by omega) (by omega)) d_M_drownsBy_34 rfl rfl (g_ftM (by decide)) (Nat.le_of_ble_eq_true rfl) (g_pu ?_)
        refine j_if_neB (tgt := 47) d_M_drownsBy_37 (by decide) (fun h_37 => ?_) (fun h_37 => ?_)
        ·
          refine j_iconstN (k := 0) d_M_drownsBy_47 (by decide) ?_
          refine j_iorN d_M_drownsBy_48 ?_
          refine j_istore_n d_M_drownsBy_49 rfl ls3i ?_
          refine j_iincN (k := 1) d_M_drownsBy_50 lg4 (by decide) ls4i ?_
          refine j_goto (tgt := 5) d_M_drownsBy_53 (by decide) ?_
          exact ih (i + 1) _ (by omega) (by omega) (by rw [ht, Nat.or_zero, show i + 1 - 1 = (i - 1) + 1 by omega]; show _ = (if _ then _ else _); rw [ht] at h_23; rw [if_neg (fun q => by first | exact h_23 q.1 | exact q.2 h_37)]) (by omega)
        ·
          refine j_iconstN (k := 1) d_M_drownsBy_40 (by decide) ?_
          refine j_iload d_M_drownsBy_41 lg4 ?_
          refine j_ishlN d_M_drownsBy_43 (by omega) ?_
          refine j_goto (tgt := 48) d_M_drownsBy_44 (by decide) ?_
          refine j_iorN d_M_drownsBy_48 ?_
          refine j_istore_n d_M_drownsBy_49 rfl ls3i ?_
          refine j_iincN (k := 1) d_M_drownsBy_50 lg4 (by decide) ls4i ?_
          refine j_goto (tgt := 5) d_M_drownsBy_53 (by decide) ?_
          exact ih (i + 1) _ (by omega) (by omega) (by rw [ht, show i + 1 - 1 = (i - 1) + 1 by omega]; show _ = (if _ then _ else _); rw [ht] at h_23; rw [if_pos ⟨h_23, h_37⟩, show i - 1 + 1 = i by omega]) (by omega)
set_option maxRecDepth 4000 in
theorem c_M_drownsBy {G : g_G} (l : Launch) (V : g_V) (S : g_L) (hn : V 201 4 ≤ 6) (c b : Nat) (hc : g_I c 57) (hd : V c 19 < 64) (hb : b < 64) : g_C G l y_M_drownsBy b_M_drownsBy 5 (some .int) 2 [.ref (g_a G (201)), .ref (g_a G (c)), .int (nI (b))] V S (fun r V' S' => r = some (.int (nI (q_wet (V 201 4) (V c 19) b))) ∧ V' = V ∧ S' = S) := by
  refine g_C.of (lv := [some (.ref (g_a G (201))), some (.ref (g_a G (c))), some (.int (nI (b))), none, none]) (by decide +kernel) rfl rfl rfl (Nat.le_of_ble_eq_true rfl) ?_
  refine j_iload_n (i := 2) d_M_drownsBy_0 rfl lg2 ?_
  refine j_istore_n d_M_drownsBy_1 rfl ls3i ?_
  refine j_iconstN (k := 1) d_M_drownsBy_2 (by decide) ?_
  refine j_istore d_M_drownsBy_3 ls4i ?_
  exact lp_M_drownsBy1 l V S hn c b hc hd hb _ 1 b (by omega) (Or.inr rfl) rfl (Nat.lt_succ_self _)
set_option maxRecDepth 4000 in
theorem lp_M_worthOf {G : g_G} (l : Launch) (V : g_V) (S : g_L) (hn : V 201 4 ≤ 6) (hW : ∀ i, i < 6 → V 204 i ≤ 9) (b : Nat) (hb : b < 64) : ∀ (n : Nat) (i s : Nat), (i ≤ V 201 4) → (s = q_pick i (V 204) b) → V 201 4 - i < n → JW G (g_M G l 2 (some .int) (fun r V' S' => r = some (.int (nI (q_pick (V 201 4) (V 204) b))) ∧ V' = V ∧ S' = S)) b_M_worthOf R_M 4 [some (.ref (g_a G (201))), some (.int (nI (b))), some (.int (nI (s))), some (.int (nI (i)))] [] V S := by
  intro n
  induction n with
  | zero => intro i s hi hs hm; exact absurd hm (Nat.not_lt_zero _)
  | succ n ih =>
    intro i s hi hs hm
    refine j_iload_n (i := 3) d_M_worthOf_4 rfl lg3 ?_
    refine j_aload_n (i := 0) d_M_worthOf_5 rfl lg0 ?_
    refine gf_M_51 d_M_worthOf_6 ?_
    refine j_icmp_geN (tgt := 39) d_M_worthOf_9 (by decide) (by omega) (by omega) (fun h_9 => ?_) (fun h_9 => ?_)
    ·
      refine j_iload_n (i := 2) d_M_worthOf_39 rfl lg2 ?_
      refine j_iret d_M_worthOf_40 ⟨by rw [hs, show i = V 201 4 by omega], rfl, rfl⟩
    ·
      refine j_iload_n (i := 2) d_M_worthOf_12 rfl lg2 ?_
      refine j_iload_n (i := 1) d_M_worthOf_13 rfl lg1 ?_
      refine j_iload_n (i := 3) d_M_worthOf_14 rfl lg3 ?_
      refine cl_M_78 (c_M_has l V S (b) (i) (by omega) (by omega)) d_M_worthOf_15 rfl rfl (g_ftM (by decide)) (Nat.le_of_ble_eq_true rfl) (g_pu ?_)
      refine j_if_eqB (tgt := 30) d_M_worthOf_18 (by decide) (fun h_18 => ?_) (fun h_18 => ?_)
      ·
        refine j_iconstN (k := 0) d_M_worthOf_30 (by decide) ?_
        refine j_iaddN d_M_worthOf_31 ?_
        refine j_istore_n d_M_worthOf_32 rfl ls2i ?_
        refine j_iincN (k := 1) d_M_worthOf_33 lg3 (by decide) ls3i ?_
        refine j_goto (tgt := 4) d_M_worthOf_36 (by decide) ?_
        exact ih (i + 1) _ (by omega) (by rw [hs]; show _ = q_sum i _ + (if _ then _ else _); rw [if_neg h_18]; rfl) (by omega)
      ·
        refine j_aload_n (i := 0) d_M_worthOf_21 rfl lg0 ?_
        refine gf_M_16 d_M_worthOf_22 ?_
        refine j_iload_n (i := 3) d_M_worthOf_25 rfl lg3 ?_
        refine j_iald d_M_worthOf_26 gI_204 (by omega) ?_
        refine j_goto (tgt := 31) d_M_worthOf_27 (by decide) ?_
        refine j_iaddN d_M_worthOf_31 ?_
        refine j_istore_n d_M_worthOf_32 rfl ls2i ?_
        refine j_iincN (k := 1) d_M_worthOf_33 lg3 (by decide) ls3i ?_
        refine j_goto (tgt := 4) d_M_worthOf_36 (by decide) ?_
        exact ih (i + 1) _ (by omega) (by rw [hs]; show _ = q_sum i _ + (if _ then _ else _); rw [if_pos h_18]; rfl) (by omega)
set_option maxRecDepth 4000 in
theorem c_M_worthOf {G : g_G} (l : Launch) (V : g_V) (S : g_L) (hn : V 201 4 ≤ 6) (hW : ∀ i, i < 6 → V 204 i ≤ 9) (b : Nat) (hb : b < 64) : g_C G l y_M_worthOf b_M_worthOf 4 (some .int) 2 [.ref (g_a G (201)), .int (nI (b))] V S (fun r V' S' => r = some (.int (nI (q_pick (V 201 4) (V 204) b))) ∧ V' = V ∧ S' = S) := by
  refine g_C.of (lv := [some (.ref (g_a G (201))), some (.int (nI (b))), none, none]) (by decide +kernel) rfl rfl rfl (Nat.le_of_ble_eq_true rfl) ?_
  refine j_iconstN (k := 0) d_M_worthOf_0 (by decide) ?_
  refine j_istore_n d_M_worthOf_1 rfl ls2i ?_
  refine j_iconstN (k := 0) d_M_worthOf_2 (by decide) ?_
  refine j_istore_n d_M_worthOf_3 rfl ls3i ?_
  exact lp_M_worthOf l V S hn hW b hb _ 0 0 (by omega) rfl (Nat.lt_succ_self _)
set_option maxRecDepth 4000 in
theorem lp_M_clayOf {G : g_G} (l : Launch) (V : g_V) (S : g_L) (hn : V 201 4 ≤ 6) (hW : ∀ i, i < 6 → V 207 (6 + i) ≤ 1000) (b : Nat) (hb : b < 64) : ∀ (n : Nat) (i s : Nat), (i ≤ V 201 4) → (s = q_pick i (fun i => V 207 (6 + i)) b) → V 201 4 - i < n → JW G (g_M G l 2 (some .int) (fun r V' S' => r = some (.int (nI (q_pick (V 201 4) (fun i => V 207 (6 + i)) b))) ∧ V' = V ∧ S' = S)) b_M_clayOf R_M 4 [some (.ref (g_a G (201))), some (.int (nI (b))), some (.int (nI (s))), some (.int (nI (i)))] [] V S := by
  intro n
  induction n with
  | zero => intro i s hi hs hm; exact absurd hm (Nat.not_lt_zero _)
  | succ n ih =>
    intro i s hi hs hm
    refine j_iload_n (i := 3) d_M_clayOf_4 rfl lg3 ?_
    refine j_aload_n (i := 0) d_M_clayOf_5 rfl lg0 ?_
    refine gf_M_51 d_M_clayOf_6 ?_
    refine j_icmp_geN (tgt := 42) d_M_clayOf_9 (by decide) (by omega) (by omega) (fun h_9 => ?_) (fun h_9 => ?_)
    ·
      refine j_iload_n (i := 2) d_M_clayOf_42 rfl lg2 ?_
      refine j_iret d_M_clayOf_43 ⟨by rw [hs, show i = V 201 4 by omega], rfl, rfl⟩
    ·
      refine j_iload_n (i := 2) d_M_clayOf_12 rfl lg2 ?_
      refine j_iload_n (i := 1) d_M_clayOf_13 rfl lg1 ?_
      refine j_iload_n (i := 3) d_M_clayOf_14 rfl lg3 ?_
      refine cl_M_78 (c_M_has l V S (b) (i) (by omega) (by omega)) d_M_clayOf_15 rfl rfl (g_ftM (by decide)) (Nat.le_of_ble_eq_true rfl) (g_pu ?_)
      refine j_if_eqB (tgt := 33) d_M_clayOf_18 (by decide) (fun h_18 => ?_) (fun h_18 => ?_)
      ·
        refine j_iconstN (k := 0) d_M_clayOf_33 (by decide) ?_
        refine j_iaddN d_M_clayOf_34 ?_
        refine j_istore_n d_M_clayOf_35 rfl ls2i ?_
        refine j_iincN (k := 1) d_M_clayOf_36 lg3 (by decide) ls3i ?_
        refine j_goto (tgt := 4) d_M_clayOf_39 (by decide) ?_
        exact ih (i + 1) _ (by omega) (by rw [hs]; show _ = q_sum i _ + (if _ then _ else _); rw [if_neg h_18]; rfl) (by omega)
      ·
        refine j_aload_n (i := 0) d_M_clayOf_21 rfl lg0 ?_
        refine gf_M_25 d_M_clayOf_22 ?_
        refine j_bipushN (k := 6) d_M_clayOf_25 (by decide) ?_
        refine j_iload_n (i := 3) d_M_clayOf_27 rfl lg3 ?_
        refine j_iaddN d_M_clayOf_28 ?_
        refine j_iald d_M_clayOf_29 gI_207 (by omega) ?_
        refine j_goto (tgt := 34) d_M_clayOf_30 (by decide) ?_
        refine j_iaddN d_M_clayOf_34 ?_
        refine j_istore_n d_M_clayOf_35 rfl ls2i ?_
        refine j_iincN (k := 1) d_M_clayOf_36 lg3 (by decide) ls3i ?_
        refine j_goto (tgt := 4) d_M_clayOf_39 (by decide) ?_
        exact ih (i + 1) _ (by omega) (by rw [hs]; show _ = q_sum i _ + (if _ then _ else _); rw [if_pos h_18]; rfl) (by omega)
set_option maxRecDepth 4000 in
theorem c_M_clayOf {G : g_G} (l : Launch) (V : g_V) (S : g_L) (hn : V 201 4 ≤ 6) (hW : ∀ i, i < 6 → V 207 (6 + i) ≤ 1000) (b : Nat) (hb : b < 64) : g_C G l y_M_clayOf b_M_clayOf 4 (some .int) 2 [.ref (g_a G (201)), .int (nI (b))] V S (fun r V' S' => r = some (.int (nI (q_pick (V 201 4) (fun i => V 207 (6 + i)) b))) ∧ V' = V ∧ S' = S) := by
  refine g_C.of (lv := [some (.ref (g_a G (201))), some (.int (nI (b))), none, none]) (by decide +kernel) rfl rfl rfl (Nat.le_of_ble_eq_true rfl) ?_
  refine j_iconstN (k := 0) d_M_clayOf_0 (by decide) ?_
  refine j_istore_n d_M_clayOf_1 rfl ls2i ?_
  refine j_iconstN (k := 0) d_M_clayOf_2 (by decide) ?_
  refine j_istore_n d_M_clayOf_3 rfl ls3i ?_
  exact lp_M_clayOf l V S hn hW b hb _ 0 0 (by omega) rfl (Nat.lt_succ_self _)
