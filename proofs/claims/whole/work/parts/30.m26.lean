/-! The reference: told, winters. -/
theorem lN_100 {n : Nat} (hn : n ≤ 5) : 0 < 100 ^ n ∧ 100 ^ n ≤ 10000000000 := by
  rcases (show n = 0 ∨ n = 1 ∨ n = 2 ∨ n = 3 ∨ n = 4 ∨ n = 5 by omega) with e | e | e | e | e | e <;> subst e <;> decide
set_option maxRecDepth 4000 in
theorem lp_M_hundred {G : g_G} (l : Launch) (V : g_V) (S : g_L) (n0 : Nat) (hn0 : n0 ≤ 5) : ∀ (n : Nat) (i : Nat) (v : Int64), (i ≤ n0) → (v = lN (100 ^ i)) → n0 - i < n → JW G (g_M G l 1 (some .long) (fun r V' S' => r = some (.long (lN (100 ^ n0))) ∧ V' = V ∧ S' = S)) b_M_hundred R_M 4 [some (.int (nI (n0))), some (.long (v)), none, some (.int (nI (i)))] [] V S := by
  intro n
  induction n with
  | zero => intro i v hi hv hm; exact absurd hm (Nat.not_lt_zero _)
  | succ n ih =>
    intro i v hi hv hm
    refine j_iload_n (i := 3) d_M_hundred_4 rfl lg3 ?_
    refine j_iload_n (i := 0) d_M_hundred_5 rfl lg0 ?_
    refine j_icmp_geN (tgt := 21) d_M_hundred_6 (by decide) (by omega) (by omega) (fun h_6 => ?_) (fun h_6 => ?_)
    ·
      refine j_lload_n (i := 1) d_M_hundred_21 rfl lg1 ?_
      refine j_lret d_M_hundred_22 ⟨by rw [hv, show i = n0 by omega], rfl, rfl⟩
    ·
      refine j_lload_n (i := 1) d_M_hundred_9 rfl lg1 ?_
      refine j_ldc2 (v := 100) d_M_hundred_10 (g_use (List.mem_of_getElem? (i := 716) (by decide +kernel)) rfl) ?_
      refine j_lmul d_M_hundred_13 ?_
      refine j_lstore_n d_M_hundred_14 rfl lt1i ?_
      refine j_iincN (k := 1) d_M_hundred_15 lg3 (by decide) ls3n ?_
      refine j_goto (tgt := 4) d_M_hundred_18 (by decide) ?_
      exact ih (i + 1) _ (by omega) (by rw [hv, show (100 : Int64) = lN 100 from rfl, lN_mul, Nat.pow_succ]) (by omega)
set_option maxRecDepth 4000 in
theorem c_M_hundred {G : g_G} (l : Launch) (V : g_V) (S : g_L) (n : Nat) (hn : n ≤ 5) : g_C G l y_M_hundred b_M_hundred 4 (some .long) 1 [.int (nI (n))] V S (fun r V' S' => r = some (.long (lN (100 ^ n))) ∧ V' = V ∧ S' = S) := by
  refine g_C.of (lv := [some (.int (nI (n))), none, none, none]) (by decide +kernel) rfl rfl rfl (Nat.le_of_ble_eq_true rfl) ?_
  refine j_lconst (v := 1) d_M_hundred_0 rfl ?_
  refine j_lstore_n d_M_hundred_1 rfl lt1i ?_
  refine j_iconstN (k := 0) d_M_hundred_2 (by decide) ?_
  refine j_istore_n d_M_hundred_3 rfl ls3n ?_
  exact lp_M_hundred l V S n hn _ 0 1 (by omega) rfl (Nat.lt_succ_self _)
set_option maxRecDepth 4000 in
theorem c_M_stormOf {G : g_G} (l : Launch) (V : g_V) (S : g_L) (n m k : Nat) (hn : n ≤ 5) (hk : k < n) (hm : m < 2 ^ 63) : g_C G l y_M_stormOf b_M_stormOf 4 (some .int) 2 [.int (nI (n)), .long (lN m), .int (nI (k))] V S (fun r V' S' => r = some (.int (nI (q_dg m (n - 1 - k)))) ∧ V' = V ∧ S' = S) := by
  refine g_C.of (lv := [some (.int (nI (n))), some (.long (lN m)), none, some (.int (nI (k)))]) (by decide +kernel) rfl rfl rfl (Nat.le_of_ble_eq_true rfl) ?_
  refine j_lload_n (i := 1) d_M_stormOf_0 rfl lg1 ?_
  refine j_iload_n (i := 0) d_M_stormOf_1 rfl lg0 ?_
  refine j_iconstN (k := 1) d_M_stormOf_2 (by decide) ?_
  refine j_isubN d_M_stormOf_3 (by omega) ?_
  refine j_iload_n (i := 3) d_M_stormOf_4 rfl lg3 ?_
  refine j_isubN d_M_stormOf_5 (by omega) ?_
  refine cl_M_151 (c_M_hundred l V S ((n - 1) - k) (by omega)) d_M_stormOf_6 rfl rfl (g_ftM (by decide)) (Nat.le_of_ble_eq_true rfl) (g_pu ?_)
  have h100 := lN_100 (n := n - 1 - k) (by omega)
  have hne : ¬ lN (100 ^ (n - 1 - k)) = 0 := fun q => by rw [lN_0 (by omega)] at q; omega
  refine j_ldiv d_M_stormOf_9 hne ?_
  refine j_ldc2 (v := 100) d_M_stormOf_10 (g_use (List.mem_of_getElem? (i := 716) (by decide +kernel)) rfl) ?_
  refine j_lrem d_M_stormOf_13 (by decide) ?_
  refine j_l2i d_M_stormOf_14 ?_
  refine j_iret d_M_stormOf_15 ⟨by rw [show (100 : Int64) = lN 100 from rfl, lN_div hm (by omega), lN_rem (Nat.lt_of_le_of_lt (Nat.div_le_self _ _) hm) (by decide), lN_i]; rfl, rfl, rfl⟩
theorem q_st_iff {n m : Nat} : q_st n m ↔ m < 100 ^ n ∧ ∀ j, j < n → q_dg m (n - 1 - j) ≤ 20 := by
  have hp : 0 < 100 ^ n := Nat.pow_pos (by decide)
  constructor
  · rintro ⟨h1, h2⟩
    refine ⟨?_, fun j hj => h1 _ (by omega)⟩
    rcases Nat.lt_or_ge m (100 ^ n) with q | q
    · exact q
    · have := Nat.div_pos q hp
      omega
  · rintro ⟨h1, h2⟩
    refine ⟨fun k hk => ?_, Nat.div_eq_of_lt h1⟩
    have := h2 (n - 1 - k) (by omega)
    rwa [show n - 1 - (n - 1 - k) = k by omega] at this
theorem q_rng_m {z : Int64} {n : Nat} (hn : n ≤ 5) : q_rng z 0 (lN (100 ^ n) - 1) ↔ 0 ≤ z ∧ z.toInt.toNat < 100 ^ n := by
  have h100 := lN_100 hn
  rw [show (1 : Int64) = lN 1 from rfl, lN_sub h100.1]
  unfold q_rng
  rw [Int64.le_iff_toInt_le, Int64.le_iff_toInt_le, Int64.toInt_zero, lN63 (by omega)]
  omega
set_option maxRecDepth 4000 in
theorem lp_M_noStorms {G : g_G} (l : Launch) (V : g_V) (S : g_L) (P : Option Value → g_V → g_L → Prop) (c m : Nat) (hc : c ≤ 5) (hm63 : m < 2 ^ 63) (h1 : (∀ j, j < c → q_dg m (c - 1 - j) ≤ 20) → P (some (.int (nI 0))) V S) (h2 : (¬ ∀ j, j < c → q_dg m (c - 1 - j) ≤ 20) → P (some (.int (nI 1))) V S) : ∀ (n : Nat) (k b : Nat), (k ≤ c) → (b < 2) → ((b = 1 ∧ ∀ j, j < k → q_dg m (c - 1 - j) ≤ 20) ∨ (b = 0 ∧ ¬ ∀ j, j < k → q_dg m (c - 1 - j) ≤ 20)) → c - k < n → JW G (g_M G l 3 (some .boolean) (P)) b_M_noStorms R_M 33 [some (.int (nI (c))), some (.long (lN m)), none, some (.int (nI (b))), some (.int (nI (k)))] [] V S := by
  intro n
  induction n with
  | zero => intro k b hk hb2 hb hm; exact absurd hm (Nat.not_lt_zero _)
  | succ n ih =>
    intro k b hk hb2 hb hm
    refine j_iload d_M_noStorms_33 lg4 ?_
    refine j_iload_n (i := 0) d_M_noStorms_35 rfl lg0 ?_
    refine j_icmp_geN (tgt := 67) d_M_noStorms_36 (by decide) (by omega) (by omega) (fun h_36 => ?_) (fun h_36 => ?_)
    ·
      obtain rfl : k = c := by omega
      refine j_iload_n (i := 3) d_M_noStorms_67 rfl lg3 ?_
      refine j_if_neN (tgt := 75) d_M_noStorms_68 (by decide) (by omega) (fun h_68 => ?_) (fun h_68 => ?_)
      ·
        refine j_iconstN (k := 0) d_M_noStorms_75 (by decide) ?_
        refine j_zret d_M_noStorms_76 (by decide) (h1 (by
  rcases hb with ⟨e1, e2⟩ | ⟨e1, e2⟩ <;> first | exact e2 | omega))
      ·
        refine j_iconstN (k := 1) d_M_noStorms_71 (by decide) ?_
        refine j_goto (tgt := 76) d_M_noStorms_72 (by decide) ?_
        refine j_zret d_M_noStorms_76 (by decide) (h2 (by
  rcases hb with ⟨e1, e2⟩ | ⟨e1, e2⟩ <;> first | exact e2 | omega))
    ·
      refine j_iload_n (i := 3) d_M_noStorms_39 rfl lg3 ?_
      refine j_if_eqN (tgt := 59) d_M_noStorms_40 (by decide) (by omega) (fun h_40 => ?_) (fun h_40 => ?_)
      ·
        refine j_iconstN (k := 0) d_M_noStorms_59 (by decide) ?_
        refine j_istore_n d_M_noStorms_60 rfl ls3n ?_
        refine j_iincN (k := 1) d_M_noStorms_61 lg4 (by decide) ls4i ?_
        refine j_goto (tgt := 33) d_M_noStorms_64 (by decide) ?_
        exact ih (k + 1) _ (by omega) (by decide) (Or.inr ⟨rfl, fun h => by
          rcases hb with ⟨e1, e2⟩ | ⟨e1, e2⟩
          · first | omega | (have := h k (by omega); omega)
          · exact e2 (fun j hj => h j (by omega))⟩) (by omega)
      ·
        refine j_iload_n (i := 0) d_M_noStorms_43 rfl lg0 ?_
        refine j_lload_n (i := 1) d_M_noStorms_44 rfl lg1 ?_
        refine j_iload d_M_noStorms_45 lg4 ?_
        refine cl_M_157 (c_M_stormOf l V S (c) m (k) (by omega) (by omega) hm63) d_M_noStorms_47 rfl rfl (g_ftM (by decide)) (Nat.le_of_ble_eq_true rfl) (g_pu ?_)
        have hqd : q_dg m (c - 1 - k) < 100 := Nat.mod_lt _ (by decide)
        refine j_bipushN (k := 20) d_M_noStorms_50 (by decide) ?_
        refine j_icmp_gtN (tgt := 59) d_M_noStorms_52 (by decide) (by omega) (by omega) (fun h_52 => ?_) (fun h_52 => ?_)
        ·
          refine j_iconstN (k := 0) d_M_noStorms_59 (by decide) ?_
          refine j_istore_n d_M_noStorms_60 rfl ls3n ?_
          refine j_iincN (k := 1) d_M_noStorms_61 lg4 (by decide) ls4i ?_
          refine j_goto (tgt := 33) d_M_noStorms_64 (by decide) ?_
          exact ih (k + 1) _ (by omega) (by decide) (Or.inr ⟨rfl, fun h => by
            rcases hb with ⟨e1, e2⟩ | ⟨e1, e2⟩
            · first | omega | (have := h k (by omega); omega)
            · exact e2 (fun j hj => h j (by omega))⟩) (by omega)
        ·
          refine j_iconstN (k := 1) d_M_noStorms_55 (by decide) ?_
          refine j_goto (tgt := 60) d_M_noStorms_56 (by decide) ?_
          refine j_istore_n d_M_noStorms_60 rfl ls3n ?_
          refine j_iincN (k := 1) d_M_noStorms_61 lg4 (by decide) ls4i ?_
          refine j_goto (tgt := 33) d_M_noStorms_64 (by decide) ?_
          exact ih (k + 1) _ (by omega) (by decide) (Or.inl ⟨rfl, fun j hj => by
            rcases hb with ⟨e1, e2⟩ | ⟨e1, e2⟩
            · rcases Nat.lt_succ_iff_lt_or_eq.mp hj with q | q
              · exact e2 j q
              · rw [q]; exact h_52
            · exact absurd e1 h_40⟩) (by omega)
set_option maxRecDepth 4000 in
theorem c_M_noStorms {G : g_G} (l : Launch) (V : g_V) (S : g_L) (n0 : Int32) (z : Int64) : g_C G l y_M_noStorms b_M_noStorms 5 (some .boolean) 3 [.int (n0), .long (z)] V S (fun r V' S' => r = some (.int (nI (g_z (decide (¬ (q_15 n0 ∧ (0 ≤ z ∧ q_st (q_n n0) z.toInt.toNat))))))) ∧ V' = V ∧ S' = S) := by
  refine g_C.of (lv := [some (.int (n0)), some (.long (z)), none, none, none]) (by decide +kernel) rfl rfl rfl (Nat.le_of_ble_eq_true rfl) ?_
  refine j_iload_n (i := 0) d_M_noStorms_0 rfl lg0 ?_
  refine j_i2l d_M_noStorms_1 ?_
  refine j_lconst (v := 1) d_M_noStorms_2 rfl ?_
  refine j_ldc2 (v := 5) d_M_noStorms_3 (g_use (List.mem_of_getElem? (i := 712) (by decide +kernel)) rfl) ?_
  refine cl_M_54 (c_M_in l V S ((n0).toInt64) (1) (5)) d_M_noStorms_6 rfl rfl (g_ftM (by decide)) (Nat.le_of_ble_eq_true rfl) (g_pu ?_)
  refine j_if_eqB (tgt := 26) d_M_noStorms_9 (by decide) (fun h_9 => ?_) (fun h_9 => ?_)
  ·
    refine j_iconstN (k := 1) d_M_noStorms_26 (by decide) ?_
    refine j_zret d_M_noStorms_27 (by decide) ⟨g_z1 (fun q => by first | exact h_9 (q_rng_15.mpr q.1) | exact h_23 ((q_rng_m (by omega)).mpr ⟨q.2.1, (q_st_iff.mp q.2.2).1⟩)), rfl, rfl⟩
  ·
    have h15 := q_rng_15.mp h_9
    obtain ⟨n, hn, rfl⟩ := q_15_of h15
    rw [q_n_nI (by omega)]
    refine j_lload_n (i := 1) d_M_noStorms_12 rfl lg1 ?_
    refine j_lconst (v := 0) d_M_noStorms_13 rfl ?_
    refine j_iload_n (i := 0) d_M_noStorms_14 rfl lg0 ?_
    refine cl_M_151 (c_M_hundred l V S (n) (by omega)) d_M_noStorms_15 rfl rfl (g_ftM (by decide)) (Nat.le_of_ble_eq_true rfl) (g_pu ?_)
    refine j_lconst (v := 1) d_M_noStorms_18 rfl ?_
    refine j_lsub d_M_noStorms_19 ?_
    refine cl_M_54 (c_M_in l V S (z) (0) ((lN (100 ^ (n))) - 1)) d_M_noStorms_20 rfl rfl (g_ftM (by decide)) (Nat.le_of_ble_eq_true rfl) (g_pu ?_)
    refine j_if_neB (tgt := 28) d_M_noStorms_23 (by decide) (fun h_23 => ?_) (fun h_23 => ?_)
    ·
      have hz := (q_rng_m (by omega)).mp h_23
      obtain ⟨m, hm63, rfl⟩ := lN_of hz.1
      rw [lN63 hm63, Int.toNat_natCast]
      rw [lN63 hm63, Int.toNat_natCast] at hz
      refine j_iconstN (k := 1) d_M_noStorms_28 (by decide) ?_
      refine j_istore_n d_M_noStorms_29 rfl ls3n ?_
      refine j_iconstN (k := 0) d_M_noStorms_30 (by decide) ?_
      refine j_istore d_M_noStorms_31 ls4i ?_
      exact lp_M_noStorms l V S _ n m (by omega) hm63 (fun q => ⟨g_z0 (fun q2 => q2 ⟨h15, hz.1, q_st_iff.mpr ⟨hz.2, q⟩⟩), rfl, rfl⟩) (fun q => ⟨g_z1 (fun q2 => q (q_st_iff.mp q2.2.2).2), rfl, rfl⟩) _ 0 1 (Nat.zero_le _) (by decide) (Or.inl ⟨rfl, fun j hj => absurd hj (Nat.not_lt_zero j)⟩) (Nat.lt_succ_self _)
    ·
      refine j_iconstN (k := 1) d_M_noStorms_26 (by decide) ?_
      refine j_zret d_M_noStorms_27 (by decide) ⟨g_z1 (fun q => by first | exact h_9 (q_rng_15.mpr q.1) | exact h_23 ((q_rng_m (by omega)).mpr ⟨q.2.1, (q_st_iff.mp q.2.2).1⟩)), rfl, rfl⟩
set_option maxRecDepth 4000 in
theorem lp_M_told {G : g_G} (l : Launch) (V : g_V) (S : g_L) (hO : M_OK V) (s k0 m w : Nat) (hs : s < V 201 4) (hk0 : 1 ≤ k0 ∧ k0 ≤ 5) (hm63 : m < 2 ^ 63) (hst : q_st k0 m) (hw3 : w < 3) : ∀ (n : Nat) (k : Nat) (W : g_V), (g_tr V W (D_xs k0 m) k) → (k ≤ k0) → k0 - k < n → JW G (g_M G l 4 (some .int) (fun r V' S' => S' = S ∧ r = some (.int (D_told (g_cv V) (V 207) s k0 m (nI w))) ∧ ∀ c, c ≠ 208 → V' c = V c)) b_M_told R_M 54 [some (.ref (g_a G (201))), some (.int (nI (s))), some (.int (nI (k0))), some (.long (lN m)), none, some (.int (nI (w))), some (.int (q_fi (fun j => decide (¬ q_hb (V 205) (V 203) (V 201 4) (D_xs k0 m) (V 207) j = 0)) k)), some (.int (q_fi (fun j => decide ((q_hb (V 205) (V 203) (V 201 4) (D_xs k0 m) (V 207) j).testBit s = true)) k)), some (.int (nI (k))), none] [] W S := by
  intro n
  induction n with
  | zero => intro k W hT hk hm; exact absurd hm (Nat.not_lt_zero _)
  | succ n ih =>
    intro k W hT hk hm
    have h0 := hO.1.1
    have hn := hO.1.2.1
    have hK := hO.1.2.2.1
    have hX := hO.1.2.2.2.1
    have hA := hO.1.2.2.2.2
    have hH := hO.2.1
    have hW := hO.2.2.1
    have hsp := hO.2.2.2.1
    have hd := hO.2.2.2.2.1
    have htd := hO.2.2.2.2.2
    refine j_iload d_M_told_54 lg8 ?_
    refine j_iload_n (i := 2) d_M_told_56 rfl lg2 ?_
    refine j_icmp_geN (tgt := 129) d_M_told_57 (by decide) (by omega) (by omega) (fun h_57 => ?_) (fun h_57 => ?_)
    ·
      obtain rfl : k = k0 := by omega
      refine j_iload d_M_told_129 lg5 ?_
      refine j_if_neN (tgt := 139) d_M_told_131 (by decide) (by omega) (fun h_131 => ?_) (fun h_131 => ?_)
      ·
        refine j_iload d_M_told_139 lg5 ?_
        refine j_iconstN (k := 1) d_M_told_141 (by decide) ?_
        refine j_icmp_neN (tgt := 150) d_M_told_142 (by decide) (by omega) (by omega) (fun h_142 => ?_) (fun h_142 => ?_)
        ·
          refine j_aload_n (i := 0) d_M_told_150 rfl lg0 ?_
          refine gf_M_28 d_M_told_151 ?_
          refine j_iconstN (k := 0) d_M_told_154 (by decide) ?_
          refine j_iload_n (i := 1) d_M_told_155 rfl lg1 ?_
          refine j_iaddN d_M_told_156 ?_
          rw [Nat.zero_add]
          refine j_iald d_M_told_157 gI_208 (by omega) ?_
          refine j_iret d_M_told_158 ⟨rfl, by unfold D_told; rw [if_pos (show nI w = 2 from by rw [show w = 2 by omega]; rfl), hT.2.1 s (by omega)]; rfl, hT.1⟩
        ·
          refine j_iload d_M_told_145 lg7 ?_
          refine j_goto (tgt := 158) d_M_told_147 (by decide) ?_
          refine j_iret d_M_told_158 ⟨rfl, by unfold D_told; rw [if_neg (show ¬ nI w = 2 from fun q => by have q2 : w = 2 := (nI_eq (by omega) (by decide)).mp q; omega), if_neg (show ¬ nI w = 0 from fun q => h_131 ((nI_eq (by omega) (by decide)).mp (q.trans nI_0.symm)))] <;> rfl, hT.1⟩
      ·
        refine j_iload d_M_told_134 lg6 ?_
        refine j_goto (tgt := 158) d_M_told_136 (by decide) ?_
        refine j_iret d_M_told_158 ⟨rfl, by unfold D_told; rw [if_neg (show ¬ nI w = 2 from fun q => by have q2 : w = 2 := (nI_eq (by omega) (by decide)).mp q; omega), if_pos (show nI w = 0 from by rw [h_131]; rfl)] <;> rfl, hT.1⟩
    ·
      refine j_aload_n (i := 0) d_M_told_60 rfl lg0 ?_
      refine j_aload_n (i := 0) d_M_told_61 rfl lg0 ?_
      refine gf_M_28 d_M_told_62 ?_
      refine j_iload_n (i := 2) d_M_told_65 rfl lg2 ?_
      refine j_lload_n (i := 3) d_M_told_66 rfl lg3 ?_
      refine j_iload d_M_told_67 lg8 ?_
      have hx20 : D_xs k0 m k ≤ 20 := (q_st_iff.mp hst).2 k (by omega)
      refine cl_M_157 (c_M_stormOf l W S (k0) m (k) (by omega) (by omega) hm63) d_M_told_69 rfl rfl (g_ftM (by decide)) (Nat.le_of_ble_eq_true rfl) (g_pu ?_)
      rw [show q_dg m (k0 - 1 - k) = D_xs k0 m k from rfl]
      refine cl_M_125 (c_M_goStorm l W S (by rw [g_tr_n hT]; exact hn) (g_tr_K hT hK) 208 (D_xs k0 m k) gI_208 (by decide) (by decide) (by decide) (by decide) (g_tr_H hT hH) hx20) d_M_told_72 rfl rfl (g_ftM (by decide)) (Nat.le_of_ble_eq_true rfl) (g_pv ?_)
      have hT1 := g_tr_go hT hn
      rw [g_tr_b hT hn]
      have hb6 : q_hb (V 205) (V 203) (V 201 4) (D_xs k0 m) (V 207) k < 2 ^ 6 := q_brk_lt (m := 6) hn
      refine j_istore d_M_told_75 ls9i ?_
      refine j_iload d_M_told_77 lg6 ?_
      refine j_bipush (v := -9) d_M_told_79 (by decide) ?_
      refine j_icmp_ne (tgt := 94) d_M_told_81 (by decide) (fun h_81 => ?_) (fun h_81 => ?_)
      ·
        refine j_iload d_M_told_94 lg6 ?_
        have e1 : q_fi (fun j => decide (¬ q_hb (V 205) (V 203) (V 201 4) (D_xs k0 m) (V 207) j = 0)) k = q_fi (fun j => decide (¬ q_hb (V 205) (V 203) (V 201 4) (D_xs k0 m) (V 207) j = 0)) (k + 1) := (if_neg (by
          rintro ⟨q1, q2⟩
          first | exact h_81 q1 | exact (of_decide_eq_true q2) h_86)).symm
        refine j_istore d_M_told_96 ls6i ?_
        refine j_iload d_M_told_98 lg7 ?_
        refine j_bipush (v := -9) d_M_told_100 (by decide) ?_
        refine j_icmp_ne (tgt := 119) d_M_told_102 (by decide) (fun h_102 => ?_) (fun h_102 => ?_)
        ·
          refine j_iload d_M_told_119 lg7 ?_
          have e2 : q_fi (fun j => decide ((q_hb (V 205) (V 203) (V 201 4) (D_xs k0 m) (V 207) j).testBit s = true)) k = q_fi (fun j => decide ((q_hb (V 205) (V 203) (V 201 4) (D_xs k0 m) (V 207) j).testBit s = true)) (k + 1) := (if_neg (by
            rintro ⟨q1, q2⟩
            first | exact h_102 q1 | exact h_111 (of_decide_eq_true q2))).symm
          refine j_istore d_M_told_121 ls7i ?_
          refine j_iincN (k := 1) d_M_told_123 lg8 (by decide) ls8i ?_
          refine j_goto (tgt := 54) d_M_told_126 (by decide) ?_
          have hi := ih (k + 1) _ hT1 (by omega) (by omega)
          rw [← e1, ← e2] at hi
          exact j_fg 9 hi
        ·
          refine j_iload d_M_told_105 lg9 ?_
          refine j_iload_n (i := 1) d_M_told_107 rfl lg1 ?_
          refine cl_M_78 (c_M_has l (g_go W 208 (D_xs k0 m k)) S (q_hb (V 205) (V 203) (V 201 4) (D_xs k0 m) (V 207) k) (s) (by omega) (by omega)) d_M_told_108 rfl rfl (g_ftM (by decide)) (Nat.le_of_ble_eq_true rfl) (g_pu ?_)
          refine j_if_eqB (tgt := 119) d_M_told_111 (by decide) (fun h_111 => ?_) (fun h_111 => ?_)
          ·
            refine j_iload d_M_told_119 lg7 ?_
            have e2 : q_fi (fun j => decide ((q_hb (V 205) (V 203) (V 201 4) (D_xs k0 m) (V 207) j).testBit s = true)) k = q_fi (fun j => decide ((q_hb (V 205) (V 203) (V 201 4) (D_xs k0 m) (V 207) j).testBit s = true)) (k + 1) := (if_neg (by
              rintro ⟨q1, q2⟩
              first | exact h_102 q1 | exact h_111 (of_decide_eq_true q2))).symm
            refine j_istore d_M_told_121 ls7i ?_
            refine j_iincN (k := 1) d_M_told_123 lg8 (by decide) ls8i ?_
            refine j_goto (tgt := 54) d_M_told_126 (by decide) ?_
            have hi := ih (k + 1) _ hT1 (by omega) (by omega)
            rw [← e1, ← e2] at hi
            exact j_fg 9 hi
          ·
            refine j_iload d_M_told_114 lg8 ?_
            refine j_goto (tgt := 121) d_M_told_116 (by decide) ?_
            have e2 : nI k = q_fi (fun j => decide ((q_hb (V 205) (V 203) (V 201 4) (D_xs k0 m) (V 207) j).testBit s = true)) (k + 1) := (if_pos ⟨h_102, decide_eq_true h_111⟩).symm
            refine j_istore d_M_told_121 ls7i ?_
            refine j_iincN (k := 1) d_M_told_123 lg8 (by decide) ls8i ?_
            refine j_goto (tgt := 54) d_M_told_126 (by decide) ?_
            have hi := ih (k + 1) _ hT1 (by omega) (by omega)
            rw [← e1, ← e2] at hi
            exact j_fg 9 hi
      ·
        refine j_iload d_M_told_84 lg9 ?_
        refine j_if_eqN (tgt := 94) d_M_told_86 (by decide) (by omega) (fun h_86 => ?_) (fun h_86 => ?_)
        ·
          refine j_iload d_M_told_94 lg6 ?_
          have e1 : q_fi (fun j => decide (¬ q_hb (V 205) (V 203) (V 201 4) (D_xs k0 m) (V 207) j = 0)) k = q_fi (fun j => decide (¬ q_hb (V 205) (V 203) (V 201 4) (D_xs k0 m) (V 207) j = 0)) (k + 1) := (if_neg (by
            rintro ⟨q1, q2⟩
            first | exact h_81 q1 | exact (of_decide_eq_true q2) h_86)).symm
          refine j_istore d_M_told_96 ls6i ?_
          refine j_iload d_M_told_98 lg7 ?_
          refine j_bipush (v := -9) d_M_told_100 (by decide) ?_
          refine j_icmp_ne (tgt := 119) d_M_told_102 (by decide) (fun h_102 => ?_) (fun h_102 => ?_)
          ·
            refine j_iload d_M_told_119 lg7 ?_
            have e2 : q_fi (fun j => decide ((q_hb (V 205) (V 203) (V 201 4) (D_xs k0 m) (V 207) j).testBit s = true)) k = q_fi (fun j => decide ((q_hb (V 205) (V 203) (V 201 4) (D_xs k0 m) (V 207) j).testBit s = true)) (k + 1) := (if_neg (by
              rintro ⟨q1, q2⟩
              first | exact h_102 q1 | exact h_111 (of_decide_eq_true q2))).symm
            refine j_istore d_M_told_121 ls7i ?_
            refine j_iincN (k := 1) d_M_told_123 lg8 (by decide) ls8i ?_
            refine j_goto (tgt := 54) d_M_told_126 (by decide) ?_
            have hi := ih (k + 1) _ hT1 (by omega) (by omega)
            rw [← e1, ← e2] at hi
            exact j_fg 9 hi
          ·
            refine j_iload d_M_told_105 lg9 ?_
            refine j_iload_n (i := 1) d_M_told_107 rfl lg1 ?_
            refine cl_M_78 (c_M_has l (g_go W 208 (D_xs k0 m k)) S (q_hb (V 205) (V 203) (V 201 4) (D_xs k0 m) (V 207) k) (s) (by omega) (by omega)) d_M_told_108 rfl rfl (g_ftM (by decide)) (Nat.le_of_ble_eq_true rfl) (g_pu ?_)
            refine j_if_eqB (tgt := 119) d_M_told_111 (by decide) (fun h_111 => ?_) (fun h_111 => ?_)
            ·
              refine j_iload d_M_told_119 lg7 ?_
              have e2 : q_fi (fun j => decide ((q_hb (V 205) (V 203) (V 201 4) (D_xs k0 m) (V 207) j).testBit s = true)) k = q_fi (fun j => decide ((q_hb (V 205) (V 203) (V 201 4) (D_xs k0 m) (V 207) j).testBit s = true)) (k + 1) := (if_neg (by
                rintro ⟨q1, q2⟩
                first | exact h_102 q1 | exact h_111 (of_decide_eq_true q2))).symm
              refine j_istore d_M_told_121 ls7i ?_
              refine j_iincN (k := 1) d_M_told_123 lg8 (by decide) ls8i ?_
              refine j_goto (tgt := 54) d_M_told_126 (by decide) ?_
              have hi := ih (k + 1) _ hT1 (by omega) (by omega)
              rw [← e1, ← e2] at hi
              exact j_fg 9 hi
            ·
              refine j_iload d_M_told_114 lg8 ?_
              refine j_goto (tgt := 121) d_M_told_116 (by decide) ?_
              have e2 : nI k = q_fi (fun j => decide ((q_hb (V 205) (V 203) (V 201 4) (D_xs k0 m) (V 207) j).testBit s = true)) (k + 1) := (if_pos ⟨h_102, decide_eq_true h_111⟩).symm
              refine j_istore d_M_told_121 ls7i ?_
              refine j_iincN (k := 1) d_M_told_123 lg8 (by decide) ls8i ?_
              refine j_goto (tgt := 54) d_M_told_126 (by decide) ?_
              have hi := ih (k + 1) _ hT1 (by omega) (by omega)
              rw [← e1, ← e2] at hi
              exact j_fg 9 hi
        ·
          refine j_iload d_M_told_89 lg8 ?_
          refine j_goto (tgt := 96) d_M_told_91 (by decide) ?_
          have e1 : nI k = q_fi (fun j => decide (¬ q_hb (V 205) (V 203) (V 201 4) (D_xs k0 m) (V 207) j = 0)) (k + 1) := (if_pos ⟨h_81, decide_eq_true h_86⟩).symm
          refine j_istore d_M_told_96 ls6i ?_
          refine j_iload d_M_told_98 lg7 ?_
          refine j_bipush (v := -9) d_M_told_100 (by decide) ?_
          refine j_icmp_ne (tgt := 119) d_M_told_102 (by decide) (fun h_102 => ?_) (fun h_102 => ?_)
          ·
            refine j_iload d_M_told_119 lg7 ?_
            have e2 : q_fi (fun j => decide ((q_hb (V 205) (V 203) (V 201 4) (D_xs k0 m) (V 207) j).testBit s = true)) k = q_fi (fun j => decide ((q_hb (V 205) (V 203) (V 201 4) (D_xs k0 m) (V 207) j).testBit s = true)) (k + 1) := (if_neg (by
              rintro ⟨q1, q2⟩
              first | exact h_102 q1 | exact h_111 (of_decide_eq_true q2))).symm
            refine j_istore d_M_told_121 ls7i ?_
            refine j_iincN (k := 1) d_M_told_123 lg8 (by decide) ls8i ?_
            refine j_goto (tgt := 54) d_M_told_126 (by decide) ?_
            have hi := ih (k + 1) _ hT1 (by omega) (by omega)
            rw [← e1, ← e2] at hi
            exact j_fg 9 hi
          ·
            refine j_iload d_M_told_105 lg9 ?_
            refine j_iload_n (i := 1) d_M_told_107 rfl lg1 ?_
            refine cl_M_78 (c_M_has l (g_go W 208 (D_xs k0 m k)) S (q_hb (V 205) (V 203) (V 201 4) (D_xs k0 m) (V 207) k) (s) (by omega) (by omega)) d_M_told_108 rfl rfl (g_ftM (by decide)) (Nat.le_of_ble_eq_true rfl) (g_pu ?_)
            refine j_if_eqB (tgt := 119) d_M_told_111 (by decide) (fun h_111 => ?_) (fun h_111 => ?_)
            ·
              refine j_iload d_M_told_119 lg7 ?_
              have e2 : q_fi (fun j => decide ((q_hb (V 205) (V 203) (V 201 4) (D_xs k0 m) (V 207) j).testBit s = true)) k = q_fi (fun j => decide ((q_hb (V 205) (V 203) (V 201 4) (D_xs k0 m) (V 207) j).testBit s = true)) (k + 1) := (if_neg (by
                rintro ⟨q1, q2⟩
                first | exact h_102 q1 | exact h_111 (of_decide_eq_true q2))).symm
              refine j_istore d_M_told_121 ls7i ?_
              refine j_iincN (k := 1) d_M_told_123 lg8 (by decide) ls8i ?_
              refine j_goto (tgt := 54) d_M_told_126 (by decide) ?_
              have hi := ih (k + 1) _ hT1 (by omega) (by omega)
              rw [← e1, ← e2] at hi
              exact j_fg 9 hi
            ·
              refine j_iload d_M_told_114 lg8 ?_
              refine j_goto (tgt := 121) d_M_told_116 (by decide) ?_
              have e2 : nI k = q_fi (fun j => decide ((q_hb (V 205) (V 203) (V 201 4) (D_xs k0 m) (V 207) j).testBit s = true)) (k + 1) := (if_pos ⟨h_102, decide_eq_true h_111⟩).symm
              refine j_istore d_M_told_121 ls7i ?_
              refine j_iincN (k := 1) d_M_told_123 lg8 (by decide) ls8i ?_
              refine j_goto (tgt := 54) d_M_told_126 (by decide) ?_
              have hi := ih (k + 1) _ hT1 (by omega) (by omega)
              rw [← e1, ← e2] at hi
              exact j_fg 9 hi
set_option maxRecDepth 4000 in
theorem c_M_told {G : g_G} (l : Launch) (V : g_V) (S : g_L) (hO : M_OK V) (s0 n0 : Int32) (z : Int64) (w0 : Int32) : g_C G l y_M_told b_M_told 10 (some .int) 4 [.ref (g_a G (201)), .int (s0), .int (n0), .long (z), .int (w0)] V S (fun r V' S' => S' = S ∧ (∀ c, c ≠ 208 → V' c = V c) ∧ ((¬ q_in s0 (V 201 4) ∧ r = some (.int (-1))) ∨ (q_in s0 (V 201 4) ∧ ¬ (q_15 n0 ∧ (0 ≤ z ∧ q_st (q_n n0) z.toInt.toNat) ∧ q_in w0 3) ∧ r = some (.int (-2))) ∨ (q_in s0 (V 201 4) ∧ (q_15 n0 ∧ (0 ≤ z ∧ q_st (q_n n0) z.toInt.toNat) ∧ q_in w0 3) ∧ r = some (.int (D_told (g_cv V) (V 207) (q_n s0) (q_n n0) z.toInt.toNat w0))))) := by
  refine g_C.of (lv := [some (.ref (g_a G (201))), some (.int (s0)), some (.int (n0)), some (.long (z)), none, some (.int (w0)), none, none, none, none]) (by decide +kernel) rfl rfl rfl (Nat.le_of_ble_eq_true rfl) ?_
  have h0 := hO.1.1
  have hn := hO.1.2.1
  have hK := hO.1.2.2.1
  have hX := hO.1.2.2.2.1
  have hA := hO.1.2.2.2.2
  have hH := hO.2.1
  have hW := hO.2.2.1
  have hsp := hO.2.2.2.1
  have hd := hO.2.2.2.2.1
  have htd := hO.2.2.2.2.2
  refine j_aload_n (i := 0) d_M_told_0 rfl lg0 ?_
  refine j_iconstN (k := 0) d_M_told_1 (by decide) ?_
  refine pf_M_47 d_M_told_2 ?_
  rw [g_up_id h0]
  refine j_aload_n (i := 0) d_M_told_5 rfl lg0 ?_
  refine j_iload_n (i := 1) d_M_told_6 rfl lg1 ?_
  refine cl_M_115 (c_M_noFarm l V S (by omega) (s0)) d_M_told_7 rfl rfl (g_ftM (by decide)) (Nat.le_of_ble_eq_true rfl) (g_pu ?_)
  refine j_if_eqB (tgt := 15) d_M_told_10 (by decide) (fun h_10 => ?_) (fun h_10 => ?_)
  ·
    refine j_iload_n (i := 2) d_M_told_15 rfl lg2 ?_
    refine j_lload_n (i := 3) d_M_told_16 rfl lg3 ?_
    refine cl_M_161 (c_M_noStorms l V S (n0) (z)) d_M_told_17 rfl rfl (g_ftM (by decide)) (Nat.le_of_ble_eq_true rfl) (g_pu ?_)
    refine j_if_neB (tgt := 36) d_M_told_20 (by decide) (fun h_20 => ?_) (fun h_20 => ?_)
    ·
      refine j_bipush (v := -2) d_M_told_36 (by decide) ?_
      refine j_iret d_M_told_38 ⟨rfl, fun _ _ => rfl, Or.inr (Or.inl ⟨Classical.not_not.mp h_10, fun q => by first | exact h_20 ⟨q.1, q.2.1⟩ | exact h_33 ((q_rng_in (k := 2) (by decide)).mpr q.2.2), rfl⟩)⟩
    ·
      refine j_iload d_M_told_23 lg5 ?_
      refine j_i2l d_M_told_25 ?_
      refine j_lconst (v := 0) d_M_told_26 rfl ?_
      refine j_ldc2 (v := 2) d_M_told_27 (g_use (List.mem_of_getElem? (i := 720) (by decide +kernel)) rfl) ?_
      refine cl_M_54 (c_M_in l V S ((w0).toInt64) (0) (2)) d_M_told_30 rfl rfl (g_ftM (by decide)) (Nat.le_of_ble_eq_true rfl) (g_pu ?_)
      refine j_if_neB (tgt := 39) d_M_told_33 (by decide) (fun h_33 => ?_) (fun h_33 => ?_)
      ·
        have hs0 := Classical.not_not.mp h_10
        have hnz := Classical.not_not.mp h_20
        have hw0 := (q_rng_in (k := 2) (by decide)).mp h_33
        obtain ⟨s, hs, rfl⟩ := q_in_of hs0 (by omega)
        obtain ⟨k0, hk0, rfl⟩ := q_15_of hnz.1
        obtain ⟨m, hm63, rfl⟩ := lN_of hnz.2.1
        obtain ⟨w, hww, rfl⟩ := q_in_of hw0 (by decide)
        have hst := hnz.2.2
        rw [lN63 hm63, Int.toNat_natCast, q_n_nI (k := k0) (by omega)] at hst
        refine j_bipush (v := -9) d_M_told_39 (by decide) ?_
        refine j_istore d_M_told_41 ls6i ?_
        refine j_bipush (v := -9) d_M_told_43 (by decide) ?_
        refine j_istore d_M_told_45 ls7i ?_
        refine j_aload_n (i := 0) d_M_told_47 rfl lg0 ?_
        refine cl_M_167 (c_M_begin l V S) d_M_told_48 rfl rfl (g_ftM (by decide)) (Nat.le_of_ble_eq_true rfl) (g_pw ?_)
        refine j_iconstN (k := 0) d_M_told_51 (by decide) ?_
        refine j_istore d_M_told_52 ls8i ?_
        refine g_mono (fun r V' S' h => ⟨h.1, h.2.2, Or.inr (Or.inr ⟨hs0, ⟨hnz.1, hnz.2, hw0⟩, ?_⟩)⟩) (j_fg 9 (lp_M_told (G := G) l V S hO s k0 m w hs hk0 hm63 hst (by omega) _ 0 _ g_tr_0 (Nat.zero_le _) (Nat.lt_succ_self _)))
        rw [lN63 hm63, Int.toNat_natCast, q_n_nI (by omega), q_n_nI (by omega)]
        exact h.2.1
      ·
        refine j_bipush (v := -2) d_M_told_36 (by decide) ?_
        refine j_iret d_M_told_38 ⟨rfl, fun _ _ => rfl, Or.inr (Or.inl ⟨Classical.not_not.mp h_10, fun q => by first | exact h_20 ⟨q.1, q.2.1⟩ | exact h_33 ((q_rng_in (k := 2) (by decide)).mpr q.2.2), rfl⟩)⟩
  ·
    refine j_iconst (v := -1) d_M_told_13 (by decide) ?_
    refine j_iret d_M_told_14 ⟨rfl, fun _ _ => rfl, Or.inl ⟨h_10, rfl⟩⟩
set_option maxRecDepth 4000 in
theorem lp_M_winters {G : g_G} (l : Launch) (V : g_V) (S : g_L) (hO : M_OK V) (m : Nat) (hmm : 1 ≤ m ∧ m ≤ 20) : ∀ (n : Nat) (k t : Nat) (W : g_V), (g_tr V W (D_wx (S 201)) k) → (k ≤ m) → (t = q_sum k (D_wl (g_cv V) (V 207) (S 201))) → m - k < n → JW G (g_M G l 4 (some .int) (fun r V' S' => S' = g_upL S 201 (q_sd (S 201) m) ∧ r = some (.int (nI (q_sum m (D_wl (g_cv V) (V 207) (S 201))))) ∧ ∀ c, c ≠ 208 → V' c = V c)) b_M_winters R_M 28 [some (.ref (g_a G (201))), some (.int (nI (m))), some (.int (nI (t))), some (.int (nI (k)))] [] W (g_upL S 201 (q_sd (S 201) k)) := by
  intro n
  induction n with
  | zero => intro k t W hT hk ht hm; exact absurd hm (Nat.not_lt_zero _)
  | succ n ih =>
    intro k t W hT hk ht hm
    have h0 := hO.1.1
    have hn := hO.1.2.1
    have hK := hO.1.2.2.1
    have hX := hO.1.2.2.2.1
    have hA := hO.1.2.2.2.2
    have hH := hO.2.1
    have hW := hO.2.2.1
    have hsp := hO.2.2.2.1
    have hd := hO.2.2.2.2.1
    have htd := hO.2.2.2.2.2
    have hx15 : D_wx (S 201) k ≤ 15 := (q_sx_eq (q_sd (S 201) (k + 1))).2
    refine j_iload_n (i := 3) d_M_winters_28 rfl lg3 ?_
    refine j_iload_n (i := 1) d_M_winters_29 rfl lg1 ?_
    refine j_icmp_geN (tgt := 90) d_M_winters_30 (by decide) (by omega) (by omega) (fun h_30 => ?_) (fun h_30 => ?_)
    ·
      refine j_iload_n (i := 2) d_M_winters_90 rfl lg2 ?_
      refine j_iret d_M_winters_91 ⟨by rw [show k = m by omega], by rw [ht, show k = m by omega], hT.1⟩
    ·
      refine j_aload_n (i := 0) d_M_winters_33 rfl lg0 ?_
      refine j_aload_n (i := 0) d_M_winters_34 rfl lg0 ?_
      refine gf_M_205 d_M_winters_35 ?_
      rw [g_upL_self]
      refine j_ldc2 (v := 6364136223846793005) d_M_winters_38 (g_use (List.mem_of_getElem? (i := 786) (by decide +kernel)) rfl) ?_
      refine j_lmul d_M_winters_41 ?_
      refine j_ldc2 (v := 1442695040888963407) d_M_winters_42 (g_use (List.mem_of_getElem? (i := 787) (by decide +kernel)) rfl) ?_
      refine j_ladd d_M_winters_45 ?_
      refine pf_M_205 d_M_winters_46 ?_
      rw [g_upL_upL, show q_sd (S 201) k * 6364136223846793005 + 1442695040888963407 = q_sd (S 201) (k + 1) from rfl]
      refine j_iload_n (i := 2) d_M_winters_49 rfl lg2 ?_
      refine j_aload_n (i := 0) d_M_winters_50 rfl lg0 ?_
      refine j_aload_n (i := 0) d_M_winters_51 rfl lg0 ?_
      refine j_aload_n (i := 0) d_M_winters_52 rfl lg0 ?_
      refine gf_M_28 d_M_winters_53 ?_
      refine j_aload_n (i := 0) d_M_winters_56 rfl lg0 ?_
      refine j_aload_n (i := 0) d_M_winters_57 rfl lg0 ?_
      refine gf_M_28 d_M_winters_58 ?_
      refine j_aload_n (i := 0) d_M_winters_61 rfl lg0 ?_
      refine gf_M_205 d_M_winters_62 ?_
      rw [g_upL_self]
      refine j_bipushN (k := 33) d_M_winters_65 (by decide) ?_
      refine j_lushr d_M_winters_67 ?_
      refine j_ldc2 (v := 16) d_M_winters_68 (g_use (List.mem_of_getElem? (i := 788) (by decide +kernel)) rfl) ?_
      refine j_lrem d_M_winters_71 (by decide) ?_
      refine j_l2i d_M_winters_72 ?_
      rw [show (((q_sd (S 201) (k + 1)).toUInt64 >>> ((nI 33).toInt64.toUInt64 &&& Int64.toUInt64 63)).toInt64 - ((q_sd (S 201) (k + 1)).toUInt64 >>> ((nI 33).toInt64.toUInt64 &&& Int64.toUInt64 63)).toInt64 / 16 * 16).toInt32 = nI (D_wx (S 201) k) from (q_sx_eq (q_sd (S 201) (k + 1))).1]
      refine cl_M_125 (c_M_goStorm l W (g_upL S 201 (q_sd (S 201) (k + 1))) (by rw [g_tr_n hT]; exact hn) (g_tr_K hT hK) 208 (D_wx (S 201) k) gI_208 (by decide) (by decide) (by decide) (by decide) (g_tr_H hT hH) (by omega)) d_M_winters_73 rfl rfl (g_ftM (by decide)) (Nat.le_of_ble_eq_true rfl) (g_pv ?_)
      have hT1 := g_tr_go hT hn
      rw [g_tr_b hT hn]
      have hb6 : q_hb (V 205) (V 203) (V 201 4) (D_wx (S 201)) (V 207) k < 2 ^ 6 := q_brk_lt (m := 6) hn
      refine cl_M_128 (c_M_drownsBy l (g_go W 208 (D_wx (S 201) k)) (g_upL S 201 (q_sd (S 201) (k + 1))) (by rw [g_tr_n hT1]; exact hn) 208 (q_hb (V 205) (V 203) (V 201 4) (D_wx (S 201)) (V 207) k) gI_208 (by rw [hT1.2.2]; exact hd) hb6) d_M_winters_76 rfl rfl (g_ftM (by decide)) (Nat.le_of_ble_eq_true rfl) (g_pu ?_)
      rw [g_tr_n hT1, hT1.2.2]
      refine cl_M_131 (c_M_worthOf l (g_go W 208 (D_wx (S 201) k)) (g_upL S 201 (q_sd (S 201) (k + 1))) (by rw [g_tr_n hT1]; exact hn) (by rw [hT1.1 204 (by decide)]; exact fun i hi => (hK i hi).2.1) (q_wet (V 201 4) (V 207 19) (q_hb (V 205) (V 203) (V 201 4) (D_wx (S 201)) (V 207) k)) (q_wet_lt hn hb6)) d_M_winters_79 rfl rfl (g_ftM (by decide)) (Nat.le_of_ble_eq_true rfl) (g_pu ?_)
      rw [g_tr_n hT1, hT1.1 204 (by decide)]
      refine j_iaddN d_M_winters_82 ?_
      refine j_istore_n d_M_winters_83 rfl ls2i ?_
      refine j_iincN (k := 1) d_M_winters_84 lg3 (by decide) ls3i ?_
      refine j_goto (tgt := 28) d_M_winters_87 (by decide) ?_
      exact ih (k + 1) _ _ hT1 (by omega) (by rw [ht]; rfl) (by omega)
set_option maxRecDepth 4000 in
theorem c_M_winters {G : g_G} (l : Launch) (V : g_V) (S : g_L) (hO : M_OK V) (m0 : Int32) : g_C G l y_M_winters b_M_winters 4 (some .int) 4 [.ref (g_a G (201)), .int (m0)] V S (fun r V' S' => (∀ c, c ≠ 208 → V' c = V c) ∧ ((¬ q_120 m0 ∧ r = some (.int (-2)) ∧ S' = S) ∨ (q_120 m0 ∧ S' = g_upL S 201 (q_sd (S 201) (q_n m0)) ∧ r = some (.int (nI (q_sum (q_n m0) (D_wl (g_cv V) (V 207) (S 201)))))))) := by
  refine g_C.of (lv := [some (.ref (g_a G (201))), some (.int (m0)), none, none]) (by decide +kernel) rfl rfl rfl (Nat.le_of_ble_eq_true rfl) ?_
  have h0 := hO.1.1
  have hn := hO.1.2.1
  have hK := hO.1.2.2.1
  have hX := hO.1.2.2.2.1
  have hA := hO.1.2.2.2.2
  have hH := hO.2.1
  have hW := hO.2.2.1
  have hsp := hO.2.2.2.1
  have hd := hO.2.2.2.2.1
  have htd := hO.2.2.2.2.2
  refine j_aload_n (i := 0) d_M_winters_0 rfl lg0 ?_
  refine j_iconstN (k := 0) d_M_winters_1 (by decide) ?_
  refine pf_M_47 d_M_winters_2 ?_
  rw [g_up_id h0]
  refine j_iload_n (i := 1) d_M_winters_5 rfl lg1 ?_
  refine j_i2l d_M_winters_6 ?_
  refine j_lconst (v := 1) d_M_winters_7 rfl ?_
  refine j_ldc2 (v := 20) d_M_winters_8 (g_use (List.mem_of_getElem? (i := 627) (by decide +kernel)) rfl) ?_
  refine cl_M_54 (c_M_in l V S ((m0).toInt64) (1) (20)) d_M_winters_11 rfl rfl (g_ftM (by decide)) (Nat.le_of_ble_eq_true rfl) (g_pu ?_)
  refine j_if_neB (tgt := 20) d_M_winters_14 (by decide) (fun h_14 => ?_) (fun h_14 => ?_)
  ·
    have hm0 := q_rng_120.mp h_14
    obtain ⟨m, hmm, rfl⟩ := q_120_of hm0
    rw [q_n_nI (by omega)]
    refine j_aload_n (i := 0) d_M_winters_20 rfl lg0 ?_
    refine cl_M_167 (c_M_begin l V S) d_M_winters_21 rfl rfl (g_ftM (by decide)) (Nat.le_of_ble_eq_true rfl) (g_pw ?_)
    refine j_iconstN (k := 0) d_M_winters_24 (by decide) ?_
    refine j_istore_n d_M_winters_25 rfl ls2i ?_
    refine j_iconstN (k := 0) d_M_winters_26 (by decide) ?_
    refine j_istore_n d_M_winters_27 rfl ls3i ?_
    have hlp := lp_M_winters (G := G) l V S hO m hmm _ 0 0 _ g_tr_0 (Nat.zero_le _) rfl (Nat.lt_succ_self _)
    rw [show g_upL S 201 (q_sd (S 201) 0) = S from g_upL_id] at hlp
    exact g_mono (fun r V' S' h => ⟨h.2.2, Or.inr ⟨hm0, h.1, h.2.1⟩⟩) hlp
  ·
    refine j_bipush (v := -2) d_M_winters_17 (by decide) ?_
    refine j_iret d_M_winters_19 ⟨fun _ _ => rfl, Or.inl ⟨fun q => h_14 (q_rng_120.mpr q), rfl, rfl⟩⟩
