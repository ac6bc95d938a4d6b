/-! The class: at rest, storms by threes. -/
def D_gv (V : g_V) (s x g : Nat) : Nat := q_wet (V 0 1) (V (hB 0) 5) ((q_brk (V 0 1) (D_str V) x &&& (63 ^^^ 1 <<< s)) ||| (if D_str V s + g < x then 1 <<< s else 0))
def g_rg (V : g_V) (s x i : Nat) : g_V := g_row V 10 (fun k => if k < i then D_gv V s x k else V 10 k)
theorem g_rg_N {V : g_V} {s x i c : Nat} (h : c ≠ 10) : g_rg V s x i c = V c := g_rowN h
theorem g_rg_S {V : g_V} {s x i k : Nat} (h : k < i) : g_rg V s x i 10 k = D_gv V s x k := by unfold g_rg; rw [g_rowS]; exact if_pos h
theorem g_rg_0 {V : g_V} {s x : Nat} : g_rg V s x 0 = V := by
  funext c k
  unfold g_rg
  by_cases h : c = 10
  · subst h; rw [g_rowS]; simp
  · rw [g_rowN h]
theorem g_rg_step {V : g_V} {s x i v : Nat} (hv : v = D_gv V s x i) : g_up (g_rg V s x i) 10 i v = g_rg V s x (i + 1) := by
  funext c k
  unfold g_up g_rg g_row
  by_cases h : c = 10
  · subst h
    by_cases hk : k = i
    · subst hk; simp [hv]
    · by_cases hl : k < i
      · simp [hk, hl, show k < i + 1 by omega]
      · simp [hk, hl, show ¬ k < i + 1 by omega]
  · simp [h]
theorem D_gv_lt {V : g_V} (hn : V 0 1 ≤ 6) {s x g : Nat} (hs : s < 6) : D_gv V s x g < 64 := q_wet_lt hn (Nat.or_lt_two_pow (n := 6) (Nat.lt_of_le_of_lt Nat.and_le_left (q_brk_lt hn)) (by
  split
  · exact q_bit_lt hs
  · decide))
set_option maxRecDepth 4000 in
theorem lp_D_reckonGiven {G : g_G} (l : Launch) (V : g_V) (S : g_L) (hO : g_OK V) (s x : Nat) (hs : s < V 0 1) (hx : x ≤ 20) : ∀ (n : Nat) (i : Nat), (i ≤ 7) → 7 - i < n → JW G (g_M G l 3 none (fun r V' S' => r = none ∧ V' = g_rg V s x 7 ∧ S' = S)) b_D_reckonGiven R_D 32 [some (.ref (g_a G (0))), some (.int (nI (s))), some (.int (nI (x))), some (.int (nI (q_brk (V 0 1) (D_str V) x &&& (63 ^^^ 1 <<< s)))), some (.int (nI (D_str V s))), some (.int (nI (i))), none] [] (g_rg V s x i) S := by
  intro n
  induction n with
  | zero => intro i hi hm; exact absurd hm (Nat.not_lt_zero _)
  | succ n ih =>
    intro i hi hm
    have hn := hO.1.1
    have hK := hO.1.2.1
    have hT := hO.1.2.2
    have hH := (hO.2.2 0 (by decide)).1
    have hW := (hO.2.2 0 (by decide)).2.1
    have hsp := (hO.2.2 0 (by decide)).2.2.1
    have hdm := (hO.2.2 0 (by decide)).2.2.2.1
    have htd := (hO.2.2 0 (by decide)).2.2.2.2
    have hF := hO.2.1.1
    have hA := hO.2.1.2.1
    have hkp := hO.2.1.2.2
    have vg0 : (g_rg V s x i) 0 = V 0 := g_rg_N (by decide)
    have vg1 : (g_rg V s x i) 0 1 = V 0 1 := by rw [vg0]
    have vgn : (g_rg V s x i) 0 1 ≤ 6 := by rw [vg1]; exact hn
    have vg3 : (g_rg V s x i) 3 = V 3 := g_rg_N (by decide)
    have vg4 : (g_rg V s x i) 4 = V 4 := g_rg_N (by decide)
    have vg5 : (g_rg V s x i) 5 = V 5 := g_rg_N (by decide)
    have vgh : (g_rg V s x i) (hB 0 + 1) = V (hB 0 + 1) := g_rg_N (by decide)
    have vgc : (g_rg V s x i) (hB 0 + 2) = V (hB 0 + 2) := g_rg_N (by decide)
    have vge : (g_rg V s x i) (hB 0) = V (hB 0) := g_rg_N (by decide)
    have vgs : D_str (g_rg V s x i) = D_str V := D_str_eq vg3 vg5 vgh
    have vgd : (g_rg V s x i) (hB 0) 5 = V (hB 0) 5 := by rw [vge]
    have vgD : (g_rg V s x i) (hB 0) 5 < 64 := by rw [vgd]; exact hdm
    have vgK : g_K (g_rg V s x i) := by unfold g_K; rw [vg3, vg4, vg5]; exact hK
    have vgH : g_H (g_rg V s x i) (hB 0 + 1) := by unfold g_H; rw [vgh]; exact hH
    have hq := D_str_lt hK hH (i := s) (by omega)
    have ha6 : q_brk (V 0 1) (D_str V) x &&& (63 ^^^ 1 <<< s) < 2 ^ 6 := Nat.lt_of_le_of_lt Nat.and_le_left (q_brk_lt hn)
    have hb6 := q_bit_lt (k := s) (m := 6) (by omega)
    refine j_iload d_D_reckonGiven_32 lg5 ?_
    refine j_aload_n (i := 0) d_D_reckonGiven_34 rfl lg0 ?_
    refine gf_D_46 d_D_reckonGiven_35 ?_
    refine j_alen d_D_reckonGiven_38 gI_10 ?_
    refine j_icmp_geN (tgt := 82) d_D_reckonGiven_39 (by decide) (by omega) (by omega) (fun h_39 => ?_) (fun h_39 => ?_)
    ·
      refine j_vret d_D_reckonGiven_82 ⟨rfl, by rw [show i = 7 by omega], rfl⟩
    ·
      refine j_iload_n (i := 2) d_D_reckonGiven_42 rfl lg2 ?_
      refine j_iload d_D_reckonGiven_43 lg4 ?_
      refine j_iload d_D_reckonGiven_45 lg5 ?_
      refine j_iaddN d_D_reckonGiven_47 ?_
      refine j_icmp_leN (tgt := 58) d_D_reckonGiven_48 (by decide) (by omega) (by omega) (fun h_48 => ?_) (fun h_48 => ?_)
      ·
        refine j_iconstN (k := 0) d_D_reckonGiven_58 (by decide) ?_
        refine j_istore d_D_reckonGiven_59 ls6i ?_
        refine j_aload_n (i := 0) d_D_reckonGiven_61 rfl lg0 ?_
        refine gf_D_46 d_D_reckonGiven_62 ?_
        refine j_iload d_D_reckonGiven_65 lg5 ?_
        refine j_aload_n (i := 0) d_D_reckonGiven_67 rfl lg0 ?_
        refine j_iload_n (i := 3) d_D_reckonGiven_68 rfl lg3 ?_
        refine j_iload d_D_reckonGiven_69 lg6 ?_
        refine j_iorN d_D_reckonGiven_71 ?_
        have hs6 : (q_brk (V 0 1) (D_str V) x &&& (63 ^^^ 1 <<< s)) ||| 0 < 64 := Nat.or_lt_two_pow (n := 6) ha6 (by first | exact hb6 | decide)
        refine cl_D_144 (c_D_wetBy l (g_rg V s x i) S vgn vgD ((q_brk (V 0 1) (D_str V) x &&& (63 ^^^ 1 <<< s)) ||| 0) (by first | omega | exact hs6)) d_D_reckonGiven_72 rfl rfl (g_ftM (by decide)) (Nat.le_of_ble_eq_true rfl) (g_pu ?_)
        rw [vg1, vgd]
        refine j_iast d_D_reckonGiven_75 gI_10 (by omega) ?_
        refine j_iincN (k := 1) d_D_reckonGiven_76 lg5 (by decide) ls5i ?_
        refine j_goto (tgt := 32) d_D_reckonGiven_79 (by decide) ?_
        rw [g_rg_step (by unfold D_gv; rw [if_neg (Nat.not_lt.mpr h_48)])]
        exact j_fg 6 (ih (i + 1) (by omega) (by omega))
      ·
        refine j_iload_n (i := 1) d_D_reckonGiven_51 rfl lg1 ?_
        refine cl_D_98 (c_D_bit l (g_rg V s x i) S (s) (by omega)) d_D_reckonGiven_52 rfl rfl (g_ftM (by decide)) (Nat.le_of_ble_eq_true rfl) (g_pu ?_)
        refine j_goto (tgt := 59) d_D_reckonGiven_55 (by decide) ?_
        refine j_istore d_D_reckonGiven_59 ls6i ?_
        refine j_aload_n (i := 0) d_D_reckonGiven_61 rfl lg0 ?_
        refine gf_D_46 d_D_reckonGiven_62 ?_
        refine j_iload d_D_reckonGiven_65 lg5 ?_
        refine j_aload_n (i := 0) d_D_reckonGiven_67 rfl lg0 ?_
        refine j_iload_n (i := 3) d_D_reckonGiven_68 rfl lg3 ?_
        refine j_iload d_D_reckonGiven_69 lg6 ?_
        refine j_iorN d_D_reckonGiven_71 ?_
        have hs6 : (q_brk (V 0 1) (D_str V) x &&& (63 ^^^ 1 <<< s)) ||| (1 <<< (s)) < 64 := Nat.or_lt_two_pow (n := 6) ha6 (by first | exact hb6 | decide)
        refine cl_D_144 (c_D_wetBy l (g_rg V s x i) S vgn vgD ((q_brk (V 0 1) (D_str V) x &&& (63 ^^^ 1 <<< s)) ||| (1 <<< (s))) (by first | omega | exact hs6)) d_D_reckonGiven_72 rfl rfl (g_ftM (by decide)) (Nat.le_of_ble_eq_true rfl) (g_pu ?_)
        rw [vg1, vgd]
        refine j_iast d_D_reckonGiven_75 gI_10 (by omega) ?_
        refine j_iincN (k := 1) d_D_reckonGiven_76 lg5 (by decide) ls5i ?_
        refine j_goto (tgt := 32) d_D_reckonGiven_79 (by decide) ?_
        rw [g_rg_step (by unfold D_gv; rw [if_pos h_48])]
        exact j_fg 6 (ih (i + 1) (by omega) (by omega))
set_option maxRecDepth 4000 in
theorem c_D_reckonGiven {G : g_G} (l : Launch) (V : g_V) (S : g_L) (hO : g_OK V) (s x : Nat) (hs : s < V 0 1) (hx : x ≤ 20) : g_C G l y_D_reckonGiven b_D_reckonGiven 7 none 3 [.ref (g_a G (0)), .int (nI (s)), .int (nI (x))] V S (fun r V' S' => r = none ∧ V' = g_rg V s x 7 ∧ S' = S) := by
  refine g_C.of (lv := [some (.ref (g_a G (0))), some (.int (nI (s))), some (.int (nI (x))), none, none, none, none]) (by decide +kernel) rfl rfl rfl (Nat.le_of_ble_eq_true rfl) ?_
  have hn := hO.1.1
  have hK := hO.1.2.1
  have hT := hO.1.2.2
  have hH := (hO.2.2 0 (by decide)).1
  have hW := (hO.2.2 0 (by decide)).2.1
  have hsp := (hO.2.2 0 (by decide)).2.2.1
  have hdm := (hO.2.2 0 (by decide)).2.2.2.1
  have htd := (hO.2.2 0 (by decide)).2.2.2.2
  have hF := hO.2.1.1
  have hA := hO.2.1.2.1
  have hkp := hO.2.1.2.2
  refine j_aload_n (i := 0) d_D_reckonGiven_0 rfl lg0 ?_
  refine j_iload_n (i := 2) d_D_reckonGiven_1 rfl lg2 ?_
  refine cl_D_161 (c_D_brokenBy l V S (by omega) hK hH (x) (by omega)) d_D_reckonGiven_2 rfl rfl (g_ftM (by decide)) (Nat.le_of_ble_eq_true rfl) (g_pu ?_)
  have hb6 := q_brk_lt (x := x) (s := D_str V) (m := 6) hn
  have hs6 := q_bit_lt (k := s) (m := 6) (by omega)
  refine j_iload_n (i := 1) d_D_reckonGiven_5 rfl lg1 ?_
  refine cl_D_98 (c_D_bit l V S (s) (by omega)) d_D_reckonGiven_6 rfl rfl (g_ftM (by decide)) (Nat.le_of_ble_eq_true rfl) (g_pu ?_)
  refine j_iconst (v := -1) d_D_reckonGiven_9 (by decide) ?_
  refine j_ixor d_D_reckonGiven_10 ?_
  refine j_iand d_D_reckonGiven_11 ?_
  rw [g_not hb6 hs6]
  refine j_istore_n d_D_reckonGiven_12 rfl ls3i ?_
  refine j_aload_n (i := 0) d_D_reckonGiven_13 rfl lg0 ?_
  refine j_iload_n (i := 1) d_D_reckonGiven_14 rfl lg1 ?_
  refine j_aload_n (i := 0) d_D_reckonGiven_15 rfl lg0 ?_
  refine gf_D_29 d_D_reckonGiven_16 ?_
  refine gf_D_117 (j := 0) (by decide) d_D_reckonGiven_19 ?_
  refine j_iload_n (i := 1) d_D_reckonGiven_22 rfl lg1 ?_
  refine j_iald d_D_reckonGiven_23 (gI_h1 (by decide)) (by omega) ?_
  refine cl_D_126 (c_D_strengthAt l V S (s) (V (hB 0 + 1) s) (by omega) (hK (s) (by omega)).2.2) d_D_reckonGiven_24 rfl rfl (g_ftM (by decide)) (Nat.le_of_ble_eq_true rfl) (g_pu ?_)
  refine j_istore d_D_reckonGiven_27 ls4i ?_
  refine j_iconstN (k := 0) d_D_reckonGiven_29 (by decide) ?_
  refine j_istore d_D_reckonGiven_30 ls5i ?_
  have h := (lp_D_reckonGiven (G := G) l V S hO s x hs hx _ 0 (by omega) (Nat.lt_succ_self _))
  rw [g_rg_0] at h
  exact h
def D_lo (V : g_V) (f g p : Nat) : Int32 := nI (if (V 10 (g + p)).testBit f = true then 0 else V 4 f) - nI g
abbrev D_con (V : g_V) (f g p : Nat) : Prop := ∀ k, k < 4 → D_lo V f k p ≤ D_lo V f g p
set_option maxRecDepth 4000 in
theorem c_D_leftOver {G : g_G} (l : Launch) (V : g_V) (S : g_L) (f g p : Nat) (hf : f < 6) (hg : g < 4) (hp : p < 4) (h10 : ∀ k, k < 7 → V 10 k < 64) : g_C G l y_D_leftOver b_D_leftOver 5 (some .int) 2 [.ref (g_a G (0)), .int (nI (f)), .int (nI (g)), .int (nI (p))] V S (fun r V' S' => r = some (.int (D_lo V f g p)) ∧ V' = V ∧ S' = S) := by
  refine g_C.of (lv := [some (.ref (g_a G (0))), some (.int (nI (f))), some (.int (nI (g))), some (.int (nI (p))), none]) (by decide +kernel) rfl rfl rfl (Nat.le_of_ble_eq_true rfl) ?_
  have hgp := h10 (g + p) (by omega)
  refine j_aload_n (i := 0) d_D_leftOver_0 rfl lg0 ?_
  refine gf_D_46 d_D_leftOver_1 ?_
  refine j_iload_n (i := 2) d_D_leftOver_4 rfl lg2 ?_
  refine j_iload_n (i := 3) d_D_leftOver_5 rfl lg3 ?_
  refine j_iaddN d_D_leftOver_6 ?_
  refine j_iald d_D_leftOver_7 gI_10 (by omega) ?_
  refine j_iload_n (i := 1) d_D_leftOver_8 rfl lg1 ?_
  refine cl_D_150 (c_D_has l V S (V 10 (g + p)) (f) (by omega) (by omega)) d_D_leftOver_9 rfl rfl (g_ftM (by decide)) (Nat.le_of_ble_eq_true rfl) (g_pu ?_)
  refine j_istore d_D_leftOver_12 ls4i ?_
  refine j_iload d_D_leftOver_14 lg4 ?_
  refine j_if_eqB (tgt := 23) d_D_leftOver_16 (by decide) (fun h_16 => ?_) (fun h_16 => ?_)
  ·
    refine j_aload_n (i := 0) d_D_leftOver_23 rfl lg0 ?_
    refine gf_D_20 d_D_leftOver_24 ?_
    refine j_iload_n (i := 1) d_D_leftOver_27 rfl lg1 ?_
    refine j_iald d_D_leftOver_28 gI_4 (by omega) ?_
    refine j_iload_n (i := 2) d_D_leftOver_29 rfl lg2 ?_
    refine j_isub d_D_leftOver_30 ?_
    refine j_iret d_D_leftOver_31 ⟨by unfold D_lo; rw [if_neg h_16], rfl, rfl⟩
  ·
    refine j_iconstN (k := 0) d_D_leftOver_19 (by decide) ?_
    refine j_goto (tgt := 29) d_D_leftOver_20 (by decide) ?_
    refine j_iload_n (i := 2) d_D_leftOver_29 rfl lg2 ?_
    refine j_isub d_D_leftOver_30 ?_
    refine j_iret d_D_leftOver_31 ⟨by unfold D_lo; rw [if_pos h_16], rfl, rfl⟩
set_option maxRecDepth 4000 in
theorem lp_D_isContent {G : g_G} (l : Launch) (V : g_V) (S : g_L) (f g p : Nat) (hf : f < 6) (hg : g < 4) (hp : p < 4) (h10 : ∀ k, k < 7 → V 10 k < 64) : ∀ (n : Nat) (i : Nat), (i ≤ 4) → (∀ k, k < i → D_lo V f k p ≤ D_lo V f g p) → 4 - i < n → JW G (g_M G l 3 (some .boolean) (fun r V' S' => r = some (.int (nI (g_z (decide (D_con V f g p))))) ∧ V' = V ∧ S' = S)) b_D_isContent R_D 12 [some (.ref (g_a G (0))), some (.int (nI (f))), some (.int (nI (g))), some (.int (nI (p))), some (.int (D_lo V f g p)), some (.int (nI (i)))] [] V S := by
  intro n
  induction n with
  | zero => intro i hi hc hm; exact absurd hm (Nat.not_lt_zero _)
  | succ n ih =>
    intro i hi hc hm
    refine j_iload d_D_isContent_12 lg5 ?_
    refine j_iconstN (k := 3) d_D_isContent_14 (by decide) ?_
    refine j_icmp_gtN (tgt := 39) d_D_isContent_15 (by decide) (by omega) (by omega) (fun h_15 => ?_) (fun h_15 => ?_)
    ·
      refine j_iconstN (k := 1) d_D_isContent_39 (by decide) ?_
      refine j_zret d_D_isContent_40 (by decide) ⟨g_z1 (fun k hk => hc k (by omega)), rfl, rfl⟩
    ·
      refine j_aload_n (i := 0) d_D_isContent_18 rfl lg0 ?_
      refine j_iload_n (i := 1) d_D_isContent_19 rfl lg1 ?_
      refine j_iload d_D_isContent_20 lg5 ?_
      refine j_iload_n (i := 3) d_D_isContent_22 rfl lg3 ?_
      refine cl_D_242 (c_D_leftOver l V S (f) (i) (p) (by omega) (by omega) (by omega) h10) d_D_isContent_23 rfl rfl (g_ftM (by decide)) (Nat.le_of_ble_eq_true rfl) (g_pu ?_)
      refine j_iload d_D_isContent_26 lg4 ?_
      refine j_icmp_le (tgt := 33) d_D_isContent_28 (by decide) (fun h_28 => ?_) (fun h_28 => ?_)
      ·
        refine j_iincN (k := 1) d_D_isContent_33 lg5 (by decide) ls5i ?_
        refine j_goto (tgt := 12) d_D_isContent_36 (by decide) ?_
        exact ih (i + 1) (by omega) (fun k hk => by
          rcases Nat.lt_succ_iff_lt_or_eq.mp hk with q | q
          · exact hc k q
          · rw [q]; exact h_28) (by omega)
      ·
        refine j_iconstN (k := 0) d_D_isContent_31 (by decide) ?_
        refine j_zret d_D_isContent_32 (by decide) ⟨g_z0 (fun q => h_28 (q i (by omega))), rfl, rfl⟩
set_option maxRecDepth 4000 in
theorem c_D_isContent {G : g_G} (l : Launch) (V : g_V) (S : g_L) (f g p : Nat) (hf : f < 6) (hg : g < 4) (hp : p < 4) (h10 : ∀ k, k < 7 → V 10 k < 64) : g_C G l y_D_isContent b_D_isContent 6 (some .boolean) 3 [.ref (g_a G (0)), .int (nI (f)), .int (nI (g)), .int (nI (p))] V S (fun r V' S' => r = some (.int (nI (g_z (decide (D_con V f g p))))) ∧ V' = V ∧ S' = S) := by
  refine g_C.of (lv := [some (.ref (g_a G (0))), some (.int (nI (f))), some (.int (nI (g))), some (.int (nI (p))), none, none]) (by decide +kernel) rfl rfl rfl (Nat.le_of_ble_eq_true rfl) ?_
  refine j_aload_n (i := 0) d_D_isContent_0 rfl lg0 ?_
  refine j_iload_n (i := 1) d_D_isContent_1 rfl lg1 ?_
  refine j_iload_n (i := 2) d_D_isContent_2 rfl lg2 ?_
  refine j_iload_n (i := 3) d_D_isContent_3 rfl lg3 ?_
  refine cl_D_242 (c_D_leftOver l V S (f) (g) (p) (by omega) (by omega) (by omega) h10) d_D_isContent_4 rfl rfl (g_ftM (by decide)) (Nat.le_of_ble_eq_true rfl) (g_pu ?_)
  refine j_istore d_D_isContent_7 ls4i ?_
  refine j_iconstN (k := 0) d_D_isContent_9 (by decide) ?_
  refine j_istore d_D_isContent_10 ls5i ?_
  exact lp_D_isContent l V S f g p hf hg hp h10 _ 0 (by omega) (fun k hk => absurd hk (Nat.not_lt_zero _)) (Nat.lt_succ_self _)
/-- pairs at rest, in their order: place j is (j / 4, j % 4) -/
abbrev D_ok (V : g_V) (f h j : Nat) : Prop := D_con V f (j / 4) (j % 4) ∧ D_con V h (j % 4) (j / 4)
def q_rc (ok : Nat → Bool) : Nat → Nat
  | 0 => 0
  | j + 1 => if ok j = true then q_rc ok j + 1 else q_rc ok j
def q_r1 (ok : Nat → Bool) : Nat → Int32
  | 0 => -9
  | j + 1 => if ok j = true then (if q_r1 ok j = -9 then nI (10 * (j / 4) + j % 4) else q_r1 ok j) else q_r1 ok j
def D_okb (V : g_V) (f h j : Nat) : Bool := decide (D_ok V f h j)
theorem q_rc_le {ok : Nat → Bool} : ∀ j, q_rc ok j ≤ j
  | 0 => Nat.le_refl _
  | j + 1 => by
    have := q_rc_le (ok := ok) j
    show (if ok j = true then q_rc ok j + 1 else q_rc ok j) ≤ j + 1
    by_cases h : ok j = true
    · rw [if_pos h]; omega
    · rw [if_neg h]; omega
set_option maxRecDepth 4000 in
theorem lp_D_rests1 {G : g_G} (l : Launch) (V : g_V) (S : g_L) (hO : g_OK V) (f h s x w : Nat) (hf : f < V 0 1) (hh : h < V 0 1) (hs : s < V 0 1) (hx : x ≤ 20) (hw2 : w < 2) (a : Nat) (ha : a < 4) (hout : (JW G (g_M G l 4 (some .int) (fun r V' S' => S' = S ∧ r = some (.int (if nI w = 0 then nI (q_rc (D_okb (g_rg V s x 7) f h) 16) else q_r1 (D_okb (g_rg V s x 7) f h) 16)) ∧ ∀ k, k ≠ 10 → V' k = V k)) b_D_rests R_D 140 [some (.ref (g_a G (0))), some (.int (nI (f))), some (.int (nI (h))), some (.int (nI (s))), some (.int (nI (x))), some (.int (nI (w))), some (.int (nI (q_rc (D_okb (g_rg V s x 7) f h) (4 * a + 4)))), some (.int (q_r1 (D_okb (g_rg V s x 7) f h) (4 * a + 4))), some (.int (nI (a))), some (.int (nI (4)))] [] (g_rg V s x 7) S)) : ∀ (n : Nat) (j b : Nat), (j = 4 * a + b) → (b ≤ 4) → 4 - b < n → JW G (g_M G l 4 (some .int) (fun r V' S' => S' = S ∧ r = some (.int (if nI w = 0 then nI (q_rc (D_okb (g_rg V s x 7) f h) 16) else q_r1 (D_okb (g_rg V s x 7) f h) 16)) ∧ ∀ k, k ≠ 10 → V' k = V k)) b_D_rests R_D 79 [some (.ref (g_a G (0))), some (.int (nI (f))), some (.int (nI (h))), some (.int (nI (s))), some (.int (nI (x))), some (.int (nI (w))), some (.int (nI (q_rc (D_okb (g_rg V s x 7) f h) j))), some (.int (q_r1 (D_okb (g_rg V s x 7) f h) j)), some (.int (nI (a))), some (.int (nI (b)))] [] (g_rg V s x 7) S := by
  intro n
  induction n with
  | zero => intro j b hj hb4 hm; exact absurd hm (Nat.not_lt_zero _)
  | succ n ih =>
    intro j b hj hb4 hm
    have hn := hO.1.1
    have hK := hO.1.2.1
    have hT := hO.1.2.2
    have hH := (hO.2.2 0 (by decide)).1
    have hW := (hO.2.2 0 (by decide)).2.1
    have hsp := (hO.2.2 0 (by decide)).2.2.1
    have hdm := (hO.2.2 0 (by decide)).2.2.2.1
    have htd := (hO.2.2 0 (by decide)).2.2.2.2
    have hF := hO.2.1.1
    have hA := hO.2.1.2.1
    have hkp := hO.2.1.2.2
    have h10 : ∀ k, k < 7 → g_rg V s x 7 10 k < 64 := fun k hk => by rw [g_rg_S hk]; exact D_gv_lt hn (by omega)
    refine j_iload d_D_rests_79 lg9 ?_
    refine j_iconstN (k := 3) d_D_rests_81 (by decide) ?_
    refine j_icmp_gtN (tgt := 140) d_D_rests_82 (by decide) (by omega) (by omega) (fun h_82 => ?_) (fun h_82 => ?_)
    ·
      obtain rfl : b = 4 := by omega
      subst hj
      exact hout
    ·
      have e1 : j / 4 = a := by omega
      have e2 : j % 4 = b := by omega
      refine j_aload_n (i := 0) d_D_rests_85 rfl lg0 ?_
      refine j_iload_n (i := 1) d_D_rests_86 rfl lg1 ?_
      refine j_iload d_D_rests_87 lg8 ?_
      refine j_iload d_D_rests_89 lg9 ?_
      refine cl_D_203 (c_D_isContent l (g_rg V s x 7) S (f) (a) (b) (by omega) (by omega) (by omega) h10) d_D_rests_91 rfl rfl (g_ftM (by decide)) (Nat.le_of_ble_eq_true rfl) (g_pu ?_)
      refine j_if_eqB (tgt := 134) d_D_rests_94 (by decide) (fun h_94 => ?_) (fun h_94 => ?_)
      ·
        refine j_iincN (k := 1) d_D_rests_134 lg9 (by decide) ls9i ?_
        refine j_goto (tgt := 79) d_D_rests_137 (by decide) ?_
        have hok : ¬ (D_okb (g_rg V s x 7) f h) j = true := fun q => by
          have q := of_decide_eq_true q
          rw [D_ok, e1, e2] at q
          first | exact h_94 q.1 | exact h_106 q.2
        rw [show q_rc (D_okb (g_rg V s x 7) f h) j = q_rc (D_okb (g_rg V s x 7) f h) (j + 1) from (if_neg hok).symm, show q_r1 (D_okb (g_rg V s x 7) f h) j = q_r1 (D_okb (g_rg V s x 7) f h) (j + 1) from (if_neg hok).symm]
        exact ih (j + 1) (b + 1) (by omega) (by omega) (by omega)
      ·
        refine j_aload_n (i := 0) d_D_rests_97 rfl lg0 ?_
        refine j_iload_n (i := 2) d_D_rests_98 rfl lg2 ?_
        refine j_iload d_D_rests_99 lg9 ?_
        refine j_iload d_D_rests_101 lg8 ?_
        refine cl_D_203 (c_D_isContent l (g_rg V s x 7) S (h) (b) (a) (by omega) (by omega) (by omega) h10) d_D_rests_103 rfl rfl (g_ftM (by decide)) (Nat.le_of_ble_eq_true rfl) (g_pu ?_)
        refine j_if_eqB (tgt := 134) d_D_rests_106 (by decide) (fun h_106 => ?_) (fun h_106 => ?_)
        ·
          refine j_iincN (k := 1) d_D_rests_134 lg9 (by decide) ls9i ?_
          refine j_goto (tgt := 79) d_D_rests_137 (by decide) ?_
          have hok : ¬ (D_okb (g_rg V s x 7) f h) j = true := fun q => by
            have q := of_decide_eq_true q
            rw [D_ok, e1, e2] at q
            first | exact h_94 q.1 | exact h_106 q.2
          rw [show q_rc (D_okb (g_rg V s x 7) f h) j = q_rc (D_okb (g_rg V s x 7) f h) (j + 1) from (if_neg hok).symm, show q_r1 (D_okb (g_rg V s x 7) f h) j = q_r1 (D_okb (g_rg V s x 7) f h) (j + 1) from (if_neg hok).symm]
          exact ih (j + 1) (b + 1) (by omega) (by omega) (by omega)
        ·
          refine j_iincN (k := 1) d_D_rests_109 lg6 (by decide) ls6i ?_
          refine j_iload d_D_rests_112 lg7 ?_
          refine j_bipush (v := -9) d_D_rests_114 (by decide) ?_
          refine j_icmp_ne (tgt := 130) d_D_rests_116 (by decide) (fun h_116 => ?_) (fun h_116 => ?_)
          ·
            refine j_iload d_D_rests_130 lg7 ?_
            refine j_istore d_D_rests_132 ls7i ?_
            refine j_iincN (k := 1) d_D_rests_134 lg9 (by decide) ls9i ?_
            refine j_goto (tgt := 79) d_D_rests_137 (by decide) ?_
            have hok : (D_okb (g_rg V s x 7) f h) j = true := decide_eq_true ⟨by rw [e1, e2]; exact h_94, by rw [e1, e2]; exact h_106⟩
            rw [show q_rc (D_okb (g_rg V s x 7) f h) j + 1 = q_rc (D_okb (g_rg V s x 7) f h) (j + 1) from (if_pos hok).symm, show q_r1 (D_okb (g_rg V s x 7) f h) j = q_r1 (D_okb (g_rg V s x 7) f h) (j + 1) from ((if_pos hok).trans (if_neg h_116)).symm]
            exact ih (j + 1) (b + 1) (by omega) (by omega) (by omega)
          ·
            refine j_bipushN (k := 10) d_D_rests_119 (by decide) ?_
            refine j_iload d_D_rests_121 lg8 ?_
            refine j_imulN d_D_rests_123 ?_
            refine j_iload d_D_rests_124 lg9 ?_
            refine j_iaddN d_D_rests_126 ?_
            refine j_goto (tgt := 132) d_D_rests_127 (by decide) ?_
            refine j_istore d_D_rests_132 ls7i ?_
            refine j_iincN (k := 1) d_D_rests_134 lg9 (by decide) ls9i ?_
            refine j_goto (tgt := 79) d_D_rests_137 (by decide) ?_
            have hok : (D_okb (g_rg V s x 7) f h) j = true := decide_eq_true ⟨by rw [e1, e2]; exact h_94, by rw [e1, e2]; exact h_106⟩
            rw [show q_rc (D_okb (g_rg V s x 7) f h) j + 1 = q_rc (D_okb (g_rg V s x 7) f h) (j + 1) from (if_pos hok).symm, show nI ((10 * a) + b) = q_r1 (D_okb (g_rg V s x 7) f h) (j + 1) from ((if_pos hok).trans (by rw [if_pos h_116, e1, e2])).symm]
            exact ih (j + 1) (b + 1) (by omega) (by omega) (by omega)
set_option maxRecDepth 4000 in
theorem lp_D_rests {G : g_G} (l : Launch) (V : g_V) (S : g_L) (hO : g_OK V) (f h s x w : Nat) (hf : f < V 0 1) (hh : h < V 0 1) (hs : s < V 0 1) (hx : x ≤ 20) (hw2 : w < 2) : ∀ (n : Nat) (a : Nat), (a ≤ 4) → 4 - a < n → JW G (g_M G l 4 (some .int) (fun r V' S' => S' = S ∧ r = some (.int (if nI w = 0 then nI (q_rc (D_okb (g_rg V s x 7) f h) 16) else q_r1 (D_okb (g_rg V s x 7) f h) 16)) ∧ ∀ k, k ≠ 10 → V' k = V k)) b_D_rests R_D 70 [some (.ref (g_a G (0))), some (.int (nI (f))), some (.int (nI (h))), some (.int (nI (s))), some (.int (nI (x))), some (.int (nI (w))), some (.int (nI (q_rc (D_okb (g_rg V s x 7) f h) (4 * a)))), some (.int (q_r1 (D_okb (g_rg V s x 7) f h) (4 * a))), some (.int (nI (a))), none] [] (g_rg V s x 7) S := by
  intro n
  induction n with
  | zero => intro a hi hm; exact absurd hm (Nat.not_lt_zero _)
  | succ n ih =>
    intro a hi hm
    have hn := hO.1.1
    have hK := hO.1.2.1
    have hT := hO.1.2.2
    have hH := (hO.2.2 0 (by decide)).1
    have hW := (hO.2.2 0 (by decide)).2.1
    have hsp := (hO.2.2 0 (by decide)).2.2.1
    have hdm := (hO.2.2 0 (by decide)).2.2.2.1
    have htd := (hO.2.2 0 (by decide)).2.2.2.2
    have hF := hO.2.1.1
    have hA := hO.2.1.2.1
    have hkp := hO.2.1.2.2
    have h10 : ∀ k, k < 7 → g_rg V s x 7 10 k < 64 := fun k hk => by rw [g_rg_S hk]; exact D_gv_lt hn (by omega)
    refine j_iload d_D_rests_70 lg8 ?_
    refine j_iconstN (k := 3) d_D_rests_72 (by decide) ?_
    refine j_icmp_gtN (tgt := 146) d_D_rests_73 (by decide) (by omega) (by omega) (fun h_73 => ?_) (fun h_73 => ?_)
    ·
      refine j_iload d_D_rests_146 lg5 ?_
      refine j_if_neN (tgt := 156) d_D_rests_148 (by decide) (by omega) (fun h_148 => ?_) (fun h_148 => ?_)
      ·
        refine j_iload d_D_rests_156 lg7 ?_
        refine j_iret d_D_rests_158 ⟨rfl, by rw [show a = 4 by omega, if_neg (show ¬ nI w = 0 from fun q => h_148 ((nI_eq (by omega) (by decide)).mp (q.trans nI_0.symm)))], fun k hk => g_rg_N hk⟩
      ·
        refine j_iload d_D_rests_151 lg6 ?_
        refine j_goto (tgt := 158) d_D_rests_153 (by decide) ?_
        refine j_iret d_D_rests_158 ⟨rfl, by rw [show a = 4 by omega, if_pos (show nI w = 0 from by rw [h_148]; rfl)], fun k hk => g_rg_N hk⟩
    ·
      refine j_iconstN (k := 0) d_D_rests_76 (by decide) ?_
      refine j_istore d_D_rests_77 ls9i ?_
      refine lp_D_rests1 l V S hO f h s x w hf hh hs hx hw2 a (by omega) ?_ _ (4 * a) 0 rfl (by omega) (Nat.lt_succ_self _)
      refine j_iincN (k := 1) d_D_rests_140 lg8 (by decide) ls8i ?_
      refine j_goto (tgt := 70) d_D_rests_143 (by decide) ?_
      exact j_fg 9 (ih (a + 1) (by omega) (by omega))
set_option maxRecDepth 4000 in
theorem c_D_rests {G : g_G} (l : Launch) (V : g_V) (S : g_L) (hO : g_OK V) (f0 h0 s0 x0 w0 : Int32) : g_C G l y_D_rests b_D_rests 10 (some .int) 4 [.ref (g_a G (0)), .int (f0), .int (h0), .int (s0), .int (x0), .int (w0)] V S (fun r V' S' => S' = S ∧ r = some (.int (if q_in f0 (V 0 1) ∧ q_in h0 (V 0 1) ∧ q_in s0 (V 0 1) then (if ¬ f0 = h0 ∧ q_in x0 21 ∧ q_in w0 2 then (if w0 = 0 then nI (q_rc (D_okb (g_rg V (q_n s0) (q_n x0) 7) (q_n f0) (q_n h0)) 16) else q_r1 (D_okb (g_rg V (q_n s0) (q_n x0) 7) (q_n f0) (q_n h0)) 16) else -2) else -1)) ∧ ∀ k, k ≠ 10 → V' k = V k) := by
  refine g_C.of (lv := [some (.ref (g_a G (0))), some (.int (f0)), some (.int (h0)), some (.int (s0)), some (.int (x0)), some (.int (w0)), none, none, none, none]) (by decide +kernel) rfl rfl rfl (Nat.le_of_ble_eq_true rfl) ?_
  have hn := hO.1.1
  have hK := hO.1.2.1
  have hT := hO.1.2.2
  have hH := (hO.2.2 0 (by decide)).1
  have hW := (hO.2.2 0 (by decide)).2.1
  have hsp := (hO.2.2 0 (by decide)).2.2.1
  have hdm := (hO.2.2 0 (by decide)).2.2.2.1
  have htd := (hO.2.2 0 (by decide)).2.2.2.2
  have hF := hO.2.1.1
  have hA := hO.2.1.2.1
  have hkp := hO.2.1.2.2
  refine j_aload_n (i := 0) d_D_rests_0 rfl lg0 ?_
  refine j_iload_n (i := 1) d_D_rests_1 rfl lg1 ?_
  refine cl_D_113 (c_D_isFarm l V S (by omega) (f0)) d_D_rests_2 rfl rfl (g_ftM (by decide)) (Nat.le_of_ble_eq_true rfl) (g_pu ?_)
  refine j_if_eqB (tgt := 24) d_D_rests_5 (by decide) (fun h_5 => ?_) (fun h_5 => ?_)
  ·
    refine j_iconst (v := -1) d_D_rests_24 (by decide) ?_
    refine j_iret d_D_rests_25 ⟨rfl, by rw [if_neg (fun q => by first | exact h_5 q.1 | exact h_13 q.2.1 | exact h_21 q.2.2)], fun k _ => rfl⟩
  ·
    refine j_aload_n (i := 0) d_D_rests_8 rfl lg0 ?_
    refine j_iload_n (i := 2) d_D_rests_9 rfl lg2 ?_
    refine cl_D_113 (c_D_isFarm l V S (by omega) (h0)) d_D_rests_10 rfl rfl (g_ftM (by decide)) (Nat.le_of_ble_eq_true rfl) (g_pu ?_)
    refine j_if_eqB (tgt := 24) d_D_rests_13 (by decide) (fun h_13 => ?_) (fun h_13 => ?_)
    ·
      refine j_iconst (v := -1) d_D_rests_24 (by decide) ?_
      refine j_iret d_D_rests_25 ⟨rfl, by rw [if_neg (fun q => by first | exact h_5 q.1 | exact h_13 q.2.1 | exact h_21 q.2.2)], fun k _ => rfl⟩
    ·
      refine j_aload_n (i := 0) d_D_rests_16 rfl lg0 ?_
      refine j_iload_n (i := 3) d_D_rests_17 rfl lg3 ?_
      refine cl_D_113 (c_D_isFarm l V S (by omega) (s0)) d_D_rests_18 rfl rfl (g_ftM (by decide)) (Nat.le_of_ble_eq_true rfl) (g_pu ?_)
      refine j_if_neB (tgt := 26) d_D_rests_21 (by decide) (fun h_21 => ?_) (fun h_21 => ?_)
      ·
        refine j_iload_n (i := 1) d_D_rests_26 rfl lg1 ?_
        refine j_iload_n (i := 2) d_D_rests_27 rfl lg2 ?_
        refine j_icmp_eq (tgt := 50) d_D_rests_28 (by decide) (fun h_28 => ?_) (fun h_28 => ?_)
        ·
          refine j_bipush (v := -2) d_D_rests_50 (by decide) ?_
          refine j_iret d_D_rests_52 ⟨rfl, by rw [if_pos ⟨h_5, h_13, h_21⟩, if_neg (fun q => by first | exact q.1 h_28 | exact h_36 q.2.1 | (rw [Int32.lt_iff_toInt_lt, Int32.toInt_zero] at h_41; have := q.2.2.1; omega) | (rw [Int32.le_iff_toInt_le, nI_toInt (by decide)] at h_47; have := q.2.2.2; omega))], fun k _ => rfl⟩
        ·
          refine j_iload d_D_rests_31 lg4 ?_
          refine cl_D_134 (c_D_isStorm l V S (x0)) d_D_rests_33 rfl rfl (g_ftM (by decide)) (Nat.le_of_ble_eq_true rfl) (g_pu ?_)
          refine j_if_eqB (tgt := 50) d_D_rests_36 (by decide) (fun h_36 => ?_) (fun h_36 => ?_)
          ·
            refine j_bipush (v := -2) d_D_rests_50 (by decide) ?_
            refine j_iret d_D_rests_52 ⟨rfl, by rw [if_pos ⟨h_5, h_13, h_21⟩, if_neg (fun q => by first | exact q.1 h_28 | exact h_36 q.2.1 | (rw [Int32.lt_iff_toInt_lt, Int32.toInt_zero] at h_41; have := q.2.2.1; omega) | (rw [Int32.le_iff_toInt_le, nI_toInt (by decide)] at h_47; have := q.2.2.2; omega))], fun k _ => rfl⟩
          ·
            refine j_iload d_D_rests_39 lg5 ?_
            refine j_if_lt (tgt := 50) d_D_rests_41 (by decide) (fun h_41 => ?_) (fun h_41 => ?_)
            ·
              refine j_bipush (v := -2) d_D_rests_50 (by decide) ?_
              refine j_iret d_D_rests_52 ⟨rfl, by rw [if_pos ⟨h_5, h_13, h_21⟩, if_neg (fun q => by first | exact q.1 h_28 | exact h_36 q.2.1 | (rw [Int32.lt_iff_toInt_lt, Int32.toInt_zero] at h_41; have := q.2.2.1; omega) | (rw [Int32.le_iff_toInt_le, nI_toInt (by decide)] at h_47; have := q.2.2.2; omega))], fun k _ => rfl⟩
            ·
              refine j_iload d_D_rests_44 lg5 ?_
              refine j_iconstN (k := 1) d_D_rests_46 (by decide) ?_
              refine j_icmp_le (tgt := 53) d_D_rests_47 (by decide) (fun h_47 => ?_) (fun h_47 => ?_)
              ·
                have hw2 := q_in_lo (by decide) h_41 h_47
                rw [if_pos ⟨h_5, h_13, h_21⟩, if_pos ⟨h_28, h_36, hw2⟩]
                obtain ⟨f, hf, rfl⟩ := q_in_of h_5 (by omega)
                obtain ⟨h, hh, rfl⟩ := q_in_of h_13 (by omega)
                obtain ⟨s, hs, rfl⟩ := q_in_of h_21 (by omega)
                obtain ⟨x, hx, rfl⟩ := q_in_of h_36 (by decide)
                obtain ⟨w, hww, rfl⟩ := q_in_of hw2 (by decide)
                rw [q_n_nI (by omega), q_n_nI (by omega), q_n_nI (by omega), q_n_nI (by omega)]
                refine j_aload_n (i := 0) d_D_rests_53 rfl lg0 ?_
                refine j_iload_n (i := 3) d_D_rests_54 rfl lg3 ?_
                refine j_iload d_D_rests_55 lg4 ?_
                refine cl_D_199 (c_D_reckonGiven l V S hO (s) (x) (by omega) (by omega)) d_D_rests_57 rfl rfl (g_ftM (by decide)) (Nat.le_of_ble_eq_true rfl) (g_pw ?_)
                refine j_iconstN (k := 0) d_D_rests_60 (by decide) ?_
                refine j_istore d_D_rests_61 ls6i ?_
                refine j_bipush (v := -9) d_D_rests_63 (by decide) ?_
                refine j_istore d_D_rests_65 ls7i ?_
                refine j_iconstN (k := 0) d_D_rests_67 (by decide) ?_
                refine j_istore d_D_rests_68 ls8i ?_
                exact lp_D_rests l V S hO f h s x w hf hh hs (by omega) (by omega) _ 0 (by omega) (Nat.lt_succ_self _)
              ·
                refine j_bipush (v := -2) d_D_rests_50 (by decide) ?_
                refine j_iret d_D_rests_52 ⟨rfl, by rw [if_pos ⟨h_5, h_13, h_21⟩, if_neg (fun q => by first | exact q.1 h_28 | exact h_36 q.2.1 | (rw [Int32.lt_iff_toInt_lt, Int32.toInt_zero] at h_41; have := q.2.2.1; omega) | (rw [Int32.le_iff_toInt_le, nI_toInt (by decide)] at h_47; have := q.2.2.2; omega))], fun k _ => rfl⟩
      ·
        refine j_iconst (v := -1) d_D_rests_24 (by decide) ?_
        refine j_iret d_D_rests_25 ⟨rfl, by rw [if_neg (fun q => by first | exact h_5 q.1 | exact h_13 q.2.1 | exact h_21 q.2.2)], fun k _ => rfl⟩
/-- does a stretch of kind k, grass g, height h hold through the storms xs i .. -/
def q_hold (k g : Nat) (xs : Nat → Nat) : Nat → Nat → Nat → Bool
  | 0, _, _ => true
  | m + 1, i, h => if q_str k g h < xs i then false else q_hold k g xs m (i + 1) (q_bh (q_str k g h) h (xs i))
theorem q_hold_t {k g i h : Nat} {xs : Nat → Nat} (hi : i < 3) (hx : ¬ q_str k g h < xs i) : q_hold k g xs (3 - i) i h = q_hold k g xs (3 - (i + 1)) (i + 1) (q_bh (q_str k g h) h (xs i)) := by
  rw [show 3 - i = (3 - (i + 1)) + 1 by omega]; exact if_neg hx
theorem q_hold_f {k g i h : Nat} {xs : Nat → Nat} (hi : i < 3) (hx : q_str k g h < xs i) : q_hold k g xs (3 - i) i h = false := by
  rw [show 3 - i = (3 - (i + 1)) + 1 by omega]; exact if_pos hx
theorem q_bh_le {s h x : Nat} : q_bh s h x ≤ h := by
  unfold q_bh
  split
  · exact Nat.zero_le _
  · split <;> omega
def q_xs (r a b i : Nat) : Nat := if r.testBit i = true then a else b
set_option maxRecDepth 4000 in
theorem lp_D_holdsThrough {G : g_G} (l : Launch) (V : g_V) (S : g_L) (hO : g_OK V) (s a b y : Nat) (hs : s < V 0 1) (ha : a ≤ 20) (hb : b ≤ 20) (hr : y < 8) : ∀ (n : Nat) (i h : Nat), (i ≤ 3) → (h ≤ 15) → (q_hold (V 5 s) (V 3 s) (q_xs y a b) 3 0 (V (hB 0 + 1) s) = q_hold (V 5 s) (V 3 s) (q_xs y a b) (3 - i) i h) → 3 - i < n → JW G (g_M G l 3 (some .boolean) (fun r V' S' => r = some (.int (nI (g_z (decide (q_hold (V 5 s) (V 3 s) (q_xs y a b) 3 0 (V (hB 0 + 1) s) = true))))) ∧ V' = V ∧ S' = S)) b_D_holdsThrough R_D 14 [some (.ref (g_a G (0))), some (.int (nI (s))), some (.int (nI (a))), some (.int (nI (b))), some (.int (nI (y))), some (.int (nI (h))), some (.int (nI (i))), none] [] V S := by
  intro n
  induction n with
  | zero => intro i h hi hh he hm; exact absurd hm (Nat.not_lt_zero _)
  | succ n ih =>
    intro i h hi hh he hm
    have hn := hO.1.1
    have hK := hO.1.2.1
    have hT := hO.1.2.2
    have hH := (hO.2.2 0 (by decide)).1
    have hW := (hO.2.2 0 (by decide)).2.1
    have hsp := (hO.2.2 0 (by decide)).2.2.1
    have hdm := (hO.2.2 0 (by decide)).2.2.2.1
    have htd := (hO.2.2 0 (by decide)).2.2.2.2
    have hF := hO.2.1.1
    have hA := hO.2.1.2.1
    have hkp := hO.2.1.2.2
    have hq := q_str_lt (k := V 5 s) (g := V 3 s) (h := h) (hK s (by omega)).1 (by omega)
    refine j_iload d_D_holdsThrough_14 lg6 ?_
    refine j_iconstN (k := 3) d_D_holdsThrough_16 (by decide) ?_
    refine j_icmp_geN (tgt := 68) d_D_holdsThrough_17 (by decide) (by omega) (by omega) (fun h_17 => ?_) (fun h_17 => ?_)
    ·
      refine j_iconstN (k := 1) d_D_holdsThrough_68 (by decide) ?_
      refine j_zret d_D_holdsThrough_69 (by decide) ⟨g_z1 (by rw [he, show i = 3 by omega]; rfl), rfl, rfl⟩
    ·
      refine j_iload d_D_holdsThrough_20 lg4 ?_
      refine j_iload d_D_holdsThrough_22 lg6 ?_
      refine cl_D_150 (c_D_has l V S (y) (i) (by omega) (by omega)) d_D_holdsThrough_24 rfl rfl (g_ftM (by decide)) (Nat.le_of_ble_eq_true rfl) (g_pu ?_)
      refine j_if_eqB (tgt := 34) d_D_holdsThrough_27 (by decide) (fun h_27 => ?_) (fun h_27 => ?_)
      ·
        refine j_iload_n (i := 3) d_D_holdsThrough_34 rfl lg3 ?_
        refine j_istore d_D_holdsThrough_35 ls7i ?_
        have hxi : q_xs y a b i = b := if_neg h_27
        refine j_iload d_D_holdsThrough_37 lg7 ?_
        refine j_aload_n (i := 0) d_D_holdsThrough_39 rfl lg0 ?_
        refine j_iload_n (i := 1) d_D_holdsThrough_40 rfl lg1 ?_
        refine j_iload d_D_holdsThrough_41 lg5 ?_
        refine cl_D_126 (c_D_strengthAt l V S (s) (h) (by omega) (hK (s) (by omega)).2.2) d_D_holdsThrough_43 rfl rfl (g_ftM (by decide)) (Nat.le_of_ble_eq_true rfl) (g_pu ?_)
        refine j_icmp_leN (tgt := 51) d_D_holdsThrough_46 (by decide) (by omega) (by omega) (fun h_46 => ?_) (fun h_46 => ?_)
        ·
          refine j_aload_n (i := 0) d_D_holdsThrough_51 rfl lg0 ?_
          refine j_iload_n (i := 1) d_D_holdsThrough_52 rfl lg1 ?_
          refine j_iload d_D_holdsThrough_53 lg5 ?_
          refine j_iload d_D_holdsThrough_55 lg7 ?_
          refine cl_D_232 (c_D_heightBehind l V S hK (s) (h) (b) (by omega) (by omega) (by omega)) d_D_holdsThrough_57 rfl rfl (g_ftM (by decide)) (Nat.le_of_ble_eq_true rfl) (g_pu ?_)
          refine j_istore d_D_holdsThrough_60 ls5i ?_
          refine j_iincN (k := 1) d_D_holdsThrough_62 lg6 (by decide) ls6i ?_
          refine j_goto (tgt := 14) d_D_holdsThrough_65 (by decide) ?_
          exact j_fg 7 (ih (i + 1) _ (by omega) (Nat.le_trans q_bh_le hh) (by rw [he, q_hold_t (by omega) (by rw [hxi]; omega), hxi]) (by omega))
        ·
          refine j_iconstN (k := 0) d_D_holdsThrough_49 (by decide) ?_
          refine j_zret d_D_holdsThrough_50 (by decide) ⟨g_z0 (fun q => by rw [he, q_hold_f (by omega) (by rw [hxi]; omega)] at q; cases q), rfl, rfl⟩
      ·
        refine j_iload_n (i := 2) d_D_holdsThrough_30 rfl lg2 ?_
        refine j_goto (tgt := 35) d_D_holdsThrough_31 (by decide) ?_
        refine j_istore d_D_holdsThrough_35 ls7i ?_
        have hxi : q_xs y a b i = a := if_pos h_27
        refine j_iload d_D_holdsThrough_37 lg7 ?_
        refine j_aload_n (i := 0) d_D_holdsThrough_39 rfl lg0 ?_
        refine j_iload_n (i := 1) d_D_holdsThrough_40 rfl lg1 ?_
        refine j_iload d_D_holdsThrough_41 lg5 ?_
        refine cl_D_126 (c_D_strengthAt l V S (s) (h) (by omega) (hK (s) (by omega)).2.2) d_D_holdsThrough_43 rfl rfl (g_ftM (by decide)) (Nat.le_of_ble_eq_true rfl) (g_pu ?_)
        refine j_icmp_leN (tgt := 51) d_D_holdsThrough_46 (by decide) (by omega) (by omega) (fun h_46 => ?_) (fun h_46 => ?_)
        ·
          refine j_aload_n (i := 0) d_D_holdsThrough_51 rfl lg0 ?_
          refine j_iload_n (i := 1) d_D_holdsThrough_52 rfl lg1 ?_
          refine j_iload d_D_holdsThrough_53 lg5 ?_
          refine j_iload d_D_holdsThrough_55 lg7 ?_
          refine cl_D_232 (c_D_heightBehind l V S hK (s) (h) (a) (by omega) (by omega) (by omega)) d_D_holdsThrough_57 rfl rfl (g_ftM (by decide)) (Nat.le_of_ble_eq_true rfl) (g_pu ?_)
          refine j_istore d_D_holdsThrough_60 ls5i ?_
          refine j_iincN (k := 1) d_D_holdsThrough_62 lg6 (by decide) ls6i ?_
          refine j_goto (tgt := 14) d_D_holdsThrough_65 (by decide) ?_
          exact j_fg 7 (ih (i + 1) _ (by omega) (Nat.le_trans q_bh_le hh) (by rw [he, q_hold_t (by omega) (by rw [hxi]; omega), hxi]) (by omega))
        ·
          refine j_iconstN (k := 0) d_D_holdsThrough_49 (by decide) ?_
          refine j_zret d_D_holdsThrough_50 (by decide) ⟨g_z0 (fun q => by rw [he, q_hold_f (by omega) (by rw [hxi]; omega)] at q; cases q), rfl, rfl⟩
set_option maxRecDepth 4000 in
theorem c_D_holdsThrough {G : g_G} (l : Launch) (V : g_V) (S : g_L) (hO : g_OK V) (s a b y : Nat) (hs : s < V 0 1) (ha : a ≤ 20) (hb : b ≤ 20) (hr : y < 8) : g_C G l y_D_holdsThrough b_D_holdsThrough 8 (some .boolean) 3 [.ref (g_a G (0)), .int (nI (s)), .int (nI (a)), .int (nI (b)), .int (nI (y))] V S (fun r V' S' => r = some (.int (nI (g_z (decide (q_hold (V 5 s) (V 3 s) (q_xs y a b) 3 0 (V (hB 0 + 1) s) = true))))) ∧ V' = V ∧ S' = S) := by
  refine g_C.of (lv := [some (.ref (g_a G (0))), some (.int (nI (s))), some (.int (nI (a))), some (.int (nI (b))), some (.int (nI (y))), none, none, none]) (by decide +kernel) rfl rfl rfl (Nat.le_of_ble_eq_true rfl) ?_
  have hn := hO.1.1
  have hK := hO.1.2.1
  have hT := hO.1.2.2
  have hH := (hO.2.2 0 (by decide)).1
  have hW := (hO.2.2 0 (by decide)).2.1
  have hsp := (hO.2.2 0 (by decide)).2.2.1
  have hdm := (hO.2.2 0 (by decide)).2.2.2.1
  have htd := (hO.2.2 0 (by decide)).2.2.2.2
  have hF := hO.2.1.1
  have hA := hO.2.1.2.1
  have hkp := hO.2.1.2.2
  refine j_aload_n (i := 0) d_D_holdsThrough_0 rfl lg0 ?_
  refine gf_D_29 d_D_holdsThrough_1 ?_
  refine gf_D_117 (j := 0) (by decide) d_D_holdsThrough_4 ?_
  refine j_iload_n (i := 1) d_D_holdsThrough_7 rfl lg1 ?_
  refine j_iald d_D_holdsThrough_8 (gI_h1 (by decide)) (by omega) ?_
  refine j_istore d_D_holdsThrough_9 ls5i ?_
  refine j_iconstN (k := 0) d_D_holdsThrough_11 (by decide) ?_
  refine j_istore d_D_holdsThrough_12 ls6i ?_
  exact lp_D_holdsThrough l V S hO s a b y hs ha hb hr _ 0 _ (by omega) (hH s (by omega)) rfl (Nat.lt_succ_self _)
def q_ch (r t : Nat) : Nat → Nat
  | 0 => 1
  | i + 1 => q_ch r t i * (if r.testBit i = true then t else 10 - t)
theorem q_ch_le {r t : Nat} (ht : t ≤ 10) : q_ch r t 3 ≤ 1000 := by
  have h : ∀ i, (if r.testBit i = true then t else 10 - t) ≤ 10 := fun i => by split <;> omega
  show 1 * _ * _ * _ ≤ 1000
  have h1 := Nat.mul_le_mul (Nat.mul_le_mul (Nat.mul_le_mul (Nat.le_refl 1) (h 0)) (h 1)) (h 2)
  omega
set_option maxRecDepth 4000 in
theorem lp_D_chanceOf {G : g_G} (l : Launch) (V : g_V) (S : g_L) (y t : Nat) (hr : y < 8) (ht : t ≤ 10) : ∀ (n : Nat) (i c : Nat), (i ≤ 3) → (c = q_ch y t i) → 3 - i < n → JW G (g_M G l 2 (some .int) (fun r V' S' => r = some (.int (nI (q_ch y t 3))) ∧ V' = V ∧ S' = S)) b_D_chanceOf R_D 4 [some (.int (nI (y))), some (.int (nI (t))), some (.int (nI (c))), some (.int (nI (i)))] [] V S := by
  intro n
  induction n with
  | zero => intro i c hi hc hm; exact absurd hm (Nat.not_lt_zero _)
  | succ n ih =>
    intro i c hi hc hm
    refine j_iload_n (i := 3) d_D_chanceOf_4 rfl lg3 ?_
    refine j_iconstN (k := 3) d_D_chanceOf_5 (by decide) ?_
    refine j_icmp_geN (tgt := 34) d_D_chanceOf_6 (by decide) (by omega) (by omega) (fun h_6 => ?_) (fun h_6 => ?_)
    ·
      refine j_iload_n (i := 2) d_D_chanceOf_34 rfl lg2 ?_
      refine j_iret d_D_chanceOf_35 ⟨by rw [hc, show i = 3 by omega], rfl, rfl⟩
    ·
      refine j_iload_n (i := 2) d_D_chanceOf_9 rfl lg2 ?_
      refine j_iload_n (i := 0) d_D_chanceOf_10 rfl lg0 ?_
      refine j_iload_n (i := 3) d_D_chanceOf_11 rfl lg3 ?_
      refine cl_D_150 (c_D_has l V S (y) (i) (by omega) (by omega)) d_D_chanceOf_12 rfl rfl (g_ftM (by decide)) (Nat.le_of_ble_eq_true rfl) (g_pu ?_)
      refine j_if_eqB (tgt := 22) d_D_chanceOf_15 (by decide) (fun h_15 => ?_) (fun h_15 => ?_)
      ·
        refine j_bipushN (k := 10) d_D_chanceOf_22 (by decide) ?_
        refine j_iload_n (i := 1) d_D_chanceOf_24 rfl lg1 ?_
        refine j_isubN d_D_chanceOf_25 (by omega) ?_
        refine j_imulN d_D_chanceOf_26 ?_
        refine j_istore_n d_D_chanceOf_27 rfl ls2i ?_
        refine j_iincN (k := 1) d_D_chanceOf_28 lg3 (by decide) ls3i ?_
        refine j_goto (tgt := 4) d_D_chanceOf_31 (by decide) ?_
        exact ih (i + 1) _ (by omega) (by rw [hc]; show _ = q_ch y t i * (if _ then _ else _); rw [if_neg h_15]) (by omega)
      ·
        refine j_iload_n (i := 1) d_D_chanceOf_18 rfl lg1 ?_
        refine j_goto (tgt := 26) d_D_chanceOf_19 (by decide) ?_
        refine j_imulN d_D_chanceOf_26 ?_
        refine j_istore_n d_D_chanceOf_27 rfl ls2i ?_
        refine j_iincN (k := 1) d_D_chanceOf_28 lg3 (by decide) ls3i ?_
        refine j_goto (tgt := 4) d_D_chanceOf_31 (by decide) ?_
        exact ih (i + 1) _ (by omega) (by rw [hc]; show _ = q_ch y t i * (if _ then _ else _); rw [if_pos h_15]) (by omega)
set_option maxRecDepth 4000 in
theorem c_D_chanceOf {G : g_G} (l : Launch) (V : g_V) (S : g_L) (y t : Nat) (hr : y < 8) (ht : t ≤ 10) : g_C G l y_D_chanceOf b_D_chanceOf 4 (some .int) 2 [.int (nI (y)), .int (nI (t))] V S (fun r V' S' => r = some (.int (nI (q_ch y t 3))) ∧ V' = V ∧ S' = S) := by
  refine g_C.of (lv := [some (.int (nI (y))), some (.int (nI (t))), none, none]) (by decide +kernel) rfl rfl rfl (Nat.le_of_ble_eq_true rfl) ?_
  refine j_iconstN (k := 1) d_D_chanceOf_0 (by decide) ?_
  refine j_istore_n d_D_chanceOf_1 rfl ls2i ?_
  refine j_iconstN (k := 0) d_D_chanceOf_2 (by decide) ?_
  refine j_istore_n d_D_chanceOf_3 rfl ls3i ?_
  exact lp_D_chanceOf l V S y t hr ht _ 0 1 (by omega) rfl (Nat.lt_succ_self _)
def D_thf (V : g_V) (s a b t r : Nat) : Nat := if q_hold (V 5 s) (V 3 s) (q_xs r a b) 3 0 (V (hB 0 + 1) s) = true then q_ch r t 3 else 0
theorem D_thf_le {V : g_V} {s a b t r : Nat} (ht : t ≤ 10) : D_thf V s a b t r ≤ 1000 := by
  unfold D_thf
  split
  · exact q_ch_le ht
  · exact Nat.zero_le _
set_option maxRecDepth 4000 in
theorem lp_D_threes {G : g_G} (l : Launch) (V : g_V) (S : g_L) (hO : g_OK V) (s a b t u : Nat) (hs : s < V 0 1) (ha : a ≤ 20) (hb : b ≤ 20) (ht : t ≤ 10) (hu : u < 2) : ∀ (n : Nat) (i c : Nat), (i ≤ 8) → (c = q_sum i (D_thf V s a b t)) → (c ≤ i * 1000) → 8 - i < n → JW G (g_M G l 4 (some .int) (fun r V' S' => r = some (.int (nI ((if u = 0 then 1000 else q_sum 8 (D_thf V s a b t)) / Nat.gcd (q_sum 8 (D_thf V s a b t)) 1000))) ∧ V' = V ∧ S' = S)) b_D_threes R_D 45 [some (.ref (g_a G (0))), some (.int (nI (s))), some (.int (nI (a))), some (.int (nI (b))), some (.int (nI (t))), some (.int (nI (u))), some (.int (nI (c))), some (.int (nI (i)))] [] V S := by
  intro n
  induction n with
  | zero => intro i c hi hc hcb hm; exact absurd hm (Nat.not_lt_zero _)
  | succ n ih =>
    intro i c hi hc hcb hm
    have hn := hO.1.1
    have hK := hO.1.2.1
    have hT := hO.1.2.2
    have hH := (hO.2.2 0 (by decide)).1
    have hW := (hO.2.2 0 (by decide)).2.1
    have hsp := (hO.2.2 0 (by decide)).2.2.1
    have hdm := (hO.2.2 0 (by decide)).2.2.2.1
    have htd := (hO.2.2 0 (by decide)).2.2.2.2
    have hF := hO.2.1.1
    have hA := hO.2.1.2.1
    have hkp := hO.2.1.2.2
    refine j_iload d_D_threes_45 lg7 ?_
    refine j_bipushN (k := 8) d_D_threes_47 (by decide) ?_
    refine j_icmp_geN (tgt := 82) d_D_threes_49 (by decide) (by omega) (by omega) (fun h_49 => ?_) (fun h_49 => ?_)
    ·
      refine j_iload d_D_threes_82 lg6 ?_
      refine j_sipushN (k := 1000) d_D_threes_84 (by decide) ?_
      refine j_iload d_D_threes_87 lg5 ?_
      refine cl_D_195 (c_D_inLeastTerms l V S c 1000 (by omega) (by decide) (by decide) (by omega) u hu) d_D_threes_89 rfl rfl (g_ftM (by decide)) (Nat.le_of_ble_eq_true rfl) (g_pu ?_)
      refine j_iret d_D_threes_92 ⟨by rw [hc, show i = 8 by omega], rfl, rfl⟩
    ·
      refine j_aload_n (i := 0) d_D_threes_52 rfl lg0 ?_
      refine j_iload_n (i := 1) d_D_threes_53 rfl lg1 ?_
      refine j_iload_n (i := 2) d_D_threes_54 rfl lg2 ?_
      refine j_iload_n (i := 3) d_D_threes_55 rfl lg3 ?_
      refine j_iload d_D_threes_56 lg7 ?_
      refine cl_D_207 (c_D_holdsThrough l V S hO (s) (a) (b) (i) (by omega) (by omega) (by omega) (by omega)) d_D_threes_58 rfl rfl (g_ftM (by decide)) (Nat.le_of_ble_eq_true rfl) (g_pu ?_)
      refine j_if_eqB (tgt := 76) d_D_threes_61 (by decide) (fun h_61 => ?_) (fun h_61 => ?_)
      ·
        refine j_iincN (k := 1) d_D_threes_76 lg7 (by decide) ls7i ?_
        refine j_goto (tgt := 45) d_D_threes_79 (by decide) ?_
        exact ih (i + 1) _ (by omega) (by have h0 : D_thf V s a b t i = 0 := if_neg h_61; have h1 := q_sum_s i (D_thf V s a b t); omega) (by have := q_ch_le (r := i) ht; omega) (by omega)
      ·
        refine j_iload d_D_threes_64 lg6 ?_
        refine j_iload d_D_threes_66 lg7 ?_
        refine j_iload d_D_threes_68 lg4 ?_
        refine cl_D_211 (c_D_chanceOf l V S (i) (t) (by omega) (by omega)) d_D_threes_70 rfl rfl (g_ftM (by decide)) (Nat.le_of_ble_eq_true rfl) (g_pu ?_)
        refine j_iaddN d_D_threes_73 ?_
        refine j_istore d_D_threes_74 ls6i ?_
        refine j_iincN (k := 1) d_D_threes_76 lg7 (by decide) ls7i ?_
        refine j_goto (tgt := 45) d_D_threes_79 (by decide) ?_
        exact ih (i + 1) _ (by omega) (by have h0 : D_thf V s a b t i = q_ch i t 3 := if_pos h_61; have h1 := q_sum_s i (D_thf V s a b t); omega) (by have := q_ch_le (r := i) ht; omega) (by omega)
set_option maxRecDepth 4000 in
theorem c_D_threes {G : g_G} (l : Launch) (V : g_V) (S : g_L) (hO : g_OK V) (s0 a0 b0 t0 : Int32) (u : Nat) (hu : u < 2) : g_C G l y_D_threes b_D_threes 8 (some .int) 4 [.ref (g_a G (0)), .int (s0), .int (a0), .int (b0), .int (t0), .int (nI (u))] V S (fun r V' S' => r = some (.int (if q_in s0 (V 0 1) then (if q_in a0 21 ∧ q_in b0 21 ∧ q_in t0 11 then nI ((if u = 0 then 1000 else q_sum 8 (D_thf V (q_n s0) (q_n a0) (q_n b0) (q_n t0))) / Nat.gcd (q_sum 8 (D_thf V (q_n s0) (q_n a0) (q_n b0) (q_n t0))) 1000) else -2) else -1)) ∧ V' = V ∧ S' = S) := by
  refine g_C.of (lv := [some (.ref (g_a G (0))), some (.int (s0)), some (.int (a0)), some (.int (b0)), some (.int (t0)), some (.int (nI (u))), none, none]) (by decide +kernel) rfl rfl rfl (Nat.le_of_ble_eq_true rfl) ?_
  have hn := hO.1.1
  have hK := hO.1.2.1
  have hT := hO.1.2.2
  have hH := (hO.2.2 0 (by decide)).1
  have hW := (hO.2.2 0 (by decide)).2.1
  have hsp := (hO.2.2 0 (by decide)).2.2.1
  have hdm := (hO.2.2 0 (by decide)).2.2.2.1
  have htd := (hO.2.2 0 (by decide)).2.2.2.2
  have hF := hO.2.1.1
  have hA := hO.2.1.2.1
  have hkp := hO.2.1.2.2
  refine j_aload_n (i := 0) d_D_threes_0 rfl lg0 ?_
  refine j_iload_n (i := 1) d_D_threes_1 rfl lg1 ?_
  refine cl_D_113 (c_D_isFarm l V S (by omega) (s0)) d_D_threes_2 rfl rfl (g_ftM (by decide)) (Nat.le_of_ble_eq_true rfl) (g_pu ?_)
  refine j_if_neB (tgt := 10) d_D_threes_5 (by decide) (fun h_5 => ?_) (fun h_5 => ?_)
  ·
    refine j_iload_n (i := 2) d_D_threes_10 rfl lg2 ?_
    refine cl_D_134 (c_D_isStorm l V S (a0)) d_D_threes_11 rfl rfl (g_ftM (by decide)) (Nat.le_of_ble_eq_true rfl) (g_pu ?_)
    refine j_if_eqB (tgt := 36) d_D_threes_14 (by decide) (fun h_14 => ?_) (fun h_14 => ?_)
    ·
      refine j_bipush (v := -2) d_D_threes_36 (by decide) ?_
      refine j_iret d_D_threes_38 ⟨by rw [if_pos h_5, if_neg (fun q => by first | exact h_14 q.1 | exact h_21 q.2.1 | (rw [Int32.lt_iff_toInt_lt, Int32.toInt_zero] at h_26; have := q.2.2.1; omega) | (rw [Int32.le_iff_toInt_le, nI_toInt (by decide)] at h_33; have := q.2.2.2; omega))], rfl, rfl⟩
    ·
      refine j_iload_n (i := 3) d_D_threes_17 rfl lg3 ?_
      refine cl_D_134 (c_D_isStorm l V S (b0)) d_D_threes_18 rfl rfl (g_ftM (by decide)) (Nat.le_of_ble_eq_true rfl) (g_pu ?_)
      refine j_if_eqB (tgt := 36) d_D_threes_21 (by decide) (fun h_21 => ?_) (fun h_21 => ?_)
      ·
        refine j_bipush (v := -2) d_D_threes_36 (by decide) ?_
        refine j_iret d_D_threes_38 ⟨by rw [if_pos h_5, if_neg (fun q => by first | exact h_14 q.1 | exact h_21 q.2.1 | (rw [Int32.lt_iff_toInt_lt, Int32.toInt_zero] at h_26; have := q.2.2.1; omega) | (rw [Int32.le_iff_toInt_le, nI_toInt (by decide)] at h_33; have := q.2.2.2; omega))], rfl, rfl⟩
      ·
        refine j_iload d_D_threes_24 lg4 ?_
        refine j_if_lt (tgt := 36) d_D_threes_26 (by decide) (fun h_26 => ?_) (fun h_26 => ?_)
        ·
          refine j_bipush (v := -2) d_D_threes_36 (by decide) ?_
          refine j_iret d_D_threes_38 ⟨by rw [if_pos h_5, if_neg (fun q => by first | exact h_14 q.1 | exact h_21 q.2.1 | (rw [Int32.lt_iff_toInt_lt, Int32.toInt_zero] at h_26; have := q.2.2.1; omega) | (rw [Int32.le_iff_toInt_le, nI_toInt (by decide)] at h_33; have := q.2.2.2; omega))], rfl, rfl⟩
        ·
          refine j_iload d_D_threes_29 lg4 ?_
          refine j_bipushN (k := 10) d_D_threes_31 (by decide) ?_
          refine j_icmp_le (tgt := 39) d_D_threes_33 (by decide) (fun h_33 => ?_) (fun h_33 => ?_)
          ·
            have ht0 := q_in_lo (by decide) h_26 h_33
            rw [if_pos h_5, if_pos ⟨h_14, h_21, ht0⟩]
            obtain ⟨s, hs, rfl⟩ := q_in_of h_5 (by omega)
            obtain ⟨a, ha, rfl⟩ := q_in_of h_14 (by decide)
            obtain ⟨b, hb, rfl⟩ := q_in_of h_21 (by decide)
            obtain ⟨t, ht, rfl⟩ := q_in_of ht0 (by decide)
            rw [q_n_nI (by omega), q_n_nI (by omega), q_n_nI (by omega), q_n_nI (by omega)]
            refine j_iconstN (k := 0) d_D_threes_39 (by decide) ?_
            refine j_istore d_D_threes_40 ls6i ?_
            refine j_iconstN (k := 0) d_D_threes_42 (by decide) ?_
            refine j_istore d_D_threes_43 ls7i ?_
            exact lp_D_threes l V S hO s a b t u hs (by omega) (by omega) (by omega) hu _ 0 0 (by omega) rfl (by omega) (Nat.lt_succ_self _)
          ·
            refine j_bipush (v := -2) d_D_threes_36 (by decide) ?_
            refine j_iret d_D_threes_38 ⟨by rw [if_pos h_5, if_neg (fun q => by first | exact h_14 q.1 | exact h_21 q.2.1 | (rw [Int32.lt_iff_toInt_lt, Int32.toInt_zero] at h_26; have := q.2.2.1; omega) | (rw [Int32.le_iff_toInt_le, nI_toInt (by decide)] at h_33; have := q.2.2.2; omega))], rfl, rfl⟩
  ·
    refine j_iconst (v := -1) d_D_threes_8 (by decide) ?_
    refine j_iret d_D_threes_9 ⟨by rw [if_neg h_5], rfl, rfl⟩
