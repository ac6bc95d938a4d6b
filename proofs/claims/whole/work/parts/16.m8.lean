/-! The class: sets of stretches. -/
theorem D_str_eq {V V' : g_V} (h3 : V' 3 = V 3) (h5 : V' 5 = V 5) (h1 : V' (hB 0 + 1) = V (hB 0 + 1)) : D_str V' = D_str V := funext fun i => by unfold D_str; rw [h3, h5, h1]
theorem g_not {a b : Nat} (ha : a < 64) (hb : b < 64) : nI a &&& (nI b ^^^ (-1 : Int32)) = nI (a &&& (63 ^^^ b)) := by
  have h : ∀ a : Nat, a < 64 → ∀ b : Nat, b < 64 → nI a &&& (nI b ^^^ (-1 : Int32)) = nI (a &&& (63 ^^^ b)) := by decide +kernel
  exact h a ha b hb
theorem g_E64 {n : Nat} (hn : n ≤ 6) : 1 ≤ 1 <<< n ∧ 1 <<< n ≤ 64 := by
  rw [Nat.one_shiftLeft]
  exact ⟨Nat.two_pow_pos n, Nat.pow_le_pow_right (n := 2) (j := 6) (by decide) hn⟩
/-- the stretches that hold as they are -/
def D_as (V : g_V) (x : Nat) : Nat := (1 <<< V 0 1 - 1) &&& (63 ^^^ q_brk (V 0 1) (D_str V) x)
def D_cf (V : g_V) (x i : Nat) : Nat := if i &&& D_as V x = D_as V x then q_lack (V 0 1) (D_str V) i x else 1000000
def D_lw (V : g_V) (i : Nat) : Nat := q_pick (V 0 1) (V 4) (q_wet (V 0 1) (V (hB 0) 5) ((1 <<< V 0 1 - 1) &&& (63 ^^^ i)))
def g_rs (V : g_V) (x i : Nat) : g_V := g_row (g_row V 12 (fun k => if k < i then D_cf V x k else V 12 k)) 11 (fun k => if k < i then D_lw V k else V 11 k)
theorem g_rs_N {V : g_V} {x i c : Nat} (h1 : c ≠ 11) (h2 : c ≠ 12) : g_rs V x i c = V c := by unfold g_rs; rw [g_rowN h1, g_rowN h2]
theorem g_rs_11 {V : g_V} {x i k : Nat} (h : k < i) : g_rs V x i 11 k = D_lw V k := by unfold g_rs; rw [g_rowS]; exact if_pos h
theorem g_rs_12 {V : g_V} {x i k : Nat} (h : k < i) : g_rs V x i 12 k = D_cf V x k := by unfold g_rs; rw [g_rowN (by decide), g_rowS]; exact if_pos h
theorem g_rs_0 {V : g_V} {x : Nat} : g_rs V x 0 = V := by
  funext c k
  unfold g_rs g_row
  by_cases h : c = 11
  · subst h; simp
  · by_cases h2 : c = 12
    · subst h2; simp
    · simp [h, h2]
theorem g_rs_step {V : g_V} {x i : Nat} : g_up (g_up (g_rs V x i) 12 i (D_cf V x i)) 11 i (D_lw V i) = g_rs V x (i + 1) := by
  funext c k
  unfold g_up g_rs g_row
  by_cases h : c = 11
  · subst h
    by_cases hk : k = i
    · subst hk; simp
    · by_cases hl : k < i
      · simp [hk, hl, show k < i + 1 by omega]
      · simp [hk, hl, show ¬ k < i + 1 by omega]
  · by_cases h2 : c = 12
    · subst h2
      by_cases hk : k = i
      · subst hk; simp
      · by_cases hl : k < i
        · simp [hk, hl, show k < i + 1 by omega]
        · simp [hk, hl, show ¬ k < i + 1 by omega]
    · simp [h, h2]
set_option maxRecDepth 4000 in
theorem lp_D_reckonSets {G : g_G} (l : Launch) (V : g_V) (S : g_L) (hO : g_OK V) (x : Nat) (hx : x ≤ 20) : ∀ (n : Nat) (i : Nat), (i ≤ 1 <<< V 0 1) → 1 <<< V 0 1 - i < n → JW G (g_M G l 3 none (fun r V' S' => r = none ∧ V' = g_rs V x (1 <<< V 0 1) ∧ S' = S)) b_D_reckonSets R_D 15 [some (.ref (g_a G (0))), some (.int (nI (x))), some (.int (nI (D_as V x))), some (.int (nI (i))), none] [] (g_rs V x i) S := by
  intro n
  induction n with
  | zero => intro i hi hm; exact absurd hm (Nat.not_lt_zero _)
  | succ n ih =>
    intro i hi hm
    have hn := hO.1.1
    have hK := hO.1.2.1
    have hT := hO.1.2.2
    have hH := (hO.2.2 0 (by decide)).1
    have hW := (hO.2.2 0 (by decide)).2.1
    have hsp := (hO.2.2 0 (by decide)).2.2.1
    have hdm := (hO.2.2 0 (by decide)).2.2.2.1
    have htd := (hO.2.2 0 (by decide)).2.2.2.2
    have hF := hO.2.1.1
    have hA := hO.2.1.2.1
    have hkp := hO.2.1.2.2
    have hE := g_E64 hn
    have va0 : (g_rs V x i) 0 = V 0 := g_rs_N (by decide) (by decide)
    have va1 : (g_rs V x i) 0 1 = V 0 1 := by rw [va0]
    have van : (g_rs V x i) 0 1 ≤ 6 := by rw [va1]; exact hn
    have va3 : (g_rs V x i) 3 = V 3 := g_rs_N (by decide) (by decide)
    have va4 : (g_rs V x i) 4 = V 4 := g_rs_N (by decide) (by decide)
    have va5 : (g_rs V x i) 5 = V 5 := g_rs_N (by decide) (by decide)
    have vah : (g_rs V x i) (hB 0 + 1) = V (hB 0 + 1) := g_rs_N (by decide) (by decide)
    have vac : (g_rs V x i) (hB 0 + 2) = V (hB 0 + 2) := g_rs_N (by decide) (by decide)
    have vae : (g_rs V x i) (hB 0) = V (hB 0) := g_rs_N (by decide) (by decide)
    have vas : D_str (g_rs V x i) = D_str V := D_str_eq va3 va5 vah
    have vad : (g_rs V x i) (hB 0) 5 = V (hB 0) 5 := by rw [vae]
    have vaD : (g_rs V x i) (hB 0) 5 < 64 := by rw [vad]; exact hdm
    have vaK : g_K (g_rs V x i) := by unfold g_K; rw [va3, va4, va5]; exact hK
    have vaH : g_H (g_rs V x i) (hB 0 + 1) := by unfold g_H; rw [vah]; exact hH
    refine j_iload_n (i := 3) d_D_reckonSets_15 rfl lg3 ?_
    refine j_aload_n (i := 0) d_D_reckonSets_16 rfl lg0 ?_
    refine cl_D_107 (c_D_everyFarm l (g_rs V x i) S van) d_D_reckonSets_17 rfl rfl (g_ftM (by decide)) (Nat.le_of_ble_eq_true rfl) (g_pu ?_)
    rw [va1]
    refine j_icmp_gtN (tgt := 87) d_D_reckonSets_20 (by decide) (by omega) (by omega) (fun h_20 => ?_) (fun h_20 => ?_)
    ·
      refine j_vret d_D_reckonSets_87 ⟨rfl, by rw [show i = 1 <<< V 0 1 by omega], rfl⟩
    ·
      refine j_iload_n (i := 3) d_D_reckonSets_23 rfl lg3 ?_
      refine j_iload_n (i := 2) d_D_reckonSets_24 rfl lg2 ?_
      refine j_iandN d_D_reckonSets_25 ?_
      refine j_iload_n (i := 2) d_D_reckonSets_26 rfl lg2 ?_
      refine j_icmp_neN (tgt := 34) d_D_reckonSets_27 (by decide) (Nat.lt_of_le_of_lt Nat.and_le_left (by omega)) (Nat.lt_of_le_of_lt Nat.and_le_left (by omega)) (fun h_27 => ?_) (fun h_27 => ?_)
      ·
        have hcan : ¬ i &&& D_as V x = D_as V x := h_27
        refine j_iconstN (k := 0) d_D_reckonSets_34 (by decide) ?_
        refine j_istore d_D_reckonSets_35 ls4i ?_
        refine j_aload_n (i := 0) d_D_reckonSets_37 rfl lg0 ?_
        refine gf_D_52 d_D_reckonSets_38 ?_
        refine j_iload_n (i := 3) d_D_reckonSets_41 rfl lg3 ?_
        refine j_iload d_D_reckonSets_42 lg4 ?_
        refine j_if_eqN (tgt := 56) d_D_reckonSets_44 (by decide) (by omega) (fun _ => ?_) (fun h => absurd h (by decide))
        refine j_ldc (v := nI 1000000) d_D_reckonSets_56 (g_use (List.mem_of_getElem? (i := 363) (by decide +kernel)) rfl) ?_
        rw [show 1000000 = D_cf V x i from (if_neg hcan).symm]
        refine j_iast d_D_reckonSets_58 gI_12 (by omega) ?_
        have vb0 : (g_up (g_rs V x i) 12 i (D_cf V x i)) 0 = V 0 := (g_up_ne (by decide)).trans (g_rs_N (by decide) (by decide))
        have vb1 : (g_up (g_rs V x i) 12 i (D_cf V x i)) 0 1 = V 0 1 := by rw [vb0]
        have vbn : (g_up (g_rs V x i) 12 i (D_cf V x i)) 0 1 ≤ 6 := by rw [vb1]; exact hn
        have vb3 : (g_up (g_rs V x i) 12 i (D_cf V x i)) 3 = V 3 := (g_up_ne (by decide)).trans (g_rs_N (by decide) (by decide))
        have vb4 : (g_up (g_rs V x i) 12 i (D_cf V x i)) 4 = V 4 := (g_up_ne (by decide)).trans (g_rs_N (by decide) (by decide))
        have vb5 : (g_up (g_rs V x i) 12 i (D_cf V x i)) 5 = V 5 := (g_up_ne (by decide)).trans (g_rs_N (by decide) (by decide))
        have vbh : (g_up (g_rs V x i) 12 i (D_cf V x i)) (hB 0 + 1) = V (hB 0 + 1) := (g_up_ne (by decide)).trans (g_rs_N (by decide) (by decide))
        have vbc : (g_up (g_rs V x i) 12 i (D_cf V x i)) (hB 0 + 2) = V (hB 0 + 2) := (g_up_ne (by decide)).trans (g_rs_N (by decide) (by decide))
        have vbe : (g_up (g_rs V x i) 12 i (D_cf V x i)) (hB 0) = V (hB 0) := (g_up_ne (by decide)).trans (g_rs_N (by decide) (by decide))
        have vbs : D_str (g_up (g_rs V x i) 12 i (D_cf V x i)) = D_str V := D_str_eq vb3 vb5 vbh
        have vbd : (g_up (g_rs V x i) 12 i (D_cf V x i)) (hB 0) 5 = V (hB 0) 5 := by rw [vbe]
        have vbD : (g_up (g_rs V x i) 12 i (D_cf V x i)) (hB 0) 5 < 64 := by rw [vbd]; exact hdm
        have vbK : g_K (g_up (g_rs V x i) 12 i (D_cf V x i)) := by unfold g_K; rw [vb3, vb4, vb5]; exact hK
        have vbH : g_H (g_up (g_rs V x i) 12 i (D_cf V x i)) (hB 0 + 1) := by unfold g_H; rw [vbh]; exact hH
        have hs6 : (1 <<< V 0 1 - 1) &&& (63 ^^^ i) < 64 := Nat.lt_of_le_of_lt Nat.and_le_left (by omega)
        refine j_aload_n (i := 0) d_D_reckonSets_59 rfl lg0 ?_
        refine gf_D_49 d_D_reckonSets_60 ?_
        refine j_iload_n (i := 3) d_D_reckonSets_63 rfl lg3 ?_
        refine j_aload_n (i := 0) d_D_reckonSets_64 rfl lg0 ?_
        refine j_aload_n (i := 0) d_D_reckonSets_65 rfl lg0 ?_
        refine j_aload_n (i := 0) d_D_reckonSets_66 rfl lg0 ?_
        refine cl_D_107 (c_D_everyFarm l (g_up (g_rs V x i) 12 i (D_cf V x i)) S vbn) d_D_reckonSets_67 rfl rfl (g_ftM (by decide)) (Nat.le_of_ble_eq_true rfl) (g_pu ?_)
        rw [vb1]
        refine j_iload_n (i := 3) d_D_reckonSets_70 rfl lg3 ?_
        refine j_iconst (v := -1) d_D_reckonSets_71 (by decide) ?_
        refine j_ixor d_D_reckonSets_72 ?_
        refine j_iand d_D_reckonSets_73 ?_
        rw [g_not (by omega) (by omega)]
        refine cl_D_144 (c_D_wetBy l (g_up (g_rs V x i) 12 i (D_cf V x i)) S vbn vbD ((1 <<< V 0 1 - 1) &&& (63 ^^^ i)) (by first | omega | exact hs6)) d_D_reckonSets_74 rfl rfl (g_ftM (by decide)) (Nat.le_of_ble_eq_true rfl) (g_pu ?_)
        rw [vb1, vbd]
        refine cl_D_147 (c_D_worthOf l (g_up (g_rs V x i) 12 i (D_cf V x i)) S vbn (fun i hi => (vbK i hi).2.1) (q_wet (V 0 1) (V (hB 0) 5) ((1 <<< V 0 1 - 1) &&& (63 ^^^ i))) (by first | omega | exact q_wet_lt hn (by first | omega | exact hs6))) d_D_reckonSets_77 rfl rfl (g_ftM (by decide)) (Nat.le_of_ble_eq_true rfl) (g_pu ?_)
        rw [vb1, vb4]
        refine j_iast d_D_reckonSets_80 gI_11 (by omega) ?_
        refine j_iincN (k := 1) d_D_reckonSets_81 lg3 (by decide) ls3i ?_
        refine j_goto (tgt := 15) d_D_reckonSets_84 (by decide) ?_
        rw [show q_pick (V 0 1) (V 4) (q_wet (V 0 1) (V (hB 0) 5) ((1 <<< V 0 1 - 1) &&& (63 ^^^ i))) = D_lw V i from rfl, g_rs_step]
        exact j_fg 4 (ih (i + 1) (by omega) (by omega))
      ·
        have hcan : i &&& D_as V x = D_as V x := h_27
        refine j_iconstN (k := 1) d_D_reckonSets_30 (by decide) ?_
        refine j_goto (tgt := 35) d_D_reckonSets_31 (by decide) ?_
        refine j_istore d_D_reckonSets_35 ls4i ?_
        refine j_aload_n (i := 0) d_D_reckonSets_37 rfl lg0 ?_
        refine gf_D_52 d_D_reckonSets_38 ?_
        refine j_iload_n (i := 3) d_D_reckonSets_41 rfl lg3 ?_
        refine j_iload d_D_reckonSets_42 lg4 ?_
        refine j_if_eqN (tgt := 56) d_D_reckonSets_44 (by decide) (by omega) (fun h => absurd h (by decide)) (fun _ => ?_)
        refine j_aload_n (i := 0) d_D_reckonSets_47 rfl lg0 ?_
        refine j_iload_n (i := 3) d_D_reckonSets_48 rfl lg3 ?_
        refine j_iload_n (i := 1) d_D_reckonSets_49 rfl lg1 ?_
        refine cl_D_164 (c_D_lackOf l (g_rs V x i) S van vaK vaH (i) (x) (by omega) (by omega)) d_D_reckonSets_50 rfl rfl (g_ftM (by decide)) (Nat.le_of_ble_eq_true rfl) (g_pu ?_)
        rw [va1, vas]
        refine j_goto (tgt := 58) d_D_reckonSets_53 (by decide) ?_
        rw [show q_lack (V 0 1) (D_str V) i x = D_cf V x i from (if_pos hcan).symm]
        refine j_iast d_D_reckonSets_58 gI_12 (by omega) ?_
        have vb0 : (g_up (g_rs V x i) 12 i (D_cf V x i)) 0 = V 0 := (g_up_ne (by decide)).trans (g_rs_N (by decide) (by decide))
        have vb1 : (g_up (g_rs V x i) 12 i (D_cf V x i)) 0 1 = V 0 1 := by rw [vb0]
        have vbn : (g_up (g_rs V x i) 12 i (D_cf V x i)) 0 1 ≤ 6 := by rw [vb1]; exact hn
        have vb3 : (g_up (g_rs V x i) 12 i (D_cf V x i)) 3 = V 3 := (g_up_ne (by decide)).trans (g_rs_N (by decide) (by decide))
        have vb4 : (g_up (g_rs V x i) 12 i (D_cf V x i)) 4 = V 4 := (g_up_ne (by decide)).trans (g_rs_N (by decide) (by decide))
        have vb5 : (g_up (g_rs V x i) 12 i (D_cf V x i)) 5 = V 5 := (g_up_ne (by decide)).trans (g_rs_N (by decide) (by decide))
        have vbh : (g_up (g_rs V x i) 12 i (D_cf V x i)) (hB 0 + 1) = V (hB 0 + 1) := (g_up_ne (by decide)).trans (g_rs_N (by decide) (by decide))
        have vbc : (g_up (g_rs V x i) 12 i (D_cf V x i)) (hB 0 + 2) = V (hB 0 + 2) := (g_up_ne (by decide)).trans (g_rs_N (by decide) (by decide))
        have vbe : (g_up (g_rs V x i) 12 i (D_cf V x i)) (hB 0) = V (hB 0) := (g_up_ne (by decide)).trans (g_rs_N (by decide) (by decide))
        have vbs : D_str (g_up (g_rs V x i) 12 i (D_cf V x i)) = D_str V := D_str_eq vb3 vb5 vbh
        have vbd : (g_up (g_rs V x i) 12 i (D_cf V x i)) (hB 0) 5 = V (hB 0) 5 := by rw [vbe]
        have vbD : (g_up (g_rs V x i) 12 i (D_cf V x i)) (hB 0) 5 < 64 := by rw [vbd]; exact hdm
        have vbK : g_K (g_up (g_rs V x i) 12 i (D_cf V x i)) := by unfold g_K; rw [vb3, vb4, vb5]; exact hK
        have vbH : g_H (g_up (g_rs V x i) 12 i (D_cf V x i)) (hB 0 + 1) := by unfold g_H; rw [vbh]; exact hH
        have hs6 : (1 <<< V 0 1 - 1) &&& (63 ^^^ i) < 64 := Nat.lt_of_le_of_lt Nat.and_le_left (by omega)
        refine j_aload_n (i := 0) d_D_reckonSets_59 rfl lg0 ?_
        refine gf_D_49 d_D_reckonSets_60 ?_
        refine j_iload_n (i := 3) d_D_reckonSets_63 rfl lg3 ?_
        refine j_aload_n (i := 0) d_D_reckonSets_64 rfl lg0 ?_
        refine j_aload_n (i := 0) d_D_reckonSets_65 rfl lg0 ?_
        refine j_aload_n (i := 0) d_D_reckonSets_66 rfl lg0 ?_
        refine cl_D_107 (c_D_everyFarm l (g_up (g_rs V x i) 12 i (D_cf V x i)) S vbn) d_D_reckonSets_67 rfl rfl (g_ftM (by decide)) (Nat.le_of_ble_eq_true rfl) (g_pu ?_)
        rw [vb1]
        refine j_iload_n (i := 3) d_D_reckonSets_70 rfl lg3 ?_
        refine j_iconst (v := -1) d_D_reckonSets_71 (by decide) ?_
        refine j_ixor d_D_reckonSets_72 ?_
        refine j_iand d_D_reckonSets_73 ?_
        rw [g_not (by omega) (by omega)]
        refine cl_D_144 (c_D_wetBy l (g_up (g_rs V x i) 12 i (D_cf V x i)) S vbn vbD ((1 <<< V 0 1 - 1) &&& (63 ^^^ i)) (by first | omega | exact hs6)) d_D_reckonSets_74 rfl rfl (g_ftM (by decide)) (Nat.le_of_ble_eq_true rfl) (g_pu ?_)
        rw [vb1, vbd]
        refine cl_D_147 (c_D_worthOf l (g_up (g_rs V x i) 12 i (D_cf V x i)) S vbn (fun i hi => (vbK i hi).2.1) (q_wet (V 0 1) (V (hB 0) 5) ((1 <<< V 0 1 - 1) &&& (63 ^^^ i))) (by first | omega | exact q_wet_lt hn (by first | omega | exact hs6))) d_D_reckonSets_77 rfl rfl (g_ftM (by decide)) (Nat.le_of_ble_eq_true rfl) (g_pu ?_)
        rw [vb1, vb4]
        refine j_iast d_D_reckonSets_80 gI_11 (by omega) ?_
        refine j_iincN (k := 1) d_D_reckonSets_81 lg3 (by decide) ls3i ?_
        refine j_goto (tgt := 15) d_D_reckonSets_84 (by decide) ?_
        rw [show q_pick (V 0 1) (V 4) (q_wet (V 0 1) (V (hB 0) 5) ((1 <<< V 0 1 - 1) &&& (63 ^^^ i))) = D_lw V i from rfl, g_rs_step]
        exact j_fg 4 (ih (i + 1) (by omega) (by omega))
set_option maxRecDepth 4000 in
theorem c_D_reckonSets {G : g_G} (l : Launch) (V : g_V) (S : g_L) (hO : g_OK V) (x : Nat) (hx : x ≤ 20) : g_C G l y_D_reckonSets b_D_reckonSets 5 none 3 [.ref (g_a G (0)), .int (nI (x))] V S (fun r V' S' => r = none ∧ V' = g_rs V x (1 <<< V 0 1) ∧ S' = S) := by
  refine g_C.of (lv := [some (.ref (g_a G (0))), some (.int (nI (x))), none, none, none]) (by decide +kernel) rfl rfl rfl (Nat.le_of_ble_eq_true rfl) ?_
  have hn := hO.1.1
  have hK := hO.1.2.1
  have hT := hO.1.2.2
  have hH := (hO.2.2 0 (by decide)).1
  have hW := (hO.2.2 0 (by decide)).2.1
  have hsp := (hO.2.2 0 (by decide)).2.2.1
  have hdm := (hO.2.2 0 (by decide)).2.2.2.1
  have htd := (hO.2.2 0 (by decide)).2.2.2.2
  have hF := hO.2.1.1
  have hA := hO.2.1.2.1
  have hkp := hO.2.1.2.2
  have hE := g_E64 hn
  refine j_aload_n (i := 0) d_D_reckonSets_0 rfl lg0 ?_
  refine cl_D_107 (c_D_everyFarm l V S (by omega)) d_D_reckonSets_1 rfl rfl (g_ftM (by decide)) (Nat.le_of_ble_eq_true rfl) (g_pu ?_)
  refine j_aload_n (i := 0) d_D_reckonSets_4 rfl lg0 ?_
  refine j_iload_n (i := 1) d_D_reckonSets_5 rfl lg1 ?_
  refine cl_D_161 (c_D_brokenBy l V S (by omega) hK hH (x) (by omega)) d_D_reckonSets_6 rfl rfl (g_ftM (by decide)) (Nat.le_of_ble_eq_true rfl) (g_pu ?_)
  refine j_iconst (v := -1) d_D_reckonSets_9 (by decide) ?_
  refine j_ixor d_D_reckonSets_10 ?_
  refine j_iand d_D_reckonSets_11 ?_
  rw [g_not (by omega) (q_brk_lt (m := 6) hn)]
  refine j_istore_n d_D_reckonSets_12 rfl ls2i ?_
  refine j_iconstN (k := 0) d_D_reckonSets_13 (by decide) ?_
  refine j_istore_n d_D_reckonSets_14 rfl ls3i ?_
  have h := (lp_D_reckonSets (G := G) l V S hO x hx _ 0 (by omega) (Nat.lt_succ_self _))
  rw [g_rs_0] at h
  exact h
abbrev q_bet (lw cf : Nat → Nat) (a b : Nat) : Prop := lw a < lw b ∨ (lw a = lw b ∧ cf a < cf b)
set_option maxRecDepth 4000 in
theorem c_D_isBetter {G : g_G} (l : Launch) (V : g_V) (S : g_L) (a b : Nat) (ha : a < 64) (hb : b < 64) (ha1 : V 11 a < 2 ^ 31) (hb1 : V 11 b < 2 ^ 31) (ha2 : V 12 a < 2 ^ 31) (hb2 : V 12 b < 2 ^ 31) : g_C G l y_D_isBetter b_D_isBetter 3 (some .boolean) 1 [.ref (g_a G (0)), .int (nI (a)), .int (nI (b))] V S (fun r V' S' => r = some (.int (nI (g_z (decide (q_bet (V 11) (V 12) a b))))) ∧ V' = V ∧ S' = S) := by
  refine g_C.of (lv := [some (.ref (g_a G (0))), some (.int (nI (a))), some (.int (nI (b)))]) (by decide +kernel) rfl rfl rfl (Nat.le_of_ble_eq_true rfl) ?_
  refine j_aload_n (i := 0) d_D_isBetter_0 rfl lg0 ?_
  refine gf_D_49 d_D_isBetter_1 ?_
  refine j_iload_n (i := 1) d_D_isBetter_4 rfl lg1 ?_
  refine j_iald d_D_isBetter_5 gI_11 (by omega) ?_
  refine j_aload_n (i := 0) d_D_isBetter_6 rfl lg0 ?_
  refine gf_D_49 d_D_isBetter_7 ?_
  refine j_iload_n (i := 2) d_D_isBetter_10 rfl lg2 ?_
  refine j_iald d_D_isBetter_11 gI_11 (by omega) ?_
  refine j_icmp_eqN (tgt := 36) d_D_isBetter_12 (by decide) (by omega) (by omega) (fun h_12 => ?_) (fun h_12 => ?_)
  ·
    refine j_aload_n (i := 0) d_D_isBetter_36 rfl lg0 ?_
    refine gf_D_52 d_D_isBetter_37 ?_
    refine j_iload_n (i := 1) d_D_isBetter_40 rfl lg1 ?_
    refine j_iald d_D_isBetter_41 gI_12 (by omega) ?_
    refine j_aload_n (i := 0) d_D_isBetter_42 rfl lg0 ?_
    refine gf_D_52 d_D_isBetter_43 ?_
    refine j_iload_n (i := 2) d_D_isBetter_46 rfl lg2 ?_
    refine j_iald d_D_isBetter_47 gI_12 (by omega) ?_
    refine j_icmp_geN (tgt := 55) d_D_isBetter_48 (by decide) (by omega) (by omega) (fun h_48 => ?_) (fun h_48 => ?_)
    ·
      refine j_iconstN (k := 0) d_D_isBetter_55 (by decide) ?_
      refine j_zret d_D_isBetter_56 (by decide) ⟨g_z0 (fun q => by omega), rfl, rfl⟩
    ·
      refine j_iconstN (k := 1) d_D_isBetter_51 (by decide) ?_
      refine j_goto (tgt := 56) d_D_isBetter_52 (by decide) ?_
      refine j_zret d_D_isBetter_56 (by decide) ⟨g_z1 (Or.inr ⟨by omega, by omega⟩), rfl, rfl⟩
  ·
    refine j_aload_n (i := 0) d_D_isBetter_15 rfl lg0 ?_
    refine gf_D_49 d_D_isBetter_16 ?_
    refine j_iload_n (i := 1) d_D_isBetter_19 rfl lg1 ?_
    refine j_iald d_D_isBetter_20 gI_11 (by omega) ?_
    refine j_aload_n (i := 0) d_D_isBetter_21 rfl lg0 ?_
    refine gf_D_49 d_D_isBetter_22 ?_
    refine j_iload_n (i := 2) d_D_isBetter_25 rfl lg2 ?_
    refine j_iald d_D_isBetter_26 gI_11 (by omega) ?_
    refine j_icmp_geN (tgt := 34) d_D_isBetter_27 (by decide) (by omega) (by omega) (fun h_27 => ?_) (fun h_27 => ?_)
    ·
      refine j_iconstN (k := 0) d_D_isBetter_34 (by decide) ?_
      refine j_zret d_D_isBetter_35 (by decide) ⟨g_z0 (fun q => by omega), rfl, rfl⟩
    ·
      refine j_iconstN (k := 1) d_D_isBetter_30 (by decide) ?_
      refine j_goto (tgt := 35) d_D_isBetter_31 (by decide) ?_
      refine j_zret d_D_isBetter_35 (by decide) ⟨g_z1 (Or.inl (by omega)), rfl, rfl⟩
/-- the best of the first k sets that c loads can make hold: by loss, then clay, then the least -/
def q_best (lw cf : Nat → Nat) (c : Nat) : Nat → Option Nat
  | 0 => none
  | k + 1 => match q_best lw cf c k with
    | none => if cf k ≤ c then some k else none
    | some b => if cf k ≤ c ∧ q_bet lw cf k b then some k else some b
theorem q_best_no {lw cf : Nat → Nat} {c k : Nat} (h : ¬ cf k ≤ c) : q_best lw cf c (k + 1) = q_best lw cf c k := by
  show (match q_best lw cf c k with | none => _ | some b => _) = _
  cases e : q_best lw cf c k with
  | none => show (if _ then _ else _) = _; rw [if_neg h]
  | some b => show (if _ then _ else _) = _; rw [if_neg (fun q => h q.1)]
theorem q_best_n {lw cf : Nat → Nat} {c k : Nat} (h : cf k ≤ c) (e : q_best lw cf c k = none) : q_best lw cf c (k + 1) = some k := by
  show (match q_best lw cf c k with | none => _ | some b => _) = _
  rw [e]
  show (if _ then _ else _) = _
  rw [if_pos h]
theorem q_best_t {lw cf : Nat → Nat} {c k b : Nat} (h : cf k ≤ c) (e : q_best lw cf c k = some b) (hb : q_bet lw cf k b) : q_best lw cf c (k + 1) = some k := by
  show (match q_best lw cf c k with | none => _ | some b => _) = _
  rw [e]
  show (if _ then _ else _) = _
  rw [if_pos ⟨h, hb⟩]
theorem q_best_f {lw cf : Nat → Nat} {c k b : Nat} (e : q_best lw cf c k = some b) (hb : ¬ q_bet lw cf k b) : q_best lw cf c (k + 1) = some b := by
  show (match q_best lw cf c k with | none => _ | some b => _) = _
  rw [e]
  show (if _ then _ else _) = _
  rw [if_neg (fun q => hb q.2)]
theorem q_best_lt {lw cf : Nat → Nat} {c : Nat} : ∀ {k b : Nat}, q_best lw cf c k = some b → b < k
  | 0, _, h => by cases h
  | k + 1, b, h => by
    by_cases hc : cf k ≤ c
    · cases e : q_best lw cf c k with
      | none => rw [q_best_n hc e] at h; cases h; omega
      | some b2 =>
        by_cases hb : q_bet lw cf k b2
        · rw [q_best_t hc e hb] at h; cases h; omega
        · rw [q_best_f e hb] at h; cases h; have := q_best_lt e; omega
    · rw [q_best_no hc] at h; have := q_best_lt h; omega
theorem g_z_none : g_z (none : Option Nat).isSome = 0 := rfl
theorem g_z_some {b : Nat} : g_z (some b).isSome = 1 := rfl
set_option maxRecDepth 4000 in
theorem lp_D_bestSet {G : g_G} (l : Launch) (V : g_V) (S : g_L) (hn : V 0 1 ≤ 6) (c : Nat) (hc : c < 2 ^ 31) (h11 : ∀ i, i < 1 <<< V 0 1 → V 11 i < 2 ^ 31) (h12 : ∀ i, i < 1 <<< V 0 1 → V 12 i < 2 ^ 31) : ∀ (n : Nat) (q : Option Nat) (i : Nat), (i ≤ 1 <<< V 0 1) → (q = q_best (V 11) (V 12) c i) → 1 <<< V 0 1 - i < n → JW G (g_M G l 2 (some .int) (fun r V' S' => r = some (.int (nI ((q_best (V 11) (V 12) c (1 <<< V 0 1)).getD (1 <<< V 0 1 - 1)))) ∧ V' = V ∧ S' = S)) b_D_bestSet R_D 10 [some (.ref (g_a G (0))), some (.int (nI (c))), some (.int (nI (q.getD (1 <<< V 0 1 - 1)))), some (.int (nI (g_z q.isSome))), some (.int (nI (i)))] [] V S := by
  intro n
  induction n with
  | zero => intro q i hi ho hm; exact absurd hm (Nat.not_lt_zero _)
  | succ n ih =>
    intro q i hi ho hm
    have hE := g_E64 hn
    refine j_iload d_D_bestSet_10 lg4 ?_
    refine j_aload_n (i := 0) d_D_bestSet_12 rfl lg0 ?_
    refine cl_D_107 (c_D_everyFarm l V S (by omega)) d_D_bestSet_13 rfl rfl (g_ftM (by decide)) (Nat.le_of_ble_eq_true rfl) (g_pu ?_)
    refine j_icmp_gtN (tgt := 55) d_D_bestSet_16 (by decide) (by omega) (by omega) (fun h_16 => ?_) (fun h_16 => ?_)
    ·
      refine j_iload_n (i := 2) d_D_bestSet_55 rfl lg2 ?_
      refine j_iret d_D_bestSet_56 ⟨by rw [ho, show i = 1 <<< V 0 1 by omega], rfl, rfl⟩
    ·
      have hi1 := h12 i (by omega)
      refine j_aload_n (i := 0) d_D_bestSet_19 rfl lg0 ?_
      refine gf_D_52 d_D_bestSet_20 ?_
      refine j_iload d_D_bestSet_23 lg4 ?_
      refine j_iald d_D_bestSet_25 gI_12 (by omega) ?_
      refine j_iload_n (i := 1) d_D_bestSet_26 rfl lg1 ?_
      refine j_icmp_gtN (tgt := 49) d_D_bestSet_27 (by decide) (by omega) (by omega) (fun h_27 => ?_) (fun h_27 => ?_)
      ·
        refine j_iincN (k := 1) d_D_bestSet_49 lg4 (by decide) ls4i ?_
        refine j_goto (tgt := 10) d_D_bestSet_52 (by decide) ?_
        exact ih q (i + 1) (by omega) (by rw [q_best_no (by omega)]; exact ho) (by omega)
      ·
        by_cases hq : q = none
        ·
          rw [hq, g_z_none, Option.getD_none]
          refine j_iload_n (i := 3) d_D_bestSet_30 rfl lg3 ?_
          refine j_if_eqN (tgt := 44) d_D_bestSet_31 (by decide) (by omega) (fun _ => ?_) (fun h => absurd h (by decide))
          refine j_iload d_D_bestSet_44 lg4 ?_
          refine j_istore_n d_D_bestSet_46 rfl ls2i ?_
          refine j_iconstN (k := 1) d_D_bestSet_47 (by decide) ?_
          refine j_istore_n d_D_bestSet_48 rfl ls3i ?_
          refine j_iincN (k := 1) d_D_bestSet_49 lg4 (by decide) ls4i ?_
          refine j_goto (tgt := 10) d_D_bestSet_52 (by decide) ?_
          have ho2 : q_best (V 11) (V 12) c (i + 1) = some i := by first | exact q_best_n (by omega) (ho.symm.trans hq) | exact q_best_t (by omega) (ho.symm.trans hq) h_41
          exact ih (some i) (i + 1) (by omega) ho2.symm (by omega)
        ·
          obtain ⟨b, hq⟩ : ∃ b, q = some b := by cases q with | none => exact absurd rfl hq | some b => exact ⟨b, rfl⟩
          rw [hq, g_z_some, Option.getD_some]
          have hbi := q_best_lt (ho.symm.trans hq)
          refine j_iload_n (i := 3) d_D_bestSet_30 rfl lg3 ?_
          refine j_if_eqN (tgt := 44) d_D_bestSet_31 (by decide) (by omega) (fun h => absurd h (by decide)) (fun _ => ?_)
          refine j_aload_n (i := 0) d_D_bestSet_34 rfl lg0 ?_
          refine j_iload d_D_bestSet_35 lg4 ?_
          refine j_iload_n (i := 2) d_D_bestSet_37 rfl lg2 ?_
          refine cl_D_237 (c_D_isBetter l V S (i) (b) (by omega) (by omega) (h11 _ (by omega)) (h11 _ (by omega)) (h12 _ (by omega)) (h12 _ (by omega))) d_D_bestSet_38 rfl rfl (g_ftM (by decide)) (Nat.le_of_ble_eq_true rfl) (g_pu ?_)
          refine j_if_eqB (tgt := 49) d_D_bestSet_41 (by decide) (fun h_41 => ?_) (fun h_41 => ?_)
          ·
            refine j_iincN (k := 1) d_D_bestSet_49 lg4 (by decide) ls4i ?_
            refine j_goto (tgt := 10) d_D_bestSet_52 (by decide) ?_
            exact ih (some b) (i + 1) (by omega) (q_best_f (ho.symm.trans hq) h_41).symm (by omega)
          ·
            refine j_iload d_D_bestSet_44 lg4 ?_
            refine j_istore_n d_D_bestSet_46 rfl ls2i ?_
            refine j_iconstN (k := 1) d_D_bestSet_47 (by decide) ?_
            refine j_istore_n d_D_bestSet_48 rfl ls3i ?_
            refine j_iincN (k := 1) d_D_bestSet_49 lg4 (by decide) ls4i ?_
            refine j_goto (tgt := 10) d_D_bestSet_52 (by decide) ?_
            have ho2 : q_best (V 11) (V 12) c (i + 1) = some i := by first | exact q_best_n (by omega) (ho.symm.trans hq) | exact q_best_t (by omega) (ho.symm.trans hq) h_41
            exact ih (some i) (i + 1) (by omega) ho2.symm (by omega)
set_option maxRecDepth 4000 in
theorem c_D_bestSet {G : g_G} (l : Launch) (V : g_V) (S : g_L) (hn : V 0 1 ≤ 6) (c : Nat) (hc : c < 2 ^ 31) (h11 : ∀ i, i < 1 <<< V 0 1 → V 11 i < 2 ^ 31) (h12 : ∀ i, i < 1 <<< V 0 1 → V 12 i < 2 ^ 31) : g_C G l y_D_bestSet b_D_bestSet 5 (some .int) 2 [.ref (g_a G (0)), .int (nI (c))] V S (fun r V' S' => r = some (.int (nI ((q_best (V 11) (V 12) c (1 <<< V 0 1)).getD (1 <<< V 0 1 - 1)))) ∧ V' = V ∧ S' = S) := by
  refine g_C.of (lv := [some (.ref (g_a G (0))), some (.int (nI (c))), none, none, none]) (by decide +kernel) rfl rfl rfl (Nat.le_of_ble_eq_true rfl) ?_
  have hE := g_E64 hn
  refine j_aload_n (i := 0) d_D_bestSet_0 rfl lg0 ?_
  refine cl_D_107 (c_D_everyFarm l V S (by omega)) d_D_bestSet_1 rfl rfl (g_ftM (by decide)) (Nat.le_of_ble_eq_true rfl) (g_pu ?_)
  refine j_istore_n d_D_bestSet_4 rfl ls2i ?_
  refine j_iconstN (k := 0) d_D_bestSet_5 (by decide) ?_
  refine j_istore_n d_D_bestSet_6 rfl ls3i ?_
  refine j_iconstN (k := 0) d_D_bestSet_7 (by decide) ?_
  refine j_istore d_D_bestSet_8 ls4i ?_
  exact lp_D_bestSet l V S hn c hc h11 h12 _ none 0 (by omega) rfl (Nat.lt_succ_self _)
