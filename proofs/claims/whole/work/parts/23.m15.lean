/-! The class: the dyke is made out of the text. -/
theorem q_rf_all {n p : Nat} {L : Nat → Nat} (h : ¬ q_rf n L p 5 0 < 5) : ∀ k, k < 5 → q_okf n L (p + k) (g_great k) := by
  have key : ∀ i, i ≤ 5 → q_rf n L p 5 0 = q_rf n L p (5 - i) i → (∀ k, k < i → q_okf n L (p + k) (g_great k)) → ∀ k, k < 5 → q_okf n L (p + k) (g_great k) := by
    intro i
    generalize hj : 5 - i = j
    induction j generalizing i with
    | zero => intro hi _ hk k hk5; exact hk k (by omega)
    | succ j ih =>
      intro hi he hk
      by_cases ho : q_okf n L (p + i) (g_great i)
      · have e1 : q_rf n L p (j + 1) i = q_rf n L p j (i + 1) := if_pos ho
        refine ih (i + 1) (by omega) (by omega) (by rw [he, e1]) (fun k hk2 => ?_)
        by_cases hki : k = i
        · rw [hki]; exact ho
        · exact hk k (by omega)
      · have e1 : q_rf n L p (j + 1) i = i := if_neg ho
        exfalso
        rw [he, e1] at h
        omega
  exact key 0 (by omega) rfl (fun k hk => absurd hk (Nat.not_lt_zero k))
theorem q_ps_ok {n m p f d : Nat} {L rf : Nat → Nat} {R : Option Nat × Nat × Nat × (Nat → Nat)} (hp : p < n) (h : q_ps n L m p f d rf = R) (hR : R.1 = none) : ∃ m', m = m' + 1 ∧
    ((L p = 70 ∧ f < 6 ∧ (∀ k, k < 5 → q_okf n L (p + 1 + k) (g_great k)) ∧ q_ps n L m' (p + 6) (f + 1) d (q_rd L (p + 1) f rf) = R) ∨
     (L p = 73 ∧ f ≤ 6 + f ∧ q_okd n L (p + 1) f d ∧ q_ps n L m' (p + 2) f (d ||| 1 <<< (L (p + 1) - 48)) rf = R)) := by
  cases m with
  | zero => rw [← h] at hR; cases hR
  | succ m =>
    refine ⟨m, rfl, ?_⟩
    have hnp : ¬ n ≤ p := by omega
    by_cases hF : L p = 70 ∧ f < 6
    · by_cases hr : q_rf n L (p + 1) 5 0 < 5
      · rw [q_ps_F0 hnp hF hr] at h; rw [← h] at hR; cases hR
      · rw [q_ps_F1 hnp hF hr] at h
        exact Or.inl ⟨hF.1, hF.2, q_rf_all hr, h⟩
    · by_cases hI : L p = 73 ∧ q_bc d + 1 < f
      · by_cases hr : q_okd n L (p + 1) f d
        · rw [q_ps_I1 hnp hF hI hr] at h
          exact Or.inr ⟨hI.1, by omega, hr, h⟩
        · rw [q_ps_I0 hnp hF hI hr] at h; rw [← h] at hR; cases hR
      · rw [q_ps_X hnp hF hI] at h; rw [← h] at hR; cases hR
theorem q_ps_le {n : Nat} {L : Nat → Nat} {q : Nat} : ∀ {m p f d : Nat} {rf : Nat → Nat}, (q_ps n L m p f d rf).1 = some q → q ≤ p + 6 * m + 6
  | 0, p, f, d, rf, h => by
    have : q = p := by cases h; rfl
    omega
  | m + 1, p, f, d, rf, h => by
    by_cases hnp : n ≤ p
    · rw [q_ps_end hnp] at h; cases h
    · by_cases hF : L p = 70 ∧ f < 6
      · by_cases hr : q_rf n L (p + 1) 5 0 < 5
        · rw [q_ps_F0 hnp hF hr] at h
          have : q = p + 1 + q_rf n L (p + 1) 5 0 := by cases h; rfl
          omega
        · rw [q_ps_F1 hnp hF hr] at h
          have := q_ps_le h
          omega
      · by_cases hI : L p = 73 ∧ q_bc d + 1 < f
        · by_cases hr : q_okd n L (p + 1) f d
          · rw [q_ps_I1 hnp hF hI hr] at h
            have := q_ps_le h
            omega
          · rw [q_ps_I0 hnp hF hI hr] at h
            have : q = p + 1 := by cases h; rfl
            omega
        · rw [q_ps_X hnp hF hI] at h
          have : q = p := by cases h; rfl
          omega
theorem q_fault_none {n : Nat} {L : Nat → Nat} : q_an (q_fault n L).1 = -9 ↔ (q_fault n L).1 = none := by
  constructor
  · intro h
    cases e : (q_fault n L).1 with
    | none => rfl
    | some q =>
      exfalso
      have hq : q ≤ 400 := by
        unfold q_fault at e
        split at e
        · have := q_ps_le e; omega
        · cases e; omega
      rw [e] at h
      have h1 : nI q = -9 := h
      have h2 := nI_toInt (n := q) (by omega)
      rw [h1] at h2
      have : (-9 : Int32).toInt = -9 := by decide
      omega
  · intro h; rw [h]; rfl
/-- a farm is settled out of the text from p on -/
def g_stl (V : g_V) (p : Nat) : g_V := g_up (g_up (g_up (g_up (g_up (g_up (g_up V (hB 0 + 1) (V 0 1) (V 2 p - 48)) 3 (V 0 1) (V 2 (p + 1) - 48)) (hB 0 + 2) (V 0 1) (V 2 (p + 2) - 48)) 4 (V 0 1) (V 2 (p + 3) - 48)) 5 (V 0 1) (V 2 (p + 4) - 48)) (hB 0 + 3) (V 0 1) (V 0 1)) 0 1 (V 0 1 + 1)
theorem g_T_of {V V' : g_V} (h1 : V' 1 = V 1) (h2 : V' 2 = V 2) (h : g_T V) : g_T V' := by unfold g_T; rw [h1, h2]; exact h
set_option maxRecDepth 4000 in
theorem c_D_settleFarm {G : g_G} (l : Launch) (V : g_V) (S : g_L) (hT : g_T V) (hn6 : V 0 1 < 6) (p : Nat) (hp : p < 900) (hd : ∀ k, k < 5 → q_dig (V 1 1) (V 2) (p + k)) : g_C G l y_D_settleFarm b_D_settleFarm 2 none 3 [.ref (g_a G (0)), .int (nI (p))] V S (fun r V' S' => r = none ∧ V' = g_stl V p ∧ S' = S) := by
  refine g_C.of (lv := [some (.ref (g_a G (0))), some (.int (nI (p)))]) (by decide +kernel) rfl rfl rfl (Nat.le_of_ble_eq_true rfl) ?_
  refine j_aload_n (i := 0) d_D_settleFarm_0 rfl lg0 ?_
  refine gf_D_69 d_D_settleFarm_1 ?_
  refine j_bipushN (k := 6) d_D_settleFarm_4 (by decide) ?_
  refine j_icmp_ltN (tgt := 10) d_D_settleFarm_6 (by decide) (by omega) (by omega) (fun h_6 => ?_) (fun h_6 => ?_)
  ·
    refine j_aload_n (i := 0) d_D_settleFarm_10 rfl lg0 ?_
    refine gf_D_29 d_D_settleFarm_11 ?_
    refine gf_D_117 (j := 0) (by decide) d_D_settleFarm_14 ?_
    refine j_aload_n (i := 0) d_D_settleFarm_17 rfl lg0 ?_
    refine gf_D_69 d_D_settleFarm_18 ?_
    refine j_aload_n (i := 0) d_D_settleFarm_21 rfl lg0 ?_
    refine gf_D_10 d_D_settleFarm_22 ?_
    refine j_iload_n (i := 1) d_D_settleFarm_25 rfl lg1 ?_
    refine cl_D_95 (c_S_figureAt l V S (g_T_of (show V 1 = V 1 from rfl) (show V 2 = V 2 from rfl) hT) (p) (by omega)) d_D_settleFarm_26 rfl rfl (g_ftM (by decide)) (Nat.le_of_ble_eq_true rfl) (g_pu ?_)
    rw [show q_fig (V 1 1) (V 2) (p) = nI (V 2 (p) - 48) from by rw [show V 1 = V 1 from rfl, show V 2 = V 2 from rfl]; exact q_fig_t (hd 0 (by decide))]
    refine j_iast d_D_settleFarm_29 (gI_h1 (by decide)) (by omega) ?_
    refine j_aload_n (i := 0) d_D_settleFarm_30 rfl lg0 ?_
    refine gf_D_16 d_D_settleFarm_31 ?_
    refine j_aload_n (i := 0) d_D_settleFarm_34 rfl lg0 ?_
    refine gf_D_69 d_D_settleFarm_35 ?_
    refine j_eqv (b := V 0 1) (by rw [g_upN (by first | decide | omega | (unfold hB; omega))]) ?_
    refine j_aload_n (i := 0) d_D_settleFarm_38 rfl lg0 ?_
    refine gf_D_10 d_D_settleFarm_39 ?_
    refine j_iload_n (i := 1) d_D_settleFarm_42 rfl lg1 ?_
    refine j_iconstN (k := 1) d_D_settleFarm_43 (by decide) ?_
    refine j_iaddN d_D_settleFarm_44 ?_
    refine cl_D_95 (c_S_figureAt l (g_up V (hB 0 + 1) (V 0 1) (V 2 p - 48)) S (g_T_of (show (g_up V (hB 0 + 1) (V 0 1) (V 2 p - 48)) 1 = V 1 from by rw [g_up_ne (by decide)]) (show (g_up V (hB 0 + 1) (V 0 1) (V 2 p - 48)) 2 = V 2 from by rw [g_up_ne (by decide)]) hT) (p + 1) (by omega)) d_D_settleFarm_45 rfl rfl (g_ftM (by decide)) (Nat.le_of_ble_eq_true rfl) (g_pu ?_)
    rw [show q_fig ((g_up V (hB 0 + 1) (V 0 1) (V 2 p - 48)) 1 1) ((g_up V (hB 0 + 1) (V 0 1) (V 2 p - 48)) 2) (p + 1) = nI (V 2 (p + 1) - 48) from by rw [show (g_up V (hB 0 + 1) (V 0 1) (V 2 p - 48)) 1 = V 1 from by rw [g_up_ne (by decide)], show (g_up V (hB 0 + 1) (V 0 1) (V 2 p - 48)) 2 = V 2 from by rw [g_up_ne (by decide)]]; exact q_fig_t (hd 1 (by decide))]
    refine j_iast d_D_settleFarm_48 gI_3 (by omega) ?_
    refine j_aload_n (i := 0) d_D_settleFarm_49 rfl lg0 ?_
    refine gf_D_29 d_D_settleFarm_50 ?_
    refine gf_D_120 (j := 0) (by decide) d_D_settleFarm_53 ?_
    refine j_aload_n (i := 0) d_D_settleFarm_56 rfl lg0 ?_
    refine gf_D_69 d_D_settleFarm_57 ?_
    refine j_eqv (b := V 0 1) (by rw [g_upN (by first | decide | omega | (unfold hB; omega)), g_upN (by first | decide | omega | (unfold hB; omega))]) ?_
    refine j_aload_n (i := 0) d_D_settleFarm_60 rfl lg0 ?_
    refine gf_D_10 d_D_settleFarm_61 ?_
    refine j_iload_n (i := 1) d_D_settleFarm_64 rfl lg1 ?_
    refine j_iconstN (k := 2) d_D_settleFarm_65 (by decide) ?_
    refine j_iaddN d_D_settleFarm_66 ?_
    refine cl_D_95 (c_S_figureAt l (g_up (g_up V (hB 0 + 1) (V 0 1) (V 2 p - 48)) 3 (V 0 1) (V 2 (p + 1) - 48)) S (g_T_of (show (g_up (g_up V (hB 0 + 1) (V 0 1) (V 2 p - 48)) 3 (V 0 1) (V 2 (p + 1) - 48)) 1 = V 1 from by rw [g_up_ne (by decide), g_up_ne (by decide)]) (show (g_up (g_up V (hB 0 + 1) (V 0 1) (V 2 p - 48)) 3 (V 0 1) (V 2 (p + 1) - 48)) 2 = V 2 from by rw [g_up_ne (by decide), g_up_ne (by decide)]) hT) (p + 2) (by omega)) d_D_settleFarm_67 rfl rfl (g_ftM (by decide)) (Nat.le_of_ble_eq_true rfl) (g_pu ?_)
    rw [show q_fig ((g_up (g_up V (hB 0 + 1) (V 0 1) (V 2 p - 48)) 3 (V 0 1) (V 2 (p + 1) - 48)) 1 1) ((g_up (g_up V (hB 0 + 1) (V 0 1) (V 2 p - 48)) 3 (V 0 1) (V 2 (p + 1) - 48)) 2) (p + 2) = nI (V 2 (p + 2) - 48) from by rw [show (g_up (g_up V (hB 0 + 1) (V 0 1) (V 2 p - 48)) 3 (V 0 1) (V 2 (p + 1) - 48)) 1 = V 1 from by rw [g_up_ne (by decide), g_up_ne (by decide)], show (g_up (g_up V (hB 0 + 1) (V 0 1) (V 2 p - 48)) 3 (V 0 1) (V 2 (p + 1) - 48)) 2 = V 2 from by rw [g_up_ne (by decide), g_up_ne (by decide)]]; exact q_fig_t (hd 2 (by decide))]
    refine j_iast d_D_settleFarm_70 (gI_h2 (by decide)) (by omega) ?_
    refine j_aload_n (i := 0) d_D_settleFarm_71 rfl lg0 ?_
    refine gf_D_20 d_D_settleFarm_72 ?_
    refine j_aload_n (i := 0) d_D_settleFarm_75 rfl lg0 ?_
    refine gf_D_69 d_D_settleFarm_76 ?_
    refine j_eqv (b := V 0 1) (by rw [g_upN (by first | decide | omega | (unfold hB; omega)), g_upN (by first | decide | omega | (unfold hB; omega)), g_upN (by first | decide | omega | (unfold hB; omega))]) ?_
    refine j_aload_n (i := 0) d_D_settleFarm_79 rfl lg0 ?_
    refine gf_D_10 d_D_settleFarm_80 ?_
    refine j_iload_n (i := 1) d_D_settleFarm_83 rfl lg1 ?_
    refine j_iconstN (k := 3) d_D_settleFarm_84 (by decide) ?_
    refine j_iaddN d_D_settleFarm_85 ?_
    refine cl_D_95 (c_S_figureAt l (g_up (g_up (g_up V (hB 0 + 1) (V 0 1) (V 2 p - 48)) 3 (V 0 1) (V 2 (p + 1) - 48)) (hB 0 + 2) (V 0 1) (V 2 (p + 2) - 48)) S (g_T_of (show (g_up (g_up (g_up V (hB 0 + 1) (V 0 1) (V 2 p - 48)) 3 (V 0 1) (V 2 (p + 1) - 48)) (hB 0 + 2) (V 0 1) (V 2 (p + 2) - 48)) 1 = V 1 from by rw [g_up_ne (by decide), g_up_ne (by decide), g_up_ne (by decide)]) (show (g_up (g_up (g_up V (hB 0 + 1) (V 0 1) (V 2 p - 48)) 3 (V 0 1) (V 2 (p + 1) - 48)) (hB 0 + 2) (V 0 1) (V 2 (p + 2) - 48)) 2 = V 2 from by rw [g_up_ne (by decide), g_up_ne (by decide), g_up_ne (by decide)]) hT) (p + 3) (by omega)) d_D_settleFarm_86 rfl rfl (g_ftM (by decide)) (Nat.le_of_ble_eq_true rfl) (g_pu ?_)
    rw [show q_fig ((g_up (g_up (g_up V (hB 0 + 1) (V 0 1) (V 2 p - 48)) 3 (V 0 1) (V 2 (p + 1) - 48)) (hB 0 + 2) (V 0 1) (V 2 (p + 2) - 48)) 1 1) ((g_up (g_up (g_up V (hB 0 + 1) (V 0 1) (V 2 p - 48)) 3 (V 0 1) (V 2 (p + 1) - 48)) (hB 0 + 2) (V 0 1) (V 2 (p + 2) - 48)) 2) (p + 3) = nI (V 2 (p + 3) - 48) from by rw [show (g_up (g_up (g_up V (hB 0 + 1) (V 0 1) (V 2 p - 48)) 3 (V 0 1) (V 2 (p + 1) - 48)) (hB 0 + 2) (V 0 1) (V 2 (p + 2) - 48)) 1 = V 1 from by rw [g_up_ne (by decide), g_up_ne (by decide), g_up_ne (by decide)], show (g_up (g_up (g_up V (hB 0 + 1) (V 0 1) (V 2 p - 48)) 3 (V 0 1) (V 2 (p + 1) - 48)) (hB 0 + 2) (V 0 1) (V 2 (p + 2) - 48)) 2 = V 2 from by rw [g_up_ne (by decide), g_up_ne (by decide), g_up_ne (by decide)]]; exact q_fig_t (hd 3 (by decide))]
    refine j_iast d_D_settleFarm_89 gI_4 (by omega) ?_
    refine j_aload_n (i := 0) d_D_settleFarm_90 rfl lg0 ?_
    refine gf_D_23 d_D_settleFarm_91 ?_
    refine j_aload_n (i := 0) d_D_settleFarm_94 rfl lg0 ?_
    refine gf_D_69 d_D_settleFarm_95 ?_
    refine j_eqv (b := V 0 1) (by rw [g_upN (by first | decide | omega | (unfold hB; omega)), g_upN (by first | decide | omega | (unfold hB; omega)), g_upN (by first | decide | omega | (unfold hB; omega)), g_upN (by first | decide | omega | (unfold hB; omega))]) ?_
    refine j_aload_n (i := 0) d_D_settleFarm_98 rfl lg0 ?_
    refine gf_D_10 d_D_settleFarm_99 ?_
    refine j_iload_n (i := 1) d_D_settleFarm_102 rfl lg1 ?_
    refine j_iconstN (k := 4) d_D_settleFarm_103 (by decide) ?_
    refine j_iaddN d_D_settleFarm_104 ?_
    refine cl_D_95 (c_S_figureAt l (g_up (g_up (g_up (g_up V (hB 0 + 1) (V 0 1) (V 2 p - 48)) 3 (V 0 1) (V 2 (p + 1) - 48)) (hB 0 + 2) (V 0 1) (V 2 (p + 2) - 48)) 4 (V 0 1) (V 2 (p + 3) - 48)) S (g_T_of (show (g_up (g_up (g_up (g_up V (hB 0 + 1) (V 0 1) (V 2 p - 48)) 3 (V 0 1) (V 2 (p + 1) - 48)) (hB 0 + 2) (V 0 1) (V 2 (p + 2) - 48)) 4 (V 0 1) (V 2 (p + 3) - 48)) 1 = V 1 from by rw [g_up_ne (by decide), g_up_ne (by decide), g_up_ne (by decide), g_up_ne (by decide)]) (show (g_up (g_up (g_up (g_up V (hB 0 + 1) (V 0 1) (V 2 p - 48)) 3 (V 0 1) (V 2 (p + 1) - 48)) (hB 0 + 2) (V 0 1) (V 2 (p + 2) - 48)) 4 (V 0 1) (V 2 (p + 3) - 48)) 2 = V 2 from by rw [g_up_ne (by decide), g_up_ne (by decide), g_up_ne (by decide), g_up_ne (by decide)]) hT) (p + 4) (by omega)) d_D_settleFarm_105 rfl rfl (g_ftM (by decide)) (Nat.le_of_ble_eq_true rfl) (g_pu ?_)
    rw [show q_fig ((g_up (g_up (g_up (g_up V (hB 0 + 1) (V 0 1) (V 2 p - 48)) 3 (V 0 1) (V 2 (p + 1) - 48)) (hB 0 + 2) (V 0 1) (V 2 (p + 2) - 48)) 4 (V 0 1) (V 2 (p + 3) - 48)) 1 1) ((g_up (g_up (g_up (g_up V (hB 0 + 1) (V 0 1) (V 2 p - 48)) 3 (V 0 1) (V 2 (p + 1) - 48)) (hB 0 + 2) (V 0 1) (V 2 (p + 2) - 48)) 4 (V 0 1) (V 2 (p + 3) - 48)) 2) (p + 4) = nI (V 2 (p + 4) - 48) from by rw [show (g_up (g_up (g_up (g_up V (hB 0 + 1) (V 0 1) (V 2 p - 48)) 3 (V 0 1) (V 2 (p + 1) - 48)) (hB 0 + 2) (V 0 1) (V 2 (p + 2) - 48)) 4 (V 0 1) (V 2 (p + 3) - 48)) 1 = V 1 from by rw [g_up_ne (by decide), g_up_ne (by decide), g_up_ne (by decide), g_up_ne (by decide)], show (g_up (g_up (g_up (g_up V (hB 0 + 1) (V 0 1) (V 2 p - 48)) 3 (V 0 1) (V 2 (p + 1) - 48)) (hB 0 + 2) (V 0 1) (V 2 (p + 2) - 48)) 4 (V 0 1) (V 2 (p + 3) - 48)) 2 = V 2 from by rw [g_up_ne (by decide), g_up_ne (by decide), g_up_ne (by decide), g_up_ne (by decide)]]; exact q_fig_t (hd 4 (by decide))]
    refine j_iast d_D_settleFarm_108 gI_5 (by omega) ?_
    refine j_aload_n (i := 0) d_D_settleFarm_109 rfl lg0 ?_
    refine gf_D_29 d_D_settleFarm_110 ?_
    refine gf_D_123 (j := 0) (by decide) d_D_settleFarm_113 ?_
    refine j_aload_n (i := 0) d_D_settleFarm_116 rfl lg0 ?_
    refine gf_D_69 d_D_settleFarm_117 ?_
    refine j_eqv (b := V 0 1) (by rw [g_upN (by first | decide | omega | (unfold hB; omega)), g_upN (by first | decide | omega | (unfold hB; omega)), g_upN (by first | decide | omega | (unfold hB; omega)), g_upN (by first | decide | omega | (unfold hB; omega)), g_upN (by first | decide | omega | (unfold hB; omega))]) ?_
    refine j_aload_n (i := 0) d_D_settleFarm_120 rfl lg0 ?_
    refine gf_D_69 d_D_settleFarm_121 ?_
    refine j_eqv (b := V 0 1) (by rw [g_upN (by first | decide | omega | (unfold hB; omega)), g_upN (by first | decide | omega | (unfold hB; omega)), g_upN (by first | decide | omega | (unfold hB; omega)), g_upN (by first | decide | omega | (unfold hB; omega)), g_upN (by first | decide | omega | (unfold hB; omega))]) ?_
    refine j_iast d_D_settleFarm_124 (gI_h3 (by decide)) (by omega) ?_
    refine j_aload_n (i := 0) d_D_settleFarm_125 rfl lg0 ?_
    refine j_dup d_D_settleFarm_126 rfl ?_
    refine gf_D_69 d_D_settleFarm_127 ?_
    refine j_eqv (b := V 0 1) (by rw [g_upN (by first | decide | omega | (unfold hB; omega)), g_upN (by first | decide | omega | (unfold hB; omega)), g_upN (by first | decide | omega | (unfold hB; omega)), g_upN (by first | decide | omega | (unfold hB; omega)), g_upN (by first | decide | omega | (unfold hB; omega)), g_upN (by first | decide | omega | (unfold hB; omega))]) ?_
    refine j_iconstN (k := 1) d_D_settleFarm_130 (by decide) ?_
    refine j_iaddN d_D_settleFarm_131 ?_
    refine pf_D_69 d_D_settleFarm_132 ?_
    refine j_vret d_D_settleFarm_135 ⟨rfl, rfl, rfl⟩
  ·
    refine j_vret d_D_settleFarm_9 ⟨rfl, absurd hn6 (by omega), rfl⟩
/-- what dyke leaves: f farms told as rf says, the dams d -/
def g_dy (V V1 : g_V) (f d : Nat) (rf : Nat → Nat) : Prop :=
  (V1 0 1 = f ∧ f ≤ 6 ∧ V1 (hB 0) 5 = d ∧ d < 64) ∧
  (∀ i, i < f → (V1 (hB 0 + 1) i = rf (5 * i) ∧ V1 3 i = rf (5 * i + 1) ∧ V1 (hB 0 + 2) i = rf (5 * i + 2)) ∧ (V1 4 i = rf (5 * i + 3) ∧ V1 5 i = rf (5 * i + 4) ∧ V1 (hB 0 + 3) i = i)) ∧
  (∀ i, f ≤ i → i < 6 → (V1 (hB 0 + 1) i = 0 ∧ V1 (hB 0 + 2) i = 0 ∧ V1 (hB 0 + 3) i = 0) ∧ (V1 3 i = V 3 i ∧ V1 4 i = V 4 i ∧ V1 5 i = V 5 i)) ∧
  (V1 (hB 0) 4 = 0 ∧ V1 (hB 0) 6 = 0 ∧ ∀ r k, 5 ≤ r → r < 11 → k < 6 → V1 (hB 0 + r) k = 0) ∧
  (V1 0 8 = 0 ∧ V1 0 10 = 0 ∧ V1 0 7 = V 0 7) ∧
  (∀ i, i < f → (rf (5 * i) ≤ 9 ∧ rf (5 * i + 1) ≤ 3 ∧ rf (5 * i + 2) ≤ 9) ∧ (rf (5 * i + 3) ≤ 9 ∧ rf (5 * i + 4) ≤ 3)) ∧
  ∀ c, c ≠ 0 → c ≠ 3 → c ≠ 4 → c ≠ 5 → (c < hB 0 ∨ hB 0 + 11 ≤ c) → V1 c = V c
theorem q_rd_at {L rf : Nat → Nat} {p f k : Nat} (hk : k < 5) : q_rd L p f rf (5 * f + k) = L (p + k) - 48 := by
  unfold q_rd
  rw [if_pos ⟨by omega, by omega⟩]
  congr 3
  omega
theorem q_rd_ne {L rf : Nat → Nat} {p f i k : Nat} (hi : i < f) (hk : k < 5) : q_rd L p f rf (5 * i + k) = rf (5 * i + k) := by
  unfold q_rd
  rw [if_neg (by omega)]
theorem g_stl_c {V : g_V} {p c : Nat} (h0 : c ≠ 0) (h3 : c ≠ 3) (h4 : c ≠ 4) (h5 : c ≠ 5) (h15 : c ≠ hB 0 + 1) (h16 : c ≠ hB 0 + 2) (h17 : c ≠ hB 0 + 3) : g_stl V p c = V c := by
  unfold g_stl
  rw [g_up_ne h0, g_up_ne h17, g_up_ne h5, g_up_ne h4, g_up_ne h16, g_up_ne h3, g_up_ne h15]
theorem g_stl_i {V : g_V} {p i : Nat} (hi : i ≠ V 0 1) : (g_stl V p (hB 0 + 1) i = V (hB 0 + 1) i ∧ g_stl V p 3 i = V 3 i ∧ g_stl V p (hB 0 + 2) i = V (hB 0 + 2) i) ∧ (g_stl V p 4 i = V 4 i ∧ g_stl V p 5 i = V 5 i ∧ g_stl V p (hB 0 + 3) i = V (hB 0 + 3) i) := by
  unfold g_stl
  refine ⟨⟨?_, ?_, ?_⟩, ?_, ?_, ?_⟩
  · rw [g_upN (by decide), g_upN (by decide), g_upN (by decide), g_upN (by decide), g_upN (by decide), g_upN (by decide), g_upK hi]
  · rw [g_upN (by decide), g_upN (by decide), g_upN (by decide), g_upN (by decide), g_upN (by decide), g_upK hi, g_upN (by decide)]
  · rw [g_upN (by decide), g_upN (by decide), g_upN (by decide), g_upN (by decide), g_upK hi, g_upN (by decide), g_upN (by decide)]
  · rw [g_upN (by decide), g_upN (by decide), g_upN (by decide), g_upK hi, g_upN (by decide), g_upN (by decide), g_upN (by decide)]
  · rw [g_upN (by decide), g_upN (by decide), g_upK hi, g_upN (by decide), g_upN (by decide), g_upN (by decide), g_upN (by decide)]
  · rw [g_upN (by decide), g_upK hi, g_upN (by decide), g_upN (by decide), g_upN (by decide), g_upN (by decide), g_upN (by decide)]
theorem g_stl_n {V : g_V} {p : Nat} : (g_stl V p (hB 0 + 1) (V 0 1) = V 2 p - 48 ∧ g_stl V p 3 (V 0 1) = V 2 (p + 1) - 48 ∧ g_stl V p (hB 0 + 2) (V 0 1) = V 2 (p + 2) - 48) ∧ (g_stl V p 4 (V 0 1) = V 2 (p + 3) - 48 ∧ g_stl V p 5 (V 0 1) = V 2 (p + 4) - 48 ∧ g_stl V p (hB 0 + 3) (V 0 1) = V 0 1) := by
  unfold g_stl
  refine ⟨⟨?_, ?_, ?_⟩, ?_, ?_, ?_⟩
  · rw [g_upN (by decide), g_upN (by decide), g_upN (by decide), g_upN (by decide), g_upN (by decide), g_upN (by decide), g_upS]
  · rw [g_upN (by decide), g_upN (by decide), g_upN (by decide), g_upN (by decide), g_upN (by decide), g_upS]
  · rw [g_upN (by decide), g_upN (by decide), g_upN (by decide), g_upN (by decide), g_upS]
  · rw [g_upN (by decide), g_upN (by decide), g_upN (by decide), g_upS]
  · rw [g_upN (by decide), g_upN (by decide), g_upS]
  · rw [g_upN (by decide), g_upS]
theorem g_stl_0 {V : g_V} {p k : Nat} : g_stl V p 0 k = if k = 1 then V 0 1 + 1 else V 0 k := by
  unfold g_stl
  by_cases h : k = 1
  · subst h; rw [g_upS]; rfl
  · rw [if_neg h, g_upK h, g_upN (by decide), g_upN (by decide), g_upN (by decide), g_upN (by decide), g_upN (by decide), g_upN (by decide)]
theorem g_dy_farm {V V1 : g_V} {f d p : Nat} {rf : Nat → Nat} (h : g_dy V V1 f d rf) (hf : f < 6) (hd : ∀ k, k < 5 → q_okf (V 1 1) (V 2) (p + k) (g_great k)) : g_dy V (g_stl V1 p) (f + 1) d (q_rd (V 2) p f rf) := by
  obtain ⟨⟨a1, a2, a3, a4⟩, b, c, ⟨d1, d2, d3⟩, ⟨e1, e2, e3⟩, g, k⟩ := h
  have h2 : V1 2 = V 2 := k 2 (by decide) (by decide) (by decide) (by decide) (Or.inl (by decide))
  have hg : ∀ k, k < 5 → V 2 (p + k) - 48 ≤ g_great k := fun k hk => by have := (hd k hk).2; omega
  refine ⟨⟨?_, by omega, ?_, a4⟩, fun i hi => ?_, fun i hi hi6 => ?_, ⟨?_, ?_, fun r q h5 h11 hq => ?_⟩, ⟨?_, ?_, ?_⟩, fun i hi => ?_, fun q q0 q3 q4 q5 hq => ?_⟩
  · rw [g_stl_0, if_pos rfl, a1]
  · rw [g_stl_c (by decide) (by decide) (by decide) (by decide) (by decide) (by decide) (by decide)]; exact a3
  · by_cases hif : i = f
    · subst hif
      obtain ⟨⟨s1, s2, s3⟩, s4, s5, s6⟩ := g_stl_n (V := V1) (p := p)
      rw [a1, h2] at s1 s2 s3 s4 s5
      rw [a1] at s6
      have r0 := q_rd_at (L := V 2) (rf := rf) (p := p) (f := i) (k := 0) (by decide)
      exact ⟨⟨s1.trans r0.symm, s2.trans (q_rd_at (by decide)).symm, s3.trans (q_rd_at (by decide)).symm⟩, s4.trans (q_rd_at (by decide)).symm, s5.trans (q_rd_at (by decide)).symm, s6⟩
    · obtain ⟨⟨s1, s2, s3⟩, s4, s5, s6⟩ := g_stl_i (V := V1) (p := p) (i := i) (by omega)
      obtain ⟨⟨b1, b2, b3⟩, b4, b5, b6⟩ := b i (by omega)
      have r0 := q_rd_ne (L := V 2) (rf := rf) (p := p) (f := f) (i := i) (k := 0) (by omega) (by decide)
      exact ⟨⟨(s1.trans b1).trans r0.symm, (s2.trans b2).trans (q_rd_ne (by omega) (by decide)).symm, (s3.trans b3).trans (q_rd_ne (by omega) (by decide)).symm⟩, (s4.trans b4).trans (q_rd_ne (by omega) (by decide)).symm, (s5.trans b5).trans (q_rd_ne (by omega) (by decide)).symm, s6.trans b6⟩
  · obtain ⟨⟨s1, s2, s3⟩, s4, s5, s6⟩ := g_stl_i (V := V1) (p := p) (i := i) (by omega)
    obtain ⟨⟨c1, c2, c3⟩, c4, c5, c6⟩ := c i (by omega) hi6
    exact ⟨⟨s1.trans c1, s3.trans c2, s6.trans c3⟩, s2.trans c4, s4.trans c5, s5.trans c6⟩
  · rw [g_stl_c (by decide) (by decide) (by decide) (by decide) (by decide) (by decide) (by decide)]; exact d1
  · rw [g_stl_c (by decide) (by decide) (by decide) (by decide) (by decide) (by decide) (by decide)]; exact d2
  · rw [g_stl_c (by unfold hB; omega) (by unfold hB; omega) (by unfold hB; omega) (by unfold hB; omega) (by omega) (by omega) (by omega)]; exact d3 r q h5 h11 hq
  · rw [g_stl_0, if_neg (by decide)]; exact e1
  · rw [g_stl_0, if_neg (by decide)]; exact e2
  · rw [g_stl_0, if_neg (by decide)]; exact e3
  · by_cases hif : i = f
    · subst hif
      have r0 := q_rd_at (L := V 2) (rf := rf) (p := p) (f := i) (k := 0) (by decide)
      rw [Nat.add_zero] at r0
      rw [r0, q_rd_at (by decide), q_rd_at (by decide), q_rd_at (by decide), q_rd_at (by decide)]
      exact ⟨⟨hg 0 (by decide), hg 1 (by decide), hg 2 (by decide)⟩, hg 3 (by decide), hg 4 (by decide)⟩
    · have r0 := q_rd_ne (L := V 2) (rf := rf) (p := p) (f := f) (i := i) (k := 0) (by omega) (by decide)
      rw [Nat.add_zero] at r0
      rw [r0, q_rd_ne (by omega) (by decide), q_rd_ne (by omega) (by decide), q_rd_ne (by omega) (by decide), q_rd_ne (by omega) (by decide)]
      exact g i (by omega)
  · rw [g_stl_c q0 q3 q4 q5 (by omega) (by omega) (by omega)]; exact k q q0 q3 q4 q5 hq
theorem g_dy_dam {V V1 : g_V} {f d b : Nat} {rf : Nat → Nat} (h : g_dy V V1 f d rf) (hb : b < 6) : g_dy V (g_up V1 (hB 0) 5 (d ||| 1 <<< b)) f (d ||| 1 <<< b) rf := by
  obtain ⟨⟨a1, a2, a3, a4⟩, b', c, ⟨d1, d2, d3⟩, ⟨e1, e2, e3⟩, g, k⟩ := h
  refine ⟨⟨by rw [g_upN (by decide)]; exact a1, a2, g_upS, Nat.or_lt_two_pow (n := 6) a4 (q_bit_lt hb)⟩, fun i hi => ?_, fun i hi hi6 => ?_, ⟨by rw [g_upK (by decide)]; exact d1, by rw [g_upK (by decide)]; exact d2, fun r q h5 h11 hq => ?_⟩, ⟨by rw [g_upN (by decide)]; exact e1, by rw [g_upN (by decide)]; exact e2, by rw [g_upN (by decide)]; exact e3⟩, g, fun q q0 q3 q4 q5 hq => ?_⟩
  · rw [g_upN (by decide), g_upN (by decide), g_upN (by decide), g_upN (by decide), g_upN (by decide), g_upN (by decide)]; exact b' i hi
  · rw [g_upN (by decide), g_upN (by decide), g_upN (by decide), g_upN (by decide), g_upN (by decide), g_upN (by decide)]; exact c i hi hi6
  · rw [g_upN (by omega)]; exact d3 r q h5 h11 hq
  · rw [g_up_ne (by omega)]; exact k q q0 q3 q4 q5 hq
set_option maxRecDepth 4000 in
theorem lp_D_dyke {G : g_G} (l : Launch) (V : g_V) (S : g_L) (hO : g_OK V) (hnone : (q_fault (V 1 1) (V 2)).1 = none) : ∀ (n : Nat) (V1 : g_V) (rf : Nat → Nat) (m p f d : Nat), (g_dy V V1 f d rf) → (q_ps (V 1 1) (V 2) m p f d rf = q_fault (V 1 1) (V 2)) → (p < 100) → m < n → JW G (g_M G l 5 (some .int) (fun r V' S' => S' = S ∧ ((¬ (q_fault (V 1 1) (V 2)).1 = none ∧ r = some (.int (-3)) ∧ V' = V) ∨ ((q_fault (V 1 1) (V 2)).1 = none ∧ r = some (.int (nI (q_fault (V 1 1) (V 2)).2.1)) ∧ g_dy V V' (q_fault (V 1 1) (V 2)).2.1 (q_fault (V 1 1) (V 2)).2.2.1 (q_fault (V 1 1) (V 2)).2.2.2)))) b_D_dyke R_D 39 [some (.ref (g_a G (0))), some (.int (nI (p)))] [] V1 S := by
  intro n
  induction n with
  | zero => intro V1 rf m p f d hdy hps hp hm; exact absurd hm (Nat.not_lt_zero _)
  | succ n ih =>
    intro V1 rf m p f d hdy hps hp hm
    have hn := hO.1.1
    have hK := hO.1.2.1
    have hT := hO.1.2.2
    have hH := (hO.2.2 0 (by decide)).1
    have hW := (hO.2.2 0 (by decide)).2.1
    have hsp := (hO.2.2 0 (by decide)).2.2.1
    have hdm := (hO.2.2 0 (by decide)).2.2.2.1
    have htd := (hO.2.2 0 (by decide)).2.2.2.2
    have hF := hO.2.1.1
    have hA := hO.2.1.2.1
    have hkp := hO.2.1.2.2
    have h11 : V1 1 = V 1 := hdy.2.2.2.2.2.2 1 (by decide) (by decide) (by decide) (by decide) (Or.inl (by decide))
    have h12 : V1 2 = V 2 := hdy.2.2.2.2.2.2 2 (by decide) (by decide) (by decide) (by decide) (Or.inl (by decide))
    have hT1 : g_T V1 := g_T_of h11 h12 hT
    have hl := hT.1
    have h111 : V1 1 1 = V 1 1 := by rw [h11]
    refine j_iload_n (i := 1) d_D_dyke_39 rfl lg1 ?_
    refine j_aload_n (i := 0) d_D_dyke_40 rfl lg0 ?_
    refine gf_D_10 d_D_dyke_41 ?_
    refine gf_D_58 d_D_dyke_44 ?_
    refine j_icmp_geN (tgt := 113) d_D_dyke_47 (by decide) (by omega) (by omega) (fun h_47 => ?_) (fun h_47 => ?_)
    ·
      refine j_aload_n (i := 0) d_D_dyke_113 rfl lg0 ?_
      refine gf_D_69 d_D_dyke_114 ?_
      refine j_iret d_D_dyke_117 ⟨rfl, Or.inr ⟨hnone, by
        have hpn : V 1 1 ≤ p := by rw [h11] at h_47; omega
        cases m with
        | zero => rw [← hps] at hnone; cases hnone
        | succ m =>
          rw [q_ps_end hpn] at hps
          rw [← hps, hdy.1.1], by
        have hpn : V 1 1 ≤ p := by rw [h11] at h_47; omega
        cases m with
        | zero => rw [← hps] at hnone; cases hnone
        | succ m =>
          rw [q_ps_end hpn] at hps
          rw [← hps]
          exact hdy⟩⟩
    ·
      have hpn : p < V 1 1 := by rw [h11] at h_47; omega
      obtain ⟨m', rfl, hcs⟩ := q_ps_ok hpn hps hnone
      have h255 := hT.2 p (by omega)
      have hpl : V 1 1 ≤ 48 := hT.1
      refine j_aload_n (i := 0) d_D_dyke_50 rfl lg0 ?_
      refine gf_D_10 d_D_dyke_51 ?_
      refine j_iload_n (i := 1) d_D_dyke_54 rfl lg1 ?_
      refine cl_D_81 (c_S_letterAt l V1 S hT1 p (by omega)) d_D_dyke_55 rfl rfl (g_ftM (by decide)) (Nat.le_of_ble_eq_true rfl) (g_pu ?_)
      rw [q_let_t (by rw [h11]; exact hpn), h12]
      refine j_bipushN (k := 70) d_D_dyke_58 (by decide) ?_
      refine j_icmp_neN (tgt := 82) d_D_dyke_60 (by decide) (by omega) (by omega) (fun h_60 => ?_) (fun h_60 => ?_)
      ·
        rcases hcs with ⟨hF7, -⟩ | ⟨-, -, hokd, hnext⟩
        · omega
        refine j_aload_n (i := 0) d_D_dyke_82 rfl lg0 ?_
        refine gf_D_29 d_D_dyke_83 ?_
        refine j_dup d_D_dyke_86 rfl ?_
        refine gf_D_92 (j := 0) (by decide) d_D_dyke_87 ?_
        refine j_aload_n (i := 0) d_D_dyke_90 rfl lg0 ?_
        refine gf_D_10 d_D_dyke_91 ?_
        refine j_iload_n (i := 1) d_D_dyke_94 rfl lg1 ?_
        refine j_iconstN (k := 1) d_D_dyke_95 (by decide) ?_
        refine j_iaddN d_D_dyke_96 ?_
        refine cl_D_95 (c_S_figureAt l V1 S hT1 (p + 1) (by omega)) d_D_dyke_97 rfl rfl (g_ftM (by decide)) (Nat.le_of_ble_eq_true rfl) (g_pu ?_)
        rw [h11, h12, q_fig_t hokd.1]
        refine cl_D_98 (c_D_bit l V1 S (V 2 (p + 1) - 48) (by have h1 := hokd.2.1; have h2 := hdy.1.2.1; omega)) d_D_dyke_100 rfl rfl (g_ftM (by decide)) (Nat.le_of_ble_eq_true rfl) (g_pu ?_)
        refine j_iorN d_D_dyke_103 ?_
        refine pf_D_92 (j := 0) (by decide) d_D_dyke_104 ?_
        refine j_iincN (k := 2) d_D_dyke_107 lg1 (by decide) ls1r ?_
        refine j_goto (tgt := 39) d_D_dyke_110 (by decide) ?_
        have hdx : V1 (hB 0) 5 = d := hdy.1.2.2.1
        rw [hdx]
        refine ih (g_up V1 (hB 0) 5 (d ||| 1 <<< (V 2 (p + 1) - 48))) rf m' (p + 2) f (d ||| 1 <<< (V 2 (p + 1) - 48)) (g_dy_dam hdy (by have h1 := hokd.2.1; have h2 := hdy.1.2.1; omega)) hnext (by omega) (by omega)
      ·
        rcases hcs with ⟨-, hf6, hfig, hnext⟩ | ⟨hI, -⟩
        rotate_left
        · omega
        refine j_aload_n (i := 0) d_D_dyke_63 rfl lg0 ?_
        refine j_iload_n (i := 1) d_D_dyke_64 rfl lg1 ?_
        refine j_iconstN (k := 1) d_D_dyke_65 (by decide) ?_
        refine j_iaddN d_D_dyke_66 ?_
        refine cl_D_85 (c_D_settleFarm l V1 S hT1 (by rw [hdy.1.1]; exact hf6) (p + 1) (by omega) (fun k hk => by have h := hfig k hk; have hg := g_great_le (i := k); rw [h11, h12]; exact ⟨h.1, h.2.1, by omega⟩)) d_D_dyke_67 rfl rfl (g_ftM (by decide)) (Nat.le_of_ble_eq_true rfl) (g_pw ?_)
        refine j_iload_n (i := 1) d_D_dyke_70 rfl lg1 ?_
        refine j_getsG d_D_dyke_71 gs_D_89 ?_
        refine j_alenG d_D_dyke_74 ?_
        refine j_iconstN (k := 1) d_D_dyke_75 (by decide) ?_
        refine j_iaddN d_D_dyke_76 ?_
        refine j_iaddN d_D_dyke_77 ?_
        refine j_istore_n d_D_dyke_78 rfl ls1r ?_
        refine j_goto (tgt := 39) d_D_dyke_79 (by decide) ?_
        refine ih (g_stl V1 (p + 1)) (q_rd (V 2) (p + 1) f rf) m' (p + 6) (f + 1) d ?_ hnext (by omega) (by omega)
        exact g_dy_farm hdy hf6 hfig
set_option maxRecDepth 4000 in
theorem c_D_dyke {G : g_G} (l : Launch) (V : g_V) (S : g_L) (hO : g_OK V) : g_C G l y_D_dyke b_D_dyke 2 (some .int) 5 [.ref (g_a G (0))] V S (fun r V' S' => S' = S ∧ ((¬ (q_fault (V 1 1) (V 2)).1 = none ∧ r = some (.int (-3)) ∧ V' = V) ∨ ((q_fault (V 1 1) (V 2)).1 = none ∧ r = some (.int (nI (q_fault (V 1 1) (V 2)).2.1)) ∧ g_dy V V' (q_fault (V 1 1) (V 2)).2.1 (q_fault (V 1 1) (V 2)).2.2.1 (q_fault (V 1 1) (V 2)).2.2.2))) := by
  refine g_C.of (lv := [some (.ref (g_a G (0))), none]) (by decide +kernel) rfl rfl rfl (Nat.le_of_ble_eq_true rfl) ?_
  have hn := hO.1.1
  have hK := hO.1.2.1
  have hT := hO.1.2.2
  have hH := (hO.2.2 0 (by decide)).1
  have hW := (hO.2.2 0 (by decide)).2.1
  have hsp := (hO.2.2 0 (by decide)).2.2.1
  have hdm := (hO.2.2 0 (by decide)).2.2.2.1
  have htd := (hO.2.2 0 (by decide)).2.2.2.2
  have hF := hO.2.1.1
  have hA := hO.2.1.2.1
  have hkp := hO.2.1.2.2
  refine j_aload_n (i := 0) d_D_dyke_0 rfl lg0 ?_
  refine gf_D_10 d_D_dyke_1 ?_
  refine cl_D_65 (c_S_firstFault l V S hT) d_D_dyke_4 rfl rfl (g_ftM (by decide)) (Nat.le_of_ble_eq_true rfl) (g_pu ?_)
  refine j_bipush (v := -9) d_D_dyke_7 (by decide) ?_
  refine j_icmp_eq (tgt := 15) d_D_dyke_9 (by decide) (fun h_9 => ?_) (fun h_9 => ?_)
  ·
    have hnone := q_fault_none.mp h_9
    refine j_aload_n (i := 0) d_D_dyke_15 rfl lg0 ?_
    refine j_iconstN (k := 0) d_D_dyke_16 (by decide) ?_
    refine pf_D_69 d_D_dyke_17 ?_
    refine j_aload_n (i := 0) d_D_dyke_20 rfl lg0 ?_
    refine j_iconstN (k := 0) d_D_dyke_21 (by decide) ?_
    refine pf_D_72 d_D_dyke_22 ?_
    refine j_aload_n (i := 0) d_D_dyke_25 rfl lg0 ?_
    refine j_iconstN (k := 0) d_D_dyke_26 (by decide) ?_
    refine pf_D_75 d_D_dyke_27 ?_
    refine j_aload_n (i := 0) d_D_dyke_30 rfl lg0 ?_
    refine gf_D_29 d_D_dyke_31 ?_
    refine cl_D_78 (j := 0) (by decide) (c_H_clear l (g_up (g_up (g_up V 0 1 0) 0 8 0) 0 10 0) S) d_D_dyke_34 rfl rfl (g_ftM (by decide)) (Nat.le_of_ble_eq_true rfl) ?_
    rintro _ V2 S2 ⟨rfl, hz, hz2, ho, hs⟩
    rw [hs]
    refine j_iconstN (k := 1) d_D_dyke_37 (by decide) ?_
    refine j_istore_n d_D_dyke_38 rfl ls1r ?_
    have hV0 : ∀ c, c ≠ 0 → (c < hB 0 ∨ hB 0 + 11 ≤ c) → V2 c = V c := fun c h0 hc => by rw [ho c hc, g_up_ne h0, g_up_ne h0, g_up_ne h0]
    have h20 : V2 0 = g_up (g_up (g_up V 0 1 0) 0 8 0) 0 10 0 0 := ho 0 (Or.inl (by decide))
    have hst : 0 < V 1 1 ∧ V 2 0 = 68 := by
      rcases Decidable.em (0 < V 1 1 ∧ V 2 0 = 68) with q | q
      · exact q
      · exfalso
        unfold q_fault at hnone
        rw [if_neg q] at hnone
        cases hnone
    refine lp_D_dyke l V S hO hnone _ V2 (fun _ => 0) 50 1 0 0 ⟨⟨?_, by decide, hz2.2.1, by decide⟩, fun i hi => absurd hi (Nat.not_lt_zero i), fun i _ hi => ⟨⟨hz 1 i (by decide) (by decide) (by decide) hi, hz 2 i (by decide) (by decide) (by decide) hi, hz 3 i (by decide) (by decide) (by decide) hi⟩, ?_, ?_, ?_⟩, ⟨hz2.1, hz2.2.2, fun r k h5 h11 hk => hz r k (by omega) h11 (by omega) hk⟩, ⟨?_, ?_, ?_⟩, fun i hi => absurd hi (Nat.not_lt_zero i), fun c h0 _ _ _ hc => hV0 c h0 hc⟩ ?_ (by decide) (Nat.lt_succ_self _)
    · rw [h20, g_upK (by decide), g_upK (by decide), g_upS]
    · rw [hV0 3 (by decide) (Or.inl (by decide))]
    · rw [hV0 4 (by decide) (Or.inl (by decide))]
    · rw [hV0 5 (by decide) (Or.inl (by decide))]
    · rw [h20, g_upK (by decide), g_upS]
    · rw [h20, g_upS]
    · rw [h20, g_upK (by decide), g_upK (by decide), g_upK (by decide)]
    · unfold q_fault; rw [if_pos hst]
  ·
    refine j_bipush (v := -3) d_D_dyke_12 (by decide) ?_
    refine j_iret d_D_dyke_14 ⟨rfl, Or.inl ⟨fun q => h_9 (q_fault_none.mpr q), rfl, rfl⟩⟩
