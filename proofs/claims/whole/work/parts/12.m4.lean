/-! The class: a storm over a row of heights, what is remembered, the text. -/
theorem j_eqv {G : g_G} {X : g_X} {cc : ByteArray} {own : String} {pc : Nat} {lv : List (Option Value)} {st : List Value} {V : g_V} {S : g_L} {a b : Nat} (h : a = b) (k : JW G X cc own pc lv (.int (nI b) :: st) V S) : JW G X cc own pc lv (.int (nI a) :: st) V S := by
  rw [h]; exact k
/-- the heights of row c behind a storm of x, up to i -/
def g_sk (V : g_V) (c x i : Nat) : g_V := g_row V c (fun k => if k < i then q_bh (q_str (V 5 k) (V 3 k) (V c k)) (V c k) x else V c k)
theorem g_sk_N {V : g_V} {c x i c' : Nat} (h : c' ≠ c) : g_sk V c x i c' = V c' := g_rowN h
theorem g_sk_S {V : g_V} {c x i : Nat} : g_sk V c x i c i = V c i := by
  unfold g_sk; rw [g_rowS]; exact if_neg (Nat.lt_irrefl i)
theorem g_sk_0 {V : g_V} {c x : Nat} : g_sk V c x 0 = V := by
  funext c' k
  unfold g_sk g_row
  by_cases h : c' = c
  · subst h; simp
  · simp [h]
theorem g_sk_step {V : g_V} {c x i : Nat} : g_up (g_sk V c x i) c i (q_bh (q_str (V 5 i) (V 3 i) (V c i)) (V c i) x) = g_sk V c x (i + 1) := by
  funext c' k
  unfold g_up g_sk g_row
  by_cases hc : c' = c
  · subst hc
    by_cases hk : k = i
    · subst hk; simp
    · simp only [hk, and_false, if_false, if_true]
      by_cases hl : k < i
      · rw [if_pos hl, if_pos (by omega)]
      · rw [if_neg hl, if_neg (by omega)]
  · simp [hc]
def D_strc (V : g_V) (c i : Nat) : Nat := q_str (V 5 i) (V 3 i) (V c i)
set_option maxRecDepth 4000 in
theorem lp_D_strike {G : g_G} (l : Launch) (V : g_V) (S : g_L) (hn : V 0 1 ≤ 6) (hK : g_K V) (c x : Nat) (hc : g_I c 6) (h0 : c ≠ 0) (h3 : c ≠ 3) (h4 : c ≠ 4) (h5 : c ≠ 5) (hH : g_H V c) (hx : x ≤ 20) : ∀ (n : Nat) (i b : Nat), (i ≤ V 0 1) → (i ≤ 6) → (b = q_brk i (D_strc V c) x) → V 0 1 - i < n → JW G (g_M G l 3 (some .int) (fun r V' S' => r = some (.int (nI (q_brk (V 0 1) (D_strc V c) x))) ∧ V' = g_sk V c x (V 0 1) ∧ S' = S)) b_D_strike R_D 5 [some (.ref (g_a G (0))), some (.ref (g_a G (c))), some (.int (nI (x))), some (.int (nI (b))), some (.int (nI (i)))] [] (g_sk V c x i) S := by
  intro n
  induction n with
  | zero => intro i b hi hi6 hb hm; exact absurd hm (Nat.not_lt_zero _)
  | succ n ih =>
    intro i b hi hi6 hb hm
    have e0 : g_sk V c x i 0 = V 0 := g_sk_N (Ne.symm h0)
    have e3 : g_sk V c x i 3 = V 3 := g_sk_N (Ne.symm h3)
    have e4 : g_sk V c x i 4 = V 4 := g_sk_N (Ne.symm h4)
    have e5 : g_sk V c x i 5 = V 5 := g_sk_N (Ne.symm h5)
    have ec : g_sk V c x i c i = V c i := g_sk_S
    have hK2 : g_K (g_sk V c x i) := by unfold g_K; rw [e3, e4, e5]; exact hK
    refine j_iload d_D_strike_5 lg4 ?_
    refine j_aload_n (i := 0) d_D_strike_7 rfl lg0 ?_
    refine gf_D_69 d_D_strike_8 ?_
    rw [e0]
    refine j_icmp_geN (tgt := 64) d_D_strike_11 (by decide) (by omega) (by omega) (fun h_11 => ?_) (fun h_11 => ?_)
    ·
      refine j_iload_n (i := 3) d_D_strike_64 rfl lg3 ?_
      refine j_iret d_D_strike_65 ⟨by rw [hb, show i = V 0 1 by omega], by rw [show i = V 0 1 by omega], rfl⟩
    ·
      refine j_iload d_D_strike_14 lg4 ?_
      refine j_aload_n (i := 1) d_D_strike_16 rfl lg1 ?_
      refine j_alen d_D_strike_17 hc ?_
      refine j_icmp_geN (tgt := 64) d_D_strike_18 (by decide) (by omega) (by omega) (fun h_18 => ?_) (fun h_18 => ?_)
      ·
        refine j_iload_n (i := 3) d_D_strike_64 rfl lg3 ?_
        refine j_iret d_D_strike_65 ⟨by rw [hb, show i = V 0 1 by omega], by rw [show i = V 0 1 by omega], rfl⟩
      ·
        refine j_iload_n (i := 2) d_D_strike_21 rfl lg2 ?_
        refine j_aload_n (i := 0) d_D_strike_22 rfl lg0 ?_
        refine j_iload d_D_strike_23 lg4 ?_
        refine j_aload_n (i := 1) d_D_strike_25 rfl lg1 ?_
        refine j_iload d_D_strike_26 lg4 ?_
        refine j_iald d_D_strike_28 hc (by omega) ?_
        rw [ec]
        have hci := hH i (by omega)
        have hq := q_str_lt (k := V 5 i) (g := V 3 i) (h := V c i) (hK i (by omega)).1 (by omega)
        refine cl_D_126 (c_D_strengthAt l (g_sk V c x i) S i (V c i) (by omega) (hK2 i (by omega)).2.2) d_D_strike_29 rfl rfl (g_ftM (by decide)) (Nat.le_of_ble_eq_true rfl) (g_pu ?_)
        rw [e3, e5]
        refine j_icmp_leN (tgt := 43) d_D_strike_32 (by decide) (by omega) (by omega) (fun h_32 => ?_) (fun h_32 => ?_)
        ·
          refine j_aload_n (i := 1) d_D_strike_43 rfl lg1 ?_
          refine j_iload d_D_strike_44 lg4 ?_
          refine j_aload_n (i := 0) d_D_strike_46 rfl lg0 ?_
          refine j_iload d_D_strike_47 lg4 ?_
          refine j_aload_n (i := 1) d_D_strike_49 rfl lg1 ?_
          refine j_iload d_D_strike_50 lg4 ?_
          refine j_iald d_D_strike_52 hc (by omega) ?_
          rw [ec]
          refine j_iload_n (i := 2) d_D_strike_53 rfl lg2 ?_
          refine cl_D_232 (c_D_heightBehind l (g_sk V c x i) S hK2 i (V c i) x (by omega) (by omega) (by omega)) d_D_strike_54 rfl rfl (g_ftM (by decide)) (Nat.le_of_ble_eq_true rfl) (g_pu ?_)
          rw [e3, e5]
          refine j_iast d_D_strike_57 hc (by omega) ?_
          refine j_iincN (k := 1) d_D_strike_58 lg4 (by decide) ls4i ?_
          refine j_goto (tgt := 5) d_D_strike_61 (by decide) ?_
          rw [g_sk_step]
          exact ih (i + 1) _ (by omega) (by omega) (by rw [hb]; show _ = q_or i _ ||| (if _ then _ else _); rw [if_neg (show ¬ D_strc V c i < x from Nat.not_lt.mpr h_32), Nat.or_zero]; rfl) (by omega)
        ·
          refine j_iload_n (i := 3) d_D_strike_35 rfl lg3 ?_
          refine j_iload d_D_strike_36 lg4 ?_
          refine cl_D_98 (c_D_bit l (g_sk V c x i) S (i) (by omega)) d_D_strike_38 rfl rfl (g_ftM (by decide)) (Nat.le_of_ble_eq_true rfl) (g_pu ?_)
          refine j_iorN d_D_strike_41 ?_
          refine j_istore_n d_D_strike_42 rfl ls3i ?_
          refine j_aload_n (i := 1) d_D_strike_43 rfl lg1 ?_
          refine j_iload d_D_strike_44 lg4 ?_
          refine j_aload_n (i := 0) d_D_strike_46 rfl lg0 ?_
          refine j_iload d_D_strike_47 lg4 ?_
          refine j_aload_n (i := 1) d_D_strike_49 rfl lg1 ?_
          refine j_iload d_D_strike_50 lg4 ?_
          refine j_iald d_D_strike_52 hc (by omega) ?_
          rw [ec]
          refine j_iload_n (i := 2) d_D_strike_53 rfl lg2 ?_
          refine cl_D_232 (c_D_heightBehind l (g_sk V c x i) S hK2 i (V c i) x (by omega) (by omega) (by omega)) d_D_strike_54 rfl rfl (g_ftM (by decide)) (Nat.le_of_ble_eq_true rfl) (g_pu ?_)
          rw [e3, e5]
          refine j_iast d_D_strike_57 hc (by omega) ?_
          refine j_iincN (k := 1) d_D_strike_58 lg4 (by decide) ls4i ?_
          refine j_goto (tgt := 5) d_D_strike_61 (by decide) ?_
          rw [g_sk_step]
          exact ih (i + 1) _ (by omega) (by omega) (by rw [hb]; show _ = q_or i _ ||| (if _ then _ else _); rw [if_pos (show D_strc V c i < x from h_32)]; rfl) (by omega)
set_option maxRecDepth 4000 in
theorem c_D_strike {G : g_G} (l : Launch) (V : g_V) (S : g_L) (hn : V 0 1 ≤ 6) (hK : g_K V) (c x : Nat) (hc : g_I c 6) (h0 : c ≠ 0) (h3 : c ≠ 3) (h4 : c ≠ 4) (h5 : c ≠ 5) (hH : g_H V c) (hx : x ≤ 20) : g_C G l y_D_strike b_D_strike 5 (some .int) 3 [.ref (g_a G (0)), .ref (g_a G (c)), .int (nI (x))] V S (fun r V' S' => r = some (.int (nI (q_brk (V 0 1) (D_strc V c) x))) ∧ V' = g_sk V c x (V 0 1) ∧ S' = S) := by
  refine g_C.of (lv := [some (.ref (g_a G (0))), some (.ref (g_a G (c))), some (.int (nI (x))), none, none]) (by decide +kernel) rfl rfl rfl (Nat.le_of_ble_eq_true rfl) ?_
  refine j_iconstN (k := 0) d_D_strike_0 (by decide) ?_
  refine j_istore_n d_D_strike_1 rfl ls3i ?_
  refine j_iconstN (k := 0) d_D_strike_2 (by decide) ?_
  refine j_istore d_D_strike_3 ls4i ?_
  have h := lp_D_strike (G := G) l V S hn hK c x hc h0 h3 h4 h5 hH hx _ 0 0 (by omega) (by omega) rfl (Nat.lt_succ_self _)
  rw [g_sk_0] at h
  exact h
/-- what remember does: the ring's place p, the Held 1 + p -/
def g_remF (V : g_V) : Nat := if V 0 8 = 14 then (V 0 7 + 1) % 14 else V 0 7
def g_remA (V : g_V) : Nat := if V 0 8 = 14 then 13 else V 0 8
def g_remP (V : g_V) : Nat := (g_remF V + g_remA V) % 14
def g_rem (V V' : g_V) : Prop := (V' 0 7 = g_remF V ∧ V' 0 8 = g_remA V + 1 ∧ ∀ k, k ≠ 7 → k ≠ 8 → V' 0 k = V 0 k) ∧ g_hq V' (1 + g_remP V) V 0 ∧ ∀ c, c ≠ 0 → (c < hB (1 + g_remP V) ∨ hB (1 + g_remP V) + 11 ≤ c) → V' c = V c
theorem g_hq_up {V V1 V2 : g_V} {a b : Nat} (hv : ∀ c, c ≠ 0 → V1 c = V c) (h : g_hq V2 a V1 b) : g_hq V2 a V b := by
  have e : ∀ r, V1 (hB b + r) = V (hB b + r) := fun r => hv _ (by unfold hB; omega)
  obtain ⟨h1, h2, h3, h4⟩ := h
  have e0 : V1 (hB b) = V (hB b) := e 0
  exact ⟨fun r k a b c d => by rw [← e]; exact h1 r k a b c d, by rw [← e0]; exact h2, by rw [← e0]; exact h3, by rw [← e0]; exact h4⟩
theorem g_rem_of {V V1 V2 : g_V} {F A P : Nat} (h : (¬ V 0 8 = 14 ∧ V1 = V ∧ (F = V 0 7 ∧ A = V 0 8)) ∨ (V 0 8 = 14 ∧ V1 = g_up (g_up V 0 7 ((V 0 7 + 1) % 14)) 0 8 (14 - 1) ∧ (F = (V 0 7 + 1) % 14 ∧ A = 13))) (hP : P = (F + A) % 14)
    (hq : g_hq V2 (1 + P) V1 0) (ho : g_off V1 V2 (1 + P)) : g_rem V (g_up V2 0 8 (A + 1)) := by
  have hz : V2 0 = V1 0 := ho 0 (Or.inl (by unfold hB; omega))
  have hne : hB (1 + P) ≠ 0 := by unfold hB; omega
  have hne2 : ∀ r, hB (1 + P) + r ≠ 0 := fun r => by unfold hB; omega
  have eF : g_remF V = F := by
    unfold g_remF
    rcases h with ⟨a, -, b, -⟩ | ⟨a, -, b, -⟩
    · rw [if_neg a, b]
    · rw [if_pos a, b]
  have eA : g_remA V = A := by
    unfold g_remA
    rcases h with ⟨a, -, -, b⟩ | ⟨a, -, -, b⟩
    · rw [if_neg a, b]
    · rw [if_pos a, b]
  have eP : g_remP V = P := by unfold g_remP; rw [eF, eA, hP]
  have hv : ∀ c, c ≠ 0 → V1 c = V c := fun c hc => by
    rcases h with ⟨-, e, -⟩ | ⟨-, e, -⟩
    · rw [e]
    · rw [e, g_up_ne hc, g_up_ne hc]
  have h7 : V1 0 7 = F := by
    rcases h with ⟨-, e, b, -⟩ | ⟨-, e, b, -⟩
    · rw [e, b]
    · rw [e, g_upK (by decide), g_upS, b]
  have hk : ∀ k, k ≠ 7 → k ≠ 8 → V1 0 k = V 0 k := fun k k7 k8 => by
    rcases h with ⟨-, e, -⟩ | ⟨-, e, -⟩
    · rw [e]
    · rw [e, g_upK k8, g_upK k7]
  obtain ⟨q1, q2, q3, q4⟩ := g_hq_up hv hq
  refine ⟨⟨?_, ?_, fun k k7 k8 => ?_⟩, ?_, fun c hc hh => ?_⟩
  · rw [g_upK (by decide), hz, h7, eF]
  · rw [g_upS, eA]
  · rw [g_upK k8, hz]; exact hk k k7 k8
  · rw [eP]
    exact ⟨fun r k a b c d => by rw [g_upN (hne2 r)]; exact q1 r k a b c d, by rw [g_upN hne]; exact q2, by rw [g_upN hne]; exact q3, by rw [g_upN hne]; exact q4⟩
  · rw [eP] at hh
    rw [g_up_ne hc, ho c hh, hv c hc]
set_option maxRecDepth 4000 in
theorem c_D_remember {G : g_G} (l : Launch) (V : g_V) (S : g_L) (hF : V 0 7 < 14) (hA : V 0 8 ≤ 14) : g_C G l y_D_remember b_D_remember 1 none 3 [.ref (g_a G (0))] V S (fun r V' S' => r = none ∧ g_rem V V' ∧ S' = S) := by
  refine g_C.of (lv := [some (.ref (g_a G (0)))]) (by decide +kernel) rfl rfl rfl (Nat.le_of_ble_eq_true rfl) ?_
  refine j_aload_n (i := 0) d_D_remember_0 rfl lg0 ?_
  refine gf_D_72 d_D_remember_1 ?_
  refine j_bipushN (k := 14) d_D_remember_4 (by decide) ?_
  refine j_icmp_neN (tgt := 28) d_D_remember_6 (by decide) (by omega) (by omega) (fun h_6 => ?_) (fun h_6 => ?_)
  ·
    refine j_aload_n (i := 0) d_D_remember_28 rfl lg0 ?_
    refine gf_D_33 d_D_remember_29 ?_
    refine j_aload_n (i := 0) d_D_remember_32 rfl lg0 ?_
    refine j_aload_n (i := 0) d_D_remember_33 rfl lg0 ?_
    refine gf_D_72 d_D_remember_34 ?_
    refine cl_D_154 (c_D_actRow l V S (by first | omega | (rw [g_upK (by decide), g_upS]; omega)) (V 0 8) (by omega)) d_D_remember_37 rfl rfl (g_ftM (by decide)) (Nat.le_of_ble_eq_true rfl) (g_pu ?_)
    have hP := Nat.mod_lt (V 0 7 + V 0 8) (show 0 < 14 by decide)
    obtain ⟨P, eP⟩ : ∃ P, P = (V 0 7 + V 0 8) % 14 := ⟨_, rfl⟩
    rw [← eP]
    rw [← eP] at hP
    have hA8 : V 0 8 = V 0 8 := rfl
    refine j_aald6 d_D_remember_40 (by omega) ?_
    refine j_aload_n (i := 0) d_D_remember_41 rfl lg0 ?_
    refine gf_D_29 d_D_remember_42 ?_
    refine cl_D_157 (j := (1 + (P))) (by omega) (c_H_takeOver l V S ((1 + (P))) 0 (by omega) (by decide) (by omega)) d_D_remember_45 rfl rfl (g_ftM (by decide)) (Nat.le_of_ble_eq_true rfl) ?_
    rintro _ V2 S2 ⟨rfl, hq, ho, hs⟩
    rw [hs]
    have hz : V2 0 8 = V 0 8 := (congrFun (ho 0 (Or.inl (by unfold hB; omega))) 8).trans hA8
    refine j_aload_n (i := 0) d_D_remember_48 rfl lg0 ?_
    refine j_dup d_D_remember_49 rfl ?_
    refine gf_D_72 d_D_remember_50 ?_
    rw [hz]
    refine j_iconstN (k := 1) d_D_remember_53 (by decide) ?_
    refine j_iaddN d_D_remember_54 ?_
    refine pf_D_72 d_D_remember_55 ?_
    refine j_vret d_D_remember_58 ⟨rfl, g_rem_of (Or.inl ⟨h_6, rfl, rfl, rfl⟩) eP hq ho, rfl⟩
  ·
    have hF2 : (V 0 7 + 1) % 14 < 14 := Nat.mod_lt _ (by decide)
    refine j_aload_n (i := 0) d_D_remember_9 rfl lg0 ?_
    refine j_aload_n (i := 0) d_D_remember_10 rfl lg0 ?_
    refine j_iconstN (k := 1) d_D_remember_11 (by decide) ?_
    refine cl_D_154 (c_D_actRow l V S (by first | omega | (rw [g_upK (by decide), g_upS]; omega)) (1) (by omega)) d_D_remember_12 rfl rfl (g_ftM (by decide)) (Nat.le_of_ble_eq_true rfl) (g_pu ?_)
    refine pf_D_224 d_D_remember_15 ?_
    refine j_aload_n (i := 0) d_D_remember_18 rfl lg0 ?_
    refine j_dup d_D_remember_19 rfl ?_
    refine gf_D_72 d_D_remember_20 ?_
    refine j_eqv (b := V 0 8) (by rw [g_upK (by decide)]) ?_
    refine j_iconstN (k := 1) d_D_remember_23 (by decide) ?_
    refine j_isubN d_D_remember_24 (by omega) ?_
    refine pf_D_72 d_D_remember_25 ?_
    refine j_aload_n (i := 0) d_D_remember_28 rfl lg0 ?_
    refine gf_D_33 d_D_remember_29 ?_
    refine j_aload_n (i := 0) d_D_remember_32 rfl lg0 ?_
    refine j_aload_n (i := 0) d_D_remember_33 rfl lg0 ?_
    refine gf_D_72 d_D_remember_34 ?_
    refine j_eqv (b := (V 0 8) - 1) (by rw [g_upS]) ?_
    refine cl_D_154 (c_D_actRow l (g_up (g_up V 0 7 ((V 0 7 + (1)) % 14)) 0 8 ((V 0 8) - 1)) S (by first | omega | (rw [g_upK (by decide), g_upS]; omega)) ((V 0 8) - 1) (by omega)) d_D_remember_37 rfl rfl (g_ftM (by decide)) (Nat.le_of_ble_eq_true rfl) (g_pu ?_)
    rw [show (g_up (g_up V 0 7 ((V 0 7 + (1)) % 14)) 0 8 ((V 0 8) - 1)) 0 7 = (V 0 7 + 1) % 14 by rw [g_upK (by decide), g_upS]]
    obtain ⟨P, eP⟩ : ∃ P, P = ((V 0 7 + 1) % 14 + (V 0 8 - 1)) % 14 := ⟨_, rfl⟩
    have hP : P < 14 := by rw [eP]; exact Nat.mod_lt _ (by decide)
    rw [← eP]
    have hA8 : (g_up (g_up V 0 7 ((V 0 7 + (1)) % 14)) 0 8 ((V 0 8) - 1)) 0 8 = V 0 8 - 1 := by rw [g_upS]
    refine j_aald6 d_D_remember_40 (by omega) ?_
    refine j_aload_n (i := 0) d_D_remember_41 rfl lg0 ?_
    refine gf_D_29 d_D_remember_42 ?_
    refine cl_D_157 (j := (1 + (P))) (by omega) (c_H_takeOver l (g_up (g_up V 0 7 ((V 0 7 + (1)) % 14)) 0 8 ((V 0 8) - 1)) S ((1 + (P))) 0 (by omega) (by decide) (by omega)) d_D_remember_45 rfl rfl (g_ftM (by decide)) (Nat.le_of_ble_eq_true rfl) ?_
    rintro _ V2 S2 ⟨rfl, hq, ho, hs⟩
    rw [hs]
    have hz : V2 0 8 = V 0 8 - 1 := (congrFun (ho 0 (Or.inl (by unfold hB; omega))) 8).trans hA8
    refine j_aload_n (i := 0) d_D_remember_48 rfl lg0 ?_
    refine j_dup d_D_remember_49 rfl ?_
    refine gf_D_72 d_D_remember_50 ?_
    rw [hz]
    refine j_iconstN (k := 1) d_D_remember_53 (by decide) ?_
    refine j_iaddN d_D_remember_54 ?_
    refine pf_D_72 d_D_remember_55 ?_
    refine j_vret d_D_remember_58 ⟨rfl, g_rem_of (F := (V 0 7 + 1) % 14) (A := V 0 8 - 1) (Or.inr ⟨h_6, by rw [h_6], rfl, by rw [h_6]⟩) eP hq ho, rfl⟩
