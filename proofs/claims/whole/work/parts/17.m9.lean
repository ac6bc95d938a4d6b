/-! The class: placing, shares, fractions. -/
/-- b comes ahead of i: by loss, clay, bits -/
abbrev q_le (lw cf : Nat → Nat) (b i : Nat) : Prop := q_bet lw cf b i ∨ (lw b = lw i ∧ cf b = cf i ∧ b ≤ i)
theorem q_best_ok {lw cf : Nat → Nat} {c : Nat} : ∀ {k b : Nat}, q_best lw cf c k = some b → cf b ≤ c
  | 0, _, h => by cases h
  | k + 1, b, h => by
    by_cases hc : cf k ≤ c
    · cases e : q_best lw cf c k with
      | none => rw [q_best_n hc e] at h; cases h; exact hc
      | some b2 =>
        by_cases hb : q_bet lw cf k b2
        · rw [q_best_t hc e hb] at h; cases h; exact hc
        · rw [q_best_f e hb] at h; cases h; exact q_best_ok e
    · rw [q_best_no hc] at h; exact q_best_ok h
theorem q_best_min {lw cf : Nat → Nat} {c : Nat} : ∀ {k i : Nat}, i < k → cf i ≤ c → ∃ b, q_best lw cf c k = some b ∧ q_le lw cf b i
  | 0, _, h, _ => by omega
  | k + 1, i, h, hi => by
    by_cases hik : i = k
    · subst hik
      cases e : q_best lw cf c i with
      | none => exact ⟨i, q_best_n hi e, by unfold q_le q_bet; omega⟩
      | some b2 =>
        by_cases hb : q_bet lw cf i b2
        · exact ⟨i, q_best_t hi e hb, by unfold q_le q_bet; omega⟩
        · have := q_best_lt e
          exact ⟨b2, q_best_f e hb, by unfold q_bet at hb; unfold q_le q_bet; omega⟩
    · obtain ⟨b, e, hb⟩ := q_best_min (k := k) (i := i) (by omega) hi
      have hbk := q_best_lt e
      by_cases hc : cf k ≤ c
      · by_cases hbk2 : q_bet lw cf k b
        · exact ⟨k, q_best_t hc e hbk2, by unfold q_bet at hbk2; unfold q_le q_bet at hb; unfold q_le q_bet; omega⟩
        · exact ⟨b, q_best_f e hbk2, hb⟩
      · exact ⟨b, by rw [q_best_no hc]; exact e, hb⟩
theorem q_best_ext {lw lw' cf cf' : Nat → Nat} {c : Nat} : ∀ {k : Nat}, (∀ i, i < k → lw i = lw' i ∧ cf i = cf' i) → q_best lw cf c k = q_best lw' cf' c k
  | 0, _ => rfl
  | k + 1, h => by
    have e := q_best_ext (c := c) (fun i hi => h i (Nat.lt_succ_of_lt hi))
    have hk := h k (Nat.lt_succ_self k)
    by_cases hc : cf k ≤ c
    · have hc' : cf' k ≤ c := by rw [← hk.2]; exact hc
      cases e1 : q_best lw cf c k with
      | none => rw [q_best_n hc e1, q_best_n hc' (e ▸ e1)]
      | some b =>
        have hb := h b (by have := q_best_lt e1; omega)
        by_cases q : q_bet lw cf k b
        · rw [q_best_t hc e1 q, q_best_t hc' (e ▸ e1) (by unfold q_bet at q ⊢; omega)]
        · rw [q_best_f e1 q, q_best_f (e ▸ e1) (by unfold q_bet at q ⊢; omega)]
    · rw [q_best_no hc, q_best_no (by rw [← hk.2]; exact hc), e]
theorem g_nlt {x y : Int32} (h : ¬ y < x) : x ≤ y := by
  rw [Int32.lt_iff_toInt_lt] at h
  rw [Int32.le_iff_toInt_le]
  omega
def D_best (V : g_V) (x c : Nat) : Nat := (q_best (D_lw V) (D_cf V x) c (1 <<< V 0 1)).getD (1 <<< V 0 1 - 1)
theorem D_best_lt {V : g_V} (hn : V 0 1 ≤ 6) {x c : Nat} : D_best V x c < 1 <<< V 0 1 := by
  have hE := g_E64 hn
  unfold D_best
  cases e : q_best (D_lw V) (D_cf V x) c (1 <<< V 0 1) with
  | none => rw [Option.getD_none]; omega
  | some b => rw [Option.getD_some]; exact q_best_lt e
theorem D_best_of {V W : g_V} {x c : Nat} (h1 : W 0 1 = V 0 1) (h : ∀ i, i < 1 <<< V 0 1 → W 11 i = D_lw V i ∧ W 12 i = D_cf V x i) : (q_best (W 11) (W 12) c (1 <<< W 0 1)).getD (1 <<< W 0 1 - 1) = D_best V x c := by
  rw [h1]
  unfold D_best
  rw [q_best_ext h]
theorem D_lw_le {V : g_V} (hn : V 0 1 ≤ 6) (hK : g_K V) (i : Nat) : D_lw V i ≤ 54 := by
  have h1 : D_lw V i ≤ V 0 1 * 9 := q_pick_le hn (fun i hi => (hK i hi).2.1)
  have : V 0 1 * 9 ≤ 6 * 9 := Nat.mul_le_mul_right 9 hn
  omega
theorem D_cf_le {V : g_V} {x : Nat} (hn : V 0 1 ≤ 6) (hx : x ≤ 20) (i : Nat) : D_cf V x i ≤ 1000000 := by
  unfold D_cf
  split
  · have h1 : q_lack (V 0 1) (D_str V) i x ≤ V 0 1 * 20 := q_sum_le (fun j hj => by
      show (if _ then _ else _) ≤ 20
      split
      · exact Nat.le_trans (Nat.sub_le _ _) hx
      · exact Nat.zero_le _)
    have : V 0 1 * 20 ≤ 6 * 20 := Nat.mul_le_mul_right 20 hn
    omega
  · exact Nat.le_refl _
theorem q_or_tb {f : Nat → Nat} {k : Nat} : ∀ {n : Nat}, (q_or n f).testBit k = true ↔ ∃ i, i < n ∧ (f i).testBit k = true
  | 0 => by simp [q_or]
  | n + 1 => by
    show (q_or n f ||| f n).testBit k = true ↔ _
    rw [Nat.testBit_or, Bool.or_eq_true, q_or_tb]
    constructor
    · rintro (⟨i, h1, h2⟩ | h)
      · exact ⟨i, by omega, h2⟩
      · exact ⟨n, by omega, h⟩
    · rintro ⟨i, h1, h2⟩
      by_cases e : i = n
      · subst e; exact Or.inr h2
      · exact Or.inl ⟨i, by omega, h2⟩
theorem q_bit_tb {i k : Nat} : (1 <<< i).testBit k = true ↔ i = k := by
  rw [Nat.one_shiftLeft, Nat.testBit_two_pow]; simp
theorem q_brk_tb {n x k : Nat} {s : Nat → Nat} : (q_brk n s x).testBit k = true ↔ k < n ∧ s k < x := by
  unfold q_brk
  rw [q_or_tb]
  constructor
  · rintro ⟨i, h1, h2⟩
    by_cases hs : s i < x
    · rw [if_pos hs, q_bit_tb] at h2
      subst h2
      exact ⟨h1, hs⟩
    · rw [if_neg hs] at h2; simp at h2
  · rintro ⟨h1, h2⟩
    exact ⟨k, h1, by rw [if_pos h2, q_bit_tb]⟩
theorem D_as_tb {V : g_V} {x k : Nat} (hn : V 0 1 ≤ 6) : (D_as V x).testBit k = true ↔ k < V 0 1 ∧ x ≤ D_str V k := by
  unfold D_as
  rw [Nat.testBit_and, Bool.and_eq_true, Nat.testBit_xor, Nat.one_shiftLeft, Nat.testBit_two_pow_sub_one]
  have h63 : (63 : Nat).testBit k = decide (k < 6) := Nat.testBit_two_pow_sub_one 6 k
  rw [h63]
  constructor
  · rintro ⟨h1, h2⟩
    have hk : k < V 0 1 := by simpa using h1
    refine ⟨hk, Nat.not_lt.mp fun q => ?_⟩
    rw [q_brk_tb.mpr ⟨hk, q⟩] at h2
    simp [show k < 6 by omega] at h2
  · rintro ⟨h1, h2⟩
    refine ⟨by simpa using h1, ?_⟩
    have : (q_brk (V 0 1) (D_str V) x).testBit k = false := by
      cases e : (q_brk (V 0 1) (D_str V) x).testBit k with
      | false => rfl
      | true => have := (q_brk_tb.mp e).2; omega
    rw [this]
    simp [show k < 6 by omega]
theorem q_sum_0 : ∀ {n : Nat} {f : Nat → Nat}, (∀ i, i < n → f i = 0) → q_sum n f = 0
  | 0, _, _ => rfl
  | n + 1, f, h => by
    show q_sum n f + f n = 0
    rw [q_sum_0 (fun i hi => h i (Nat.lt_succ_of_lt hi)), h n (Nat.lt_succ_self n)]
theorem D_cf_as {V : g_V} {x : Nat} (hn : V 0 1 ≤ 6) : D_cf V x (D_as V x) = 0 := by
  unfold D_cf
  rw [if_pos (Nat.and_self _)]
  exact q_sum_0 (fun i hi => by
    show (if _ then _ else _) = 0
    split
    · rename_i h
      exact Nat.sub_eq_zero_of_le ((D_as_tb hn).mp h).2
    · rfl)
theorem D_as_lt {V : g_V} {x : Nat} (hn : V 0 1 ≤ 6) : D_as V x < 1 <<< V 0 1 := by
  have := g_E64 hn
  exact Nat.lt_of_le_of_lt Nat.and_le_left (by omega)
/-- what D_best is: feasible, and ahead of each feasible set -/
theorem D_best_spec {V : g_V} (hn : V 0 1 ≤ 6) (x c : Nat) : D_best V x c < 1 <<< V 0 1 ∧ D_cf V x (D_best V x c) ≤ c ∧ ∀ i, i < 1 <<< V 0 1 → D_cf V x i ≤ c → q_le (D_lw V) (D_cf V x) (D_best V x c) i := by
  obtain ⟨b, e, -⟩ := q_best_min (lw := D_lw V) (cf := D_cf V x) (c := c) (D_as_lt hn (x := x)) (by rw [D_cf_as hn]; exact Nat.zero_le _)
  have eb : D_best V x c = b := by unfold D_best; rw [e, Option.getD_some]
  rw [eb]
  refine ⟨q_best_lt e, q_best_ok e, fun i hi hc => ?_⟩
  obtain ⟨b2, e2, h2⟩ := q_best_min (lw := D_lw V) (cf := D_cf V x) (c := c) hi hc
  rw [e] at e2
  cases e2
  exact h2
theorem D_best_mono {V : g_V} (hn : V 0 1 ≤ 6) {x c c' : Nat} (h : c ≤ c') : D_lw V (D_best V x c') ≤ D_lw V (D_best V x c) := by
  obtain ⟨h1, h2, -⟩ := D_best_spec hn x c
  have h3 := (D_best_spec hn x c').2.2 _ h1 (Nat.le_trans h2 h)
  unfold q_le q_bet at h3
  omega
set_option maxRecDepth 4000 in
theorem c_D_placing {G : g_G} (l : Launch) (V : g_V) (S : g_L) (hO : g_OK V) (n x0 w0 : Int32) : g_C G l y_D_placing b_D_placing 5 (some .int) 4 [.ref (g_a G (0)), .int (n), .int (x0), .int (w0)] V S (fun r V' S' => S' = S ∧ r = some (.int (if q_in n 61 ∧ q_in x0 21 ∧ q_in w0 2 then (if w0 = 0 then nI (D_lw V (D_best V (q_n x0) (q_n n))) else nI (D_best V (q_n x0) (q_n n))) else -2)) ∧ ∀ k, k ≠ 11 → k ≠ 12 → V' k = V k) := by
  refine g_C.of (lv := [some (.ref (g_a G (0))), some (.int (n)), some (.int (x0)), some (.int (w0)), none]) (by decide +kernel) rfl rfl rfl (Nat.le_of_ble_eq_true rfl) ?_
  have hn := hO.1.1
  have hK := hO.1.2.1
  have hT := hO.1.2.2
  have hH := (hO.2.2 0 (by decide)).1
  have hW := (hO.2.2 0 (by decide)).2.1
  have hsp := (hO.2.2 0 (by decide)).2.2.1
  have hdm := (hO.2.2 0 (by decide)).2.2.2.1
  have htd := (hO.2.2 0 (by decide)).2.2.2.2
  have hF := hO.2.1.1
  have hA := hO.2.1.2.1
  have hkp := hO.2.1.2.2
  refine j_iload_n (i := 1) d_D_placing_0 rfl lg1 ?_
  refine j_if_lt (tgt := 26) d_D_placing_1 (by decide) (fun h_1 => ?_) (fun h_1 => ?_)
  ·
    refine j_bipush (v := -2) d_D_placing_26 (by decide) ?_
    refine j_iret d_D_placing_28 (⟨rfl, by rw [if_neg (fun q => by first | exact h_14 q.2.1 | (rw [Int32.lt_iff_toInt_lt, Int32.toInt_zero] at h_1; have := q.1.1; omega) | (rw [Int32.le_iff_toInt_le, nI_toInt (by decide)] at h_7; have := q.1.2; omega) | (rw [Int32.lt_iff_toInt_lt, nI_toInt (by decide)] at h_7; have := q.1.2; omega) | (rw [Int32.lt_iff_toInt_lt, Int32.toInt_zero] at h_18; have := q.2.2.1; omega) | (rw [Int32.le_iff_toInt_le, nI_toInt (by decide)] at h_23; have := q.2.2.2; omega))], fun k _ _ => rfl⟩)
  ·
    refine j_iload_n (i := 1) d_D_placing_4 rfl lg1 ?_
    refine j_bipushN (k := 60) d_D_placing_5 (by decide) ?_
    refine j_icmp_gt (tgt := 26) d_D_placing_7 (by decide) (fun h_7 => ?_) (fun h_7 => ?_)
    ·
      refine j_bipush (v := -2) d_D_placing_26 (by decide) ?_
      refine j_iret d_D_placing_28 (⟨rfl, by rw [if_neg (fun q => by first | exact h_14 q.2.1 | (rw [Int32.lt_iff_toInt_lt, Int32.toInt_zero] at h_1; have := q.1.1; omega) | (rw [Int32.le_iff_toInt_le, nI_toInt (by decide)] at h_7; have := q.1.2; omega) | (rw [Int32.lt_iff_toInt_lt, nI_toInt (by decide)] at h_7; have := q.1.2; omega) | (rw [Int32.lt_iff_toInt_lt, Int32.toInt_zero] at h_18; have := q.2.2.1; omega) | (rw [Int32.le_iff_toInt_le, nI_toInt (by decide)] at h_23; have := q.2.2.2; omega))], fun k _ _ => rfl⟩)
    ·
      refine j_iload_n (i := 2) d_D_placing_10 rfl lg2 ?_
      refine cl_D_134 (c_D_isStorm l V S (x0)) d_D_placing_11 rfl rfl (g_ftM (by decide)) (Nat.le_of_ble_eq_true rfl) (g_pu ?_)
      refine j_if_eqB (tgt := 26) d_D_placing_14 (by decide) (fun h_14 => ?_) (fun h_14 => ?_)
      ·
        refine j_bipush (v := -2) d_D_placing_26 (by decide) ?_
        refine j_iret d_D_placing_28 (⟨rfl, by rw [if_neg (fun q => by first | exact h_14 q.2.1 | (rw [Int32.lt_iff_toInt_lt, Int32.toInt_zero] at h_1; have := q.1.1; omega) | (rw [Int32.le_iff_toInt_le, nI_toInt (by decide)] at h_7; have := q.1.2; omega) | (rw [Int32.lt_iff_toInt_lt, nI_toInt (by decide)] at h_7; have := q.1.2; omega) | (rw [Int32.lt_iff_toInt_lt, Int32.toInt_zero] at h_18; have := q.2.2.1; omega) | (rw [Int32.le_iff_toInt_le, nI_toInt (by decide)] at h_23; have := q.2.2.2; omega))], fun k _ _ => rfl⟩)
      ·
        refine j_iload_n (i := 3) d_D_placing_17 rfl lg3 ?_
        refine j_if_lt (tgt := 26) d_D_placing_18 (by decide) (fun h_18 => ?_) (fun h_18 => ?_)
        ·
          refine j_bipush (v := -2) d_D_placing_26 (by decide) ?_
          refine j_iret d_D_placing_28 (⟨rfl, by rw [if_neg (fun q => by first | exact h_14 q.2.1 | (rw [Int32.lt_iff_toInt_lt, Int32.toInt_zero] at h_1; have := q.1.1; omega) | (rw [Int32.le_iff_toInt_le, nI_toInt (by decide)] at h_7; have := q.1.2; omega) | (rw [Int32.lt_iff_toInt_lt, nI_toInt (by decide)] at h_7; have := q.1.2; omega) | (rw [Int32.lt_iff_toInt_lt, Int32.toInt_zero] at h_18; have := q.2.2.1; omega) | (rw [Int32.le_iff_toInt_le, nI_toInt (by decide)] at h_23; have := q.2.2.2; omega))], fun k _ _ => rfl⟩)
        ·
          refine j_iload_n (i := 3) d_D_placing_21 rfl lg3 ?_
          refine j_iconstN (k := 1) d_D_placing_22 (by decide) ?_
          refine j_icmp_le (tgt := 29) d_D_placing_23 (by decide) (fun h_23 => ?_) (fun h_23 => ?_)
          ·
            have hnn := q_in_lo (by decide) h_1 (g_nlt h_7)
            have hw2 := q_in_lo (by decide) h_18 h_23
            obtain ⟨c, hc, rfl⟩ := q_in_of hnn (by decide)
            obtain ⟨x, hx, rfl⟩ := q_in_of h_14 (by decide)
            have hx20 : x ≤ 20 := by omega
            rw [if_pos ⟨hnn, h_14, hw2⟩, q_n_nI (by omega), q_n_nI (by omega)]
            obtain ⟨w, hww, rfl⟩ := q_in_of hw2 (by decide)
            have hB64 := D_best_lt hn (x := x) (c := c)
            have hE := g_E64 hn
            have vr0 : (g_rs V x (1 <<< V 0 1)) 0 = V 0 := g_rs_N (by decide) (by decide)
            have vr1 : (g_rs V x (1 <<< V 0 1)) 0 1 = V 0 1 := by rw [vr0]
            have vrn : (g_rs V x (1 <<< V 0 1)) 0 1 ≤ 6 := by rw [vr1]; exact hn
            have vr3 : (g_rs V x (1 <<< V 0 1)) 3 = V 3 := g_rs_N (by decide) (by decide)
            have vr4 : (g_rs V x (1 <<< V 0 1)) 4 = V 4 := g_rs_N (by decide) (by decide)
            have vr5 : (g_rs V x (1 <<< V 0 1)) 5 = V 5 := g_rs_N (by decide) (by decide)
            have vrh : (g_rs V x (1 <<< V 0 1)) (hB 0 + 1) = V (hB 0 + 1) := g_rs_N (by decide) (by decide)
            have vrc : (g_rs V x (1 <<< V 0 1)) (hB 0 + 2) = V (hB 0 + 2) := g_rs_N (by decide) (by decide)
            have vre : (g_rs V x (1 <<< V 0 1)) (hB 0) = V (hB 0) := g_rs_N (by decide) (by decide)
            have vrs : D_str (g_rs V x (1 <<< V 0 1)) = D_str V := D_str_eq vr3 vr5 vrh
            have vrd : (g_rs V x (1 <<< V 0 1)) (hB 0) 5 = V (hB 0) 5 := by rw [vre]
            have vrD : (g_rs V x (1 <<< V 0 1)) (hB 0) 5 < 64 := by rw [vrd]; exact hdm
            have vrK : g_K (g_rs V x (1 <<< V 0 1)) := by unfold g_K; rw [vr3, vr4, vr5]; exact hK
            have vrH : g_H (g_rs V x (1 <<< V 0 1)) (hB 0 + 1) := by unfold g_H; rw [vrh]; exact hH
            have vrb : ∀ k9, k9 < 1 <<< V 0 1 → (g_rs V x (1 <<< V 0 1)) 11 k9 = D_lw V k9 ∧ (g_rs V x (1 <<< V 0 1)) 12 k9 = D_cf V x k9 := fun k9 hi => ⟨g_rs_11 hi, g_rs_12 hi⟩
            have vr11 : ∀ k9, k9 < 1 <<< (g_rs V x (1 <<< V 0 1)) 0 1 → (g_rs V x (1 <<< V 0 1)) 11 k9 < 2 ^ 31 := fun k9 hi => by
              rw [vr1] at hi; rw [(vrb k9 hi).1]; have := D_lw_le hn hK k9; omega
            have vr12 : ∀ k9, k9 < 1 <<< (g_rs V x (1 <<< V 0 1)) 0 1 → (g_rs V x (1 <<< V 0 1)) 12 k9 < 2 ^ 31 := fun k9 hi => by
              rw [vr1] at hi; rw [(vrb k9 hi).2]; have := D_cf_le hn hx20 k9 (x := x); omega
            refine j_aload_n (i := 0) d_D_placing_29 rfl lg0 ?_
            refine j_iload_n (i := 2) d_D_placing_30 rfl lg2 ?_
            refine cl_D_167 (c_D_reckonSets l V S hO (x) (by omega)) d_D_placing_31 rfl rfl (g_ftM (by decide)) (Nat.le_of_ble_eq_true rfl) (g_pw ?_)
            refine j_aload_n (i := 0) d_D_placing_34 rfl lg0 ?_
            refine j_iload_n (i := 1) d_D_placing_35 rfl lg1 ?_
            refine cl_D_170 (c_D_bestSet l (g_rs V x (1 <<< V 0 1)) S vrn (c) (by omega) vr11 vr12) d_D_placing_36 rfl rfl (g_ftM (by decide)) (Nat.le_of_ble_eq_true rfl) (g_pu ?_)
            rw [D_best_of vr1 vrb]
            refine j_istore d_D_placing_39 ls4i ?_
            refine j_iload_n (i := 3) d_D_placing_41 rfl lg3 ?_
            refine j_if_neN (tgt := 55) d_D_placing_42 (by decide) (by omega) (fun h_42 => ?_) (fun h_42 => ?_)
            ·
              refine j_iload d_D_placing_55 lg4 ?_
              refine j_iret d_D_placing_57 ⟨rfl, by rw [if_neg (fun q => h_42 ((nI_eq (by omega) (by decide)).mp (q.trans nI_0.symm)))], fun k h1 h2 => g_rs_N h1 h2⟩
            ·
              refine j_aload_n (i := 0) d_D_placing_45 rfl lg0 ?_
              refine gf_D_49 d_D_placing_46 ?_
              refine j_iload d_D_placing_49 lg4 ?_
              refine j_iald d_D_placing_51 gI_11 (by omega) ?_
              refine j_goto (tgt := 57) d_D_placing_52 (by decide) ?_
              refine j_iret d_D_placing_57 ⟨rfl, by rw [if_pos (by rw [h_42]; rfl), g_rs_11 hB64], fun k h1 h2 => g_rs_N h1 h2⟩
          ·
            refine j_bipush (v := -2) d_D_placing_26 (by decide) ?_
            refine j_iret d_D_placing_28 (⟨rfl, by rw [if_neg (fun q => by first | exact h_14 q.2.1 | (rw [Int32.lt_iff_toInt_lt, Int32.toInt_zero] at h_1; have := q.1.1; omega) | (rw [Int32.le_iff_toInt_le, nI_toInt (by decide)] at h_7; have := q.1.2; omega) | (rw [Int32.lt_iff_toInt_lt, nI_toInt (by decide)] at h_7; have := q.1.2; omega) | (rw [Int32.lt_iff_toInt_lt, Int32.toInt_zero] at h_18; have := q.2.2.1; omega) | (rw [Int32.le_iff_toInt_le, nI_toInt (by decide)] at h_23; have := q.2.2.2; omega))], fun k _ _ => rfl⟩)
theorem g_gcd {a b : Nat} (hb : 0 < b) : Nat.gcd a b = Nat.gcd b (a % b) := by
  rw [Nat.gcd_comm a b, Nat.gcd_rec b a, Nat.gcd_comm]
theorem g_eu {l s i B : Nat} (hs : 0 < s) (hi : i = 0 ∨ s < l) (h : l * s * 2 ^ i < B) (h0 : i = 0 → l * s * 2 < B) : s * (l % s) * 2 ^ (i + 1) < B := by
  rcases Nat.eq_zero_or_pos i with e | e
  · subst e
    have h1 : l % s ≤ l := Nat.mod_le l s
    have h2 : s * (l % s) ≤ s * l := Nat.mul_le_mul_left s h1
    have h3 := h0 rfl
    rw [Nat.mul_comm l s] at h3
    show s * (l % s) * 2 < B
    omega
  · have hsl : s < l := by omega
    have h1 : 2 * (l % s) ≤ l := by
      have h2 := Nat.mod_lt l hs
      have h3 := Nat.div_add_mod l s
      have h4 : 1 ≤ l / s := (Nat.le_div_iff_mul_le hs).mpr (by omega)
      have h5 : s * 1 ≤ s * (l / s) := Nat.mul_le_mul_left s h4
      omega
    have h2 : s * (2 * (l % s)) ≤ s * l := Nat.mul_le_mul_left s h1
    have h3 : s * (l % s) * 2 ^ (i + 1) = s * (2 * (l % s)) * 2 ^ i := by
      rw [Nat.pow_succ, Nat.mul_comm (2 ^ i) 2, ← Nat.mul_assoc, Nat.mul_assoc s (l % s) 2, Nat.mul_comm (l % s) 2]
    rw [h3]
    refine Nat.lt_of_le_of_lt (Nat.mul_le_mul_right _ h2) ?_
    rw [Nat.mul_comm s l]
    exact h
set_option maxRecDepth 4000 in
theorem lp_D_commonDivisor {G : g_G} (l : Launch) (V : g_V) (S : g_L) (a b : Nat) (ha : a < 2 ^ 31) (hb0 : 0 < b) (hb : b < 2 ^ 31) (hab : a * b < 2 ^ 33) : ∀ (n : Nat) (x y i : Nat), (i ≤ 64) → (x < 2 ^ 31) → (y < 2 ^ 31) → (i = 0 ∨ y < x) → (x * y * 2 ^ i < 2 ^ 34) → (i = 0 → x * y * 2 < 2 ^ 34) → (Nat.gcd a b = Nat.gcd x y) → 64 - i < n → JW G (g_M G l 1 (some .int) (fun r V' S' => r = some (.int (nI (Nat.gcd a b))) ∧ V' = V ∧ S' = S)) b_D_commonDivisor R_D 7 [some (.int (nI (a))), some (.int (nI (b))), some (.int (nI (x))), some (.int (nI (y))), some (.int (nI (i))), none] [] V S := by
  intro n
  induction n with
  | zero => intro x y i hi hx hy hxy hp hp0 he hm; exact absurd hm (Nat.not_lt_zero _)
  | succ n ih =>
    intro x y i hi hx hy hxy hp hp0 he hm
    refine j_iload d_D_commonDivisor_7 lg4 ?_
    refine j_bipushN (k := 64) d_D_commonDivisor_9 (by decide) ?_
    refine j_icmp_geN (tgt := 34) d_D_commonDivisor_11 (by decide) (by omega) (by omega) (fun h_11 => ?_) (fun h_11 => ?_)
    ·
      have hg : Nat.gcd a b = x := by
        have hy0 : y = 0 := by
          rcases Nat.eq_zero_or_pos y with q | q
          · exact q
          · exfalso
            have hi64 : i = 64 := by omega
            subst hi64
            have h1 : 1 ≤ x * y := Nat.mul_pos (by omega) q
            have h2 : 1 * 2 ^ 64 ≤ x * y * 2 ^ 64 := Nat.mul_le_mul_right _ h1
            omega
        rw [he, hy0, Nat.gcd_zero_right]
      refine j_iload_n (i := 2) d_D_commonDivisor_34 rfl lg2 ?_
      refine j_iret d_D_commonDivisor_35 ⟨by rw [hg], rfl, rfl⟩
    ·
      refine j_iload_n (i := 3) d_D_commonDivisor_14 rfl lg3 ?_
      refine j_if_eqN (tgt := 34) d_D_commonDivisor_15 (by decide) (by omega) (fun h_15 => ?_) (fun h_15 => ?_)
      ·
        have hg : Nat.gcd a b = x := by
          have hy0 : y = 0 := by
            rcases Nat.eq_zero_or_pos y with q | q
            · exact q
            · exfalso
              have hi64 : i = 64 := by omega
              subst hi64
              have h1 : 1 ≤ x * y := Nat.mul_pos (by omega) q
              have h2 : 1 * 2 ^ 64 ≤ x * y * 2 ^ 64 := Nat.mul_le_mul_right _ h1
              omega
          rw [he, hy0, Nat.gcd_zero_right]
        refine j_iload_n (i := 2) d_D_commonDivisor_34 rfl lg2 ?_
        refine j_iret d_D_commonDivisor_35 ⟨by rw [hg], rfl, rfl⟩
      ·
        refine j_iload_n (i := 2) d_D_commonDivisor_18 rfl lg2 ?_
        refine j_iload_n (i := 3) d_D_commonDivisor_19 rfl lg3 ?_
        refine j_iremN d_D_commonDivisor_20 (by omega) (by omega) (by omega) ?_
        refine j_istore d_D_commonDivisor_21 ls5i ?_
        refine j_iload_n (i := 3) d_D_commonDivisor_23 rfl lg3 ?_
        refine j_istore_n d_D_commonDivisor_24 rfl ls2i ?_
        refine j_iload d_D_commonDivisor_25 lg5 ?_
        refine j_istore_n d_D_commonDivisor_27 rfl ls3i ?_
        refine j_iincN (k := 1) d_D_commonDivisor_28 lg4 (by decide) ls4i ?_
        refine j_goto (tgt := 7) d_D_commonDivisor_31 (by decide) ?_
        have hy0 : 0 < y := by omega
        have hm := Nat.mod_lt x hy0
        exact j_fg 5 (ih y (x % y) (i + 1) (by omega) (by omega) (by omega) (Or.inr hm) (g_eu hy0 hxy hp hp0) (fun q => by omega) (by rw [he, g_gcd hy0]) (by omega))
set_option maxRecDepth 4000 in
theorem c_D_commonDivisor {G : g_G} (l : Launch) (V : g_V) (S : g_L) (a b : Nat) (ha : a < 2 ^ 31) (hb0 : 0 < b) (hb : b < 2 ^ 31) (hab : a * b < 2 ^ 33) : g_C G l y_D_commonDivisor b_D_commonDivisor 6 (some .int) 1 [.int (nI (a)), .int (nI (b))] V S (fun r V' S' => r = some (.int (nI (Nat.gcd a b))) ∧ V' = V ∧ S' = S) := by
  refine g_C.of (lv := [some (.int (nI (a))), some (.int (nI (b))), none, none, none, none]) (by decide +kernel) rfl rfl rfl (Nat.le_of_ble_eq_true rfl) ?_
  refine j_iload_n (i := 0) d_D_commonDivisor_0 rfl lg0 ?_
  refine j_istore_n d_D_commonDivisor_1 rfl ls2i ?_
  refine j_iload_n (i := 1) d_D_commonDivisor_2 rfl lg1 ?_
  refine j_istore_n d_D_commonDivisor_3 rfl ls3i ?_
  refine j_iconstN (k := 0) d_D_commonDivisor_4 (by decide) ?_
  refine j_istore d_D_commonDivisor_5 ls4i ?_
  exact lp_D_commonDivisor l V S a b ha hb0 hb hab _ a b 0 (by omega) ha hb (Or.inl rfl) (by rw [Nat.pow_zero, Nat.mul_one]; omega) (fun _ => by omega) rfl (Nat.lt_succ_self _)
set_option maxRecDepth 4000 in
theorem c_D_inLeastTerms {G : g_G} (l : Launch) (V : g_V) (S : g_L) (a b : Nat) (ha : a < 2 ^ 31) (hb0 : 0 < b) (hb : b < 2 ^ 31) (hab : a * b < 2 ^ 33) (u : Nat) (hu : u < 2) : g_C G l y_D_inLeastTerms b_D_inLeastTerms 5 (some .int) 2 [.int (nI (a)), .int (nI (b)), .int (nI (u))] V S (fun r V' S' => r = some (.int (nI ((if u = 0 then b else a) / Nat.gcd a b))) ∧ V' = V ∧ S' = S) := by
  refine g_C.of (lv := [some (.int (nI (a))), some (.int (nI (b))), some (.int (nI (u))), none, none]) (by decide +kernel) rfl rfl rfl (Nat.le_of_ble_eq_true rfl) ?_
  have hg0 : 0 < Nat.gcd a b := Nat.gcd_pos_of_pos_right a hb0
  have hg1 : Nat.gcd a b ≤ b := Nat.gcd_le_right a hb0
  refine j_iload_n (i := 0) d_D_inLeastTerms_0 rfl lg0 ?_
  refine j_iload_n (i := 1) d_D_inLeastTerms_1 rfl lg1 ?_
  refine cl_D_245 (c_D_commonDivisor l V S (a) (b) ha hb0 hb hab) d_D_inLeastTerms_2 rfl rfl (g_ftM (by decide)) (Nat.le_of_ble_eq_true rfl) (g_pu ?_)
  refine j_istore_n d_D_inLeastTerms_5 rfl ls3i ?_
  refine j_iload_n (i := 2) d_D_inLeastTerms_6 rfl lg2 ?_
  refine j_if_eqN (tgt := 14) d_D_inLeastTerms_7 (by decide) (by omega) (fun h_7 => ?_) (fun h_7 => ?_)
  ·
    refine j_iload_n (i := 1) d_D_inLeastTerms_14 rfl lg1 ?_
    refine j_istore d_D_inLeastTerms_15 ls4i ?_
    refine j_iload_n (i := 3) d_D_inLeastTerms_17 rfl lg3 ?_
    refine j_if_neN (tgt := 26) d_D_inLeastTerms_18 (by decide) (by omega) (fun h_18 => ?_) (fun h_18 => ?_)
    ·
      refine j_iload d_D_inLeastTerms_26 lg4 ?_
      refine j_iload_n (i := 3) d_D_inLeastTerms_28 rfl lg3 ?_
      refine j_idivN d_D_inLeastTerms_29 (by omega) (by omega) (by omega) ?_
      refine j_iret d_D_inLeastTerms_30 ⟨by rw [if_pos h_7], rfl, rfl⟩
    ·
      exact absurd h_18 (by omega)
  ·
    refine j_iload_n (i := 0) d_D_inLeastTerms_10 rfl lg0 ?_
    refine j_goto (tgt := 15) d_D_inLeastTerms_11 (by decide) ?_
    refine j_istore d_D_inLeastTerms_15 ls4i ?_
    refine j_iload_n (i := 3) d_D_inLeastTerms_17 rfl lg3 ?_
    refine j_if_neN (tgt := 26) d_D_inLeastTerms_18 (by decide) (by omega) (fun h_18 => ?_) (fun h_18 => ?_)
    ·
      refine j_iload d_D_inLeastTerms_26 lg4 ?_
      refine j_iload_n (i := 3) d_D_inLeastTerms_28 rfl lg3 ?_
      refine j_idivN d_D_inLeastTerms_29 (by omega) (by omega) (by omega) ?_
      refine j_iret d_D_inLeastTerms_30 ⟨by rw [if_neg h_7], rfl, rfl⟩
    ·
      exact absurd h_18 (by omega)
