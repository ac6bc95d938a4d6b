/-! The reference: at rest. -/
/-- heights that may be given clay -/
def g_H9 (V : g_V) (c : Nat) : Prop := ∀ i, i < 6 → V c i ≤ 900
theorem M_str_lt9 {V : g_V} {c : Nat} (hK : M_K V) (hH : g_H9 V c) {i : Nat} (hi : i < 6) : M_str V c i < 2000 := q_str_lt (hK i hi).1 (by have := hH i hi; omega)
set_option maxRecDepth 4000 in
theorem lp_M_breaksBy9 {G : g_G} (l : Launch) (V : g_V) (S : g_L) (hn : V 201 4 ≤ 6) (hK : M_K V) (c x : Nat) (hc : g_I c 57) (hH : g_H9 V c) (hx : x ≤ 20) : ∀ (n : Nat) (i b : Nat), (i ≤ V 201 4) → (b = q_brk i (M_str V c) x) → V 201 4 - i < n → JW G (g_M G l 2 (some .int) (fun r V' S' => r = some (.int (nI (q_brk (V 201 4) (M_str V c) x))) ∧ V' = V ∧ S' = S)) b_M_breaksBy R_M 5 [some (.ref (g_a G (201))), some (.ref (g_a G (c))), some (.int (nI (x))), some (.int (nI (b))), some (.int (nI (i)))] [] V S := by
  intro n
  induction n with
  | zero => intro i b hi hb hm; exact absurd hm (Nat.not_lt_zero _)
  | succ n ih =>
    intro i b hi hb hm
    refine j_iload d_M_breaksBy_5 lg4 ?_
    refine j_aload_n (i := 0) d_M_breaksBy_7 rfl lg0 ?_
    refine gf_M_51 d_M_breaksBy_8 ?_
    refine j_icmp_geN (tgt := 42) d_M_breaksBy_11 (by decide) (by omega) (by omega) (fun h_11 => ?_) (fun h_11 => ?_)
    ·
      refine j_iload_n (i := 3) d_M_breaksBy_42 rfl lg3 ?_
      refine j_iret d_M_breaksBy_43 ⟨by rw [hb, show i = V 201 4 by omega], rfl, rfl⟩
    ·
      have hs := M_str_lt9 hK hH (i := i) (by omega)
      refine j_iload_n (i := 3) d_M_breaksBy_14 rfl lg3 ?_
      refine j_iload_n (i := 2) d_M_breaksBy_15 rfl lg2 ?_
      refine j_aload_n (i := 0) d_M_breaksBy_16 rfl lg0 ?_
      refine j_aload_n (i := 1) d_M_breaksBy_17 rfl lg1 ?_
      refine j_iload d_M_breaksBy_18 lg4 ?_
      refine cl_M_101 (c_M_strength l V S (c) (i) hc (by omega) hK) d_M_breaksBy_20 rfl rfl (g_ftM (by decide)) (Nat.le_of_ble_eq_true rfl) (g_pu ?_)
      refine j_icmp_leN (tgt := 33) d_M_breaksBy_23 (by decide) (by omega) (by omega) (fun h_23 => ?_) (fun h_23 => ?_)
      ·
        refine j_iconstN (k := 0) d_M_breaksBy_33 (by decide) ?_
        refine j_iorN d_M_breaksBy_34 ?_
        refine j_istore_n d_M_breaksBy_35 rfl ls3i ?_
        refine j_iincN (k := 1) d_M_breaksBy_36 lg4 (by decide) ls4i ?_
        refine j_goto (tgt := 5) d_M_breaksBy_39 (by decide) ?_
        exact ih (i + 1) _ (by omega) (by rw [hb]; show _ = q_or i _ ||| (if _ then _ else _); rw [if_neg (show ¬ M_str V c i < x from Nat.not_lt.mpr h_23)]; rfl) (by omega)
      ·
        refine j_iconstN (k := 1) d_M_breaksBy_26 (by decide) ?_
        refine j_iload d_M_breaksBy_27 lg4 ?_
        refine j_ishlN d_M_breaksBy_29 (by omega) ?_
        refine j_goto (tgt := 34) d_M_breaksBy_30 (by decide) ?_
        refine j_iorN d_M_breaksBy_34 ?_
        refine j_istore_n d_M_breaksBy_35 rfl ls3i ?_
        refine j_iincN (k := 1) d_M_breaksBy_36 lg4 (by decide) ls4i ?_
        refine j_goto (tgt := 5) d_M_breaksBy_39 (by decide) ?_
        exact ih (i + 1) _ (by omega) (by rw [hb]; show _ = q_or i _ ||| (if _ then _ else _); rw [if_pos (show M_str V c i < x from h_23)]; rfl) (by omega)
set_option maxRecDepth 4000 in
theorem c_M_breaksBy9 {G : g_G} (l : Launch) (V : g_V) (S : g_L) (hn : V 201 4 ≤ 6) (hK : M_K V) (c x : Nat) (hc : g_I c 57) (hH : g_H9 V c) (hx : x ≤ 20) : g_C G l y_M_breaksBy b_M_breaksBy 5 (some .int) 2 [.ref (g_a G (201)), .ref (g_a G (c)), .int (nI (x))] V S (fun r V' S' => r = some (.int (nI (q_brk (V 201 4) (M_str V c) x))) ∧ V' = V ∧ S' = S) := by
  refine g_C.of (lv := [some (.ref (g_a G (201))), some (.ref (g_a G (c))), some (.int (nI (x))), none, none]) (by decide +kernel) rfl rfl rfl (Nat.le_of_ble_eq_true rfl) ?_
  refine j_iconstN (k := 0) d_M_breaksBy_0 (by decide) ?_
  refine j_istore_n d_M_breaksBy_1 rfl ls3i ?_
  refine j_iconstN (k := 0) d_M_breaksBy_2 (by decide) ?_
  refine j_istore d_M_breaksBy_3 ls4i ?_
  exact lp_M_breaksBy9 l V S hn hK c x hc hH hx _ 0 0 (by omega) rfl (Nat.lt_succ_self _)
theorem q_str_add {k g h e : Nat} : q_str k g (h + e) = q_str k g h + e := by
  unfold q_str
  split
  · omega
  · split
    · omega
    · split <;> omega
/-- what breaks when one stretch is given clay -/
theorem q_brk_given {n s g x : Nat} {t : Nat → Nat} (hn : n ≤ 6) (hs : s < n) : q_brk n (fun i => if i = s then t i + g else t i) x = (q_brk n t x &&& (63 ^^^ 1 <<< s)) ||| (if t s + g < x then 1 <<< s else 0) := by
  apply Nat.eq_of_testBit_eq
  intro k
  rw [Bool.eq_iff_iff, q_brk_tb, Nat.testBit_or, Nat.testBit_and, Bool.or_eq_true, Bool.and_eq_true, q_brk_tb, Nat.testBit_xor]
  have h63 : (63 : Nat).testBit k = decide (k < 6) := Nat.testBit_two_pow_sub_one 6 k
  rw [h63]
  by_cases e : k = s
  · subst e
    have hb : (1 <<< k).testBit k = true := q_bit_tb.mpr rfl
    rw [hb, if_pos rfl]
    by_cases q : t k + g < x
    · rw [if_pos q, hb]
      exact ⟨fun _ => Or.inr rfl, fun _ => ⟨hs, q⟩⟩
    · rw [if_neg q, Nat.zero_testBit]
      have h6 : decide (k < 6) = true := decide_eq_true (by omega)
      rw [h6]
      constructor
      · exact fun h => absurd h.2 q
      · rintro (h | h)
        · exact absurd h.2 (by decide)
        · cases h
  · have hb : (1 <<< s).testBit k = false := by
      rw [← Bool.not_eq_true]
      exact fun h => e (q_bit_tb.mp h).symm
    rw [hb, if_neg e]
    have hz : (if t s + g < x then 1 <<< s else 0).testBit k = false := by
      split
      · exact hb
      · exact Nat.zero_testBit k
    rw [hz]
    constructor
    · intro h
      refine Or.inl ⟨h, ?_⟩
      rw [decide_eq_true (show k < 6 by omega)]
      rfl
    · rintro (h | h)
      · exact h.1
      · cases h
set_option maxRecDepth 4000 in
theorem c_M_gainOf {G : g_G} (l : Launch) (V : g_V) (S : g_L) (hn : V 201 4 ≤ 6) (hK : M_K V) (hH : g_H V 207) (hd : V 207 19 < 64) (f g p s x : Nat) (hf : f < V 201 4) (hg : g < 4) (hp : p < 4) (hs : s < V 201 4) (hx : x ≤ 20) : g_C G l y_M_gainOf b_M_gainOf 7 (some .int) 3 [.ref (g_a G (201)), .int (nI (f)), .int (nI (g)), .int (nI (p)), .int (nI (s)), .int (nI (x))] V S (fun r V' S' => S' = S ∧ r = some (.int (D_lo (g_rg (g_cv V) s x 7) f g p)) ∧ ∀ c, c ≠ 208 → V' c = V c) := by
  refine g_C.of (lv := [some (.ref (g_a G (201))), some (.int (nI (f))), some (.int (nI (g))), some (.int (nI (p))), some (.int (nI (s))), some (.int (nI (x))), none]) (by decide +kernel) rfl rfl rfl (Nat.le_of_ble_eq_true rfl) ?_
  have t8 : ∀ k, k < 57 → g_bg V 57 208 k = V 207 k := fun k hk => g_bg_S hk
  have w4 : (g_up (g_bg V 57) 208 s (V 207 s + (g + p))) 201 4 = V 201 4 := by rw [g_up_ne (by decide), g_bg_N (by decide)]
  have w3 : (g_up (g_bg V 57) 208 s (V 207 s + (g + p))) 203 = V 203 := by rw [g_up_ne (by decide), g_bg_N (by decide)]
  have w24 : (g_up (g_bg V 57) 208 s (V 207 s + (g + p))) 204 = V 204 := by rw [g_up_ne (by decide), g_bg_N (by decide)]
  have w5 : (g_up (g_bg V 57) 208 s (V 207 s + (g + p))) 205 = V 205 := by rw [g_up_ne (by decide), g_bg_N (by decide)]
  have w19 : (g_up (g_bg V 57) 208 s (V 207 s + (g + p))) 208 19 = V 207 19 := by rw [g_upK (by omega), t8 19 (by decide)]
  have wK : M_K (g_up (g_bg V 57) 208 s (V 207 s + (g + p))) := by unfold M_K; rw [w3, w24, w5]; exact hK
  have wH : g_H9 (g_up (g_bg V 57) 208 s (V 207 s + (g + p))) 208 := fun i hi => by
    by_cases e : i = s
    · subst e; rw [g_upS]; have := hH i hi; omega
    · rw [g_upK e, t8 i (by omega)]; have := hH i hi; omega
  have wb : q_brk ((g_up (g_bg V 57) 208 s (V 207 s + (g + p))) 201 4) (M_str (g_up (g_bg V 57) 208 s (V 207 s + (g + p))) 208) x = (q_brk (V 201 4) (M_str V 207) x &&& (63 ^^^ 1 <<< s)) ||| (if M_str V 207 s + (g + p) < x then 1 <<< s else 0) := by
    rw [w4, ← q_brk_given hn hs]
    refine q_brk_ext fun i hi => ?_
    unfold M_str
    rw [w3, w5]
    show _ = (if _ then _ else _)
    by_cases e : i = s
    · subst e; rw [g_upS, if_pos rfl, q_str_add]
    · rw [g_upK e, t8 i (by omega), if_neg e]
  have hgv := D_gv_lt (V := g_cv V) hn (s := s) (x := x) (g := g + p) (by omega)
  have hbb : (q_brk (V 201 4) (M_str V 207) x &&& (63 ^^^ 1 <<< s)) ||| (if M_str V 207 s + (g + p) < x then 1 <<< s else 0) < 64 := Nat.or_lt_two_pow (n := 6) (Nat.lt_of_le_of_lt Nat.and_le_left (q_brk_lt hn)) (by
    split
    · exact q_bit_lt (by omega)
    · decide)
  have h10 : g_rg (g_cv V) s x 7 10 (g + p) = D_gv (g_cv V) s x (g + p) := g_rg_S (by omega)
  have h4r : g_rg (g_cv V) s x 7 4 f = V 204 f := congrFun (g_rg_N (by decide)) f
  refine j_aload_n (i := 0) d_M_gainOf_0 rfl lg0 ?_
  refine cl_M_167 (c_M_begin l V S) d_M_gainOf_1 rfl rfl (g_ftM (by decide)) (Nat.le_of_ble_eq_true rfl) (g_pw ?_)
  refine j_aload_n (i := 0) d_M_gainOf_4 rfl lg0 ?_
  refine gf_M_28 d_M_gainOf_5 ?_
  refine j_iconstN (k := 0) d_M_gainOf_8 (by decide) ?_
  refine j_iload d_M_gainOf_9 lg4 ?_
  refine j_iaddN d_M_gainOf_11 ?_
  rw [Nat.zero_add s]
  refine j_dup2 d_M_gainOf_12 rfl rfl ?_
  refine j_iald d_M_gainOf_13 gI_208 (by omega) ?_
  rw [t8 s (by omega)]
  refine j_iload_n (i := 2) d_M_gainOf_14 rfl lg2 ?_
  refine j_iload_n (i := 3) d_M_gainOf_15 rfl lg3 ?_
  refine j_iaddN d_M_gainOf_16 ?_
  refine j_iaddN d_M_gainOf_17 ?_
  refine j_iast d_M_gainOf_18 gI_208 (by omega) ?_
  refine j_aload_n (i := 0) d_M_gainOf_19 rfl lg0 ?_
  refine j_aload_n (i := 0) d_M_gainOf_20 rfl lg0 ?_
  refine gf_M_28 d_M_gainOf_21 ?_
  refine j_aload_n (i := 0) d_M_gainOf_24 rfl lg0 ?_
  refine j_aload_n (i := 0) d_M_gainOf_25 rfl lg0 ?_
  refine gf_M_28 d_M_gainOf_26 ?_
  refine j_iload d_M_gainOf_29 lg5 ?_
  refine cl_M_105 (c_M_breaksBy9 l (g_up (g_bg V 57) 208 s (V 207 s + (g + p))) S (by rw [w4]; exact hn) wK 208 x gI_208 wH hx) d_M_gainOf_31 rfl rfl (g_ftM (by decide)) (Nat.le_of_ble_eq_true rfl) (g_pu ?_)
  rw [wb]
  refine cl_M_128 (c_M_drownsBy l (g_up (g_bg V 57) 208 s (V 207 s + (g + p))) S (by rw [w4]; exact hn) 208 ((q_brk (V 201 4) (M_str V 207) x &&& (63 ^^^ 1 <<< s)) ||| (if M_str V 207 s + (g + p) < x then 1 <<< s else 0)) gI_208 (by rw [w19]; exact hd) hbb) d_M_gainOf_34 rfl rfl (g_ftM (by decide)) (Nat.le_of_ble_eq_true rfl) (g_pu ?_)
  rw [w4, w19, show q_wet (V 201 4) (V 207 19) ((q_brk (V 201 4) (M_str V 207) x &&& (63 ^^^ 1 <<< s)) ||| (if M_str V 207 s + (g + p) < x then 1 <<< s else 0)) = D_gv (g_cv V) s x (g + p) from rfl]
  refine j_istore d_M_gainOf_37 ls6i ?_
  refine j_iload d_M_gainOf_39 lg6 ?_
  refine j_iload_n (i := 1) d_M_gainOf_41 rfl lg1 ?_
  refine cl_M_78 (c_M_has l (g_up (g_bg V 57) 208 s (V 207 s + (g + p))) S (D_gv (g_cv V) s x (g + p)) (f) (by omega) (by omega)) d_M_gainOf_42 rfl rfl (g_ftM (by decide)) (Nat.le_of_ble_eq_true rfl) (g_pu ?_)
  refine j_if_eqB (tgt := 52) d_M_gainOf_45 (by decide) (fun h_45 => ?_) (fun h_45 => ?_)
  ·
    refine j_aload_n (i := 0) d_M_gainOf_52 rfl lg0 ?_
    refine gf_M_16 d_M_gainOf_53 ?_
    refine j_iload_n (i := 1) d_M_gainOf_56 rfl lg1 ?_
    refine j_iald d_M_gainOf_57 gI_204 (by omega) ?_
    refine j_eqv (b := (g_bg V 57) 204 f) (by rw [g_upN (by first | decide | omega | (unfold hB; omega))]) ?_
    rw [show (g_bg V 57) 204 f = V 204 f from congrFun w24 f]
    refine j_iload_n (i := 2) d_M_gainOf_58 rfl lg2 ?_
    refine j_isub d_M_gainOf_59 ?_
    refine j_iret d_M_gainOf_60 ⟨rfl, by unfold D_lo; rw [h10, h4r, if_neg h_45], fun c hc => (g_up_ne hc).trans (g_bg_N hc)⟩
  ·
    refine j_iconstN (k := 0) d_M_gainOf_48 (by decide) ?_
    refine j_goto (tgt := 58) d_M_gainOf_49 (by decide) ?_
    refine j_iload_n (i := 2) d_M_gainOf_58 rfl lg2 ?_
    refine j_isub d_M_gainOf_59 ?_
    refine j_iret d_M_gainOf_60 ⟨rfl, by unfold D_lo; rw [h10, h4r, if_pos h_45], fun c hc => (g_up_ne hc).trans (g_bg_N hc)⟩
theorem g_i_nlt {a b : Int32} (h : ¬ a < b) : b ≤ a := by
  rw [Int32.lt_iff_toInt_lt] at h; rw [Int32.le_iff_toInt_le]; omega
theorem g_i_nle {a b : Int32} (h : a < b) : ¬ b ≤ a := by
  rw [Int32.lt_iff_toInt_lt] at h; rw [Int32.le_iff_toInt_le]; omega
/-- W is V but for the trial page and what findRests has found of the first j pairs -/
def g_ri (V W : g_V) (ok : Nat → Bool) (j : Nat) : Prop := (∀ c, c ≠ 201 → c ≠ 208 → W c = V c) ∧ (∀ k, k ≠ 22 → k ≠ 23 → W 201 k = V 201 k) ∧ W 201 22 = q_rc ok j ∧ nI (W 201 23) = q_r1 ok j
theorem g_ri_208 {V W W' : g_V} {ok : Nat → Bool} {j : Nat} (h : g_ri V W ok j) (h2 : ∀ c, c ≠ 208 → W' c = W c) : g_ri V W' ok j :=
  ⟨fun c h1 h8 => (h2 c h8).trans (h.1 c h1 h8), fun k a b => by rw [h2 201 (by decide)]; exact h.2.1 k a b, by rw [h2 201 (by decide)]; exact h.2.2.1, by rw [h2 201 (by decide)]; exact h.2.2.2⟩
theorem g_ri_cv {V W : g_V} {ok : Nat → Bool} {j : Nat} (h : g_ri V W ok j) : g_cv W = g_cv V := g_cv_eq (h.2.1 4 (by decide) (by decide)) (h.2.1 14 (by decide) (by decide)) (h.2.1 2 (by decide) (by decide)) (h.1 202 (by decide) (by decide)) (h.1 203 (by decide) (by decide)) (h.1 204 (by decide) (by decide)) (h.1 205 (by decide) (by decide)) (h.1 207 (by decide) (by decide))
theorem q_r1_rc {ok : Nat → Bool} : ∀ j, j ≤ 16 → (q_r1 ok j = -9 ↔ q_rc ok j = 0)
  | 0, _ => ⟨fun _ => rfl, fun _ => rfl⟩
  | j + 1, hj => by
    have ih := q_r1_rc (ok := ok) j (by omega)
    show (if ok j = true then _ else _) = -9 ↔ (if ok j = true then _ else _) = 0
    by_cases e : ok j = true
    · rw [if_pos e, if_pos e]
      constructor
      · intro q
        exfalso
        by_cases e2 : q_r1 ok j = -9
        · rw [if_pos e2] at q
          have h2 := congrArg Int32.toInt q
          rw [nI_toInt (by omega), show (-9 : Int32).toInt = -9 from by decide] at h2
          omega
        · rw [if_neg e2] at q; exact e2 q
      · intro q; omega
    · rw [if_neg e, if_neg e]; exact ih
theorem g_ri_yes {V W : g_V} {ok : Nat → Bool} {j v : Nat} (h : g_ri V W ok j) (hj : j < 16) (hok : ok j = true) (hv : (q_rc ok j = 0 → v = 10 * (j / 4) + j % 4) ∧ (q_rc ok j ≠ 0 → v = W 201 23)) : g_ri V (g_up (g_up W 201 23 v) 201 22 (q_rc ok j + 1)) ok (j + 1) := by
  refine ⟨fun c h1 h8 => by rw [g_up_ne h1, g_up_ne h1]; exact h.1 c h1 h8, fun k a b => by rw [g_upK a, g_upK b]; exact h.2.1 k a b, by rw [g_upS]; exact (if_pos hok).symm, ?_⟩
  rw [g_upK (by decide), g_upS]
  show _ = (if ok j = true then _ else _)
  rw [if_pos hok]
  by_cases e : q_rc ok j = 0
  · rw [if_pos ((q_r1_rc j (by omega)).mpr e), hv.1 e]
  · rw [if_neg (fun q => e ((q_r1_rc j (by omega)).mp q)), hv.2 e]; exact h.2.2.2
theorem g_ri_no {V W : g_V} {ok : Nat → Bool} {j : Nat} (h : g_ri V W ok j) (hok : ¬ ok j = true) : g_ri V W ok (j + 1) :=
  ⟨h.1, h.2.1, h.2.2.1.trans (if_neg hok).symm, h.2.2.2.trans (if_neg hok).symm⟩
set_option maxRecDepth 4000 in
theorem lp_M_findRests1 {G : g_G} (l : Launch) (V : g_V) (S : g_L) (hn : V 201 4 ≤ 6) (hK : M_K V) (hH : g_H V 207) (hd : V 207 19 < 64) (f h s x : Nat) (hf : f < V 201 4) (hh : h < V 201 4) (hs : s < V 201 4) (hx : x ≤ 20) (a b : Nat) (ha : a < 4) (hb : b < 4) (hout : (∀ W', g_ri V W' (D_okb (g_rg (g_cv V) s x 7) f h) (4 * a + b + 1) → JW G (g_M G l 4 none (fun r V' S' => S' = S ∧ r = none ∧ g_ri V V' (D_okb (g_rg (g_cv V) s x 7) f h) 16)) b_M_findRests R_M 23 [some (.ref (g_a G (201))), some (.int (nI (f))), some (.int (nI (h))), some (.int (nI (s))), some (.int (nI (x))), some (.int (nI (a))), some (.int (nI (b + 1))), none, none, none, none] [] W' S)) : ∀ (n : Nat) (k e : Nat) (W : g_V), (g_ri V W (D_okb (g_rg (g_cv V) s x 7) f h) (4 * a + b)) → (k ≤ 4) → (e < 2) → ((e = 1 ∧ ∀ i, i < k → D_lo (g_rg (g_cv V) s x 7) (f) (i) (b) ≤ D_lo (g_rg (g_cv V) s x 7) (f) (a) (b) ∧ D_lo (g_rg (g_cv V) s x 7) (h) (i) (a) ≤ D_lo (g_rg (g_cv V) s x 7) (h) (b) (a)) ∨ (e = 0 ∧ ¬ ∀ i, i < k → D_lo (g_rg (g_cv V) s x 7) (f) (i) (b) ≤ D_lo (g_rg (g_cv V) s x 7) (f) (a) (b) ∧ D_lo (g_rg (g_cv V) s x 7) (h) (i) (a) ≤ D_lo (g_rg (g_cv V) s x 7) (h) (b) (a))) → 4 - k < n → JW G (g_M G l 4 none (fun r V' S' => S' = S ∧ r = none ∧ g_ri V V' (D_okb (g_rg (g_cv V) s x 7) f h) 16)) b_M_findRests R_M 63 [some (.ref (g_a G (201))), some (.int (nI (f))), some (.int (nI (h))), some (.int (nI (s))), some (.int (nI (x))), some (.int (nI (a))), some (.int (nI (b))), some (.int (D_lo (g_rg (g_cv V) s x 7) (f) (a) (b))), some (.int (D_lo (g_rg (g_cv V) s x 7) (h) (b) (a))), some (.int (nI (e))), some (.int (nI (k)))] [] W S := by
  intro n
  induction n with
  | zero => intro k e W hR hk he2 he hm; exact absurd hm (Nat.not_lt_zero _)
  | succ n ih =>
    intro k e W hR hk he2 he hm
    refine j_iload d_M_findRests_63 lg10 ?_
    refine j_iconstN (k := 4) d_M_findRests_65 (by decide) ?_
    refine j_icmp_geN (tgt := 121) d_M_findRests_66 (by decide) (by omega) (by omega) (fun h_66 => ?_) (fun h_66 => ?_)
    ·
      refine j_aload_n (i := 0) d_M_findRests_121 rfl lg0 ?_
      refine j_iload d_M_findRests_122 lg9 ?_
      refine j_if_eqN (tgt := 145) d_M_findRests_124 (by decide) (by omega) (fun h_124 => ?_) (fun h_124 => ?_)
      ·
        refine j_aload_n (i := 0) d_M_findRests_145 rfl lg0 ?_
        refine gf_M_192 d_M_findRests_146 ?_
        refine pf_M_192 d_M_findRests_149 ?_
        refine j_aload_n (i := 0) d_M_findRests_152 rfl lg0 ?_
        refine j_dup d_M_findRests_153 rfl ?_
        refine gf_M_189 d_M_findRests_154 ?_
        refine j_eqv (b := W 201 22) (by rw [g_upK (by decide)]) ?_
        refine j_iload d_M_findRests_157 lg9 ?_
        refine j_if_eqN (tgt := 166) d_M_findRests_159 (by decide) (by omega) (fun h_159 => ?_) (fun h_159 => ?_)
        ·
          refine j_iconstN (k := 0) d_M_findRests_166 (by decide) ?_
          refine j_iaddN d_M_findRests_167 ?_
          refine pf_M_189 d_M_findRests_168 ?_
          refine j_iincN (k := 1) d_M_findRests_171 lg6 (by decide) ls6i ?_
          refine j_goto (tgt := 23) d_M_findRests_174 (by decide) ?_
          have e1 : (4 * a + b) / 4 = a := by omega
          have e2 : (4 * a + b) % 4 = b := by omega
          obtain rfl : k = 4 := by omega
          have hok : ¬ (D_okb (g_rg (g_cv V) s x 7) f h) (4 * a + b) = true := fun q => by
            have q := of_decide_eq_true q
            rw [D_ok, e1, e2] at q
            rcases he with ⟨q1, q2⟩ | ⟨q1, q2⟩
            · omega
            · exact q2 (fun i hi => ⟨q.1 i hi, q.2 i hi⟩)
          refine j_fg 7 (j_fg 8 (j_fg 9 (j_fg 10 (hout _ ?_))))
          have e0 : g_up (g_up W 201 23 (W 201 23)) 201 22 (W 201 22 + 0) = W := by rw [g_up_id (rfl : W 201 23 = W 201 23)]; exact g_up_id rfl
          rw [e0]
          exact g_ri_no hR hok
        ·
          exact absurd h_124 h_159
      ·
        refine j_aload_n (i := 0) d_M_findRests_127 rfl lg0 ?_
        refine gf_M_189 d_M_findRests_128 ?_
        have hrl := q_rc_le (ok := (D_okb (g_rg (g_cv V) s x 7) f h)) (4 * a + b)
        rw [← hR.2.2.1] at hrl
        refine j_if_neN (tgt := 145) d_M_findRests_131 (by decide) (by omega) (fun h_131 => ?_) (fun h_131 => ?_)
        ·
          refine j_aload_n (i := 0) d_M_findRests_145 rfl lg0 ?_
          refine gf_M_192 d_M_findRests_146 ?_
          refine pf_M_192 d_M_findRests_149 ?_
          refine j_aload_n (i := 0) d_M_findRests_152 rfl lg0 ?_
          refine j_dup d_M_findRests_153 rfl ?_
          refine gf_M_189 d_M_findRests_154 ?_
          refine j_eqv (b := W 201 22) (by rw [g_upK (by decide)]) ?_
          refine j_iload d_M_findRests_157 lg9 ?_
          refine j_if_eqN (tgt := 166) d_M_findRests_159 (by decide) (by omega) (fun h_159 => ?_) (fun h_159 => ?_)
          ·
            exact absurd h_159 h_124
          ·
            refine j_iconstN (k := 1) d_M_findRests_162 (by decide) ?_
            refine j_goto (tgt := 167) d_M_findRests_163 (by decide) ?_
            refine j_iaddN d_M_findRests_167 ?_
            refine pf_M_189 d_M_findRests_168 ?_
            refine j_iincN (k := 1) d_M_findRests_171 lg6 (by decide) ls6i ?_
            refine j_goto (tgt := 23) d_M_findRests_174 (by decide) ?_
            have e1 : (4 * a + b) / 4 = a := by omega
            have e2 : (4 * a + b) % 4 = b := by omega
            obtain rfl : k = 4 := by omega
            have hok : (D_okb (g_rg (g_cv V) s x 7) f h) (4 * a + b) = true := by
              rcases he with ⟨q1, q2⟩ | ⟨q1, q2⟩
              · refine decide_eq_true ⟨?_, ?_⟩
                · rw [e1, e2]; exact fun i hi => (q2 i hi).1
                · rw [e1, e2]; exact fun i hi => (q2 i hi).2
              · omega
            have hri := g_ri_yes hR (by omega) hok (v := W 201 23) ⟨fun q => absurd (hR.2.2.1.trans q) h_131, fun _ => rfl⟩
            rw [← hR.2.2.1] at hri
            refine j_fg 7 (j_fg 8 (j_fg 9 (j_fg 10 (hout _ ?_))))
            exact hri
        ·
          refine j_bipushN (k := 10) d_M_findRests_134 (by decide) ?_
          refine j_iload d_M_findRests_136 lg5 ?_
          refine j_imulN d_M_findRests_138 ?_
          refine j_iload d_M_findRests_139 lg6 ?_
          refine j_iaddN d_M_findRests_141 ?_
          refine j_goto (tgt := 149) d_M_findRests_142 (by decide) ?_
          refine pf_M_192 d_M_findRests_149 ?_
          refine j_aload_n (i := 0) d_M_findRests_152 rfl lg0 ?_
          refine j_dup d_M_findRests_153 rfl ?_
          refine gf_M_189 d_M_findRests_154 ?_
          refine j_eqv (b := W 201 22) (by rw [g_upK (by decide)]) ?_
          refine j_iload d_M_findRests_157 lg9 ?_
          refine j_if_eqN (tgt := 166) d_M_findRests_159 (by decide) (by omega) (fun h_159 => ?_) (fun h_159 => ?_)
          ·
            exact absurd h_159 h_124
          ·
            refine j_iconstN (k := 1) d_M_findRests_162 (by decide) ?_
            refine j_goto (tgt := 167) d_M_findRests_163 (by decide) ?_
            refine j_iaddN d_M_findRests_167 ?_
            refine pf_M_189 d_M_findRests_168 ?_
            refine j_iincN (k := 1) d_M_findRests_171 lg6 (by decide) ls6i ?_
            refine j_goto (tgt := 23) d_M_findRests_174 (by decide) ?_
            have e1 : (4 * a + b) / 4 = a := by omega
            have e2 : (4 * a + b) % 4 = b := by omega
            obtain rfl : k = 4 := by omega
            have hok : (D_okb (g_rg (g_cv V) s x 7) f h) (4 * a + b) = true := by
              rcases he with ⟨q1, q2⟩ | ⟨q1, q2⟩
              · refine decide_eq_true ⟨?_, ?_⟩
                · rw [e1, e2]; exact fun i hi => (q2 i hi).1
                · rw [e1, e2]; exact fun i hi => (q2 i hi).2
              · omega
            have hri := g_ri_yes hR (by omega) hok (v := 10 * a + b) ⟨fun _ => by rw [e1, e2], fun q => absurd (hR.2.2.1.symm.trans h_131) q⟩
            rw [← hR.2.2.1] at hri
            refine j_fg 7 (j_fg 8 (j_fg 9 (j_fg 10 (hout _ ?_))))
            exact hri
    ·
      refine j_iload d_M_findRests_69 lg9 ?_
      refine j_if_eqN (tgt := 112) d_M_findRests_71 (by decide) (by omega) (fun h_71 => ?_) (fun h_71 => ?_)
      ·
        refine j_iconstN (k := 0) d_M_findRests_112 (by decide) ?_
        refine j_istore d_M_findRests_113 ls9i ?_
        refine j_iincN (k := 1) d_M_findRests_115 lg10 (by decide) ls10i ?_
        refine j_goto (tgt := 63) d_M_findRests_118 (by decide) ?_
        exact ih (k + 1) _ W hR (by omega) (by decide) (Or.inr ⟨rfl, fun q => by
          rcases he with ⟨e1, e2⟩ | ⟨e1, e2⟩
          · first | omega | exact g_i_nle h_88 (q k (by omega)).1 | exact g_i_nle h_105 (q k (by omega)).2
          · exact e2 (fun i hi => q i (by omega))⟩) (by omega)
      ·
        refine j_aload_n (i := 0) d_M_findRests_74 rfl lg0 ?_
        refine j_iload_n (i := 1) d_M_findRests_75 rfl lg1 ?_
        refine j_iload d_M_findRests_76 lg10 ?_
        refine j_iload d_M_findRests_78 lg6 ?_
        refine j_iload_n (i := 3) d_M_findRests_80 rfl lg3 ?_
        refine j_iload d_M_findRests_81 lg4 ?_
        refine cl_M_195 (c_M_gainOf l W S (by rw [(show W 201 4 = V 201 4 from hR.2.1 4 (by decide) (by decide))]; exact hn) (by unfold M_K; rw [(show W 203 = V 203 from hR.1 203 (by decide) (by decide)), (show W 204 = V 204 from hR.1 204 (by decide) (by decide)), (show W 205 = V 205 from hR.1 205 (by decide) (by decide))]; exact hK) (by unfold g_H; rw [(show W 207 = V 207 from hR.1 207 (by decide) (by decide))]; exact hH) (by rw [(show W 207 = V 207 from hR.1 207 (by decide) (by decide))]; exact hd) f k b s x (by rw [(show W 201 4 = V 201 4 from hR.2.1 4 (by decide) (by decide))]; omega) (by omega) (by omega) (by rw [(show W 201 4 = V 201 4 from hR.2.1 4 (by decide) (by decide))]; exact hs) hx) d_M_findRests_83 rfl rfl (g_ftM (by decide)) (Nat.le_of_ble_eq_true rfl) ?_
        rintro _ W1 S1 ⟨hS1, rfl, hV1⟩
        rw [hS1, g_ri_cv hR]
        have hR1 := g_ri_208 hR hV1
        refine j_iload d_M_findRests_86 lg7 ?_
        refine j_icmp_gt (tgt := 112) d_M_findRests_88 (by decide) (fun h_88 => ?_) (fun h_88 => ?_)
        ·
          refine j_iconstN (k := 0) d_M_findRests_112 (by decide) ?_
          refine j_istore d_M_findRests_113 ls9i ?_
          refine j_iincN (k := 1) d_M_findRests_115 lg10 (by decide) ls10i ?_
          refine j_goto (tgt := 63) d_M_findRests_118 (by decide) ?_
          exact ih (k + 1) _ W1 hR1 (by omega) (by decide) (Or.inr ⟨rfl, fun q => by
            rcases he with ⟨e1, e2⟩ | ⟨e1, e2⟩
            · first | omega | exact g_i_nle h_88 (q k (by omega)).1 | exact g_i_nle h_105 (q k (by omega)).2
            · exact e2 (fun i hi => q i (by omega))⟩) (by omega)
        ·
          refine j_aload_n (i := 0) d_M_findRests_91 rfl lg0 ?_
          refine j_iload_n (i := 2) d_M_findRests_92 rfl lg2 ?_
          refine j_iload d_M_findRests_93 lg10 ?_
          refine j_iload d_M_findRests_95 lg5 ?_
          refine j_iload_n (i := 3) d_M_findRests_97 rfl lg3 ?_
          refine j_iload d_M_findRests_98 lg4 ?_
          refine cl_M_195 (c_M_gainOf l W1 S (by rw [(show W1 201 4 = V 201 4 from hR1.2.1 4 (by decide) (by decide))]; exact hn) (by unfold M_K; rw [(show W1 203 = V 203 from hR1.1 203 (by decide) (by decide)), (show W1 204 = V 204 from hR1.1 204 (by decide) (by decide)), (show W1 205 = V 205 from hR1.1 205 (by decide) (by decide))]; exact hK) (by unfold g_H; rw [(show W1 207 = V 207 from hR1.1 207 (by decide) (by decide))]; exact hH) (by rw [(show W1 207 = V 207 from hR1.1 207 (by decide) (by decide))]; exact hd) h k a s x (by rw [(show W1 201 4 = V 201 4 from hR1.2.1 4 (by decide) (by decide))]; omega) (by omega) (by omega) (by rw [(show W1 201 4 = V 201 4 from hR1.2.1 4 (by decide) (by decide))]; exact hs) hx) d_M_findRests_100 rfl rfl (g_ftM (by decide)) (Nat.le_of_ble_eq_true rfl) ?_
          rintro _ W2 S2 ⟨hS2, rfl, hV2⟩
          rw [hS2, g_ri_cv hR1]
          have hR2 := g_ri_208 hR1 hV2
          refine j_iload d_M_findRests_103 lg8 ?_
          refine j_icmp_gt (tgt := 112) d_M_findRests_105 (by decide) (fun h_105 => ?_) (fun h_105 => ?_)
          ·
            refine j_iconstN (k := 0) d_M_findRests_112 (by decide) ?_
            refine j_istore d_M_findRests_113 ls9i ?_
            refine j_iincN (k := 1) d_M_findRests_115 lg10 (by decide) ls10i ?_
            refine j_goto (tgt := 63) d_M_findRests_118 (by decide) ?_
            exact ih (k + 1) _ W2 hR2 (by omega) (by decide) (Or.inr ⟨rfl, fun q => by
              rcases he with ⟨e1, e2⟩ | ⟨e1, e2⟩
              · first | omega | exact g_i_nle h_88 (q k (by omega)).1 | exact g_i_nle h_105 (q k (by omega)).2
              · exact e2 (fun i hi => q i (by omega))⟩) (by omega)
          ·
            refine j_iconstN (k := 1) d_M_findRests_108 (by decide) ?_
            refine j_goto (tgt := 113) d_M_findRests_109 (by decide) ?_
            refine j_istore d_M_findRests_113 ls9i ?_
            refine j_iincN (k := 1) d_M_findRests_115 lg10 (by decide) ls10i ?_
            refine j_goto (tgt := 63) d_M_findRests_118 (by decide) ?_
            exact ih (k + 1) _ W2 hR2 (by omega) (by decide) (Or.inl ⟨rfl, fun i hi => by
              rcases he with ⟨e1, e2⟩ | ⟨e1, e2⟩
              · rcases Nat.lt_succ_iff_lt_or_eq.mp hi with q | q
                · exact e2 i q
                · rw [q]; exact ⟨g_i_nlt h_88, g_i_nlt h_105⟩
              · exact absurd e1 h_71⟩) (by omega)
set_option maxRecDepth 4000 in
theorem lp_M_findRests2 {G : g_G} (l : Launch) (V : g_V) (S : g_L) (hn : V 201 4 ≤ 6) (hK : M_K V) (hH : g_H V 207) (hd : V 207 19 < 64) (f h s x : Nat) (hf : f < V 201 4) (hh : h < V 201 4) (hs : s < V 201 4) (hx : x ≤ 20) (a : Nat) (ha : a < 4) (hout : (∀ W', g_ri V W' (D_okb (g_rg (g_cv V) s x 7) f h) (4 * (a + 1)) → JW G (g_M G l 4 none (fun r V' S' => S' = S ∧ r = none ∧ g_ri V V' (D_okb (g_rg (g_cv V) s x 7) f h) 16)) b_M_findRests R_M 14 [some (.ref (g_a G (201))), some (.int (nI (f))), some (.int (nI (h))), some (.int (nI (s))), some (.int (nI (x))), some (.int (nI (a + 1))), none, none, none, none, none] [] W' S)) : ∀ (n : Nat) (b : Nat) (W : g_V), (g_ri V W (D_okb (g_rg (g_cv V) s x 7) f h) (4 * a + b)) → (b ≤ 4) → 4 - b < n → JW G (g_M G l 4 none (fun r V' S' => S' = S ∧ r = none ∧ g_ri V V' (D_okb (g_rg (g_cv V) s x 7) f h) 16)) b_M_findRests R_M 23 [some (.ref (g_a G (201))), some (.int (nI (f))), some (.int (nI (h))), some (.int (nI (s))), some (.int (nI (x))), some (.int (nI (a))), some (.int (nI (b))), none, none, none, none] [] W S := by
  intro n
  induction n with
  | zero => intro b W hR hb hm; exact absurd hm (Nat.not_lt_zero _)
  | succ n ih =>
    intro b W hR hb hm
    refine j_iload d_M_findRests_23 lg6 ?_
    refine j_iconstN (k := 4) d_M_findRests_25 (by decide) ?_
    refine j_icmp_geN (tgt := 177) d_M_findRests_26 (by decide) (by omega) (by omega) (fun h_26 => ?_) (fun h_26 => ?_)
    ·
      refine j_iincN (k := 1) d_M_findRests_177 lg5 (by decide) ls5i ?_
      refine j_goto (tgt := 14) d_M_findRests_180 (by decide) ?_
      obtain rfl : b = 4 := by omega
      exact j_fg 6 (hout W (by rw [show 4 * (a + 1) = 4 * a + 4 by omega]; exact hR))
    ·
      refine j_aload_n (i := 0) d_M_findRests_29 rfl lg0 ?_
      refine j_iload_n (i := 1) d_M_findRests_30 rfl lg1 ?_
      refine j_iload d_M_findRests_31 lg5 ?_
      refine j_iload d_M_findRests_33 lg6 ?_
      refine j_iload_n (i := 3) d_M_findRests_35 rfl lg3 ?_
      refine j_iload d_M_findRests_36 lg4 ?_
      refine cl_M_195 (c_M_gainOf l W S (by rw [(show W 201 4 = V 201 4 from hR.2.1 4 (by decide) (by decide))]; exact hn) (by unfold M_K; rw [(show W 203 = V 203 from hR.1 203 (by decide) (by decide)), (show W 204 = V 204 from hR.1 204 (by decide) (by decide)), (show W 205 = V 205 from hR.1 205 (by decide) (by decide))]; exact hK) (by unfold g_H; rw [(show W 207 = V 207 from hR.1 207 (by decide) (by decide))]; exact hH) (by rw [(show W 207 = V 207 from hR.1 207 (by decide) (by decide))]; exact hd) f a b s x (by rw [(show W 201 4 = V 201 4 from hR.2.1 4 (by decide) (by decide))]; omega) (by omega) (by omega) (by rw [(show W 201 4 = V 201 4 from hR.2.1 4 (by decide) (by decide))]; exact hs) hx) d_M_findRests_38 rfl rfl (g_ftM (by decide)) (Nat.le_of_ble_eq_true rfl) ?_
      rintro _ W3 S3 ⟨hS3, rfl, hV3⟩
      rw [hS3, g_ri_cv hR]
      have hR3 := g_ri_208 hR hV3
      refine j_istore d_M_findRests_41 ls7i ?_
      refine j_aload_n (i := 0) d_M_findRests_43 rfl lg0 ?_
      refine j_iload_n (i := 2) d_M_findRests_44 rfl lg2 ?_
      refine j_iload d_M_findRests_45 lg6 ?_
      refine j_iload d_M_findRests_47 lg5 ?_
      refine j_iload_n (i := 3) d_M_findRests_49 rfl lg3 ?_
      refine j_iload d_M_findRests_50 lg4 ?_
      refine cl_M_195 (c_M_gainOf l W3 S (by rw [(show W3 201 4 = V 201 4 from hR3.2.1 4 (by decide) (by decide))]; exact hn) (by unfold M_K; rw [(show W3 203 = V 203 from hR3.1 203 (by decide) (by decide)), (show W3 204 = V 204 from hR3.1 204 (by decide) (by decide)), (show W3 205 = V 205 from hR3.1 205 (by decide) (by decide))]; exact hK) (by unfold g_H; rw [(show W3 207 = V 207 from hR3.1 207 (by decide) (by decide))]; exact hH) (by rw [(show W3 207 = V 207 from hR3.1 207 (by decide) (by decide))]; exact hd) h b a s x (by rw [(show W3 201 4 = V 201 4 from hR3.2.1 4 (by decide) (by decide))]; omega) (by omega) (by omega) (by rw [(show W3 201 4 = V 201 4 from hR3.2.1 4 (by decide) (by decide))]; exact hs) hx) d_M_findRests_52 rfl rfl (g_ftM (by decide)) (Nat.le_of_ble_eq_true rfl) ?_
      rintro _ W4 S4 ⟨hS4, rfl, hV4⟩
      rw [hS4, g_ri_cv hR3]
      have hR4 := g_ri_208 hR3 hV4
      refine j_istore d_M_findRests_55 ls8i ?_
      refine j_iconstN (k := 1) d_M_findRests_57 (by decide) ?_
      refine j_istore d_M_findRests_58 ls9i ?_
      refine j_iconstN (k := 0) d_M_findRests_60 (by decide) ?_
      refine j_istore d_M_findRests_61 ls10i ?_
      refine lp_M_findRests1 l V S hn hK hH hd f h s x hf hh hs hx a b ha (by omega) (fun W9 hR9 => ?_) _ 0 1 W4 hR4 (by omega) (by decide) (Or.inl ⟨rfl, fun i hi => absurd hi (Nat.not_lt_zero i)⟩) (Nat.lt_succ_self _)
      exact ih (b + 1) W9 hR9 (by omega) (by omega)
set_option maxRecDepth 4000 in
theorem lp_M_findRests {G : g_G} (l : Launch) (V : g_V) (S : g_L) (hn : V 201 4 ≤ 6) (hK : M_K V) (hH : g_H V 207) (hd : V 207 19 < 64) (f h s x : Nat) (hf : f < V 201 4) (hh : h < V 201 4) (hs : s < V 201 4) (hx : x ≤ 20) : ∀ (n : Nat) (a : Nat) (W : g_V), (g_ri V W (D_okb (g_rg (g_cv V) s x 7) f h) (4 * a)) → (a ≤ 4) → 4 - a < n → JW G (g_M G l 4 none (fun r V' S' => S' = S ∧ r = none ∧ g_ri V V' (D_okb (g_rg (g_cv V) s x 7) f h) 16)) b_M_findRests R_M 14 [some (.ref (g_a G (201))), some (.int (nI (f))), some (.int (nI (h))), some (.int (nI (s))), some (.int (nI (x))), some (.int (nI (a))), none, none, none, none, none] [] W S := by
  intro n
  induction n with
  | zero => intro a W hR ha hm; exact absurd hm (Nat.not_lt_zero _)
  | succ n ih =>
    intro a W hR ha hm
    refine j_iload d_M_findRests_14 lg5 ?_
    refine j_iconstN (k := 4) d_M_findRests_16 (by decide) ?_
    refine j_icmp_geN (tgt := 183) d_M_findRests_17 (by decide) (by omega) (by omega) (fun h_17 => ?_) (fun h_17 => ?_)
    ·
      refine j_vret d_M_findRests_183 ⟨rfl, rfl, by rw [show 16 = 4 * a by omega]; exact hR⟩
    ·
      refine j_iconstN (k := 0) d_M_findRests_20 (by decide) ?_
      refine j_istore d_M_findRests_21 ls6i ?_
      exact lp_M_findRests2 l V S hn hK hH hd f h s x hf hh hs hx a (by omega) (fun W9 hR9 => ih (a + 1) W9 hR9 (by omega) (by omega)) _ 0 W hR (by omega) (Nat.lt_succ_self _)
set_option maxRecDepth 4000 in
theorem c_M_findRests {G : g_G} (l : Launch) (V : g_V) (S : g_L) (hn : V 201 4 ≤ 6) (hK : M_K V) (hH : g_H V 207) (hd : V 207 19 < 64) (f h s x : Nat) (hf : f < V 201 4) (hh : h < V 201 4) (hs : s < V 201 4) (hx : x ≤ 20) : g_C G l y_M_findRests b_M_findRests 11 none 4 [.ref (g_a G (201)), .int (nI (f)), .int (nI (h)), .int (nI (s)), .int (nI (x))] V S (fun r V' S' => S' = S ∧ r = none ∧ g_ri V V' (D_okb (g_rg (g_cv V) s x 7) f h) 16) := by
  refine g_C.of (lv := [some (.ref (g_a G (201))), some (.int (nI (f))), some (.int (nI (h))), some (.int (nI (s))), some (.int (nI (x))), none, none, none, none, none, none]) (by decide +kernel) rfl rfl rfl (Nat.le_of_ble_eq_true rfl) ?_
  refine j_aload_n (i := 0) d_M_findRests_0 rfl lg0 ?_
  refine j_iconstN (k := 0) d_M_findRests_1 (by decide) ?_
  refine pf_M_189 d_M_findRests_2 ?_
  refine j_aload_n (i := 0) d_M_findRests_5 rfl lg0 ?_
  refine j_bipush (v := -9) d_M_findRests_6 (by decide) ?_
  rw [← nI_9]
  refine pf_M_192 d_M_findRests_8 ?_
  refine j_iconstN (k := 0) d_M_findRests_11 (by decide) ?_
  refine j_istore d_M_findRests_12 ls5i ?_
  exact lp_M_findRests l V S hn hK hH hd f h s x hf hh hs hx _ 0 (g_up (g_up V 201 22 0) 201 23 4294967287) ⟨fun c h1 h8 => by rw [g_up_ne h1, g_up_ne h1], fun k a b => by rw [g_upK b, g_upK a], by rw [g_upK (by decide), g_upS]; rfl, by rw [g_upS, nI_9]; rfl⟩ (by decide) (Nat.lt_succ_self _)
set_option maxRecDepth 4000 in
theorem c_M_rests {G : g_G} (l : Launch) (V : g_V) (S : g_L) (hO : M_OK V) (f0 j0 s0 x0 w0 : Int32) : g_C G l y_M_rests b_M_rests 6 (some .int) 5 [.ref (g_a G (201)), .int (f0), .int (j0), .int (s0), .int (x0), .int (w0)] V S (fun r V' S' => S' = S ∧ r = some (.int (if q_in f0 (V 201 4) ∧ q_in j0 (V 201 4) ∧ q_in s0 (V 201 4) then (if ¬ f0 = j0 ∧ q_in x0 21 ∧ q_in w0 2 then (if w0 = 0 then nI (q_rc (D_okb (g_rg (g_cv V) (q_n s0) (q_n x0) 7) (q_n f0) (q_n j0)) 16) else q_r1 (D_okb (g_rg (g_cv V) (q_n s0) (q_n x0) 7) (q_n f0) (q_n j0)) 16) else -2) else -1)) ∧ (∀ c, c ≠ 201 → c ≠ 208 → V' c = V c) ∧ ∀ k, k ≠ 22 → k ≠ 23 → V' 201 k = V 201 k) := by
  refine g_C.of (lv := [some (.ref (g_a G (201))), some (.int (f0)), some (.int (j0)), some (.int (s0)), some (.int (x0)), some (.int (w0))]) (by decide +kernel) rfl rfl rfl (Nat.le_of_ble_eq_true rfl) ?_
  have h0 := hO.1.1
  have hn := hO.1.2.1
  have hK := hO.1.2.2.1
  have hX := hO.1.2.2.2.1
  have hA := hO.1.2.2.2.2
  have hH := hO.2.1
  have hW := hO.2.2.1
  have hsp := hO.2.2.2.1
  have hd := hO.2.2.2.2.1
  have htd := hO.2.2.2.2.2
  refine j_aload_n (i := 0) d_M_rests_0 rfl lg0 ?_
  refine j_iconstN (k := 0) d_M_rests_1 (by decide) ?_
  refine pf_M_47 d_M_rests_2 ?_
  rw [g_up_id h0]
  refine j_aload_n (i := 0) d_M_rests_5 rfl lg0 ?_
  refine j_iload_n (i := 1) d_M_rests_6 rfl lg1 ?_
  refine cl_M_115 (c_M_noFarm l V S (by omega) (f0)) d_M_rests_7 rfl rfl (g_ftM (by decide)) (Nat.le_of_ble_eq_true rfl) (g_pu ?_)
  refine j_if_neB (tgt := 29) d_M_rests_10 (by decide) (fun h_10 => ?_) (fun h_10 => ?_)
  ·
    refine j_iconst (v := -1) d_M_rests_29 (by decide) ?_
    refine j_iret d_M_rests_30 ⟨rfl, by rw [if_neg (fun q => by first | exact h_10 q.1 | exact h_18 q.2.1 | exact h_26 q.2.2)], fun _ _ _ => rfl, fun _ _ _ => rfl⟩
  ·
    refine j_aload_n (i := 0) d_M_rests_13 rfl lg0 ?_
    refine j_iload_n (i := 2) d_M_rests_14 rfl lg2 ?_
    refine cl_M_115 (c_M_noFarm l V S (by omega) (j0)) d_M_rests_15 rfl rfl (g_ftM (by decide)) (Nat.le_of_ble_eq_true rfl) (g_pu ?_)
    refine j_if_neB (tgt := 29) d_M_rests_18 (by decide) (fun h_18 => ?_) (fun h_18 => ?_)
    ·
      refine j_iconst (v := -1) d_M_rests_29 (by decide) ?_
      refine j_iret d_M_rests_30 ⟨rfl, by rw [if_neg (fun q => by first | exact h_10 q.1 | exact h_18 q.2.1 | exact h_26 q.2.2)], fun _ _ _ => rfl, fun _ _ _ => rfl⟩
    ·
      refine j_aload_n (i := 0) d_M_rests_21 rfl lg0 ?_
      refine j_iload_n (i := 3) d_M_rests_22 rfl lg3 ?_
      refine cl_M_115 (c_M_noFarm l V S (by omega) (s0)) d_M_rests_23 rfl rfl (g_ftM (by decide)) (Nat.le_of_ble_eq_true rfl) (g_pu ?_)
      refine j_if_eqB (tgt := 31) d_M_rests_26 (by decide) (fun h_26 => ?_) (fun h_26 => ?_)
      ·
        refine j_iload_n (i := 1) d_M_rests_31 rfl lg1 ?_
        refine j_iload_n (i := 2) d_M_rests_32 rfl lg2 ?_
        refine j_icmp_eq (tgt := 55) d_M_rests_33 (by decide) (fun h_33 => ?_) (fun h_33 => ?_)
        ·
          refine j_bipush (v := -2) d_M_rests_55 (by decide) ?_
          refine j_iret d_M_rests_57 ⟨rfl, by rw [if_pos ⟨Classical.not_not.mp h_10, Classical.not_not.mp h_18, Classical.not_not.mp h_26⟩, if_neg (fun q => by first | exact q.1 h_33 | exact h_41 q.2.1 | exact h_52 ((q_rng_in (k := 1) (by decide)).mpr q.2.2))], fun _ _ _ => rfl, fun _ _ _ => rfl⟩
        ·
          refine j_iload d_M_rests_36 lg4 ?_
          refine cl_M_119 (c_M_noStorm l V S (x0)) d_M_rests_38 rfl rfl (g_ftM (by decide)) (Nat.le_of_ble_eq_true rfl) (g_pu ?_)
          refine j_if_neB (tgt := 55) d_M_rests_41 (by decide) (fun h_41 => ?_) (fun h_41 => ?_)
          ·
            refine j_bipush (v := -2) d_M_rests_55 (by decide) ?_
            refine j_iret d_M_rests_57 ⟨rfl, by rw [if_pos ⟨Classical.not_not.mp h_10, Classical.not_not.mp h_18, Classical.not_not.mp h_26⟩, if_neg (fun q => by first | exact q.1 h_33 | exact h_41 q.2.1 | exact h_52 ((q_rng_in (k := 1) (by decide)).mpr q.2.2))], fun _ _ _ => rfl, fun _ _ _ => rfl⟩
          ·
            refine j_iload d_M_rests_44 lg5 ?_
            refine j_i2l d_M_rests_46 ?_
            refine j_lconst (v := 0) d_M_rests_47 rfl ?_
            refine j_lconst (v := 1) d_M_rests_48 rfl ?_
            refine cl_M_54 (c_M_in l V S ((w0).toInt64) (0) (1)) d_M_rests_49 rfl rfl (g_ftM (by decide)) (Nat.le_of_ble_eq_true rfl) (g_pu ?_)
            refine j_if_neB (tgt := 58) d_M_rests_52 (by decide) (fun h_52 => ?_) (fun h_52 => ?_)
            ·
              have hf0 := Classical.not_not.mp h_10
              have hh0 := Classical.not_not.mp h_18
              have hs0 := Classical.not_not.mp h_26
              have hx0 := Classical.not_not.mp h_41
              have hw2 := (q_rng_in (k := 1) (by decide)).mp h_52
              rw [if_pos ⟨hf0, hh0, hs0⟩, if_pos ⟨h_33, hx0, hw2⟩]
              obtain ⟨f, hf, rfl⟩ := q_in_of hf0 (by omega)
              obtain ⟨h, hh, rfl⟩ := q_in_of hh0 (by omega)
              obtain ⟨s, hs, rfl⟩ := q_in_of hs0 (by omega)
              obtain ⟨x, hx, rfl⟩ := q_in_of hx0 (by decide)
              obtain ⟨w, hww, rfl⟩ := q_in_of hw2 (by decide)
              rw [q_n_nI (by omega), q_n_nI (by omega), q_n_nI (by omega), q_n_nI (by omega)]
              refine j_aload_n (i := 0) d_M_rests_58 rfl lg0 ?_
              refine j_iload_n (i := 1) d_M_rests_59 rfl lg1 ?_
              refine j_iload_n (i := 2) d_M_rests_60 rfl lg2 ?_
              refine j_iload_n (i := 3) d_M_rests_61 rfl lg3 ?_
              refine j_iload d_M_rests_62 lg4 ?_
              refine cl_M_199 (c_M_findRests l V S hn hK hH hd f h s x hf hh hs (by omega)) d_M_rests_64 rfl rfl (g_ftM (by decide)) (Nat.le_of_ble_eq_true rfl) ?_
              rintro _ W S2 ⟨hS2, rfl, hR⟩
              rw [hS2]
              have hrl := q_rc_le (ok := (D_okb (g_rg (g_cv V) s x 7) f h)) 16
              rw [← hR.2.2.1] at hrl
              refine j_iload d_M_rests_67 lg5 ?_
              refine j_if_neN (tgt := 79) d_M_rests_69 (by decide) (by omega) (fun h_69 => ?_) (fun h_69 => ?_)
              ·
                refine j_aload_n (i := 0) d_M_rests_79 rfl lg0 ?_
                refine gf_M_192 d_M_rests_80 ?_
                refine j_iret d_M_rests_83 ⟨rfl, by rw [if_neg (show ¬ nI w = 0 from fun q => h_69 ((nI_eq (by omega) (by decide)).mp (q.trans nI_0.symm))), ← hR.2.2.2], hR.1, hR.2.1⟩
              ·
                refine j_aload_n (i := 0) d_M_rests_72 rfl lg0 ?_
                refine gf_M_189 d_M_rests_73 ?_
                refine j_goto (tgt := 83) d_M_rests_76 (by decide) ?_
                refine j_iret d_M_rests_83 ⟨rfl, by rw [if_pos (show nI w = 0 from by rw [h_69]; rfl), ← hR.2.2.1], hR.1, hR.2.1⟩
            ·
              refine j_bipush (v := -2) d_M_rests_55 (by decide) ?_
              refine j_iret d_M_rests_57 ⟨rfl, by rw [if_pos ⟨Classical.not_not.mp h_10, Classical.not_not.mp h_18, Classical.not_not.mp h_26⟩, if_neg (fun q => by first | exact q.1 h_33 | exact h_41 q.2.1 | exact h_52 ((q_rng_in (k := 1) (by decide)).mpr q.2.2))], fun _ _ _ => rfl, fun _ _ _ => rfl⟩
      ·
        refine j_iconst (v := -1) d_M_rests_29 (by decide) ?_
        refine j_iret d_M_rests_30 ⟨rfl, by rw [if_neg (fun q => by first | exact h_10 q.1 | exact h_18 q.2.1 | exact h_26 q.2.2)], fun _ _ _ => rfl, fun _ _ _ => rfl⟩
