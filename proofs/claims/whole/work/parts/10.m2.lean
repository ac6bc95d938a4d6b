/-! The class: its loops over farms. -/
def q_brk (n : Nat) (s : Nat → Nat) (x : Nat) : Nat := q_or n (fun i => if s i < x then 1 <<< i else 0)
def q_pick (n : Nat) (w : Nat → Nat) (b : Nat) : Nat := q_sum n (fun i => if b.testBit i = true then w i else 0)
def q_lack (n : Nat) (s : Nat → Nat) (b x : Nat) : Nat := q_sum n (fun i => if b.testBit i = true then x - s i else 0)
def q_up (d : Nat) : Nat → Nat → Nat
  | 0, b => b
  | k + 1, b => if (q_up d k b).testBit k = true ∧ ¬ d.testBit k = true then q_up d k b ||| 1 <<< (k + 1) else q_up d k b
def q_dn (d : Nat) : Nat → Nat → Nat
  | 0, c => c
  | k + 1, c => q_dn d k (if c.testBit (k + 1) = true ∧ ¬ d.testBit k = true then c ||| 1 <<< k else c)
/-- which lands are wet, where the stretches b broke: n farms, dams d -/
def q_wet (n d b : Nat) : Nat := q_dn d (n - 1) (q_up d (n - 1) b)
theorem q_bit_lt {k m : Nat} (h : k < m) : 1 <<< k < 2 ^ m := by
  rw [Nat.one_shiftLeft]; exact Nat.pow_lt_pow_right (by decide) h
theorem q_brk_lt {n x m : Nat} {s : Nat → Nat} (h : n ≤ m) : q_brk n s x < 2 ^ m := q_or_lt (fun i hi => by
  show (if s i < x then 1 <<< i else 0) < _
  split
  · exact q_bit_lt (by omega)
  · exact Nat.two_pow_pos m)
theorem q_up_lt {d b m : Nat} (hb : b < 2 ^ m) : ∀ {k : Nat}, k < m → q_up d k b < 2 ^ m
  | 0, _ => hb
  | k + 1, h => by
    show (if _ then _ else _) < _
    have := q_up_lt (d := d) hb (k := k) (by omega)
    split
    · exact Nat.or_lt_two_pow this (q_bit_lt h)
    · exact this
theorem q_dn_lt {d m : Nat} : ∀ {k c : Nat}, c < 2 ^ m → k < m → q_dn d k c < 2 ^ m
  | 0, _, hc, _ => hc
  | k + 1, c, hc, h => by
    show q_dn d k _ < _
    refine q_dn_lt ?_ (by omega)
    split
    · exact Nat.or_lt_two_pow hc (q_bit_lt (by omega))
    · exact hc
theorem q_wet_lt {n d b : Nat} (hn : n ≤ 6) (hb : b < 64) : q_wet n d b < 64 := q_dn_lt (m := 6) (q_up_lt (m := 6) hb (by omega)) (by omega)
/-- the loops that count down -/
def g_dn (i : Int32) (k : Nat) : Prop := (i < 0 ∧ k = 0) ∨ (1 ≤ k ∧ i = nI (k - 1))
theorem g_neg1 : Int32.ofInt (-1) = - nI 1 := by decide
theorem g_dn_dec {k : Nat} : g_dn (nI k + Int32.ofInt (-1)) k := by
  rcases Nat.eq_zero_or_pos k with rfl | h
  · exact Or.inl ⟨by decide, rfl⟩
  · exact Or.inr ⟨h, by rw [g_neg1, ← Int32.sub_eq_add_neg, nI_sub h]⟩
theorem g_dn_2 {n : Nat} : g_dn (nI n - nI 2) (n - 1) := by
  rcases (by omega : n = 0 ∨ n = 1 ∨ 2 ≤ n) with rfl | rfl | h
  · exact Or.inl ⟨by decide, rfl⟩
  · exact Or.inl ⟨by decide, rfl⟩
  · exact Or.inr ⟨by omega, by rw [nI_sub h]; congr 1⟩
theorem g_dn_pos {i : Int32} {k : Nat} (h : g_dn i k) (h0 : ¬ i < 0) : ∃ k' : Nat, k = k' + 1 ∧ i = nI k' := by
  rcases h with h | ⟨h, e⟩
  · exact absurd h.1 h0
  · exact ⟨k - 1, by omega, e⟩
theorem g_dn_neg {i : Int32} {k : Nat} (h : g_dn i k) (h0 : i < 0) (hk : k < 2 ^ 31) : k = 0 := by
  rcases h with h | ⟨h, e⟩
  · exact h.2
  · rw [e] at h0; exact absurd h0 (nI_pos (by omega))
theorem g_le1 {n i : Nat} (hn : n < 2 ^ 31) (hi : i < 2 ^ 31) : nI n - nI 1 ≤ nI i ↔ n ≤ i + 1 := by
  rcases Nat.eq_zero_or_pos n with rfl | h
  · constructor
    · intro _; omega
    · intro _
      rw [Int32.le_iff_toInt_le, nI_toInt hi]
      have : (nI 0 - nI 1 : Int32).toInt = -1 := by decide
      omega
  · rw [nI_sub h, nI_leI (by omega) hi]; omega
def D_str (V : g_V) (i : Nat) : Nat := q_str (V 5 i) (V 3 i) (V (hB 0 + 1) i)
def g_H (V : g_V) (c : Nat) : Prop := ∀ i, i < 6 → V c i ≤ 15
theorem D_str_lt {V : g_V} (hK : g_K V) (hH : g_H V (hB 0 + 1)) {i : Nat} (hi : i < 6) : D_str V i < 2000 := q_str_lt (hK i hi).1 (by have := hH i hi; omega)
set_option maxRecDepth 4000 in
theorem lp_D_brokenBy {G : g_G} (l : Launch) (V : g_V) (S : g_L) (hn : V 0 1 ≤ 6) (hK : g_K V) (hH : g_H V (hB 0 + 1)) (x : Nat) (hx : x ≤ 20) : ∀ (n : Nat) (i b : Nat), (i ≤ V 0 1) → (b = q_brk i (D_str V) x) → V 0 1 - i < n → JW G (g_M G l 2 (some .int) (fun r V' S' => r = some (.int (nI (q_brk (V 0 1) (D_str V) x))) ∧ V' = V ∧ S' = S)) b_D_brokenBy R_D 4 [some (.ref (g_a G (0))), some (.int (nI (x))), some (.int (nI (b))), some (.int (nI (i)))] [] V S := by
  intro n
  induction n with
  | zero => intro i b hi hb hm; exact absurd hm (Nat.not_lt_zero _)
  | succ n ih =>
    intro i b hi hb hm
    refine j_iload_n (i := 3) d_D_brokenBy_4 rfl lg3 ?_
    refine j_aload_n (i := 0) d_D_brokenBy_5 rfl lg0 ?_
    refine gf_D_69 d_D_brokenBy_6 ?_
    refine j_icmp_geN (tgt := 43) d_D_brokenBy_9 (by decide) (by omega) (by omega) (fun h_9 => ?_) (fun h_9 => ?_)
    ·
      refine j_iload_n (i := 2) d_D_brokenBy_43 rfl lg2 ?_
      refine j_iret d_D_brokenBy_44 ⟨by rw [hb, show i = V 0 1 by omega], rfl, rfl⟩
    ·
      refine j_iload_n (i := 1) d_D_brokenBy_12 rfl lg1 ?_
      refine j_aload_n (i := 0) d_D_brokenBy_13 rfl lg0 ?_
      refine j_iload_n (i := 3) d_D_brokenBy_14 rfl lg3 ?_
      refine j_aload_n (i := 0) d_D_brokenBy_15 rfl lg0 ?_
      refine gf_D_29 d_D_brokenBy_16 ?_
      refine gf_D_117 (j := 0) (by decide) d_D_brokenBy_19 ?_
      refine j_iload_n (i := 3) d_D_brokenBy_22 rfl lg3 ?_
      refine j_iald d_D_brokenBy_23 (gI_h1 (by decide)) (by omega) ?_
      have hs := D_str_lt hK hH (i := i) (by omega)
      unfold D_str at hs
      refine cl_D_126 (c_D_strengthAt l V S (i) (V (hB 0 + 1) (i)) (by omega) (hK (i) (by omega)).2.2) d_D_brokenBy_24 rfl rfl (g_ftM (by decide)) (Nat.le_of_ble_eq_true rfl) (g_pu ?_)
      refine j_icmp_leN (tgt := 37) d_D_brokenBy_27 (by decide) (by omega) (by omega) (fun h_27 => ?_) (fun h_27 => ?_)
      ·
        refine j_iincN (k := 1) d_D_brokenBy_37 lg3 (by decide) ls3i ?_
        refine j_goto (tgt := 4) d_D_brokenBy_40 (by decide) ?_
        exact ih (i + 1) _ (by omega) (by rw [hb]; show _ = q_or i _ ||| (if _ then _ else _); rw [if_neg (show ¬ D_str V i < x from Nat.not_lt.mpr h_27), Nat.or_zero]; rfl) (by omega)
      ·
        refine j_iload_n (i := 2) d_D_brokenBy_30 rfl lg2 ?_
        refine j_iload_n (i := 3) d_D_brokenBy_31 rfl lg3 ?_
        refine cl_D_98 (c_D_bit l V S (i) (by omega)) d_D_brokenBy_32 rfl rfl (g_ftM (by decide)) (Nat.le_of_ble_eq_true rfl) (g_pu ?_)
        refine j_iorN d_D_brokenBy_35 ?_
        refine j_istore_n d_D_brokenBy_36 rfl ls2i ?_
        refine j_iincN (k := 1) d_D_brokenBy_37 lg3 (by decide) ls3i ?_
        refine j_goto (tgt := 4) d_D_brokenBy_40 (by decide) ?_
        exact ih (i + 1) _ (by omega) (by rw [hb]; show _ = q_or i _ ||| (if _ then _ else _); rw [if_pos (show D_str V i < x from h_27)]; rfl) (by omega)
set_option maxRecDepth 4000 in
theorem c_D_brokenBy {G : g_G} (l : Launch) (V : g_V) (S : g_L) (hn : V 0 1 ≤ 6) (hK : g_K V) (hH : g_H V (hB 0 + 1)) (x : Nat) (hx : x ≤ 20) : g_C G l y_D_brokenBy b_D_brokenBy 4 (some .int) 2 [.ref (g_a G (0)), .int (nI (x))] V S (fun r V' S' => r = some (.int (nI (q_brk (V 0 1) (D_str V) x))) ∧ V' = V ∧ S' = S) := by
  refine g_C.of (lv := [some (.ref (g_a G (0))), some (.int (nI (x))), none, none]) (by decide +kernel) rfl rfl rfl (Nat.le_of_ble_eq_true rfl) ?_
  refine j_iconstN (k := 0) d_D_brokenBy_0 (by decide) ?_
  refine j_istore_n d_D_brokenBy_1 rfl ls2i ?_
  refine j_iconstN (k := 0) d_D_brokenBy_2 (by decide) ?_
  refine j_istore_n d_D_brokenBy_3 rfl ls3i ?_
  exact lp_D_brokenBy l V S hn hK hH x hx _ 0 0 (by omega) rfl (Nat.lt_succ_self _)
set_option maxRecDepth 4000 in
theorem lp_D_worthOf {G : g_G} (l : Launch) (V : g_V) (S : g_L) (hn : V 0 1 ≤ 6) (hW : ∀ i, i < 6 → V 4 i ≤ 9) (b : Nat) (hb : b < 64) : ∀ (n : Nat) (i s : Nat), (i ≤ V 0 1) → (s = q_pick i (V 4) b) → V 0 1 - i < n → JW G (g_M G l 2 (some .int) (fun r V' S' => r = some (.int (nI (q_pick (V 0 1) (V 4) b))) ∧ V' = V ∧ S' = S)) b_D_worthOf R_D 4 [some (.ref (g_a G (0))), some (.int (nI (b))), some (.int (nI (s))), some (.int (nI (i)))] [] V S := by
  intro n
  induction n with
  | zero => intro i s hi hs hm; exact absurd hm (Nat.not_lt_zero _)
  | succ n ih =>
    intro i s hi hs hm
    refine j_iload_n (i := 3) d_D_worthOf_4 rfl lg3 ?_
    refine j_aload_n (i := 0) d_D_worthOf_5 rfl lg0 ?_
    refine gf_D_69 d_D_worthOf_6 ?_
    refine j_icmp_geN (tgt := 35) d_D_worthOf_9 (by decide) (by omega) (by omega) (fun h_9 => ?_) (fun h_9 => ?_)
    ·
      refine j_iload_n (i := 2) d_D_worthOf_35 rfl lg2 ?_
      refine j_iret d_D_worthOf_36 ⟨by rw [hs, show i = V 0 1 by omega], rfl, rfl⟩
    ·
      refine j_iload_n (i := 1) d_D_worthOf_12 rfl lg1 ?_
      refine j_iload_n (i := 3) d_D_worthOf_13 rfl lg3 ?_
      refine cl_D_150 (c_D_has l V S (b) (i) (by omega) (by omega)) d_D_worthOf_14 rfl rfl (g_ftM (by decide)) (Nat.le_of_ble_eq_true rfl) (g_pu ?_)
      refine j_if_eqB (tgt := 29) d_D_worthOf_17 (by decide) (fun h_17 => ?_) (fun h_17 => ?_)
      ·
        refine j_iincN (k := 1) d_D_worthOf_29 lg3 (by decide) ls3i ?_
        refine j_goto (tgt := 4) d_D_worthOf_32 (by decide) ?_
        exact ih (i + 1) _ (by omega) (by rw [hs]; show _ = q_sum i _ + (if _ then _ else _); rw [if_neg h_17]; rfl) (by omega)
      ·
        refine j_iload_n (i := 2) d_D_worthOf_20 rfl lg2 ?_
        refine j_aload_n (i := 0) d_D_worthOf_21 rfl lg0 ?_
        refine gf_D_20 d_D_worthOf_22 ?_
        refine j_iload_n (i := 3) d_D_worthOf_25 rfl lg3 ?_
        refine j_iald d_D_worthOf_26 gI_4 (by omega) ?_
        refine j_iaddN d_D_worthOf_27 ?_
        refine j_istore_n d_D_worthOf_28 rfl ls2i ?_
        refine j_iincN (k := 1) d_D_worthOf_29 lg3 (by decide) ls3i ?_
        refine j_goto (tgt := 4) d_D_worthOf_32 (by decide) ?_
        exact ih (i + 1) _ (by omega) (by rw [hs]; show _ = q_sum i _ + (if _ then _ else _); rw [if_pos h_17]; rfl) (by omega)
set_option maxRecDepth 4000 in
theorem c_D_worthOf {G : g_G} (l : Launch) (V : g_V) (S : g_L) (hn : V 0 1 ≤ 6) (hW : ∀ i, i < 6 → V 4 i ≤ 9) (b : Nat) (hb : b < 64) : g_C G l y_D_worthOf b_D_worthOf 4 (some .int) 2 [.ref (g_a G (0)), .int (nI (b))] V S (fun r V' S' => r = some (.int (nI (q_pick (V 0 1) (V 4) b))) ∧ V' = V ∧ S' = S) := by
  refine g_C.of (lv := [some (.ref (g_a G (0))), some (.int (nI (b))), none, none]) (by decide +kernel) rfl rfl rfl (Nat.le_of_ble_eq_true rfl) ?_
  refine j_iconstN (k := 0) d_D_worthOf_0 (by decide) ?_
  refine j_istore_n d_D_worthOf_1 rfl ls2i ?_
  refine j_iconstN (k := 0) d_D_worthOf_2 (by decide) ?_
  refine j_istore_n d_D_worthOf_3 rfl ls3i ?_
  exact lp_D_worthOf l V S hn hW b hb _ 0 0 (by omega) rfl (Nat.lt_succ_self _)
set_option maxRecDepth 4000 in
theorem lp_D_clayOf {G : g_G} (l : Launch) (V : g_V) (S : g_L) (hn : V 0 1 ≤ 6) (hW : ∀ i, i < 6 → V (hB 0 + 2) i ≤ 1000) (b : Nat) (hb : b < 64) : ∀ (n : Nat) (i s : Nat), (i ≤ V 0 1) → (s = q_pick i (V (hB 0 + 2)) b) → V 0 1 - i < n → JW G (g_M G l 2 (some .int) (fun r V' S' => r = some (.int (nI (q_pick (V 0 1) (V (hB 0 + 2)) b))) ∧ V' = V ∧ S' = S)) b_D_clayOf R_D 4 [some (.ref (g_a G (0))), some (.int (nI (b))), some (.int (nI (s))), some (.int (nI (i)))] [] V S := by
  intro n
  induction n with
  | zero => intro i s hi hs hm; exact absurd hm (Nat.not_lt_zero _)
  | succ n ih =>
    intro i s hi hs hm
    refine j_iload_n (i := 3) d_D_clayOf_4 rfl lg3 ?_
    refine j_aload_n (i := 0) d_D_clayOf_5 rfl lg0 ?_
    refine gf_D_69 d_D_clayOf_6 ?_
    refine j_icmp_geN (tgt := 38) d_D_clayOf_9 (by decide) (by omega) (by omega) (fun h_9 => ?_) (fun h_9 => ?_)
    ·
      refine j_iload_n (i := 2) d_D_clayOf_38 rfl lg2 ?_
      refine j_iret d_D_clayOf_39 ⟨by rw [hs, show i = V 0 1 by omega], rfl, rfl⟩
    ·
      refine j_iload_n (i := 1) d_D_clayOf_12 rfl lg1 ?_
      refine j_iload_n (i := 3) d_D_clayOf_13 rfl lg3 ?_
      refine cl_D_150 (c_D_has l V S (b) (i) (by omega) (by omega)) d_D_clayOf_14 rfl rfl (g_ftM (by decide)) (Nat.le_of_ble_eq_true rfl) (g_pu ?_)
      refine j_if_eqB (tgt := 32) d_D_clayOf_17 (by decide) (fun h_17 => ?_) (fun h_17 => ?_)
      ·
        refine j_iincN (k := 1) d_D_clayOf_32 lg3 (by decide) ls3i ?_
        refine j_goto (tgt := 4) d_D_clayOf_35 (by decide) ?_
        exact ih (i + 1) _ (by omega) (by rw [hs]; show _ = q_sum i _ + (if _ then _ else _); rw [if_neg h_17]; rfl) (by omega)
      ·
        refine j_iload_n (i := 2) d_D_clayOf_20 rfl lg2 ?_
        refine j_aload_n (i := 0) d_D_clayOf_21 rfl lg0 ?_
        refine gf_D_29 d_D_clayOf_22 ?_
        refine gf_D_120 (j := 0) (by decide) d_D_clayOf_25 ?_
        refine j_iload_n (i := 3) d_D_clayOf_28 rfl lg3 ?_
        refine j_iald d_D_clayOf_29 (gI_h2 (by decide)) (by omega) ?_
        refine j_iaddN d_D_clayOf_30 ?_
        refine j_istore_n d_D_clayOf_31 rfl ls2i ?_
        refine j_iincN (k := 1) d_D_clayOf_32 lg3 (by decide) ls3i ?_
        refine j_goto (tgt := 4) d_D_clayOf_35 (by decide) ?_
        exact ih (i + 1) _ (by omega) (by rw [hs]; show _ = q_sum i _ + (if _ then _ else _); rw [if_pos h_17]; rfl) (by omega)
set_option maxRecDepth 4000 in
theorem c_D_clayOf {G : g_G} (l : Launch) (V : g_V) (S : g_L) (hn : V 0 1 ≤ 6) (hW : ∀ i, i < 6 → V (hB 0 + 2) i ≤ 1000) (b : Nat) (hb : b < 64) : g_C G l y_D_clayOf b_D_clayOf 4 (some .int) 2 [.ref (g_a G (0)), .int (nI (b))] V S (fun r V' S' => r = some (.int (nI (q_pick (V 0 1) (V (hB 0 + 2)) b))) ∧ V' = V ∧ S' = S) := by
  refine g_C.of (lv := [some (.ref (g_a G (0))), some (.int (nI (b))), none, none]) (by decide +kernel) rfl rfl rfl (Nat.le_of_ble_eq_true rfl) ?_
  refine j_iconstN (k := 0) d_D_clayOf_0 (by decide) ?_
  refine j_istore_n d_D_clayOf_1 rfl ls2i ?_
  refine j_iconstN (k := 0) d_D_clayOf_2 (by decide) ?_
  refine j_istore_n d_D_clayOf_3 rfl ls3i ?_
  exact lp_D_clayOf l V S hn hW b hb _ 0 0 (by omega) rfl (Nat.lt_succ_self _)
theorem g_maxs {x s : Nat} (hx : x < 2 ^ 31) (hs : s < 2 ^ 31) : (if nI x - nI s < nI 0 then nI 0 else nI x - nI s) = nI (x - s) := by
  rcases Nat.lt_or_ge s x with h | h
  · rw [nI_sub (by omega), if_neg (nI_nlt (Nat.zero_le _) (by omega))]
  · rw [show x - s = 0 by omega]
    split
    · rfl
    · rename_i q
      have e : (nI x - nI s).toInt = (x : Int) - s := by
        rw [Int32.toInt_sub, nI_toInt hx, nI_toInt hs]
        exact Int.bmod_eq_of_le (by omega) (by omega)
      rw [Int32.lt_iff_toInt_lt, e, nI_toInt (by decide)] at q
      have : x = s := by omega
      rw [this, Int32.sub_self]
      rfl
set_option maxRecDepth 4000 in
theorem lp_D_lackOf {G : g_G} (l : Launch) (V : g_V) (S : g_L) (hn : V 0 1 ≤ 6) (hK : g_K V) (hH : g_H V (hB 0 + 1)) (b x : Nat) (hb : b < 64) (hx : x ≤ 20) : ∀ (n : Nat) (i s : Nat), (i ≤ V 0 1) → (s = q_lack i (D_str V) b x) → V 0 1 - i < n → JW G (g_M G l 2 (some .int) (fun r V' S' => r = some (.int (nI (q_lack (V 0 1) (D_str V) b x))) ∧ V' = V ∧ S' = S)) b_D_lackOf R_D 5 [some (.ref (g_a G (0))), some (.int (nI (b))), some (.int (nI (x))), some (.int (nI (s))), some (.int (nI (i)))] [] V S := by
  intro n
  induction n with
  | zero => intro i s hi hs hm; exact absurd hm (Nat.not_lt_zero _)
  | succ n ih =>
    intro i s hi hs hm
    refine j_iload d_D_lackOf_5 lg4 ?_
    refine j_aload_n (i := 0) d_D_lackOf_7 rfl lg0 ?_
    refine gf_D_69 d_D_lackOf_8 ?_
    refine j_icmp_geN (tgt := 54) d_D_lackOf_11 (by decide) (by omega) (by omega) (fun h_11 => ?_) (fun h_11 => ?_)
    ·
      refine j_iload_n (i := 3) d_D_lackOf_54 rfl lg3 ?_
      refine j_iret d_D_lackOf_55 ⟨by rw [hs, show i = V 0 1 by omega], rfl, rfl⟩
    ·
      refine j_iload_n (i := 1) d_D_lackOf_14 rfl lg1 ?_
      refine j_iload d_D_lackOf_15 lg4 ?_
      refine cl_D_150 (c_D_has l V S (b) (i) (by omega) (by omega)) d_D_lackOf_17 rfl rfl (g_ftM (by decide)) (Nat.le_of_ble_eq_true rfl) (g_pu ?_)
      refine j_if_eqB (tgt := 48) d_D_lackOf_20 (by decide) (fun h_20 => ?_) (fun h_20 => ?_)
      ·
        refine j_iincN (k := 1) d_D_lackOf_48 lg4 (by decide) ls4i ?_
        refine j_goto (tgt := 5) d_D_lackOf_51 (by decide) ?_
        exact ih (i + 1) _ (by omega) (by rw [hs]; show _ = q_sum i _ + (if _ then _ else _); rw [if_neg h_20]; rfl) (by omega)
      ·
        refine j_iload_n (i := 3) d_D_lackOf_23 rfl lg3 ?_
        refine j_iload_n (i := 2) d_D_lackOf_24 rfl lg2 ?_
        refine j_aload_n (i := 0) d_D_lackOf_25 rfl lg0 ?_
        refine j_iload d_D_lackOf_26 lg4 ?_
        refine j_aload_n (i := 0) d_D_lackOf_28 rfl lg0 ?_
        refine gf_D_29 d_D_lackOf_29 ?_
        refine gf_D_117 (j := 0) (by decide) d_D_lackOf_32 ?_
        refine j_iload d_D_lackOf_35 lg4 ?_
        refine j_iald d_D_lackOf_37 (gI_h1 (by decide)) (by omega) ?_
        have hq := D_str_lt hK hH (i := i) (by omega)
        unfold D_str at hq
        refine cl_D_126 (c_D_strengthAt l V S (i) (V (hB 0 + 1) (i)) (by omega) (hK (i) (by omega)).2.2) d_D_lackOf_38 rfl rfl (g_ftM (by decide)) (Nat.le_of_ble_eq_true rfl) (g_pu ?_)
        refine j_isub d_D_lackOf_41 ?_
        refine j_iconstN (k := 0) d_D_lackOf_42 (by decide) ?_
        refine cm_D_227 d_D_lackOf_43 (g_ftM (by decide)) (Nat.le_of_ble_eq_true rfl) ?_
        rw [g_maxs (by omega) (by omega)]
        refine j_iaddN d_D_lackOf_46 ?_
        refine j_istore_n d_D_lackOf_47 rfl ls3i ?_
        refine j_iincN (k := 1) d_D_lackOf_48 lg4 (by decide) ls4i ?_
        refine j_goto (tgt := 5) d_D_lackOf_51 (by decide) ?_
        exact ih (i + 1) _ (by omega) (by rw [hs]; show _ = q_sum i _ + (if _ then _ else _); rw [if_pos h_20]; rfl) (by omega)
set_option maxRecDepth 4000 in
theorem c_D_lackOf {G : g_G} (l : Launch) (V : g_V) (S : g_L) (hn : V 0 1 ≤ 6) (hK : g_K V) (hH : g_H V (hB 0 + 1)) (b x : Nat) (hb : b < 64) (hx : x ≤ 20) : g_C G l y_D_lackOf b_D_lackOf 5 (some .int) 2 [.ref (g_a G (0)), .int (nI (b)), .int (nI (x))] V S (fun r V' S' => r = some (.int (nI (q_lack (V 0 1) (D_str V) b x))) ∧ V' = V ∧ S' = S) := by
  refine g_C.of (lv := [some (.ref (g_a G (0))), some (.int (nI (b))), some (.int (nI (x))), none, none]) (by decide +kernel) rfl rfl rfl (Nat.le_of_ble_eq_true rfl) ?_
  refine j_iconstN (k := 0) d_D_lackOf_0 (by decide) ?_
  refine j_istore_n d_D_lackOf_1 rfl ls3i ?_
  refine j_iconstN (k := 0) d_D_lackOf_2 (by decide) ?_
  refine j_istore d_D_lackOf_3 ls4i ?_
  exact lp_D_lackOf l V S hn hK hH b x hb hx _ 0 0 (by omega) rfl (Nat.lt_succ_self _)
set_option maxRecDepth 4000 in
theorem lp_D_wetBy2 {G : g_G} (l : Launch) (V : g_V) (S : g_L) (hn : V 0 1 ≤ 6) (hd : V (hB 0) 5 < 64) (b : Nat) (hb : b < 64) : ∀ (n : Nat) (k c : Nat) (i : Int32), (g_dn i k) → (k ≤ 5) → (c < 64) → (q_wet (V 0 1) (V (hB 0) 5) b = q_dn (V (hB 0) 5) k c) → k < n → JW G (g_M G l 2 (some .int) (fun r V' S' => r = some (.int (nI (q_wet (V 0 1) (V (hB 0) 5) b))) ∧ V' = V ∧ S' = S)) b_D_wetBy R_D 58 [some (.ref (g_a G (0))), some (.int (nI (b))), some (.int (nI (c))), some (.int (i))] [] V S := by
  intro n
  induction n with
  | zero => intro k c i hi hk hc he hm; exact absurd hm (Nat.not_lt_zero _)
  | succ n ih =>
    intro k c i hi hk hc he hm
    refine j_iload_n (i := 3) d_D_wetBy_58 rfl lg3 ?_
    refine j_if_lt (tgt := 99) d_D_wetBy_59 (by decide) (fun h_59 => ?_) (fun h_59 => ?_)
    ·
      refine j_iload_n (i := 2) d_D_wetBy_99 rfl lg2 ?_
      refine j_iret d_D_wetBy_100 ⟨by rw [he, g_dn_neg hi h_59 (by omega)]; rfl, rfl, rfl⟩
    ·
      obtain ⟨k', rfl, rfl⟩ := g_dn_pos hi h_59
      refine j_iload_n (i := 2) d_D_wetBy_62 rfl lg2 ?_
      refine j_iload_n (i := 3) d_D_wetBy_63 rfl lg3 ?_
      refine j_iconstN (k := 1) d_D_wetBy_64 (by decide) ?_
      refine j_iaddN d_D_wetBy_65 ?_
      refine cl_D_150 (c_D_has l V S (c) (k' + 1) (by omega) (by omega)) d_D_wetBy_66 rfl rfl (g_ftM (by decide)) (Nat.le_of_ble_eq_true rfl) (g_pu ?_)
      refine j_if_eqB (tgt := 93) d_D_wetBy_69 (by decide) (fun h_69 => ?_) (fun h_69 => ?_)
      ·
        refine j_iinc d_D_wetBy_93 lg3 rfl ls3i ?_
        refine j_goto (tgt := 58) d_D_wetBy_96 (by decide) ?_
        exact ih k' _ _ g_dn_dec (by omega) hc (by rw [he]; show q_dn _ k' (if _ then _ else _) = _; rw [if_neg (fun q => by first | exact h_69 q.1 | exact q.2 h_83)]) (by omega)
      ·
        refine j_aload_n (i := 0) d_D_wetBy_72 rfl lg0 ?_
        refine gf_D_29 d_D_wetBy_73 ?_
        refine gf_D_92 (j := 0) (by decide) d_D_wetBy_76 ?_
        refine j_iload_n (i := 3) d_D_wetBy_79 rfl lg3 ?_
        refine cl_D_150 (c_D_has l V S (V (hB 0) 5) (k') (by omega) (by omega)) d_D_wetBy_80 rfl rfl (g_ftM (by decide)) (Nat.le_of_ble_eq_true rfl) (g_pu ?_)
        refine j_if_neB (tgt := 93) d_D_wetBy_83 (by decide) (fun h_83 => ?_) (fun h_83 => ?_)
        ·
          refine j_iinc d_D_wetBy_93 lg3 rfl ls3i ?_
          refine j_goto (tgt := 58) d_D_wetBy_96 (by decide) ?_
          exact ih k' _ _ g_dn_dec (by omega) hc (by rw [he]; show q_dn _ k' (if _ then _ else _) = _; rw [if_neg (fun q => by first | exact h_69 q.1 | exact q.2 h_83)]) (by omega)
        ·
          refine j_iload_n (i := 2) d_D_wetBy_86 rfl lg2 ?_
          refine j_iload_n (i := 3) d_D_wetBy_87 rfl lg3 ?_
          refine cl_D_98 (c_D_bit l V S (k') (by omega)) d_D_wetBy_88 rfl rfl (g_ftM (by decide)) (Nat.le_of_ble_eq_true rfl) (g_pu ?_)
          refine j_iorN d_D_wetBy_91 ?_
          refine j_istore_n d_D_wetBy_92 rfl ls2i ?_
          refine j_iinc d_D_wetBy_93 lg3 rfl ls3i ?_
          refine j_goto (tgt := 58) d_D_wetBy_96 (by decide) ?_
          exact ih k' _ _ g_dn_dec (by omega) (Nat.or_lt_two_pow (n := 6) hc (q_bit_lt (by omega))) (by rw [he]; show q_dn _ k' (if _ then _ else _) = _; rw [if_pos ⟨h_69, h_83⟩]) (by omega)
set_option maxRecDepth 4000 in
theorem lp_D_wetBy1 {G : g_G} (l : Launch) (V : g_V) (S : g_L) (hn : V 0 1 ≤ 6) (hd : V (hB 0) 5 < 64) (b : Nat) (hb : b < 64) : ∀ (n : Nat) (i c : Nat), (i ≤ V 0 1 - 1) → (c = q_up (V (hB 0) 5) i b) → V 0 1 - 1 - i < n → JW G (g_M G l 2 (some .int) (fun r V' S' => r = some (.int (nI (q_wet (V 0 1) (V (hB 0) 5) b))) ∧ V' = V ∧ S' = S)) b_D_wetBy R_D 4 [some (.ref (g_a G (0))), some (.int (nI (b))), some (.int (nI (c))), some (.int (nI (i)))] [] V S := by
  intro n
  induction n with
  | zero => intro i c hi hc hm; exact absurd hm (Nat.not_lt_zero _)
  | succ n ih =>
    intro i c hi hc hm
    have hc6 : c < 64 := by rw [hc]; exact q_up_lt (m := 6) hb (by omega)
    refine j_iload_n (i := 3) d_D_wetBy_4 rfl lg3 ?_
    refine j_aload_n (i := 0) d_D_wetBy_5 rfl lg0 ?_
    refine gf_D_69 d_D_wetBy_6 ?_
    refine j_iconstN (k := 1) d_D_wetBy_9 (by decide) ?_
    refine j_isub d_D_wetBy_10 ?_
    refine j_icmp_ge (tgt := 51) d_D_wetBy_11 (by decide) (fun h_11 => ?_) (fun h_11 => ?_)
    ·
      rw [g_le1 (by omega) (by omega)] at h_11
      refine j_aload_n (i := 0) d_D_wetBy_51 rfl lg0 ?_
      refine gf_D_69 d_D_wetBy_52 ?_
      refine j_iconstN (k := 2) d_D_wetBy_55 (by decide) ?_
      refine j_isub d_D_wetBy_56 ?_
      refine j_istore_n d_D_wetBy_57 rfl ls3i ?_
      exact lp_D_wetBy2 l V S hn hd b hb _ (V 0 1 - 1) _ _ g_dn_2 (by omega) hc6 (by rw [hc, show i = V 0 1 - 1 by omega]; rfl) (Nat.lt_succ_self _)
    ·
      rw [g_le1 (by omega) (by omega)] at h_11
      refine j_iload_n (i := 2) d_D_wetBy_14 rfl lg2 ?_
      refine j_iload_n (i := 3) d_D_wetBy_15 rfl lg3 ?_
      refine cl_D_150 (c_D_has l V S (c) (i) (by omega) (by omega)) d_D_wetBy_16 rfl rfl (g_ftM (by decide)) (Nat.le_of_ble_eq_true rfl) (g_pu ?_)
      refine j_if_eqB (tgt := 45) d_D_wetBy_19 (by decide) (fun h_19 => ?_) (fun h_19 => ?_)
      ·
        refine j_iincN (k := 1) d_D_wetBy_45 lg3 (by decide) ls3i ?_
        refine j_goto (tgt := 4) d_D_wetBy_48 (by decide) ?_
        exact ih (i + 1) _ (by omega) (by rw [hc]; show _ = (if _ then _ else _); rw [hc] at h_19; rw [if_neg (fun q => by first | exact h_19 q.1 | exact q.2 h_33)]) (by omega)
      ·
        refine j_aload_n (i := 0) d_D_wetBy_22 rfl lg0 ?_
        refine gf_D_29 d_D_wetBy_23 ?_
        refine gf_D_92 (j := 0) (by decide) d_D_wetBy_26 ?_
        refine j_iload_n (i := 3) d_D_wetBy_29 rfl lg3 ?_
        refine cl_D_150 (c_D_has l V S (V (hB 0) 5) (i) (by omega) (by omega)) d_D_wetBy_30 rfl rfl (g_ftM (by decide)) (Nat.le_of_ble_eq_true rfl) (g_pu ?_)
        refine j_if_neB (tgt := 45) d_D_wetBy_33 (by decide) (fun h_33 => ?_) (fun h_33 => ?_)
        ·
          refine j_iincN (k := 1) d_D_wetBy_45 lg3 (by decide) ls3i ?_
          refine j_goto (tgt := 4) d_D_wetBy_48 (by decide) ?_
          exact ih (i + 1) _ (by omega) (by rw [hc]; show _ = (if _ then _ else _); rw [hc] at h_19; rw [if_neg (fun q => by first | exact h_19 q.1 | exact q.2 h_33)]) (by omega)
        ·
          refine j_iload_n (i := 2) d_D_wetBy_36 rfl lg2 ?_
          refine j_iload_n (i := 3) d_D_wetBy_37 rfl lg3 ?_
          refine j_iconstN (k := 1) d_D_wetBy_38 (by decide) ?_
          refine j_iaddN d_D_wetBy_39 ?_
          refine cl_D_98 (c_D_bit l V S (i + 1) (by omega)) d_D_wetBy_40 rfl rfl (g_ftM (by decide)) (Nat.le_of_ble_eq_true rfl) (g_pu ?_)
          refine j_iorN d_D_wetBy_43 ?_
          refine j_istore_n d_D_wetBy_44 rfl ls2i ?_
          refine j_iincN (k := 1) d_D_wetBy_45 lg3 (by decide) ls3i ?_
          refine j_goto (tgt := 4) d_D_wetBy_48 (by decide) ?_
          exact ih (i + 1) _ (by omega) (by rw [hc]; show _ = (if _ then _ else _); rw [hc] at h_19; rw [if_pos ⟨h_19, h_33⟩]) (by omega)
set_option maxRecDepth 4000 in
theorem c_D_wetBy {G : g_G} (l : Launch) (V : g_V) (S : g_L) (hn : V 0 1 ≤ 6) (hd : V (hB 0) 5 < 64) (b : Nat) (hb : b < 64) : g_C G l y_D_wetBy b_D_wetBy 4 (some .int) 2 [.ref (g_a G (0)), .int (nI (b))] V S (fun r V' S' => r = some (.int (nI (q_wet (V 0 1) (V (hB 0) 5) b))) ∧ V' = V ∧ S' = S) := by
  refine g_C.of (lv := [some (.ref (g_a G (0))), some (.int (nI (b))), none, none]) (by decide +kernel) rfl rfl rfl (Nat.le_of_ble_eq_true rfl) ?_
  refine j_iload_n (i := 1) d_D_wetBy_0 rfl lg1 ?_
  refine j_istore_n d_D_wetBy_1 rfl ls2i ?_
  refine j_iconstN (k := 0) d_D_wetBy_2 (by decide) ?_
  refine j_istore_n d_D_wetBy_3 rfl ls3i ?_
  exact lp_D_wetBy1 l V S hn hd b hb _ 0 b (by omega) rfl (Nat.lt_succ_self _)
/-- NET of f out of k others, as the machine adds it -/
def q_net (ow : Nat → Nat → Nat) (f : Nat) : Nat → Int32
  | 0 => 0
  | k + 1 => q_net ow f k + (nI (ow k f) - nI (ow f k))
def D_ow (V : g_V) (a b : Nat) : Nat := V (hB 0 + (5 + a)) b
set_option maxRecDepth 4000 in
theorem lp_D_netOf {G : g_G} (l : Launch) (V : g_V) (S : g_L) (hn : V 0 1 ≤ 6) (f : Nat) (hf : f < V 0 1) : ∀ (n : Nat) (i : Nat) (s : Int32), (i ≤ V 0 1) → (s = q_net (D_ow V) f i) → V 0 1 - i < n → JW G (g_M G l 1 (some .int) (fun r V' S' => r = some (.int (q_net (D_ow V) f (V 0 1))) ∧ V' = V ∧ S' = S)) b_D_netOf R_D 4 [some (.ref (g_a G (0))), some (.int (nI (f))), some (.int (s)), some (.int (nI (i)))] [] V S := by
  intro n
  induction n with
  | zero => intro i s hi hs hm; exact absurd hm (Nat.not_lt_zero _)
  | succ n ih =>
    intro i s hi hs hm
    refine j_iload_n (i := 3) d_D_netOf_4 rfl lg3 ?_
    refine j_aload_n (i := 0) d_D_netOf_5 rfl lg0 ?_
    refine gf_D_69 d_D_netOf_6 ?_
    refine j_icmp_geN (tgt := 44) d_D_netOf_9 (by decide) (by omega) (by omega) (fun h_9 => ?_) (fun h_9 => ?_)
    ·
      refine j_iload_n (i := 2) d_D_netOf_44 rfl lg2 ?_
      refine j_iret d_D_netOf_45 ⟨by rw [hs, show i = V 0 1 by omega], rfl, rfl⟩
    ·
      refine j_iload_n (i := 2) d_D_netOf_12 rfl lg2 ?_
      refine j_aload_n (i := 0) d_D_netOf_13 rfl lg0 ?_
      refine gf_D_29 d_D_netOf_14 ?_
      refine gf_D_130 (j := 0) (by decide) d_D_netOf_17 ?_
      refine j_iload_n (i := 3) d_D_netOf_20 rfl lg3 ?_
      refine j_aaldO (j := 0) d_D_netOf_21 (by decide) (by omega) ?_
      refine j_iload_n (i := 1) d_D_netOf_22 rfl lg1 ?_
      refine j_iald d_D_netOf_23 (gI_ho (by decide) (by omega)) (by omega) ?_
      refine j_aload_n (i := 0) d_D_netOf_24 rfl lg0 ?_
      refine gf_D_29 d_D_netOf_25 ?_
      refine gf_D_130 (j := 0) (by decide) d_D_netOf_28 ?_
      refine j_iload_n (i := 1) d_D_netOf_31 rfl lg1 ?_
      refine j_aaldO (j := 0) d_D_netOf_32 (by decide) (by omega) ?_
      refine j_iload_n (i := 3) d_D_netOf_33 rfl lg3 ?_
      refine j_iald d_D_netOf_34 (gI_ho (by decide) (by omega)) (by omega) ?_
      refine j_isub d_D_netOf_35 ?_
      refine j_iadd d_D_netOf_36 ?_
      refine j_istore_n d_D_netOf_37 rfl ls2i ?_
      refine j_iincN (k := 1) d_D_netOf_38 lg3 (by decide) ls3i ?_
      refine j_goto (tgt := 4) d_D_netOf_41 (by decide) ?_
      exact ih (i + 1) _ (by omega) (by rw [hs]; rfl) (by omega)
set_option maxRecDepth 4000 in
theorem c_D_netOf {G : g_G} (l : Launch) (V : g_V) (S : g_L) (hn : V 0 1 ≤ 6) (f : Nat) (hf : f < V 0 1) : g_C G l y_D_netOf b_D_netOf 4 (some .int) 1 [.ref (g_a G (0)), .int (nI (f))] V S (fun r V' S' => r = some (.int (q_net (D_ow V) f (V 0 1))) ∧ V' = V ∧ S' = S) := by
  refine g_C.of (lv := [some (.ref (g_a G (0))), some (.int (nI (f))), none, none]) (by decide +kernel) rfl rfl rfl (Nat.le_of_ble_eq_true rfl) ?_
  refine j_iconstN (k := 0) d_D_netOf_0 (by decide) ?_
  refine j_istore_n d_D_netOf_1 rfl ls2i ?_
  refine j_iconstN (k := 0) d_D_netOf_2 (by decide) ?_
  refine j_istore_n d_D_netOf_3 rfl ls3i ?_
  exact lp_D_netOf l V S hn f hf _ 0 0 (by omega) rfl (Nat.lt_succ_self _)
