/-! The class: who is wet, payings. -/
def q_cnt (f : Nat → Nat) (c : Nat) : Nat → Nat
  | 0 => 0
  | k + 1 => if f k = c then q_cnt f c k + 1 else q_cnt f c k
def q_alw (f : Nat → Nat) (c E : Nat) : Nat → Nat
  | 0 => E
  | k + 1 => if f k = c then q_alw f c E k &&& k else q_alw f c E k
def q_evr (f : Nat → Nat) (c : Nat) : Nat → Nat
  | 0 => 0
  | k + 1 => if f k = c then q_evr f c k ||| k else q_evr f c k
theorem q_cnt_le {f : Nat → Nat} {c : Nat} : ∀ k, q_cnt f c k ≤ k
  | 0 => Nat.le_refl _
  | k + 1 => by
    have := q_cnt_le (f := f) (c := c) k
    show (if f k = c then q_cnt f c k + 1 else q_cnt f c k) ≤ k + 1
    by_cases h : f k = c
    · rw [if_pos h]; omega
    · rw [if_neg h]; omega
theorem q_evr_lt {f : Nat → Nat} {c m : Nat} : ∀ {k}, k ≤ 2 ^ m → q_evr f c k < 2 ^ m
  | 0, _ => Nat.two_pow_pos m
  | k + 1, h => by
    show (if _ then _ else _) < _
    have := q_evr_lt (f := f) (c := c) (m := m) (k := k) (by omega)
    split
    · exact Nat.or_lt_two_pow this (by omega)
    · exact this
/-- which lands are wet by the set k -/
def D_wt (V : g_V) (k : Nat) : Nat := q_wet (V 0 1) (V (hB 0) 5) k
def D_wetr (V : g_V) (c : Nat) (w : Int32) : Int32 :=
  if w = 0 then nI (q_cnt (D_wt V) c (1 <<< V 0 1)) else if q_cnt (D_wt V) c (1 <<< V 0 1) = 0 then -9 else if w = 1 then nI (q_alw (D_wt V) c (1 <<< V 0 1 - 1) (1 <<< V 0 1)) else nI ((1 <<< V 0 1 - 1) &&& (63 ^^^ q_evr (D_wt V) c (1 <<< V 0 1)))
set_option maxRecDepth 4000 in
theorem lp_D_wet {G : g_G} (l : Launch) (V : g_V) (S : g_L) (hO : g_OK V) (c w : Nat) (hc : c < 64) (hw3 : w < 3) : ∀ (n : Nat) (i : Nat), (i ≤ 1 <<< V 0 1) → 1 <<< V 0 1 - i < n → JW G (g_M G l 3 (some .int) (fun r V' S' => r = some (.int (D_wetr V c (nI w))) ∧ V' = V ∧ S' = S)) b_D_wet R_D 38 [some (.ref (g_a G (0))), some (.int (nI (c))), some (.int (nI (w))), some (.int (nI (q_cnt (D_wt V) c i))), some (.int (nI (q_alw (D_wt V) c (1 <<< V 0 1 - 1) i))), some (.int (nI (q_evr (D_wt V) c i))), some (.int (nI (i)))] [] V S := by
  intro n
  induction n with
  | zero => intro i hi hm; exact absurd hm (Nat.not_lt_zero _)
  | succ n ih =>
    intro i hi hm
    have hn := hO.1.1
    have hK := hO.1.2.1
    have hT := hO.1.2.2
    have hH := (hO.2.2 0 (by decide)).1
    have hW := (hO.2.2 0 (by decide)).2.1
    have hsp := (hO.2.2 0 (by decide)).2.2.1
    have hdm := (hO.2.2 0 (by decide)).2.2.2.1
    have htd := (hO.2.2 0 (by decide)).2.2.2.2
    have hF := hO.2.1.1
    have hA := hO.2.1.2.1
    have hkp := hO.2.1.2.2
    have hE := g_E64 hn
    have hcn := q_cnt_le (f := D_wt V) (c := c) i
    refine j_iload d_D_wet_38 lg6 ?_
    refine j_aload_n (i := 0) d_D_wet_40 rfl lg0 ?_
    refine cl_D_107 (c_D_everyFarm l V S (by omega)) d_D_wet_41 rfl rfl (g_ftM (by decide)) (Nat.le_of_ble_eq_true rfl) (g_pu ?_)
    refine j_icmp_gtN (tgt := 80) d_D_wet_44 (by decide) (by omega) (by omega) (fun h_44 => ?_) (fun h_44 => ?_)
    ·
      obtain rfl : i = 1 <<< V 0 1 := by omega
      refine j_iload_n (i := 2) d_D_wet_80 rfl lg2 ?_
      refine j_if_neN (tgt := 86) d_D_wet_81 (by decide) (by omega) (fun h_81 => ?_) (fun h_81 => ?_)
      ·
        refine j_iload_n (i := 3) d_D_wet_86 rfl lg3 ?_
        refine j_if_neN (tgt := 93) d_D_wet_87 (by decide) (by omega) (fun h_87 => ?_) (fun h_87 => ?_)
        ·
          refine j_iload_n (i := 2) d_D_wet_93 rfl lg2 ?_
          refine j_iconstN (k := 1) d_D_wet_94 (by decide) ?_
          refine j_icmp_neN (tgt := 103) d_D_wet_95 (by decide) (by omega) (by omega) (fun h_95 => ?_) (fun h_95 => ?_)
          ·
            refine j_aload_n (i := 0) d_D_wet_103 rfl lg0 ?_
            refine cl_D_107 (c_D_everyFarm l V S (by omega)) d_D_wet_104 rfl rfl (g_ftM (by decide)) (Nat.le_of_ble_eq_true rfl) (g_pu ?_)
            refine j_iload d_D_wet_107 lg5 ?_
            refine j_iconst (v := -1) d_D_wet_109 (by decide) ?_
            refine j_ixor d_D_wet_110 ?_
            refine j_iand d_D_wet_111 ?_
            rw [g_not (by omega) (q_evr_lt (m := 6) (by omega))]
            refine j_iret d_D_wet_112 ⟨by unfold D_wetr; rw [if_neg (fun q => h_81 ((nI_eq (by omega) (by decide)).mp (q.trans nI_0.symm))), if_neg h_87, if_neg (show ¬ nI w = 1 from fun q => h_95 ((nI_eq (by omega) (by decide)).mp q))], rfl, rfl⟩
          ·
            refine j_iload d_D_wet_98 lg4 ?_
            refine j_goto (tgt := 112) d_D_wet_100 (by decide) ?_
            refine j_iret d_D_wet_112 ⟨by unfold D_wetr; rw [if_neg (fun q => h_81 ((nI_eq (by omega) (by decide)).mp (q.trans nI_0.symm))), if_neg h_87, if_pos (by rw [h_95]; rfl)], rfl, rfl⟩
        ·
          refine j_bipush (v := -9) d_D_wet_90 (by decide) ?_
          refine j_iret d_D_wet_92 ⟨by unfold D_wetr; rw [if_neg (fun q => h_81 ((nI_eq (by omega) (by decide)).mp (q.trans nI_0.symm))), if_pos h_87], rfl, rfl⟩
      ·
        refine j_iload_n (i := 3) d_D_wet_84 rfl lg3 ?_
        refine j_iret d_D_wet_85 ⟨by unfold D_wetr; rw [if_pos (by rw [h_81]; rfl)], rfl, rfl⟩
    ·
      refine j_aload_n (i := 0) d_D_wet_47 rfl lg0 ?_
      refine j_iload d_D_wet_48 lg6 ?_
      refine cl_D_144 (c_D_wetBy l V S (by omega) (by omega) (i) (by omega)) d_D_wet_50 rfl rfl (g_ftM (by decide)) (Nat.le_of_ble_eq_true rfl) (g_pu ?_)
      have hwl := q_wet_lt (d := V (hB 0) 5) hn (show i < 64 by omega)
      refine j_iload_n (i := 1) d_D_wet_53 rfl lg1 ?_
      refine j_icmp_neN (tgt := 74) d_D_wet_54 (by decide) (by omega) (by omega) (fun h_54 => ?_) (fun h_54 => ?_)
      ·
        have hw : ¬ D_wt V i = c := h_54
        refine j_iincN (k := 1) d_D_wet_74 lg6 (by decide) ls6i ?_
        refine j_goto (tgt := 38) d_D_wet_77 (by decide) ?_
        rw [show q_cnt (D_wt V) c i = q_cnt (D_wt V) c (i + 1) from (if_neg hw).symm, show q_alw (D_wt V) c (1 <<< V 0 1 - 1) i = q_alw (D_wt V) c (1 <<< V 0 1 - 1) (i + 1) from (if_neg hw).symm, show q_evr (D_wt V) c i = q_evr (D_wt V) c (i + 1) from (if_neg hw).symm]
        exact ih (i + 1) (by omega) (by omega)
      ·
        have hw : D_wt V i = c := h_54
        refine j_iincN (k := 1) d_D_wet_57 lg3 (by decide) ls3i ?_
        refine j_iload d_D_wet_60 lg4 ?_
        refine j_iload d_D_wet_62 lg6 ?_
        refine j_iandN d_D_wet_64 ?_
        refine j_istore d_D_wet_65 ls4i ?_
        refine j_iload d_D_wet_67 lg5 ?_
        refine j_iload d_D_wet_69 lg6 ?_
        refine j_iorN d_D_wet_71 ?_
        refine j_istore d_D_wet_72 ls5i ?_
        refine j_iincN (k := 1) d_D_wet_74 lg6 (by decide) ls6i ?_
        refine j_goto (tgt := 38) d_D_wet_77 (by decide) ?_
        rw [show q_cnt (D_wt V) c i + 1 = q_cnt (D_wt V) c (i + 1) from (if_pos hw).symm, show (q_alw (D_wt V) c (1 <<< V 0 1 - 1) i) &&& i = q_alw (D_wt V) c (1 <<< V 0 1 - 1) (i + 1) from (if_pos hw).symm, show (q_evr (D_wt V) c i) ||| i = q_evr (D_wt V) c (i + 1) from (if_pos hw).symm]
        exact ih (i + 1) (by omega) (by omega)
set_option maxRecDepth 4000 in
theorem c_D_wet {G : g_G} (l : Launch) (V : g_V) (S : g_L) (hO : g_OK V) (c0 w0 : Int32) : g_C G l y_D_wet b_D_wet 7 (some .int) 3 [.ref (g_a G (0)), .int (c0), .int (w0)] V S (fun r V' S' => r = some (.int (if q_in c0 (1 <<< V 0 1) ∧ q_in w0 3 then D_wetr V (q_n c0) w0 else -2)) ∧ V' = V ∧ S' = S) := by
  refine g_C.of (lv := [some (.ref (g_a G (0))), some (.int (c0)), some (.int (w0)), none, none, none, none]) (by decide +kernel) rfl rfl rfl (Nat.le_of_ble_eq_true rfl) ?_
  have hn := hO.1.1
  have hK := hO.1.2.1
  have hT := hO.1.2.2
  have hH := (hO.2.2 0 (by decide)).1
  have hW := (hO.2.2 0 (by decide)).2.1
  have hsp := (hO.2.2 0 (by decide)).2.2.1
  have hdm := (hO.2.2 0 (by decide)).2.2.2.1
  have htd := (hO.2.2 0 (by decide)).2.2.2.2
  have hF := hO.2.1.1
  have hA := hO.2.1.2.1
  have hkp := hO.2.1.2.2
  have hE := g_E64 hn
  refine j_iload_n (i := 1) d_D_wet_0 rfl lg1 ?_
  refine j_if_lt (tgt := 21) d_D_wet_1 (by decide) (fun h_1 => ?_) (fun h_1 => ?_)
  ·
    refine j_bipush (v := -2) d_D_wet_21 (by decide) ?_
    refine j_iret d_D_wet_23 ⟨by rw [if_neg (fun q => by first | (rw [Int32.lt_iff_toInt_lt, Int32.toInt_zero] at h_1; have := q.1.1; omega) | (rw [Int32.lt_iff_toInt_lt, nI_toInt (by omega)] at h_9; have := q.1.2; omega) | (rw [Int32.lt_iff_toInt_lt, Int32.toInt_zero] at h_13; have := q.2.1; omega) | (rw [Int32.le_iff_toInt_le, nI_toInt (by decide)] at h_18; have := q.2.2; omega))], rfl, rfl⟩
  ·
    refine j_iload_n (i := 1) d_D_wet_4 rfl lg1 ?_
    refine j_aload_n (i := 0) d_D_wet_5 rfl lg0 ?_
    refine cl_D_107 (c_D_everyFarm l V S (by omega)) d_D_wet_6 rfl rfl (g_ftM (by decide)) (Nat.le_of_ble_eq_true rfl) (g_pu ?_)
    refine j_icmp_gt (tgt := 21) d_D_wet_9 (by decide) (fun h_9 => ?_) (fun h_9 => ?_)
    ·
      refine j_bipush (v := -2) d_D_wet_21 (by decide) ?_
      refine j_iret d_D_wet_23 ⟨by rw [if_neg (fun q => by first | (rw [Int32.lt_iff_toInt_lt, Int32.toInt_zero] at h_1; have := q.1.1; omega) | (rw [Int32.lt_iff_toInt_lt, nI_toInt (by omega)] at h_9; have := q.1.2; omega) | (rw [Int32.lt_iff_toInt_lt, Int32.toInt_zero] at h_13; have := q.2.1; omega) | (rw [Int32.le_iff_toInt_le, nI_toInt (by decide)] at h_18; have := q.2.2; omega))], rfl, rfl⟩
    ·
      refine j_iload_n (i := 2) d_D_wet_12 rfl lg2 ?_
      refine j_if_lt (tgt := 21) d_D_wet_13 (by decide) (fun h_13 => ?_) (fun h_13 => ?_)
      ·
        refine j_bipush (v := -2) d_D_wet_21 (by decide) ?_
        refine j_iret d_D_wet_23 ⟨by rw [if_neg (fun q => by first | (rw [Int32.lt_iff_toInt_lt, Int32.toInt_zero] at h_1; have := q.1.1; omega) | (rw [Int32.lt_iff_toInt_lt, nI_toInt (by omega)] at h_9; have := q.1.2; omega) | (rw [Int32.lt_iff_toInt_lt, Int32.toInt_zero] at h_13; have := q.2.1; omega) | (rw [Int32.le_iff_toInt_le, nI_toInt (by decide)] at h_18; have := q.2.2; omega))], rfl, rfl⟩
      ·
        refine j_iload_n (i := 2) d_D_wet_16 rfl lg2 ?_
        refine j_iconstN (k := 2) d_D_wet_17 (by decide) ?_
        refine j_icmp_le (tgt := 24) d_D_wet_18 (by decide) (fun h_18 => ?_) (fun h_18 => ?_)
        ·
          have hc0 : q_in c0 (1 <<< V 0 1) := by
            have h := q_in_lo (n := 1 <<< V 0 1 - 1) (by omega) h_1 (by
              rw [Int32.le_iff_toInt_le]; rw [Int32.lt_iff_toInt_lt] at h_9; omega)
            rw [show 1 <<< V 0 1 - 1 + 1 = 1 <<< V 0 1 by omega] at h
            exact h
          have hw0 := q_in_lo (by decide) h_13 h_18
          obtain ⟨c, hc, rfl⟩ := q_in_of hc0 (by omega)
          rw [if_pos ⟨hc0, hw0⟩, q_n_nI (by omega)]
          obtain ⟨w, hww, rfl⟩ := q_in_of hw0 (by decide)
          refine j_iconstN (k := 0) d_D_wet_24 (by decide) ?_
          refine j_istore_n d_D_wet_25 rfl ls3i ?_
          refine j_aload_n (i := 0) d_D_wet_26 rfl lg0 ?_
          refine cl_D_107 (c_D_everyFarm l V S (by omega)) d_D_wet_27 rfl rfl (g_ftM (by decide)) (Nat.le_of_ble_eq_true rfl) (g_pu ?_)
          refine j_istore d_D_wet_30 ls4i ?_
          refine j_iconstN (k := 0) d_D_wet_32 (by decide) ?_
          refine j_istore d_D_wet_33 ls5i ?_
          refine j_iconstN (k := 0) d_D_wet_35 (by decide) ?_
          refine j_istore d_D_wet_36 ls6i ?_
          exact lp_D_wet l V S hO c w (by omega) (by omega) _ 0 (by omega) (Nat.lt_succ_self _)
        ·
          refine j_bipush (v := -2) d_D_wet_21 (by decide) ?_
          refine j_iret d_D_wet_23 ⟨by rw [if_neg (fun q => by first | (rw [Int32.lt_iff_toInt_lt, Int32.toInt_zero] at h_1; have := q.1.1; omega) | (rw [Int32.lt_iff_toInt_lt, nI_toInt (by omega)] at h_9; have := q.1.2; omega) | (rw [Int32.lt_iff_toInt_lt, Int32.toInt_zero] at h_13; have := q.2.1; omega) | (rw [Int32.le_iff_toInt_le, nI_toInt (by decide)] at h_18; have := q.2.2; omega))], rfl, rfl⟩
/-- the best of what is one farm less, out of the first i farms -/
def q_mx (t : Nat → Nat) (s : Nat) : Nat → Nat
  | 0 => 0
  | i + 1 => if s.testBit i = true then max (q_mx t s i) (t (s &&& (63 ^^^ 1 <<< i))) else q_mx t s i
def q_sz (z : Nat → Int32) (s : Nat) : Nat → Int32
  | 0 => 0
  | i + 1 => if s.testBit i = true then q_sz z s i + z i else q_sz z s i
def q_gv (z : Nat → Int32) (n : Nat) (t : Nat → Nat) (s : Nat) : Nat := if s ≠ 0 ∧ q_sz z s n = 0 then q_mx t s n + 1 else q_mx t s n
/-- the table of the class, its first k places told -/
def q_gt (z : Nat → Int32) (n : Nat) (t0 : Nat → Nat) : Nat → Nat → Nat
  | 0 => t0
  | k + 1 => fun j => if j = k then q_gv z n (q_gt z n t0 k) k else q_gt z n t0 k j
theorem g_maxN {a b : Nat} (ha : a < 2 ^ 31) (hb : b < 2 ^ 31) : (if nI a < nI b then nI b else nI a) = nI (max a b) := by
  by_cases h : a < b
  · rw [if_pos (nI_lt h hb), Nat.max_eq_right (by omega)]
  · rw [if_neg (nI_nlt (by omega) ha), Nat.max_eq_left (by omega)]
theorem q_less {s i : Nat} (hs : s < 64) (hi : i < 6) (h : s.testBit i = true) : s &&& (63 ^^^ 1 <<< i) < s := by
  have H : ∀ s, s < 64 → ∀ i, i < 6 → s.testBit i = true → s &&& (63 ^^^ 1 <<< i) < s := by decide +kernel
  exact H s hs i hi h
theorem q_mx_le {t : Nat → Nat} {s n : Nat} (hs : s < 64) (hn : n ≤ 6) (h : ∀ j, j < s → t j ≤ j) : ∀ i, i ≤ n → q_mx t s i + 1 ≤ s ∨ q_mx t s i = 0
  | 0, _ => Or.inr rfl
  | i + 1, hi => by
    have ih := q_mx_le hs hn h i (by omega)
    show (if _ then _ else _) + 1 ≤ s ∨ (if _ then _ else _) = 0
    by_cases hb : s.testBit i = true
    · rw [if_pos hb]
      have h1 := q_less hs (by omega) hb
      have h2 := h _ h1
      omega
    · rw [if_neg hb]; exact ih
theorem q_gt_le {z : Nat → Int32} {n : Nat} {t0 : Nat → Nat} (hn : n ≤ 6) : ∀ {k : Nat}, k ≤ 64 → ∀ j, j < k → q_gt z n t0 k j ≤ j
  | 0, _, j, h => by omega
  | k + 1, hk, j, h => by
    have ih := q_gt_le (z := z) (t0 := t0) hn (k := k) (by omega)
    show (if _ then _ else _) ≤ j
    by_cases e : j = k
    · rw [if_pos e]
      subst e
      have := q_mx_le (s := j) (by omega) hn ih n (Nat.le_refl n)
      unfold q_gv
      split
      · rename_i hz
        have := hz.1
        omega
      · omega
    · rw [if_neg e]; exact ih j (by omega)
def D_z (V : g_V) (f : Nat) : Int32 := q_net (D_ow V) f (V 0 1)
def g_mc (V : g_V) (k : Nat) : g_V := g_row V 13 (q_gt (D_z V) (V 0 1) (V 13) k)
theorem g_mc_N {V : g_V} {k c : Nat} (h : c ≠ 13) : g_mc V k c = V c := g_rowN h
theorem g_mc_0 {V : g_V} : g_mc V 0 = V := by
  funext c k
  unfold g_mc
  by_cases h : c = 13
  · subst h; rw [g_rowS]; rfl
  · rw [g_rowN h]
theorem g_mc_13 {V : g_V} {k : Nat} : g_mc V k 13 = q_gt (D_z V) (V 0 1) (V 13) k := g_rowS
theorem g_mc_step {V : g_V} {k v : Nat} (hv : v = q_gv (D_z V) (V 0 1) (q_gt (D_z V) (V 0 1) (V 13) k) k) : g_up (g_mc V k) 13 k v = g_mc V (k + 1) := by
  funext c j
  unfold g_up g_mc g_row
  by_cases h : c = 13
  · subst h
    by_cases hk : j = k
    · subst hk; simp [q_gt, hv]
    · simp [q_gt, hk]
  · simp [h]
set_option maxRecDepth 4000 in
theorem lp_D_mostCuts1 {G : g_G} (l : Launch) (V : g_V) (S : g_L) (hO : g_OK V) (u : Nat) (hu : u < 64) (s : Nat) (hs : s ≤ u) (hout : (∀ (m : Nat) (z : Int32), m = q_mx (q_gt (D_z V) (V 0 1) (V 13) s) s (V 0 1) → z = q_sz (D_z V) s (V 0 1) → JW G (g_M G l 2 (some .int) (fun r V' S' => r = some (.int (nI (q_gt (D_z V) (V 0 1) (V 13) (u + 1) u))) ∧ V' = g_mc V (u + 1) ∧ S' = S)) b_D_mostCuts R_D 69 [some (.ref (g_a G (0))), some (.int (nI (u))), some (.int (nI (s))), some (.int (nI (m))), some (.int (z)), some (.int (nI (V 0 1)))] [] (g_mc V s) S)) : ∀ (n : Nat) (i m : Nat) (z : Int32), (i ≤ V 0 1) → (m = q_mx (q_gt (D_z V) (V 0 1) (V 13) s) s i) → (z = q_sz (D_z V) s i) → V 0 1 - i < n → JW G (g_M G l 2 (some .int) (fun r V' S' => r = some (.int (nI (q_gt (D_z V) (V 0 1) (V 13) (u + 1) u))) ∧ V' = g_mc V (u + 1) ∧ S' = S)) b_D_mostCuts R_D 15 [some (.ref (g_a G (0))), some (.int (nI (u))), some (.int (nI (s))), some (.int (nI (m))), some (.int (z)), some (.int (nI (i)))] [] (g_mc V s) S := by
  intro n
  induction n with
  | zero => intro i m z hi hm2 hz hm; exact absurd hm (Nat.not_lt_zero _)
  | succ n ih =>
    intro i m z hi hm2 hz hm
    have hn := hO.1.1
    have hK := hO.1.2.1
    have hT := hO.1.2.2
    have hH := (hO.2.2 0 (by decide)).1
    have hW := (hO.2.2 0 (by decide)).2.1
    have hsp := (hO.2.2 0 (by decide)).2.2.1
    have hdm := (hO.2.2 0 (by decide)).2.2.2.1
    have htd := (hO.2.2 0 (by decide)).2.2.2.2
    have hF := hO.2.1.1
    have hA := hO.2.1.2.1
    have hkp := hO.2.1.2.2
    have vm0 : (g_mc V s) 0 = V 0 := g_mc_N (by decide)
    have vm1 : (g_mc V s) 0 1 = V 0 1 := by rw [vm0]
    have vmn : (g_mc V s) 0 1 ≤ 6 := by rw [vm1]; exact hn
    have vm3 : (g_mc V s) 3 = V 3 := g_mc_N (by decide)
    have vm4 : (g_mc V s) 4 = V 4 := g_mc_N (by decide)
    have vm5 : (g_mc V s) 5 = V 5 := g_mc_N (by decide)
    have vmh : (g_mc V s) (hB 0 + 1) = V (hB 0 + 1) := g_mc_N (by decide)
    have vmc : (g_mc V s) (hB 0 + 2) = V (hB 0 + 2) := g_mc_N (by decide)
    have vme : (g_mc V s) (hB 0) = V (hB 0) := g_mc_N (by decide)
    have vms : D_str (g_mc V s) = D_str V := D_str_eq vm3 vm5 vmh
    have vmd : (g_mc V s) (hB 0) 5 = V (hB 0) 5 := by rw [vme]
    have vmD : (g_mc V s) (hB 0) 5 < 64 := by rw [vmd]; exact hdm
    have vmK : g_K (g_mc V s) := by unfold g_K; rw [vm3, vm4, vm5]; exact hK
    have vmH : g_H (g_mc V s) (hB 0 + 1) := by unfold g_H; rw [vmh]; exact hH
    have vmo : D_ow (g_mc V s) = D_ow V := funext fun a => funext fun b => by unfold D_ow; rw [g_mc_N (by unfold hB; omega)]
    have hml := q_mx_le (t := (q_gt (D_z V) (V 0 1) (V 13) s)) (s := s) (by omega) hn (q_gt_le hn (by omega)) i hi
    refine j_iload d_D_mostCuts_15 lg5 ?_
    refine j_aload_n (i := 0) d_D_mostCuts_17 rfl lg0 ?_
    refine gf_D_69 d_D_mostCuts_18 ?_
    rw [vm1]
    refine j_icmp_geN (tgt := 69) d_D_mostCuts_21 (by decide) (by omega) (by omega) (fun h_21 => ?_) (fun h_21 => ?_)
    ·
      obtain rfl : i = V 0 1 := by omega
      exact hout m z hm2 hz
    ·
      refine j_iload_n (i := 2) d_D_mostCuts_24 rfl lg2 ?_
      refine j_iload d_D_mostCuts_25 lg5 ?_
      refine cl_D_150 (c_D_has l (g_mc V s) S (s) (i) (by omega) (by omega)) d_D_mostCuts_27 rfl rfl (g_ftM (by decide)) (Nat.le_of_ble_eq_true rfl) (g_pu ?_)
      refine j_if_eqB (tgt := 63) d_D_mostCuts_30 (by decide) (fun h_30 => ?_) (fun h_30 => ?_)
      ·
        refine j_iincN (k := 1) d_D_mostCuts_63 lg5 (by decide) ls5i ?_
        refine j_goto (tgt := 15) d_D_mostCuts_66 (by decide) ?_
        exact ih (i + 1) _ _ (by omega) (by rw [hm2]; exact (if_neg h_30).symm) (by rw [hz]; exact (if_neg h_30).symm) (by omega)
      ·
        have hle := q_less (s := s) (i := i) (by omega) (by omega) h_30
        have htl := q_gt_le (z := D_z V) (t0 := V 13) hn (k := s) (by omega) _ hle
        refine j_iload_n (i := 3) d_D_mostCuts_33 rfl lg3 ?_
        refine j_aload_n (i := 0) d_D_mostCuts_34 rfl lg0 ?_
        refine gf_D_55 d_D_mostCuts_35 ?_
        refine j_iload_n (i := 2) d_D_mostCuts_38 rfl lg2 ?_
        refine j_iload d_D_mostCuts_39 lg5 ?_
        refine cl_D_98 (c_D_bit l (g_mc V s) S (i) (by omega)) d_D_mostCuts_41 rfl rfl (g_ftM (by decide)) (Nat.le_of_ble_eq_true rfl) (g_pu ?_)
        refine j_iconst (v := -1) d_D_mostCuts_44 (by decide) ?_
        refine j_ixor d_D_mostCuts_45 ?_
        refine j_iand d_D_mostCuts_46 ?_
        rw [g_not (by omega) (q_bit_lt (m := 6) (by omega))]
        refine j_iald d_D_mostCuts_47 gI_13 (by omega) ?_
        rw [g_mc_13]
        refine cm_D_227 d_D_mostCuts_48 (g_ftM (by decide)) (Nat.le_of_ble_eq_true rfl) ?_
        rw [g_maxN (by omega) (by omega)]
        refine j_istore_n d_D_mostCuts_51 rfl ls3i ?_
        refine j_iload d_D_mostCuts_52 lg4 ?_
        refine j_aload_n (i := 0) d_D_mostCuts_54 rfl lg0 ?_
        refine j_iload d_D_mostCuts_55 lg5 ?_
        refine cl_D_181 (c_D_netOf l (g_mc V s) S vmn (i) (by rw [vm1]; omega)) d_D_mostCuts_57 rfl rfl (g_ftM (by decide)) (Nat.le_of_ble_eq_true rfl) (g_pu ?_)
        rw [vm1, vmo]
        refine j_iadd d_D_mostCuts_60 ?_
        refine j_istore d_D_mostCuts_61 ls4i ?_
        refine j_iincN (k := 1) d_D_mostCuts_63 lg5 (by decide) ls5i ?_
        refine j_goto (tgt := 15) d_D_mostCuts_66 (by decide) ?_
        exact ih (i + 1) _ _ (by omega) (by rw [hm2]; exact (if_pos h_30).symm) (by rw [hz]; exact (if_pos h_30).symm) (by omega)
set_option maxRecDepth 4000 in
theorem lp_D_mostCuts {G : g_G} (l : Launch) (V : g_V) (S : g_L) (hO : g_OK V) (u : Nat) (hu : u < 64) : ∀ (n : Nat) (s : Nat), (s ≤ u + 1) → u + 1 - s < n → JW G (g_M G l 2 (some .int) (fun r V' S' => r = some (.int (nI (q_gt (D_z V) (V 0 1) (V 13) (u + 1) u))) ∧ V' = g_mc V (u + 1) ∧ S' = S)) b_D_mostCuts R_D 2 [some (.ref (g_a G (0))), some (.int (nI (u))), some (.int (nI (s))), none, none, none] [] (g_mc V s) S := by
  intro n
  induction n with
  | zero => intro s hi hm; exact absurd hm (Nat.not_lt_zero _)
  | succ n ih =>
    intro s hi hm
    have hn := hO.1.1
    have hK := hO.1.2.1
    have hT := hO.1.2.2
    have hH := (hO.2.2 0 (by decide)).1
    have hW := (hO.2.2 0 (by decide)).2.1
    have hsp := (hO.2.2 0 (by decide)).2.2.1
    have hdm := (hO.2.2 0 (by decide)).2.2.2.1
    have htd := (hO.2.2 0 (by decide)).2.2.2.2
    have hF := hO.2.1.1
    have hA := hO.2.1.2.1
    have hkp := hO.2.1.2.2
    refine j_iload_n (i := 2) d_D_mostCuts_2 rfl lg2 ?_
    refine j_iload_n (i := 1) d_D_mostCuts_3 rfl lg1 ?_
    refine j_icmp_gtN (tgt := 97) d_D_mostCuts_4 (by decide) (by omega) (by omega) (fun h_4 => ?_) (fun h_4 => ?_)
    ·
      refine j_aload_n (i := 0) d_D_mostCuts_97 rfl lg0 ?_
      refine gf_D_55 d_D_mostCuts_98 ?_
      refine j_iload_n (i := 1) d_D_mostCuts_101 rfl lg1 ?_
      refine j_iald d_D_mostCuts_102 gI_13 (by omega) ?_
      refine j_iret d_D_mostCuts_103 ⟨by rw [show s = u + 1 by omega, g_mc_13], by rw [show s = u + 1 by omega], rfl⟩
    ·
      refine j_iconstN (k := 0) d_D_mostCuts_7 (by decide) ?_
      refine j_istore_n d_D_mostCuts_8 rfl ls3i ?_
      refine j_iconstN (k := 0) d_D_mostCuts_9 (by decide) ?_
      refine j_istore d_D_mostCuts_10 ls4i ?_
      refine j_iconstN (k := 0) d_D_mostCuts_12 (by decide) ?_
      refine j_istore d_D_mostCuts_13 ls5i ?_
      refine lp_D_mostCuts1 l V S hO u hu s (by omega) (fun m z hm2 hz => ?_) _ 0 0 0 (by omega) rfl rfl (Nat.lt_succ_self _)
      have hml := q_mx_le (t := (q_gt (D_z V) (V 0 1) (V 13) s)) (s := s) (by omega) hn (q_gt_le hn (by omega)) (V 0 1) (Nat.le_refl _)
      refine j_aload_n (i := 0) d_D_mostCuts_69 rfl lg0 ?_
      refine gf_D_55 d_D_mostCuts_70 ?_
      refine j_iload_n (i := 2) d_D_mostCuts_73 rfl lg2 ?_
      refine j_iload_n (i := 2) d_D_mostCuts_74 rfl lg2 ?_
      refine j_if_eqN (tgt := 89) d_D_mostCuts_75 (by decide) (by omega) (fun h_75 => ?_) (fun h_75 => ?_)
      ·
        refine j_iload_n (i := 3) d_D_mostCuts_89 rfl lg3 ?_
        refine j_iast d_D_mostCuts_90 gI_13 (by omega) ?_
        refine j_iincN (k := 1) d_D_mostCuts_91 lg2 (by decide) ls2i ?_
        refine j_goto (tgt := 2) d_D_mostCuts_94 (by decide) ?_
        rw [g_mc_step (by unfold q_gv; rw [← hz, ← hm2, if_neg (show ¬ (s ≠ 0 ∧ z = 0) from fun q => q.1 h_75)])]
        exact j_fg 3 (j_fg 4 (j_fg 5 (ih (s + 1) (by omega) (by omega))))
      ·
        refine j_iload d_D_mostCuts_78 lg4 ?_
        refine j_if_ne (tgt := 89) d_D_mostCuts_80 (by decide) (fun h_80 => ?_) (fun h_80 => ?_)
        ·
          refine j_iload_n (i := 3) d_D_mostCuts_89 rfl lg3 ?_
          refine j_iast d_D_mostCuts_90 gI_13 (by omega) ?_
          refine j_iincN (k := 1) d_D_mostCuts_91 lg2 (by decide) ls2i ?_
          refine j_goto (tgt := 2) d_D_mostCuts_94 (by decide) ?_
          rw [g_mc_step (by unfold q_gv; rw [← hz, ← hm2, if_neg (show ¬ (s ≠ 0 ∧ z = 0) from fun q => h_80 q.2)])]
          exact j_fg 3 (j_fg 4 (j_fg 5 (ih (s + 1) (by omega) (by omega))))
        ·
          refine j_iload_n (i := 3) d_D_mostCuts_83 rfl lg3 ?_
          refine j_iconstN (k := 1) d_D_mostCuts_84 (by decide) ?_
          refine j_iaddN d_D_mostCuts_85 ?_
          refine j_goto (tgt := 90) d_D_mostCuts_86 (by decide) ?_
          refine j_iast d_D_mostCuts_90 gI_13 (by omega) ?_
          refine j_iincN (k := 1) d_D_mostCuts_91 lg2 (by decide) ls2i ?_
          refine j_goto (tgt := 2) d_D_mostCuts_94 (by decide) ?_
          rw [g_mc_step (by unfold q_gv; rw [← hz, ← hm2, if_pos (show s ≠ 0 ∧ z = 0 from ⟨h_75, h_80⟩)])]
          exact j_fg 3 (j_fg 4 (j_fg 5 (ih (s + 1) (by omega) (by omega))))
set_option maxRecDepth 4000 in
theorem c_D_mostCuts {G : g_G} (l : Launch) (V : g_V) (S : g_L) (hO : g_OK V) (u : Nat) (hu : u < 64) : g_C G l y_D_mostCuts b_D_mostCuts 6 (some .int) 2 [.ref (g_a G (0)), .int (nI (u))] V S (fun r V' S' => r = some (.int (nI (q_gt (D_z V) (V 0 1) (V 13) (u + 1) u))) ∧ V' = g_mc V (u + 1) ∧ S' = S) := by
  refine g_C.of (lv := [some (.ref (g_a G (0))), some (.int (nI (u))), none, none, none, none]) (by decide +kernel) rfl rfl rfl (Nat.le_of_ble_eq_true rfl) ?_
  refine j_iconstN (k := 0) d_D_mostCuts_0 (by decide) ?_
  refine j_istore_n d_D_mostCuts_1 rfl ls2i ?_
  have h := lp_D_mostCuts (G := G) l V S hO u hu _ 0 (by omega) (Nat.lt_succ_self _)
  rw [g_mc_0] at h
  exact h
def q_uns (z : Nat → Int32) (n : Nat) : Nat := q_or n (fun i => if z i = 0 then 0 else 1 <<< i)
theorem q_uns_lt {z : Nat → Int32} {n : Nat} (hn : n ≤ 6) : q_uns z n < 64 := q_or_lt (m := 6) (fun i hi => by
  show (if _ then _ else _) < _
  split
  · decide
  · exact q_bit_lt (by omega))
set_option maxRecDepth 4000 in
theorem lp_D_payings {G : g_G} (l : Launch) (V : g_V) (S : g_L) (hO : g_OK V) : ∀ (n : Nat) (i b : Nat), (i ≤ V 0 1) → (b = q_uns (D_z V) i) → V 0 1 - i < n → JW G (g_M G l 3 (some .int) (fun r V' S' => S' = S ∧ r = some (.int (nI (q_bc (q_uns (D_z V) (V 0 1))) - nI (q_gt (D_z V) (V 0 1) (V 13) (q_uns (D_z V) (V 0 1) + 1) (q_uns (D_z V) (V 0 1))))) ∧ ∀ k, k ≠ 13 → V' k = V k)) b_D_payings R_D 4 [some (.ref (g_a G (0))), some (.int (nI (b))), some (.int (nI (i)))] [] V S := by
  intro n
  induction n with
  | zero => intro i b hi hb hm; exact absurd hm (Nat.not_lt_zero _)
  | succ n ih =>
    intro i b hi hb hm
    have hn := hO.1.1
    have hK := hO.1.2.1
    have hT := hO.1.2.2
    have hH := (hO.2.2 0 (by decide)).1
    have hW := (hO.2.2 0 (by decide)).2.1
    have hsp := (hO.2.2 0 (by decide)).2.2.1
    have hdm := (hO.2.2 0 (by decide)).2.2.2.1
    have htd := (hO.2.2 0 (by decide)).2.2.2.2
    have hF := hO.2.1.1
    have hA := hO.2.1.2.1
    have hkp := hO.2.1.2.2
    have hb64 : b < 64 := by rw [hb]; exact q_uns_lt (by omega)
    refine j_iload_n (i := 2) d_D_payings_4 rfl lg2 ?_
    refine j_aload_n (i := 0) d_D_payings_5 rfl lg0 ?_
    refine gf_D_69 d_D_payings_6 ?_
    refine j_icmp_geN (tgt := 33) d_D_payings_9 (by decide) (by omega) (by omega) (fun h_9 => ?_) (fun h_9 => ?_)
    ·
      obtain rfl : i = V 0 1 := by omega
      refine j_iload_n (i := 1) d_D_payings_33 rfl lg1 ?_
      refine cl_D_184 (c_I_bitCount l V S (b) (by omega)) d_D_payings_34 rfl rfl (g_ftM (by decide)) (Nat.le_of_ble_eq_true rfl) (g_pu ?_)
      refine j_aload_n (i := 0) d_D_payings_37 rfl lg0 ?_
      refine j_iload_n (i := 1) d_D_payings_38 rfl lg1 ?_
      refine cl_D_189 (c_D_mostCuts l V S hO (b) (by omega)) d_D_payings_39 rfl rfl (g_ftM (by decide)) (Nat.le_of_ble_eq_true rfl) (g_pv ?_)
      refine j_isub d_D_payings_42 ?_
      refine j_iret d_D_payings_43 ⟨rfl, by rw [hb], fun k hk => g_mc_N hk⟩
    ·
      refine j_aload_n (i := 0) d_D_payings_12 rfl lg0 ?_
      refine j_iload_n (i := 2) d_D_payings_13 rfl lg2 ?_
      refine cl_D_181 (c_D_netOf l V S (by omega) (i) (by omega)) d_D_payings_14 rfl rfl (g_ftM (by decide)) (Nat.le_of_ble_eq_true rfl) (g_pu ?_)
      refine j_if_eq (tgt := 27) d_D_payings_17 (by decide) (fun h_17 => ?_) (fun h_17 => ?_)
      ·
        refine j_iincN (k := 1) d_D_payings_27 lg2 (by decide) ls2i ?_
        refine j_goto (tgt := 4) d_D_payings_30 (by decide) ?_
        exact ih (i + 1) _ (by omega) (by rw [hb]; show _ = q_or i _ ||| (if _ then _ else _); rw [if_pos (show D_z V i = 0 from h_17), Nat.or_zero]; rfl) (by omega)
      ·
        refine j_iload_n (i := 1) d_D_payings_20 rfl lg1 ?_
        refine j_iload_n (i := 2) d_D_payings_21 rfl lg2 ?_
        refine cl_D_98 (c_D_bit l V S (i) (by omega)) d_D_payings_22 rfl rfl (g_ftM (by decide)) (Nat.le_of_ble_eq_true rfl) (g_pu ?_)
        refine j_iorN d_D_payings_25 ?_
        refine j_istore_n d_D_payings_26 rfl ls1r ?_
        refine j_iincN (k := 1) d_D_payings_27 lg2 (by decide) ls2i ?_
        refine j_goto (tgt := 4) d_D_payings_30 (by decide) ?_
        exact ih (i + 1) _ (by omega) (by rw [hb]; show _ = q_or i _ ||| (if _ then _ else _); rw [if_neg (show ¬ D_z V i = 0 from h_17)]; rfl) (by omega)
set_option maxRecDepth 4000 in
theorem c_D_payings {G : g_G} (l : Launch) (V : g_V) (S : g_L) (hO : g_OK V) : g_C G l y_D_payings b_D_payings 3 (some .int) 3 [.ref (g_a G (0))] V S (fun r V' S' => S' = S ∧ r = some (.int (nI (q_bc (q_uns (D_z V) (V 0 1))) - nI (q_gt (D_z V) (V 0 1) (V 13) (q_uns (D_z V) (V 0 1) + 1) (q_uns (D_z V) (V 0 1))))) ∧ ∀ k, k ≠ 13 → V' k = V k) := by
  refine g_C.of (lv := [some (.ref (g_a G (0))), none, none]) (by decide +kernel) rfl rfl rfl (Nat.le_of_ble_eq_true rfl) ?_
  have hn := hO.1.1
  have hK := hO.1.2.1
  have hT := hO.1.2.2
  have hH := (hO.2.2 0 (by decide)).1
  have hW := (hO.2.2 0 (by decide)).2.1
  have hsp := (hO.2.2 0 (by decide)).2.2.1
  have hdm := (hO.2.2 0 (by decide)).2.2.2.1
  have htd := (hO.2.2 0 (by decide)).2.2.2.2
  have hF := hO.2.1.1
  have hA := hO.2.1.2.1
  have hkp := hO.2.1.2.2
  refine j_iconstN (k := 0) d_D_payings_0 (by decide) ?_
  refine j_istore_n d_D_payings_1 rfl ls1r ?_
  refine j_iconstN (k := 0) d_D_payings_2 (by decide) ?_
  refine j_istore_n d_D_payings_3 rfl ls2i ?_
  exact lp_D_payings l V S hO _ 0 0 (by omega) rfl (Nat.lt_succ_self _)
