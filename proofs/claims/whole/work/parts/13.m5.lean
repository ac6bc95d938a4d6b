/-! The class: the text and its fault. -/
section FGT
variable {G : g_G} {X : g_X} {cc : ByteArray} {own : String} {pc : Nat} {lv : List (Option Value)} {st : List Value} {V : g_V} {S : g_L}
/-- a local forgotten -/
theorem j_fg (k : Nat) (kk : JW G X cc own pc (lv.set k none) st V S) : JW G X cc own pc lv st V S := by
  intro p e s m args below meth c Q C K H locs ls hl hP hS
  refine kk p e s m args below meth c Q C K H locs ls ⟨⟨hl.1.1, hl.1.2.1, fun q hq => ?_⟩, by rw [List.length_set]; exact hl.2⟩ hP hS
  obtain ⟨i, h1, h2⟩ := (g_ix_mem _ 0 q).mp hq
  refine hl.1.2.2 q ((g_ix_mem lv 0 q).mpr ⟨i, h1, ?_⟩)
  by_cases hk : i = k
  · subst hk
    rw [List.getElem?_set] at h2
    split at h2
    · split at h2
      · cases h2
      · cases h2
    · exact absurd rfl ‹¬ _›
  · rw [List.getElem?_set_ne (Ne.symm hk)] at h2; exact h2
theorem j_ldcw {i : Nat} {v : Int32} (hd : decode cc pc = .ok (.ldc_w i, 3)) (hw : Cond.constant own i v ∈ lw_use) (kk : JW G X cc own (pc + 3) lv (.int v :: st) V S) : JW G X cc own pc lv st V S :=
  fun p e s m args below meth c Q C K H locs ls hl hP hS => lv_ldcw C.1 C.2.1 C.2.2.1 (C.2.2.2.1 _ hw) hd (kk p e s m args below meth c Q C K H locs ls hl hP hS)
end FGT
def q_let (n : Nat) (L : Nat → Nat) (p : Nat) : Int32 := if p < n then nI (L p) else -1
theorem q_let_t {n p : Nat} {L : Nat → Nat} (h : p < n) : q_let n L p = nI (L p) := if_pos h
theorem q_let_f {n p : Nat} {L : Nat → Nat} (h : ¬ p < n) : q_let n L p = -1 := if_neg h
abbrev q_dig (n : Nat) (L : Nat → Nat) (p : Nat) : Prop := p < n ∧ 48 ≤ L p ∧ L p ≤ 57
def q_fig (n : Nat) (L : Nat → Nat) (p : Nat) : Int32 := if q_dig n L p then nI (L p - 48) else -1
theorem q_fig_t {n p : Nat} {L : Nat → Nat} (h : q_dig n L p) : q_fig n L p = nI (L p - 48) := if_pos h
theorem q_fig_f {n p : Nat} {L : Nat → Nat} (h : ¬ q_dig n L p) : q_fig n L p = -1 := if_neg h
abbrev q_okf (n : Nat) (L : Nat → Nat) (p g : Nat) : Prop := p < n ∧ 48 ≤ L p ∧ L p ≤ 48 + g
/-- how many of a farm's figures are right from p on -/
def q_rf (n : Nat) (L : Nat → Nat) (p : Nat) : Nat → Nat → Nat
  | 0, i => i
  | m + 1, i => if q_okf n L (p + i) (g_great i) then q_rf n L p m (i + 1) else i
theorem q_rf_t {n p i : Nat} {L : Nat → Nat} (hi : i < 5) (h : q_okf n L (p + i) (g_great i)) : q_rf n L p (5 - i) i = q_rf n L p (5 - (i + 1)) (i + 1) := by
  rw [show 5 - i = (5 - (i + 1)) + 1 by omega]; exact if_pos h
theorem q_rf_f {n p i : Nat} {L : Nat → Nat} (hi : i < 5) (h : ¬ q_okf n L (p + i) (g_great i)) : q_rf n L p (5 - i) i = i := by
  rw [show 5 - i = (5 - (i + 1)) + 1 by omega]; exact if_neg h
theorem g_great_le {i : Nat} : g_great i ≤ 9 := by unfold g_great; split <;> omega
theorem q_rf_le {n p : Nat} {L : Nat → Nat} : ∀ m i, q_rf n L p m i ≤ i + m
  | 0, i => Nat.le_refl _
  | m + 1, i => by
    show (if _ then _ else _) ≤ _
    split
    · have := q_rf_le (n := n) (p := p) (L := L) m (i + 1); omega
    · omega
def q_bc (x : Nat) : Nat := q_sum 6 (fun i => if x.testBit i = true then 1 else 0)
theorem q_bc_le {x : Nat} : q_bc x ≤ 6 := q_sum_le (m := 1) (n := 6) (fun i _ => by
  show (if x.testBit i = true then 1 else 0) ≤ 1
  split <;> omega)
theorem q_bc_lt {x : Nat} : q_bc x < 2 ^ 31 := Nat.lt_of_le_of_lt q_bc_le (by decide)
def g_T (V : g_V) : Prop := V 1 1 ≤ 48 ∧ ∀ i, i < 48 → V 2 i ≤ 255
set_option maxRecDepth 4000 in
theorem c_S_letterAt {G : g_G} (l : Launch) (V : g_V) (S : g_L) (hT : g_T V) (p : Nat) (hp : p < 1000) : g_C G l y_S_letterAt b_S_letterAt 3 (some .int) 1 [.ref (g_a G (1)), .int (nI (p))] V S (fun r V' S' => r = some (.int (q_let (V 1 1) (V 2) p)) ∧ V' = V ∧ S' = S) := by
  refine g_C.of (lv := [some (.ref (g_a G (1))), some (.int (nI (p))), none]) (by decide +kernel) rfl rfl rfl (Nat.le_of_ble_eq_true rfl) ?_
  have hl := hT.1
  refine j_iload_n (i := 1) d_S_letterAt_0 rfl lg1 ?_
  refine j_if_lt (tgt := 25) d_S_letterAt_1 (by decide) (fun h => absurd h (nI_pos (by omega))) (fun _ => ?_)
  refine j_iload_n (i := 1) d_S_letterAt_4 rfl lg1 ?_
  refine j_aload_n (i := 0) d_S_letterAt_5 rfl lg0 ?_
  refine gf_S_15 d_S_letterAt_6 ?_
  refine j_icmp_geN (tgt := 25) d_S_letterAt_9 (by decide) (by omega) (by omega) (fun h_9 => ?_) (fun h_9 => ?_)
  ·
    refine j_iconstN (k := 0) d_S_letterAt_25 (by decide) ?_
    refine j_istore_n d_S_letterAt_26 rfl ls2i ?_
    refine j_iload_n (i := 2) d_S_letterAt_27 rfl lg2 ?_
    refine j_if_eqN (tgt := 40) d_S_letterAt_28 (by decide) (by omega) (fun _ => ?_) (fun h => absurd h (by decide))
    refine j_iconst (v := -1) d_S_letterAt_40 (by decide) ?_
    refine j_iret d_S_letterAt_41 ⟨by rw [q_let_f (by omega)], rfl, rfl⟩
  ·
    refine j_iload_n (i := 1) d_S_letterAt_12 rfl lg1 ?_
    refine j_aload_n (i := 0) d_S_letterAt_13 rfl lg0 ?_
    refine gf_S_9 d_S_letterAt_14 ?_
    refine j_alen d_S_letterAt_17 gI_2 ?_
    refine j_icmp_geN (tgt := 25) d_S_letterAt_18 (by decide) (by omega) (by omega) (fun h_18 => ?_) (fun h_18 => ?_)
    ·
      refine j_iconstN (k := 0) d_S_letterAt_25 (by decide) ?_
      refine j_istore_n d_S_letterAt_26 rfl ls2i ?_
      refine j_iload_n (i := 2) d_S_letterAt_27 rfl lg2 ?_
      refine j_if_eqN (tgt := 40) d_S_letterAt_28 (by decide) (by omega) (fun _ => ?_) (fun h => absurd h (by decide))
      refine j_iconst (v := -1) d_S_letterAt_40 (by decide) ?_
      refine j_iret d_S_letterAt_41 ⟨by rw [q_let_f (by omega)], rfl, rfl⟩
    ·
      refine j_iconstN (k := 1) d_S_letterAt_21 (by decide) ?_
      refine j_goto (tgt := 26) d_S_letterAt_22 (by decide) ?_
      refine j_istore_n d_S_letterAt_26 rfl ls2i ?_
      refine j_iload_n (i := 2) d_S_letterAt_27 rfl lg2 ?_
      refine j_if_eqN (tgt := 40) d_S_letterAt_28 (by decide) (by omega) (fun h => absurd h (by decide)) (fun _ => ?_)
      refine j_aload_n (i := 0) d_S_letterAt_31 rfl lg0 ?_
      refine gf_S_9 d_S_letterAt_32 ?_
      refine j_iload_n (i := 1) d_S_letterAt_35 rfl lg1 ?_
      refine j_iald d_S_letterAt_36 gI_2 (by omega) ?_
      refine j_goto (tgt := 41) d_S_letterAt_37 (by decide) ?_
      refine j_iret d_S_letterAt_41 ⟨by rw [q_let_t (by omega)], rfl, rfl⟩
set_option maxRecDepth 4000 in
theorem c_S_figureAt {G : g_G} (l : Launch) (V : g_V) (S : g_L) (hT : g_T V) (p : Nat) (hp : p < 1000) : g_C G l y_S_figureAt b_S_figureAt 3 (some .int) 2 [.ref (g_a G (1)), .int (nI (p))] V S (fun r V' S' => r = some (.int (q_fig (V 1 1) (V 2) p)) ∧ V' = V ∧ S' = S) := by
  refine g_C.of (lv := [some (.ref (g_a G (1))), some (.int (nI (p))), none]) (by decide +kernel) rfl rfl rfl (Nat.le_of_ble_eq_true rfl) ?_
  have hl := hT.1
  refine j_aload_n (i := 0) d_S_figureAt_0 rfl lg0 ?_
  refine j_iload_n (i := 1) d_S_figureAt_1 rfl lg1 ?_
  refine cl_S_19 (c_S_letterAt l V S hT (p) (by omega)) d_S_figureAt_2 rfl rfl (g_ftM (by decide)) (Nat.le_of_ble_eq_true rfl) (g_pu ?_)
  by_cases hpn : p < V 1 1
  ·
    rw [q_let_t hpn]
    have h255 := hT.2 p (by omega)
    refine j_istore_n d_S_figureAt_5 rfl ls2i ?_
    refine j_iload_n (i := 2) d_S_figureAt_6 rfl lg2 ?_
    refine j_bipushN (k := 48) d_S_figureAt_7 (by decide) ?_
    refine j_icmp_ltN (tgt := 25) d_S_figureAt_9 (by decide) (by omega) (by omega) (fun h_9 => ?_) (fun h_9 => ?_)
    ·
      refine j_iconst (v := -1) d_S_figureAt_25 (by decide) ?_
      refine j_iret d_S_figureAt_26 ⟨by rw [q_fig_f (fun q => by have q1 := q.1; have q2 := q.2.1; have q3 := q.2.2; omega)], rfl, rfl⟩
    ·
      refine j_iload_n (i := 2) d_S_figureAt_12 rfl lg2 ?_
      refine j_bipushN (k := 57) d_S_figureAt_13 (by decide) ?_
      refine j_icmp_gtN (tgt := 25) d_S_figureAt_15 (by decide) (by omega) (by omega) (fun h_15 => ?_) (fun h_15 => ?_)
      ·
        refine j_iconst (v := -1) d_S_figureAt_25 (by decide) ?_
        refine j_iret d_S_figureAt_26 ⟨by rw [q_fig_f (fun q => by have q1 := q.1; have q2 := q.2.1; have q3 := q.2.2; omega)], rfl, rfl⟩
      ·
        refine j_iload_n (i := 2) d_S_figureAt_18 rfl lg2 ?_
        refine j_bipushN (k := 48) d_S_figureAt_19 (by decide) ?_
        refine j_isubN d_S_figureAt_21 (by omega) ?_
        refine j_goto (tgt := 26) d_S_figureAt_22 (by decide) ?_
        refine j_iret d_S_figureAt_26 ⟨by rw [q_fig_t ⟨hpn, by omega, by omega⟩], rfl, rfl⟩
  ·
    rw [q_let_f hpn]
    refine j_istore_n d_S_figureAt_5 rfl ls2i ?_
    refine j_iload_n (i := 2) d_S_figureAt_6 rfl lg2 ?_
    refine j_bipushN (k := 48) d_S_figureAt_7 (by decide) ?_
    refine j_icmp_lt (tgt := 25) d_S_figureAt_9 (by decide) (fun h_9 => ?_) (fun h_9 => ?_)
    ·
      refine j_iconst (v := -1) d_S_figureAt_25 (by decide) ?_
      refine j_iret d_S_figureAt_26 ⟨by rw [q_fig_f (fun q => by have q1 := q.1; have q2 := q.2.1; have q3 := q.2.2; omega)], rfl, rfl⟩
    ·
      exact absurd (by decide) h_9
set_option maxRecDepth 4000 in
theorem lp_S_rightFigures {G : g_G} (l : Launch) (V : g_V) (S : g_L) (hT : g_T V) (p : Nat) (hp : p < 900) : ∀ (n : Nat) (i : Nat), (i ≤ 5) → (q_rf (V 1 1) (V 2) p 5 0 = q_rf (V 1 1) (V 2) p (5 - i) i) → 5 - i < n → JW G (g_M G l 3 (some .int) (fun r V' S' => r = some (.int (nI (q_rf (V 1 1) (V 2) p 5 0))) ∧ V' = V ∧ S' = S)) b_S_rightFigures R_S 2 [some (.ref (g_a G (1))), some (.int (nI (p))), some (.int (nI (i))), none] [] V S := by
  intro n
  induction n with
  | zero => intro i hi he hm; exact absurd hm (Nat.not_lt_zero _)
  | succ n ih =>
    intro i hi he hm
    have hl := hT.1
    have hg := g_great_le (i := i)
    refine j_iload_n (i := 2) d_S_rightFigures_2 rfl lg2 ?_
    refine j_getsGN d_S_rightFigures_3 gs_S_23 ?_
    refine j_alenG d_S_rightFigures_6 ?_
    refine j_icmp_geN (tgt := 39) d_S_rightFigures_7 (by decide) (by omega) (by omega) (fun h_7 => ?_) (fun h_7 => ?_)
    ·
      refine j_getsGN d_S_rightFigures_39 gs_S_23 ?_
      refine j_alenG d_S_rightFigures_42 ?_
      refine j_iret d_S_rightFigures_43 ⟨by rw [he, show i = 5 by omega]; rfl, rfl, rfl⟩
    ·
      refine j_aload_n (i := 0) d_S_rightFigures_10 rfl lg0 ?_
      refine j_iload_n (i := 1) d_S_rightFigures_11 rfl lg1 ?_
      refine j_iload_n (i := 2) d_S_rightFigures_12 rfl lg2 ?_
      refine j_iaddN d_S_rightFigures_13 ?_
      refine cl_S_26 (c_S_figureAt l V S hT (p + i) (by omega)) d_S_rightFigures_14 rfl rfl (g_ftM (by decide)) (Nat.le_of_ble_eq_true rfl) (g_pu ?_)
      by_cases hd : q_dig (V 1 1) (V 2) (p + i)
      ·
        have hd2 := hd.2
        rw [q_fig_t hd]
        refine j_istore_n d_S_rightFigures_17 rfl ls3i ?_
        refine j_iload_n (i := 3) d_S_rightFigures_18 rfl lg3 ?_
        refine j_if_lt (tgt := 31) d_S_rightFigures_19 (by decide) (fun h => absurd h (nI_pos (by omega))) (fun _ => ?_)
        refine j_iload_n (i := 3) d_S_rightFigures_22 rfl lg3 ?_
        refine j_getsGN d_S_rightFigures_23 gs_S_23 ?_
        refine j_iload_n (i := 2) d_S_rightFigures_26 rfl lg2 ?_
        refine j_tG d_S_rightFigures_27 (by omega) ?_
        refine j_icmp_leN (tgt := 33) d_S_rightFigures_28 (by decide) (by omega) (by omega) (fun h_28 => ?_) (fun h_28 => ?_)
        ·
          refine j_iincN (k := 1) d_S_rightFigures_33 lg2 (by decide) ls2i ?_
          refine j_goto (tgt := 2) d_S_rightFigures_36 (by decide) ?_
          exact j_fg 3 (ih (i + 1) (by omega) (by rw [he, q_rf_t (by omega) ⟨hd.1, hd.2.1, by omega⟩]) (by omega))
        ·
          refine j_iload_n (i := 2) d_S_rightFigures_31 rfl lg2 ?_
          refine j_iret d_S_rightFigures_32 ⟨by rw [he, q_rf_f (by omega) (fun q => by have := q.2.2; omega)], rfl, rfl⟩
      ·
        rw [q_fig_f hd]
        refine j_istore_n d_S_rightFigures_17 rfl ls3i ?_
        refine j_iload_n (i := 3) d_S_rightFigures_18 rfl lg3 ?_
        refine j_if_lt (tgt := 31) d_S_rightFigures_19 (by decide) (fun h_19 => ?_) (fun h_19 => ?_)
        ·
          refine j_iload_n (i := 2) d_S_rightFigures_31 rfl lg2 ?_
          refine j_iret d_S_rightFigures_32 ⟨by rw [he, q_rf_f (by omega) (fun q => hd ⟨q.1, q.2.1, by have := q.2.2; omega⟩)], rfl, rfl⟩
        ·
          exact absurd (by decide) h_19
set_option maxRecDepth 4000 in
theorem c_S_rightFigures {G : g_G} (l : Launch) (V : g_V) (S : g_L) (hT : g_T V) (p : Nat) (hp : p < 900) : g_C G l y_S_rightFigures b_S_rightFigures 4 (some .int) 3 [.ref (g_a G (1)), .int (nI (p))] V S (fun r V' S' => r = some (.int (nI (q_rf (V 1 1) (V 2) p 5 0))) ∧ V' = V ∧ S' = S) := by
  refine g_C.of (lv := [some (.ref (g_a G (1))), some (.int (nI (p))), none, none]) (by decide +kernel) rfl rfl rfl (Nat.le_of_ble_eq_true rfl) ?_
  refine j_iconstN (k := 0) d_S_rightFigures_0 (by decide) ?_
  refine j_istore_n d_S_rightFigures_1 rfl ls2i ?_
  exact lp_S_rightFigures l V S hT p hp _ 0 (by omega) rfl (Nat.lt_succ_self _)
set_option maxRecDepth 10000 in
theorem g_bc : ∀ x : Nat, x < 64 → ((((((((nI x) - ((((nI x).toUInt32 >>> ((nI (1)).toUInt32 &&& Int32.toUInt32 31)).toInt32) &&& (nI (1431655765)))) &&& (nI (858993459))) + (((((nI x) - ((((nI x).toUInt32 >>> ((nI (1)).toUInt32 &&& Int32.toUInt32 31)).toInt32) &&& (nI (1431655765)))).toUInt32 >>> ((nI (2)).toUInt32 &&& Int32.toUInt32 31)).toInt32) &&& (nI (858993459)))) + ((((((nI x) - ((((nI x).toUInt32 >>> ((nI (1)).toUInt32 &&& Int32.toUInt32 31)).toInt32) &&& (nI (1431655765)))) &&& (nI (858993459))) + (((((nI x) - ((((nI x).toUInt32 >>> ((nI (1)).toUInt32 &&& Int32.toUInt32 31)).toInt32) &&& (nI (1431655765)))).toUInt32 >>> ((nI (2)).toUInt32 &&& Int32.toUInt32 31)).toInt32) &&& (nI (858993459)))).toUInt32 >>> ((nI (4)).toUInt32 &&& Int32.toUInt32 31)).toInt32)) &&& (nI (252645135))) + ((((((((nI x) - ((((nI x).toUInt32 >>> ((nI (1)).toUInt32 &&& Int32.toUInt32 31)).toInt32) &&& (nI (1431655765)))) &&& (nI (858993459))) + (((((nI x) - ((((nI x).toUInt32 >>> ((nI (1)).toUInt32 &&& Int32.toUInt32 31)).toInt32) &&& (nI (1431655765)))).toUInt32 >>> ((nI (2)).toUInt32 &&& Int32.toUInt32 31)).toInt32) &&& (nI (858993459)))) + ((((((nI x) - ((((nI x).toUInt32 >>> ((nI (1)).toUInt32 &&& Int32.toUInt32 31)).toInt32) &&& (nI (1431655765)))) &&& (nI (858993459))) + (((((nI x) - ((((nI x).toUInt32 >>> ((nI (1)).toUInt32 &&& Int32.toUInt32 31)).toInt32) &&& (nI (1431655765)))).toUInt32 >>> ((nI (2)).toUInt32 &&& Int32.toUInt32 31)).toInt32) &&& (nI (858993459)))).toUInt32 >>> ((nI (4)).toUInt32 &&& Int32.toUInt32 31)).toInt32)) &&& (nI (252645135))).toUInt32 >>> ((nI (8)).toUInt32 &&& Int32.toUInt32 31)).toInt32)) + (((((((((nI x) - ((((nI x).toUInt32 >>> ((nI (1)).toUInt32 &&& Int32.toUInt32 31)).toInt32) &&& (nI (1431655765)))) &&& (nI (858993459))) + (((((nI x) - ((((nI x).toUInt32 >>> ((nI (1)).toUInt32 &&& Int32.toUInt32 31)).toInt32) &&& (nI (1431655765)))).toUInt32 >>> ((nI (2)).toUInt32 &&& Int32.toUInt32 31)).toInt32) &&& (nI (858993459)))) + ((((((nI x) - ((((nI x).toUInt32 >>> ((nI (1)).toUInt32 &&& Int32.toUInt32 31)).toInt32) &&& (nI (1431655765)))) &&& (nI (858993459))) + (((((nI x) - ((((nI x).toUInt32 >>> ((nI (1)).toUInt32 &&& Int32.toUInt32 31)).toInt32) &&& (nI (1431655765)))).toUInt32 >>> ((nI (2)).toUInt32 &&& Int32.toUInt32 31)).toInt32) &&& (nI (858993459)))).toUInt32 >>> ((nI (4)).toUInt32 &&& Int32.toUInt32 31)).toInt32)) &&& (nI (252645135))) + ((((((((nI x) - ((((nI x).toUInt32 >>> ((nI (1)).toUInt32 &&& Int32.toUInt32 31)).toInt32) &&& (nI (1431655765)))) &&& (nI (858993459))) + (((((nI x) - ((((nI x).toUInt32 >>> ((nI (1)).toUInt32 &&& Int32.toUInt32 31)).toInt32) &&& (nI (1431655765)))).toUInt32 >>> ((nI (2)).toUInt32 &&& Int32.toUInt32 31)).toInt32) &&& (nI (858993459)))) + ((((((nI x) - ((((nI x).toUInt32 >>> ((nI (1)).toUInt32 &&& Int32.toUInt32 31)).toInt32) &&& (nI (1431655765)))) &&& (nI (858993459))) + (((((nI x) - ((((nI x).toUInt32 >>> ((nI (1)).toUInt32 &&& Int32.toUInt32 31)).toInt32) &&& (nI (1431655765)))).toUInt32 >>> ((nI (2)).toUInt32 &&& Int32.toUInt32 31)).toInt32) &&& (nI (858993459)))).toUInt32 >>> ((nI (4)).toUInt32 &&& Int32.toUInt32 31)).toInt32)) &&& (nI (252645135))).toUInt32 >>> ((nI (8)).toUInt32 &&& Int32.toUInt32 31)).toInt32)).toUInt32 >>> ((nI (16)).toUInt32 &&& Int32.toUInt32 31)).toInt32)) &&& (nI (63)) = nI (q_bc x) := by decide +kernel
set_option maxRecDepth 4000 in
theorem c_I_bitCount {G : g_G} (l : Launch) (V : g_V) (S : g_L) (x : Nat) (hx : x < 64) : g_C G l y_I_bitCount b_I_bitCount 1 (some .int) 1 [.int (nI x)] V S (fun r V' S' => r = some (.int (nI (q_bc x))) ∧ V' = V ∧ S' = S) := by
  refine g_C.of (lv := [some (.int (nI x))]) (by decide +kernel) rfl rfl rfl (Nat.le_of_ble_eq_true rfl) ?_
  refine j_iload_n (i := 0) d_I_bitCount_0 rfl lg0 ?_
  refine j_iload_n (i := 0) d_I_bitCount_1 rfl lg0 ?_
  refine j_iconstN (k := 1) d_I_bitCount_2 (by decide) ?_
  refine j_iushr d_I_bitCount_3 ?_
  refine j_ldcw (v := nI 1431655765) d_I_bitCount_4 (g_use (List.mem_of_getElem? (i := 209) (by decide +kernel)) rfl) ?_
  refine j_iand d_I_bitCount_7 ?_
  refine j_isub d_I_bitCount_8 ?_
  refine j_istore_n d_I_bitCount_9 rfl ls0 ?_
  refine j_iload_n (i := 0) d_I_bitCount_10 rfl lg0 ?_
  refine j_ldcw (v := nI 858993459) d_I_bitCount_11 (g_use (List.mem_of_getElem? (i := 210) (by decide +kernel)) rfl) ?_
  refine j_iand d_I_bitCount_14 ?_
  refine j_iload_n (i := 0) d_I_bitCount_15 rfl lg0 ?_
  refine j_iconstN (k := 2) d_I_bitCount_16 (by decide) ?_
  refine j_iushr d_I_bitCount_17 ?_
  refine j_ldcw (v := nI 858993459) d_I_bitCount_18 (g_use (List.mem_of_getElem? (i := 210) (by decide +kernel)) rfl) ?_
  refine j_iand d_I_bitCount_21 ?_
  refine j_iadd d_I_bitCount_22 ?_
  refine j_istore_n d_I_bitCount_23 rfl ls0 ?_
  refine j_iload_n (i := 0) d_I_bitCount_24 rfl lg0 ?_
  refine j_iload_n (i := 0) d_I_bitCount_25 rfl lg0 ?_
  refine j_iconstN (k := 4) d_I_bitCount_26 (by decide) ?_
  refine j_iushr d_I_bitCount_27 ?_
  refine j_iadd d_I_bitCount_28 ?_
  refine j_ldcw (v := nI 252645135) d_I_bitCount_29 (g_use (List.mem_of_getElem? (i := 211) (by decide +kernel)) rfl) ?_
  refine j_iand d_I_bitCount_32 ?_
  refine j_istore_n d_I_bitCount_33 rfl ls0 ?_
  refine j_iload_n (i := 0) d_I_bitCount_34 rfl lg0 ?_
  refine j_iload_n (i := 0) d_I_bitCount_35 rfl lg0 ?_
  refine j_bipushN (k := 8) d_I_bitCount_36 (by decide) ?_
  refine j_iushr d_I_bitCount_38 ?_
  refine j_iadd d_I_bitCount_39 ?_
  refine j_istore_n d_I_bitCount_40 rfl ls0 ?_
  refine j_iload_n (i := 0) d_I_bitCount_41 rfl lg0 ?_
  refine j_iload_n (i := 0) d_I_bitCount_42 rfl lg0 ?_
  refine j_bipushN (k := 16) d_I_bitCount_43 (by decide) ?_
  refine j_iushr d_I_bitCount_45 ?_
  refine j_iadd d_I_bitCount_46 ?_
  refine j_istore_n d_I_bitCount_47 rfl ls0 ?_
  refine j_iload_n (i := 0) d_I_bitCount_48 rfl lg0 ?_
  refine j_bipushN (k := 63) d_I_bitCount_49 (by decide) ?_
  refine j_iand d_I_bitCount_51 ?_
  refine j_iret d_I_bitCount_52 ⟨congrArg (fun v => some (Value.int v)) (g_bc x hx), rfl, rfl⟩
abbrev q_okd (n : Nat) (L : Nat → Nat) (p f d : Nat) : Prop := q_dig n L p ∧ L p - 48 + 1 < f ∧ ¬ d.testBit (L p - 48) = true
def q_rd (L : Nat → Nat) (p f : Nat) (rf : Nat → Nat) : Nat → Nat := fun i => if 5 * f ≤ i ∧ i < 5 * f + 5 then L (p + (i - 5 * f)) - 48 else rf i
/-- THE TEXT from p on, f farms and the dams d told: the fault (none), the farms, the dams, the farms' figures -/
def q_ps (n : Nat) (L : Nat → Nat) : Nat → Nat → Nat → Nat → (Nat → Nat) → Option Nat × Nat × Nat × (Nat → Nat)
  | 0, p, f, d, rf => (some p, f, d, rf)
  | m + 1, p, f, d, rf =>
    if n ≤ p then (none, f, d, rf)
    else if L p = 70 ∧ f < 6 then
      (if q_rf n L (p + 1) 5 0 < 5 then (some (p + 1 + q_rf n L (p + 1) 5 0), f, d, rf) else q_ps n L m (p + 6) (f + 1) d (q_rd L (p + 1) f rf))
    else if L p = 73 ∧ q_bc d + 1 < f then
      (if q_okd n L (p + 1) f d then q_ps n L m (p + 2) f (d ||| 1 <<< (L (p + 1) - 48)) rf else (some (p + 1), f, d, rf))
    else (some p, f, d, rf)
def q_fault (n : Nat) (L : Nat → Nat) : Option Nat × Nat × Nat × (Nat → Nat) := if 0 < n ∧ L 0 = 68 then q_ps n L 50 1 0 0 (fun _ => 0) else (some 0, 0, 0, fun _ => 0)
def q_an : Option Nat → Int32
  | some p => nI p
  | none => -9
section QPS
variable {n m p f d : Nat} {L rf : Nat → Nat}
theorem q_ps_end (h : n ≤ p) : q_ps n L (m + 1) p f d rf = (none, f, d, rf) := if_pos h
theorem q_ps_F0 (h : ¬ n ≤ p) (hL : L p = 70 ∧ f < 6) (hr : q_rf n L (p + 1) 5 0 < 5) : q_ps n L (m + 1) p f d rf = (some (p + 1 + q_rf n L (p + 1) 5 0), f, d, rf) := by
  show (if _ then _ else _) = _
  rw [if_neg h, if_pos hL, if_pos hr]
theorem q_ps_F1 (h : ¬ n ≤ p) (hL : L p = 70 ∧ f < 6) (hr : ¬ q_rf n L (p + 1) 5 0 < 5) : q_ps n L (m + 1) p f d rf = q_ps n L m (p + 6) (f + 1) d (q_rd L (p + 1) f rf) := by
  show (if _ then _ else _) = _
  rw [if_neg h, if_pos hL, if_neg hr]
theorem q_ps_I0 (h : ¬ n ≤ p) (hL : ¬ (L p = 70 ∧ f < 6)) (hI : L p = 73 ∧ q_bc d + 1 < f) (hr : ¬ q_okd n L (p + 1) f d) : q_ps n L (m + 1) p f d rf = (some (p + 1), f, d, rf) := by
  show (if _ then _ else _) = _
  rw [if_neg h, if_neg hL, if_pos hI, if_neg hr]
theorem q_ps_I1 (h : ¬ n ≤ p) (hL : ¬ (L p = 70 ∧ f < 6)) (hI : L p = 73 ∧ q_bc d + 1 < f) (hr : q_okd n L (p + 1) f d) : q_ps n L (m + 1) p f d rf = q_ps n L m (p + 2) f (d ||| 1 <<< (L (p + 1) - 48)) rf := by
  show (if _ then _ else _) = _
  rw [if_neg h, if_neg hL, if_pos hI, if_pos hr]
theorem q_ps_X (h : ¬ n ≤ p) (hL : ¬ (L p = 70 ∧ f < 6)) (hI : ¬ (L p = 73 ∧ q_bc d + 1 < f)) : q_ps n L (m + 1) p f d rf = (some p, f, d, rf) := by
  show (if _ then _ else _) = _
  rw [if_neg h, if_neg hL, if_neg hI]
end QPS
set_option maxRecDepth 4000 in
theorem lp_S_firstFault {G : g_G} (l : Launch) (V : g_V) (S : g_L) (hT : g_T V) : ∀ (n : Nat) (rf : Nat → Nat) (m p f d : Nat), (f ≤ 6) → (1 ≤ m) → (d < 2 ^ (f - 1)) → (V 1 1 + 1 ≤ p + m) → (p < 60) → (q_fault (V 1 1) (V 2) = q_ps (V 1 1) (V 2) m p f d rf) → m < n → JW G (g_M G l 4 (some .int) (fun r V' S' => r = some (.int (q_an (q_fault (V 1 1) (V 2)).1)) ∧ V' = V ∧ S' = S)) b_S_firstFault R_S 18 [some (.ref (g_a G (1))), some (.int (nI (f))), some (.int (nI (d))), some (.int (nI (p))), none, none] [] V S := by
  intro n
  induction n with
  | zero => intro rf m p f d hf hm1 hd hpm hp50 he hm; exact absurd hm (Nat.not_lt_zero _)
  | succ n ih =>
    intro rf m p f d hf hm1 hd hpm hp50 he hm
    have hl := hT.1
    have hd64 : d < 64 := Nat.lt_of_lt_of_le hd (Nat.pow_le_pow_right (n := 2) (j := 6) (by decide) (by omega))
    refine j_iload_n (i := 3) d_S_firstFault_18 rfl lg3 ?_
    refine j_aload_n (i := 0) d_S_firstFault_19 rfl lg0 ?_
    refine gf_S_15 d_S_firstFault_20 ?_
    refine j_icmp_geN (tgt := 157) d_S_firstFault_23 (by decide) (by omega) (by omega) (fun h_23 => ?_) (fun h_23 => ?_)
    ·
      obtain ⟨m', rfl⟩ : ∃ m', m = m' + 1 := ⟨m - 1, by omega⟩
      refine j_bipush (v := -9) d_S_firstFault_157 (by decide) ?_
      refine j_iret d_S_firstFault_159 ⟨by rw [he, q_ps_end (by omega)]; rfl, rfl, rfl⟩
    ·
      obtain ⟨m', rfl⟩ : ∃ m', m = m' + 1 := ⟨m - 1, by omega⟩
      refine j_aload_n (i := 0) d_S_firstFault_26 rfl lg0 ?_
      refine j_iload_n (i := 3) d_S_firstFault_27 rfl lg3 ?_
      refine cl_S_19 (c_S_letterAt l V S hT (p) (by omega)) d_S_firstFault_28 rfl rfl (g_ftM (by decide)) (Nat.le_of_ble_eq_true rfl) (g_pu ?_)
      rw [q_let_t (by omega)]
      have h255 := hT.2 p (by omega)
      refine j_istore d_S_firstFault_31 ls4i ?_
      refine j_iload d_S_firstFault_33 lg4 ?_
      refine j_bipushN (k := 70) d_S_firstFault_35 (by decide) ?_
      refine j_icmp_neN (tgt := 86) d_S_firstFault_37 (by decide) (by omega) (by omega) (fun h_37 => ?_) (fun h_37 => ?_)
      ·
        refine j_iload d_S_firstFault_86 lg4 ?_
        refine j_bipushN (k := 73) d_S_firstFault_88 (by decide) ?_
        refine j_icmp_neN (tgt := 152) d_S_firstFault_90 (by decide) (by omega) (by omega) (fun h_90 => ?_) (fun h_90 => ?_)
        ·
          try rw [g_le1 (n := f) (by omega) q_bc_lt] at h_100
          refine j_iload_n (i := 3) d_S_firstFault_152 rfl lg3 ?_
          refine j_iret d_S_firstFault_153 ⟨by rw [he, q_ps_X (by omega) (fun q => by omega) (fun q => by omega)]; rfl, rfl, rfl⟩
        ·
          refine j_iload_n (i := 2) d_S_firstFault_93 rfl lg2 ?_
          refine cl_S_32 (c_I_bitCount l V S (d) (by omega)) d_S_firstFault_94 rfl rfl (g_ftM (by decide)) (Nat.le_of_ble_eq_true rfl) (g_pu ?_)
          refine j_iload_n (i := 1) d_S_firstFault_97 rfl lg1 ?_
          refine j_iconstN (k := 1) d_S_firstFault_98 (by decide) ?_
          refine j_isub d_S_firstFault_99 ?_
          refine j_icmp_ge (tgt := 152) d_S_firstFault_100 (by decide) (fun h_100 => ?_) (fun h_100 => ?_)
          ·
            try rw [g_le1 (n := f) (by omega) q_bc_lt] at h_100
            refine j_iload_n (i := 3) d_S_firstFault_152 rfl lg3 ?_
            refine j_iret d_S_firstFault_153 ⟨by rw [he, q_ps_X (by omega) (fun q => by omega) (fun q => by omega)]; rfl, rfl, rfl⟩
          ·
            rw [g_le1 (n := f) (by omega) q_bc_lt] at h_100
            refine j_aload_n (i := 0) d_S_firstFault_103 rfl lg0 ?_
            refine j_iload_n (i := 3) d_S_firstFault_104 rfl lg3 ?_
            refine j_iconstN (k := 1) d_S_firstFault_105 (by decide) ?_
            refine j_iaddN d_S_firstFault_106 ?_
            refine cl_S_26 (c_S_figureAt l V S hT (p + 1) (by omega)) d_S_firstFault_107 rfl rfl (g_ftM (by decide)) (Nat.le_of_ble_eq_true rfl) (g_pu ?_)
            by_cases hdg : q_dig (V 1 1) (V 2) (p + 1)
            ·
              have hdg2 := hdg.2
              rw [q_fig_t hdg]
              refine j_istore d_S_firstFault_110 ls5i ?_
              refine j_iload d_S_firstFault_112 lg5 ?_
              refine j_if_lt (tgt := 134) d_S_firstFault_114 (by decide) (fun h => absurd h (nI_pos (by omega))) (fun _ => ?_)
              refine j_iload d_S_firstFault_117 lg5 ?_
              refine j_iload_n (i := 1) d_S_firstFault_119 rfl lg1 ?_
              refine j_iconstN (k := 1) d_S_firstFault_120 (by decide) ?_
              refine j_isub d_S_firstFault_121 ?_
              refine j_icmp_ge (tgt := 134) d_S_firstFault_122 (by decide) (fun h_122 => ?_) (fun h_122 => ?_)
              ·
                try rw [g_le1 (by omega) (by omega)] at h_122
                refine j_iload_n (i := 3) d_S_firstFault_134 rfl lg3 ?_
                refine j_iconstN (k := 1) d_S_firstFault_135 (by decide) ?_
                refine j_iaddN d_S_firstFault_136 ?_
                refine j_iret d_S_firstFault_137 ⟨by rw [he, q_ps_I0 (by omega) (fun q => by omega) ⟨by omega, by omega⟩ (fun q => by first | exact hdg q.1 | exact q.2.2 h_131 | (have := q.2.1; omega))]; rfl, rfl, rfl⟩
              ·
                rw [g_le1 (by omega) (by omega)] at h_122
                refine j_iload_n (i := 2) d_S_firstFault_125 rfl lg2 ?_
                refine j_iload d_S_firstFault_126 lg5 ?_
                refine cl_S_37 (c_D_has l V S (d) (V 2 (p + 1) - 48) (by omega) (by omega)) d_S_firstFault_128 rfl rfl (g_ftM (by decide)) (Nat.le_of_ble_eq_true rfl) (g_pu ?_)
                refine j_if_eqB (tgt := 138) d_S_firstFault_131 (by decide) (fun h_131 => ?_) (fun h_131 => ?_)
                ·
                  refine j_iload_n (i := 2) d_S_firstFault_138 rfl lg2 ?_
                  refine j_iload d_S_firstFault_139 lg5 ?_
                  refine cl_S_41 (c_D_bit l V S (V 2 (p + 1) - 48) (by omega)) d_S_firstFault_141 rfl rfl (g_ftM (by decide)) (Nat.le_of_ble_eq_true rfl) (g_pu ?_)
                  refine j_iorN d_S_firstFault_144 ?_
                  refine j_istore_n d_S_firstFault_145 rfl ls2i ?_
                  refine j_iincN (k := 2) d_S_firstFault_146 lg3 (by decide) ls3i ?_
                  refine j_goto (tgt := 154) d_S_firstFault_149 (by decide) ?_
                  refine j_goto (tgt := 18) d_S_firstFault_154 (by decide) ?_
                  exact j_fg 4 (j_fg 5 (ih _ (m') _ _ _ hf (by omega) (Nat.or_lt_two_pow hd (q_bit_lt (by omega))) (by omega) (by omega) (by rw [he, q_ps_I1 (by omega) (fun q => by omega) ⟨by omega, by omega⟩ ⟨hdg, by omega, h_131⟩]) (by omega)))
                ·
                  try rw [g_le1 (by omega) (by omega)] at h_122
                  refine j_iload_n (i := 3) d_S_firstFault_134 rfl lg3 ?_
                  refine j_iconstN (k := 1) d_S_firstFault_135 (by decide) ?_
                  refine j_iaddN d_S_firstFault_136 ?_
                  refine j_iret d_S_firstFault_137 ⟨by rw [he, q_ps_I0 (by omega) (fun q => by omega) ⟨by omega, by omega⟩ (fun q => by first | exact hdg q.1 | exact q.2.2 h_131 | (have := q.2.1; omega))]; rfl, rfl, rfl⟩
            ·
              rw [q_fig_f hdg]
              refine j_istore d_S_firstFault_110 ls5i ?_
              refine j_iload d_S_firstFault_112 lg5 ?_
              refine j_if_lt (tgt := 134) d_S_firstFault_114 (by decide) (fun h_114 => ?_) (fun h_114 => ?_)
              ·
                try rw [g_le1 (by omega) (by omega)] at h_122
                refine j_iload_n (i := 3) d_S_firstFault_134 rfl lg3 ?_
                refine j_iconstN (k := 1) d_S_firstFault_135 (by decide) ?_
                refine j_iaddN d_S_firstFault_136 ?_
                refine j_iret d_S_firstFault_137 ⟨by rw [he, q_ps_I0 (by omega) (fun q => by omega) ⟨by omega, by omega⟩ (fun q => by first | exact hdg q.1 | exact q.2.2 h_131 | (have := q.2.1; omega))]; rfl, rfl, rfl⟩
              ·
                exact absurd (by decide) h_114
      ·
        refine j_iload_n (i := 1) d_S_firstFault_40 rfl lg1 ?_
        refine j_bipushN (k := 6) d_S_firstFault_41 (by decide) ?_
        refine j_icmp_geN (tgt := 86) d_S_firstFault_43 (by decide) (by omega) (by omega) (fun h_43 => ?_) (fun h_43 => ?_)
        ·
          refine j_iload d_S_firstFault_86 lg4 ?_
          refine j_bipushN (k := 73) d_S_firstFault_88 (by decide) ?_
          refine j_icmp_neN (tgt := 152) d_S_firstFault_90 (by decide) (by omega) (by omega) (fun h_90 => ?_) (fun h_90 => ?_)
          ·
            try rw [g_le1 (n := f) (by omega) q_bc_lt] at h_100
            refine j_iload_n (i := 3) d_S_firstFault_152 rfl lg3 ?_
            refine j_iret d_S_firstFault_153 ⟨by rw [he, q_ps_X (by omega) (fun q => by omega) (fun q => by omega)]; rfl, rfl, rfl⟩
          ·
            refine j_iload_n (i := 2) d_S_firstFault_93 rfl lg2 ?_
            refine cl_S_32 (c_I_bitCount l V S (d) (by omega)) d_S_firstFault_94 rfl rfl (g_ftM (by decide)) (Nat.le_of_ble_eq_true rfl) (g_pu ?_)
            refine j_iload_n (i := 1) d_S_firstFault_97 rfl lg1 ?_
            refine j_iconstN (k := 1) d_S_firstFault_98 (by decide) ?_
            refine j_isub d_S_firstFault_99 ?_
            refine j_icmp_ge (tgt := 152) d_S_firstFault_100 (by decide) (fun h_100 => ?_) (fun h_100 => ?_)
            ·
              try rw [g_le1 (n := f) (by omega) q_bc_lt] at h_100
              refine j_iload_n (i := 3) d_S_firstFault_152 rfl lg3 ?_
              refine j_iret d_S_firstFault_153 ⟨by rw [he, q_ps_X (by omega) (fun q => by omega) (fun q => by omega)]; rfl, rfl, rfl⟩
            ·
              rw [g_le1 (n := f) (by omega) q_bc_lt] at h_100
              refine j_aload_n (i := 0) d_S_firstFault_103 rfl lg0 ?_
              refine j_iload_n (i := 3) d_S_firstFault_104 rfl lg3 ?_
              refine j_iconstN (k := 1) d_S_firstFault_105 (by decide) ?_
              refine j_iaddN d_S_firstFault_106 ?_
              refine cl_S_26 (c_S_figureAt l V S hT (p + 1) (by omega)) d_S_firstFault_107 rfl rfl (g_ftM (by decide)) (Nat.le_of_ble_eq_true rfl) (g_pu ?_)
              by_cases hdg : q_dig (V 1 1) (V 2) (p + 1)
              ·
                have hdg2 := hdg.2
                rw [q_fig_t hdg]
                refine j_istore d_S_firstFault_110 ls5i ?_
                refine j_iload d_S_firstFault_112 lg5 ?_
                refine j_if_lt (tgt := 134) d_S_firstFault_114 (by decide) (fun h => absurd h (nI_pos (by omega))) (fun _ => ?_)
                refine j_iload d_S_firstFault_117 lg5 ?_
                refine j_iload_n (i := 1) d_S_firstFault_119 rfl lg1 ?_
                refine j_iconstN (k := 1) d_S_firstFault_120 (by decide) ?_
                refine j_isub d_S_firstFault_121 ?_
                refine j_icmp_ge (tgt := 134) d_S_firstFault_122 (by decide) (fun h_122 => ?_) (fun h_122 => ?_)
                ·
                  try rw [g_le1 (by omega) (by omega)] at h_122
                  refine j_iload_n (i := 3) d_S_firstFault_134 rfl lg3 ?_
                  refine j_iconstN (k := 1) d_S_firstFault_135 (by decide) ?_
                  refine j_iaddN d_S_firstFault_136 ?_
                  refine j_iret d_S_firstFault_137 ⟨by rw [he, q_ps_I0 (by omega) (fun q => by omega) ⟨by omega, by omega⟩ (fun q => by first | exact hdg q.1 | exact q.2.2 h_131 | (have := q.2.1; omega))]; rfl, rfl, rfl⟩
                ·
                  rw [g_le1 (by omega) (by omega)] at h_122
                  refine j_iload_n (i := 2) d_S_firstFault_125 rfl lg2 ?_
                  refine j_iload d_S_firstFault_126 lg5 ?_
                  refine cl_S_37 (c_D_has l V S (d) (V 2 (p + 1) - 48) (by omega) (by omega)) d_S_firstFault_128 rfl rfl (g_ftM (by decide)) (Nat.le_of_ble_eq_true rfl) (g_pu ?_)
                  refine j_if_eqB (tgt := 138) d_S_firstFault_131 (by decide) (fun h_131 => ?_) (fun h_131 => ?_)
                  ·
                    refine j_iload_n (i := 2) d_S_firstFault_138 rfl lg2 ?_
                    refine j_iload d_S_firstFault_139 lg5 ?_
                    refine cl_S_41 (c_D_bit l V S (V 2 (p + 1) - 48) (by omega)) d_S_firstFault_141 rfl rfl (g_ftM (by decide)) (Nat.le_of_ble_eq_true rfl) (g_pu ?_)
                    refine j_iorN d_S_firstFault_144 ?_
                    refine j_istore_n d_S_firstFault_145 rfl ls2i ?_
                    refine j_iincN (k := 2) d_S_firstFault_146 lg3 (by decide) ls3i ?_
                    refine j_goto (tgt := 154) d_S_firstFault_149 (by decide) ?_
                    refine j_goto (tgt := 18) d_S_firstFault_154 (by decide) ?_
                    exact j_fg 4 (j_fg 5 (ih _ (m') _ _ _ hf (by omega) (Nat.or_lt_two_pow hd (q_bit_lt (by omega))) (by omega) (by omega) (by rw [he, q_ps_I1 (by omega) (fun q => by omega) ⟨by omega, by omega⟩ ⟨hdg, by omega, h_131⟩]) (by omega)))
                  ·
                    try rw [g_le1 (by omega) (by omega)] at h_122
                    refine j_iload_n (i := 3) d_S_firstFault_134 rfl lg3 ?_
                    refine j_iconstN (k := 1) d_S_firstFault_135 (by decide) ?_
                    refine j_iaddN d_S_firstFault_136 ?_
                    refine j_iret d_S_firstFault_137 ⟨by rw [he, q_ps_I0 (by omega) (fun q => by omega) ⟨by omega, by omega⟩ (fun q => by first | exact hdg q.1 | exact q.2.2 h_131 | (have := q.2.1; omega))]; rfl, rfl, rfl⟩
              ·
                rw [q_fig_f hdg]
                refine j_istore d_S_firstFault_110 ls5i ?_
                refine j_iload d_S_firstFault_112 lg5 ?_
                refine j_if_lt (tgt := 134) d_S_firstFault_114 (by decide) (fun h_114 => ?_) (fun h_114 => ?_)
                ·
                  try rw [g_le1 (by omega) (by omega)] at h_122
                  refine j_iload_n (i := 3) d_S_firstFault_134 rfl lg3 ?_
                  refine j_iconstN (k := 1) d_S_firstFault_135 (by decide) ?_
                  refine j_iaddN d_S_firstFault_136 ?_
                  refine j_iret d_S_firstFault_137 ⟨by rw [he, q_ps_I0 (by omega) (fun q => by omega) ⟨by omega, by omega⟩ (fun q => by first | exact hdg q.1 | exact q.2.2 h_131 | (have := q.2.1; omega))]; rfl, rfl, rfl⟩
                ·
                  exact absurd (by decide) h_114
        ·
          refine j_aload_n (i := 0) d_S_firstFault_46 rfl lg0 ?_
          refine j_iload_n (i := 3) d_S_firstFault_47 rfl lg3 ?_
          refine j_iconstN (k := 1) d_S_firstFault_48 (by decide) ?_
          refine j_iaddN d_S_firstFault_49 ?_
          refine cl_S_29 (c_S_rightFigures l V S hT (p + 1) (by omega)) d_S_firstFault_50 rfl rfl (g_ftM (by decide)) (Nat.le_of_ble_eq_true rfl) (g_pu ?_)
          have hr5 := q_rf_le (n := V 1 1) (p := p + 1) (L := V 2) 5 0
          refine j_istore d_S_firstFault_53 ls5i ?_
          refine j_iload d_S_firstFault_55 lg5 ?_
          refine j_getsGN d_S_firstFault_57 gs_S_23 ?_
          refine j_alenG d_S_firstFault_60 ?_
          refine j_icmp_geN (tgt := 71) d_S_firstFault_61 (by decide) (by omega) (by omega) (fun h_61 => ?_) (fun h_61 => ?_)
          ·
            refine j_iincN (k := 1) d_S_firstFault_71 lg1 (by decide) ls1r ?_
            refine j_iload_n (i := 3) d_S_firstFault_74 rfl lg3 ?_
            refine j_getsGN d_S_firstFault_75 gs_S_23 ?_
            refine j_alenG d_S_firstFault_78 ?_
            refine j_iconstN (k := 1) d_S_firstFault_79 (by decide) ?_
            refine j_iaddN d_S_firstFault_80 ?_
            refine j_iaddN d_S_firstFault_81 ?_
            refine j_istore_n d_S_firstFault_82 rfl ls3i ?_
            refine j_goto (tgt := 154) d_S_firstFault_83 (by decide) ?_
            refine j_goto (tgt := 18) d_S_firstFault_154 (by decide) ?_
            exact j_fg 4 (j_fg 5 (ih _ (m') _ _ _ (by omega) (by omega) (Nat.lt_of_lt_of_le hd (Nat.pow_le_pow_right (by decide) (by omega))) (by omega) (by omega) (by rw [he, q_ps_F1 (by omega) ⟨by omega, h_43⟩ (by omega)]) (by omega)))
          ·
            refine j_iload_n (i := 3) d_S_firstFault_64 rfl lg3 ?_
            refine j_iconstN (k := 1) d_S_firstFault_65 (by decide) ?_
            refine j_iaddN d_S_firstFault_66 ?_
            refine j_iload d_S_firstFault_67 lg5 ?_
            refine j_iaddN d_S_firstFault_69 ?_
            refine j_iret d_S_firstFault_70 ⟨by rw [he, q_ps_F0 (by omega) ⟨by omega, by omega⟩ (by omega)]; rfl, rfl, rfl⟩
set_option maxRecDepth 4000 in
theorem c_S_firstFault {G : g_G} (l : Launch) (V : g_V) (S : g_L) (hT : g_T V) : g_C G l y_S_firstFault b_S_firstFault 6 (some .int) 4 [.ref (g_a G (1))] V S (fun r V' S' => r = some (.int (q_an (q_fault (V 1 1) (V 2)).1)) ∧ V' = V ∧ S' = S) := by
  refine g_C.of (lv := [some (.ref (g_a G (1))), none, none, none, none, none]) (by decide +kernel) rfl rfl rfl (Nat.le_of_ble_eq_true rfl) ?_
  have hl := hT.1
  refine j_aload_n (i := 0) d_S_firstFault_0 rfl lg0 ?_
  refine j_iconstN (k := 0) d_S_firstFault_1 (by decide) ?_
  refine cl_S_19 (c_S_letterAt l V S hT (0) (by omega)) d_S_firstFault_2 rfl rfl (g_ftM (by decide)) (Nat.le_of_ble_eq_true rfl) (g_pu ?_)
  by_cases hn0 : 0 < V 1 1
  ·
    rw [q_let_t hn0]
    have h255 := hT.2 0 (by omega)
    refine j_bipushN (k := 68) d_S_firstFault_5 (by decide) ?_
    refine j_icmp_eqN (tgt := 12) d_S_firstFault_7 (by decide) (by omega) (by omega) (fun h_7 => ?_) (fun h_7 => ?_)
    ·
      refine j_iconstN (k := 0) d_S_firstFault_12 (by decide) ?_
      refine j_istore_n d_S_firstFault_13 rfl ls1r ?_
      refine j_iconstN (k := 0) d_S_firstFault_14 (by decide) ?_
      refine j_istore_n d_S_firstFault_15 rfl ls2i ?_
      refine j_iconstN (k := 1) d_S_firstFault_16 (by decide) ?_
      refine j_istore_n d_S_firstFault_17 rfl ls3i ?_
      exact lp_S_firstFault l V S hT _ (fun _ => 0) 50 1 0 0 (by omega) (by decide) (by decide) (by omega) (by omega) (by unfold q_fault; rw [if_pos (by first | exact ⟨hn0, h_7⟩ | exact absurd h_7 (by decide))]) (Nat.lt_succ_self _)
    ·
      refine j_iconstN (k := 0) d_S_firstFault_10 (by decide) ?_
      refine j_iret d_S_firstFault_11 ⟨by unfold q_fault; rw [if_neg (fun q => by first | exact h_7 q.2 | exact hn0 q.1)]; rfl, rfl, rfl⟩
  ·
    rw [q_let_f hn0]
    refine j_bipushN (k := 68) d_S_firstFault_5 (by decide) ?_
    refine j_icmp_eq (tgt := 12) d_S_firstFault_7 (by decide) (fun h_7 => ?_) (fun h_7 => ?_)
    ·
      refine j_iconstN (k := 0) d_S_firstFault_12 (by decide) ?_
      refine j_istore_n d_S_firstFault_13 rfl ls1r ?_
      refine j_iconstN (k := 0) d_S_firstFault_14 (by decide) ?_
      refine j_istore_n d_S_firstFault_15 rfl ls2i ?_
      refine j_iconstN (k := 1) d_S_firstFault_16 (by decide) ?_
      refine j_istore_n d_S_firstFault_17 rfl ls3i ?_
      exact lp_S_firstFault l V S hT _ (fun _ => 0) 50 1 0 0 (by omega) (by decide) (by decide) (by omega) (by omega) (by unfold q_fault; rw [if_pos (by first | exact ⟨hn0, h_7⟩ | exact absurd h_7 (by decide))]) (Nat.lt_succ_self _)
    ·
      refine j_iconstN (k := 0) d_S_firstFault_10 (by decide) ?_
      refine j_iret d_S_firstFault_11 ⟨by unfold q_fault; rw [if_neg (fun q => by first | exact h_7 q.2 | exact hn0 q.1)]; rfl, rfl, rfl⟩
