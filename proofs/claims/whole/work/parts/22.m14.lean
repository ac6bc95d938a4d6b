/-! The class: told, winters: storms one behind the other on a copy of the heights. -/
/-- the heights behind k storms -/
def q_hh (kd gr : Nat → Nat) (n : Nat) (xs : Nat → Nat) (h0 : Nat → Nat) : Nat → Nat → Nat
  | 0 => h0
  | k + 1 => fun i => if i < n then q_bh (q_str (kd i) (gr i) (q_hh kd gr n xs h0 k i)) (q_hh kd gr n xs h0 k i) (xs k) else q_hh kd gr n xs h0 k i
theorem q_hh_le {kd gr xs h0 : Nat → Nat} {n i : Nat} (h : h0 i ≤ 15) : ∀ k, q_hh kd gr n xs h0 k i ≤ 15
  | 0 => h
  | k + 1 => by
    have ih := q_hh_le (kd := kd) (gr := gr) (xs := xs) (n := n) h k
    show (if i < n then q_bh (q_str (kd i) (gr i) (q_hh kd gr n xs h0 k i)) (q_hh kd gr n xs h0 k i) (xs k) else q_hh kd gr n xs h0 k i) ≤ 15
    by_cases hi : i < n
    · rw [if_pos hi]; exact Nat.le_trans q_bh_le ih
    · rw [if_neg hi]; exact ih
/-- what the k-th storm breaks -/
def q_hb (kd gr : Nat → Nat) (n : Nat) (xs : Nat → Nat) (h0 : Nat → Nat) (k : Nat) : Nat := q_brk n (fun i => q_str (kd i) (gr i) (q_hh kd gr n xs h0 k i)) (xs k)
def q_fi (P : Nat → Bool) : Nat → Int32
  | 0 => -9
  | k + 1 => if q_fi P k = -9 ∧ P k = true then nI k else q_fi P k
theorem g_hh_step {V1 : g_V} {xs h0 : Nat → Nat} {k n : Nat} (e3 : n = n) : g_sk (g_row V1 8 (q_hh (V1 5) (V1 3) n xs h0 k)) 8 (xs k) n = g_row V1 8 (q_hh (V1 5) (V1 3) n xs h0 (k + 1)) := by
  funext c j
  unfold g_sk g_row
  by_cases h : c = 8
  · subst h; simp [q_hh]
  · simp [h]
theorem g_hb_eq {V1 : g_V} {xs h0 : Nat → Nat} {k n : Nat} : q_brk n (D_strc (g_row V1 8 (q_hh (V1 5) (V1 3) n xs h0 k)) 8) (xs k) = q_hb (V1 5) (V1 3) n xs h0 k := by
  unfold q_hb
  congr 1
set_option maxRecDepth 4000 in
theorem lp_D_told {G : g_G} (l : Launch) (V : g_V) (S : g_L) (hO : g_OK V) (V1 : g_V) (xs : Nat → Nat) (s k0 w : Nat) (zz : Int64) (hs : s < V 0 1) (hk0 : 1 ≤ k0 ∧ k0 ≤ 5) (hw3 : w < 3) (hV1 : ∀ c, c ≠ 8 → c ≠ 9 → V1 c = V c) (h9 : ∀ j, j < k0 → V1 9 j = xs j ∧ xs j ≤ 20) (h8 : ∀ i, i < 6 → V1 8 i ≤ 15) : ∀ (n : Nat) (k : Nat), (k ≤ k0) → k0 - k < n → JW G (g_M G l 4 (some .int) (fun r V' S' => S' = S ∧ r = some (.int (if nI w = 2 then nI (q_hh (V 5) (V 3) (V 0 1) xs (V1 8) k0 s) else if nI w = 0 then q_fi (fun j => decide (¬ q_hb (V 5) (V 3) (V 0 1) xs (V1 8) j = 0)) k0 else q_fi (fun j => decide ((q_hb (V 5) (V 3) (V 0 1) xs (V1 8) j).testBit s = true)) k0)) ∧ ∀ c, c ≠ 8 → c ≠ 9 → V' c = V c)) b_D_told R_D 68 [some (.ref (g_a G (0))), some (.int (nI (s))), some (.int (nI (k0))), some (.long (zz)), none, some (.int (nI (w))), some (.int (q_fi (fun j => decide (¬ q_hb (V 5) (V 3) (V 0 1) xs (V1 8) j = 0)) k)), some (.int (q_fi (fun j => decide ((q_hb (V 5) (V 3) (V 0 1) xs (V1 8) j).testBit s = true)) k)), some (.int (nI (k))), none] [] (g_row V1 8 (q_hh (V 5) (V 3) (V 0 1) xs (V1 8) k)) S := by
  intro n
  induction n with
  | zero => intro k hk hm; exact absurd hm (Nat.not_lt_zero _)
  | succ n ih =>
    intro k hk hm
    have hn := hO.1.1
    have hK := hO.1.2.1
    have hT := hO.1.2.2
    have hH := (hO.2.2 0 (by decide)).1
    have hW := (hO.2.2 0 (by decide)).2.1
    have hsp := (hO.2.2 0 (by decide)).2.2.1
    have hdm := (hO.2.2 0 (by decide)).2.2.2.1
    have htd := (hO.2.2 0 (by decide)).2.2.2.2
    have hF := hO.2.1.1
    have hA := hO.2.1.2.1
    have hkp := hO.2.1.2.2
    have vt0 : (g_row V1 8 (q_hh (V 5) (V 3) (V 0 1) xs (V1 8) k)) 0 = V 0 := (g_rowN (by decide)).trans (hV1 _ (by decide) (by decide))
    have vt1 : (g_row V1 8 (q_hh (V 5) (V 3) (V 0 1) xs (V1 8) k)) 0 1 = V 0 1 := by rw [vt0]
    have vtn : (g_row V1 8 (q_hh (V 5) (V 3) (V 0 1) xs (V1 8) k)) 0 1 ≤ 6 := by rw [vt1]; exact hn
    have vt3 : (g_row V1 8 (q_hh (V 5) (V 3) (V 0 1) xs (V1 8) k)) 3 = V 3 := (g_rowN (by decide)).trans (hV1 _ (by decide) (by decide))
    have vt4 : (g_row V1 8 (q_hh (V 5) (V 3) (V 0 1) xs (V1 8) k)) 4 = V 4 := (g_rowN (by decide)).trans (hV1 _ (by decide) (by decide))
    have vt5 : (g_row V1 8 (q_hh (V 5) (V 3) (V 0 1) xs (V1 8) k)) 5 = V 5 := (g_rowN (by decide)).trans (hV1 _ (by decide) (by decide))
    have vth : (g_row V1 8 (q_hh (V 5) (V 3) (V 0 1) xs (V1 8) k)) (hB 0 + 1) = V (hB 0 + 1) := (g_rowN (by decide)).trans (hV1 _ (by decide) (by decide))
    have vtc : (g_row V1 8 (q_hh (V 5) (V 3) (V 0 1) xs (V1 8) k)) (hB 0 + 2) = V (hB 0 + 2) := (g_rowN (by decide)).trans (hV1 _ (by decide) (by decide))
    have vte : (g_row V1 8 (q_hh (V 5) (V 3) (V 0 1) xs (V1 8) k)) (hB 0) = V (hB 0) := (g_rowN (by decide)).trans (hV1 _ (by decide) (by decide))
    have vts : D_str (g_row V1 8 (q_hh (V 5) (V 3) (V 0 1) xs (V1 8) k)) = D_str V := D_str_eq vt3 vt5 vth
    have vtd : (g_row V1 8 (q_hh (V 5) (V 3) (V 0 1) xs (V1 8) k)) (hB 0) 5 = V (hB 0) 5 := by rw [vte]
    have vtD : (g_row V1 8 (q_hh (V 5) (V 3) (V 0 1) xs (V1 8) k)) (hB 0) 5 < 64 := by rw [vtd]; exact hdm
    have vtK : g_K (g_row V1 8 (q_hh (V 5) (V 3) (V 0 1) xs (V1 8) k)) := by unfold g_K; rw [vt3, vt4, vt5]; exact hK
    have vtH : g_H (g_row V1 8 (q_hh (V 5) (V 3) (V 0 1) xs (V1 8) k)) (hB 0 + 1) := by unfold g_H; rw [vth]; exact hH
    have hH8 : g_H (g_row V1 8 (q_hh (V 5) (V 3) (V 0 1) xs (V1 8) k)) 8 := fun i hi => by rw [g_rowS]; exact q_hh_le (h8 i hi) k
    have e15 : V1 5 = V 5 := hV1 5 (by decide) (by decide)
    have e13 : V1 3 = V 3 := hV1 3 (by decide) (by decide)
    refine j_iload d_D_told_68 lg8 ?_
    refine j_iload_n (i := 2) d_D_told_70 rfl lg2 ?_
    refine j_icmp_geN (tgt := 133) d_D_told_71 (by decide) (by omega) (by omega) (fun h_71 => ?_) (fun h_71 => ?_)
    ·
      refine j_iload d_D_told_133 lg5 ?_
      refine j_iconstN (k := 2) d_D_told_135 (by decide) ?_
      refine j_icmp_neN (tgt := 146) d_D_told_136 (by decide) (by omega) (by omega) (fun h_136 => ?_) (fun h_136 => ?_)
      ·
        refine j_iload d_D_told_146 lg5 ?_
        refine j_if_neN (tgt := 156) d_D_told_148 (by decide) (by omega) (fun h_148 => ?_) (fun h_148 => ?_)
        ·
          refine j_iload d_D_told_156 lg7 ?_
          refine j_iret d_D_told_158 ⟨rfl, by rw [if_neg (show ¬ nI w = 2 from fun q => h_136 ((nI_eq (by omega) (by decide)).mp q)), if_neg (show ¬ nI w = 0 from fun q => h_148 ((nI_eq (by omega) (by decide)).mp (q.trans nI_0.symm))), show k = k0 by omega], fun c h1 h2 => (g_rowN h1).trans (hV1 c h1 h2)⟩
        ·
          refine j_iload d_D_told_151 lg6 ?_
          refine j_goto (tgt := 158) d_D_told_153 (by decide) ?_
          refine j_iret d_D_told_158 ⟨rfl, by rw [if_neg (show ¬ nI w = 2 from fun q => h_136 ((nI_eq (by omega) (by decide)).mp q)), if_pos (show nI w = 0 from by rw [h_148]; rfl), show k = k0 by omega], fun c h1 h2 => (g_rowN h1).trans (hV1 c h1 h2)⟩
      ·
        refine j_aload_n (i := 0) d_D_told_139 rfl lg0 ?_
        refine gf_D_40 d_D_told_140 ?_
        refine j_iload_n (i := 1) d_D_told_143 rfl lg1 ?_
        refine j_iald d_D_told_144 gI_8 (by omega) ?_
        refine j_iret d_D_told_145 ⟨rfl, by rw [if_pos (show nI w = 2 from by rw [h_136]; rfl), g_rowS, show k = k0 by omega], fun c h1 h2 => (g_rowN h1).trans (hV1 c h1 h2)⟩
    ·
      refine j_aload_n (i := 0) d_D_told_74 rfl lg0 ?_
      refine j_aload_n (i := 0) d_D_told_75 rfl lg0 ?_
      refine gf_D_40 d_D_told_76 ?_
      refine j_aload_n (i := 0) d_D_told_79 rfl lg0 ?_
      refine gf_D_43 d_D_told_80 ?_
      refine j_iload d_D_told_83 lg8 ?_
      refine j_iald d_D_told_85 gI_9 (by omega) ?_
      rw [show (g_row V1 8 (q_hh (V 5) (V 3) (V 0 1) xs (V1 8) k)) 9 k = xs k from (congrFun (g_rowN (by decide)) k).trans (h9 k (by omega)).1]
      refine cl_D_140 (c_D_strike l (g_row V1 8 (q_hh (V 5) (V 3) (V 0 1) xs (V1 8) k)) S vtn vtK 8 (xs k) gI_8 (by decide) (by decide) (by decide) (by decide) hH8 (h9 k (by omega)).2) d_D_told_86 rfl rfl (g_ftM (by decide)) (Nat.le_of_ble_eq_true rfl) (g_pv ?_)
      rw [vt1]
      have hst := g_hh_step (V1 := V1) (xs := xs) (h0 := V1 8) (k := k) (n := V 0 1) rfl
      have hbb := g_hb_eq (V1 := V1) (xs := xs) (h0 := V1 8) (k := k) (n := V 0 1)
      rw [e15, e13] at hst hbb
      rw [hst, hbb]
      have hb6 : q_hb (V 5) (V 3) (V 0 1) xs (V1 8) k < 64 := q_brk_lt (m := 6) hn
      refine j_istore d_D_told_89 ls9i ?_
      refine j_iload d_D_told_91 lg6 ?_
      refine j_bipush (v := -9) d_D_told_93 (by decide) ?_
      refine j_icmp_ne (tgt := 107) d_D_told_95 (by decide) (fun h_95 => ?_) (fun h_95 => ?_)
      ·
        have e1 : q_fi (fun j => decide (¬ q_hb (V 5) (V 3) (V 0 1) xs (V1 8) j = 0)) k = q_fi (fun j => decide (¬ q_hb (V 5) (V 3) (V 0 1) xs (V1 8) j = 0)) (k + 1) := (if_neg (by
          rintro ⟨q1, q2⟩
          first | exact h_95 q1 | exact (of_decide_eq_true q2) h_100)).symm
        refine j_iload d_D_told_107 lg7 ?_
        refine j_bipush (v := -9) d_D_told_109 (by decide) ?_
        refine j_icmp_ne (tgt := 127) d_D_told_111 (by decide) (fun h_111 => ?_) (fun h_111 => ?_)
        ·
          have e2 : q_fi (fun j => decide ((q_hb (V 5) (V 3) (V 0 1) xs (V1 8) j).testBit s = true)) k = q_fi (fun j => decide ((q_hb (V 5) (V 3) (V 0 1) xs (V1 8) j).testBit s = true)) (k + 1) := (if_neg (by
            rintro ⟨q1, q2⟩
            first | exact h_111 q1 | exact h_120 (of_decide_eq_true q2))).symm
          refine j_iincN (k := 1) d_D_told_127 lg8 (by decide) ls8i ?_
          refine j_goto (tgt := 68) d_D_told_130 (by decide) ?_
          have hi := ih (k + 1) (by omega) (by omega)
          rw [← e1, ← e2] at hi
          exact j_fg 9 hi
        ·
          refine j_iload d_D_told_114 lg9 ?_
          refine j_iload_n (i := 1) d_D_told_116 rfl lg1 ?_
          refine cl_D_150 (c_D_has l (g_row V1 8 (q_hh (V 5) (V 3) (V 0 1) xs (V1 8) (k + 1))) S (q_hb (V 5) (V 3) (V 0 1) xs (V1 8) k) (s) (by omega) (by omega)) d_D_told_117 rfl rfl (g_ftM (by decide)) (Nat.le_of_ble_eq_true rfl) (g_pu ?_)
          refine j_if_eqB (tgt := 127) d_D_told_120 (by decide) (fun h_120 => ?_) (fun h_120 => ?_)
          ·
            have e2 : q_fi (fun j => decide ((q_hb (V 5) (V 3) (V 0 1) xs (V1 8) j).testBit s = true)) k = q_fi (fun j => decide ((q_hb (V 5) (V 3) (V 0 1) xs (V1 8) j).testBit s = true)) (k + 1) := (if_neg (by
              rintro ⟨q1, q2⟩
              first | exact h_111 q1 | exact h_120 (of_decide_eq_true q2))).symm
            refine j_iincN (k := 1) d_D_told_127 lg8 (by decide) ls8i ?_
            refine j_goto (tgt := 68) d_D_told_130 (by decide) ?_
            have hi := ih (k + 1) (by omega) (by omega)
            rw [← e1, ← e2] at hi
            exact j_fg 9 hi
          ·
            refine j_iload d_D_told_123 lg8 ?_
            refine j_istore d_D_told_125 ls7i ?_
            have e2 : nI k = q_fi (fun j => decide ((q_hb (V 5) (V 3) (V 0 1) xs (V1 8) j).testBit s = true)) (k + 1) := (if_pos ⟨h_111, decide_eq_true h_120⟩).symm
            refine j_iincN (k := 1) d_D_told_127 lg8 (by decide) ls8i ?_
            refine j_goto (tgt := 68) d_D_told_130 (by decide) ?_
            have hi := ih (k + 1) (by omega) (by omega)
            rw [← e1, ← e2] at hi
            exact j_fg 9 hi
      ·
        refine j_iload d_D_told_98 lg9 ?_
        refine j_if_eqN (tgt := 107) d_D_told_100 (by decide) (by omega) (fun h_100 => ?_) (fun h_100 => ?_)
        ·
          have e1 : q_fi (fun j => decide (¬ q_hb (V 5) (V 3) (V 0 1) xs (V1 8) j = 0)) k = q_fi (fun j => decide (¬ q_hb (V 5) (V 3) (V 0 1) xs (V1 8) j = 0)) (k + 1) := (if_neg (by
            rintro ⟨q1, q2⟩
            first | exact h_95 q1 | exact (of_decide_eq_true q2) h_100)).symm
          refine j_iload d_D_told_107 lg7 ?_
          refine j_bipush (v := -9) d_D_told_109 (by decide) ?_
          refine j_icmp_ne (tgt := 127) d_D_told_111 (by decide) (fun h_111 => ?_) (fun h_111 => ?_)
          ·
            have e2 : q_fi (fun j => decide ((q_hb (V 5) (V 3) (V 0 1) xs (V1 8) j).testBit s = true)) k = q_fi (fun j => decide ((q_hb (V 5) (V 3) (V 0 1) xs (V1 8) j).testBit s = true)) (k + 1) := (if_neg (by
              rintro ⟨q1, q2⟩
              first | exact h_111 q1 | exact h_120 (of_decide_eq_true q2))).symm
            refine j_iincN (k := 1) d_D_told_127 lg8 (by decide) ls8i ?_
            refine j_goto (tgt := 68) d_D_told_130 (by decide) ?_
            have hi := ih (k + 1) (by omega) (by omega)
            rw [← e1, ← e2] at hi
            exact j_fg 9 hi
          ·
            refine j_iload d_D_told_114 lg9 ?_
            refine j_iload_n (i := 1) d_D_told_116 rfl lg1 ?_
            refine cl_D_150 (c_D_has l (g_row V1 8 (q_hh (V 5) (V 3) (V 0 1) xs (V1 8) (k + 1))) S (q_hb (V 5) (V 3) (V 0 1) xs (V1 8) k) (s) (by omega) (by omega)) d_D_told_117 rfl rfl (g_ftM (by decide)) (Nat.le_of_ble_eq_true rfl) (g_pu ?_)
            refine j_if_eqB (tgt := 127) d_D_told_120 (by decide) (fun h_120 => ?_) (fun h_120 => ?_)
            ·
              have e2 : q_fi (fun j => decide ((q_hb (V 5) (V 3) (V 0 1) xs (V1 8) j).testBit s = true)) k = q_fi (fun j => decide ((q_hb (V 5) (V 3) (V 0 1) xs (V1 8) j).testBit s = true)) (k + 1) := (if_neg (by
                rintro ⟨q1, q2⟩
                first | exact h_111 q1 | exact h_120 (of_decide_eq_true q2))).symm
              refine j_iincN (k := 1) d_D_told_127 lg8 (by decide) ls8i ?_
              refine j_goto (tgt := 68) d_D_told_130 (by decide) ?_
              have hi := ih (k + 1) (by omega) (by omega)
              rw [← e1, ← e2] at hi
              exact j_fg 9 hi
            ·
              refine j_iload d_D_told_123 lg8 ?_
              refine j_istore d_D_told_125 ls7i ?_
              have e2 : nI k = q_fi (fun j => decide ((q_hb (V 5) (V 3) (V 0 1) xs (V1 8) j).testBit s = true)) (k + 1) := (if_pos ⟨h_111, decide_eq_true h_120⟩).symm
              refine j_iincN (k := 1) d_D_told_127 lg8 (by decide) ls8i ?_
              refine j_goto (tgt := 68) d_D_told_130 (by decide) ?_
              have hi := ih (k + 1) (by omega) (by omega)
              rw [← e1, ← e2] at hi
              exact j_fg 9 hi
        ·
          refine j_iload d_D_told_103 lg8 ?_
          refine j_istore d_D_told_105 ls6i ?_
          have e1 : nI k = q_fi (fun j => decide (¬ q_hb (V 5) (V 3) (V 0 1) xs (V1 8) j = 0)) (k + 1) := (if_pos ⟨h_95, decide_eq_true h_100⟩).symm
          refine j_iload d_D_told_107 lg7 ?_
          refine j_bipush (v := -9) d_D_told_109 (by decide) ?_
          refine j_icmp_ne (tgt := 127) d_D_told_111 (by decide) (fun h_111 => ?_) (fun h_111 => ?_)
          ·
            have e2 : q_fi (fun j => decide ((q_hb (V 5) (V 3) (V 0 1) xs (V1 8) j).testBit s = true)) k = q_fi (fun j => decide ((q_hb (V 5) (V 3) (V 0 1) xs (V1 8) j).testBit s = true)) (k + 1) := (if_neg (by
              rintro ⟨q1, q2⟩
              first | exact h_111 q1 | exact h_120 (of_decide_eq_true q2))).symm
            refine j_iincN (k := 1) d_D_told_127 lg8 (by decide) ls8i ?_
            refine j_goto (tgt := 68) d_D_told_130 (by decide) ?_
            have hi := ih (k + 1) (by omega) (by omega)
            rw [← e1, ← e2] at hi
            exact j_fg 9 hi
          ·
            refine j_iload d_D_told_114 lg9 ?_
            refine j_iload_n (i := 1) d_D_told_116 rfl lg1 ?_
            refine cl_D_150 (c_D_has l (g_row V1 8 (q_hh (V 5) (V 3) (V 0 1) xs (V1 8) (k + 1))) S (q_hb (V 5) (V 3) (V 0 1) xs (V1 8) k) (s) (by omega) (by omega)) d_D_told_117 rfl rfl (g_ftM (by decide)) (Nat.le_of_ble_eq_true rfl) (g_pu ?_)
            refine j_if_eqB (tgt := 127) d_D_told_120 (by decide) (fun h_120 => ?_) (fun h_120 => ?_)
            ·
              have e2 : q_fi (fun j => decide ((q_hb (V 5) (V 3) (V 0 1) xs (V1 8) j).testBit s = true)) k = q_fi (fun j => decide ((q_hb (V 5) (V 3) (V 0 1) xs (V1 8) j).testBit s = true)) (k + 1) := (if_neg (by
                rintro ⟨q1, q2⟩
                first | exact h_111 q1 | exact h_120 (of_decide_eq_true q2))).symm
              refine j_iincN (k := 1) d_D_told_127 lg8 (by decide) ls8i ?_
              refine j_goto (tgt := 68) d_D_told_130 (by decide) ?_
              have hi := ih (k + 1) (by omega) (by omega)
              rw [← e1, ← e2] at hi
              exact j_fg 9 hi
            ·
              refine j_iload d_D_told_123 lg8 ?_
              refine j_istore d_D_told_125 ls7i ?_
              have e2 : nI k = q_fi (fun j => decide ((q_hb (V 5) (V 3) (V 0 1) xs (V1 8) j).testBit s = true)) (k + 1) := (if_pos ⟨h_111, decide_eq_true h_120⟩).symm
              refine j_iincN (k := 1) d_D_told_127 lg8 (by decide) ls8i ?_
              refine j_goto (tgt := 68) d_D_told_130 (by decide) ?_
              have hi := ih (k + 1) (by omega) (by omega)
              rw [← e1, ← e2] at hi
              exact j_fg 9 hi
/-- TOLD, by the numbers: heights, storms, the answer wanted -/
def D_xs (k0 m : Nat) (j : Nat) : Nat := q_dg m (k0 - 1 - j)
def D_told (V : g_V) (h0 : Nat → Nat) (s k0 m : Nat) (w : Int32) : Int32 :=
  if w = 2 then nI (q_hh (V 5) (V 3) (V 0 1) (D_xs k0 m) h0 k0 s) else if w = 0 then q_fi (fun j => decide (¬ q_hb (V 5) (V 3) (V 0 1) (D_xs k0 m) h0 j = 0)) k0 else q_fi (fun j => decide ((q_hb (V 5) (V 3) (V 0 1) (D_xs k0 m) h0 j).testBit s = true)) k0
abbrev q_15 (x : Int32) : Prop := 1 ≤ x.toInt ∧ x.toInt ≤ 5
theorem q_15_of {x : Int32} (h : q_15 x) : ∃ k : Nat, (1 ≤ k ∧ k ≤ 5) ∧ x = nI k := by
  obtain ⟨h1, h2⟩ := h
  refine ⟨x.toInt.toNat, by omega, Int32.toInt_inj.mp ?_⟩
  rw [nI_toInt (by omega)]
  omega
theorem g_mono {G : g_G} {l : Launch} {d : Nat} {ret : Option FieldType} {p1 p2 : Option Value → g_V → g_L → Prop} {cc : ByteArray} {own : String} {pc : Nat} {lv : List (Option Value)} {st : List Value} {V : g_V} {S : g_L} (h : ∀ r V' S', p1 r V' S' → p2 r V' S') (k : JW G (g_M G l d ret p1) cc own pc lv st V S) : JW G (g_M G l d ret p2) cc own pc lv st V S := by
  intro p e s m args below meth c Q C K H locs ls hl hP hS T hT X
  cases K
  obtain ⟨t, h1, o, h2, h3, ⟨⟨r, V', S', h4, h5, h6⟩, h7⟩, h8⟩ := k p e s m args below meth c _ C rfl H locs ls hl hP hS T hT X
  exact ⟨t, h1, o, h2, h3, ⟨⟨r, V', S', h4, h r V' S' h5, h6⟩, h7⟩, h8⟩
set_option maxRecDepth 4000 in
theorem c_D_told {G : g_G} (l : Launch) (V : g_V) (S : g_L) (hO : g_OK V) (s0 n0 : Int32) (z : Int64) (w0 : Int32) : g_C G l y_D_told b_D_told 10 (some .int) 4 [.ref (g_a G (0)), .int (s0), .int (n0), .long (z), .int (w0)] V S (fun r V' S' => S' = S ∧ (∀ c, c ≠ 8 → c ≠ 9 → V' c = V c) ∧ ((¬ q_in s0 (V 0 1) ∧ r = some (.int (-1))) ∨ (q_in s0 (V 0 1) ∧ ¬ (q_15 n0 ∧ (0 ≤ z ∧ q_st (q_n n0) z.toInt.toNat) ∧ q_in w0 3) ∧ r = some (.int (-2))) ∨ (q_in s0 (V 0 1) ∧ (q_15 n0 ∧ (0 ≤ z ∧ q_st (q_n n0) z.toInt.toNat) ∧ q_in w0 3) ∧ ∃ h0 : Nat → Nat, (∀ i, i < 6 → h0 i = V (hB 0 + 1) i) ∧ r = some (.int (D_told V h0 (q_n s0) (q_n n0) z.toInt.toNat w0))))) := by
  refine g_C.of (lv := [some (.ref (g_a G (0))), some (.int (s0)), some (.int (n0)), some (.long (z)), none, some (.int (w0)), none, none, none, none]) (by decide +kernel) rfl rfl rfl (Nat.le_of_ble_eq_true rfl) ?_
  have hn := hO.1.1
  have hK := hO.1.2.1
  have hT := hO.1.2.2
  have hH := (hO.2.2 0 (by decide)).1
  have hW := (hO.2.2 0 (by decide)).2.1
  have hsp := (hO.2.2 0 (by decide)).2.2.1
  have hdm := (hO.2.2 0 (by decide)).2.2.2.1
  have htd := (hO.2.2 0 (by decide)).2.2.2.2
  have hF := hO.2.1.1
  have hA := hO.2.1.2.1
  have hkp := hO.2.1.2.2
  refine j_aload_n (i := 0) d_D_told_0 rfl lg0 ?_
  refine j_iload_n (i := 1) d_D_told_1 rfl lg1 ?_
  refine cl_D_113 (c_D_isFarm l V S (by omega) (s0)) d_D_told_2 rfl rfl (g_ftM (by decide)) (Nat.le_of_ble_eq_true rfl) (g_pu ?_)
  refine j_if_neB (tgt := 10) d_D_told_5 (by decide) (fun h_5 => ?_) (fun h_5 => ?_)
  ·
    refine j_iload_n (i := 2) d_D_told_10 rfl lg2 ?_
    refine j_iconstN (k := 1) d_D_told_11 (by decide) ?_
    refine j_icmp_lt (tgt := 40) d_D_told_12 (by decide) (fun h_12 => ?_) (fun h_12 => ?_)
    ·
      refine j_bipush (v := -2) d_D_told_40 (by decide) ?_
      refine j_iret d_D_told_42 ⟨rfl, fun _ _ _ => rfl, Or.inr (Or.inl ⟨h_5, fun q => by first | (rw [Int32.lt_iff_toInt_lt, nI_toInt (by decide)] at h_12; have := q.1.1; omega) | (rw [Int32.lt_iff_toInt_lt, nI_toInt (by decide)] at h_17; have := q.1.2; omega), rfl⟩)⟩
    ·
      refine j_iload_n (i := 2) d_D_told_15 rfl lg2 ?_
      refine j_iconstN (k := 5) d_D_told_16 (by decide) ?_
      refine j_icmp_gt (tgt := 40) d_D_told_17 (by decide) (fun h_17 => ?_) (fun h_17 => ?_)
      ·
        refine j_bipush (v := -2) d_D_told_40 (by decide) ?_
        refine j_iret d_D_told_42 ⟨rfl, fun _ _ _ => rfl, Or.inr (Or.inl ⟨h_5, fun q => by first | (rw [Int32.lt_iff_toInt_lt, nI_toInt (by decide)] at h_12; have := q.1.1; omega) | (rw [Int32.lt_iff_toInt_lt, nI_toInt (by decide)] at h_17; have := q.1.2; omega), rfl⟩)⟩
      ·
        have hn15 : q_15 n0 := by
          rw [Int32.lt_iff_toInt_lt, nI_toInt (by decide)] at h_12
          rw [Int32.lt_iff_toInt_lt, nI_toInt (by decide)] at h_17
          exact ⟨by omega, by omega⟩
        obtain ⟨k0, hk0, rfl⟩ := q_15_of hn15
        rw [q_n_nI (k := k0) (by omega)]
        refine j_aload_n (i := 0) d_D_told_20 rfl lg0 ?_
        refine j_iload_n (i := 2) d_D_told_21 rfl lg2 ?_
        refine j_lload_n (i := 3) d_D_told_22 rfl lg3 ?_
        refine cl_D_173 (c_D_readStorms l V S hn k0 z hk0) d_D_told_23 rfl rfl (g_ftM (by decide)) (Nat.le_of_ble_eq_true rfl) ?_
        rintro _ V1 S2 ⟨hS2, hV9, hq⟩
        rw [hS2]
        rcases hq with ⟨hz0, hst, hrr, hrow⟩ | ⟨hbad, hrr⟩
        ·
          rw [hrr]
          refine j_if_eqN (tgt := 40) d_D_told_26 (by decide) (by omega) (fun h => absurd h (by decide)) (fun _ => ?_)
          refine j_iload d_D_told_29 lg5 ?_
          refine j_if_lt (tgt := 40) d_D_told_31 (by decide) (fun h_31 => ?_) (fun h_31 => ?_)
          ·
            refine j_bipush (v := -2) d_D_told_40 (by decide) ?_
            refine j_iret d_D_told_42 ⟨rfl, fun c h1 h2 => hV9 c h2, Or.inr (Or.inl ⟨h_5, fun q => by first | (rw [Int32.lt_iff_toInt_lt, Int32.toInt_zero] at h_31; have := q.2.2.1; omega) | (rw [Int32.le_iff_toInt_le, nI_toInt (by decide)] at h_37; have := q.2.2.2; omega), rfl⟩)⟩
          ·
            refine j_iload d_D_told_34 lg5 ?_
            refine j_iconstN (k := 2) d_D_told_36 (by decide) ?_
            refine j_icmp_le (tgt := 43) d_D_told_37 (by decide) (fun h_37 => ?_) (fun h_37 => ?_)
            ·
              have hw0 := q_in_lo (by decide) h_31 h_37
              obtain ⟨s, hs, rfl⟩ := q_in_of h_5 (by omega)
              obtain ⟨w, hww, rfl⟩ := q_in_of hw0 (by decide)
              rw [q_n_nI (k := s) (by omega)]
              refine j_bipush (v := -9) d_D_told_43 (by decide) ?_
              refine j_istore d_D_told_45 ls6i ?_
              refine j_bipush (v := -9) d_D_told_47 (by decide) ?_
              refine j_istore d_D_told_49 ls7i ?_
              refine j_aload_n (i := 0) d_D_told_51 rfl lg0 ?_
              refine gf_D_29 d_D_told_52 ?_
              refine gf_D_117 (j := 0) (by decide) d_D_told_55 ?_
              refine j_aload_n (i := 0) d_D_told_58 rfl lg0 ?_
              refine gf_D_40 d_D_told_59 ?_
              refine cl_D_177 (c_D_copyRow l V1 S (hB 0 + 1) 8 (gI_h1 (by decide)) gI_8 (by decide)) d_D_told_62 rfl rfl (g_ftM (by decide)) (Nat.le_of_ble_eq_true rfl) (g_pw ?_)
              refine j_iconstN (k := 0) d_D_told_65 (by decide) ?_
              refine j_istore d_D_told_66 ls8i ?_
              refine g_mono (fun r V' S' h => ?_) (lp_D_told (G := G) l V S hO (g_cp V1 (hB 0 + 1) 8 6) (D_xs k0 z.toInt.toNat) s k0 w z hs hk0 (by omega) (fun c h1 h2 => (g_cp_N h1).trans (hV9 c h2)) (fun j hj => ?_) (fun i hi => ?_) _ 0 (Nat.zero_le _) (Nat.lt_succ_self _))
              · exact ⟨h.1, h.2.2, Or.inr (Or.inr ⟨h_5, ⟨hn15, ⟨hz0, hst⟩, hw0⟩, (g_cp V1 (hB 0 + 1) 8 6) 8, fun i hi => by rw [g_cp_S hi, hV9 _ (by decide)], h.2.1⟩)⟩
              · have h := hrow j hj
                rw [g_cp_N (by decide)]
                exact ⟨h.1, by show q_dg _ _ ≤ 20; rw [← h.1]; exact h.2⟩
              · rw [g_cp_S hi, hV9 _ (by decide)]
                exact hH i hi
            ·
              refine j_bipush (v := -2) d_D_told_40 (by decide) ?_
              refine j_iret d_D_told_42 ⟨rfl, fun c h1 h2 => hV9 c h2, Or.inr (Or.inl ⟨h_5, fun q => by first | (rw [Int32.lt_iff_toInt_lt, Int32.toInt_zero] at h_31; have := q.2.2.1; omega) | (rw [Int32.le_iff_toInt_le, nI_toInt (by decide)] at h_37; have := q.2.2.2; omega), rfl⟩)⟩
        ·
          rw [hrr]
          refine j_if_eqN (tgt := 40) d_D_told_26 (by decide) (by omega) (fun _ => ?_) (fun h => absurd h (by decide))
          refine j_bipush (v := -2) d_D_told_40 (by decide) ?_
          refine j_iret d_D_told_42 ⟨rfl, fun c h1 h2 => hV9 c h2, Or.inr (Or.inl ⟨h_5, fun q => by exact hbad q.2.1, rfl⟩)⟩
  ·
    refine j_iconst (v := -1) d_D_told_8 (by decide) ?_
    refine j_iret d_D_told_9 ⟨rfl, fun _ _ _ => rfl, Or.inl ⟨h_5, rfl⟩⟩
theorem g_sh33 (z : Int64) : ∃ e : Nat, e < 2 ^ 31 ∧ (z.toUInt64 >>> ((nI 33).toInt64.toUInt64 &&& Int64.toUInt64 63)).toInt64 = lN e := by
  have hc : ((nI 33).toInt64.toUInt64 &&& Int64.toUInt64 63).toNat % 64 = 33 := by decide
  refine ⟨(z.toUInt64 >>> ((nI 33).toInt64.toUInt64 &&& Int64.toUInt64 63)).toNat, ?_, Int64.toBitVec_inj.1 ?_⟩
  · rw [UInt64.toNat_shiftRight, hc, Nat.shiftRight_eq_div_pow]
    have := z.toUInt64.toNat_lt
    omega
  · show (z.toUInt64 >>> ((nI 33).toInt64.toUInt64 &&& Int64.toUInt64 63)).toBitVec = BitVec.ofNat 64 (z.toUInt64 >>> ((nI 33).toInt64.toUInt64 &&& Int64.toUInt64 63)).toNat
    apply BitVec.eq_of_toNat_eq
    rw [BitVec.toNat_ofNat]
    exact (Nat.mod_eq_of_lt (UInt64.toNat_lt _)).symm
/-- what the machine makes of a seed -/
def q_sE (z : Int64) : Int64 := (z.toUInt64 >>> ((nI 33).toInt64.toUInt64 &&& Int64.toUInt64 63)).toInt64
def q_sx (z : Int64) : Nat := q_n ((q_sE z - q_sE z / 16 * 16).toInt32)
theorem q_sx_eq (z : Int64) : (q_sE z - q_sE z / 16 * 16).toInt32 = nI (q_sx z) ∧ q_sx z ≤ 15 := by
  obtain ⟨e, he, e1⟩ := g_sh33 z
  have e2 : (q_sE z - q_sE z / 16 * 16).toInt32 = nI (e % 16) := by
    unfold q_sE
    rw [e1, show (16 : Int64) = lN 16 from rfl, lN_rem (by omega) (by decide), lN_i]
  have h16 := Nat.mod_lt e (show 0 < 16 by decide)
  unfold q_sx
  rw [e2, q_n_nI (by omega)]
  exact ⟨rfl, by omega⟩
def q_sd (z : Int64) : Nat → Int64
  | 0 => z
  | k + 1 => q_sd z k * 6364136223846793005 + 1442695040888963407
def D_wx (z : Int64) (k : Nat) : Nat := q_sx (q_sd z (k + 1))
theorem g_upL_upL {S : g_L} {c : Nat} {x y : Int64} : g_upL (g_upL S c x) c y = g_upL S c y := by
  funext c'
  unfold g_upL
  by_cases h : c' = c
  · simp [h]
  · simp [h]
theorem g_upL_id {S : g_L} {c : Nat} : g_upL S c (S c) = S := by
  funext c'
  unfold g_upL
  by_cases h : c' = c
  · simp [h]
  · simp [h]
/-- LOSS by the k-th storm -/
def D_wl (V : g_V) (h0 : Nat → Nat) (z : Int64) (k : Nat) : Nat := q_pick (V 0 1) (V 4) (q_wet (V 0 1) (V (hB 0) 5) (q_hb (V 5) (V 3) (V 0 1) (D_wx z) h0 k))
set_option maxRecDepth 4000 in
theorem lp_D_winters {G : g_G} (l : Launch) (V : g_V) (S : g_L) (hO : g_OK V) (V1 : g_V) (m : Nat) (hmm : 1 ≤ m ∧ m ≤ 20) (hV1 : ∀ c, c ≠ 8 → V1 c = V c) (h8 : ∀ i, i < 6 → V1 8 i ≤ 15) : ∀ (n : Nat) (k t : Nat), (k ≤ m) → (t = q_sum k (D_wl V (V1 8) (S 0))) → m - k < n → JW G (g_M G l 4 (some .int) (fun r V' S' => S' = g_upL S 0 (q_sd (S 0) m) ∧ r = some (.int (nI (q_sum m (D_wl V (V1 8) (S 0))))) ∧ ∀ c, c ≠ 8 → V' c = V c)) b_D_winters R_D 32 [some (.ref (g_a G (0))), some (.int (nI (m))), some (.int (nI (t))), some (.int (nI (k))), none] [] (g_row V1 8 (q_hh (V 5) (V 3) (V 0 1) (D_wx (S 0)) (V1 8) k)) (g_upL S 0 (q_sd (S 0) k)) := by
  intro n
  induction n with
  | zero => intro k t hk ht hm; exact absurd hm (Nat.not_lt_zero _)
  | succ n ih =>
    intro k t hk ht hm
    have hn := hO.1.1
    have hK := hO.1.2.1
    have hT := hO.1.2.2
    have hH := (hO.2.2 0 (by decide)).1
    have hW := (hO.2.2 0 (by decide)).2.1
    have hsp := (hO.2.2 0 (by decide)).2.2.1
    have hdm := (hO.2.2 0 (by decide)).2.2.2.1
    have htd := (hO.2.2 0 (by decide)).2.2.2.2
    have hF := hO.2.1.1
    have hA := hO.2.1.2.1
    have hkp := hO.2.1.2.2
    have vw0 : (g_row V1 8 (q_hh (V 5) (V 3) (V 0 1) (D_wx (S 0)) (V1 8) k)) 0 = V 0 := (g_rowN (by decide)).trans (hV1 _ (by decide))
    have vw1 : (g_row V1 8 (q_hh (V 5) (V 3) (V 0 1) (D_wx (S 0)) (V1 8) k)) 0 1 = V 0 1 := by rw [vw0]
    have vwn : (g_row V1 8 (q_hh (V 5) (V 3) (V 0 1) (D_wx (S 0)) (V1 8) k)) 0 1 ≤ 6 := by rw [vw1]; exact hn
    have vw3 : (g_row V1 8 (q_hh (V 5) (V 3) (V 0 1) (D_wx (S 0)) (V1 8) k)) 3 = V 3 := (g_rowN (by decide)).trans (hV1 _ (by decide))
    have vw4 : (g_row V1 8 (q_hh (V 5) (V 3) (V 0 1) (D_wx (S 0)) (V1 8) k)) 4 = V 4 := (g_rowN (by decide)).trans (hV1 _ (by decide))
    have vw5 : (g_row V1 8 (q_hh (V 5) (V 3) (V 0 1) (D_wx (S 0)) (V1 8) k)) 5 = V 5 := (g_rowN (by decide)).trans (hV1 _ (by decide))
    have vwh : (g_row V1 8 (q_hh (V 5) (V 3) (V 0 1) (D_wx (S 0)) (V1 8) k)) (hB 0 + 1) = V (hB 0 + 1) := (g_rowN (by decide)).trans (hV1 _ (by decide))
    have vwc : (g_row V1 8 (q_hh (V 5) (V 3) (V 0 1) (D_wx (S 0)) (V1 8) k)) (hB 0 + 2) = V (hB 0 + 2) := (g_rowN (by decide)).trans (hV1 _ (by decide))
    have vwe : (g_row V1 8 (q_hh (V 5) (V 3) (V 0 1) (D_wx (S 0)) (V1 8) k)) (hB 0) = V (hB 0) := (g_rowN (by decide)).trans (hV1 _ (by decide))
    have vws : D_str (g_row V1 8 (q_hh (V 5) (V 3) (V 0 1) (D_wx (S 0)) (V1 8) k)) = D_str V := D_str_eq vw3 vw5 vwh
    have vwd : (g_row V1 8 (q_hh (V 5) (V 3) (V 0 1) (D_wx (S 0)) (V1 8) k)) (hB 0) 5 = V (hB 0) 5 := by rw [vwe]
    have vwD : (g_row V1 8 (q_hh (V 5) (V 3) (V 0 1) (D_wx (S 0)) (V1 8) k)) (hB 0) 5 < 64 := by rw [vwd]; exact hdm
    have vwK : g_K (g_row V1 8 (q_hh (V 5) (V 3) (V 0 1) (D_wx (S 0)) (V1 8) k)) := by unfold g_K; rw [vw3, vw4, vw5]; exact hK
    have vwH : g_H (g_row V1 8 (q_hh (V 5) (V 3) (V 0 1) (D_wx (S 0)) (V1 8) k)) (hB 0 + 1) := by unfold g_H; rw [vwh]; exact hH
    have hH8 : g_H (g_row V1 8 (q_hh (V 5) (V 3) (V 0 1) (D_wx (S 0)) (V1 8) k)) 8 := fun i hi => by rw [g_rowS]; exact q_hh_le (h8 i hi) k
    have e15 : V1 5 = V 5 := hV1 5 (by decide)
    have e13 : V1 3 = V 3 := hV1 3 (by decide)
    have hx15 : D_wx (S 0) k ≤ 15 := (q_sx_eq (q_sd (S 0) (k + 1))).2
    refine j_iload_n (i := 3) d_D_winters_32 rfl lg3 ?_
    refine j_iload_n (i := 1) d_D_winters_33 rfl lg1 ?_
    refine j_icmp_geN (tgt := 94) d_D_winters_34 (by decide) (by omega) (by omega) (fun h_34 => ?_) (fun h_34 => ?_)
    ·
      refine j_iload_n (i := 2) d_D_winters_94 rfl lg2 ?_
      refine j_iret d_D_winters_95 ⟨by rw [show k = m by omega], by rw [ht, show k = m by omega], fun c h1 => (g_rowN h1).trans (hV1 c h1)⟩
    ·
      refine j_aload_n (i := 0) d_D_winters_37 rfl lg0 ?_
      refine j_aload_n (i := 0) d_D_winters_38 rfl lg0 ?_
      refine gf_D_214 d_D_winters_39 ?_
      rw [g_upL_self]
      refine j_ldc2 (v := 6364136223846793005) d_D_winters_42 (g_use (List.mem_of_getElem? (i := 454) (by decide +kernel)) rfl) ?_
      refine j_lmul d_D_winters_45 ?_
      refine j_ldc2 (v := 1442695040888963407) d_D_winters_46 (g_use (List.mem_of_getElem? (i := 455) (by decide +kernel)) rfl) ?_
      refine j_ladd d_D_winters_49 ?_
      refine pf_D_214 d_D_winters_50 ?_
      rw [g_upL_upL, show q_sd (S 0) k * 6364136223846793005 + 1442695040888963407 = q_sd (S 0) (k + 1) from rfl]
      refine j_aload_n (i := 0) d_D_winters_53 rfl lg0 ?_
      refine gf_D_214 d_D_winters_54 ?_
      rw [g_upL_self]
      refine j_bipushN (k := 33) d_D_winters_57 (by decide) ?_
      refine j_lushr d_D_winters_59 ?_
      refine j_ldc2 (v := 16) d_D_winters_60 (g_use (List.mem_of_getElem? (i := 456) (by decide +kernel)) rfl) ?_
      refine j_lrem d_D_winters_63 (by decide) ?_
      refine j_l2i d_D_winters_64 ?_
      rw [show (((q_sd (S 0) (k + 1)).toUInt64 >>> ((nI 33).toInt64.toUInt64 &&& Int64.toUInt64 63)).toInt64 - ((q_sd (S 0) (k + 1)).toUInt64 >>> ((nI 33).toInt64.toUInt64 &&& Int64.toUInt64 63)).toInt64 / 16 * 16).toInt32 = nI (D_wx (S 0) k) from (q_sx_eq (q_sd (S 0) (k + 1))).1]
      refine j_istore d_D_winters_65 ls4i ?_
      refine j_iload_n (i := 2) d_D_winters_67 rfl lg2 ?_
      refine j_aload_n (i := 0) d_D_winters_68 rfl lg0 ?_
      refine j_aload_n (i := 0) d_D_winters_69 rfl lg0 ?_
      refine j_aload_n (i := 0) d_D_winters_70 rfl lg0 ?_
      refine j_aload_n (i := 0) d_D_winters_71 rfl lg0 ?_
      refine gf_D_40 d_D_winters_72 ?_
      refine j_iload d_D_winters_75 lg4 ?_
      refine cl_D_140 (c_D_strike l (g_row V1 8 (q_hh (V 5) (V 3) (V 0 1) (D_wx (S 0)) (V1 8) k)) (g_upL S 0 (q_sd (S 0) (k + 1))) vwn vwK 8 (D_wx (S 0) k) gI_8 (by decide) (by decide) (by decide) (by decide) hH8 (by omega)) d_D_winters_77 rfl rfl (g_ftM (by decide)) (Nat.le_of_ble_eq_true rfl) (g_pv ?_)
      rw [vw1]
      have hst := g_hh_step (V1 := V1) (xs := D_wx (S 0)) (h0 := V1 8) (k := k) (n := V 0 1) rfl
      have hbb := g_hb_eq (V1 := V1) (xs := D_wx (S 0)) (h0 := V1 8) (k := k) (n := V 0 1)
      rw [e15, e13] at hst hbb
      rw [hst, hbb]
      have hs6 : q_hb (V 5) (V 3) (V 0 1) (D_wx (S 0)) (V1 8) k < 64 := q_brk_lt (m := 6) hn
      have vx0 : (g_row V1 8 (q_hh (V 5) (V 3) (V 0 1) (D_wx (S 0)) (V1 8) (k + 1))) 0 = V 0 := (g_rowN (by decide)).trans (hV1 _ (by decide))
      have vx1 : (g_row V1 8 (q_hh (V 5) (V 3) (V 0 1) (D_wx (S 0)) (V1 8) (k + 1))) 0 1 = V 0 1 := by rw [vx0]
      have vxn : (g_row V1 8 (q_hh (V 5) (V 3) (V 0 1) (D_wx (S 0)) (V1 8) (k + 1))) 0 1 ≤ 6 := by rw [vx1]; exact hn
      have vx3 : (g_row V1 8 (q_hh (V 5) (V 3) (V 0 1) (D_wx (S 0)) (V1 8) (k + 1))) 3 = V 3 := (g_rowN (by decide)).trans (hV1 _ (by decide))
      have vx4 : (g_row V1 8 (q_hh (V 5) (V 3) (V 0 1) (D_wx (S 0)) (V1 8) (k + 1))) 4 = V 4 := (g_rowN (by decide)).trans (hV1 _ (by decide))
      have vx5 : (g_row V1 8 (q_hh (V 5) (V 3) (V 0 1) (D_wx (S 0)) (V1 8) (k + 1))) 5 = V 5 := (g_rowN (by decide)).trans (hV1 _ (by decide))
      have vxh : (g_row V1 8 (q_hh (V 5) (V 3) (V 0 1) (D_wx (S 0)) (V1 8) (k + 1))) (hB 0 + 1) = V (hB 0 + 1) := (g_rowN (by decide)).trans (hV1 _ (by decide))
      have vxc : (g_row V1 8 (q_hh (V 5) (V 3) (V 0 1) (D_wx (S 0)) (V1 8) (k + 1))) (hB 0 + 2) = V (hB 0 + 2) := (g_rowN (by decide)).trans (hV1 _ (by decide))
      have vxe : (g_row V1 8 (q_hh (V 5) (V 3) (V 0 1) (D_wx (S 0)) (V1 8) (k + 1))) (hB 0) = V (hB 0) := (g_rowN (by decide)).trans (hV1 _ (by decide))
      have vxs : D_str (g_row V1 8 (q_hh (V 5) (V 3) (V 0 1) (D_wx (S 0)) (V1 8) (k + 1))) = D_str V := D_str_eq vx3 vx5 vxh
      have vxd : (g_row V1 8 (q_hh (V 5) (V 3) (V 0 1) (D_wx (S 0)) (V1 8) (k + 1))) (hB 0) 5 = V (hB 0) 5 := by rw [vxe]
      have vxD : (g_row V1 8 (q_hh (V 5) (V 3) (V 0 1) (D_wx (S 0)) (V1 8) (k + 1))) (hB 0) 5 < 64 := by rw [vxd]; exact hdm
      have vxK : g_K (g_row V1 8 (q_hh (V 5) (V 3) (V 0 1) (D_wx (S 0)) (V1 8) (k + 1))) := by unfold g_K; rw [vx3, vx4, vx5]; exact hK
      have vxH : g_H (g_row V1 8 (q_hh (V 5) (V 3) (V 0 1) (D_wx (S 0)) (V1 8) (k + 1))) (hB 0 + 1) := by unfold g_H; rw [vxh]; exact hH
      refine cl_D_144 (c_D_wetBy l (g_row V1 8 (q_hh (V 5) (V 3) (V 0 1) (D_wx (S 0)) (V1 8) (k + 1))) (g_upL S 0 (q_sd (S 0) (k + 1))) vxn vxD (q_hb (V 5) (V 3) (V 0 1) (D_wx (S 0)) (V1 8) k) (by first | omega | exact hs6)) d_D_winters_80 rfl rfl (g_ftM (by decide)) (Nat.le_of_ble_eq_true rfl) (g_pu ?_)
      rw [vx1, vxd]
      refine cl_D_147 (c_D_worthOf l (g_row V1 8 (q_hh (V 5) (V 3) (V 0 1) (D_wx (S 0)) (V1 8) (k + 1))) (g_upL S 0 (q_sd (S 0) (k + 1))) vxn (fun i hi => (vxK i hi).2.1) (q_wet (V 0 1) (V (hB 0) 5) (q_hb (V 5) (V 3) (V 0 1) (D_wx (S 0)) (V1 8) k)) (by first | omega | exact q_wet_lt hn (by first | omega | exact hs6))) d_D_winters_83 rfl rfl (g_ftM (by decide)) (Nat.le_of_ble_eq_true rfl) (g_pu ?_)
      rw [vx1, vx4]
      refine j_iaddN d_D_winters_86 ?_
      refine j_istore_n d_D_winters_87 rfl ls2i ?_
      refine j_iincN (k := 1) d_D_winters_88 lg3 (by decide) ls3i ?_
      refine j_goto (tgt := 32) d_D_winters_91 (by decide) ?_
      exact j_fg 4 (ih (k + 1) _ (by omega) (by rw [ht]; rfl) (by omega))
abbrev q_120 (x : Int32) : Prop := 1 ≤ x.toInt ∧ x.toInt ≤ 20
theorem q_120_of {x : Int32} (h : q_120 x) : ∃ k : Nat, (1 ≤ k ∧ k ≤ 20) ∧ x = nI k := by
  obtain ⟨h1, h2⟩ := h
  refine ⟨x.toInt.toNat, by omega, Int32.toInt_inj.mp ?_⟩
  rw [nI_toInt (by omega)]
  omega
theorem g_row_id {V : g_V} {c : Nat} : g_row V c (V c) = V := by
  funext c' k
  unfold g_row
  by_cases h : c' = c
  · subst h; simp
  · simp [h]
set_option maxRecDepth 4000 in
theorem c_D_winters {G : g_G} (l : Launch) (V : g_V) (S : g_L) (hO : g_OK V) (m0 : Int32) : g_C G l y_D_winters b_D_winters 5 (some .int) 4 [.ref (g_a G (0)), .int (m0)] V S (fun r V' S' => (∀ c, c ≠ 8 → V' c = V c) ∧ ((¬ q_120 m0 ∧ r = some (.int (-2)) ∧ S' = S) ∨ (q_120 m0 ∧ S' = g_upL S 0 (q_sd (S 0) (q_n m0)) ∧ ∃ h0 : Nat → Nat, (∀ i, i < 6 → h0 i = V (hB 0 + 1) i) ∧ r = some (.int (nI (q_sum (q_n m0) (D_wl V h0 (S 0)))))))) := by
  refine g_C.of (lv := [some (.ref (g_a G (0))), some (.int (m0)), none, none, none]) (by decide +kernel) rfl rfl rfl (Nat.le_of_ble_eq_true rfl) ?_
  have hn := hO.1.1
  have hK := hO.1.2.1
  have hT := hO.1.2.2
  have hH := (hO.2.2 0 (by decide)).1
  have hW := (hO.2.2 0 (by decide)).2.1
  have hsp := (hO.2.2 0 (by decide)).2.2.1
  have hdm := (hO.2.2 0 (by decide)).2.2.2.1
  have htd := (hO.2.2 0 (by decide)).2.2.2.2
  have hF := hO.2.1.1
  have hA := hO.2.1.2.1
  have hkp := hO.2.1.2.2
  refine j_iload_n (i := 1) d_D_winters_0 rfl lg1 ?_
  refine j_iconstN (k := 1) d_D_winters_1 (by decide) ?_
  refine j_icmp_lt (tgt := 11) d_D_winters_2 (by decide) (fun h_2 => ?_) (fun h_2 => ?_)
  ·
    refine j_bipush (v := -2) d_D_winters_11 (by decide) ?_
    refine j_iret d_D_winters_13 ⟨fun _ _ => rfl, Or.inl ⟨fun q => by first | (rw [Int32.lt_iff_toInt_lt, nI_toInt (by decide)] at h_2; have := q.1; omega) | (rw [Int32.le_iff_toInt_le, nI_toInt (by decide)] at h_8; have := q.2; omega), rfl, rfl⟩⟩
  ·
    refine j_iload_n (i := 1) d_D_winters_5 rfl lg1 ?_
    refine j_bipushN (k := 20) d_D_winters_6 (by decide) ?_
    refine j_icmp_le (tgt := 14) d_D_winters_8 (by decide) (fun h_8 => ?_) (fun h_8 => ?_)
    ·
      have hm0 : q_120 m0 := by
        rw [Int32.lt_iff_toInt_lt, nI_toInt (by decide)] at h_2
        rw [Int32.le_iff_toInt_le, nI_toInt (by decide)] at h_8
        exact ⟨by omega, by omega⟩
      obtain ⟨m, hmm, rfl⟩ := q_120_of hm0
      rw [q_n_nI (by omega)]
      refine j_iconstN (k := 0) d_D_winters_14 (by decide) ?_
      refine j_istore_n d_D_winters_15 rfl ls2i ?_
      refine j_aload_n (i := 0) d_D_winters_16 rfl lg0 ?_
      refine gf_D_29 d_D_winters_17 ?_
      refine gf_D_117 (j := 0) (by decide) d_D_winters_20 ?_
      refine j_aload_n (i := 0) d_D_winters_23 rfl lg0 ?_
      refine gf_D_40 d_D_winters_24 ?_
      refine cl_D_177 (c_D_copyRow l V S (hB 0 + 1) 8 (gI_h1 (by decide)) gI_8 (by decide)) d_D_winters_27 rfl rfl (g_ftM (by decide)) (Nat.le_of_ble_eq_true rfl) (g_pw ?_)
      refine j_iconstN (k := 0) d_D_winters_30 (by decide) ?_
      refine j_istore_n d_D_winters_31 rfl ls3i ?_
      have hlp := lp_D_winters (G := G) l V S hO (g_cp V (hB 0 + 1) 8 6) m hmm (fun c h1 => g_cp_N h1) (fun i hi => by rw [g_cp_S hi]; exact hH i hi) _ 0 0 (Nat.zero_le _) rfl (Nat.lt_succ_self _)
      rw [show g_row (g_cp V (hB 0 + 1) 8 6) 8 (q_hh (V 5) (V 3) (V 0 1) (D_wx (S 0)) ((g_cp V (hB 0 + 1) 8 6) 8) 0) = g_cp V (hB 0 + 1) 8 6 from g_row_id, show g_upL S 0 (q_sd (S 0) 0) = S from g_upL_id] at hlp
      refine g_mono (fun r V' S' h => ?_) hlp
      exact ⟨h.2.2, Or.inr ⟨hm0, h.1, (g_cp V (hB 0 + 1) 8 6) 8, fun i hi => g_cp_S hi, h.2.1⟩⟩
    ·
      refine j_bipush (v := -2) d_D_winters_11 (by decide) ?_
      refine j_iret d_D_winters_13 ⟨fun _ _ => rfl, Or.inl ⟨fun q => by first | (rw [Int32.lt_iff_toInt_lt, nI_toInt (by decide)] at h_2; have := q.1; omega) | (rw [Int32.le_iff_toInt_le, nI_toInt (by decide)] at h_8; have := q.2; omega), rfl, rfl⟩⟩
