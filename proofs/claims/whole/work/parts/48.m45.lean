/-! From the listed cells to the numbered world; the relation at the start; the two tables. -/
def k_A (c : Nat → Nat) (a : Nat → Nat → Nat) (m : Nat → Nat) : Nat → Nat := fun i => if i < 14 then c i else if i < 201 then a ((i - 14) / 11) ((i - 14) % 11) else m (i - 201)
def k_G (G : g_G) (c : Nat → Nat) (a : Nat → Nat → Nat) (m : Nat → Nat) : g_G := (G.1, G.2.1, k_A c a m, G.2.2.2)
theorem k_A_h {c m : Nat → Nat} {a : Nat → Nat → Nat} {j r : Nat} (hj : j < 17) (hr : r < 11) : k_A c a m (hB j + r) = a j r := by
  unfold k_A hB
  rw [if_neg (by omega), if_pos (by omega), show (11 * j + 14 + r - 14) / 11 = j by omega, show (11 * j + 14 + r - 14) % 11 = r by omega]
theorem k_arrV {cA N : Nat} {f g : Nat → Value} (h : ∀ j, j < N → f j = g j) : arrV cA N f = arrV cA N g := by
  unfold arrV
  congr 2
  funext j
  exact h j.val j.isLt
theorem k_at_q {D : va_G} {cl : List vw_C} {q cA N : Nat} {f g : Nat → Option Nat} {H : Heap} (h : ∀ j, j < N → f j = g j) (hP : va_at D cl (q, .inl (cA, N, .inr (.inr (.inr (.inr f))))) H) : va_at D cl (q, .inl (cA, N, .inr (.inr (.inr (.inr g))))) H := by
  have h1 : H[q]? = some (vp_cell cA (N, .inr (.inr (.inr (.inr f))))) := hP
  show H[q]? = some (vp_cell cA (N, .inr (.inr (.inr (.inr g)))))
  rw [h1, vp_cell_q, vp_cell_q, k_arrV (fun j hj => by rw [h j hj])]
abbrev k_V : g_V := fun _ _ => 0
abbrev k_S : g_L := fun _ => 0
section FIN
variable {G : g_G} {c m : Nat → Nat} {a : Nat → Nat → Nat} {H : Heap}
theorem k_in_pool {j : Nat} {x : Nat × va_E} (hj : j < 17) (hx : x ∈ k_held G (a j)) : x ∈ k_dyk G c a ++ k_mod G m := by
  have h : x ∈ k_pool G 17 a := List.mem_flatMap.mpr ⟨j, List.mem_range.mpr hj, hx⟩
  unfold k_dyk
  simp [h]
theorem k_fin_P (hP : va_P G.1 g_cl (k_dyk G c a ++ k_mod G m) H) : va_P (k_G G c a m).1 g_cl (g_W (k_G G c a m) k_V k_S) H := by
  have hm : ∀ x ∈ k_dyk G c a ++ k_mod G m, va_at G.1 g_cl x H := fun x hx => by
    obtain ⟨i, hi⟩ := List.getElem?_of_mem hx
    exact hP i x hi
  intro n q hq
  have hn : n < 214 := by
    have := (List.getElem?_eq_some_iff.mp hq).1
    simpa [g_W, g_N] using this
  rw [g_W_get hn] at hq
  cases hq
  show va_at G.1 g_cl (k_A c a m n, g_E (k_G G c a m) k_z 0 n) H
  by_cases h1 : n < 14
  · rcases (show n = 0 ∨ n = 1 ∨ n = 2 ∨ n = 3 ∨ n = 4 ∨ n = 5 ∨ n = 6 ∨ n = 7 ∨ n = 8 ∨ n = 9 ∨ n = 10 ∨ n = 11 ∨ n = 12 ∨ n = 13 by omega) with rfl | rfl | rfl | rfl | rfl | rfl | rfl | rfl | rfl | rfl | rfl | rfl | rfl | rfl
    · exact hm (c 0, .inr (0, [.ref (c 1), .int (nI 0), .ref (c 3), .ref (c 4), .ref (c 5), .ref (a 0 0), .ref (c 6), .int (nI 0), .int (nI 0), .ref (c 7), .int (nI 0), .long 0, .ref (c 8), .ref (c 9), .ref (c 10), .ref (c 11), .ref (c 12), .ref (c 13)])) (by unfold k_dyk; simp)
    · exact hm (c 1, .inr (1, [.ref (c 2), .int (nI 0)])) (by unfold k_dyk; simp)
    · exact hm (c 2, g_int G 48 k_z) (by unfold k_dyk; simp)
    · exact hm (c 3, g_int G 6 k_z) (by unfold k_dyk; simp)
    · exact hm (c 4, g_int G 6 k_z) (by unfold k_dyk; simp)
    · exact hm (c 5, g_int G 6 k_z) (by unfold k_dyk; simp)
    · exact k_at_q (fun j hj => by
        show (if j < 14 then some (a (1 + j) 0) else none) = some (k_A c a m (hB (1 + j) + 0))
        rw [if_pos hj, k_A_h (by omega) (by decide)]) (hm (c 6, k_arr G 14 1 14 a) (by unfold k_dyk; simp))
    · exact k_at_q (fun j hj => by
        show (if j < 2 then some (a (15 + j) 0) else none) = some (k_A c a m (hB (15 + j) + 0))
        rw [if_pos hj, k_A_h (by omega) (by decide)]) (hm (c 7, k_arr G 2 15 2 a) (by unfold k_dyk; simp))
    · exact hm (c 8, g_int G 6 k_z) (by unfold k_dyk; simp)
    · exact hm (c 9, g_int G 5 k_z) (by unfold k_dyk; simp)
    · exact hm (c 10, g_int G 7 k_z) (by unfold k_dyk; simp)
    · exact hm (c 11, g_int G 64 k_z) (by unfold k_dyk; simp)
    · exact hm (c 12, g_int G 64 k_z) (by unfold k_dyk; simp)
    · exact hm (c 13, g_int G 64 k_z) (by unfold k_dyk; simp)
  by_cases h2 : n < 201
  · obtain ⟨j, r, hj, hr, rfl⟩ : ∃ j r, j < 17 ∧ r < 11 ∧ n = hB j + r := ⟨(n - 14) / 11, (n - 14) % 11, by omega, by omega, by unfold hB; omega⟩
    rw [k_A_h hj hr, g_E_held hj hr]
    have e : ∀ r, r < 11 → g_a (k_G G c a m) (hB j + r) = a j r := fun r hr => k_A_h hj hr
    rcases (show r = 0 ∨ r = 1 ∨ r = 2 ∨ r = 3 ∨ r = 4 ∨ r = 5 ∨ r = 6 ∨ r = 7 ∨ r = 8 ∨ r = 9 ∨ r = 10 by omega) with rfl | rfl | rfl | rfl | rfl | rfl | rfl | rfl | rfl | rfl | rfl
    · show va_at G.1 g_cl (a j 0, .inr (2, [.ref (g_a (k_G G c a m) (hB j + 1)), .ref (g_a (k_G G c a m) (hB j + 2)), .ref (g_a (k_G G c a m) (hB j + 3)), .ref (g_a (k_G G c a m) (hB j + 4)), .int (nI 0), .int (nI 0), .int (nI 0)])) H
      rw [e 1 (by decide), e 2 (by decide), e 3 (by decide), e 4 (by decide)]
      exact hm _ (k_in_pool hj (by unfold k_held; simp))
    · exact hm (a j 1, g_int G 6 k_z) (k_in_pool hj (by unfold k_held; simp))
    · exact hm (a j 2, g_int G 6 k_z) (k_in_pool hj (by unfold k_held; simp))
    · exact hm (a j 3, g_int G 6 k_z) (k_in_pool hj (by unfold k_held; simp))
    · exact k_at_q (fun k hk => by rw [e (5 + k) (by omega)]) (hm (a j 4, .inl (G.2.1.2.2.2, 6, .inr (.inr (.inr (.inr (fun k => some (a j (5 + k)))))))) (k_in_pool hj (by unfold k_held; simp)))
    · exact hm (a j 5, g_int G 6 k_z) (k_in_pool hj (by unfold k_held; simp))
    · exact hm (a j 6, g_int G 6 k_z) (k_in_pool hj (by unfold k_held; simp))
    · exact hm (a j 7, g_int G 6 k_z) (k_in_pool hj (by unfold k_held; simp))
    · exact hm (a j 8, g_int G 6 k_z) (k_in_pool hj (by unfold k_held; simp))
    · exact hm (a j 9, g_int G 6 k_z) (k_in_pool hj (by unfold k_held; simp))
    · exact hm (a j 10, g_int G 6 k_z) (k_in_pool hj (by unfold k_held; simp))
  · obtain ⟨i, hi, rfl⟩ : ∃ i, i < 13 ∧ n = 201 + i := ⟨n - 201, by omega, by omega⟩
    rcases (show i = 0 ∨ i = 1 ∨ i = 2 ∨ i = 3 ∨ i = 4 ∨ i = 5 ∨ i = 6 ∨ i = 7 ∨ i = 8 ∨ i = 9 ∨ i = 10 ∨ i = 11 ∨ i = 12 by omega) with rfl | rfl | rfl | rfl | rfl | rfl | rfl | rfl | rfl | rfl | rfl | rfl | rfl
    · exact hm (m 0, .inr (3, [.int (nI 0), .ref (m 1), .int (nI 0), .int (nI 0), .int (nI 0), .ref (m 2), .ref (m 3), .ref (m 4), .int (nI 0), .int (nI 0), .ref (m 5), .ref (m 6), .ref (m 7), .ref (m 8), .int (nI 0), .ref (m 9), .ref (m 10), .long 0, .int (nI 0), .int (nI 0), .ref (m 11), .ref (m 12), .int (nI 0), .int (nI 0)])) (by unfold k_mod; simp)
    · exact hm (m 1, g_int G 48 k_z) (by unfold k_mod; simp)
    · exact hm (m 2, g_int G 6 k_z) (by unfold k_mod; simp)
    · exact hm (m 3, g_int G 6 k_z) (by unfold k_mod; simp)
    · exact hm (m 4, g_int G 6 k_z) (by unfold k_mod; simp)
    · exact hm (m 5, g_int G 30 k_z) (by unfold k_mod; simp)
    · exact hm (m 6, g_int G 57 k_z) (by unfold k_mod; simp)
    · exact hm (m 7, g_int G 57 k_z) (by unfold k_mod; simp)
    · exact hm (m 8, g_int G 798 k_z) (by unfold k_mod; simp)
    · exact hm (m 9, g_int G 114 k_z) (by unfold k_mod; simp)
    · exact hm (m 10, .inl (G.2.1.2.1, 2, .inl (fun k => nI (k_z k)))) (by unfold k_mod; simp)
    · exact hm (m 11, g_int G 64 k_z) (by unfold k_mod; simp)
    · exact hm (m 12, g_int G 64 k_z) (by unfold k_mod; simp)
theorem k_rng (f : Nat → Nat → Nat) : ∀ n, (List.range (11 * n)).map (fun i => f (i / 11) (i % 11)) = (List.range n).flatMap (fun j => (List.range 11).map (f j))
  | 0 => rfl
  | n + 1 => by
    rw [@List.range_succ n, List.flatMap_append, ← k_rng f n, show 11 * (n + 1) = 11 * n + 11 by omega, @List.range_add (11 * n) 11, List.map_append]
    congr 1
    show _ = (List.range 11).map (f n) ++ []
    rw [List.append_nil, List.map_map]
    apply List.map_congr_left
    intro i hi
    have hi := List.mem_range.mp hi
    show f ((11 * n + i) / 11) ((11 * n + i) % 11) = f n i
    rw [show (11 * n + i) / 11 = n by omega, show (11 * n + i) % 11 = i by omega]
theorem k_fin_perm : ((List.range 214).map (k_A c a m)).Perm ((k_dyk G c a ++ k_mod G m).map Prod.fst) := by
  have hp : (k_pool G 17 a).map Prod.fst = (List.range 17).flatMap (fun j => (List.range 11).map (a j)) := by
    unfold k_pool
    rw [List.map_flatMap]
    rfl
  have h1 : (List.range 214).map (k_A c a m) = (List.range 14).map c ++ ((List.range 17).flatMap (fun j => (List.range 11).map (a j)) ++ (List.range 13).map m) := by
    have e1 : (List.range 14).map (k_A c a m) = (List.range 14).map c := List.map_congr_left (fun i hi => if_pos (List.mem_range.mp hi))
    have e2 : (List.range 187).map (k_A c a m ∘ fun x => 14 + x) = (List.range (11 * 17)).map (fun i => a (i / 11) (i % 11)) := List.map_congr_left (fun i hi => by
      have hi : i < 187 := List.mem_range.mp hi
      show k_A c a m (14 + i) = _
      unfold k_A
      rw [if_neg (by omega), if_pos (by omega), show 14 + i - 14 = i by omega])
    have e3 : (List.range 13).map ((k_A c a m ∘ fun x => 14 + x) ∘ fun x => 187 + x) = (List.range 13).map m := List.map_congr_left (fun i hi => by
      have hi : i < 13 := List.mem_range.mp hi
      show k_A c a m (14 + (187 + i)) = m i
      unfold k_A
      rw [if_neg (by omega), if_neg (by omega), show 14 + (187 + i) - 201 = i by omega])
    rw [← k_rng, ← e1, ← e2, ← e3, show 214 = 14 + (187 + 13) from rfl, @List.range_add 14 (187 + 13), List.map_append, List.map_map, @List.range_add 187 13, List.map_append, List.map_map]
  have h2 : (k_dyk G c a ++ k_mod G m).map Prod.fst = [c 0, c 7, c 6, c 1, c 2, c 3, c 4, c 5] ++ ((List.range 17).flatMap (fun j => (List.range 11).map (a j)) ++ ([c 8, c 9, c 10, c 11, c 12, c 13] ++ (List.range 13).map m)) := by
    rw [← hp]
    unfold k_dyk
    simp only [List.map_append, List.map_cons, List.map_nil, List.append_assoc, List.cons_append, List.nil_append]
    rfl
  rw [h1, h2, List.perm_iff_count]
  intro x
  show List.count x ([c 0, c 1, c 2, c 3, c 4, c 5, c 6, c 7, c 8, c 9, c 10, c 11, c 12, c 13] ++ _) = _
  simp only [List.count_append, List.count_cons, List.count_nil]
  omega
theorem k_fin_inj {A : Nat → Prop} (hD : va_D A (k_dyk G c a ++ k_mod G m)) : g_inj (k_G G c a m) ∧ ∀ n, n < g_N → A (g_a (k_G G c a m) n) := by
  have hn : ((List.range 214).map (k_A c a m)).Nodup := (List.Perm.nodup_iff k_fin_perm).mpr (va_D_nodup hD)
  refine ⟨fun i j hi hj e => ?_, fun n hn2 => ?_⟩
  · unfold List.Nodup at hn
    rw [List.pairwise_iff_getElem] at hn
    have e : k_A c a m i = k_A c a m j := e
    have hi : i < 214 := hi
    have hj : j < 214 := hj
    rcases Nat.lt_trichotomy i j with h1 | h1 | h1
    · exact absurd (by rw [List.getElem_map, List.getElem_map, List.getElem_range, List.getElem_range]; exact e) (hn i j (by simpa using hi) (by simpa using hj) h1)
    · exact h1
    · exact absurd (by rw [List.getElem_map, List.getElem_map, List.getElem_range, List.getElem_range]; exact e.symm) (hn j i (by simpa using hj) (by simpa using hi) h1)
  · have h1 : k_A c a m n ∈ (List.range 214).map (k_A c a m) := List.mem_map.mpr ⟨n, List.mem_range.mpr hn2, rfl⟩
    obtain ⟨q, hq, e⟩ := List.mem_map.mp ((List.Perm.mem_iff k_fin_perm).mp h1)
    obtain ⟨i, hi⟩ := List.getElem?_of_mem hq
    show A (k_A c a m n)
    rw [← e]
    exact hD.2 i q hi
end FIN
theorem R_zero : R 0 k_V k_S := by
  refine ⟨⟨⟨rfl, rfl, rfl, rfl⟩, ⟨by decide, by decide, by decide, by decide, by decide⟩, rfl⟩, ⟨rfl, fun i _ => Nat.zero_le _⟩, ⟨fun i _ => ⟨rfl, rfl, rfl⟩, fun i _ => ⟨Nat.zero_le _, Nat.zero_le _, Nat.zero_le _⟩⟩, ⟨⟨fun k _ => ⟨rfl, rfl, rfl⟩, ⟨rfl, rfl, rfl⟩, fun a b _ _ => rfl⟩, fun a ha => absurd ha (Nat.not_lt_zero a)⟩, fun k _ => ⟨Nat.zero_le _, ?_, ?_⟩, fun j _ => ⟨fun i _ => ⟨Nat.zero_le _, Nat.zero_le _⟩, Nat.zero_lt_succ _, Nat.zero_lt_succ _, Nat.zero_le _⟩⟩
  · show (0 = 0) ↔ ¬ Nat.testBit 0 k = true
    simp
  · intro h
    have h : Nat.testBit 0 k = true := h
    simp at h
/-- the tables at the start -/
theorem k_tabs {args : Array Value} {s : State} (hts : ∀ w ∈ lw_tbl, w.before args s = true) (hgv : (Jvm.Cond.and given_1 narrow_1).before args s = true) :
    ∃ tG tO : Nat, ∀ (x : va_G × (ClassId × ClassId × ClassId × ClassId) × (Nat → Nat)), g_St (x.1, x.2.1, x.2.2, (tG, tO)) (fun q => s.heap.size ≤ q) s s.heap := by
  have hs := flat_of_before _ hgv
  have hA : ∀ a : Nat, a < s.heap.size → ¬ (s.heap.size ≤ a) := fun a h => Nat.not_le.mpr h
  have hini : (Cond.initialized "DykeFarms").before args s = true := hts _ (List.mem_of_getElem? (i := 52) (by decide +kernel))
  obtain ⟨tG, h1, h2⟩ := va_Tof (A := fun q => s.heap.size ≤ q) (tm := .static "DykeFarms" "GREATEST" "[I") (N := 5) (f := fun k => .int (nI (g_great k))) (by decide) (hs (.arrayOf (.static "DykeFarms" "GREATEST" "[I") .int) (by decide +kernel)) (va_eqt (hs (.eq (.length (.static "DykeFarms" "GREATEST" "[I")) (.int 5)) (by decide +kernel))) (fun j hj => by
    rcases (show j = 0 ∨ j = 1 ∨ j = 2 ∨ j = 3 ∨ j = 4 by omega) with rfl | rfl | rfl | rfl | rfl
    · exact va_eqt (hs (.eq (.elem (.static "DykeFarms" "GREATEST" "[I") (.int 0)) (.int 9)) (by decide +kernel))
    · exact va_eqt (hs (.eq (.elem (.static "DykeFarms" "GREATEST" "[I") (.int 1)) (.int 3)) (by decide +kernel))
    · exact va_eqt (hs (.eq (.elem (.static "DykeFarms" "GREATEST" "[I") (.int 2)) (.int 9)) (by decide +kernel))
    · exact va_eqt (hs (.eq (.elem (.static "DykeFarms" "GREATEST" "[I") (.int 3)) (.int 9)) (by decide +kernel))
    · exact va_eqt (hs (.eq (.elem (.static "DykeFarms" "GREATEST" "[I") (.int 4)) (.int 3)) (by decide +kernel))) hA
  obtain ⟨tO, g1, g2⟩ := va_Tof (A := fun q => s.heap.size ≤ q) (tm := .static "DykeFarms" "ORDERS" "[I") (N := 7) (f := fun k => .int (nI (g_ord k))) (by decide) (hs (.arrayOf (.static "DykeFarms" "ORDERS" "[I") .int) (by decide +kernel)) (va_eqt (hs (.eq (.length (.static "DykeFarms" "ORDERS" "[I")) (.int 7)) (by decide +kernel))) (fun j hj => by
    rcases (show j = 0 ∨ j = 1 ∨ j = 2 ∨ j = 3 ∨ j = 4 ∨ j = 5 ∨ j = 6 by omega) with rfl | rfl | rfl | rfl | rfl | rfl | rfl
    · exact va_eqt (hs (.eq (.elem (.static "DykeFarms" "ORDERS" "[I") (.int 0)) (.int 1)) (by decide +kernel))
    · exact va_eqt (hs (.eq (.elem (.static "DykeFarms" "ORDERS" "[I") (.int 1)) (.int 1)) (by decide +kernel))
    · exact va_eqt (hs (.eq (.elem (.static "DykeFarms" "ORDERS" "[I") (.int 2)) (.int 2)) (by decide +kernel))
    · exact va_eqt (hs (.eq (.elem (.static "DykeFarms" "ORDERS" "[I") (.int 3)) (.int 6)) (by decide +kernel))
    · exact va_eqt (hs (.eq (.elem (.static "DykeFarms" "ORDERS" "[I") (.int 4)) (.int 24)) (by decide +kernel))
    · exact va_eqt (hs (.eq (.elem (.static "DykeFarms" "ORDERS" "[I") (.int 5)) (.int 120)) (by decide +kernel))
    · exact va_eqt (hs (.eq (.elem (.static "DykeFarms" "ORDERS" "[I") (.int 6)) (.int 720)) (by decide +kernel))) hA
  refine ⟨tG, tO, fun x => ⟨⟨va_Zof (hts (.laysStatic "DykeFarms" "GREATEST" "[I") (List.mem_of_getElem? (i := 201) (by decide +kernel))) hini h1 hA, h2⟩, ⟨va_Zof (hts (.laysStatic "DykeFarms" "ORDERS" "[I") (List.mem_of_getElem? (i := 412) (by decide +kernel))) hini g1 hA, g2⟩⟩⟩
