/-! The four constructors. -/
theorem k_eq {G : g_G} {X : k_X} {cc : ByteArray} {own : String} {pc : Nat} {lv : List (Option Value)} {st : List Value} {ws ws' : va_W} {k k' n n' : Nat} (h : ws = ws') (h1 : k = k') (h2 : n = n') (kk : KW G X cc own pc lv st ws' k' n') : KW G X cc own pc lv st ws k n := by
  subst h; subst h1; subst h2
  exact kk
def k_rm_S : Room := { frames := 1, cells := 1, slots := 48, locals := 33 }
abbrev k_bl_S : va_E := .inr (1, [.null, .int (nI 0)])
theorem k_bf_S : ∀ j, j < 2 → defaultValue (ty_S j) = vp_V [.null, .int (nI 0)] j := by
  intro j hj
  rcases (show j = 0 ∨ j = 1 by omega) with rfl | rfl <;> rfl
def k_rm_H : Room := { frames := 1, cells := 10, slots := 60, locals := 33 }
abbrev k_bl_H : va_E := .inr (2, [.null, .null, .null, .null, .int (nI 0), .int (nI 0), .int (nI 0)])
theorem k_bf_H : ∀ j, j < 7 → defaultValue (ty_H j) = vp_V [.null, .null, .null, .null, .int (nI 0), .int (nI 0), .int (nI 0)] j := by
  intro j hj
  rcases (show j = 0 ∨ j = 1 ∨ j = 2 ∨ j = 3 ∨ j = 4 ∨ j = 5 ∨ j = 6 by omega) with rfl | rfl | rfl | rfl | rfl | rfl | rfl <;> rfl
def k_rm_M : Room := { frames := 1, cells := 12, slots := 1252, locals := 33 }
abbrev k_bl_M : va_E := .inr (3, [.int (nI 0), .null, .int (nI 0), .int (nI 0), .int (nI 0), .null, .null, .null, .int (nI 0), .int (nI 0), .null, .null, .null, .null, .int (nI 0), .null, .null, .long 0, .int (nI 0), .int (nI 0), .null, .null, .int (nI 0), .int (nI 0)])
theorem k_bf_M : ∀ j, j < 24 → defaultValue (ty_M j) = vp_V [.int (nI 0), .null, .int (nI 0), .int (nI 0), .int (nI 0), .null, .null, .null, .int (nI 0), .int (nI 0), .null, .null, .null, .null, .int (nI 0), .null, .null, .long 0, .int (nI 0), .int (nI 0), .null, .null, .int (nI 0), .int (nI 0)] j := by
  intro j hj
  rcases (show j = 0 ∨ j = 1 ∨ j = 2 ∨ j = 3 ∨ j = 4 ∨ j = 5 ∨ j = 6 ∨ j = 7 ∨ j = 8 ∨ j = 9 ∨ j = 10 ∨ j = 11 ∨ j = 12 ∨ j = 13 ∨ j = 14 ∨ j = 15 ∨ j = 16 ∨ j = 17 ∨ j = 18 ∨ j = 19 ∨ j = 20 ∨ j = 21 ∨ j = 22 ∨ j = 23 by omega) with rfl | rfl | rfl | rfl | rfl | rfl | rfl | rfl | rfl | rfl | rfl | rfl | rfl | rfl | rfl | rfl | rfl | rfl | rfl | rfl | rfl | rfl | rfl | rfl <;> rfl
def k_rm_D : Room := { frames := 2, cells := 200, slots := 1433, locals := 66 }
abbrev k_bl_D : va_E := .inr (0, [.null, .int (nI 0), .null, .null, .null, .null, .null, .int (nI 0), .int (nI 0), .null, .int (nI 0), .long 0, .null, .null, .null, .null, .null, .null])
theorem k_bf_D : ∀ j, j < 18 → defaultValue (ty_D j) = vp_V [.null, .int (nI 0), .null, .null, .null, .null, .null, .int (nI 0), .int (nI 0), .null, .int (nI 0), .long 0, .null, .null, .null, .null, .null, .null] j := by
  intro j hj
  rcases (show j = 0 ∨ j = 1 ∨ j = 2 ∨ j = 3 ∨ j = 4 ∨ j = 5 ∨ j = 6 ∨ j = 7 ∨ j = 8 ∨ j = 9 ∨ j = 10 ∨ j = 11 ∨ j = 12 ∨ j = 13 ∨ j = 14 ∨ j = 15 ∨ j = 16 ∨ j = 17 by omega) with rfl | rfl | rfl | rfl | rfl | rfl | rfl | rfl | rfl | rfl | rfl | rfl | rfl | rfl | rfl | rfl | rfl | rfl <;> rfl
def k_scr (G : g_G) (a b : Nat) : va_W := [(a, .inr (1, [.ref b, .int (nI 0)])), (b, g_int G 48 k_z)]
set_option maxRecDepth 100000 in
set_option maxHeartbeats 4000000 in
theorem c_S_init (G : g_G) (l : Launch) (h0 : Nat) : k_C G l y_S_init b_S_init 1 k_rm_S h0 k_bl_S (fun ws => ∃ q, ws = k_scr G h0 q) := by
  refine k_C.of (own := R_S) (lv := [some (.ref h0)]) (by decide +kernel) rfl rfl rfl (by decide) (fun A => ?_)
  refine k_aload_n (i := 0) d_S_init_0 rfl lg0 ?_
  refine k_objInit d_S_init_1 k_oi_S ⟨Nat.le_of_ble_eq_true rfl, Nat.le_of_ble_eq_true rfl⟩ ?_
  refine k_aload_n (i := 0) d_S_init_4 rfl lg0 ?_
  refine k_bipush (v := nI 48) d_S_init_5 (by decide +kernel) ?_
  refine k_newa (N := 48) d_S_init_7 (by decide) ⟨Nat.le_of_ble_eq_true rfl, Nat.le_of_ble_eq_true rfl⟩ (fun q1 => ?_)
  refine k_put (q0 := 0) (ci := 1) (f := 0) (N := 2) (T := T_S) (ty0 := ty_S) d_S_init_9 rfl rfl in_S ty_S_ok nm_S (by decide) rfl (g_use (List.mem_of_getElem? (i := 73) (by decide +kernel)) rfl) rfl (ty_S_ok 0 (by decide)) rfl rfl (Nat.le_of_ble_eq_true rfl) ?_
  refine k_eq (ws' := [(h0, .inr (1, [.ref q1, .int (nI 0)])), (q1, g_int G 48 k_z)]) (k' := 1) (n' := 48) rfl rfl rfl ?_
  exact k_vret d_S_init_12 ⟨q1, rfl⟩ ⟨Nat.le_of_ble_eq_true rfl, Nat.le_of_ble_eq_true rfl⟩
def k_held (G : g_G) (a : Nat → Nat) : va_W := [(a 0, .inr (2, [.ref (a 1), .ref (a 2), .ref (a 3), .ref (a 4), .int (nI 0), .int (nI 0), .int (nI 0)])), (a 1, g_int G 6 k_z), (a 2, g_int G 6 k_z), (a 3, g_int G 6 k_z), (a 4, .inl (G.2.1.2.2.2, 6, .inr (.inr (.inr (.inr (fun k => some (a (5 + k)))))))), (a 5, g_int G 6 k_z), (a 6, g_int G 6 k_z), (a 7, g_int G 6 k_z), (a 8, g_int G 6 k_z), (a 9, g_int G 6 k_z), (a 10, g_int G 6 k_z)]
set_option maxRecDepth 100000 in
set_option maxHeartbeats 4000000 in
theorem c_H_init (G : g_G) (l : Launch) (h0 : Nat) : k_C G l y_H_init b_H_init 1 k_rm_H h0 k_bl_H (fun ws => ∃ a : Nat → Nat, a 0 = h0 ∧ ws = k_held G a) := by
  refine k_C.of (own := R_H) (lv := [some (.ref h0)]) (by decide +kernel) rfl rfl rfl (by decide) (fun A => ?_)
  refine k_aload_n (i := 0) d_H_init_0 rfl lg0 ?_
  refine k_objInit d_H_init_1 k_oi_H ⟨Nat.le_of_ble_eq_true rfl, Nat.le_of_ble_eq_true rfl⟩ ?_
  refine k_aload_n (i := 0) d_H_init_4 rfl lg0 ?_
  refine k_bipush (v := nI 6) d_H_init_5 (by decide +kernel) ?_
  refine k_newa (N := 6) d_H_init_7 (by decide) ⟨Nat.le_of_ble_eq_true rfl, Nat.le_of_ble_eq_true rfl⟩ (fun q1 => ?_)
  refine k_put (q0 := 0) (ci := 2) (f := 0) (N := 7) (T := T_H) (ty0 := ty_H) d_H_init_9 rfl rfl in_H ty_H_ok nm_H (by decide) rfl (g_use (List.mem_of_getElem? (i := 91) (by decide +kernel)) rfl) rfl (ty_H_ok 0 (by decide)) rfl rfl (Nat.le_of_ble_eq_true rfl) ?_
  refine k_eq (ws' := [(h0, .inr (2, [.ref q1, .null, .null, .null, .int (nI 0), .int (nI 0), .int (nI 0)])), (q1, g_int G 6 k_z)]) (k' := 1) (n' := 6) rfl rfl rfl ?_
  refine k_aload_n (i := 0) d_H_init_12 rfl lg0 ?_
  refine k_bipush (v := nI 6) d_H_init_13 (by decide +kernel) ?_
  refine k_newa (N := 6) d_H_init_15 (by decide) ⟨Nat.le_of_ble_eq_true rfl, Nat.le_of_ble_eq_true rfl⟩ (fun q2 => ?_)
  refine k_put (q0 := 0) (ci := 2) (f := 1) (N := 7) (T := T_H) (ty0 := ty_H) d_H_init_17 rfl rfl in_H ty_H_ok nm_H (by decide) rfl (g_use (List.mem_of_getElem? (i := 93) (by decide +kernel)) rfl) rfl (ty_H_ok 1 (by decide)) rfl rfl (Nat.le_of_ble_eq_true rfl) ?_
  refine k_eq (ws' := [(h0, .inr (2, [.ref q1, .ref q2, .null, .null, .int (nI 0), .int (nI 0), .int (nI 0)])), (q1, g_int G 6 k_z), (q2, g_int G 6 k_z)]) (k' := 2) (n' := 12) rfl rfl rfl ?_
  refine k_aload_n (i := 0) d_H_init_20 rfl lg0 ?_
  refine k_bipush (v := nI 6) d_H_init_21 (by decide +kernel) ?_
  refine k_newa (N := 6) d_H_init_23 (by decide) ⟨Nat.le_of_ble_eq_true rfl, Nat.le_of_ble_eq_true rfl⟩ (fun q3 => ?_)
  refine k_put (q0 := 0) (ci := 2) (f := 2) (N := 7) (T := T_H) (ty0 := ty_H) d_H_init_25 rfl rfl in_H ty_H_ok nm_H (by decide) rfl (g_use (List.mem_of_getElem? (i := 95) (by decide +kernel)) rfl) rfl (ty_H_ok 2 (by decide)) rfl rfl (Nat.le_of_ble_eq_true rfl) ?_
  refine k_eq (ws' := [(h0, .inr (2, [.ref q1, .ref q2, .ref q3, .null, .int (nI 0), .int (nI 0), .int (nI 0)])), (q1, g_int G 6 k_z), (q2, g_int G 6 k_z), (q3, g_int G 6 k_z)]) (k' := 3) (n' := 18) rfl rfl rfl ?_
  refine k_aload_n (i := 0) d_H_init_28 rfl lg0 ?_
  refine k_bipush (v := nI 6) d_H_init_29 (by decide +kernel) ?_
  refine k_bipush (v := nI 6) d_H_init_31 (by decide +kernel) ?_
  refine k_multi d_H_init_33 k_cl_HO ⟨Nat.le_of_ble_eq_true rfl, Nat.le_of_ble_eq_true rfl⟩ (fun q4 => ?_)
  refine k_put (q0 := 0) (ci := 2) (f := 3) (N := 7) (T := T_H) (ty0 := ty_H) d_H_init_37 rfl rfl in_H ty_H_ok nm_H (by decide) rfl (g_use (List.mem_of_getElem? (i := 97) (by decide +kernel)) rfl) rfl (ty_H_ok 3 (by decide)) rfl rfl (Nat.le_of_ble_eq_true rfl) ?_
  refine k_vret d_H_init_40 ⟨fun i => if i = 0 then h0 else if i = 1 then q1 else if i = 2 then q2 else if i = 3 then q3 else q4 + (i - 4), rfl, ?_⟩ ⟨Nat.le_of_ble_eq_true rfl, Nat.le_of_ble_eq_true rfl⟩
  have e : (fun j => some (q4 + 1 + j)) = fun k => some ((fun i => if i = 0 then h0 else if i = 1 then q1 else if i = 2 then q2 else if i = 3 then q3 else q4 + (i - 4)) (5 + k)) := by
    funext k
    show some (q4 + 1 + k) = some (if 5 + k = 0 then h0 else if 5 + k = 1 then q1 else if 5 + k = 2 then q2 else if 5 + k = 3 then q3 else q4 + (5 + k - 4))
    rw [if_neg (by omega), if_neg (by omega), if_neg (by omega), if_neg (by omega), show q4 + (5 + k - 4) = q4 + 1 + k by omega]
  unfold k_held
  rw [← e]
  rfl
def k_mod (G : g_G) (a : Nat → Nat) : va_W := [(a 0, .inr (3, [.int (nI 0), .ref (a 1), .int (nI 0), .int (nI 0), .int (nI 0), .ref (a 2), .ref (a 3), .ref (a 4), .int (nI 0), .int (nI 0), .ref (a 5), .ref (a 6), .ref (a 7), .ref (a 8), .int (nI 0), .ref (a 9), .ref (a 10), .long 0, .int (nI 0), .int (nI 0), .ref (a 11), .ref (a 12), .int (nI 0), .int (nI 0)])), (a 1, g_int G 48 k_z), (a 2, g_int G 6 k_z), (a 3, g_int G 6 k_z), (a 4, g_int G 6 k_z), (a 5, g_int G 30 k_z), (a 6, g_int G 57 k_z), (a 7, g_int G 57 k_z), (a 8, g_int G 798 k_z), (a 9, g_int G 114 k_z), (a 10, .inl (G.2.1.2.1, 2, .inl (fun k => nI (k_z k)))), (a 11, g_int G 64 k_z), (a 12, g_int G 64 k_z)]
set_option maxRecDepth 100000 in
set_option maxHeartbeats 4000000 in
theorem c_M_init (G : g_G) (l : Launch) (h0 : Nat) : k_C G l y_M_init b_M_init 1 k_rm_M h0 k_bl_M (fun ws => ∃ a : Nat → Nat, a 0 = h0 ∧ ws = k_mod G a) := by
  refine k_C.of (own := R_M) (lv := [some (.ref h0)]) (by decide +kernel) rfl rfl rfl (by decide) (fun A => ?_)
  refine k_aload_n (i := 0) d_M_init_0 rfl lg0 ?_
  refine k_objInit d_M_init_1 k_oi_M ⟨Nat.le_of_ble_eq_true rfl, Nat.le_of_ble_eq_true rfl⟩ ?_
  refine k_aload_n (i := 0) d_M_init_4 rfl lg0 ?_
  refine k_bipush (v := nI 48) d_M_init_5 (by decide +kernel) ?_
  refine k_newa (N := 48) d_M_init_7 (by decide) ⟨Nat.le_of_ble_eq_true rfl, Nat.le_of_ble_eq_true rfl⟩ (fun q1 => ?_)
  refine k_put (q0 := 0) (ci := 3) (f := 1) (N := 24) (T := T_M) (ty0 := ty_M) d_M_init_9 rfl rfl in_M ty_M_ok nm_M (by decide) rfl (g_use (List.mem_of_getElem? (i := 472) (by decide +kernel)) rfl) rfl (ty_M_ok 1 (by decide)) rfl rfl (Nat.le_of_ble_eq_true rfl) ?_
  refine k_eq (ws' := [(h0, .inr (3, [.int (nI 0), .ref q1, .int (nI 0), .int (nI 0), .int (nI 0), .null, .null, .null, .int (nI 0), .int (nI 0), .null, .null, .null, .null, .int (nI 0), .null, .null, .long 0, .int (nI 0), .int (nI 0), .null, .null, .int (nI 0), .int (nI 0)])), (q1, g_int G 48 k_z)]) (k' := 1) (n' := 48) rfl rfl rfl ?_
  refine k_aload_n (i := 0) d_M_init_12 rfl lg0 ?_
  refine k_bipush (v := nI 6) d_M_init_13 (by decide +kernel) ?_
  refine k_newa (N := 6) d_M_init_15 (by decide) ⟨Nat.le_of_ble_eq_true rfl, Nat.le_of_ble_eq_true rfl⟩ (fun q2 => ?_)
  refine k_put (q0 := 0) (ci := 3) (f := 5) (N := 24) (T := T_M) (ty0 := ty_M) d_M_init_17 rfl rfl in_M ty_M_ok nm_M (by decide) rfl (g_use (List.mem_of_getElem? (i := 476) (by decide +kernel)) rfl) rfl (ty_M_ok 5 (by decide)) rfl rfl (Nat.le_of_ble_eq_true rfl) ?_
  refine k_eq (ws' := [(h0, .inr (3, [.int (nI 0), .ref q1, .int (nI 0), .int (nI 0), .int (nI 0), .ref q2, .null, .null, .int (nI 0), .int (nI 0), .null, .null, .null, .null, .int (nI 0), .null, .null, .long 0, .int (nI 0), .int (nI 0), .null, .null, .int (nI 0), .int (nI 0)])), (q1, g_int G 48 k_z), (q2, g_int G 6 k_z)]) (k' := 2) (n' := 54) rfl rfl rfl ?_
  refine k_aload_n (i := 0) d_M_init_20 rfl lg0 ?_
  refine k_bipush (v := nI 6) d_M_init_21 (by decide +kernel) ?_
  refine k_newa (N := 6) d_M_init_23 (by decide) ⟨Nat.le_of_ble_eq_true rfl, Nat.le_of_ble_eq_true rfl⟩ (fun q3 => ?_)
  refine k_put (q0 := 0) (ci := 3) (f := 6) (N := 24) (T := T_M) (ty0 := ty_M) d_M_init_25 rfl rfl in_M ty_M_ok nm_M (by decide) rfl (g_use (List.mem_of_getElem? (i := 477) (by decide +kernel)) rfl) rfl (ty_M_ok 6 (by decide)) rfl rfl (Nat.le_of_ble_eq_true rfl) ?_
  refine k_eq (ws' := [(h0, .inr (3, [.int (nI 0), .ref q1, .int (nI 0), .int (nI 0), .int (nI 0), .ref q2, .ref q3, .null, .int (nI 0), .int (nI 0), .null, .null, .null, .null, .int (nI 0), .null, .null, .long 0, .int (nI 0), .int (nI 0), .null, .null, .int (nI 0), .int (nI 0)])), (q1, g_int G 48 k_z), (q2, g_int G 6 k_z), (q3, g_int G 6 k_z)]) (k' := 3) (n' := 60) rfl rfl rfl ?_
  refine k_aload_n (i := 0) d_M_init_28 rfl lg0 ?_
  refine k_bipush (v := nI 6) d_M_init_29 (by decide +kernel) ?_
  refine k_newa (N := 6) d_M_init_31 (by decide) ⟨Nat.le_of_ble_eq_true rfl, Nat.le_of_ble_eq_true rfl⟩ (fun q4 => ?_)
  refine k_put (q0 := 0) (ci := 3) (f := 7) (N := 24) (T := T_M) (ty0 := ty_M) d_M_init_33 rfl rfl in_M ty_M_ok nm_M (by decide) rfl (g_use (List.mem_of_getElem? (i := 478) (by decide +kernel)) rfl) rfl (ty_M_ok 7 (by decide)) rfl rfl (Nat.le_of_ble_eq_true rfl) ?_
  refine k_eq (ws' := [(h0, .inr (3, [.int (nI 0), .ref q1, .int (nI 0), .int (nI 0), .int (nI 0), .ref q2, .ref q3, .ref q4, .int (nI 0), .int (nI 0), .null, .null, .null, .null, .int (nI 0), .null, .null, .long 0, .int (nI 0), .int (nI 0), .null, .null, .int (nI 0), .int (nI 0)])), (q1, g_int G 48 k_z), (q2, g_int G 6 k_z), (q3, g_int G 6 k_z), (q4, g_int G 6 k_z)]) (k' := 4) (n' := 66) rfl rfl rfl ?_
  refine k_aload_n (i := 0) d_M_init_36 rfl lg0 ?_
  refine k_bipush (v := nI 30) d_M_init_37 (by decide +kernel) ?_
  refine k_newa (N := 30) d_M_init_39 (by decide) ⟨Nat.le_of_ble_eq_true rfl, Nat.le_of_ble_eq_true rfl⟩ (fun q5 => ?_)
  refine k_put (q0 := 0) (ci := 3) (f := 10) (N := 24) (T := T_M) (ty0 := ty_M) d_M_init_41 rfl rfl in_M ty_M_ok nm_M (by decide) rfl (g_use (List.mem_of_getElem? (i := 481) (by decide +kernel)) rfl) rfl (ty_M_ok 10 (by decide)) rfl rfl (Nat.le_of_ble_eq_true rfl) ?_
  refine k_eq (ws' := [(h0, .inr (3, [.int (nI 0), .ref q1, .int (nI 0), .int (nI 0), .int (nI 0), .ref q2, .ref q3, .ref q4, .int (nI 0), .int (nI 0), .ref q5, .null, .null, .null, .int (nI 0), .null, .null, .long 0, .int (nI 0), .int (nI 0), .null, .null, .int (nI 0), .int (nI 0)])), (q1, g_int G 48 k_z), (q2, g_int G 6 k_z), (q3, g_int G 6 k_z), (q4, g_int G 6 k_z), (q5, g_int G 30 k_z)]) (k' := 5) (n' := 96) rfl rfl rfl ?_
  refine k_aload_n (i := 0) d_M_init_44 rfl lg0 ?_
  refine k_bipush (v := nI 57) d_M_init_45 (by decide +kernel) ?_
  refine k_newa (N := 57) d_M_init_47 (by decide) ⟨Nat.le_of_ble_eq_true rfl, Nat.le_of_ble_eq_true rfl⟩ (fun q6 => ?_)
  refine k_put (q0 := 0) (ci := 3) (f := 11) (N := 24) (T := T_M) (ty0 := ty_M) d_M_init_49 rfl rfl in_M ty_M_ok nm_M (by decide) rfl (g_use (List.mem_of_getElem? (i := 482) (by decide +kernel)) rfl) rfl (ty_M_ok 11 (by decide)) rfl rfl (Nat.le_of_ble_eq_true rfl) ?_
  refine k_eq (ws' := [(h0, .inr (3, [.int (nI 0), .ref q1, .int (nI 0), .int (nI 0), .int (nI 0), .ref q2, .ref q3, .ref q4, .int (nI 0), .int (nI 0), .ref q5, .ref q6, .null, .null, .int (nI 0), .null, .null, .long 0, .int (nI 0), .int (nI 0), .null, .null, .int (nI 0), .int (nI 0)])), (q1, g_int G 48 k_z), (q2, g_int G 6 k_z), (q3, g_int G 6 k_z), (q4, g_int G 6 k_z), (q5, g_int G 30 k_z), (q6, g_int G 57 k_z)]) (k' := 6) (n' := 153) rfl rfl rfl ?_
  refine k_aload_n (i := 0) d_M_init_52 rfl lg0 ?_
  refine k_bipush (v := nI 57) d_M_init_53 (by decide +kernel) ?_
  refine k_newa (N := 57) d_M_init_55 (by decide) ⟨Nat.le_of_ble_eq_true rfl, Nat.le_of_ble_eq_true rfl⟩ (fun q7 => ?_)
  refine k_put (q0 := 0) (ci := 3) (f := 12) (N := 24) (T := T_M) (ty0 := ty_M) d_M_init_57 rfl rfl in_M ty_M_ok nm_M (by decide) rfl (g_use (List.mem_of_getElem? (i := 483) (by decide +kernel)) rfl) rfl (ty_M_ok 12 (by decide)) rfl rfl (Nat.le_of_ble_eq_true rfl) ?_
  refine k_eq (ws' := [(h0, .inr (3, [.int (nI 0), .ref q1, .int (nI 0), .int (nI 0), .int (nI 0), .ref q2, .ref q3, .ref q4, .int (nI 0), .int (nI 0), .ref q5, .ref q6, .ref q7, .null, .int (nI 0), .null, .null, .long 0, .int (nI 0), .int (nI 0), .null, .null, .int (nI 0), .int (nI 0)])), (q1, g_int G 48 k_z), (q2, g_int G 6 k_z), (q3, g_int G 6 k_z), (q4, g_int G 6 k_z), (q5, g_int G 30 k_z), (q6, g_int G 57 k_z), (q7, g_int G 57 k_z)]) (k' := 7) (n' := 210) rfl rfl rfl ?_
  refine k_aload_n (i := 0) d_M_init_60 rfl lg0 ?_
  refine k_sipush (v := nI 798) d_M_init_61 (by decide +kernel) ?_
  refine k_newa (N := 798) d_M_init_64 (by decide) ⟨Nat.le_of_ble_eq_true rfl, Nat.le_of_ble_eq_true rfl⟩ (fun q8 => ?_)
  refine k_put (q0 := 0) (ci := 3) (f := 13) (N := 24) (T := T_M) (ty0 := ty_M) d_M_init_66 rfl rfl in_M ty_M_ok nm_M (by decide) rfl (g_use (List.mem_of_getElem? (i := 484) (by decide +kernel)) rfl) rfl (ty_M_ok 13 (by decide)) rfl rfl (Nat.le_of_ble_eq_true rfl) ?_
  refine k_eq (ws' := [(h0, .inr (3, [.int (nI 0), .ref q1, .int (nI 0), .int (nI 0), .int (nI 0), .ref q2, .ref q3, .ref q4, .int (nI 0), .int (nI 0), .ref q5, .ref q6, .ref q7, .ref q8, .int (nI 0), .null, .null, .long 0, .int (nI 0), .int (nI 0), .null, .null, .int (nI 0), .int (nI 0)])), (q1, g_int G 48 k_z), (q2, g_int G 6 k_z), (q3, g_int G 6 k_z), (q4, g_int G 6 k_z), (q5, g_int G 30 k_z), (q6, g_int G 57 k_z), (q7, g_int G 57 k_z), (q8, g_int G 798 k_z)]) (k' := 8) (n' := 1008) rfl rfl rfl ?_
  refine k_aload_n (i := 0) d_M_init_69 rfl lg0 ?_
  refine k_bipush (v := nI 114) d_M_init_70 (by decide +kernel) ?_
  refine k_newa (N := 114) d_M_init_72 (by decide) ⟨Nat.le_of_ble_eq_true rfl, Nat.le_of_ble_eq_true rfl⟩ (fun q9 => ?_)
  refine k_put (q0 := 0) (ci := 3) (f := 15) (N := 24) (T := T_M) (ty0 := ty_M) d_M_init_74 rfl rfl in_M ty_M_ok nm_M (by decide) rfl (g_use (List.mem_of_getElem? (i := 486) (by decide +kernel)) rfl) rfl (ty_M_ok 15 (by decide)) rfl rfl (Nat.le_of_ble_eq_true rfl) ?_
  refine k_eq (ws' := [(h0, .inr (3, [.int (nI 0), .ref q1, .int (nI 0), .int (nI 0), .int (nI 0), .ref q2, .ref q3, .ref q4, .int (nI 0), .int (nI 0), .ref q5, .ref q6, .ref q7, .ref q8, .int (nI 0), .ref q9, .null, .long 0, .int (nI 0), .int (nI 0), .null, .null, .int (nI 0), .int (nI 0)])), (q1, g_int G 48 k_z), (q2, g_int G 6 k_z), (q3, g_int G 6 k_z), (q4, g_int G 6 k_z), (q5, g_int G 30 k_z), (q6, g_int G 57 k_z), (q7, g_int G 57 k_z), (q8, g_int G 798 k_z), (q9, g_int G 114 k_z)]) (k' := 9) (n' := 1122) rfl rfl rfl ?_
  refine k_aload_n (i := 0) d_M_init_77 rfl lg0 ?_
  refine k_iconst (v := nI 2) d_M_init_78 (by decide +kernel) ?_
  refine k_newz d_M_init_79 ⟨Nat.le_of_ble_eq_true rfl, Nat.le_of_ble_eq_true rfl⟩ (fun q10 => ?_)
  refine k_put (q0 := 0) (ci := 3) (f := 16) (N := 24) (T := T_M) (ty0 := ty_M) d_M_init_81 rfl rfl in_M ty_M_ok nm_M (by decide) rfl (g_use (List.mem_of_getElem? (i := 487) (by decide +kernel)) rfl) rfl (ty_M_ok 16 (by decide)) rfl rfl (Nat.le_of_ble_eq_true rfl) ?_
  refine k_eq (ws' := [(h0, .inr (3, [.int (nI 0), .ref q1, .int (nI 0), .int (nI 0), .int (nI 0), .ref q2, .ref q3, .ref q4, .int (nI 0), .int (nI 0), .ref q5, .ref q6, .ref q7, .ref q8, .int (nI 0), .ref q9, .ref q10, .long 0, .int (nI 0), .int (nI 0), .null, .null, .int (nI 0), .int (nI 0)])), (q1, g_int G 48 k_z), (q2, g_int G 6 k_z), (q3, g_int G 6 k_z), (q4, g_int G 6 k_z), (q5, g_int G 30 k_z), (q6, g_int G 57 k_z), (q7, g_int G 57 k_z), (q8, g_int G 798 k_z), (q9, g_int G 114 k_z), (q10, .inl (G.2.1.2.1, 2, .inl (fun _ => nI 0)))]) (k' := 10) (n' := 1124) rfl rfl rfl ?_
  refine k_aload_n (i := 0) d_M_init_84 rfl lg0 ?_
  refine k_bipush (v := nI 64) d_M_init_85 (by decide +kernel) ?_
  refine k_newa (N := 64) d_M_init_87 (by decide) ⟨Nat.le_of_ble_eq_true rfl, Nat.le_of_ble_eq_true rfl⟩ (fun q11 => ?_)
  refine k_put (q0 := 0) (ci := 3) (f := 20) (N := 24) (T := T_M) (ty0 := ty_M) d_M_init_89 rfl rfl in_M ty_M_ok nm_M (by decide) rfl (g_use (List.mem_of_getElem? (i := 491) (by decide +kernel)) rfl) rfl (ty_M_ok 20 (by decide)) rfl rfl (Nat.le_of_ble_eq_true rfl) ?_
  refine k_eq (ws' := [(h0, .inr (3, [.int (nI 0), .ref q1, .int (nI 0), .int (nI 0), .int (nI 0), .ref q2, .ref q3, .ref q4, .int (nI 0), .int (nI 0), .ref q5, .ref q6, .ref q7, .ref q8, .int (nI 0), .ref q9, .ref q10, .long 0, .int (nI 0), .int (nI 0), .ref q11, .null, .int (nI 0), .int (nI 0)])), (q1, g_int G 48 k_z), (q2, g_int G 6 k_z), (q3, g_int G 6 k_z), (q4, g_int G 6 k_z), (q5, g_int G 30 k_z), (q6, g_int G 57 k_z), (q7, g_int G 57 k_z), (q8, g_int G 798 k_z), (q9, g_int G 114 k_z), (q10, .inl (G.2.1.2.1, 2, .inl (fun _ => nI 0))), (q11, g_int G 64 k_z)]) (k' := 11) (n' := 1188) rfl rfl rfl ?_
  refine k_aload_n (i := 0) d_M_init_92 rfl lg0 ?_
  refine k_bipush (v := nI 64) d_M_init_93 (by decide +kernel) ?_
  refine k_newa (N := 64) d_M_init_95 (by decide) ⟨Nat.le_of_ble_eq_true rfl, Nat.le_of_ble_eq_true rfl⟩ (fun q12 => ?_)
  refine k_put (q0 := 0) (ci := 3) (f := 21) (N := 24) (T := T_M) (ty0 := ty_M) d_M_init_97 rfl rfl in_M ty_M_ok nm_M (by decide) rfl (g_use (List.mem_of_getElem? (i := 492) (by decide +kernel)) rfl) rfl (ty_M_ok 21 (by decide)) rfl rfl (Nat.le_of_ble_eq_true rfl) ?_
  refine k_eq (ws' := [(h0, .inr (3, [.int (nI 0), .ref q1, .int (nI 0), .int (nI 0), .int (nI 0), .ref q2, .ref q3, .ref q4, .int (nI 0), .int (nI 0), .ref q5, .ref q6, .ref q7, .ref q8, .int (nI 0), .ref q9, .ref q10, .long 0, .int (nI 0), .int (nI 0), .ref q11, .ref q12, .int (nI 0), .int (nI 0)])), (q1, g_int G 48 k_z), (q2, g_int G 6 k_z), (q3, g_int G 6 k_z), (q4, g_int G 6 k_z), (q5, g_int G 30 k_z), (q6, g_int G 57 k_z), (q7, g_int G 57 k_z), (q8, g_int G 798 k_z), (q9, g_int G 114 k_z), (q10, .inl (G.2.1.2.1, 2, .inl (fun _ => nI 0))), (q11, g_int G 64 k_z), (q12, g_int G 64 k_z)]) (k' := 12) (n' := 1252) rfl rfl rfl ?_
  exact k_vret d_M_init_100 ⟨fun i => if i = 0 then h0 else if i = 1 then q1 else if i = 2 then q2 else if i = 3 then q3 else if i = 4 then q4 else if i = 5 then q5 else if i = 6 then q6 else if i = 7 then q7 else if i = 8 then q8 else if i = 9 then q9 else if i = 10 then q10 else if i = 11 then q11 else q12, rfl, rfl⟩ ⟨Nat.le_of_ble_eq_true rfl, Nat.le_of_ble_eq_true rfl⟩
