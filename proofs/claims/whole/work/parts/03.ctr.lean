/-! Contracts over the world, a method's head and its ends, calls. -/
def g_rm (d : Nat) : Room := { frames := d, cells := 0, slots := 0, locals := 33 * d }
def lw_good : List Cond := lw_use.filter goodWord
theorem lw_split : ∀ w ∈ lw_use, goodWord w = true ∨ g_nest w = true := fun w hw => by
  have h := (List.mem_filter.mp hw).2
  unfold g_usable at h
  exact (Bool.or_eq_true _ _).mp h
def g_Nw (U : State) : Prop := ∀ w ∈ lw_use, g_nest w = true → va_Nw w U
theorem g_nest_on {w : Cond} (h : g_nest w = true) : w.onTables = true := by
  cases w <;> first | rfl | cases h
theorem g_Nw.warm {s U : State} (hW : s.WarmedH U.vm) (h : g_Nw s) : g_Nw U := by
  intro w hw hn
  have hz := h w hw hn
  cases w <;> first | exact va_Nw.warmF hW hz | exact va_Nw.warmM hW hz | cases hn
theorem g_Nw.same {s U : State} (hv : s.vm = U.vm) (h : g_Nw s) : g_Nw U := fun w hw hn => va_Nw.same (g_nest_on hn) hv (h w hw hn)
def g_B (G : g_G) (V : g_V) (S : g_L) (U : State) : Prop := va_P G.1 g_cl (g_W G V S) U.heap ∧ va_K G.1 g_cl (g_tys G) U ∧ g_inj G ∧ g_St G (g_A G) U U.heap ∧ g_Nw U
def g_Q (G : g_G) (A : Nat → Prop) (post : Option Value → g_V → g_L → Prop) : Array Value → State → Outcome → State → Prop := fun _ s oc t =>
  (∃ (r : Option Value) (V : g_V) (S : g_L), oc = .returned r ∧ post r V S ∧ va_P G.1 g_cl (g_W G V S) t.heap) ∧ va_F A s t
/-- THE CONTRACT: method y, called with av over the world V, S, ends with an answer and a world that post says -/
def g_C (G : g_G) (l : Launch) (y : MethodName) (cc : ByteArray) (maxL : Nat) (ret : Option FieldType) (d : Nat) (av : List Value) (V : g_V) (S : g_L) (post : Option Value → g_V → g_L → Prop) : Prop :=
  Met l y (Cond.code y cc maxL ret :: lw_good) (g_rm d) (va_Pc av (g_B G V S)) (g_Q G (g_A G) post) 0 0 (g_A G)
def g_M (G : g_G) (l : Launch) (d : Nat) (ret : Option FieldType) (post : Option Value → g_V → g_L → Prop) : g_X :=
  (l, g_rm d, ret, g_A G, (0, 0), fun _ _ s _ args below _ _ Q => Q = MQ below (g_Q G (g_A G) post) args s 0 0 (g_A G))
theorem g_C.of {G : g_G} {l : Launch} {y : MethodName} {cc : ByteArray} {maxL : Nat} {ret : Option FieldType} {d : Nat} {av : List Value} {V : g_V} {S : g_L} {post : Option Value → g_V → g_L → Prop} {own : String} {lv : List (Option Value)}
    (hy : plainName y.cls = true) (hn : y.cls = own) (hl0 : g_ix 0 lv = lv_args 0 av) (hlen : lv.length = maxL) (hs : (lg_sl av).length ≤ maxL)
    (k : JW G (g_M G l d ret post) cc own 0 lv [] V S) : g_C G l y cc maxL ret d av V S post := by
  refine Met.ofW (cc := cc) (maxL := maxL) (ret := ret) hy rfl ?_
  intro p e s m args below meth c s₁ B hml hv
  obtain ⟨rfl, hP, hK, hi, hSt, hNw⟩ := hv
  have hts := atoms_spec (ws := Cond.code y cc maxL ret :: lw_good) B.pre
  have hown : s.vm.findClass y.cls = some m.cls := findClass_of_methodNamed B.named
  subst hn
  have hw : ∀ w ∈ lw_use, w.before av.toArray s = true := fun w hw => by
    rcases lw_split w hw with h | h
    · exact hts w (List.mem_cons_of_mem _ (List.mem_filter.mpr ⟨hw, h⟩))
    · exact va_Nw.use (g_nest_on h) (hNw w hw h)
  have hl := lv_entry av hs
  rw [lg_entry_eq]
  refine k p e s m _ below meth c _ ⟨B.exec, B.bytes, hown, hw, hK, hi, fun c h => ⟨c, h, rfl⟩, hSt, B.notSynchronized, B.returns⟩ rfl s.heap [] _ ⟨?_, by rw [hml]; exact hlen⟩ hP va_S.rf
  rw [hl0, hml]
  exact hl
section CTR
variable {G : g_G} {X : g_X} {cc : ByteArray} {own : String} {pc : Nat} {lv lv' : List (Option Value)} {st : List Value} {V : g_V} {S : g_L} {l : Launch} {d : Nat} {post : Option Value → g_V → g_L → Prop}
theorem j_iret {v : Int32} (hd : decode cc pc = .ok (.ireturn, 1)) (h : post (some (.int v)) V S) : JW G (g_M G l d (some .int) post) cc own pc lv [.int v] V S := by
  intro p e s m args below meth c Q C K H locs ls hl hP hS
  cases K
  exact W.iret C.1 C.2.1 C.2.2.2.2.2.2.2.2.2 (fun t ht _ => ⟨⟨_, V, S, rfl, h, by rw [ht]; exact hP⟩, hS.F ht⟩) hS.2.2 hd C.2.2.2.2.2.2.2.2.1
theorem j_zret {v : Int32} (hd : decode cc pc = .ok (.ireturn, 1)) (hv : narrow .boolean (.int v) = .int v) (h : post (some (.int v)) V S) : JW G (g_M G l d (some .boolean) post) cc own pc lv [.int v] V S := by
  intro p e s m args below meth c Q C K H locs ls hl hP hS
  cases K
  exact W.zret C.1 C.2.1 C.2.2.2.2.2.2.2.2.2 hv (fun t ht _ => ⟨⟨_, V, S, rfl, h, by rw [ht]; exact hP⟩, hS.F ht⟩) hS.2.2 hd C.2.2.2.2.2.2.2.2.1
theorem j_lret {v : Int64} (hd : decode cc pc = .ok (.lreturn, 1)) (h : post (some (.long v)) V S) : JW G (g_M G l d (some .long) post) cc own pc lv [.long v] V S := by
  intro p e s m args below meth c Q C K H locs ls hl hP hS
  cases K
  exact W.lret C.1 C.2.1 C.2.2.2.2.2.2.2.2.2 (fun t ht _ => ⟨⟨_, V, S, rfl, h, by rw [ht]; exact hP⟩, hS.F ht⟩) hS.2.2 hd C.2.2.2.2.2.2.2.2.1
theorem j_vret (hd : decode cc pc = .ok (.return_, 1)) (h : post none V S) : JW G (g_M G l d none post) cc own pc lv [] V S := by
  intro p e s m args below meth c Q C K H locs ls hl hP hS
  cases K
  exact W.vret C.1 C.2.1 C.2.2.2.2.2.2.2.2.2 (fun t ht _ => ⟨⟨_, V, S, rfl, h, by rw [ht]; exact hP⟩, hS.F ht⟩) hS.2.2 hd C.2.2.2.2.2.2.2.2.1
/-- what the callee finds -/
theorem g_B.at {p : Program} {s U : State} {m : MethodId} {args : Array Value} {meth : Method} {c : Code} {H : Heap} {locs : List Loc} (C : g_Cx G X p s m args meth c cc own) (hP : va_P G.1 g_cl (g_W G V S) H) (hS : va_S X.2.2.2.1 s.heap H locs) (hU : U.heap = H) (hW : s.WarmedH U.vm) : g_B G V S U := by
  refine ⟨by rw [hU]; exact hP, C.2.2.2.2.1.moved hW.alike, C.2.2.2.2.2.1, ?_, ?_⟩
  · have h1 := (C.2.2.2.2.2.2.2.1.kept hS.2.1).moved hW.alike
    rw [hU]
    exact h1.narrow (fun q ⟨c, h, e⟩ => e ▸ C.2.2.2.2.2.2.1 c h)
  · exact g_Nw.warm hW (fun w hw hn => va_Nw.of (g_nest_on hn) (C.2.2.2.1 w hw))
theorem g_blind {av : List Value} : FrameBlind (va_Pc av (g_B G V S)) := fun a U g mk q => by
  obtain ⟨q0, h1, h2, h3, h4, h5⟩ := q
  exact ⟨q0, h1, h2.moved (u := U) (U := U.calling g mk a) (Vm.Alike.refl U.vm), h3, h4.moved (u := U) (U := U.calling g mk a) (Vm.Alike.refl U.vm), g_Nw.same (s := U) (U := U.calling g mk a) rfl h5⟩
theorem g_ok {ws : List Cond} (h : ∀ w ∈ ws, w ∈ lw_use ∧ goodWord w = true) : GoodIn lw_use ws := fun w hw => ⟨(h w hw).1, good_of_word (h w hw).2⟩
theorem g_okc {c : Cond} (hc : c ∈ lw_use) (hg : goodWord c = true) : ∀ w ∈ (c :: lw_good), w ∈ lw_use ∧ goodWord w = true := fun w hw => by
  rcases List.mem_cons.mp hw with rfl | h
  · exact ⟨hc, hg⟩
  · exact List.mem_filter.mp h
/-- the run of a call becomes a step -/
theorem j_run {p : Program} {e : Env} {s : State} {m : MethodId} {args : Array Value} {below : List Frame} {meth : Method} {c : Code} {Q : State → Prop} {H : Heap} {locs : List Loc} {ls : Array Slot} {st0 : List Value} {post2 : Option Value → g_V → g_L → Prop} {a : Array Value}
    (C : g_Cx G X p s m args meth c cc own) (K : X.2.2.2.2.2 p e s m args below meth c Q) (hl : g_lv c ls lv) (hS : va_S X.2.2.2.1 s.heap H locs)
    (hr : va_Run p X.1 e X.2.1 s m args below meth c H locs X.2.2.2.2.1.1 X.2.2.2.2.1.2 0 0 (F0 m pc ls st0) st (g_Q G (g_A G) post2 a) (g_A G))
    (kk : ∀ (v : Option Value) (V' : g_V) (S' : g_L), post2 v V' S' → JW G X cc own (pc + 3) lv (v.toList ++ st) V' S') : W p X.1 e X.2.1 s m args below meth c H locs X.2.2.2.2.1.1 X.2.2.2.2.1.2 Q (F0 m pc ls st0) := by
  intro T hT Xs
  obtain ⟨v, st₀, t, T', L, h0, X', hL, e1, e2, ⟨⟨r, V', S', hv, hp, hb⟩, hz, hk⟩, stp⟩ := hr T hT Xs
  cases hv
  rw [h0] at hz hk
  have hAA : ∀ q, g_A G q → X.2.2.2.1 q := fun q ⟨c, h, e⟩ => e ▸ C.2.2.2.2.2.2.1 c h
  have hS' : va_S X.2.2.2.1 s.heap T'.heap (locs ++ L) := by
    refine ⟨Nat.le_trans hS.1 (by rw [e1]; exact hz), fun q h1 h2 => ?_, fun q hq => ?_⟩
    · rw [e1, hk q (Nat.lt_of_lt_of_le h1 hS.1) (fun z => h2 (hAA q z))]
      exact hS.2.1 q h1 h2
    · rcases List.mem_append.mp hq with h | h
      · exact hS.2.2 q h
      · exact hAA _ (hL q h)
  obtain ⟨t2, a1, b1⟩ := kk v V' S' hp p e s m args below meth c Q C K T'.heap (locs ++ L) ls hl (by rw [e1]; exact hb) hS' T' rfl X'
  exact ⟨t2, stp t2 a1, b1⟩
variable {y : MethodName} {bytes : ByteArray} {maxL d2 index cl ci N : Nat} {ret : Option FieldType} {As st0 : List Value} {fs : List Value} {T : u_T} {post2 : Option Value → g_V → g_L → Prop}
theorem j_callV (M : g_C G X.1 y bytes maxL ret d2 (.ref (g_a G cl) :: As) V S post2) (hd : decode cc pc = .ok (.invokevirtual index, 3)) (hst : st0 = As.reverse ++ .ref (g_a G cl) :: st)
    (hc : cl < g_N) (hE : g_E G (V cl) (S cl) cl = .inr (ci, fs)) (hcl : g_cl[ci]? = some (y.cls, T, N))
    (h1 : Cond.methodLink own index y ∈ lw_use) (h2 : Cond.instanceMethod y ∈ lw_use) (h3 : Cond.selects y.cls y y ∈ lw_use) (h4 : Cond.initialized y.cls ∈ lw_use) (h5 : Cond.code y bytes maxL ret ∈ lw_use)
    (hy : y.cls ≠ "java/lang/invoke/MethodHandle" ∧ y.cls ≠ "java/lang/invoke/VarHandle" ∧ (parseMethodDescriptor y.desc).map (fun d => d.parameters.length) = some As.length)
    (hR : d2 + 1 ≤ X.2.1.frames ∧ 8 + (maxL + 11) + 33 * d2 ≤ X.2.1.locals) (hf : X.2.2.2.2.1.1 ≤ X.2.1.cells ∧ X.2.2.2.2.1.2 ≤ X.2.1.slots) (hcat : (st.map fun v => v.category).sum ≤ 8)
    (kk : ∀ (v : Option Value) (V' : g_V) (S' : g_L), post2 v V' S' → JW G X cc own (pc + 3) lv (v.toList ++ st) V' S') : JW G X cc own pc lv st0 V S := by
  subst hst
  intro p e s m args below meth c Q C K H locs ls hl hP hS
  have hG : GoodIn lw_use (wsV own index y.cls y (Cond.code y bytes maxL ret :: lw_good)) := g_ok (fun w hw => by
    unfold wsV at hw
    rcases List.mem_append.mp hw with h | h
    · simp only [List.mem_cons, List.not_mem_nil, or_false] at h
      rcases h with rfl | rfl | rfl | rfl
      · exact ⟨h1, rfl⟩
      · exact ⟨h2, rfl⟩
      · exact ⟨h3, rfl⟩
      · exact ⟨h4, rfl⟩
    · exact g_okc h5 rfl w h)
  refine j_run C K hl hS (va_runV (As := As) (rest := st) (nL := c.maxLocals) (cc := cc) (Ts := lw_use) (own := own) ⟨C.1, C.2.1, rfl, C.2.2.1, C.2.2.2.1⟩ M (cwV As.length C.2.2.2.1 hG rfl rfl rfl ⟨rfl, hy⟩ hR) ⟨g_blind, va_recv C.2.2.2.2.1 hP hcl (by rw [g_W_get hc, hE]), fun U hU hW => ⟨rfl, g_B.at C hP hS hU hW⟩⟩ rfl rfl hl.1.1 rfl (lv_room hcat) hd hf) kk
theorem j_callS (M : g_C G X.1 y bytes maxL ret d2 As V S post2) (hd : decode cc pc = .ok (.invokestatic index, 3)) (hst : st0 = As.reverse ++ st)
    (h1 : Cond.methodLink own index y ∈ lw_use) (h2 : Cond.static y ∈ lw_use) (h4 : Cond.initialized y.cls ∈ lw_use) (h5 : Cond.code y bytes maxL ret ∈ lw_use)
    (hy : y.cls ≠ "java/lang/invoke/MethodHandle" ∧ y.cls ≠ "java/lang/invoke/VarHandle" ∧ (parseMethodDescriptor y.desc).map (fun d => d.parameters.length) = some As.length)
    (hR : d2 + 1 ≤ X.2.1.frames ∧ 8 + (maxL + 11) + 33 * d2 ≤ X.2.1.locals) (hf : X.2.2.2.2.1.1 ≤ X.2.1.cells ∧ X.2.2.2.2.1.2 ≤ X.2.1.slots) (hcat : (st.map fun v => v.category).sum ≤ 8)
    (kk : ∀ (v : Option Value) (V' : g_V) (S' : g_L), post2 v V' S' → JW G X cc own (pc + 3) lv (v.toList ++ st) V' S') : JW G X cc own pc lv st0 V S := by
  subst hst
  intro p e s m args below meth c Q C K H locs ls hl hP hS
  have hG : GoodIn lw_use (va_wsS own index y (Cond.code y bytes maxL ret :: lw_good)) := g_ok (fun w hw => by
    unfold va_wsS at hw
    rcases List.mem_append.mp hw with h | h
    · simp only [List.mem_cons, List.not_mem_nil, or_false] at h
      rcases h with rfl | rfl | rfl
      · exact ⟨h1, rfl⟩
      · exact ⟨h2, rfl⟩
      · exact ⟨h4, rfl⟩
    · exact g_okc h5 rfl w h)
  refine j_run C K hl hS (va_runS (As := As) (rest := st) (nL := c.maxLocals) (cc := cc) (Ts := lw_use) (own := own) ⟨C.1, C.2.1, rfl, C.2.2.1, C.2.2.2.1⟩ M (va_cwS As.length C.2.2.2.1 hG rfl rfl rfl hy hR) ⟨g_blind, fun U hU hW => ⟨rfl, g_B.at C hP hS hU hW⟩⟩ rfl rfl hl.1.1 rfl (lv_room hcat) hd hf) kk
theorem j_callVN {host : String} (M : g_C G X.1 y bytes maxL ret d2 (.ref (g_a G cl) :: As) V S post2) (hd : decode cc pc = .ok (.invokevirtual index, 3)) (hst : st0 = As.reverse ++ .ref (g_a G cl) :: st)
    (hc : cl < g_N) (hE : g_E G (V cl) (S cl) cl = .inr (ci, fs)) (hcl : g_cl[ci]? = some (y.cls, T, N))
    (h1 : Cond.methodLinkNest own index y host ∈ lw_use) (h2 : Cond.instanceMethod y ∈ lw_use) (h3 : Cond.selects y.cls y y ∈ lw_use) (h4 : Cond.initialized y.cls ∈ lw_use) (h5 : Cond.code y bytes maxL ret ∈ lw_use)
    (hy : y.cls ≠ "java/lang/invoke/MethodHandle" ∧ y.cls ≠ "java/lang/invoke/VarHandle" ∧ (parseMethodDescriptor y.desc).map (fun d => d.parameters.length) = some As.length)
    (hR : d2 + 1 ≤ X.2.1.frames ∧ 8 + (maxL + 11) + 33 * d2 ≤ X.2.1.locals) (hf : X.2.2.2.2.1.1 ≤ X.2.1.cells ∧ X.2.2.2.2.1.2 ≤ X.2.1.slots) (hcat : (st.map fun v => v.category).sum ≤ 8)
    (kk : ∀ (v : Option Value) (V' : g_V) (S' : g_L), post2 v V' S' → JW G X cc own (pc + 3) lv (v.toList ++ st) V' S') : JW G X cc own pc lv st0 V S := by
  subst hst
  intro p e s m args below meth c Q C K H locs ls hl hP hS
  refine j_run C K hl hS (va_runVN (As := As) (rest := st) (nL := c.maxLocals) (cc := cc) (Ts := lw_use) (own := own) ⟨C.1, C.2.1, rfl, C.2.2.1, C.2.2.2.1⟩ M ⟨va_cnB As.length C.2.2.2.1 (g_ok (g_okc h5 rfl)) rfl rfl rfl (va_Nw.of rfl (C.2.2.2.1 _ h1)) (C.2.2.2.1 _ h4) hy hR, C.2.2.2.1 _ h2, C.2.2.2.1 _ h3⟩ ⟨g_blind, va_recv C.2.2.2.2.1 hP hcl (by rw [g_W_get hc, hE]), fun U hU hW => ⟨rfl, g_B.at C hP hS hU hW⟩⟩ rfl rfl hl.1.1 rfl (lv_room hcat) hd hf) kk
theorem j_callSN {host : String} (M : g_C G X.1 y bytes maxL ret d2 As V S post2) (hd : decode cc pc = .ok (.invokestatic index, 3)) (hst : st0 = As.reverse ++ st)
    (h1 : Cond.methodLinkNest own index y host ∈ lw_use) (h2 : Cond.static y ∈ lw_use) (h4 : Cond.initialized y.cls ∈ lw_use) (h5 : Cond.code y bytes maxL ret ∈ lw_use)
    (hy : y.cls ≠ "java/lang/invoke/MethodHandle" ∧ y.cls ≠ "java/lang/invoke/VarHandle" ∧ (parseMethodDescriptor y.desc).map (fun d => d.parameters.length) = some As.length)
    (hR : d2 + 1 ≤ X.2.1.frames ∧ 8 + (maxL + 11) + 33 * d2 ≤ X.2.1.locals) (hf : X.2.2.2.2.1.1 ≤ X.2.1.cells ∧ X.2.2.2.2.1.2 ≤ X.2.1.slots) (hcat : (st.map fun v => v.category).sum ≤ 8)
    (kk : ∀ (v : Option Value) (V' : g_V) (S' : g_L), post2 v V' S' → JW G X cc own (pc + 3) lv (v.toList ++ st) V' S') : JW G X cc own pc lv st0 V S := by
  subst hst
  intro p e s m args below meth c Q C K H locs ls hl hP hS
  refine j_run C K hl hS (va_runSN (As := As) (rest := st) (nL := c.maxLocals) (cc := cc) (Ts := lw_use) (own := own) ⟨C.1, C.2.1, rfl, C.2.2.1, C.2.2.2.1⟩ M ⟨va_cnB As.length C.2.2.2.1 (g_ok (g_okc h5 rfl)) rfl rfl rfl (va_Nw.of rfl (C.2.2.2.1 _ h1)) (C.2.2.2.1 _ h4) hy hR, C.2.2.2.1 _ h2, trivial⟩ ⟨g_blind, fun U hU hW => ⟨rfl, g_B.at C hP hS hU hW⟩⟩ rfl rfl hl.1.1 rfl (lv_room hcat) hd hf) kk
/-- Math.max -/
theorem j_max {x y : Int32} (hd : decode cc pc = .ok (.invokestatic index, 3)) (h1 : Cond.methodLink own index Lib.Math.max.name ∈ lw_use) (h2 : Cond.static Lib.Math.max.name ∈ lw_use) (h4 : Cond.initialized "java/lang/Math" ∈ lw_use) (h5 : Cond.code Lib.Math.max.name Lib.Math.max.code 2 (some .int) ∈ lw_use)
    (hR : 1 ≤ X.2.1.frames ∧ 21 ≤ X.2.1.locals) (hf : X.2.2.2.2.1.1 ≤ X.2.1.cells ∧ X.2.2.2.2.1.2 ≤ X.2.1.slots) (hcat : (st.map fun v => v.category).sum ≤ 8)
    (kk : JW G X cc own (pc + 3) lv (.int (if x < y then y else x) :: st) V S) : JW G X cc own pc lv (.int y :: .int x :: st) V S :=
  fun p e s m args below meth c Q C K H locs ls hl hP hS => va_mmax C.1 C.2.1 hl.1.1.symm C.2.2.1 (C.2.2.2.1 _ h1) (C.2.2.2.1 _ h2) (C.2.2.2.1 _ h4) (C.2.2.2.1 _ h5) hR.1 (by omega) hf.1 hf.2 hd (kk p e s m args below meth c Q C K H locs ls hl hP hS)
/-- a field -/
theorem j_get {k : Nat} {Cn : String} {v : Value} (hd : decode cc pc = .ok (.getfield index, 3)) (hc : cl < g_N) (hE : g_E G (V cl) (S cl) cl = .inr (ci, fs)) (hcl : g_cl[ci]? = some (Cn, T, N)) (hin : ∀ w ∈ u_ws Cn T N, w ∈ lw_use) (hk : k < N) (hn : (T k).1 = Cn) (hw : Cond.fieldLink own index Cn (T k).2.1 (T k).2.2.1 ∈ lw_use) (hv : fs[k]? = some v)
    (kk : JW G X cc own (pc + 3) lv (v :: st) V S) : JW G X cc own pc lv (.ref (g_a G cl) :: st) V S :=
  fun p e s m args below meth c Q C K H locs ls hl hP hS => va_get C.1 C.2.1 C.2.2.2.1 hin C.2.2.1 C.2.2.2.2.1 hP cl (by rw [g_W_get hc, hE]) hcl k hk (C.2.2.2.1 _ hw) (fun x h => by rw [hn] at h; exact h) hv hd (kk p e s m args below meth c Q C K H locs ls hl hP hS)
theorem j_getN {k : Nat} {Cn host : String} {v : Value} (hd : decode cc pc = .ok (.getfield index, 3)) (hc : cl < g_N) (hE : g_E G (V cl) (S cl) cl = .inr (ci, fs)) (hcl : g_cl[ci]? = some (Cn, T, N)) (hin : ∀ w ∈ u_ws Cn T N, w ∈ lw_use) (hk : k < N) (hn : (T k).1 = Cn) (hw : Cond.fieldLinkNest own index Cn (T k).2.1 (T k).2.2.1 host ∈ lw_use) (hv : fs[k]? = some v)
    (kk : JW G X cc own (pc + 3) lv (v :: st) V S) : JW G X cc own pc lv (.ref (g_a G cl) :: st) V S :=
  fun p e s m args below meth c Q C K H locs ls hl hP hS => va_getN C.1 C.2.1 C.2.2.2.1 hin C.2.2.1 C.2.2.2.2.1 hP cl (by rw [g_W_get hc, hE]) hcl k hk (C.2.2.2.1 _ hw) (fun x h => by rw [hn] at h; exact h) hv hd (kk p e s m args below meth c Q C K H locs ls hl hP hS)
theorem j_put {k : Nat} {Cn : String} {v : Value} {ty0 : Nat → FieldType} {V' : g_V} {S' : g_L} (hd : decode cc pc = .ok (.putfield index, 3)) (hc : cl < g_N) (hE : g_E G (V cl) (S cl) cl = .inr (ci, fs)) (hcl : g_cl[ci]? = some (Cn, T, N)) (hin : ∀ w ∈ u_ws Cn T N, w ∈ lw_use) (hty : ∀ k, k < N → parseFieldDescriptor (T k).2.2.1 = some (ty0 k)) (hnm : ∀ a, a < N → ∀ b, b < N → a ≠ b → (T a).2.1 ≠ (T b).2.1) (hk : k < N) (hn : (T k).1 = Cn) (hw : Cond.fieldLink own index Cn (T k).2.1 (T k).2.2.1 ∈ lw_use) (hfin : (T k).2.2.2 = false) (hnar : narrow (ty0 k) v = v) (hfit : fits (ty0 k) v = true) (hlen : k < fs.length)
    (hV : ∀ c', c' ≠ cl → V' c' = V c' ∧ S' c' = S c') (hE' : .inr (ci, fs.set k v) = g_E G (V' cl) (S' cl) cl)
    (kk : JW G X cc own (pc + 3) lv st V' S') : JW G X cc own pc lv (v :: .ref (g_a G cl) :: st) V S :=
  fun p e s m args below meth c Q C K H locs ls hl hP hS => va_put C.1 C.2.1 C.2.2.2.1 hin ty0 hty hnm C.2.2.1 C.2.2.2.2.1 hP (g_D C.2.2.2.2.2.1 C.2.2.2.2.2.2.1 V S) hS cl (by rw [g_W_get hc, hE]) hcl k hk (C.2.2.2.1 _ hw) (fun x h => by rw [hn] at h; exact h) hfin (hty k hk) hnar hfit hlen hd (fun H1 locs1 hP1 hD1 hS1 => kk p e s m args below meth c Q C K H1 locs1 ls hl (by
    rw [g_W_set hV hE'] at hP1
    exact hP1) hS1)
theorem j_putN {k : Nat} {Cn host : String} {v : Value} {ty0 : Nat → FieldType} {V' : g_V} {S' : g_L} (hd : decode cc pc = .ok (.putfield index, 3)) (hc : cl < g_N) (hE : g_E G (V cl) (S cl) cl = .inr (ci, fs)) (hcl : g_cl[ci]? = some (Cn, T, N)) (hin : ∀ w ∈ u_ws Cn T N, w ∈ lw_use) (hty : ∀ k, k < N → parseFieldDescriptor (T k).2.2.1 = some (ty0 k)) (hnm : ∀ a, a < N → ∀ b, b < N → a ≠ b → (T a).2.1 ≠ (T b).2.1) (hk : k < N) (hn : (T k).1 = Cn) (hw : Cond.fieldLinkNest own index Cn (T k).2.1 (T k).2.2.1 host ∈ lw_use) (hfin : (T k).2.2.2 = false) (hnar : narrow (ty0 k) v = v) (hfit : fits (ty0 k) v = true) (hlen : k < fs.length)
    (hV : ∀ c', c' ≠ cl → V' c' = V c' ∧ S' c' = S c') (hE' : .inr (ci, fs.set k v) = g_E G (V' cl) (S' cl) cl)
    (kk : JW G X cc own (pc + 3) lv st V' S') : JW G X cc own pc lv (v :: .ref (g_a G cl) :: st) V S :=
  fun p e s m args below meth c Q C K H locs ls hl hP hS => va_putN C.1 C.2.1 C.2.2.2.1 hin ty0 hty hnm C.2.2.1 C.2.2.2.2.1 hP (g_D C.2.2.2.2.2.1 C.2.2.2.2.2.2.1 V S) hS cl (by rw [g_W_get hc, hE]) hcl k hk (C.2.2.2.1 _ hw) (fun x h => by rw [hn] at h; exact h) hfin (hty k hk) hnar hfit hlen hd (fun H1 locs1 hP1 hD1 hS1 => kk p e s m args below meth c Q C K H1 locs1 ls hl (by
    rw [g_W_set hV hE'] at hP1
    exact hP1) hS1)
theorem j_getsG (hd : decode cc pc = .ok (.getstatic index, 3)) (hw : Cond.fieldLink own index R_D "GREATEST" "[I" ∈ lw_use) (kk : JW G X cc own (pc + 3) lv (.ref G.2.2.2.1 :: st) V S) : JW G X cc own pc lv st V S :=
  fun p e s m args below meth c Q C K H locs ls hl hP hS => va_gets C.1 C.2.1 C.2.2.2.2.2.2.2.1.1.1 hS C.2.2.1 (C.2.2.2.1 _ hw) (fun x h => h) hd (kk p e s m args below meth c Q C K H locs ls hl hP hS)
theorem j_getsGN {host : String} (hd : decode cc pc = .ok (.getstatic index, 3)) (hw : Cond.fieldLinkNest own index R_D "GREATEST" "[I" host ∈ lw_use) (kk : JW G X cc own (pc + 3) lv (.ref G.2.2.2.1 :: st) V S) : JW G X cc own pc lv st V S :=
  fun p e s m args below meth c Q C K H locs ls hl hP hS => va_getsN C.1 C.2.1 C.2.2.2.2.2.2.2.1.1.1 hS C.2.2.1 (C.2.2.2.1 _ hw) (fun x h => h) hd (kk p e s m args below meth c Q C K H locs ls hl hP hS)
theorem j_getsO (hd : decode cc pc = .ok (.getstatic index, 3)) (hw : Cond.fieldLink own index R_D "ORDERS" "[I" ∈ lw_use) (kk : JW G X cc own (pc + 3) lv (.ref G.2.2.2.2 :: st) V S) : JW G X cc own pc lv st V S :=
  fun p e s m args below meth c Q C K H locs ls hl hP hS => va_gets C.1 C.2.1 C.2.2.2.2.2.2.2.1.2.1 hS C.2.2.1 (C.2.2.2.1 _ hw) (fun x h => h) hd (kk p e s m args below meth c Q C K H locs ls hl hP hS)
end CTR
