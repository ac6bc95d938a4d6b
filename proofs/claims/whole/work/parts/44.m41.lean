/-! An array of int arrays: multianewarray of two dimensions. -/
def mm_in (cI : ClassId) (M : Nat) : Cell := arrV cI M (fun _ => .int 0)
def mm_out (cO : ClassId) (N h i : Nat) : Cell := arrV cO N (fun k => if k < i then .ref (h + 1 + k) else .null)
/-- i rows are made -/
def mm_S (s : State) (cO cI : ClassId) (N M : Nat) : Nat → State
  | 0 => s.pushCell (mm_out cO N s.heap.size 0)
  | i + 1 => ((mm_S s cO cI N M i).pushCell (mm_in cI M)).setCell s.heap.size (mm_out cO N s.heap.size (i + 1))
theorem mm_set (cO : ClassId) (N h i : Nat) : (mm_out cO N h i).setSlot i (.ref (h + 1 + i)) = mm_out cO N h (i + 1) := by
  unfold mm_out
  rw [arrV_store]
  congr 1
  funext k
  unfold updV
  by_cases e : k = i
  · subst e
    simp
  · by_cases e2 : k < i
    · simp [e, e2, show k < i + 1 by omega]
    · simp [e, e2, show ¬ k < i + 1 by omega]
theorem mm_insz (cI : ClassId) (M : Nat) : (mm_in cI M).slots.size = M := arrV_size _ _ _
theorem mm_outsz (cO : ClassId) (N h i : Nat) : (mm_out cO N h i).slots.size = N := arrV_size _ _ _
theorem mm_facts (s : State) (cO cI : ClassId) (N M : Nat) : ∀ i, (mm_S s cO cI N M i).heap.size = s.heap.size + 1 + i ∧ (mm_S s cO cI N M i).heap[s.heap.size]? = some (mm_out cO N s.heap.size i) ∧ (mm_S s cO cI N M i).vm = s.vm ∧ (mm_S s cO cI N M i).slotsUsed = s.slotsUsed + N + i * M ∧
    (∀ a, a < s.heap.size → (mm_S s cO cI N M i).heap[a]? = s.heap[a]?) ∧ ∀ j, j < i → (mm_S s cO cI N M i).heap[s.heap.size + 1 + j]? = some (mm_in cI M)
  | 0 => by
    refine ⟨by simp [mm_S], by simp [mm_S], rfl, by simp [mm_S, mm_outsz], fun a ha => ?_, fun j hj => absurd hj (Nat.not_lt_zero _)⟩
    exact State.heap_pushCell_of_lt _ _ ha
  | i + 1 => by
    obtain ⟨a, b, d, u, o, r⟩ := mm_facts s cO cI N M i
    have hlt : s.heap.size < (mm_S s cO cI N M i).heap.size := by omega
    have hb : ((mm_S s cO cI N M i).pushCell (mm_in cI M)).heap[s.heap.size]? = some (mm_out cO N s.heap.size i) := by
      rw [State.heap_pushCell_of_lt (h := hlt)]
      exact b
    refine ⟨by simp [mm_S, State.setCell, a]; omega, State.heap_setCell_self hb, by simp [mm_S, d], by simp [mm_S, u, mm_insz, Nat.succ_mul]; omega, fun x hx => ?_, fun j hj => ?_⟩
    · show (((mm_S s cO cI N M i).pushCell (mm_in cI M)).setCell s.heap.size _).heap[x]? = _
      have hx2 : x < (mm_S s cO cI N M i).heap.size := by omega
      rw [State.heap_setCell_other (Nat.ne_of_gt hx), State.heap_pushCell_of_lt (h := hx2)]
      exact o x hx
    · show (((mm_S s cO cI N M i).pushCell (mm_in cI M)).setCell s.heap.size _).heap[s.heap.size + 1 + j]? = _
      rw [State.heap_setCell_other (show s.heap.size ≠ s.heap.size + 1 + j by omega)]
      by_cases e : j = i
      · subst e
        rw [← a]
        exact State.heap_pushCell_size _ _
      · have hj2 : s.heap.size + 1 + j < (mm_S s cO cI N M i).heap.size := by omega
        rw [State.heap_pushCell_of_lt (h := hj2)]
        exact r j (by omega)
theorem mm_setTop (s : State) (f : JFrame) (cO cI : ClassId) (N M : Nat) : ∀ i, mm_S (s.setTop f) cO cI N M i = (mm_S s cO cI N M i).setTop f
  | 0 => rfl
  | i + 1 => by simp only [mm_S, mm_setTop s f cO cI N M i, State.heap_setTop, State.pushCell_setTop, State.setCell_setTop]
theorem mm_ref {t : FieldType} (h : t.isReference = true) (v : Value) (hv : v = .null ∨ ∃ a, v = .ref a) : fits t v = true := by
  rcases hv with rfl | ⟨a, rfl⟩ <;> cases t <;> simp [FieldType.isReference] at h <;> rfl
section MM
variable {E : CtlPost} {e : Env} {d : Bool} {acts : List Action} {s : State}
theorem mm_make1 {cI cc : ClassId} {kI : Class} {m : Int32} (hk : s.vm.classes[cI]? = some kI) (hkind : kI.kind = .array cc .int) (hm : ¬ m < 0)
    (hl : ¬ m.toNatClampNeg > e.platform.arrayLengthLimit) (hh : ¬ m.toNatClampNeg * componentBytes .int > e.platform.maxHeapBytes)
    (h1 : s.heap.size < e.platform.maxCells) (h2 : s.slotsUsed + m.toNatClampNeg ≤ e.platform.maxSlots)
    {Q : Addr → Pre} (hq : ∀ acts', Q s.heap.size d acts' (s.pushCell (mm_in cI m.toNatClampNeg))) : wp (multianewarray.make cI [m]) Q E e d acts s := by
  rw [multianewarray.make]
  simp only [wp_bind', W.ite, hm, if_false, wp_pure', W.theClass, hk, hkind, Option.some.injEq, exists_eq_left']
  refine W.newArray_of hk hkind hl hh h1 h2 rfl (fun acts' => ?_)
  have := hq acts'
  rw [show mm_in cI m.toNatClampNeg = ({ cls := cI, slots := Array.replicate m.toNatClampNeg (.int 0), vm := .none } : Cell) from (arrV_new _ _ _).symm] at this
  exact this
theorem mm_make2 {cO cI cc : ClassId} {kO kI : Class} {n m : Int32} (hkO : s.vm.classes[cO]? = some kO) (hkindO : kO.kind = .array cI (.array .int))
    (hkI : s.vm.classes[cI]? = some kI) (hkindI : kI.kind = .array cc .int) (hn : ¬ n < 0) (hm : ¬ m < 0)
    (hl1 : ¬ n.toNatClampNeg > e.platform.arrayLengthLimit) (hh1 : ¬ n.toNatClampNeg * componentBytes (.array .int) > e.platform.maxHeapBytes)
    (hl2 : ¬ m.toNatClampNeg > e.platform.arrayLengthLimit) (hh2 : ¬ m.toNatClampNeg * componentBytes .int > e.platform.maxHeapBytes)
    (hc : s.heap.size + 1 + n.toNatClampNeg ≤ e.platform.maxCells) (hs : s.slotsUsed + n.toNatClampNeg + n.toNatClampNeg * m.toNatClampNeg ≤ e.platform.maxSlots)
    {Q : Addr → Pre} (hq : ∀ d' acts', Q s.heap.size d' acts' (mm_S s cO cI n.toNatClampNeg m.toNatClampNeg n.toNatClampNeg)) : wp (multianewarray.make cO [n, m]) Q E e d acts s := by
  have hfind : ([m].find? (· < 0)) = none := by simp [hm]
  rw [multianewarray.make]
  simp only [wp_bind', W.ite, hn, if_false, wp_pure', W.theClass, hkO, hkindO, Option.some.injEq, exists_eq_left']
  refine W.newArray_of hkO hkindO hl1 hh1 (by omega) (by have := Nat.zero_le (n.toNatClampNeg * m.toNatClampNeg); omega) rfl (fun acts' => ?_)
  simp only [hfind]
  rw [ite_self, wp_bind', Std.Legacy.Range.forIn_eq_forIn_range']
  have hsz : ([:n.toNatClampNeg] : Std.Legacy.Range).size = n.toNatClampNeg := by simp [Std.Legacy.Range.size]
  rw [hsz]
  show wp (forIn (List.range' 0 n.toNatClampNeg 1) PUnit.unit _) _ E e d acts' _
  have hstart : s.pushCell ({ cls := cO, slots := Array.replicate n.toNatClampNeg .null } : Cell) = mm_S s cO cI n.toNatClampNeg m.toNatClampNeg 0 := by
    show _ = s.pushCell (mm_out cO n.toNatClampNeg s.heap.size 0)
    rw [show mm_out cO n.toNatClampNeg s.heap.size 0 = ({ cls := cO, slots := Array.replicate n.toNatClampNeg .null, vm := .none } : Cell) from by
      rw [arrV_new]
      unfold mm_out
      simp]
  refine wp_forIn_inv (fun rest s' => ∃ i, i ≤ n.toNatClampNeg ∧ rest = List.range' i (n.toNatClampNeg - i) ∧ s' = mm_S s cO cI n.toNatClampNeg m.toNatClampNeg i) _ _ ⟨0, Nat.zero_le _, rfl, hstart⟩ ?_ ?_
  · rintro x rest s' d' acts' Q' ⟨i, hi, hl, rfl⟩ hnext
    have hlt : i < n.toNatClampNeg := by
      rcases Nat.lt_or_ge i n.toNatClampNeg with h | h
      · exact h
      · rw [show n.toNatClampNeg - i = 0 from by omega] at hl
        simp at hl
    rw [show n.toNatClampNeg - i = (n.toNatClampNeg - (i + 1)) + 1 from by omega, List.range'_succ] at hl
    obtain ⟨rfl, hrest⟩ : x = i ∧ rest = List.range' (i + 1) (n.toNatClampNeg - (i + 1)) := ⟨(List.cons.inj hl).1, (List.cons.inj hl).2⟩
    obtain ⟨f1, f2, f3, f4, -, -⟩ := mm_facts s cO cI n.toNatClampNeg m.toNatClampNeg x
    have hmul : x * m.toNatClampNeg + m.toNatClampNeg ≤ n.toNatClampNeg * m.toNatClampNeg := by
      have := Nat.mul_le_mul_right m.toNatClampNeg (show x + 1 ≤ n.toNatClampNeg from hlt)
      rw [Nat.succ_mul] at this
      exact this
    simp only [wp_bind']
    refine mm_make1 (by rw [f3]; exact hkI) hkindI hm hl2 hh2 (by rw [f1]; omega) (by rw [f4]; omega) (fun acts2 => ?_)
    have hlt0 : s.heap.size < (mm_S s cO cI n.toNatClampNeg m.toNatClampNeg x).heap.size := by rw [f1]; omega
    simp only [wp_bind', W.writeLoc, wp_pure']
    refine ⟨mm_out cO n.toNatClampNeg s.heap.size x, by rw [State.heap_pushCell_of_lt (h := hlt0)]; exact f2, by simp [mm_out, arrV], by rw [mm_outsz]; exact hlt, ?_, hnext _ _ _ ⟨x + 1, hlt, hrest, ?_⟩⟩
    · simp [State.fitsSlot, State.slotType?, f3, mm_out, arrV, hkO, hkindO, mm_ref (t := .array .int) rfl _ (Or.inr ⟨_, rfl⟩)]
    · rw [f1, mm_set]
      rfl
  · rintro s' d' acts' ⟨i, hi, hl, rfl⟩
    have hiN : i = n.toNatClampNeg := by
      rcases Nat.lt_or_ge i n.toNatClampNeg with h | h
      · rw [show n.toNatClampNeg - i = (n.toNatClampNeg - (i + 1)) + 1 from by omega, List.range'_succ] at hl
        cases hl
      · omega
    subst hiN
    simp only [wp_pure']
    exact hq _ _
end MM
section MMS
variable {p : Program} {l : Launch} {e : Env} {R : Room} {s : State} {m : MethodId} {args : Array Value} {below : List Frame} {meth : Method} {c : Code} {T : State} {H : Heap} {locs : List Loc} {cells slots : Nat} {Q : State → Prop}
theorem mm_stand (X : Stand p l e R s m args below meth c T locs cells slots) (cO cI : ClassId) (N M : Nat) : ∀ i, Stand p l e R s m args below meth c (mm_S T cO cI N M i) locs (cells + 1 + i) (slots + N + i * M)
  | 0 => by
    have h := X.pushed (mm_out cO N T.heap.size 0)
    rw [mm_outsz] at h
    simpa [mm_S] using h
  | i + 1 => by
    have Xi := mm_stand X cO cI N M i
    obtain ⟨f1, f2, f3, f4, -, -⟩ := mm_facts T cO cI N M i
    have hlt0 : T.heap.size < (mm_S T cO cI N M i).heap.size := by omega
    have hcell : ((mm_S T cO cI N M i).pushCell (mm_in cI M)).heap[T.heap.size]? = some (mm_out cO N T.heap.size i) := by
      rw [State.heap_pushCell_of_lt (h := hlt0)]
      exact f2
    have h := (Xi.pushed (mm_in cI M)).stored hcell i (.ref (T.heap.size + 1 + i))
    rw [mm_set, mm_insz] at h
    have h2 := Stand.forget h (fun q hq => by
      rcases List.mem_singleton.mp hq with rfl
      exact X.heapGrown)
    rw [show slots + N + (i + 1) * M = slots + N + i * M + M by rw [Nat.succ_mul]; omega]
    exact h2
/-- what the tables say of the class of arrays of int arrays -/
def mm_K (cO cI : ClassId) (U : State) : Prop := ∃ (kO kI : Class) (cc : ClassId), U.vm.findClass "[[I" = some cO ∧ U.vm.classes[cO]? = some kO ∧ kO.kind = .array cI (.array .int) ∧ U.vm.classes[cI]? = some kI ∧ kI.kind = .array cc .int
theorem mm_K.moved {cO cI : ClassId} {u U : State} (hvm : u.vm.Alike U.vm) (h : mm_K cO cI u) : mm_K cO cI U := by
  obtain ⟨kO, kI, cc, h0, h1, h2, h3, h4⟩ := h
  obtain ⟨kO', g1, e1⟩ := hvm.2.2 _ _ h1
  obtain ⟨kI', g2, e2⟩ := hvm.2.2 _ _ h3
  exact ⟨kO', kI', cc, by rw [hvm.findClass]; exact h0, g1, by rw [e1]; exact h2, g2, by rw [e2]; exact h4⟩
theorem mm_K.of {args : Array Value} {U : State} (h1 : (Cond.arrayOver (.array .int)).before args U = true) (h2 : (Cond.arrayClass .int).before args U = true) : ∃ cO cI, mm_K cO cI U ∧ U.vm.findClass "[I" = some cI := by
  obtain ⟨comp, cO, kO, a1, -, a3, a4, a5⟩ := arrayOverA_spec h1
  obtain ⟨cI, kI, cc, b1, b2, b3⟩ := Cond.arrayClass_spec h2
  have a1' : U.vm.findClass "[I" = some comp := a1
  have b1' : U.vm.findClass "[I" = some cI := b1
  have e1 : comp = cI := Option.some.inj (a1'.symm.trans b1')
  subst e1
  exact ⟨cO, comp, ⟨kO, kI, cc, a5, a3, a4, b2, b3⟩, b1'⟩
/-- the instruction: n rows of k ints at fresh cells behind each other -/
theorem mm_W {cc : ByteArray} (hexec : p.tables.exec = Jvm.exec) (hb : c.code = cc) {own : String} {index : Nat} {cO cI : ClassId} (hK : mm_K cO cI s)
    (hown : s.vm.findClass own = some m.cls) (hclink : (Cond.classLink own index "[[I").before args s = true)
    {g : JFrame} (hg : g.method = m) (hdg : decode cc g.pc = .ok (.multianewarray index 2, 4)) {n k : Int32} {rest : List Value} (hstack : g.stack = .int k :: .int n :: rest)
    (hn : ¬ n < 0) (hk : ¬ k < 0) (hb1 : n.toNatClampNeg * 4 ≤ 536870912) (hb2 : k.toNatClampNeg * 4 ≤ 536870912)
    (hcells : cells + (1 + n.toNatClampNeg) ≤ R.cells) (hslots : slots + (n.toNatClampNeg + n.toNatClampNeg * k.toNatClampNeg) ≤ R.slots)
    (kk : ∀ H' : Heap, H'.size = H.size + 1 + n.toNatClampNeg → H'[H.size]? = some (mm_out cO n.toNatClampNeg H.size n.toNatClampNeg) → (∀ a, a < H.size → H'[a]? = H[a]?) → (∀ j, j < n.toNatClampNeg → H'[H.size + 1 + j]? = some (mm_in cI k.toNatClampNeg)) →
      W p l e R s m args below meth c H' locs (cells + 1 + n.toNatClampNeg) (slots + n.toNatClampNeg + n.toNatClampNeg * k.toNatClampNeg) Q { g with pc := g.pc + 4, stack := .ref H.size :: rest }) : W p l e R s m args below meth c H locs cells slots Q g := by
  intro T hT X
  subst hT; subst hb; subst hg
  have hpl : e.platform.magicAccessors = ({} : Platform).magicAccessors := by rw [X.admits.platform]
  obtain ⟨kO, kI, cc', hname, hkO, hkindO, hkI, hkindI⟩ := hK
  obtain ⟨c0, hfc0, hcl⟩ := Cond.classLink_spec hown hclink e.platform hpl
  cases hname.symm.trans hfc0
  obtain ⟨hg₁, hwarm₁, hready₁⟩ := State.classEntry (e := e) X.warmed hcl
  generalize T.vm.noted g.method.cls index (.cls cO) = vm₁ at hg₁ hwarm₁ hready₁
  have hal : s.vm.Alike vm₁ := hwarm₁.alike
  obtain ⟨kO₁, hkO₁, heO⟩ := hal.2.2 _ _ hkO
  obtain ⟨kI₁, hkI₁, heI⟩ := hal.2.2 _ _ hkI
  have hkindO₁ : kO₁.kind = .array cI (.array .int) := by rw [heO]; exact hkindO
  have hkindI₁ : kI₁.kind = .array cc' .int := by rw [heI]; exact hkindI
  have X₁ := X.noted hwarm₁
  obtain ⟨hr1, hr2⟩ := X.roomAbove hcells hslots
  have hl1 : ¬ n.toNatClampNeg > e.platform.arrayLengthLimit := by rw [Launch.admits_arrayLengthLimit X.admits]; omega
  have hh1 : ¬ n.toNatClampNeg * componentBytes (.array .int) > e.platform.maxHeapBytes := by
    rw [Launch.admits_maxHeapBytes X.admits]
    show ¬ n.toNatClampNeg * 4 > 536870912
    omega
  have hl2 : ¬ k.toNatClampNeg > e.platform.arrayLengthLimit := by rw [Launch.admits_arrayLengthLimit X.admits]; omega
  have hh2 : ¬ k.toNatClampNeg * componentBytes .int > e.platform.maxHeapBytes := by
    rw [Launch.admits_maxHeapBytes X.admits]
    show ¬ k.toNatClampNeg * 4 > 536870912
    omega
  obtain ⟨f1, f2, f3, f4, f5, f6⟩ := mm_facts (T.setVm vm₁) cO cI n.toNatClampNeg k.toNatClampNeg n.toNatClampNeg
  have XF := mm_stand X₁ cO cI n.toNatClampNeg k.toNatClampNeg n.toNatClampNeg
  obtain ⟨t', a1, b1⟩ := kk _ f1 f2 f5 f6 _ rfl XF
  refine ⟨t', ?_, b1⟩
  jvm_step X.here [hexec, hdg]
  simp only [multianewarray.sem, wp_bind', W.resolveClassAt_links (State.method?_setTop g X.here.top) hg₁]
  rw [W.popN, if_neg (by decide)]
  refine ⟨g, State.topJava?_setTop' (s := T.setVm vm₁) g X.here.top, [.int n, .int k], rest, rfl, hstack, ?_⟩
  simp only [List.mapM_cons, List.mapM_nil, wp_bind', wp_pure']
  refine mm_make2 (kO := kO₁) (kI := kI₁) (cc := cc') hkO₁ hkindO₁ hkI₁ hkindI₁ hn hk hl1 hh1 hl2 hh2 (by show T.heap.size + 1 + _ ≤ _; omega) (by show T.slotsUsed + _ + _ ≤ _; omega) (fun d' acts' => ?_)
  have eS : ((T.setTop g).setVm vm₁).setTop { g with stack := rest } = (T.setVm vm₁).setTop { g with stack := rest } := by
    show ((T.setVm vm₁).setTop g).setTop _ = _
    rw [State.setTop_setTop]
  rw [eS, mm_setTop]
  simp only [wp_bind', W.mark, W.pushRef, State.topJava?_setTop' _ XF.here.top, Option.some.injEq, exists_eq_left', State.setTop_setTop, State.heap_setTop]
  intro acts
  simp [jvm, XF.here.top]
  exact a1
end MMS
