/-! new int[5][6]: the outer row, then its five rows, by the machine's own loop. (The kit's printed row for it rests on a part of the library that the rounds leave out; so it is proved here.) -/
def mgO (cA : ClassId) (h i : Nat) : Cell := arrV cA 5 (fun j => va_rf (if j < i then some (h + 1 + j) else none))
def mgI (cy : ClassId) : Cell := arrV cy 6 (fun _ => .int 0)
def mgS (T : State) (cA cy : ClassId) : Nat → State
  | 0 => T.pushCell (mgO cA T.heap.size 0)
  | i + 1 => ((mgS T cA cy i).pushCell (mgI cy)).setCell T.heap.size (mgO cA T.heap.size (i + 1))
theorem mgO_next (cA : ClassId) (h i : Nat) : (mgO cA h i).setSlot i (.ref (h + 1 + i)) = mgO cA h (i + 1) := by
  unfold mgO
  rw [arrV_store]
  refine congrArg (arrV cA 5) (funext fun j => ?_)
  rcases Nat.lt_trichotomy j i with q | q | q
  · simp [updV, Nat.ne_of_lt q, q, Nat.lt_succ_of_lt q]
  · subst q
    simp [updV, va_rf]
  · simp [updV, Nat.ne_of_gt q, show ¬ j < i by omega, show ¬ j < i + 1 by omega]
theorem mgO_new (cA : ClassId) (h : Nat) : mgO cA h 0 = arrV cA 5 (fun _ => .null) := by
  refine congrArg (arrV cA 5) (funext fun j => ?_)
  simp [va_rf]
theorem mgS_size (T : State) (cA cy : ClassId) : ∀ i, (mgS T cA cy i).heap.size = T.heap.size + 1 + i
  | 0 => by simp [mgS]
  | i + 1 => by
    have h := mgS_size T cA cy i
    simp [mgS, State.setCell, h]
    omega
theorem mgS_out (T : State) (cA cy : ClassId) : ∀ i, (mgS T cA cy i).heap[T.heap.size]? = some (mgO cA T.heap.size i)
  | 0 => by simp [mgS]
  | i + 1 => by
    have h1 := mgS_size T cA cy i
    have h2 := mgS_out T cA cy i
    have h3 : T.heap.size < (mgS T cA cy i).heap.size := by omega
    exact State.heap_setCell_self (show ((mgS T cA cy i).pushCell (mgI cy)).heap[T.heap.size]? = some (mgO cA T.heap.size i) by rw [State.heap_pushCell_of_lt (h := h3)]; exact h2)
theorem mgS_old (T : State) (cA cy : ClassId) {a : Addr} (ha : a < T.heap.size) : ∀ i, (mgS T cA cy i).heap[a]? = T.heap[a]?
  | 0 => State.heap_pushCell_of_lt _ _ ha
  | i + 1 => by
    have h1 := mgS_size T cA cy i
    have h3 : a < (mgS T cA cy i).heap.size := by rw [h1]; exact Nat.lt_of_lt_of_le ha (by omega)
    show (((mgS T cA cy i).pushCell (mgI cy)).setCell T.heap.size _).heap[a]? = _
    rw [State.heap_setCell_other (Nat.ne_of_gt ha), State.heap_pushCell_of_lt (h := h3)]
    exact mgS_old T cA cy ha i
theorem mgS_row (T : State) (cA cy : ClassId) : ∀ i j, j < i → (mgS T cA cy i).heap[T.heap.size + 1 + j]? = some (mgI cy)
  | 0, j, h => absurd h (Nat.not_lt_zero j)
  | i + 1, j, h => by
    have h1 := mgS_size T cA cy i
    show (((mgS T cA cy i).pushCell (mgI cy)).setCell T.heap.size _).heap[T.heap.size + 1 + j]? = _
    rw [State.heap_setCell_other (show T.heap.size ≠ T.heap.size + 1 + j by omega)]
    by_cases q : j = i
    · subst q
      rw [← h1]
      exact State.heap_pushCell_size _ _
    · have h3 : T.heap.size + 1 + j < (mgS T cA cy i).heap.size := by omega
      rw [State.heap_pushCell_of_lt (h := h3)]
      exact mgS_row T cA cy i j (by omega)
theorem mgS_vm (T : State) (cA cy : ClassId) : ∀ i, (mgS T cA cy i).vm = T.vm
  | 0 => rfl
  | i + 1 => by simp [mgS, mgS_vm T cA cy i]
theorem mgI_size (cy : ClassId) : (mgI cy).slots.size = 6 := arrV_size _ _ _
theorem mgO_size (cA : ClassId) (h i : Nat) : (mgO cA h i).slots.size = 5 := arrV_size _ _ _
theorem mgS_used (T : State) (cA cy : ClassId) : ∀ i, (mgS T cA cy i).slotsUsed = T.slotsUsed + 5 + i * 6
  | 0 => by simp [mgS, mgO_size]
  | i + 1 => by
    have h := mgS_used T cA cy i
    simp [mgS, mgI_size, h]
    omega
theorem mgS_top (T : State) (f : JFrame) (cA cy : ClassId) : ∀ i, mgS (T.setTop f) cA cy i = (mgS T cA cy i).setTop f
  | 0 => rfl
  | i + 1 => by simp only [mgS, mgS_top T f cA cy i, State.heap_setTop, State.pushCell_setTop, State.setCell_setTop]
section MNA
variable {p : Program} {l : Launch} {e : Env} {R : Room} {s : State} {m : MethodId} {args : Array Value} {below : List Frame} {meth : Method} {c : Code} {locs : List Loc} {cells slots : Nat}
theorem mgS_stand {T : State} (X : Stand p l e R s m args below meth c T locs cells slots) (cA cy : ClassId) : ∀ i, Stand p l e R s m args below meth c (mgS T cA cy i) locs (cells + 1 + i) (slots + 5 + i * 6)
  | 0 => by
    have h := X.pushed (mgO cA T.heap.size 0)
    rw [mgO_size] at h
    simpa [mgS] using h
  | i + 1 => by
    have h1 := mgS_size T cA cy i
    have h3 : T.heap.size < (mgS T cA cy i).heap.size := by omega
    have hc : ((mgS T cA cy i).pushCell (mgI cy)).heap[T.heap.size]? = some (mgO cA T.heap.size i) := by rw [State.heap_pushCell_of_lt (h := h3)]; exact mgS_out T cA cy i
    have h := ((mgS_stand X cA cy i).pushed (mgI cy)).stored hc i (.ref (T.heap.size + 1 + i))
    rw [mgO_next, mgI_size] at h
    have h4 := h.dropFresh (fun x hx => by
      rw [List.mem_singleton] at hx
      subst hx
      exact X.heapGrown)
    have e3 : slots + 5 + (i + 1) * 6 = slots + 5 + i * 6 + 6 := by omega
    rw [e3]
    exact h4
end MNA
section MNB
variable {E : CtlPost} {e : Env} {d : Bool} {acts : List Action} {s : State}
theorem mg_new {c comp : ClassId} {k : Class} {t : FieldType} {N : Nat} {x : Value} (hk : s.vm.classes[c]? = some k) (hkind : k.kind = .array comp t) (hN : N ≤ 6) (hlim : 6 ≤ e.platform.arrayLengthLimit) (hheap : 24 ≤ e.platform.maxHeapBytes) (hb : componentBytes t = 4) (hfit : fits t x = true) (hdef : x.isDefault = true) (h1 : s.heap.size < e.platform.maxCells) (h2 : s.slotsUsed + N ≤ e.platform.maxSlots) {Q : Addr → Pre} (hq : Q s.heap.size d acts (s.pushCell (arrV c N (fun _ => x)))) : wp (Jvm.newArray c N x) Q E e d acts s := by
  have n1 : ¬ N > e.platform.arrayLengthLimit := by omega
  have n2 : ¬ N * componentBytes t > e.platform.maxHeapBytes := by rw [hb]; omega
  have hall : (Array.replicate N x).all (fun v => v.isDefault) = true := by
    rw [Array.all_replicate]
    split <;> simp [hdef]
  have hact : allocActs (Array.replicate N x) s.heap.size acts = acts := by
    unfold allocActs
    rw [if_pos hall]
  have hfits : ∀ i v, (Array.replicate N x)[i]? = some v → s.fitsSlot c .none i v = true := by
    intro i v hv
    rw [Array.getElem?_replicate] at hv
    split at hv
    · cases hv
      simp [State.fitsSlot, State.slotType?, hk, hkind, hfit]
    · cases hv
  simp only [Jvm.newArray, Jvm.arrayFits, wp_bind', Jvm.W.ask, Jvm.W.ite, n1, if_false, wp_pure', Jvm.W.theClass, hk, hkind, n2, Jvm.W.alloc, Jvm.W.stop, Option.some.injEq, exists_eq_left', Array.size_replicate, hact]
  rw [arrV_new]
  rw [if_neg (by omega)]
  exact ⟨h1, h2, hfits, hq⟩
theorem mg_row {cy comp : ClassId} {kc : Class} (hk : s.vm.classes[cy]? = some kc) (hkind : kc.kind = .array comp .int) (hlim : 6 ≤ e.platform.arrayLengthLimit) (hheap : 24 ≤ e.platform.maxHeapBytes) (h1 : s.heap.size < e.platform.maxCells) (h2 : s.slotsUsed + 6 ≤ e.platform.maxSlots) {Q : Addr → Pre} (hq : Q s.heap.size d acts (s.pushCell (mgI cy))) : wp (multianewarray.make cy [(6 : Int32)]) Q E e d acts s := by
  have h6 : ¬ (6 : Int32) < 0 := by decide
  have e6 : (6 : Int32).toNatClampNeg = 6 := by decide
  rw [multianewarray.make]
  simp only [wp_bind', Jvm.W.ite, h6, if_false, wp_pure', Jvm.W.theClass, hk, hkind, Option.some.injEq, exists_eq_left', e6]
  exact mg_new hk hkind (Nat.le_refl 6) hlim hheap rfl rfl rfl h1 h2 hq
theorem mg_make {cA cy comp : ClassId} {kA kc : Class} (hkA : s.vm.classes[cA]? = some kA) (hkindA : kA.kind = .array cy (.array .int)) (hk : s.vm.classes[cy]? = some kc) (hkind : kc.kind = .array comp .int) (hlim : 6 ≤ e.platform.arrayLengthLimit) (hheap : 24 ≤ e.platform.maxHeapBytes) (h1 : s.heap.size + 6 ≤ e.platform.maxCells) (h2 : s.slotsUsed + 35 ≤ e.platform.maxSlots) {Q : Addr → Pre} (hq : ∀ d' acts', Q s.heap.size d' acts' (mgS s cA cy 5)) : wp (multianewarray.make cA [(5 : Int32), (6 : Int32)]) Q E e d acts s := by
  have h5 : ¬ (5 : Int32) < 0 := by decide
  have e5 : (5 : Int32).toNatClampNeg = 5 := by decide
  have hz : ((5 : Int32) == 0) = false := by decide
  rw [multianewarray.make]
  simp only [wp_bind', Jvm.W.ite, h5, if_false, wp_pure', Jvm.W.theClass, hkA, hkindA, Option.some.injEq, exists_eq_left', e5, hz]
  refine mg_new hkA hkindA (by omega) hlim hheap rfl rfl rfl (by omega) (by omega) ?_
  rw [← mgO_new cA s.heap.size]
  simp only [Bool.false_eq_true, if_false]
  rw [wp_bind', Std.Legacy.Range.forIn_eq_forIn_range']
  show wp (forIn (List.range' 0 5 1) PUnit.unit _) _ E e d acts _
  refine wp_forIn_inv (fun rest s' => ∃ i, i ≤ 5 ∧ rest = List.range' i (5 - i) ∧ s' = mgS s cA cy i) _ _ ⟨0, Nat.zero_le _, rfl, rfl⟩ ?_ ?_
  · rintro x rest s' d' acts' Q' ⟨i, hi, hl, rfl⟩ hnext
    have hlt : i < 5 := by
      rcases Nat.lt_or_ge i 5 with h | h
      · exact h
      · rw [show 5 - i = 0 by omega] at hl
        cases hl
    rw [show 5 - i = (5 - (i + 1)) + 1 by omega, List.range'_succ] at hl
    obtain ⟨rfl, hrest⟩ := List.cons.inj hl
    have f1 := mgS_size s cA cy x
    have f2 := mgS_out s cA cy x
    have f3 := mgS_vm s cA cy x
    have f4 := mgS_used s cA cy x
    simp only [wp_bind']
    refine mg_row (kc := kc) (comp := comp) (by rw [f3]; exact hk) hkind hlim hheap (by rw [f1]; omega) (by rw [f4]; omega) ?_
    have hlt0 : s.heap.size < (mgS s cA cy x).heap.size := by rw [f1]; omega
    simp only [wp_bind', Jvm.W.writeLoc, wp_pure']
    refine ⟨mgO cA s.heap.size x, by rw [State.heap_pushCell_of_lt (h := hlt0)]; exact f2, (fun q => by cases q), by rw [mgO_size]; exact hlt, ?_, hnext _ _ _ ⟨x + 1, hlt, hrest, ?_⟩⟩
    · show ((mgS s cA cy x).pushCell (mgI cy)).fitsSlot cA .none x _ = true
      simp [State.fitsSlot, State.slotType?, f3, hkA, hkindA, fits]
    · rw [f1, mgO_next]
      rfl
  · rintro s' d' acts' ⟨i, hi, hl, rfl⟩
    have hiN : i = 5 := by
      rcases Nat.lt_or_ge i 5 with h | h
      · rw [show 5 - i = (5 - (i + 1)) + 1 by omega, List.range'_succ] at hl
        cases hl
      · omega
    subst hiN
    simp only [wp_pure']
    exact hq _ _
end MNB
section MNC
variable {p : Program} {l : Launch} {e : Env} {R : Room} {s : State} {m : MethodId} {args : Array Value} {below : List Frame} {meth : Method} {c : Code} {H : Heap} {locs : List Loc} {cells slots : Nat} {Q : State → Prop}
variable {cc : ByteArray} {pc : Nat} {ls : Array Slot} {rest : List Value}
/-- the step -/
theorem mg_step (hexec : p.tables.exec = Jvm.exec) (hb : c.code = cc) {own : String} {index : Nat} (hown : s.vm.findClass own = some m.cls) (hclink : (Cond.classLink own index "[[I").before args s = true) {cA cy comp : ClassId} {kA kc : Class} (hnA : s.vm.findClass "[[I" = some cA) (hkA : s.vm.classes[cA]? = some kA) (hkindA : kA.kind = .array cy (.array .int)) (hkc : s.vm.classes[cy]? = some kc) (hkindc : kc.kind = .array comp .int)
    (hcells : cells + 6 ≤ R.cells) (hslots : slots + 35 ≤ R.slots) (hdg : decode cc pc = .ok (.multianewarray index 2, 4))
    (kk : ∀ H1 : Heap, H1.size = H.size + 6 → H1[H.size]? = some (mgO cA H.size 5) → (∀ j, j < 5 → H1[H.size + 1 + j]? = some (mgI cy)) → (∀ a, a < H.size → H1[a]? = H[a]?) → W p l e R s m args below meth c H1 locs (cells + 6) (slots + 35) Q (F0 m (pc + 4) ls (.ref H.size :: rest))) :
    W p l e R s m args below meth c H locs cells slots Q (F0 m pc ls (.int 6 :: .int 5 :: rest)) := by
  intro T hT X
  subst hT; subst hb
  have hpl : e.platform.magicAccessors = ({} : Platform).magicAccessors := by rw [X.admits.platform]
  obtain ⟨c0, hfc0, hcl⟩ := Cond.classLink_spec hown hclink e.platform hpl
  cases hnA.symm.trans hfc0
  obtain ⟨hg₁, hwarm₁, hready₁⟩ := State.classEntry (e := e) X.warmed hcl
  generalize T.vm.noted m.cls index (.cls cA) = vm₁ at hg₁ hwarm₁ hready₁
  have hal : s.vm.Alike vm₁ := hwarm₁.alike
  obtain ⟨kA₁, hkA₁, heA⟩ := hal.2.2 _ _ hkA
  obtain ⟨kc₁, hkc₁, hec⟩ := hal.2.2 _ _ hkc
  have hkindA₁ : kA₁.kind = .array cy (.array .int) := by rw [heA]; exact hkindA
  have hkindc₁ : kc₁.kind = .array comp .int := by rw [hec]; exact hkindc
  have X₁ := X.noted hwarm₁
  obtain ⟨hr1, hr2⟩ := X.roomAbove hcells hslots
  have hl1 : 6 ≤ e.platform.arrayLengthLimit := by rw [Launch.admits_arrayLengthLimit X.admits]; omega
  have hh1 : 24 ≤ e.platform.maxHeapBytes := by rw [Launch.admits_maxHeapBytes X.admits]; omega
  have XF := mgS_stand X₁ cA cy 5
  obtain ⟨t, a1, b1⟩ := kk (mgS (T.setVm vm₁) cA cy 5).heap (mgS_size (T.setVm vm₁) cA cy 5) (mgS_out (T.setVm vm₁) cA cy 5) (fun j hj => mgS_row (T.setVm vm₁) cA cy 5 j hj) (fun a ha => mgS_old (T.setVm vm₁) cA cy ha 5) (mgS (T.setVm vm₁) cA cy 5) rfl XF
  refine ⟨t, ?_, b1⟩
  generalize hgg : F0 m pc ls (.int 6 :: .int 5 :: rest) = g
  have hgm : g.method = m := by rw [← hgg]
  have hgp : g.pc = pc := by rw [← hgg]
  have hgs : g.stack = .int 6 :: .int 5 :: rest := by rw [← hgg]
  have hgn : F0 m (pc + 4) ls (.ref T.heap.size :: rest) = { g with pc := g.pc + 4, stack := .ref T.heap.size :: rest } := by rw [← hgg]
  rw [hgn] at a1
  subst hgm; subst hgp
  jvm_step X.here [hexec, hdg]
  simp only [multianewarray.sem, wp_bind', Jvm.W.resolveClassAt_links (State.method?_setTop g X.here.top) hg₁]
  rw [Jvm.W.popN, if_neg (by decide)]
  refine ⟨g, State.topJava?_setTop' (s := T.setVm vm₁) g X.here.top, [.int 5, .int 6], rest, rfl, hgs, ?_⟩
  simp only [List.mapM_cons, List.mapM_nil, wp_bind', wp_pure']
  refine mg_make (kA := kA₁) (kc := kc₁) (cy := cy) (comp := comp) hkA₁ hkindA₁ hkc₁ hkindc₁ hl1 hh1 (by show T.heap.size + 6 ≤ _; omega) (by show T.slotsUsed + 35 ≤ _; omega) (fun d' acts' => ?_)
  have eS : ((T.setTop g).setVm vm₁).setTop { g with stack := rest } = (T.setVm vm₁).setTop { g with stack := rest } := by
    show ((T.setVm vm₁).setTop g).setTop _ = _
    rw [State.setTop_setTop]
  rw [eS, mgS_top]
  simp only [wp_bind', Jvm.W.mark, Jvm.W.pushRef, State.topJava?_setTop' _ XF.here.top, Option.some.injEq, exists_eq_left', State.setTop_setTop, State.heap_setTop]
  intro acts
  simp [jvm, XF.here.top]
  exact a1
end MNC
