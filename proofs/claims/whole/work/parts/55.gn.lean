/-! Constructors: cells are made, one behind another; the list of the cells made so far is written out, the addresses are names. -/
abbrev Gd : Type := va_G × (Nat → ClassId)
def tysD (Δ : Gd) : List (ClassId × FieldType) := [(Δ.2 0, .int), (Δ.2 1, .object "OrdersInTurn$Guest"), (Δ.2 2, .array .int)]
def rmN (n c k : Nat) : Room := { frames := n, cells := c, slots := k, locals := 128 * n }
/-- what isn't among TB: constructors of nest mates, arrays over classes -/
def Nst (Δ : Gd) (U : State) : Prop :=
  (va_Nw (.methodLinkNest RX8 9 yX5_init RX8) U ∧ va_Nw (.methodLinkNest RX8 18 yX4_init RX8) U ∧ va_Nw (.methodLinkNest RX8 41 yX3_init RX8) U ∧ va_Nw (.methodLinkNest RX2 31 yX3_init RX8) U ∧ va_Nw (.methodLinkNest RX6 17 yX1_init RX8) U) ∧ va_AO "OrdersInTurn$Guest" U ∧ ∃ kA : Class, U.vm.classes[Δ.2 2]? = some kA ∧ kA.kind = .array (Δ.2 0) (.array .int)
theorem Nst.warm {Δ : Gd} {s U : State} (hW : s.WarmedH U.vm) (h : Nst Δ s) : Nst Δ U := by
  obtain ⟨⟨h1, h2, h3, h4, h5⟩, h6, kA, h7, h8⟩ := h
  obtain ⟨k', hk', he⟩ := hW.alike.2.2 _ _ h7
  exact ⟨⟨va_Nw.warmM hW h1, va_Nw.warmM hW h2, va_Nw.warmM hW h3, va_Nw.warmM hW h4, va_Nw.warmM hW h5⟩, va_AO.moved hW.alike h6, k', hk', by rw [he]; exact h8⟩
theorem Nst.same {Δ : Gd} {u U : State} (e : u.vm = U.vm) (h : Nst Δ u) : Nst Δ U := by
  obtain ⟨⟨h1, h2, h3, h4, h5⟩, h6, kA, h7, h8⟩ := h
  exact ⟨⟨va_Nw.same rfl e h1, va_Nw.same rfl e h2, va_Nw.same rfl e h3, va_Nw.same rfl e h4, va_Nw.same rfl e h5⟩, va_AO.moved (by rw [e]; exact Vm.Alike.refl _) h6, kA, by rw [← e]; exact h7, h8⟩
def Cn (Δ : Gd) (M : Md) (p : Program) (s : State) (m : MethodId) (args : Array Value) (meth : Method) (c : Code) : Prop :=
  p.tables.exec = Jvm.exec ∧ c.code = M.2.1 ∧ meth.sig.returnType = none ∧ c.maxLocals = M.2.2.1 ∧ s.vm.findClass M.1.cls = some m.cls ∧ (∀ w ∈ TB, w.before args s = true) ∧ meth.locks = false ∧ va_K Δ.1 vwCl (tysD Δ) s ∧ Nst Δ s ∧ meth.name = "<init>"
def Wn (Δ : Gd) (q : Nat × va_E) (sz : Nat) (U : State) : Prop := U.heap.size = sz ∧ va_P Δ.1 vwCl [q] U.heap ∧ va_K Δ.1 vwCl (tysD Δ) U ∧ Nst Δ U
def Qn (Δ : Gd) (q : Nat × va_E) (Qw : va_W → Prop) (sz : Nat) : Array Value → State → Outcome → State → Prop := va_Qv Qw (fun w t => va_P Δ.1 vwCl w t.heap ∧ va_D (va_A [q] sz) w) (va_A [q] sz)
/-- from here the constructor comes to its end, with cells that Qw says -/
def Gn (Δ : Gd) (n mc ms : Nat) (M : Md) (q : Nat × va_E) (Qw : va_W → Prop) (pc : Nat) (L : List (Option Value)) (st : List Value) (ws : va_W) (k1 k2 : Nat) : Prop :=
  ∀ (p : Program) (l : Launch) (e : Env) (s : State) (m : MethodId) (args : Array Value) (below : List Frame) (meth : Method) (c : Code) (H : Heap) (locs : List Loc) (ls : Array Slot),
    Cn Δ M p s m args meth c → va_P Δ.1 vwCl ws H → va_D (va_A [q] s.heap.size) ws → va_S (va_A [q] s.heap.size) s.heap H locs → LH ls M.2.2.1 L →
    W p l e (rmN n mc ms) s m args below meth c H locs k1 k2 (MQ below (Qn Δ q Qw s.heap.size) args s mc ms (va_A [q] s.heap.size)) (F0 m pc ls st)
/-- a constructor's contract: of the new object q it makes the cells that Qw says -/
def Mk (Δ : Gd) (n mc ms : Nat) (M : Md) (av : List Value) (q : Nat × va_E) (Qw : va_W → Prop) : Prop :=
  ∀ (l : Launch) (sz : Nat), Met l M.1 (Cond.code M.1 M.2.1 M.2.2.1 none :: TB) (rmN n mc ms) (va_Pc av (Wn Δ q sz)) (Qn Δ q Qw sz) mc ms (va_A [q] sz)
/-- a final field, written by its class's constructor -/
def FF (own : String) (idx ci k : Nat) (t : FieldType) : Prop := ∃ (C : String) (T : u_T) (N : Nat) (ty : Nat → FieldType), CF ci C T N ty ∧ k < N ∧ Cond.fieldLink own idx (T k).1 (T k).2.1 (T k).2.2.1 ∈ TB ∧ (T k).2.2.2 = true ∧ (T k).1 = own ∧ ty k = t
/-- a constructor that may be called -/
def CI (M' : Md) (np : Nat) : Prop := (Cond.instanceMethod M'.1 ∈ TB ∧ Cond.initialized M'.1.cls ∈ TB ∧ Cond.code M'.1 M'.2.1 M'.2.2.1 none ∈ TB) ∧ M'.1.name = "<init>" ∧ (M'.1.cls ≠ "java/lang/invoke/MethodHandle" ∧ M'.1.cls ≠ "java/lang/invoke/VarHandle" ∧ (parseMethodDescriptor M'.1.desc).map (fun d => d.parameters.length) = some np) ∧ M'.2.2.1 ≤ 100
theorem rmN_le {n n' a b c d k : Nat} (h : n' + 1 ≤ n) (hk : k ≤ 100) : (rmN n' a b).frames + 1 ≤ (rmN n c d).frames ∧ 8 + (k + 11) + (rmN n' a b).locals ≤ (rmN n c d).locals := by
  simp only [rmN]
  omega
theorem one_D {q : Nat × va_E} {sz : Nat} : va_D (va_A [q] sz) [q] := by
  refine ⟨fun i j x y hi hj _ => ?_, fun k x hx => va_A.in hx⟩
  have h1 : i < 1 := (List.getElem?_eq_some_iff.mp hi).1
  have h2 : j < 1 := (List.getElem?_eq_some_iff.mp hj).1
  omega
section GN
variable {Δ : Gd} {n mc ms : Nat} {M : Md} {q : Nat × va_E} {Qw : va_W → Prop} {pc : Nat} {L : List (Option Value)} {st : List Value} {ws : va_W} {k1 k2 : Nat}
theorem gn_ws {ws' : va_W} (h : ws = ws') (k : Gn Δ n mc ms M q Qw pc L st ws' k1 k2) : Gn Δ n mc ms M q Qw pc L st ws k1 k2 := h ▸ k
theorem gn_iconst {k : Int} {v : Int32} (d : decode M.2.1 pc = .ok (.iconst k, 1)) (hv : Int32.ofInt k = v) (kk : Gn Δ n mc ms M q Qw (pc + 1) L (.int v :: st) ws k1 k2) : Gn Δ n mc ms M q Qw pc L st ws k1 k2 := fun p l e s m args below meth c H locs ls C hP hD hS hl => lv_iconst C.1 C.2.1 d hv (kk p l e s m args below meth c H locs ls C hP hD hS hl)
theorem gn_bipush {k : Int} {v : Int32} (d : decode M.2.1 pc = .ok (.bipush k, 2)) (hv : (Int8.ofInt k).toInt32 = v) (kk : Gn Δ n mc ms M q Qw (pc + 2) L (.int v :: st) ws k1 k2) : Gn Δ n mc ms M q Qw pc L st ws k1 k2 := fun p l e s m args below meth c H locs ls C hP hD hS hl => lv_bipush C.1 C.2.1 d hv (kk p l e s m args below meth c H locs ls C hP hD hS hl)
theorem gn_iload_n {k : Fin 4} {i : Nat} {x : Int32} (d : decode M.2.1 pc = .ok (.iload_n k, 1)) (hi : (k : Nat) = i) (hx : L[i]? = some (some (.int x))) (kk : Gn Δ n mc ms M q Qw (pc + 1) L (.int x :: st) ws k1 k2) : Gn Δ n mc ms M q Qw pc L st ws k1 k2 := fun p l e s m args below meth c H locs ls C hP hD hS hl => lv_iload_n C.1 C.2.1 d hi (hl.at hx) (kk p l e s m args below meth c H locs ls C hP hD hS hl)
theorem gn_aload_n {k : Fin 4} {i : Nat} {x : Nat} (d : decode M.2.1 pc = .ok (.aload_n k, 1)) (hi : (k : Nat) = i) (hx : L[i]? = some (some (.ref x))) (kk : Gn Δ n mc ms M q Qw (pc + 1) L (.ref x :: st) ws k1 k2) : Gn Δ n mc ms M q Qw pc L st ws k1 k2 := fun p l e s m args below meth c H locs ls C hP hD hS hl => lv_aload_n C.1 C.2.1 d hi (hl.at hx) (kk p l e s m args below meth c H locs ls C hP hD hS hl)
theorem gn_dup {x : Value} (d : decode M.2.1 pc = .ok (.dup, 1)) (hx : x.category = 1) (kk : Gn Δ n mc ms M q Qw (pc + 1) L (x :: x :: st) ws k1 k2) : Gn Δ n mc ms M q Qw pc L (x :: st) ws k1 k2 := fun p l e s m args below meth c H locs ls C hP hD hS hl => lv_dup C.1 C.2.1 d hx (kk p l e s m args below meth c H locs ls C hP hD hS hl)
theorem gn_istore_n {k : Fin 4} {i : Nat} {x : Int32} {L' : List (Option Value)} (d : decode M.2.1 pc = .ok (.istore_n k, 1)) (hi : (k : Nat) = i) (hn : i < M.2.2.1) (ho : okS L i = true) (hL : L.set i (some (.int x)) = L') (kk : Gn Δ n mc ms M q Qw (pc + 1) L' st ws k1 k2) : Gn Δ n mc ms M q Qw pc L (.int x :: st) ws k1 k2 := by
  intro p l e s m args below meth c H locs ls C hP hD hS hl
  subst hi
  obtain ⟨ls', e', h'⟩ := LH.store1 (v := .int x) hl hn rfl ho
  rw [hL] at h'
  intro T hT X
  obtain ⟨t, a, b⟩ := kk p l e s m args below meth c H locs ls' C hP hD hS h' T hT X
  refine ⟨t, ?_, b⟩
  have hexec := C.1
  have hb := C.2.1
  jvm_step X.here [X.here.top, ↓top_set X.here.top, hexec, hb, d, e']
  exact a
theorem gn_iinc {i : Nat} {k : Int} {x v : Int32} {L' : List (Option Value)} (d : decode M.2.1 pc = .ok (.iinc i k, 3)) (hx : L[i]? = some (some (.int x))) (hv : x + Int32.ofInt k = v) (hn : i < M.2.2.1) (ho : okS L i = true) (hL : L.set i (some (.int v)) = L') (kk : Gn Δ n mc ms M q Qw (pc + 3) L' st ws k1 k2) : Gn Δ n mc ms M q Qw pc L st ws k1 k2 := by
  intro p l e s m args below meth c H locs ls C hP hD hS hl
  subst hv
  have hg := hl.at hx
  obtain ⟨ls', e', h'⟩ := LH.store1 (v := .int (x + Int32.ofInt k)) hl hn rfl ho
  rw [hL] at h'
  intro T hT X
  obtain ⟨t, a, b⟩ := kk p l e s m args below meth c H locs ls' C hP hD hS h' T hT X
  refine ⟨t, ?_, b⟩
  have hexec := C.1
  have hb := C.2.1
  jvm_step X.here [X.here.top, ↓top_set X.here.top, hexec, hb, d, hg, e']
  exact a
theorem gn_icmp_ge {x y : Int32} {off : Int} {tgt : Nat} (d : decode M.2.1 pc = .ok (.if_icmp .ge off, 3)) (ht : (pc : Int) + off = (tgt : Int)) (kt : y ≤ x → Gn Δ n mc ms M q Qw tgt L st ws k1 k2) (kf : ¬ (y ≤ x) → Gn Δ n mc ms M q Qw (pc + 3) L st ws k1 k2) : Gn Δ n mc ms M q Qw pc L (.int y :: .int x :: st) ws k1 k2 := fun p l e s m args below meth c H locs ls C hP hD hS hl => lv_icmp_ge C.1 C.2.1 d ht (fun z => kt z p l e s m args below meth c H locs ls C hP hD hS hl) (fun z => kf z p l e s m args below meth c H locs ls C hP hD hS hl)
theorem gn_goto {off : Int} {tgt : Nat} (d : decode M.2.1 pc = .ok (.goto off, 3)) (ht : (pc : Int) + off = (tgt : Int)) (kk : Gn Δ n mc ms M q Qw tgt L st ws k1 k2) : Gn Δ n mc ms M q Qw pc L st ws k1 k2 := fun p l e s m args below meth c H locs ls C hP hD hS hl => lv_goto C.1 C.2.1 d ht (kk p l e s m args below meth c H locs ls C hP hD hS hl)
theorem gn_obj {idx a : Nat} (w : Cond.methodLink M.1.cls idx objectInit ∈ TB) (w2 : Cond.instanceMethod objectInit ∈ TB) (w3 : Cond.code objectInit ⟨#[0xb1]⟩ 1 none ∈ TB) (d : decode M.2.1 pc = .ok (.invokespecial idx, 3)) (hn : 1 ≤ n) (hr : (st.map fun v => v.category).sum ≤ 8) (kk : Gn Δ n mc ms M q Qw (pc + 3) L st ws k1 k2) : Gn Δ n mc ms M q Qw pc L (.ref a :: st) ws k1 k2 := by
  intro p l e s m args below meth c H locs ls C hP hD hS hl
  have hts := C.2.2.2.2.2.1
  refine W.objInit C.1 C.2.1 C.2.2.2.2.1 (hts _ w) (hts _ w2) (hts _ w3) rfl (by rw [C.2.2.2.1]; exact hl.1) rfl d hn ?_ (kk p l e s m args below meth c H locs ls C hP hD hS hl)
  show 2 * 0 + (st.map fun v => v.category).sum + 12 ≤ 128 * n
  omega
theorem gn_newa {n0 : Int32} {N : Nat} (hN : n0 = nI N) (hN1 : N ≤ 100) (w : Cond.arrayClass .int ∈ TB) (hc : k1 + 1 ≤ mc) (hs : k2 + N ≤ ms) (d : decode M.2.1 pc = .ok (.newarray .int, 2)) (kk : ∀ a : Nat, Gn Δ n mc ms M q Qw (pc + 2) L (.ref a :: st) (ws ++ [(a, .inl (Δ.2 0, N, .inl (fun _ => 0)))]) (k1 + 1) (k2 + N)) : Gn Δ n mc ms M q Qw pc L (.int n0 :: st) ws k1 k2 := by
  intro p l e s m args below meth c H locs ls C hP hD hS hl
  subst hN
  refine va_newa (atype := .int) (ty := .int) (a0 := (N, .inl (fun _ => 0))) C.1 C.2.1 (C.2.2.2.2.2.1 _ w) rfl C.2.2.2.2.2.2.2.1 hP hD hS (fun z h => Or.inr h) (fun cA => rfl) (nI_pos (by omega)) (nI_clamp (by omega)) (by show N * 4 ≤ _; omega) hc hs d (fun a cA H1 hK1 hP1 hD1 hS1 => ?_)
  have e1 : s.vm.findClass ("[" ++ FieldType.int.toString) = some cA := (hK1.2 3 _ rfl).2
  have e2 : s.vm.findClass ("[" ++ FieldType.int.toString) = some (Δ.2 0) := (C.2.2.2.2.2.2.2.1.2 0 _ rfl).2
  rw [e1] at e2
  cases e2
  exact kk a p l e s m args below meth c H1 locs ls C hP1 hD1 hS1 hl
theorem gn_newq {idx : Nat} (w : Cond.classLink M.1.cls idx "OrdersInTurn$Guest" ∈ TB) (hc : k1 + 1 ≤ mc) (hs : k2 + 5 ≤ ms) (d : decode M.2.1 pc = .ok (.anewarray idx, 3)) (kk : ∀ a : Nat, Gn Δ n mc ms M q Qw (pc + 3) L (.ref a :: st) (ws ++ [(a, .inl (Δ.2 1, 5, .inr (.inr (.inr (.inr (fun _ => none))))))]) (k1 + 1) (k2 + 5)) : Gn Δ n mc ms M q Qw pc L (.int 5 :: st) ws k1 k2 := by
  intro p l e s m args below meth c H locs ls C hP hD hS hl
  have hNs := C.2.2.2.2.2.2.2.2.1
  refine va_newq (C := "OrdersInTurn$Guest") (N' := 5) C.1 C.2.1 C.2.2.2.2.1 (C.2.2.2.2.2.1 _ w) hNs.2.1 C.2.2.2.2.2.2.2.1 hP hD hS (fun z h => Or.inr h) (by decide) (by decide) (by decide) hc hs d (fun a cA H1 hK1 hP1 hD1 hS1 => ?_)
  have e1 : va_RA s cA (.object "OrdersInTurn$Guest") := (hK1.2 3 _ rfl).2
  have e2 : va_RA s (Δ.2 1) (.object "OrdersInTurn$Guest") := (C.2.2.2.2.2.2.2.1.2 1 _ rfl).2
  obtain ⟨_, _, -, -, -, e1⟩ := e1
  obtain ⟨_, _, -, -, -, e2⟩ := e2
  rw [e1] at e2
  cases e2
  exact kk a p l e s m args below meth c H1 locs ls C hP1 hD1 hS1 hl
theorem gn_mna {idx : Nat} (w : Cond.classLink M.1.cls idx "[[I" ∈ TB) (hc : k1 + 6 ≤ mc) (hs : k2 + 35 ≤ ms) (d : decode M.2.1 pc = .ok (.multianewarray idx 2, 4)) (kk : ∀ a r0 r1 r2 r3 r4 : Nat, Gn Δ n mc ms M q Qw (pc + 4) L (.ref a :: st) (ws ++ [(a, .inl (Δ.2 2, 5, .inr (.inr (.inr (.inr (fun j => ([r0, r1, r2, r3, r4] : List Nat)[j]?)))))), (r0, .inl (Δ.2 0, 6, .inl (fun _ => 0))), (r1, .inl (Δ.2 0, 6, .inl (fun _ => 0))), (r2, .inl (Δ.2 0, 6, .inl (fun _ => 0))), (r3, .inl (Δ.2 0, 6, .inl (fun _ => 0))), (r4, .inl (Δ.2 0, 6, .inl (fun _ => 0)))]) (k1 + 6) (k2 + 35)) : Gn Δ n mc ms M q Qw pc L (.int 6 :: .int 5 :: st) ws k1 k2 := by
  intro p l e s m args below meth c H locs ls C hP hD hS hl
  obtain ⟨kA, hkA, hkind⟩ := C.2.2.2.2.2.2.2.2.1.2.2
  have hnA : s.vm.findClass "[[I" = some (Δ.2 2) := (C.2.2.2.2.2.2.2.1.2 2 _ rfl).2
  obtain ⟨-, kc, hkc, comp, hkindc⟩ := (C.2.2.2.2.2.2.2.1.2 0 _ rfl).1 0 (fun _ => .null)
  refine mg_step C.1 C.2.1 C.2.2.2.2.1 (C.2.2.2.2.2.1 _ w) hnA hkA hkind hkc hkindc hc hs d (fun H1 z1 o1 i1 old => ?_)
  have hout : mgO (Δ.2 2) H.size 5 = vp_cell (Δ.2 2) (5, .inr (.inr (.inr (.inr (fun j => ([H.size + 1 + 0, H.size + 1 + 1, H.size + 1 + 2, H.size + 1 + 3, H.size + 1 + 4] : List Nat)[j]?))))) := by
    rw [vp_cell_q]
    refine congrArg (arrV (Δ.2 2) 5) (funext fun j => ?_)
    match j with
    | 0 => rfl
    | 1 => rfl
    | 2 => rfl
    | 3 => rfl
    | 4 => rfl
    | j + 5 => rw [if_neg (by omega)]; rfl
  rw [hout] at o1
  have hk : ∀ (k : Nat) (x : Nat × va_E), ws[k]? = some x → x.1 < H.size := fun k x hx => (hP k x hx).lt
  generalize hnew : ([(H.size, .inl (Δ.2 2, 5, .inr (.inr (.inr (.inr (fun j => ([H.size + 1 + 0, H.size + 1 + 1, H.size + 1 + 2, H.size + 1 + 3, H.size + 1 + 4] : List Nat)[j]?)))))), (H.size + 1 + 0, .inl (Δ.2 0, 6, .inl (fun _ => 0))), (H.size + 1 + 1, .inl (Δ.2 0, 6, .inl (fun _ => 0))), (H.size + 1 + 2, .inl (Δ.2 0, 6, .inl (fun _ => 0))), (H.size + 1 + 3, .inl (Δ.2 0, 6, .inl (fun _ => 0))), (H.size + 1 + 4, .inl (Δ.2 0, 6, .inl (fun _ => 0)))] : va_W) = nw
  have hat : ∀ (k : Nat) (x : Nat × va_E), nw[k]? = some x → x.1 = H.size + k ∧ va_at Δ.1 vwCl x H1 := by
    intro k x hx
    rw [← hnew] at hx
    match k, hx with
    | 0, hx => cases hx; exact ⟨rfl, o1⟩
    | 1, hx => cases hx; exact ⟨rfl, i1 0 (by omega)⟩
    | 2, hx => cases hx; exact ⟨rfl, i1 1 (by omega)⟩
    | 3, hx => cases hx; exact ⟨rfl, i1 2 (by omega)⟩
    | 4, hx => cases hx; exact ⟨rfl, i1 3 (by omega)⟩
    | 5, hx => cases hx; exact ⟨rfl, i1 4 (by omega)⟩
    | k + 6, hx => simp at hx
  have hP1 : va_P Δ.1 vwCl (ws ++ nw) H1 := (hP.kept (fun k x hx => old x.1 (hk k x hx))).app (fun k x hx => (hat k x hx).2)
  have hD1 : va_D (va_A [q] s.heap.size) (ws ++ nw) := by
    refine va_D.app hD ⟨fun i j x y hi hj hxy => ?_, fun k x hx => Or.inr ?_⟩ (fun i j x y hi hj hxy => ?_)
    · have h1 := (hat i x hi).1
      have h2 := (hat j y hj).1
      omega
    · rw [(hat k x hx).1]
      exact Nat.le_trans hS.1 (Nat.le_add_right _ _)
    · have h1 := hk i x hi
      have h2 := (hat j y hj).1
      omega
  subst hnew
  exact kk _ _ _ _ _ _ p l e s m args below meth c H1 locs ls C hP1 hD1 ⟨Nat.le_trans hS.1 (by omega), fun x h1 h2 => (old x (Nat.lt_of_lt_of_le h1 hS.1)).trans (hS.2.1 x h1 h2), hS.2.2⟩ hl
theorem gn_put {a k ci idx j : Nat} {v : Value} {fs : List Value} {t : FieldType} {ws' : va_W} (f : FW M.1.cls idx ci k t) (h : ws[j]? = some (a, .inr (ci, fs))) (hk : k < fs.length) (hn : narrow t v = v) (hf : fits t v = true) (hw : ws.set j (a, .inr (ci, fs.set k v)) = ws') (d : decode M.2.1 pc = .ok (.putfield idx, 3)) (kk : Gn Δ n mc ms M q Qw (pc + 3) L st ws' k1 k2) : Gn Δ n mc ms M q Qw pc L (v :: .ref a :: st) ws k1 k2 := by
  intro p l e s m args below meth c H locs ls C hP hD hS hl
  obtain ⟨Cn, T, N, ty, ⟨hc, hin, hty, hnm⟩, hkN, hlk, hfin, ht⟩ := f
  refine va_put C.1 C.2.1 C.2.2.2.2.2.1 hin ty hty hnm C.2.2.2.2.1 C.2.2.2.2.2.2.2.1 hP hD hS j h hc k hkN (C.2.2.2.2.2.1 _ hlk) (fun _ h => h) hfin (ht ▸ hty k hkN) hn hf hk d (fun H1 locs1 h1 h2 h3 => ?_)
  rw [hw] at h1 h2
  exact kk p l e s m args below meth c H1 locs1 ls C h1 h2 h3 hl
theorem gn_putF {a k ci idx j : Nat} {v : Value} {fs : List Value} {t : FieldType} {ws' : va_W} (f : FF M.1.cls idx ci k t) (h : ws[j]? = some (a, .inr (ci, fs))) (hk : k < fs.length) (hn : narrow t v = v) (hf : fits t v = true) (hw : ws.set j (a, .inr (ci, fs.set k v)) = ws') (d : decode M.2.1 pc = .ok (.putfield idx, 3)) (kk : Gn Δ n mc ms M q Qw (pc + 3) L st ws' k1 k2) : Gn Δ n mc ms M q Qw pc L (v :: .ref a :: st) ws k1 k2 := by
  intro p l e s m args below meth c H locs ls C hP hD hS hl
  obtain ⟨Cn, T, N, ty, ⟨hc, hin, hty, hnm⟩, hkN, hlk, hfin, hdecl, ht⟩ := f
  refine va_putF C.1 C.2.1 C.2.2.2.2.2.1 hin ty hty hnm C.2.2.2.2.1 C.2.2.2.2.2.2.2.1 hP hD hS j h hc k hkN (C.2.2.2.2.2.1 _ hlk) (fun _ h => h) hfin C.2.2.2.2.2.2.2.2.2 hdecl (ht ▸ hty k hkN) hn hf hk d (fun H1 locs1 h1 h2 h3 => ?_)
  rw [hw] at h1 h2
  exact kk p l e s m args below meth c H1 locs1 ls C h1 h2 h3 hl
theorem gn_get {a k ci idx j : Nat} {v : Value} {fs : List Value} (f : FL M.1.cls idx ci k) (h : ws[j]? = some (a, .inr (ci, fs))) (hv : fs[k]? = some v) (d : decode M.2.1 pc = .ok (.getfield idx, 3)) (kk : Gn Δ n mc ms M q Qw (pc + 3) L (v :: st) ws k1 k2) : Gn Δ n mc ms M q Qw pc L (.ref a :: st) ws k1 k2 := by
  intro p l e s m args below meth c H locs ls C hP hD hS hl
  obtain ⟨Cn, T, N, ty, ⟨hc, hin, -, -⟩, hk, hlk⟩ := f
  exact va_get C.1 C.2.1 C.2.2.2.2.2.1 hin C.2.2.2.2.1 C.2.2.2.2.2.2.2.1 hP j h hc k hk (C.2.2.2.2.2.1 _ hlk) (fun _ h => h) hv d (kk p l e s m args below meth c H locs ls C hP hD hS hl)
theorem gn_new {Cn : String} {T : u_T} {N ci idx : Nat} {ty : Nat → FieldType} {fs : List Value} (cf : CF ci Cn T N ty) (w1 : Cond.classLink M.1.cls idx Cn ∈ TB) (w2 : Cond.instantiable Cn N ∈ TB) (w3 : Cond.initialized Cn ∈ TB) (hfs : ∀ j, j < N → defaultValue (ty j) = vp_V fs j) (hc : k1 + 1 ≤ mc) (hs : k2 + N ≤ ms) (d : decode M.2.1 pc = .ok (.new idx, 3)) (kk : ∀ a : Nat, Gn Δ n mc ms M q Qw (pc + 3) L (.ref a :: st) (ws ++ [(a, .inr (ci, fs))]) (k1 + 1) (k2 + N)) : Gn Δ n mc ms M q Qw pc L st ws k1 k2 := by
  intro p l e s m args below meth c H locs ls C hP hD hS hl
  obtain ⟨hcl, hin, hty, -⟩ := cf
  have hts := C.2.2.2.2.2.1
  exact va_new C.1 C.2.1 hts hin ty hty C.2.2.2.2.1 (hts _ w1) (hts _ w2) (hts _ w3) C.2.2.2.2.2.2.2.1 hP hD hS (fun z h => Or.inr h) hcl hfs hc hs d (fun a H1 hP1 hD1 hS1 => kk a p l e s m args below meth c H1 locs ls C hP1 hD1 hS1 hl)
theorem gn_ast {a b i j jk : Nat} {x : Int32} {f f' : Nat → Option Nat} {fs : List Value} {ws' : va_W} (hx : x = nI i) (hi : i < 5) (ha : ws[j]? = some (a, .inl (Δ.2 1, 5, .inr (.inr (.inr (.inr f)))))) (hb : ws[jk]? = some (b, .inr (1, fs))) (hf : va_up f i (some b) = f') (hw : ws.set j (a, .inl (Δ.2 1, 5, .inr (.inr (.inr (.inr f'))))) = ws') (d : decode M.2.1 pc = .ok (.aastore, 1)) (kk : Gn Δ n mc ms M q Qw (pc + 1) L st ws' k1 k2) : Gn Δ n mc ms M q Qw pc L (.ref b :: .int x :: .ref a :: st) ws k1 k2 := by
  intro p l e s m args below meth c H locs ls C hP hD hS hl
  subst hx
  refine va_astq (r := (RX1, TX1, 4)) C.1 C.2.1 C.2.2.2.2.2.2.2.1 hP hD hS j 1 jk 1 ha rfl hb rfl (vp_in_nI hi (by decide)) d (fun H1 locs1 h1 h2 h3 => ?_)
  rw [nI_clamp (by omega), hf, hw] at h1 h2
  exact kk p l e s m args below meth c H1 locs1 ls C h1 h2 h3 hl
theorem Wn.blind {sz : Nat} {av : List Value} : FrameBlind (va_Pc av (Wn Δ q sz)) := by
  intro a U g mk z
  obtain ⟨q0, q1, q2, q3, q4⟩ := z
  exact ⟨q0, q1, q2, va_K.moved (u := U) (U := U.calling g mk a) (Vm.Alike.refl U.vm) q3, Nst.same (u := U) (U := U.calling g mk a) rfl q4⟩
/-- what came back beside the rest -/
theorem gn_join {s : State} {H H1 : Heap} {b : Nat} {e0 : va_E} {wr w1 : va_W} (hP : va_P Δ.1 vwCl (wr ++ [(b, e0)]) H) (hD : va_D (va_A [q] s.heap.size) (wr ++ [(b, e0)])) (hk : ∀ x : Nat, x < H.size → ¬ va_A [(b, e0)] H.size x → H1[x]? = H[x]?) (hF : ∀ x, va_A [(b, e0)] H.size x → va_A [q] s.heap.size x) (hP1 : va_P Δ.1 vwCl w1 H1) (hD1 : va_D (va_A [(b, e0)] H.size) w1) : va_P Δ.1 vwCl (wr ++ w1) H1 ∧ va_D (va_A [q] s.heap.size) (wr ++ w1) := by
  have hin : ∀ (k : Nat) (x : Nat × va_E), wr[k]? = some x → (wr ++ [(b, e0)])[k]? = some x := fun k x hx => by
    rw [List.getElem?_append_left (List.getElem?_eq_some_iff.mp hx).1]
    exact hx
  have hlast : (wr ++ [(b, e0)])[wr.length]? = some (b, e0) := by simp
  have apart : ∀ (k : Nat) (x : Nat × va_E), wr[k]? = some x → x.1 < H.size ∧ ¬ va_A [(b, e0)] H.size x.1 := by
    intro k x hx
    have hl := (hP k x (hin k x hx)).lt
    refine ⟨hl, fun h => ?_⟩
    rcases h with ⟨k2, e, h⟩ | h
    · have h0 : k2 < 1 := (List.getElem?_eq_some_iff.mp h).1
      rw [show k2 = 0 by omega] at h
      have hb : b = x.1 := congrArg Prod.fst (Option.some.inj h)
      have := hD.1 k wr.length x (b, e0) (hin k x hx) hlast hb.symm
      have := (List.getElem?_eq_some_iff.mp hx).1
      omega
    · omega
  refine ⟨va_P.app (fun k x hx => (hP k x (hin k x hx)).kept (hk x.1 (apart k x hx).1 (apart k x hx).2)) hP1, va_D.app ⟨fun i j x y hi hj hxy => hD.1 i j x y (hin i x hi) (hin j y hj) hxy, fun k x hx => hD.2 k x (hin k x hx)⟩ (hD1.weaken (fun k x _ h => hF x.1 h)) (fun i j x y hx hy hxy => (apart i x hx).2 (by rw [hxy]; exact hD1.2 j y hy))⟩
theorem gn_free {s : State} {H : Heap} {locs : List Loc} {b : Nat} {e0 : va_E} {wr : va_W} (hD : va_D (va_A [q] s.heap.size) (wr ++ [(b, e0)])) (hS : va_S (va_A [q] s.heap.size) s.heap H locs) : ∀ x, va_A [(b, e0)] H.size x → va_A [q] s.heap.size x := by
  intro x h
  rcases h with ⟨k2, e, h⟩ | h
  · have h0 : k2 < 1 := (List.getElem?_eq_some_iff.mp h).1
    rw [show k2 = 0 by omega] at h
    have hb : b = x := congrArg Prod.fst (Option.some.inj h)
    rw [← hb]
    exact hD.2 wr.length (b, e0) (by simp)
  · exact Or.inr (Nat.le_trans hS.1 h)
theorem gn_last {H : Heap} {b : Nat} {e0 : va_E} {wr : va_W} (hP : va_P Δ.1 vwCl (wr ++ [(b, e0)]) H) : va_P Δ.1 vwCl [(b, e0)] H := by
  intro k x hx
  have h0 : k < 1 := (List.getElem?_eq_some_iff.mp hx).1
  rw [show k = 0 by omega] at hx
  cases hx
  exact hP wr.length _ (by simp)
theorem gn_call {M' : Md} {As rest : List Value} {b idx np n' mc' ms' : Nat} {e0 : va_E} {wr : va_W} {Qw' : va_W → Prop} (wl : Cond.methodLink M.1.cls idx M'.1 ∈ TB) (w : CI M' np) (mk : Mk Δ n' mc' ms' M' (.ref b :: As) (b, e0) Qw') (hn : n' + 1 ≤ n) (hA : As.length = np) (hst : st = As.reverse ++ .ref b :: rest) (hws : ws = wr ++ [(b, e0)]) (hr : (rest.map fun v => v.category).sum ≤ 8) (hc : k1 + mc' ≤ mc) (hs : k2 + ms' ≤ ms) (d : decode M.2.1 pc = .ok (.invokespecial idx, 3)) (kk : ∀ w1, Qw' w1 → Gn Δ n mc ms M q Qw (pc + 3) L rest (wr ++ w1) (k1 + mc') (k2 + ms')) : Gn Δ n mc ms M q Qw pc L st ws k1 k2 := by
  intro p l e s m args below meth c H locs ls C hP hD hS hl
  subst hws
  obtain ⟨⟨w2, w3, w4⟩, w5, w6, w7⟩ := w
  have hts := C.2.2.2.2.2.1
  have hK := C.2.2.2.2.2.2.2.1
  have hN := C.2.2.2.2.2.2.2.2.1
  have hF := gn_free hD hS
  refine va_callv (va_runI (As := As) (rest := rest) ⟨C.1, C.2.1, C.2.2.2.1, C.2.2.2.2.1, hts⟩ (mk l H.size) (bytes := M'.2.1) (maxL := M'.2.2.1) ⟨callB_of np hts (good_cons w4) rfl rfl rfl (hts _ w3) (hts _ wl) w6 (rmN_le hn w7), w5, hts _ w2⟩ ⟨Wn.blind, fun U hU hW => ⟨rfl, by rw [hU], by rw [hU]; exact gn_last hP, va_K.moved hW.alike hK, Nst.warm hW hN⟩⟩ rfl hA hl.1 hst (lv_room hr) d ⟨hc, hs⟩) hS (fun x _ h => hF x h) hF (fun u t H1 locs1 ht hvm hw hB hz1 hk1 hS1 => ?_)
  obtain ⟨hP1, hD1⟩ := hB
  rw [ht] at hP1
  obtain ⟨hPj, hDj⟩ := gn_join hP hD hk1 hF hP1 hD1
  exact kk u hw p l e s m args below meth c H1 locs1 ls C hPj hDj hS1 hl
theorem gn_callN {M' : Md} {As rest : List Value} {b idx np n' mc' ms' : Nat} {e0 : va_E} {wr : va_W} {Qw' : va_W → Prop} (wl : ∀ U, Nst Δ U → va_Nw (.methodLinkNest M.1.cls idx M'.1 RX8) U) (w : CI M' np) (mk : Mk Δ n' mc' ms' M' (.ref b :: As) (b, e0) Qw') (hn : n' + 1 ≤ n) (hA : As.length = np) (hst : st = As.reverse ++ .ref b :: rest) (hws : ws = wr ++ [(b, e0)]) (hr : (rest.map fun v => v.category).sum ≤ 8) (hc : k1 + mc' ≤ mc) (hs : k2 + ms' ≤ ms) (d : decode M.2.1 pc = .ok (.invokespecial idx, 3)) (kk : ∀ w1, Qw' w1 → Gn Δ n mc ms M q Qw (pc + 3) L rest (wr ++ w1) (k1 + mc') (k2 + ms')) : Gn Δ n mc ms M q Qw pc L st ws k1 k2 := by
  intro p l e s m args below meth c H locs ls C hP hD hS hl
  subst hws
  obtain ⟨⟨w2, w3, w4⟩, w5, w6, w7⟩ := w
  have hts := C.2.2.2.2.2.1
  have hK := C.2.2.2.2.2.2.2.1
  have hN := C.2.2.2.2.2.2.2.2.1
  have hF := gn_free hD hS
  refine va_callv (va_runIN (As := As) (rest := rest) ⟨C.1, C.2.1, C.2.2.2.1, C.2.2.2.2.1, hts⟩ (mk l H.size) (bytes := M'.2.1) (maxL := M'.2.2.1) ⟨va_cnB np hts (good_cons w4) rfl rfl rfl (wl s hN) (hts _ w3) w6 (rmN_le hn w7), w5, hts _ w2⟩ ⟨Wn.blind, fun U hU hW => ⟨rfl, by rw [hU], by rw [hU]; exact gn_last hP, va_K.moved hW.alike hK, Nst.warm hW hN⟩⟩ rfl hA hl.1 hst (lv_room hr) d ⟨hc, hs⟩) hS (fun x _ h => hF x h) hF (fun u t H1 locs1 ht hvm hw hB hz1 hk1 hS1 => ?_)
  obtain ⟨hP1, hD1⟩ := hB
  rw [ht] at hP1
  obtain ⟨hPj, hDj⟩ := gn_join hP hD hk1 hF hP1 hD1
  exact kk u hw p l e s m args below meth c H1 locs1 ls C hPj hDj hS1 hl
theorem gn_vret (hq : Qw ws) (h1 : k1 ≤ mc) (h2 : k2 ≤ ms) (d : decode M.2.1 pc = .ok (.return_, 1)) : Gn Δ n mc ms M q Qw pc L [] ws k1 k2 := by
  intro p l e s m args below meth c H locs ls C hP hD hS hl
  refine W.widen h1 h2 ?_
  exact W.vret C.1 C.2.1 C.2.2.1 (fun t ht _ => ⟨⟨ws, rfl, hq, by rw [ht]; exact hP, hD⟩, hS.F ht⟩) hS.2.2 d C.2.2.2.2.2.2.1
theorem mk_intro {av : List Value} (hy : plainName M.1.cls = true) (hnm : M.1.name = "<init>") (hlen : (lg_sl av).length ≤ M.2.2.1) (hL : ∀ ls : Array Slot, lv_has ls M.2.2.1 (lv_args 0 av) → LH ls M.2.2.1 L) (k : Gn Δ n mc ms M q Qw 0 L [] [q] 0 0) : Mk Δ n mc ms M av q Qw := by
  intro l sz
  refine Met.ofW (cc := M.2.1) (maxL := M.2.2.1) (ret := none) hy rfl ?_
  intro p e s m args below meth c s₁ B hml hv
  obtain ⟨rfl, hsz, hP, hK, hN⟩ := hv
  subst hsz
  have hts := atoms_spec (ws := Cond.code M.1 M.2.1 M.2.2.1 none :: TB) B.pre
  have hown : s.vm.findClass M.1.cls = some m.cls := findClass_of_methodNamed B.named
  have hin : meth.name = "<init>" := ((name_of_methodNamed B.named B.method).1).trans hnm
  have hl := lv_entry av (n := M.2.2.1) hlen
  rw [lg_entry_eq]
  generalize (lg_sl av ++ List.replicate (M.2.2.1 - (lg_sl av).length) Slot.unset).toArray = ls at hl ⊢
  exact k p l e s m av.toArray below meth c s.heap [] ls ⟨B.exec, B.bytes, B.returns, hml, hown, fun w h => hts w (List.mem_cons_of_mem _ h), B.notSynchronized, hK, hN, hin⟩ hP one_D va_S.rf (hL ls hl)
end GN
