/-! rules for cells, calls, entry and end -/
def fsh (a k : Nat) : Option (Nat × Nat) := match shpL[a]? with
  | some (.inl (ci, tpl)) => (tpl[k]?).map (fun t => (ci, t))
  | _ => none
def ash (a : Nat) : Option Nat := match shpL[a]? with
  | some (.inr (.inl n)) => some n
  | _ => none
def rsh (a j : Nat) : Option Nat := match shpL[a]? with
  | some (.inr (.inr (_, rs))) => rs[j]?
  | _ => none
def osh (a : Nat) : Option Nat := match shpL[a]? with
  | some (.inl (ci, _)) => some ci
  | _ => none
theorem fsh_spec {a k ci t : Nat} (h : fsh a k = some (ci, t)) : ∃ tpl, shpL[a]? = some (.inl (ci, tpl)) ∧ tpl[k]? = some t := by
  unfold fsh at h
  split at h
  · rename_i c' tpl e
    cases hk : tpl[k]? with
    | none => rw [hk] at h; cases h
    | some t' => rw [hk] at h; cases h; exact ⟨tpl, e, hk⟩
  · cases h
theorem ash_spec {a n : Nat} (h : ash a = some n) : shpL[a]? = some (.inr (.inl n)) := by
  unfold ash at h
  split at h
  · rename_i n' e; cases h; exact e
  · cases h
theorem rsh_spec {a j r : Nat} (h : rsh a j = some r) : ∃ t rs, shpL[a]? = some (.inr (.inr (t, rs))) ∧ rs[j]? = some r := by
  unfold rsh at h
  split at h
  · rename_i t rs e; exact ⟨t, rs, e, h⟩
  · cases h
theorem osh_spec {a ci : Nat} (h : osh a = some ci) : ∃ tpl, shpL[a]? = some (.inl (ci, tpl)) := by
  unfold osh at h
  split at h
  · rename_i c' tpl e; cases h; exact ⟨tpl, e⟩
  · cases h
/-- what the tables say of a class, of a field's link, of a call -/
def CF (ci : Nat) (C : String) (T : u_T) (N : Nat) (ty : Nat → FieldType) : Prop := vwCl[ci]? = some (C, T, N) ∧ (∀ w ∈ u_ws C T N, w ∈ TB) ∧ (∀ k, k < N → parseFieldDescriptor (T k).2.2.1 = some (ty k)) ∧ (∀ a, a < N → ∀ b, b < N → a ≠ b → (T a).2.1 ≠ (T b).2.1)
def FL (own : String) (idx ci k : Nat) : Prop := ∃ (C : String) (T : u_T) (N : Nat) (ty : Nat → FieldType), CF ci C T N ty ∧ k < N ∧ Cond.fieldLink own idx (T k).1 (T k).2.1 (T k).2.2.1 ∈ TB
/-- a field that may be written -/
def FW (own : String) (idx ci k : Nat) (t : FieldType) : Prop := ∃ (C : String) (T : u_T) (N : Nat) (ty : Nat → FieldType), CF ci C T N ty ∧ k < N ∧ Cond.fieldLink own idx (T k).1 (T k).2.1 (T k).2.2.1 ∈ TB ∧ (T k).2.2.2 = false ∧ ty k = t
def CV (own : String) (idx : Nat) (M' : Md) (np ci : Nat) : Prop := (Cond.methodLink own idx M'.1 ∈ TB ∧ Cond.instanceMethod M'.1 ∈ TB ∧ Cond.selects M'.1.cls M'.1 M'.1 ∈ TB ∧ Cond.initialized M'.1.cls ∈ TB ∧ Cond.code M'.1 M'.2.1 M'.2.2.1 M'.2.2.2 ∈ TB) ∧ (vwCl[ci]?).map (fun q => q.1) = some M'.1.cls ∧ (M'.1.cls ≠ "java/lang/invoke/MethodHandle" ∧ M'.1.cls ≠ "java/lang/invoke/VarHandle" ∧ (parseMethodDescriptor M'.1.desc).map (fun d => d.parameters.length) = some np) ∧ M'.2.2.1 ≤ 100
def CS (own : String) (idx : Nat) (M' : Md) (np : Nat) : Prop := (Cond.methodLink own idx M'.1 ∈ TB ∧ Cond.static M'.1 ∈ TB ∧ Cond.initialized M'.1.cls ∈ TB ∧ Cond.code M'.1 M'.2.1 M'.2.2.1 M'.2.2.2 ∈ TB) ∧ (M'.1.cls ≠ "java/lang/invoke/MethodHandle" ∧ M'.1.cls ≠ "java/lang/invoke/VarHandle" ∧ (parseMethodDescriptor M'.1.desc).map (fun d => d.parameters.length) = some np) ∧ M'.2.2.1 ≤ 100
section GO2
variable {Γ : Gm} {n : Nat} {M : Md} {Q : Option Value → Mm → Prop} {pc : Nat} {L : List (Option Value)} {st : List Value} {σ : Mm}
theorem go_get {a k ci t idx : Nat} {v : Value} (f : FL M.1.cls idx ci k) (h : fsh a k = some (ci, t)) (hv : fval Γ σ a k t = v) (d : decode M.2.1 pc = .ok (.getfield idx, 3)) (kk : Go Γ n M Q (pc + 3) L (v :: st) σ) : Go Γ n M Q pc L (rf Γ a :: st) σ := by
  intro p l e s m args below meth c H locs ls C hP hS hl
  obtain ⟨Cn, T, N, ty, ⟨hc, hin, -, -⟩, hk, hlk⟩ := f
  obtain ⟨tpl, e1, e2⟩ := fsh_spec h
  exact va_get C.1 C.2.1 C.2.2.2.2.2.1 hin C.2.2.2.2.1 C.2.2.2.2.2.2.2.1 hP a (wl_get e1) hc k hk (C.2.2.2.2.2.1 _ hlk) (fun _ h => h) (by rw [← hv]; exact flds_get e2) d (kk p l e s m args below meth c H locs ls C hP hS hl)
theorem go_getI {a k ci idx : Nat} (f : FL M.1.cls idx ci k) (h : fsh a k = some (ci, 0)) (d : decode M.2.1 pc = .ok (.getfield idx, 3)) (kk : Go Γ n M Q (pc + 3) L (.int (σ.1 a k) :: st) σ) : Go Γ n M Q pc L (rf Γ a :: st) σ := go_get f h rfl d kk
theorem go_getL {a k ci idx : Nat} (f : FL M.1.cls idx ci k) (h : fsh a k = some (ci, 1)) (d : decode M.2.1 pc = .ok (.getfield idx, 3)) (kk : Go Γ n M Q (pc + 3) L (.long (σ.2 a) :: st) σ) : Go Γ n M Q pc L (rf Γ a :: st) σ := go_get f h rfl d kk
theorem go_getR {a k ci idx r : Nat} (f : FL M.1.cls idx ci k) (h : fsh a k = some (ci, r + 2)) (d : decode M.2.1 pc = .ok (.getfield idx, 3)) (kk : Go Γ n M Q (pc + 3) L (rf Γ r :: st) σ) : Go Γ n M Q pc L (rf Γ a :: st) σ := go_get f h rfl d kk
theorem go_putI {a k ci idx : Nat} {x : Int32} (f : FW M.1.cls idx ci k .int) (h : fsh a k = some (ci, 0)) (d : decode M.2.1 pc = .ok (.putfield idx, 3)) (kk : Go Γ n M Q (pc + 3) L st (stI σ a k x)) : Go Γ n M Q pc L (.int x :: rf Γ a :: st) σ := by
  intro p l e s m args below meth c H locs ls C hP hS hl
  obtain ⟨Cn, T, N, ty, ⟨hc, hin, hty, hnm⟩, hk, hlk, hw, ht⟩ := f
  obtain ⟨tpl, e1, e2⟩ := fsh_spec h
  refine va_put C.1 C.2.1 C.2.2.2.2.2.1 hin ty hty hnm C.2.2.2.2.1 C.2.2.2.2.2.2.2.1 hP wl_D hS a (wl_get e1) hc k hk (C.2.2.2.2.2.1 _ hlk) (fun _ h => h) hw (ht ▸ hty k hk) rfl rfl (by show k < (flds Γ σ a tpl).length; rw [flds_len]; exact (List.getElem?_eq_some_iff.mp e2).1) d (fun H1 locs1 h1 _ h3 => ?_)
  rw [wl_stI e1 e2] at h1
  exact kk p l e s m args below meth c H1 locs1 ls C h1 h3 hl
theorem go_putL {a k ci idx : Nat} {x : Int64} (f : FW M.1.cls idx ci k .long) (h : fsh a k = some (ci, 1)) (hu : ∀ i, i ≠ k → fsh a i ≠ some (ci, 1)) (d : decode M.2.1 pc = .ok (.putfield idx, 3)) (kk : Go Γ n M Q (pc + 3) L st (stL σ a x)) : Go Γ n M Q pc L (.long x :: rf Γ a :: st) σ := by
  intro p l e s m args below meth c H locs ls C hP hS hl
  obtain ⟨Cn, T, N, ty, ⟨hc, hin, hty, hnm⟩, hk, hlk, hw, ht⟩ := f
  obtain ⟨tpl, e1, e2⟩ := fsh_spec h
  refine va_put C.1 C.2.1 C.2.2.2.2.2.1 hin ty hty hnm C.2.2.2.2.1 C.2.2.2.2.2.2.2.1 hP wl_D hS a (wl_get e1) hc k hk (C.2.2.2.2.2.1 _ hlk) (fun _ h => h) hw (ht ▸ hty k hk) rfl rfl (by show k < (flds Γ σ a tpl).length; rw [flds_len]; exact (List.getElem?_eq_some_iff.mp e2).1) d (fun H1 locs1 h1 _ h3 => ?_)
  rw [wl_stL e1 e2 (fun i hi q => hu i hi (by simp [fsh, e1, q]))] at h1
  exact kk p l e s m args below meth c H1 locs1 ls C h1 h3 hl
theorem go_iald {a N : Nat} {i : Int32} (j : Nat) (hi : i = nI j) (ha : ash a = some N) (hj : j < N) (hN : N < 2 ^ 31) (d : decode M.2.1 pc = .ok (.iaload, 1)) (kk : Go Γ n M Q (pc + 1) L (.int (σ.1 a j) :: st) σ) : Go Γ n M Q pc L (.int i :: rf Γ a :: st) σ := by
  intro p l e s m args below meth c H locs ls C hP hS hl
  subst hi
  refine va_iald C.1 C.2.1 C.2.2.2.2.2.2.2.1 hP a 0 (wl_get (ash_spec ha)) rfl (vp_in_nI hj hN) d ?_
  rw [nI_clamp (by omega)]
  exact kk p l e s m args below meth c H locs ls C hP hS hl
theorem go_iast {a N : Nat} {i x : Int32} (j : Nat) (hi : i = nI j) (ha : ash a = some N) (hj : j < N) (hN : N < 2 ^ 31) (d : decode M.2.1 pc = .ok (.iastore, 1)) (kk : Go Γ n M Q (pc + 1) L st (stI σ a j x)) : Go Γ n M Q pc L (.int x :: .int i :: rf Γ a :: st) σ := by
  intro p l e s m args below meth c H locs ls C hP hS hl
  subst hi
  refine va_iast C.1 C.2.1 C.2.2.2.2.2.2.2.1 hP wl_D hS a 0 (wl_get (ash_spec ha)) rfl (vp_in_nI hj hN) d (fun H1 locs1 h1 _ h3 => ?_)
  rw [nI_clamp (by omega), wl_stE (ash_spec ha)] at h1
  exact kk p l e s m args below meth c H1 locs1 ls C h1 h3 hl
theorem go_alen {a N : Nat} {v : Int32} (ha : ash a = some N) (hv : nI N = v) (d : decode M.2.1 pc = .ok (.arraylength, 1)) (kk : Go Γ n M Q (pc + 1) L (.int v :: st) σ) : Go Γ n M Q pc L (rf Γ a :: st) σ := by
  intro p l e s m args below meth c H locs ls C hP hS hl
  exact va_alen C.1 C.2.1 C.2.2.2.2.2.2.2.1 hP a 0 (wl_get (ash_spec ha)) rfl hv d (kk p l e s m args below meth c H locs ls C hP hS hl)
theorem go_aald {a r : Nat} {i : Int32} (j : Nat) (hi : i = nI j) (hr : rsh a j = some r) (ht : ∀ t rs, shpL[a]? = some (.inr (.inr (t, rs))) → (t = 1 ∨ t = 2) ∧ rs.length < 2 ^ 31) (d : decode M.2.1 pc = .ok (.aaload, 1)) (kk : Go Γ n M Q (pc + 1) L (rf Γ r :: st) σ) : Go Γ n M Q pc L (.int i :: rf Γ a :: st) σ := by
  intro p l e s m args below meth c H locs ls C hP hS hl
  subst hi
  obtain ⟨t, rs, e1, e2⟩ := rsh_spec hr
  obtain ⟨htt, hlen⟩ := ht t rs e1
  have hj : j < rs.length := (List.getElem?_eq_some_iff.mp e2).1
  have hin : vp_in (nI j) rs.length := vp_in_nI hj hlen
  have hcell := hP a _ (wl_get e1)
  have hK := C.2.2.2.2.2.2.2.1
  have hread : (arrV (Γ.2.2.1 t) rs.length (fun j => va_rf ((rs[j]?).map Γ.2.1.1))).slots[(nI j).toNatClampNeg]? = some (rf Γ r) := by
    rw [nI_clamp (by omega), arrV_read _ _ hj]
    simp [e2, va_rf]
  have go : ∀ ty : FieldType, ty.isReference = true → ArrOfT s (Γ.2.2.1 t) ty → W p l e (rmD n) s m args below meth c H locs 0 0 (MQ below (Qo Γ Q) args s 0 0 (AB Γ)) (F0 m pc ls (.int (nI j) :: rf Γ a :: st)) := fun ty hty hA =>
    W.aald (v := rf Γ r) (ty := ty) C.1 C.2.1 hcell (hA rs.length (fun j => va_rf ((rs[j]?).map Γ.2.1.1))) hty (fun q => by cases q) (by show ¬ (nI j < 0 ∨ (arrV _ _ _).slots.size ≤ _); rw [arrV_size]; exact hin) hread rfl rfl d (kk p l e s m args below meth c H locs ls C hP hS hl)
  rcases htt with rfl | rfl
  · exact go (.object "OrdersInTurn$Guest") rfl (hK.2 1 (Γ.2.2.1 1, .object "OrdersInTurn$Guest") rfl).1
  · exact go (.array .int) rfl (hK.2 2 (Γ.2.2.1 2, .array .int) rfl).1
theorem go_sways (d : decode M.2.1 pc = .ok (.getstatic 22, 3)) (hM : M.1.cls = "OrdersInTurn$Guest") (kk : Go Γ n M Q (pc + 3) L (.ref Γ.2.2.2 :: st) σ) : Go Γ n M Q pc L st σ := by
  intro p l e s m args below meth c H locs ls C hP hS hl
  have hown := C.2.2.2.2.1
  rw [hM] at hown
  obtain ⟨hZ, -, hN⟩ := C.2.2.2.2.2.2.2.2
  exact va_getsN C.1 C.2.1 hZ hS hown (va_Nw.use rfl hN) (fun _ h => h) d (kk p l e s m args below meth c H locs ls C hP hS hl)
theorem go_swld {i : Int32} (j : Nat) (hi : i = nI j) (hj : j < 5) (d : decode M.2.1 pc = .ok (.iaload, 1)) (kk : Go Γ n M Q (pc + 1) L (.int (swV j) :: st) σ) : Go Γ n M Q pc L (.int i :: .ref Γ.2.2.2 :: st) σ := by
  intro p l e s m args below meth c H locs ls C hP hS hl
  subst hi
  obtain ⟨-, ⟨cell, h1, h2, h3, h4, h5, h6, h7⟩, -⟩ := C.2.2.2.2.2.2.2.2
  have hcell : H[Γ.2.2.2]? = some cell := by rw [hS.2.1 _ (Array.getElem?_eq_some_iff.mp h1).1 h7]; exact h1
  have hc : (nI j).toNatClampNeg = j := nI_clamp (by omega)
  refine W.iald (v := .int (swV j)) C.1 C.2.1 hcell h2 h3 ?_ (by rw [hc]; exact h6 j hj) rfl rfl d (kk p l e s m args below meth c H locs ls C hP hS hl)
  rw [hc]
  rintro (q | q)
  · exact nI_pos (by omega) q
  · omega
theorem Wd.blind {av : List Value} : FrameBlind (va_Pc av (Wd Γ σ)) := by
  intro a U g mk q
  obtain ⟨q0, q1, q2, q3, q4, q5⟩ := q
  exact ⟨q0, q1, va_K.moved (u := U) (U := U.calling g mk a) (Vm.Alike.refl U.vm) q2, va_Z.moved (u := U) (U := U.calling g mk a) (Vm.Alike.refl U.vm) q3, va_T.moved (u := U) (U := U.calling g mk a) (Vm.Alike.refl U.vm) q4, va_Nw.same rfl (u := U) (U := U.calling g mk a) rfl q5⟩
/-- the world at a callee's start -/
theorem Wd.at {p : Program} {s : State} {m : MethodId} {args : Array Value} {meth : Method} {c : Code} {H : Heap} {locs : List Loc} {U : State} (C : Cx Γ M p s m args meth c) (hP : va_P Γ.1 vwCl (wl Γ σ) H) (hS : va_S (AB Γ) s.heap H locs) (hU : U.heap = H) (hW : s.WarmedH U.vm) : Wd Γ σ U := by
  obtain ⟨-, -, -, -, -, -, -, hK, hZ, hT, hN⟩ := C
  subst hU
  exact ⟨hP, va_K.moved hW.alike hK, (hZ.kept hS.2.1).moved hW.alike, (hT.kept hS.2.1).moved hW.alike, va_Nw.warmF hW hN⟩
theorem run_next {p : Program} {l : Launch} {e : Env} {s : State} {m : MethodId} {args : Array Value} {below : List Frame} {meth : Method} {c : Code} {H : Heap} {locs : List Loc} {ls : Array Slot} {st0 rest : List Value} {a : Array Value} {Q' : Option Value → Mm → Prop}
    (hr : va_Run p l e (rmD n) s m args below meth c H locs 0 0 0 0 (F0 m pc ls st0) rest (Qo Γ Q' a) (AB Γ)) (C : Cx Γ M p s m args meth c) (hS : va_S (AB Γ) s.heap H locs) (hl : LH ls M.2.2.1 L)
    (kk : ∀ v σ', Q' v σ' → Go Γ n M Q (pc + 3) L (v.toList ++ rest) σ') : W p l e (rmD n) s m args below meth c H locs 0 0 (MQ below (Qo Γ Q) args s 0 0 (AB Γ)) (F0 m pc ls st0) := by
  intro T hT X
  obtain ⟨v, st₀, t, T', L', h0, X', hL, e1, e2, ⟨⟨v', σ', hv, hq, hp⟩, hz, hk⟩, stp⟩ := hr T hT X
  cases hv
  rw [h0] at hz hk
  obtain ⟨t2, a1, b1⟩ := kk v σ' hq p l e s m args below meth c T'.heap (locs ++ L') ls C (by rw [e1]; exact hp)
    ⟨Nat.le_trans hS.1 (by rw [e1]; exact hz), fun q h1 h2 => by rw [e1, hk q (Nat.lt_of_lt_of_le h1 hS.1) h2]; exact hS.2.1 q h1 h2, fun q hq => by
      rcases List.mem_append.mp hq with h | h
      · exact hS.2.2 q h
      · exact hL q h⟩ hl T' rfl X'
  exact ⟨t2, stp t2 a1, b1⟩
theorem rmD_le {n n' k : Nat} (h : n' + 1 ≤ n) (hk : k ≤ 100) : (rmD n').frames + 1 ≤ (rmD n).frames ∧ 8 + (k + 11) + (rmD n').locals ≤ (rmD n).locals := by
  simp only [rmD]
  omega
theorem good_cons {y : MethodName} {b : ByteArray} {k : Nat} {r : Option FieldType} (h : Cond.code y b k r ∈ TB) : GoodIn TB (Cond.code y b k r :: TB) := by
  intro w hw
  rcases List.mem_cons.mp hw with e | e
  · subst e; exact TB_good _ h
  · exact TB_good _ e
theorem go_callV {M' : Md} {As rest : List Value} {b idx ci np n' : Nat} {Q' : Option Value → Mm → Prop} (w : CV M.1.cls idx M' np ci) (hb : osh b = some ci) (sp : Sp Γ n' M' (rf Γ b :: As) σ Q') (hn : n' + 1 ≤ n) (hA : As.length = np) (hst : st = As.reverse ++ rf Γ b :: rest) (hr : (rest.map fun v => v.category).sum ≤ 8) (d : decode M.2.1 pc = .ok (.invokevirtual idx, 3))
    (kk : ∀ v σ', Q' v σ' → Go Γ n M Q (pc + 3) L (v.toList ++ rest) σ') : Go Γ n M Q pc L st σ := by
  intro p l e s m args below meth c H locs ls C hP hS hl
  obtain ⟨⟨w1, w2, w3, w4, w5⟩, w6, w7, w8⟩ := w
  obtain ⟨tpl, e1⟩ := osh_spec hb
  have hts := C.2.2.2.2.2.1
  cases hq : vwCl[ci]? with
  | none => rw [hq] at w6; cases w6
  | some q =>
    rw [hq] at w6
    have hqc : q.1 = M'.1.cls := Option.some.inj w6
    have hrecv := va_recv C.2.2.2.2.2.2.2.1 hP hq (wl_get e1)
    rw [hqc] at hrecv
    refine run_next (va_runV (As := As) (rest := rest) (C := M'.1.cls) ⟨C.1, C.2.1, C.2.2.2.1, C.2.2.2.2.1, hts⟩ (sp l) (bytes := M'.2.1) (maxL := M'.2.2.1) (ret := M'.2.2.2) ⟨callB_of np hts (good_cons w5) rfl rfl rfl (hts _ w4) (hts _ w1) w7 (rmD_le hn w8), hts _ w2, hts _ w3⟩ ⟨Wd.blind, hrecv, fun U hU hW => ⟨rfl, Wd.at C hP hS hU hW⟩⟩ rfl hA hl.1 hst (lv_room hr) d ⟨Nat.le_refl 0, Nat.le_refl 0⟩) C hS hl kk
theorem go_callS {M' : Md} {As rest : List Value} {idx np n' : Nat} {Q' : Option Value → Mm → Prop} (w : CS M.1.cls idx M' np) (sp : Sp Γ n' M' As σ Q') (hn : n' + 1 ≤ n) (hA : As.length = np) (hst : st = As.reverse ++ rest) (hr : (rest.map fun v => v.category).sum ≤ 8) (d : decode M.2.1 pc = .ok (.invokestatic idx, 3))
    (kk : ∀ v σ', Q' v σ' → Go Γ n M Q (pc + 3) L (v.toList ++ rest) σ') : Go Γ n M Q pc L st σ := by
  intro p l e s m args below meth c H locs ls C hP hS hl
  obtain ⟨⟨w1, w2, w4, w5⟩, w7, w8⟩ := w
  have hts := C.2.2.2.2.2.1
  exact run_next (va_runS (As := As) (rest := rest) ⟨C.1, C.2.1, C.2.2.2.1, C.2.2.2.2.1, hts⟩ (sp l) (bytes := M'.2.1) (maxL := M'.2.2.1) (ret := M'.2.2.2) ⟨callB_of np hts (good_cons w5) rfl rfl rfl (hts _ w4) (hts _ w1) w7 (rmD_le hn w8), hts _ w2⟩ ⟨Wd.blind, fun U hU hW => ⟨rfl, Wd.at C hP hS hU hW⟩⟩ rfl hA hl.1 hst (lv_room hr) d ⟨Nat.le_refl 0, Nat.le_refl 0⟩) C hS hl kk
/-- entry -/
theorem sp_intro {av : List Value} (hy : plainName M.1.cls = true) (hlen : (lg_sl av).length ≤ M.2.2.1) (hL : ∀ ls : Array Slot, lv_has ls M.2.2.1 (lv_args 0 av) → LH ls M.2.2.1 L) (k : Go Γ n M Q 0 L [] σ) : Sp Γ n M av σ Q := by
  intro l
  refine Met.ofW (cc := M.2.1) (maxL := M.2.2.1) (ret := M.2.2.2) hy rfl ?_
  intro p e s m args below meth c s₁ B hml hv
  obtain ⟨rfl, hP, hK, hZ⟩ := hv
  have hts := atoms_spec (ws := Cond.code M.1 M.2.1 M.2.2.1 M.2.2.2 :: TB) B.pre
  have hown : s.vm.findClass M.1.cls = some m.cls := findClass_of_methodNamed B.named
  have hl := lv_entry av (n := M.2.2.1) hlen
  rw [lg_entry_eq]
  generalize (lg_sl av ++ List.replicate (M.2.2.1 - (lg_sl av).length) Slot.unset).toArray = ls at hl ⊢
  exact k p l e s m av.toArray below meth c s.heap [] ls ⟨B.exec, B.bytes, B.returns, hml, hown, fun w h => hts w (List.mem_cons_of_mem _ h), B.notSynchronized, hK, hZ⟩ hP va_S.rf (hL ls hl)
theorem sp_mono {av : List Value} {Q' : Option Value → Mm → Prop} (h : Sp Γ n M av σ Q') (hQ : ∀ v σ', Q' v σ' → Q v σ') : Sp Γ n M av σ Q := by
  intro l p e ha hc hk s m args below hf happ hP hK
  obtain ⟨t, o, h1, h2, h3, ⟨⟨v, σ', c1, c2, c3⟩, c4⟩, h5⟩ := h l p e ha hc hk s m args below hf happ hP hK
  exact ⟨t, o, h1, h2, h3, ⟨⟨v, σ', c1, hQ v σ' c2, c3⟩, c4⟩, h5⟩
/-- ends -/
theorem go_iret {v : Int32} (hr : M.2.2.2 = some .int) (d : decode M.2.1 pc = .ok (.ireturn, 1)) (hq : Q (some (.int v)) σ) : Go Γ n M Q pc L [.int v] σ := by
  intro p l e s m args below meth c H locs ls C hP hS hl
  exact W.iret C.1 C.2.1 (C.2.2.1.trans hr) (fun t ht _ => ⟨⟨_, σ, rfl, hq, by rw [ht]; exact hP⟩, hS.F ht⟩) hS.2.2 d C.2.2.2.2.2.2.1
theorem go_zret {v : Int32} (hr : M.2.2.2 = some .boolean) (d : decode M.2.1 pc = .ok (.ireturn, 1)) (hv : v = 0 ∨ v = 1) (hq : Q (some (.int v)) σ) : Go Γ n M Q pc L [.int v] σ := by
  intro p l e s m args below meth c H locs ls C hP hS hl
  exact W.zret (ty := .boolean) C.1 C.2.1 (C.2.2.1.trans hr) (by rcases hv with rfl | rfl <;> rfl) (fun t ht _ => ⟨⟨_, σ, rfl, hq, by rw [ht]; exact hP⟩, hS.F ht⟩) hS.2.2 d C.2.2.2.2.2.2.1
theorem go_lret {v : Int64} (hr : M.2.2.2 = some .long) (d : decode M.2.1 pc = .ok (.lreturn, 1)) (hq : Q (some (.long v)) σ) : Go Γ n M Q pc L [.long v] σ := by
  intro p l e s m args below meth c H locs ls C hP hS hl
  exact W.lret C.1 C.2.1 (C.2.2.1.trans hr) (fun t ht _ => ⟨⟨_, σ, rfl, hq, by rw [ht]; exact hP⟩, hS.F ht⟩) hS.2.2 d C.2.2.2.2.2.2.1
theorem go_vret (hr : M.2.2.2 = none) (d : decode M.2.1 pc = .ok (.return_, 1)) (hq : Q none σ) : Go Γ n M Q pc L [] σ := by
  intro p l e s m args below meth c H locs ls C hP hS hl
  exact W.vret C.1 C.2.1 (C.2.2.1.trans hr) (fun t ht _ => ⟨⟨_, σ, rfl, hq, by rw [ht]; exact hP⟩, hS.F ht⟩) hS.2.2 d C.2.2.2.2.2.2.1
/-- System.arraycopy of a whole row of ints -/
theorem go_acopy {a b na nb k idx : Nat} {i0 i1 ik : Int32} (h0 : i0 = nI 0) (h1 : i1 = nI 0) (hk : ik = nI k) (ha : ash a = some na) (hb : ash b = some nb) (hka : k ≤ na) (hkb : k ≤ nb) (hn1 : 1 ≤ n) (hk31 : k < 2 ^ 31) (w : Cond.methodLink M.1.cls idx arraycopyName ∈ TB) (w1 : Cond.native arraycopyName ∈ TB) (w2 : Cond.static arraycopyName ∈ TB) (w3 : Cond.initialized "java/lang/System" ∈ TB)
    (hr : (st.map fun v => v.category).sum ≤ 8) (d : decode M.2.1 pc = .ok (.invokestatic idx, 3)) (kk : Go Γ n M Q (pc + 3) L st (stA σ b (va_cpy (σ.1 a) (σ.1 b) 0 0 k))) : Go Γ n M Q pc L (.int ik :: .int i1 :: rf Γ b :: .int i0 :: rf Γ a :: st) σ := by
  intro p l e s m args below meth c H locs ls C hP hS hl
  have hts := C.2.2.2.2.2.1
  subst h0; subst h1; subst hk
  have z : (nI 0).toNatClampNeg = 0 := nI_clamp (by omega)
  have zk : (nI k).toNatClampNeg = k := nI_clamp hk31
  refine va_copyi C.1 C.2.1 (C.2.2.2.1.trans hl.1.symm) C.2.2.2.2.1 (hts _ w) (hts _ w1) (hts _ w2) (hts _ w3) C.2.2.2.2.2.2.2.1 hP wl_D hS a b 0 0 (ty := .int) (wl_get (ash_spec ha)) (wl_get (ash_spec hb)) rfl rfl rfl (nI_pos (by omega)) (nI_pos (by omega)) (nI_pos hk31) (by rw [z, zk]; omega) (by rw [z, zk]; omega) (fun _ _ => rfl) hn1 ?_ d (fun H1 locs1 h1 _ h3 => ?_)
  · have e1 : nativeFrameWords "java/lang/System" "arraycopy" 5 + 11 ≤ 100 := by decide
    have e2 : (rmD n).locals = 128 * n := rfl
    omega
  · rw [z, zk, wl_stA (ash_spec hb)] at h1
    exact kk p l e s m args below meth c H1 locs1 ls C h1 h3 hl
end GO2
