/-! the law over the flat memory -/
def Lx (Γ : Gm) (p : Program) (s : State) (m : MethodId) (meth : Method) (c : Code) (b L : Nat) (xs : Nat → Int32) : Prop := lw_At p s m meth c b L xs ∧ L ≤ 256 ∧ va_K Γ.1 vwCl (tysG Γ) s ∧ SWs Γ s ∧ ∀ a, a < 74 → s.heap.size ≤ Γ.2.1.1 a
def Lw (p : Program) (l : Launch) (e : Env) (s : State) (m : MethodId) (below : List Frame) (meth : Method) (c : Code) (b : Nat) (Γ : Gm) (x : Int32) (pc : Nat) (st : List Value) (σ : Mm) : Prop :=
  ∀ (H : Heap) (locs : List Loc) (ls : Array Slot), va_P Γ.1 vwCl (wl Γ σ) H → va_S (fun q : Nat => s.heap.size ≤ q) s.heap H locs → LH ls 4 [some (.ref b), some (rf Γ 0), some (rf Γ 58), some (.int x)] →
    W p l e room_1 s m #[Value.ref b] below meth c H locs 600000 7302250 (lw_Z below #[Value.ref b] s) (F0 m pc ls st)
theorem and31 (v : Int32) : ∃ n : Nat, n ≤ 31 ∧ v &&& 31 = nI n := by
  have h1 : (v &&& 31).toBitVec = BitVec.ofNat 32 ((v &&& 31).toBitVec.toNat) := by simp
  have h2 : (v &&& 31).toBitVec.toNat ≤ 31 := by
    have : (v &&& 31).toBitVec = v.toBitVec &&& (31#32) := by simp
    rw [this, BitVec.toNat_and]
    exact Nat.and_le_right
  exact ⟨_, h2, Int32.toBitVec_inj.mp h1⟩
theorem cmp_same (v : Int64) : lg_cmp v v = 0 := by
  unfold lg_cmp
  rw [if_neg (Int64.lt_irrefl), if_pos rfl]
section LAW
variable {p : Program} {l : Launch} {e : Env} {s : State} {m : MethodId} {below : List Frame} {meth : Method} {c : Code} {b L : Nat} {xs : Nat → Int32} {Γ : Gm} {x : Int32} {pc : Nat} {st : List Value} {σ : Mm}
theorem lr_aload {k : Fin 4} {i a : Nat} (C : Lx Γ p s m meth c b L xs) (d : decode cL_law pc = .ok (.aload_n k, 1)) (hi : (k : Nat) = i) (ha : ([some (.ref b), some (rf Γ 0), some (rf Γ 58), some (.int x)] : List (Option Value))[i]? = some (some (.ref a))) (kk : Lw p l e s m below meth c b Γ x (pc + 1) (.ref a :: st) σ) : Lw p l e s m below meth c b Γ x pc st σ := fun H locs ls hP hS hl => lv_aload_n C.1.1 C.1.2.1 d hi (hl.at ha) (kk H locs ls hP hS hl)
theorem lr_iload (C : Lx Γ p s m meth c b L xs) (d : decode cL_law pc = .ok (.iload_n 3, 1)) (kk : Lw p l e s m below meth c b Γ x (pc + 1) (.int x :: st) σ) : Lw p l e s m below meth c b Γ x pc st σ := fun H locs ls hP hS hl => lv_iload_n C.1.1 C.1.2.1 d rfl (hl.at (i := 3) rfl) (kk H locs ls hP hS hl)
theorem lr_iconst {k : Int} {v : Int32} (C : Lx Γ p s m meth c b L xs) (d : decode cL_law pc = .ok (.iconst k, 1)) (hv : Int32.ofInt k = v) (kk : Lw p l e s m below meth c b Γ x (pc + 1) (.int v :: st) σ) : Lw p l e s m below meth c b Γ x pc st σ := fun H locs ls hP hS hl => lv_iconst C.1.1 C.1.2.1 d hv (kk H locs ls hP hS hl)
theorem lr_bipush {k : Int} {v : Int32} (C : Lx Γ p s m meth c b L xs) (d : decode cL_law pc = .ok (.bipush k, 2)) (hv : (Int8.ofInt k).toInt32 = v) (kk : Lw p l e s m below meth c b Γ x (pc + 2) (.int v :: st) σ) : Lw p l e s m below meth c b Γ x pc st σ := fun H locs ls hP hS hl => lv_bipush C.1.1 C.1.2.1 d hv (kk H locs ls hP hS hl)
theorem lr_iadd {y z : Int32} (C : Lx Γ p s m meth c b L xs) (d : decode cL_law pc = .ok (.iadd, 1)) (kk : Lw p l e s m below meth c b Γ x (pc + 1) (.int (y + z) :: st) σ) : Lw p l e s m below meth c b Γ x pc (.int z :: .int y :: st) σ := fun H locs ls hP hS hl => lv_iadd C.1.1 C.1.2.1 d (kk H locs ls hP hS hl)
theorem lr_isub {y z : Int32} (C : Lx Γ p s m meth c b L xs) (d : decode cL_law pc = .ok (.isub, 1)) (kk : Lw p l e s m below meth c b Γ x (pc + 1) (.int (y - z) :: st) σ) : Lw p l e s m below meth c b Γ x pc (.int z :: .int y :: st) σ := fun H locs ls hP hS hl => lv_isub C.1.1 C.1.2.1 d (kk H locs ls hP hS hl)
theorem lr_iand {y z : Int32} (C : Lx Γ p s m meth c b L xs) (d : decode cL_law pc = .ok (.iand, 1)) (kk : Lw p l e s m below meth c b Γ x (pc + 1) (.int (y &&& z) :: st) σ) : Lw p l e s m below meth c b Γ x pc (.int z :: .int y :: st) σ := fun H locs ls hP hS hl => lv_iand C.1.1 C.1.2.1 d (kk H locs ls hP hS hl)
theorem lr_sld {y : Int32} {j : Nat} (C : Lx Γ p s m meth c b L xs) (hy : y = nI j) (hj : j < L) (d : decode cL_law pc = .ok (.iaload, 1)) (kk : Lw p l e s m below meth c b Γ x (pc + 1) (.int (xs j) :: st) σ) : Lw p l e s m below meth c b Γ x pc (.int y :: .ref b :: st) σ := by
  intro H locs ls hP hS hl
  subst hy
  have hL := C.2.1
  obtain ⟨hx, hb, hret, hml, hown, hts, hX, hbl, hlocks, hgv⟩ := C.1
  refine va_sld hx hb hX hbl (Nat.not_le.mpr hbl) hS (vp_in_nI hj (by omega)) d ?_
  rw [nI_clamp (by omega)]
  exact kk H locs ls hP hS hl
theorem lr_slen (C : Lx Γ p s m meth c b L xs) (d : decode cL_law pc = .ok (.arraylength, 1)) (kk : Lw p l e s m below meth c b Γ x (pc + 1) (.int (nI L) :: st) σ) : Lw p l e s m below meth c b Γ x pc (.ref b :: st) σ := by
  intro H locs ls hP hS hl
  obtain ⟨hx, hb, hret, hml, hown, hts, hX, hbl, hlocks, hgv⟩ := C.1
  exact va_slen hx hb hX hbl (Nat.not_le.mpr hbl) hS d (kk H locs ls hP hS hl)
theorem lr_same {v : Int32} {off : Int} {tgt : Nat} (C : Lx Γ p s m meth c b L xs) (d : decode cL_law pc = .ok (.if_icmp .eq off, 3)) (ht : (pc : Int) + off = (tgt : Int)) (kk : Lw p l e s m below meth c b Γ x tgt st σ) : Lw p l e s m below meth c b Γ x pc (.int v :: .int v :: st) σ := fun H locs ls hP hS hl => lv_icmp_eq C.1.1 C.1.2.1 d ht (fun _ => kk H locs ls hP hS hl) (fun z => absurd rfl z)
theorem lr_sameL {v : Int64} {off : Int} {tgt : Nat} (C : Lx Γ p s m meth c b L xs) (d : decode cL_law pc = .ok (.lcmp, 1)) (d2 : decode cL_law (pc + 1) = .ok (.ifCond .eq off, 3)) (ht : ((pc + 1 : Nat) : Int) + off = (tgt : Int)) (kk : Lw p l e s m below meth c b Γ x tgt st σ) : Lw p l e s m below meth c b Γ x pc (.long v :: .long v :: st) σ := fun H locs ls hP hS hl => W.lcmp C.1.1 C.1.2.1 d (lv_if_eq C.1.1 C.1.2.1 d2 ht (fun _ => kk H locs ls hP hS hl) (fun z => absurd (cmp_same v) z))
theorem lr_gt {y z : Int32} {off : Int} {tgt : Nat} (C : Lx Γ p s m meth c b L xs) (d : decode cL_law pc = .ok (.if_icmp .gt off, 3)) (ht : (pc : Int) + off = (tgt : Int)) (kt : z < y → Lw p l e s m below meth c b Γ x tgt st σ) (kf : ¬ (z < y) → Lw p l e s m below meth c b Γ x (pc + 3) st σ) : Lw p l e s m below meth c b Γ x pc (.int z :: .int y :: st) σ := fun H locs ls hP hS hl => lv_icmp_gt C.1.1 C.1.2.1 d ht (fun q => kt q H locs ls hP hS hl) (fun q => kf q H locs ls hP hS hl)
theorem lr_goto {off : Int} {tgt : Nat} (C : Lx Γ p s m meth c b L xs) (d : decode cL_law pc = .ok (.goto off, 3)) (ht : (pc : Int) + off = (tgt : Int)) (kk : Lw p l e s m below meth c b Γ x tgt st σ) : Lw p l e s m below meth c b Γ x pc st σ := fun H locs ls hP hS hl => lv_goto C.1.1 C.1.2.1 d ht (kk H locs ls hP hS hl)
theorem lr_iinc {y : Int32} (C : Lx Γ p s m meth c b L xs) (hy : x + 4 = y) (d : decode cL_law pc = .ok (.iinc 3 4, 3)) (kk : Lw p l e s m below meth c b Γ y (pc + 3) st σ) : Lw p l e s m below meth c b Γ x pc st σ := by
  intro H locs ls hP hS hl
  subst hy
  have hg := hl.at (i := 3) (v := .int x) rfl
  obtain ⟨ls', e', h'⟩ := LH.store1 (i := 3) (v := .int (x + 4)) hl (by decide) rfl rfl
  intro T hT X
  obtain ⟨t, a, b'⟩ := kk H locs ls' hP hS h' T hT X
  refine ⟨t, ?_, b'⟩
  have hexec := C.1.1
  have hb := C.1.2.1
  jvm_step X.here [X.here.top, ↓top_set X.here.top, hexec, hb, d, hg, e']
  exact a
theorem lr_tab {n0 tgt : Nat} {off : Int} (C : Lx Γ p s m meth c b L xs) (h : n0 ≤ 28) (ho : (#[132, 155, 168, 181, 194, 227, 260, 293, 326, 369, 402, 435, 458, 481, 494, 527, 560, 583, 606, 619, 642, 685, 728, 741, 764, 807, 820, 833, 856] : Array Int)[n0]? = some off) (ht : ((32 : Nat) : Int) + off = (tgt : Int)) (kk : Lw p l e s m below meth c b Γ x tgt st σ) : Lw p l e s m below meth c b Γ x 32 (.int (nI n0) :: st) σ := by
  intro H locs ls hP hS hl
  have e1 : (nI n0).toInt = (n0 : Int) := nI_toInt (by omega)
  refine lv_tableIn C.1.1 C.1.2.1 dL_law_32 (by rw [e1]; omega) (by rw [e1]; omega) (off := off) ?_ ht (kk H locs ls hP hS hl)
  rw [e1, show ((n0 : Int) - 0).toNat = n0 by omega]
  exact ho
theorem lr_tabOut {n0 : Nat} (C : Lx Γ p s m meth c b L xs) (h : 28 < n0) (h2 : n0 ≤ 31) (kk : Lw p l e s m below meth c b Γ x 902 st σ) : Lw p l e s m below meth c b Γ x 32 (.int (nI n0) :: st) σ := by
  intro H locs ls hP hS hl
  have e1 : (nI n0).toInt = (n0 : Int) := nI_toInt (by omega)
  exact lv_tableOut C.1.1 C.1.2.1 dL_law_32 (Or.inr (by rw [e1]; omega)) (tgt := 902) (by decide) (kk H locs ls hP hS hl)
theorem lr_arg {j k : Nat} {z : Int} (C : Lx Γ p s m meth c b L xs) (hx : x = nI (4 * j)) (hj : 4 * j + 4 ≤ L) (hk : k < 4) (hz : Int32.ofInt z = nI k) (d0 : decode cL_law pc = .ok (.aload_n 0, 1)) (d1 : decode cL_law (pc + 1) = .ok (.iload_n 3, 1)) (d2 : decode cL_law (pc + 2) = .ok (.iconst z, 1)) (d3 : decode cL_law (pc + 3) = .ok (.iadd, 1)) (d4 : decode cL_law (pc + 4) = .ok (.iaload, 1)) (kk : Lw p l e s m below meth c b Γ x (pc + 5) (.int (xs (4 * j + k)) :: st) σ) : Lw p l e s m below meth c b Γ x pc st σ := by
  refine lr_aload C d0 rfl rfl ?_
  refine lr_iload C d1 ?_
  refine lr_iconst C d2 hz ?_
  refine lr_iadd C d3 ?_
  exact lr_sld C (by rw [hx, nI_add]) (by omega) d4 kk
theorem lr_call {M' : Md} {As rest : List Value} {a idx ci np n' : Nat} {Q' : Option Value → Mm → Prop} (C : Lx Γ p s m meth c b L xs) (w : CV RL idx M' np ci) (ha : osh a = some ci) (sp : Sp Γ n' M' (rf Γ a :: As) σ Q') (hn : n' ≤ 20) (hA : As.length = np) (hst : st = As.reverse ++ rf Γ a :: rest) (hr : (rest.map fun v => v.category).sum ≤ 8) (d : decode cL_law pc = .ok (.invokevirtual idx, 3))
    (kk : ∀ v σ', Q' v σ' → Lw p l e s m below meth c b Γ x (pc + 3) (v.toList ++ rest) σ') : Lw p l e s m below meth c b Γ x pc st σ := by
  intro H locs ls hP hS hl
  obtain ⟨⟨hx, hb, hret, hml, hown, hts0, hX, hbl, hlocks, hgv⟩, hL, hK, ⟨hZ, hT9, hN⟩, hge⟩ := id C
  have hts : ∀ w ∈ TB, w.before #[Value.ref b] s = true := fun w hw => hts0 w (List.mem_filter.mp hw).1
  have hkept : ∀ q : Nat, q < s.heap.size → ¬ AB Γ q → H[q]? = s.heap[q]? := fun q h1 _ => hS.2.1 q h1 (Nat.not_le.mpr h1)
  have hAB : ∀ q : Nat, AB Γ q → s.heap.size ≤ q := fun q h => by
    obtain ⟨a9, h1, h2⟩ := h
    rw [h2]
    exact hge a9 h1
  obtain ⟨⟨w1, w2, w3, w4, w5⟩, w6, w7, w8⟩ := w
  obtain ⟨tpl, e1⟩ := osh_spec ha
  have hrm : (rmD n').frames + 1 ≤ room_1.frames ∧ 8 + (M'.2.2.1 + 11) + (rmD n').locals ≤ room_1.locals := by
    simp only [rmD, room_1]
    omega
  cases hq : vwCl[ci]? with
  | none => rw [hq] at w6; cases w6
  | some q =>
    rw [hq] at w6
    have hqc : q.1 = M'.1.cls := Option.some.inj w6
    have hrecv := va_recv hK hP hq (wl_get e1)
    rw [hqc] at hrecv
    have run := va_runV (l := l) (e := e) (R := room_1) (below := below) (meth := meth) (locs := locs) (cells := 600000) (slots := 7302250) (As := As) (rest := rest) (C := M'.1.cls) (g := F0 m pc ls st) ⟨hx, hb, hml, hown, hts⟩ (sp l) (bytes := M'.2.1) (maxL := M'.2.2.1) (ret := M'.2.2.2) ⟨callB_of np hts (good_cons w5) rfl rfl rfl (hts _ w4) (hts _ w1) w7 hrm, hts _ w2, hts _ w3⟩ ⟨Wd.blind, hrecv, fun U hU hW => ⟨rfl, by subst hU; exact ⟨hP, va_K.moved hW.alike hK, (hZ.kept hkept).moved hW.alike, (hT9.kept hkept).moved hW.alike, va_Nw.warmF hW hN⟩⟩⟩ rfl hA hl.1 hst (lv_room hr) d ⟨by decide, by decide⟩
    intro T hT X
    obtain ⟨v, st₀, t, T', L', h0, X', hLs, e1', e2', ⟨⟨v', σ', hv, hq', hp⟩, hz, hk⟩, stp⟩ := run T hT X
    cases hv
    rw [h0] at hz hk
    obtain ⟨t2, a1, b1⟩ := kk v σ' hq' T'.heap (locs ++ L') ls (by rw [e1']; exact hp)
      ⟨Nat.le_trans hS.1 (by rw [e1']; exact hz), fun q h1 h2 => by rw [e1', hk q (Nat.lt_of_lt_of_le h1 hS.1) (fun z => h2 (hAB q z))]; exact hS.2.1 q h1 h2, fun q hq => by
        rcases List.mem_append.mp hq with h | h
        · exact hS.2.2 q h
        · exact hAB _ (hLs q h)⟩ hl T' rfl X'
    exact ⟨t2, stp t2 a1, b1⟩
theorem lr_end (C : Lx Γ p s m meth c b L xs) : Lw p l e s m below meth c b Γ x 908 [] σ := by
  refine lr_iconst (v := 1) C dL_law_908 (by decide) ?_
  intro H locs ls hP hS hl
  obtain ⟨⟨hx, hb, hret, hml, hown, hts0, hX, hbl, hlocks, hgv⟩, -⟩ := id C
  refine va_forget (fun q hq => hS.2.2 q hq) ?_
  exact lw_ret hx hb hret hlocks dL_law_909

theorem lc_letter (C : Lx Γ p s m meth c b L xs) {j : Nat} {X : Xs} (hj : 4 * j + 4 ≤ L) (hI : XI j X) (hC : RC σ X) (hM : RM σ X) (kk : ∀ (σ' : Mm) (X' : Xs), XI (j + 1) X' → RC σ' X' → RM σ' X' → Lw p l e s m below meth c b Γ (nI (4 * j)) 902 [] σ') : Lw p l e s m below meth c b Γ (nI (4 * j)) 164 [] σ := by
  refine lr_aload C dL_law_164 rfl rfl ?_
  refine lr_arg C (k := 1) rfl hj (by decide) (by decide) dL_law_165 dL_law_166 dL_law_167 dL_law_168 dL_law_169 ?_
  refine lr_call C (As := [.int (xs (4 * j + 1))]) (rest := []) cvL_13 rfl (sc_letter hI hC) (by decide) rfl rfl (Nat.le_of_ble_eq_true rfl) dL_law_170 ?_
  rintro v σ1 ⟨rfl, hC1, hF1⟩
  have hM1 := RM.frc hM hF1
  refine lr_aload C dL_law_173 rfl rfl ?_
  refine lr_arg C (k := 1) rfl hj (by decide) (by decide) dL_law_174 dL_law_175 dL_law_176 dL_law_177 dL_law_178 ?_
  refine lr_call C (As := [.int (xs (4 * j + 1))]) (rest := [.int (aLetter X (xs (4 * j + 1)))]) cvL_17 rfl (sm_letter hI hM1) (by decide) rfl rfl (Nat.le_of_ble_eq_true rfl) dL_law_179 ?_
  rintro v σ2 ⟨rfl, hM2, hF2⟩
  have hC2 := RC.frm (xi_letter hI) hC1 hF2
  exact lr_same C dL_law_182 (tgt := 902) (by decide) (kk _ (tLetter X (xs (4 * j + 1))) (xi_letter hI) hC2 hM2)
theorem lc_blank (C : Lx Γ p s m meth c b L xs) {j : Nat} {X : Xs} (hj : 4 * j + 4 ≤ L) (hI : XI j X) (hC : RC σ X) (hM : RM σ X) (kk : ∀ (σ' : Mm) (X' : Xs), XI (j + 1) X' → RC σ' X' → RM σ' X' → Lw p l e s m below meth c b Γ (nI (4 * j)) 902 [] σ') : Lw p l e s m below meth c b Γ (nI (4 * j)) 187 [] σ := by
  refine lr_aload C dL_law_187 rfl rfl ?_
  refine lr_call C (As := []) (rest := []) cvL_18 rfl (sc_blank hI hC) (by decide) rfl rfl (Nat.le_of_ble_eq_true rfl) dL_law_188 ?_
  rintro v σ1 ⟨rfl, hC1, hF1⟩
  have hM1 := RM.frc hM hF1
  refine lr_aload C dL_law_191 rfl rfl ?_
  refine lr_call C (As := []) (rest := [.int (aBlank X)]) cvL_22 rfl (sm_blank hM1) (by decide) rfl rfl (Nat.le_of_ble_eq_true rfl) dL_law_192 ?_
  rintro v σ2 ⟨rfl, hM2, hF2⟩
  have hC2 := RC.frm (xi_blank hI) hC1 hF2
  exact lr_same C dL_law_195 (tgt := 902) (by decide) (kk _ (tBlank X) (xi_blank hI) hC2 hM2)
theorem lc_fault (C : Lx Γ p s m meth c b L xs) {j : Nat} {X : Xs} (hj : 4 * j + 4 ≤ L) (hI : XI j X) (hC : RC σ X) (hM : RM σ X) (kk : ∀ (σ' : Mm) (X' : Xs), XI (j + 1) X' → RC σ' X' → RM σ' X' → Lw p l e s m below meth c b Γ (nI (4 * j)) 902 [] σ') : Lw p l e s m below meth c b Γ (nI (4 * j)) 200 [] σ := by
  refine lr_aload C dL_law_200 rfl rfl ?_
  refine lr_call C (As := []) (rest := []) cvL_23 rfl (sc_fault hI hC) (by decide) rfl rfl (Nat.le_of_ble_eq_true rfl) dL_law_201 ?_
  rintro v σ1 ⟨rfl, hC1, hF1⟩
  have hM1 := RM.frc hM hF1
  refine lr_aload C dL_law_204 rfl rfl ?_
  refine lr_call C (As := []) (rest := [.int (aFault X)]) cvL_26 rfl (sm_fault hI hM1) (by decide) rfl rfl (Nat.le_of_ble_eq_true rfl) dL_law_205 ?_
  rintro v σ2 ⟨rfl, hM2, hF2⟩
  have hC2 := RC.frm hI.up hC1 hF2
  exact lr_same C dL_law_208 (tgt := 902) (by decide) (kk _ X hI.up hC2 hM2)
theorem lc_card (C : Lx Γ p s m meth c b L xs) {j : Nat} {X : Xs} (hj : 4 * j + 4 ≤ L) (hI : XI j X) (hC : RC σ X) (hM : RM σ X) (kk : ∀ (σ' : Mm) (X' : Xs), XI (j + 1) X' → RC σ' X' → RM σ' X' → Lw p l e s m below meth c b Γ (nI (4 * j)) 902 [] σ') : Lw p l e s m below meth c b Γ (nI (4 * j)) 213 [] σ := by
  refine lr_aload C dL_law_213 rfl rfl ?_
  refine lr_call C (As := []) (rest := []) cvL_27 rfl (sc_card hI hC) (by decide) rfl rfl (Nat.le_of_ble_eq_true rfl) dL_law_214 ?_
  rintro v σ1 ⟨rfl, hC1, hF1⟩
  have hM1 := RM.frc hM hF1
  refine lr_aload C dL_law_217 rfl rfl ?_
  refine lr_call C (As := []) (rest := [.int (aCard X)]) cvL_30 rfl (sm_card hI hM1) (by decide) rfl rfl (Nat.le_of_ble_eq_true rfl) dL_law_218 ?_
  rintro v σ2 ⟨rfl, hM2, hF2⟩
  have hC2 := RC.frm (xi_card hI) hC1 hF2
  exact lr_same C dL_law_221 (tgt := 902) (by decide) (kk _ (tCard X) (xi_card hI) hC2 hM2)
theorem lc_dish (C : Lx Γ p s m meth c b L xs) {j : Nat} {X : Xs} (hj : 4 * j + 4 ≤ L) (hI : XI j X) (hC : RC σ X) (hM : RM σ X) (kk : ∀ (σ' : Mm) (X' : Xs), XI (j + 1) X' → RC σ' X' → RM σ' X' → Lw p l e s m below meth c b Γ (nI (4 * j)) 902 [] σ') : Lw p l e s m below meth c b Γ (nI (4 * j)) 226 [] σ := by
  refine lr_aload C dL_law_226 rfl rfl ?_
  refine lr_arg C (k := 1) rfl hj (by decide) (by decide) dL_law_227 dL_law_228 dL_law_229 dL_law_230 dL_law_231 ?_
  refine lr_arg C (k := 2) rfl hj (by decide) (by decide) dL_law_232 dL_law_233 dL_law_234 dL_law_235 dL_law_236 ?_
  refine lr_call C (As := [.int (xs (4 * j + 1)), .int (xs (4 * j + 2))]) (rest := []) cvL_31 rfl (sc_dish hI hC) (by decide) rfl rfl (Nat.le_of_ble_eq_true rfl) dL_law_237 ?_
  rintro v σ1 ⟨rfl, rfl⟩
  refine lr_aload C dL_law_240 rfl rfl ?_
  refine lr_arg C (k := 1) rfl hj (by decide) (by decide) dL_law_241 dL_law_242 dL_law_243 dL_law_244 dL_law_245 ?_
  refine lr_arg C (k := 2) rfl hj (by decide) (by decide) dL_law_246 dL_law_247 dL_law_248 dL_law_249 dL_law_250 ?_
  refine lr_call C (As := [.int (xs (4 * j + 1)), .int (xs (4 * j + 2))]) (rest := [.int (aDish X (xs (4 * j + 1)) (xs (4 * j + 2)))]) cvL_35 rfl (sm_dish hM) (by decide) rfl rfl (Nat.le_of_ble_eq_true rfl) dL_law_251 ?_
  rintro v σ2 ⟨rfl, rfl⟩
  exact lr_same C dL_law_254 (tgt := 902) (by decide) (kk _ X hI.up hC hM)
theorem lc_guest (C : Lx Γ p s m meth c b L xs) {j : Nat} {X : Xs} (hj : 4 * j + 4 ≤ L) (hI : XI j X) (hC : RC σ X) (hM : RM σ X) (kk : ∀ (σ' : Mm) (X' : Xs), XI (j + 1) X' → RC σ' X' → RM σ' X' → Lw p l e s m below meth c b Γ (nI (4 * j)) 902 [] σ') : Lw p l e s m below meth c b Γ (nI (4 * j)) 259 [] σ := by
  refine lr_aload C dL_law_259 rfl rfl ?_
  refine lr_arg C (k := 1) rfl hj (by decide) (by decide) dL_law_260 dL_law_261 dL_law_262 dL_law_263 dL_law_264 ?_
  refine lr_arg C (k := 2) rfl hj (by decide) (by decide) dL_law_265 dL_law_266 dL_law_267 dL_law_268 dL_law_269 ?_
  refine lr_call C (As := [.int (xs (4 * j + 1)), .int (xs (4 * j + 2))]) (rest := []) cvL_36 rfl (sc_guest hI hC) (by decide) rfl rfl (Nat.le_of_ble_eq_true rfl) dL_law_270 ?_
  rintro v σ1 ⟨rfl, hC1, hF1⟩
  have hM1 := RM.frc hM hF1
  refine lr_aload C dL_law_273 rfl rfl ?_
  refine lr_arg C (k := 1) rfl hj (by decide) (by decide) dL_law_274 dL_law_275 dL_law_276 dL_law_277 dL_law_278 ?_
  refine lr_arg C (k := 2) rfl hj (by decide) (by decide) dL_law_279 dL_law_280 dL_law_281 dL_law_282 dL_law_283 ?_
  refine lr_call C (As := [.int (xs (4 * j + 1)), .int (xs (4 * j + 2))]) (rest := [.int (aGuest X (xs (4 * j + 1)) (xs (4 * j + 2)))]) cvL_39 rfl (sm_guest hI hM1) (by decide) rfl rfl (Nat.le_of_ble_eq_true rfl) dL_law_284 ?_
  rintro v σ2 ⟨rfl, hM2, hF2⟩
  have hC2 := RC.frm (xi_guest hI) hC1 hF2
  exact lr_same C dL_law_287 (tgt := 902) (by decide) (kk _ (tGuest X (xs (4 * j + 1)) (xs (4 * j + 2))) (xi_guest hI) hC2 hM2)
theorem lc_about (C : Lx Γ p s m meth c b L xs) {j : Nat} {X : Xs} (hj : 4 * j + 4 ≤ L) (hI : XI j X) (hC : RC σ X) (hM : RM σ X) (kk : ∀ (σ' : Mm) (X' : Xs), XI (j + 1) X' → RC σ' X' → RM σ' X' → Lw p l e s m below meth c b Γ (nI (4 * j)) 902 [] σ') : Lw p l e s m below meth c b Γ (nI (4 * j)) 292 [] σ := by
  refine lr_aload C dL_law_292 rfl rfl ?_
  refine lr_arg C (k := 1) rfl hj (by decide) (by decide) dL_law_293 dL_law_294 dL_law_295 dL_law_296 dL_law_297 ?_
  refine lr_arg C (k := 2) rfl hj (by decide) (by decide) dL_law_298 dL_law_299 dL_law_300 dL_law_301 dL_law_302 ?_
  refine lr_call C (As := [.int (xs (4 * j + 1)), .int (xs (4 * j + 2))]) (rest := []) cvL_40 rfl (sc_about hI hC) (by decide) rfl rfl (Nat.le_of_ble_eq_true rfl) dL_law_303 ?_
  rintro v σ1 ⟨rfl, rfl⟩
  refine lr_aload C dL_law_306 rfl rfl ?_
  refine lr_arg C (k := 1) rfl hj (by decide) (by decide) dL_law_307 dL_law_308 dL_law_309 dL_law_310 dL_law_311 ?_
  refine lr_arg C (k := 2) rfl hj (by decide) (by decide) dL_law_312 dL_law_313 dL_law_314 dL_law_315 dL_law_316 ?_
  refine lr_call C (As := [.int (xs (4 * j + 1)), .int (xs (4 * j + 2))]) (rest := [.int (aAbout X (xs (4 * j + 1)) (xs (4 * j + 2)))]) cvL_43 rfl (sm_about hI hM) (by decide) rfl rfl (Nat.le_of_ble_eq_true rfl) dL_law_317 ?_
  rintro v σ2 ⟨rfl, rfl⟩
  exact lr_same C dL_law_320 (tgt := 902) (by decide) (kk _ X hI.up hC hM)
theorem lc_as (C : Lx Γ p s m meth c b L xs) {j : Nat} {X : Xs} (hj : 4 * j + 4 ≤ L) (hI : XI j X) (hC : RC σ X) (hM : RM σ X) (kk : ∀ (σ' : Mm) (X' : Xs), XI (j + 1) X' → RC σ' X' → RM σ' X' → Lw p l e s m below meth c b Γ (nI (4 * j)) 902 [] σ') : Lw p l e s m below meth c b Γ (nI (4 * j)) 325 [] σ := by
  refine lr_aload C dL_law_325 rfl rfl ?_
  refine lr_arg C (k := 1) rfl hj (by decide) (by decide) dL_law_326 dL_law_327 dL_law_328 dL_law_329 dL_law_330 ?_
  refine lr_arg C (k := 2) rfl hj (by decide) (by decide) dL_law_331 dL_law_332 dL_law_333 dL_law_334 dL_law_335 ?_
  refine lr_call C (As := [.int (xs (4 * j + 1)), .int (xs (4 * j + 2))]) (rest := []) cvL_44 rfl (sc_as hI hC) (by decide) rfl rfl (Nat.le_of_ble_eq_true rfl) dL_law_336 ?_
  rintro v σ1 ⟨rfl, rfl⟩
  refine lr_aload C dL_law_339 rfl rfl ?_
  refine lr_arg C (k := 1) rfl hj (by decide) (by decide) dL_law_340 dL_law_341 dL_law_342 dL_law_343 dL_law_344 ?_
  refine lr_arg C (k := 2) rfl hj (by decide) (by decide) dL_law_345 dL_law_346 dL_law_347 dL_law_348 dL_law_349 ?_
  refine lr_call C (As := [.int (xs (4 * j + 1)), .int (xs (4 * j + 2))]) (rest := [.int (aAs X (xs (4 * j + 1)) (xs (4 * j + 2)))]) cvL_47 rfl (sm_as hM) (by decide) rfl rfl (Nat.le_of_ble_eq_true rfl) dL_law_350 ?_
  rintro v σ2 ⟨rfl, rfl⟩
  exact lr_same C dL_law_353 (tgt := 902) (by decide) (kk _ X hI.up hC hM)
theorem lc_want (C : Lx Γ p s m meth c b L xs) {j : Nat} {X : Xs} (hj : 4 * j + 4 ≤ L) (hI : XI j X) (hC : RC σ X) (hM : RM σ X) (kk : ∀ (σ' : Mm) (X' : Xs), XI (j + 1) X' → RC σ' X' → RM σ' X' → Lw p l e s m below meth c b Γ (nI (4 * j)) 902 [] σ') : Lw p l e s m below meth c b Γ (nI (4 * j)) 358 [] σ := by
  refine lr_aload C dL_law_358 rfl rfl ?_
  refine lr_arg C (k := 1) rfl hj (by decide) (by decide) dL_law_359 dL_law_360 dL_law_361 dL_law_362 dL_law_363 ?_
  refine lr_arg C (k := 2) rfl hj (by decide) (by decide) dL_law_364 dL_law_365 dL_law_366 dL_law_367 dL_law_368 ?_
  refine lr_arg C (k := 3) rfl hj (by decide) (by decide) dL_law_369 dL_law_370 dL_law_371 dL_law_372 dL_law_373 ?_
  refine lr_call C (As := [.int (xs (4 * j + 1)), .int (xs (4 * j + 2)), .int (xs (4 * j + 3))]) (rest := []) cvL_48 rfl (sc_want hI hC) (by decide) rfl rfl (Nat.le_of_ble_eq_true rfl) dL_law_374 ?_
  rintro v σ1 ⟨rfl, hC1, hF1⟩
  have hM1 := RM.frc hM hF1
  refine lr_aload C dL_law_377 rfl rfl ?_
  refine lr_arg C (k := 1) rfl hj (by decide) (by decide) dL_law_378 dL_law_379 dL_law_380 dL_law_381 dL_law_382 ?_
  refine lr_arg C (k := 2) rfl hj (by decide) (by decide) dL_law_383 dL_law_384 dL_law_385 dL_law_386 dL_law_387 ?_
  refine lr_arg C (k := 3) rfl hj (by decide) (by decide) dL_law_388 dL_law_389 dL_law_390 dL_law_391 dL_law_392 ?_
  refine lr_call C (As := [.int (xs (4 * j + 1)), .int (xs (4 * j + 2)), .int (xs (4 * j + 3))]) (rest := [.int (aWant X (xs (4 * j + 1)) (xs (4 * j + 2)) (xs (4 * j + 3)))]) cvL_52 rfl (sm_want hM1) (by decide) rfl rfl (Nat.le_of_ble_eq_true rfl) dL_law_393 ?_
  rintro v σ2 ⟨rfl, hM2, hF2⟩
  have hC2 := RC.frm (xi_want hI) hC1 hF2
  exact lr_same C dL_law_396 (tgt := 902) (by decide) (kk _ (tWant X (xs (4 * j + 1)) (xs (4 * j + 2)) (xs (4 * j + 3))) (xi_want hI) hC2 hM2)
theorem lc_purse (C : Lx Γ p s m meth c b L xs) {j : Nat} {X : Xs} (hj : 4 * j + 4 ≤ L) (hI : XI j X) (hC : RC σ X) (hM : RM σ X) (kk : ∀ (σ' : Mm) (X' : Xs), XI (j + 1) X' → RC σ' X' → RM σ' X' → Lw p l e s m below meth c b Γ (nI (4 * j)) 902 [] σ') : Lw p l e s m below meth c b Γ (nI (4 * j)) 401 [] σ := by
  refine lr_aload C dL_law_401 rfl rfl ?_
  refine lr_arg C (k := 1) rfl hj (by decide) (by decide) dL_law_402 dL_law_403 dL_law_404 dL_law_405 dL_law_406 ?_
  refine lr_arg C (k := 2) rfl hj (by decide) (by decide) dL_law_407 dL_law_408 dL_law_409 dL_law_410 dL_law_411 ?_
  refine lr_call C (As := [.int (xs (4 * j + 1)), .int (xs (4 * j + 2))]) (rest := []) cvL_53 rfl (sc_purse hI hC) (by decide) rfl rfl (Nat.le_of_ble_eq_true rfl) dL_law_412 ?_
  rintro v σ1 ⟨rfl, hC1, hF1⟩
  have hM1 := RM.frc hM hF1
  refine lr_aload C dL_law_415 rfl rfl ?_
  refine lr_arg C (k := 1) rfl hj (by decide) (by decide) dL_law_416 dL_law_417 dL_law_418 dL_law_419 dL_law_420 ?_
  refine lr_arg C (k := 2) rfl hj (by decide) (by decide) dL_law_421 dL_law_422 dL_law_423 dL_law_424 dL_law_425 ?_
  refine lr_call C (As := [.int (xs (4 * j + 1)), .int (xs (4 * j + 2))]) (rest := [.int (aPurse X (xs (4 * j + 1)) (xs (4 * j + 2)))]) cvL_56 rfl (sm_purse hM1) (by decide) rfl rfl (Nat.le_of_ble_eq_true rfl) dL_law_426 ?_
  rintro v σ2 ⟨rfl, hM2, hF2⟩
  have hC2 := RC.frm (xi_purse hI) hC1 hF2
  exact lr_same C dL_law_429 (tgt := 902) (by decide) (kk _ (tPurse X (xs (4 * j + 1)) (xs (4 * j + 2))) (xi_purse hI) hC2 hM2)
theorem lc_urge (C : Lx Γ p s m meth c b L xs) {j : Nat} {X : Xs} (hj : 4 * j + 4 ≤ L) (hI : XI j X) (hC : RC σ X) (hM : RM σ X) (kk : ∀ (σ' : Mm) (X' : Xs), XI (j + 1) X' → RC σ' X' → RM σ' X' → Lw p l e s m below meth c b Γ (nI (4 * j)) 902 [] σ') : Lw p l e s m below meth c b Γ (nI (4 * j)) 434 [] σ := by
  refine lr_aload C dL_law_434 rfl rfl ?_
  refine lr_arg C (k := 1) rfl hj (by decide) (by decide) dL_law_435 dL_law_436 dL_law_437 dL_law_438 dL_law_439 ?_
  refine lr_arg C (k := 2) rfl hj (by decide) (by decide) dL_law_440 dL_law_441 dL_law_442 dL_law_443 dL_law_444 ?_
  refine lr_call C (As := [.int (xs (4 * j + 1)), .int (xs (4 * j + 2))]) (rest := []) cvL_57 rfl (sc_urge hI hC) (by decide) rfl rfl (Nat.le_of_ble_eq_true rfl) dL_law_445 ?_
  rintro v σ1 ⟨rfl, hC1, hF1⟩
  have hM1 := RM.frc hM hF1
  refine lr_aload C dL_law_448 rfl rfl ?_
  refine lr_arg C (k := 1) rfl hj (by decide) (by decide) dL_law_449 dL_law_450 dL_law_451 dL_law_452 dL_law_453 ?_
  refine lr_arg C (k := 2) rfl hj (by decide) (by decide) dL_law_454 dL_law_455 dL_law_456 dL_law_457 dL_law_458 ?_
  refine lr_call C (As := [.int (xs (4 * j + 1)), .int (xs (4 * j + 2))]) (rest := [.int (aUrge X (xs (4 * j + 1)) (xs (4 * j + 2)))]) cvL_60 rfl (sm_urge hM1) (by decide) rfl rfl (Nat.le_of_ble_eq_true rfl) dL_law_459 ?_
  rintro v σ2 ⟨rfl, hM2, hF2⟩
  have hC2 := RC.frm (xi_urge hI) hC1 hF2
  exact lr_same C dL_law_462 (tgt := 902) (by decide) (kk _ (tUrge X (xs (4 * j + 1)) (xs (4 * j + 2))) (xi_urge hI) hC2 hM2)
theorem lc_takes (C : Lx Γ p s m meth c b L xs) {j : Nat} {X : Xs} (hj : 4 * j + 4 ≤ L) (hI : XI j X) (hC : RC σ X) (hM : RM σ X) (kk : ∀ (σ' : Mm) (X' : Xs), XI (j + 1) X' → RC σ' X' → RM σ' X' → Lw p l e s m below meth c b Γ (nI (4 * j)) 902 [] σ') : Lw p l e s m below meth c b Γ (nI (4 * j)) 467 [] σ := by
  refine lr_aload C dL_law_467 rfl rfl ?_
  refine lr_arg C (k := 1) rfl hj (by decide) (by decide) dL_law_468 dL_law_469 dL_law_470 dL_law_471 dL_law_472 ?_
  refine lr_call C (As := [.int (xs (4 * j + 1))]) (rest := []) cvL_61 rfl (sc_takes hI hC) (by decide) rfl rfl (Nat.le_of_ble_eq_true rfl) dL_law_473 ?_
  rintro v σ1 ⟨rfl, rfl⟩
  refine lr_aload C dL_law_476 rfl rfl ?_
  refine lr_arg C (k := 1) rfl hj (by decide) (by decide) dL_law_477 dL_law_478 dL_law_479 dL_law_480 dL_law_481 ?_
  refine lr_call C (As := [.int (xs (4 * j + 1))]) (rest := [.int (aTakes X (xs (4 * j + 1)))]) cvL_64 rfl (sm_takes hM) (by decide) rfl rfl (Nat.le_of_ble_eq_true rfl) dL_law_482 ?_
  rintro v σ2 ⟨rfl, hM2, hF2⟩
  have hC2 := RC.frm hI.up hC hF2
  exact lr_same C dL_law_485 (tgt := 902) (by decide) (kk _ X hI.up hC2 hM2)
theorem lc_order (C : Lx Γ p s m meth c b L xs) {j : Nat} {X : Xs} (hj : 4 * j + 4 ≤ L) (hI : XI j X) (hC : RC σ X) (hM : RM σ X) (kk : ∀ (σ' : Mm) (X' : Xs), XI (j + 1) X' → RC σ' X' → RM σ' X' → Lw p l e s m below meth c b Γ (nI (4 * j)) 902 [] σ') : Lw p l e s m below meth c b Γ (nI (4 * j)) 490 [] σ := by
  refine lr_aload C dL_law_490 rfl rfl ?_
  refine lr_arg C (k := 1) rfl hj (by decide) (by decide) dL_law_491 dL_law_492 dL_law_493 dL_law_494 dL_law_495 ?_
  refine lr_call C (As := [.int (xs (4 * j + 1))]) (rest := []) cvL_65 rfl (sc_order hI hC) (by decide) rfl rfl (Nat.le_of_ble_eq_true rfl) dL_law_496 ?_
  rintro v σ1 ⟨rfl, hC1, hF1⟩
  have hM1 := RM.frc hM hF1
  refine lr_aload C dL_law_499 rfl rfl ?_
  refine lr_arg C (k := 1) rfl hj (by decide) (by decide) dL_law_500 dL_law_501 dL_law_502 dL_law_503 dL_law_504 ?_
  refine lr_call C (As := [.int (xs (4 * j + 1))]) (rest := [.int (aTakes X (xs (4 * j + 1)))]) cvL_68 rfl (sm_order hM1) (by decide) rfl rfl (Nat.le_of_ble_eq_true rfl) dL_law_505 ?_
  rintro v σ2 ⟨rfl, hM2, hF2⟩
  have hC2 := RC.frm (xi_order hI) hC1 hF2
  exact lr_same C dL_law_508 (tgt := 902) (by decide) (kk _ (tOrder X (xs (4 * j + 1))) (xi_order hI) hC2 hM2)
theorem lc_clear (C : Lx Γ p s m meth c b L xs) {j : Nat} {X : Xs} (hj : 4 * j + 4 ≤ L) (hI : XI j X) (hC : RC σ X) (hM : RM σ X) (kk : ∀ (σ' : Mm) (X' : Xs), XI (j + 1) X' → RC σ' X' → RM σ' X' → Lw p l e s m below meth c b Γ (nI (4 * j)) 902 [] σ') : Lw p l e s m below meth c b Γ (nI (4 * j)) 513 [] σ := by
  refine lr_aload C dL_law_513 rfl rfl ?_
  refine lr_call C (As := []) (rest := []) cvL_69 rfl (sc_clear hI hC) (by decide) rfl rfl (Nat.le_of_ble_eq_true rfl) dL_law_514 ?_
  rintro v σ1 ⟨rfl, hC1, hF1⟩
  have hM1 := RM.frc hM hF1
  refine lr_aload C dL_law_517 rfl rfl ?_
  refine lr_call C (As := []) (rest := [.int (aClear X)]) cvL_72 rfl (sm_clear hM1) (by decide) rfl rfl (Nat.le_of_ble_eq_true rfl) dL_law_518 ?_
  rintro v σ2 ⟨rfl, hM2, hF2⟩
  have hC2 := RC.frm (xi_clear hI) hC1 hF2
  exact lr_same C dL_law_521 (tgt := 902) (by decide) (kk _ (tClear X) (xi_clear hI) hC2 hM2)
theorem lc_inTurn (C : Lx Γ p s m meth c b L xs) {j : Nat} {X : Xs} (hj : 4 * j + 4 ≤ L) (hI : XI j X) (hC : RC σ X) (hM : RM σ X) (kk : ∀ (σ' : Mm) (X' : Xs), XI (j + 1) X' → RC σ' X' → RM σ' X' → Lw p l e s m below meth c b Γ (nI (4 * j)) 902 [] σ') : Lw p l e s m below meth c b Γ (nI (4 * j)) 526 [] σ := by
  refine lr_aload C dL_law_526 rfl rfl ?_
  refine lr_arg C (k := 1) rfl hj (by decide) (by decide) dL_law_527 dL_law_528 dL_law_529 dL_law_530 dL_law_531 ?_
  refine lr_arg C (k := 2) rfl hj (by decide) (by decide) dL_law_532 dL_law_533 dL_law_534 dL_law_535 dL_law_536 ?_
  refine lr_call C (As := [.int (xs (4 * j + 1)), .int (xs (4 * j + 2))]) (rest := []) cvL_73 rfl (sc_inTurn hI hC) (by decide) rfl rfl (Nat.le_of_ble_eq_true rfl) dL_law_537 ?_
  rintro v σ1 ⟨rfl, hC1, hF1⟩
  have hM1 := RM.frc hM hF1
  refine lr_aload C dL_law_540 rfl rfl ?_
  refine lr_arg C (k := 1) rfl hj (by decide) (by decide) dL_law_541 dL_law_542 dL_law_543 dL_law_544 dL_law_545 ?_
  refine lr_arg C (k := 2) rfl hj (by decide) (by decide) dL_law_546 dL_law_547 dL_law_548 dL_law_549 dL_law_550 ?_
  refine lr_call C (As := [.int (xs (4 * j + 1)), .int (xs (4 * j + 2))]) (rest := [.int (aInTurn X (xs (4 * j + 1)) (xs (4 * j + 2)))]) cvL_76 rfl (sm_inTurn hM1) (by decide) rfl rfl (Nat.le_of_ble_eq_true rfl) dL_law_551 ?_
  rintro v σ2 ⟨rfl, hM2, hF2⟩
  have hC2 := RC.frm hI.up hC1 hF2
  exact lr_same C dL_law_554 (tgt := 902) (by decide) (kk _ X hI.up hC2 hM2)
theorem lc_begin (C : Lx Γ p s m meth c b L xs) {j : Nat} {X : Xs} (hj : 4 * j + 4 ≤ L) (hI : XI j X) (hC : RC σ X) (hM : RM σ X) (kk : ∀ (σ' : Mm) (X' : Xs), XI (j + 1) X' → RC σ' X' → RM σ' X' → Lw p l e s m below meth c b Γ (nI (4 * j)) 902 [] σ') : Lw p l e s m below meth c b Γ (nI (4 * j)) 559 [] σ := by
  refine lr_aload C dL_law_559 rfl rfl ?_
  refine lr_arg C (k := 1) rfl hj (by decide) (by decide) dL_law_560 dL_law_561 dL_law_562 dL_law_563 dL_law_564 ?_
  refine lr_arg C (k := 2) rfl hj (by decide) (by decide) dL_law_565 dL_law_566 dL_law_567 dL_law_568 dL_law_569 ?_
  refine lr_call C (As := [.int (xs (4 * j + 1)), .int (xs (4 * j + 2))]) (rest := []) cvL_77 rfl (sc_begin hI hC) (by decide) rfl rfl (Nat.le_of_ble_eq_true rfl) dL_law_570 ?_
  rintro v σ1 ⟨rfl, hC1, hF1⟩
  have hM1 := RM.frc hM hF1
  refine lr_aload C dL_law_573 rfl rfl ?_
  refine lr_arg C (k := 1) rfl hj (by decide) (by decide) dL_law_574 dL_law_575 dL_law_576 dL_law_577 dL_law_578 ?_
  refine lr_arg C (k := 2) rfl hj (by decide) (by decide) dL_law_579 dL_law_580 dL_law_581 dL_law_582 dL_law_583 ?_
  refine lr_call C (As := [.int (xs (4 * j + 1)), .int (xs (4 * j + 2))]) (rest := [.int (aBegin X (xs (4 * j + 1)) (xs (4 * j + 2)))]) cvL_80 rfl (sm_begin hI hM1) (by decide) rfl rfl (Nat.le_of_ble_eq_true rfl) dL_law_584 ?_
  rintro v σ2 ⟨rfl, hM2, hF2⟩
  have hC2 := RC.frm hI.up hC1 hF2
  exact lr_same C dL_law_587 (tgt := 902) (by decide) (kk _ X hI.up hC2 hM2)
theorem lc_atOnce (C : Lx Γ p s m meth c b L xs) {j : Nat} {X : Xs} (hj : 4 * j + 4 ≤ L) (hI : XI j X) (hC : RC σ X) (hM : RM σ X) (kk : ∀ (σ' : Mm) (X' : Xs), XI (j + 1) X' → RC σ' X' → RM σ' X' → Lw p l e s m below meth c b Γ (nI (4 * j)) 902 [] σ') : Lw p l e s m below meth c b Γ (nI (4 * j)) 592 [] σ := by
  refine lr_aload C dL_law_592 rfl rfl ?_
  refine lr_arg C (k := 1) rfl hj (by decide) (by decide) dL_law_593 dL_law_594 dL_law_595 dL_law_596 dL_law_597 ?_
  refine lr_call C (As := [.int (xs (4 * j + 1))]) (rest := []) cvL_81 rfl (sc_atOnce hI hC) (by decide) rfl rfl (Nat.le_of_ble_eq_true rfl) dL_law_598 ?_
  rintro v σ1 ⟨rfl, hC1, hF1⟩
  have hM1 := RM.frc hM hF1
  refine lr_aload C dL_law_601 rfl rfl ?_
  refine lr_arg C (k := 1) rfl hj (by decide) (by decide) dL_law_602 dL_law_603 dL_law_604 dL_law_605 dL_law_606 ?_
  refine lr_call C (As := [.int (xs (4 * j + 1))]) (rest := [.int (aAtOnce X (xs (4 * j + 1)))]) cvL_84 rfl (sm_atOnce hI (fun _ => at_code _) hM1) (by decide) rfl rfl (Nat.le_of_ble_eq_true rfl) dL_law_607 ?_
  rintro v σ2 ⟨rfl, hM2, hF2⟩
  have hC2 := RC.frm (xi_atOnce hI) hC1 hF2
  exact lr_same C dL_law_610 (tgt := 902) (by decide) (kk _ (tAtOnce X (xs (4 * j + 1))) (xi_atOnce hI) hC2 hM2)
theorem lc_minds (C : Lx Γ p s m meth c b L xs) {j : Nat} {X : Xs} (hj : 4 * j + 4 ≤ L) (hI : XI j X) (hC : RC σ X) (hM : RM σ X) (kk : ∀ (σ' : Mm) (X' : Xs), XI (j + 1) X' → RC σ' X' → RM σ' X' → Lw p l e s m below meth c b Γ (nI (4 * j)) 902 [] σ') : Lw p l e s m below meth c b Γ (nI (4 * j)) 615 [] σ := by
  refine lr_aload C dL_law_615 rfl rfl ?_
  refine lr_arg C (k := 1) rfl hj (by decide) (by decide) dL_law_616 dL_law_617 dL_law_618 dL_law_619 dL_law_620 ?_
  refine lr_call C (As := [.int (xs (4 * j + 1))]) (rest := []) cvL_85 rfl (sc_minds hI hC) (by decide) rfl rfl (Nat.le_of_ble_eq_true rfl) dL_law_621 ?_
  rintro v σ1 ⟨rfl, hC1, hF1⟩
  have hM1 := RM.frc hM hF1.frc
  refine lr_aload C dL_law_624 rfl rfl ?_
  refine lr_arg C (k := 1) rfl hj (by decide) (by decide) dL_law_625 dL_law_626 dL_law_627 dL_law_628 dL_law_629 ?_
  refine lr_call C (As := [.int (xs (4 * j + 1))]) (rest := [.int (aMinds X (xs (4 * j + 1)))]) cvL_88 rfl (sm_minds hI hM1) (by decide) rfl rfl (Nat.le_of_ble_eq_true rfl) dL_law_630 ?_
  rintro v σ2 ⟨rfl, hM2, hF2⟩
  have hC2 := RC.frm hI.up hC1 hF2
  exact lr_same C dL_law_633 (tgt := 902) (by decide) (kk _ X hI.up hC2 hM2)
theorem lc_host (C : Lx Γ p s m meth c b L xs) {j : Nat} {X : Xs} (hj : 4 * j + 4 ≤ L) (hI : XI j X) (hC : RC σ X) (hM : RM σ X) (kk : ∀ (σ' : Mm) (X' : Xs), XI (j + 1) X' → RC σ' X' → RM σ' X' → Lw p l e s m below meth c b Γ (nI (4 * j)) 902 [] σ') : Lw p l e s m below meth c b Γ (nI (4 * j)) 638 [] σ := by
  refine lr_aload C dL_law_638 rfl rfl ?_
  refine lr_call C (As := []) (rest := []) cvL_89 rfl (sc_host hI hC) (by decide) rfl rfl (Nat.le_of_ble_eq_true rfl) dL_law_639 ?_
  rintro v σ1 ⟨rfl, hC1, hF1⟩
  have hM1 := RM.frc hM hF1.frc
  refine lr_aload C dL_law_642 rfl rfl ?_
  refine lr_call C (As := []) (rest := [.int (aHost X)]) cvL_92 rfl (sm_host (host_code (HY.di hI.2.1)) hM1) (by decide) rfl rfl (Nat.le_of_ble_eq_true rfl) dL_law_643 ?_
  rintro v σ2 ⟨rfl, hM2, hF2⟩
  have hC2 := RC.frm hI.up hC1 hF2
  exact lr_same C dL_law_646 (tgt := 902) (by decide) (kk _ X hI.up hC2 hM2)
theorem lc_fewest (C : Lx Γ p s m meth c b L xs) {j : Nat} {X : Xs} (hj : 4 * j + 4 ≤ L) (hI : XI j X) (hC : RC σ X) (hM : RM σ X) (kk : ∀ (σ' : Mm) (X' : Xs), XI (j + 1) X' → RC σ' X' → RM σ' X' → Lw p l e s m below meth c b Γ (nI (4 * j)) 902 [] σ') : Lw p l e s m below meth c b Γ (nI (4 * j)) 651 [] σ := by
  refine lr_aload C dL_law_651 rfl rfl ?_
  refine lr_arg C (k := 1) rfl hj (by decide) (by decide) dL_law_652 dL_law_653 dL_law_654 dL_law_655 dL_law_656 ?_
  refine lr_call C (As := [.int (xs (4 * j + 1))]) (rest := []) cvL_93 rfl (sc_fewest hI hC) (by decide) rfl rfl (Nat.le_of_ble_eq_true rfl) dL_law_657 ?_
  rintro v σ1 ⟨rfl, rfl⟩
  refine lr_aload C dL_law_660 rfl rfl ?_
  refine lr_arg C (k := 1) rfl hj (by decide) (by decide) dL_law_661 dL_law_662 dL_law_663 dL_law_664 dL_law_665 ?_
  refine lr_call C (As := [.int (xs (4 * j + 1))]) (rest := [.int (aFewest X (xs (4 * j + 1)))]) cvL_96 rfl (sm_fewest hM) (by decide) rfl rfl (Nat.le_of_ble_eq_true rfl) dL_law_666 ?_
  rintro v σ2 ⟨rfl, rfl⟩
  exact lr_same C dL_law_669 (tgt := 902) (by decide) (kk _ X hI.up hC hM)
theorem lc_urges (C : Lx Γ p s m meth c b L xs) {j : Nat} {X : Xs} (hj : 4 * j + 4 ≤ L) (hI : XI j X) (hC : RC σ X) (hM : RM σ X) (kk : ∀ (σ' : Mm) (X' : Xs), XI (j + 1) X' → RC σ' X' → RM σ' X' → Lw p l e s m below meth c b Γ (nI (4 * j)) 902 [] σ') : Lw p l e s m below meth c b Γ (nI (4 * j)) 674 [] σ := by
  refine lr_aload C dL_law_674 rfl rfl ?_
  refine lr_arg C (k := 1) rfl hj (by decide) (by decide) dL_law_675 dL_law_676 dL_law_677 dL_law_678 dL_law_679 ?_
  refine lr_arg C (k := 2) rfl hj (by decide) (by decide) dL_law_680 dL_law_681 dL_law_682 dL_law_683 dL_law_684 ?_
  refine lr_arg C (k := 3) rfl hj (by decide) (by decide) dL_law_685 dL_law_686 dL_law_687 dL_law_688 dL_law_689 ?_
  refine lr_call C (As := [.int (xs (4 * j + 1)), .int (xs (4 * j + 2)), .int (xs (4 * j + 3))]) (rest := []) cvL_97 rfl (sc_urges hI hC) (by decide) rfl rfl (Nat.le_of_ble_eq_true rfl) dL_law_690 ?_
  rintro v σ1 ⟨rfl, hC1, hF1⟩
  have hM1 := RM.frc hM hF1
  refine lr_aload C dL_law_693 rfl rfl ?_
  refine lr_arg C (k := 1) rfl hj (by decide) (by decide) dL_law_694 dL_law_695 dL_law_696 dL_law_697 dL_law_698 ?_
  refine lr_arg C (k := 2) rfl hj (by decide) (by decide) dL_law_699 dL_law_700 dL_law_701 dL_law_702 dL_law_703 ?_
  refine lr_arg C (k := 3) rfl hj (by decide) (by decide) dL_law_704 dL_law_705 dL_law_706 dL_law_707 dL_law_708 ?_
  refine lr_call C (As := [.int (xs (4 * j + 1)), .int (xs (4 * j + 2)), .int (xs (4 * j + 3))]) (rest := [.int (aUrges X (xs (4 * j + 1)) (xs (4 * j + 2)) (xs (4 * j + 3)))]) cvL_100 rfl (sm_urges hM1) (by decide) rfl rfl (Nat.le_of_ble_eq_true rfl) dL_law_709 ?_
  rintro v σ2 ⟨rfl, hM2, hF2⟩
  have hC2 := RC.frm hI.up hC1 hF2
  exact lr_same C dL_law_712 (tgt := 902) (by decide) (kk _ X hI.up hC2 hM2)
theorem lc_evening (C : Lx Γ p s m meth c b L xs) {j : Nat} {X : Xs} (hj : 4 * j + 4 ≤ L) (hI : XI j X) (hC : RC σ X) (hM : RM σ X) (kk : ∀ (σ' : Mm) (X' : Xs), XI (j + 1) X' → RC σ' X' → RM σ' X' → Lw p l e s m below meth c b Γ (nI (4 * j)) 902 [] σ') : Lw p l e s m below meth c b Γ (nI (4 * j)) 717 [] σ := by
  refine lr_aload C dL_law_717 rfl rfl ?_
  refine lr_arg C (k := 1) rfl hj (by decide) (by decide) dL_law_718 dL_law_719 dL_law_720 dL_law_721 dL_law_722 ?_
  refine lr_arg C (k := 2) rfl hj (by decide) (by decide) dL_law_723 dL_law_724 dL_law_725 dL_law_726 dL_law_727 ?_
  refine lr_arg C (k := 3) rfl hj (by decide) (by decide) dL_law_728 dL_law_729 dL_law_730 dL_law_731 dL_law_732 ?_
  refine lr_call C (As := [.int (xs (4 * j + 1)), .int (xs (4 * j + 2)), .int (xs (4 * j + 3))]) (rest := []) cvL_101 rfl (sc_evening hI hC) (by decide) rfl rfl (Nat.le_of_ble_eq_true rfl) dL_law_733 ?_
  rintro v σ1 ⟨rfl, hC1, hF1⟩
  have hM1 := RM.frc hM hF1
  refine lr_aload C dL_law_736 rfl rfl ?_
  refine lr_arg C (k := 1) rfl hj (by decide) (by decide) dL_law_737 dL_law_738 dL_law_739 dL_law_740 dL_law_741 ?_
  refine lr_arg C (k := 2) rfl hj (by decide) (by decide) dL_law_742 dL_law_743 dL_law_744 dL_law_745 dL_law_746 ?_
  refine lr_arg C (k := 3) rfl hj (by decide) (by decide) dL_law_747 dL_law_748 dL_law_749 dL_law_750 dL_law_751 ?_
  refine lr_call C (As := [.int (xs (4 * j + 1)), .int (xs (4 * j + 2)), .int (xs (4 * j + 3))]) (rest := [.int (aEvening X (xs (4 * j + 1)) (xs (4 * j + 2)) (xs (4 * j + 3)))]) cvL_104 rfl (sm_evening hM1) (by decide) rfl rfl (Nat.le_of_ble_eq_true rfl) dL_law_752 ?_
  rintro v σ2 ⟨rfl, hM2, hF2⟩
  have hC2 := RC.frm (xi_evening hI) hC1 hF2
  exact lr_same C dL_law_755 (tgt := 902) (by decide) (kk _ (tEvening X (xs (4 * j + 1)) (xs (4 * j + 2)) (xs (4 * j + 3))) (xi_evening hI) hC2 hM2)
theorem lc_forget (C : Lx Γ p s m meth c b L xs) {j : Nat} {X : Xs} (hj : 4 * j + 4 ≤ L) (hI : XI j X) (hC : RC σ X) (hM : RM σ X) (kk : ∀ (σ' : Mm) (X' : Xs), XI (j + 1) X' → RC σ' X' → RM σ' X' → Lw p l e s m below meth c b Γ (nI (4 * j)) 902 [] σ') : Lw p l e s m below meth c b Γ (nI (4 * j)) 760 [] σ := by
  refine lr_aload C dL_law_760 rfl rfl ?_
  refine lr_call C (As := []) (rest := []) cvL_105 rfl (sc_forget hI hC) (by decide) rfl rfl (Nat.le_of_ble_eq_true rfl) dL_law_761 ?_
  rintro v σ1 ⟨rfl, hC1, hF1⟩
  have hM1 := RM.frc hM hF1
  refine lr_aload C dL_law_764 rfl rfl ?_
  refine lr_call C (As := []) (rest := [.int (aForget X)]) cvL_108 rfl (sm_forget hM1) (by decide) rfl rfl (Nat.le_of_ble_eq_true rfl) dL_law_765 ?_
  rintro v σ2 ⟨rfl, hM2, hF2⟩
  have hC2 := RC.frm (xi_forget hI) hC1 hF2
  exact lr_same C dL_law_768 (tgt := 902) (by decide) (kk _ (tForget X) (xi_forget hI) hC2 hM2)
theorem lc_fits (C : Lx Γ p s m meth c b L xs) {j : Nat} {X : Xs} (hj : 4 * j + 4 ≤ L) (hI : XI j X) (hC : RC σ X) (hM : RM σ X) (kk : ∀ (σ' : Mm) (X' : Xs), XI (j + 1) X' → RC σ' X' → RM σ' X' → Lw p l e s m below meth c b Γ (nI (4 * j)) 902 [] σ') : Lw p l e s m below meth c b Γ (nI (4 * j)) 773 [] σ := by
  refine lr_aload C dL_law_773 rfl rfl ?_
  refine lr_arg C (k := 1) rfl hj (by decide) (by decide) dL_law_774 dL_law_775 dL_law_776 dL_law_777 dL_law_778 ?_
  refine lr_call C (As := [.int (xs (4 * j + 1))]) (rest := []) cvL_109 rfl (sc_fits hI hC) (by decide) rfl rfl (Nat.le_of_ble_eq_true rfl) dL_law_779 ?_
  rintro v σ1 ⟨rfl, hC1, hF1⟩
  have hM1 := RM.frc hM hF1
  refine lr_aload C dL_law_782 rfl rfl ?_
  refine lr_arg C (k := 1) rfl hj (by decide) (by decide) dL_law_783 dL_law_784 dL_law_785 dL_law_786 dL_law_787 ?_
  refine lr_call C (As := [.int (xs (4 * j + 1))]) (rest := [.int (aFits X (xs (4 * j + 1)))]) cvL_112 rfl (sm_fits hM1) (by decide) rfl rfl (Nat.le_of_ble_eq_true rfl) dL_law_788 ?_
  rintro v σ2 ⟨rfl, hM2, hF2⟩
  have hC2 := RC.frm hI.up hC1 hF2
  exact lr_same C dL_law_791 (tgt := 902) (by decide) (kk _ X hI.up hC2 hM2)
theorem lc_evenings (C : Lx Γ p s m meth c b L xs) {j : Nat} {X : Xs} (hj : 4 * j + 4 ≤ L) (hI : XI j X) (hC : RC σ X) (hM : RM σ X) (kk : ∀ (σ' : Mm) (X' : Xs), XI (j + 1) X' → RC σ' X' → RM σ' X' → Lw p l e s m below meth c b Γ (nI (4 * j)) 902 [] σ') : Lw p l e s m below meth c b Γ (nI (4 * j)) 796 [] σ := by
  refine lr_aload C dL_law_796 rfl rfl ?_
  refine lr_arg C (k := 1) rfl hj (by decide) (by decide) dL_law_797 dL_law_798 dL_law_799 dL_law_800 dL_law_801 ?_
  refine lr_arg C (k := 2) rfl hj (by decide) (by decide) dL_law_802 dL_law_803 dL_law_804 dL_law_805 dL_law_806 ?_
  refine lr_arg C (k := 3) rfl hj (by decide) (by decide) dL_law_807 dL_law_808 dL_law_809 dL_law_810 dL_law_811 ?_
  refine lr_call C (As := [.int (xs (4 * j + 1)), .int (xs (4 * j + 2)), .int (xs (4 * j + 3))]) (rest := []) cvL_113 rfl (sc_evenings hI hC) (by decide) rfl rfl (Nat.le_of_ble_eq_true rfl) dL_law_812 ?_
  rintro v σ1 ⟨rfl, hC1, hF1⟩
  have hM1 := RM.frc hM hF1
  refine lr_aload C dL_law_815 rfl rfl ?_
  refine lr_arg C (k := 1) rfl hj (by decide) (by decide) dL_law_816 dL_law_817 dL_law_818 dL_law_819 dL_law_820 ?_
  refine lr_arg C (k := 2) rfl hj (by decide) (by decide) dL_law_821 dL_law_822 dL_law_823 dL_law_824 dL_law_825 ?_
  refine lr_arg C (k := 3) rfl hj (by decide) (by decide) dL_law_826 dL_law_827 dL_law_828 dL_law_829 dL_law_830 ?_
  refine lr_call C (As := [.int (xs (4 * j + 1)), .int (xs (4 * j + 2)), .int (xs (4 * j + 3))]) (rest := [.int (aEvenings X (xs (4 * j + 1)) (xs (4 * j + 2)) (xs (4 * j + 3)))]) cvL_116 rfl (sm_evenings hI hM1) (by decide) rfl rfl (Nat.le_of_ble_eq_true rfl) dL_law_831 ?_
  rintro v σ2 ⟨rfl, hM2, hF2⟩
  have hC2 := RC.frm hI.up hC1 hF2
  exact lr_same C dL_law_834 (tgt := 902) (by decide) (kk _ X hI.up hC2 hM2)
theorem lc_image (C : Lx Γ p s m meth c b L xs) {j : Nat} {X : Xs} (hj : 4 * j + 4 ≤ L) (hI : XI j X) (hC : RC σ X) (hM : RM σ X) (kk : ∀ (σ' : Mm) (X' : Xs), XI (j + 1) X' → RC σ' X' → RM σ' X' → Lw p l e s m below meth c b Γ (nI (4 * j)) 902 [] σ') : Lw p l e s m below meth c b Γ (nI (4 * j)) 839 [] σ := by
  refine lr_aload C dL_law_839 rfl rfl ?_
  refine lr_call C (As := []) (rest := []) cvL_117 rfl (sc_image hI hC) (by decide) rfl rfl (Nat.le_of_ble_eq_true rfl) dL_law_840 ?_
  rintro v σ1 ⟨rfl, hC1, hF1⟩
  have hM1 := RM.frc hM hF1
  refine lr_aload C dL_law_843 rfl rfl ?_
  refine lr_call C (As := []) (rest := [.int (aImage X)]) cvL_120 rfl (sm_image hI hM1) (by decide) rfl rfl (Nat.le_of_ble_eq_true rfl) dL_law_844 ?_
  rintro v σ2 ⟨rfl, hM2, hF2⟩
  have hC2 := RC.frm (xi_image hI) hC1 hF2
  exact lr_same C dL_law_847 (tgt := 902) (by decide) (kk _ (tImage X) (xi_image hI) hC2 hM2)
theorem lc_restore (C : Lx Γ p s m meth c b L xs) {j : Nat} {X : Xs} (hj : 4 * j + 4 ≤ L) (hI : XI j X) (hC : RC σ X) (hM : RM σ X) (kk : ∀ (σ' : Mm) (X' : Xs), XI (j + 1) X' → RC σ' X' → RM σ' X' → Lw p l e s m below meth c b Γ (nI (4 * j)) 902 [] σ') : Lw p l e s m below meth c b Γ (nI (4 * j)) 852 [] σ := by
  refine lr_aload C dL_law_852 rfl rfl ?_
  refine lr_call C (As := []) (rest := []) cvL_121 rfl (sc_restore (Nat.lt_of_le_of_lt (Nat.le_of_lt_succ (by have := C.2.1; omega : j < 257)) (by decide)) hI hC) (by decide) rfl rfl (Nat.le_of_ble_eq_true rfl) dL_law_853 ?_
  rintro v σ1 ⟨rfl, hC1, hF1⟩
  have hM1 := RM.frc hM hF1
  refine lr_aload C dL_law_856 rfl rfl ?_
  refine lr_call C (As := []) (rest := [.int (aRestore X)]) cvL_124 rfl (sm_restore (Nat.lt_of_le_of_lt (Nat.le_of_lt_succ (by have := C.2.1; omega : j < 257)) (by decide)) hI hM1) (by decide) rfl rfl (Nat.le_of_ble_eq_true rfl) dL_law_857 ?_
  rintro v σ2 ⟨rfl, hM2, hF2⟩
  have hC2 := RC.frm (xi_restore hI) hC1 hF2
  exact lr_same C dL_law_860 (tgt := 902) (by decide) (kk _ (tRestore X) (xi_restore hI) hC2 hM2)
theorem lc_count (C : Lx Γ p s m meth c b L xs) {j : Nat} {X : Xs} (hj : 4 * j + 4 ≤ L) (hI : XI j X) (hC : RC σ X) (hM : RM σ X) (kk : ∀ (σ' : Mm) (X' : Xs), XI (j + 1) X' → RC σ' X' → RM σ' X' → Lw p l e s m below meth c b Γ (nI (4 * j)) 902 [] σ') : Lw p l e s m below meth c b Γ (nI (4 * j)) 865 [] σ := by
  refine lr_aload C dL_law_865 rfl rfl ?_
  refine lr_arg C (k := 1) rfl hj (by decide) (by decide) dL_law_866 dL_law_867 dL_law_868 dL_law_869 dL_law_870 ?_
  refine lr_call C (As := [.int (xs (4 * j + 1))]) (rest := []) cvL_125 rfl (sc_count hI hC) (by decide) rfl rfl (Nat.le_of_ble_eq_true rfl) dL_law_871 ?_
  rintro v σ1 ⟨rfl, rfl⟩
  refine lr_aload C dL_law_874 rfl rfl ?_
  refine lr_arg C (k := 1) rfl hj (by decide) (by decide) dL_law_875 dL_law_876 dL_law_877 dL_law_878 dL_law_879 ?_
  refine lr_call C (As := [.int (xs (4 * j + 1))]) (rest := [.int (aCount X (xs (4 * j + 1)))]) cvL_128 rfl (sm_count hI hM) (by decide) rfl rfl (Nat.le_of_ble_eq_true rfl) dL_law_880 ?_
  rintro v σ2 ⟨rfl, rfl⟩
  exact lr_same C dL_law_883 (tgt := 902) (by decide) (kk _ X hI.up hC hM)
theorem lc_digest (C : Lx Γ p s m meth c b L xs) {j : Nat} {X : Xs} (hj : 4 * j + 4 ≤ L) (hI : XI j X) (hC : RC σ X) (hM : RM σ X) (kk : ∀ (σ' : Mm) (X' : Xs), XI (j + 1) X' → RC σ' X' → RM σ' X' → Lw p l e s m below meth c b Γ (nI (4 * j)) 902 [] σ') : Lw p l e s m below meth c b Γ (nI (4 * j)) 888 [] σ := by
  refine lr_aload C dL_law_888 rfl rfl ?_
  refine lr_call C (As := []) (rest := []) cvL_129 rfl (sc_digest hI hC) (by decide) rfl rfl (Nat.le_of_ble_eq_true rfl) dL_law_889 ?_
  rintro v σ1 ⟨rfl, hC1, hF1⟩
  have hM1 := RM.frc hM hF1
  refine lr_aload C dL_law_892 rfl rfl ?_
  refine lr_call C (As := []) (rest := [.long (aDigest X)]) cvL_133 rfl (sm_digest hI (host_code (HY.di hI.2.1)) hM1) (by decide) rfl rfl (Nat.le_of_ble_eq_true rfl) dL_law_893 ?_
  rintro v σ2 ⟨rfl, hM2, hF2⟩
  have hC2 := RC.frm hI.up hC1 hF2
  exact lr_sameL C dL_law_896 dL_law_897 (tgt := 902) (by decide) (kk _ X hI.up hC2 hM2)
theorem lr_body (C : Lx Γ p s m meth c b L xs) {j : Nat} {X : Xs} (hj : 4 * j + 4 ≤ L) (hI : XI j X) (hC : RC σ X) (hM : RM σ X) (kk : ∀ (σ' : Mm) (X' : Xs), XI (j + 1) X' → RC σ' X' → RM σ' X' → Lw p l e s m below meth c b Γ (nI (4 * j)) 902 [] σ') : Lw p l e s m below meth c b Γ (nI (4 * j)) 26 [] σ := by
  refine lr_aload C dL_law_26 rfl rfl ?_
  refine lr_iload C dL_law_27 ?_
  refine lr_sld C (j := 4 * j) rfl (by omega) dL_law_28 ?_
  refine lr_bipush (v := 31) C dL_law_29 (by decide) ?_
  refine lr_iand C dL_law_31 ?_
  obtain ⟨n0, h31, hn⟩ := and31 (xs (4 * j))
  rw [hn]
  match n0, h31 with
  | 0, _ => exact lr_tab C (by decide) (off := 132) rfl (tgt := 164) (by decide) (lc_letter C hj hI hC hM kk)
  | 1, _ => exact lr_tab C (by decide) (off := 155) rfl (tgt := 187) (by decide) (lc_blank C hj hI hC hM kk)
  | 2, _ => exact lr_tab C (by decide) (off := 168) rfl (tgt := 200) (by decide) (lc_fault C hj hI hC hM kk)
  | 3, _ => exact lr_tab C (by decide) (off := 181) rfl (tgt := 213) (by decide) (lc_card C hj hI hC hM kk)
  | 4, _ => exact lr_tab C (by decide) (off := 194) rfl (tgt := 226) (by decide) (lc_dish C hj hI hC hM kk)
  | 5, _ => exact lr_tab C (by decide) (off := 227) rfl (tgt := 259) (by decide) (lc_guest C hj hI hC hM kk)
  | 6, _ => exact lr_tab C (by decide) (off := 260) rfl (tgt := 292) (by decide) (lc_about C hj hI hC hM kk)
  | 7, _ => exact lr_tab C (by decide) (off := 293) rfl (tgt := 325) (by decide) (lc_as C hj hI hC hM kk)
  | 8, _ => exact lr_tab C (by decide) (off := 326) rfl (tgt := 358) (by decide) (lc_want C hj hI hC hM kk)
  | 9, _ => exact lr_tab C (by decide) (off := 369) rfl (tgt := 401) (by decide) (lc_purse C hj hI hC hM kk)
  | 10, _ => exact lr_tab C (by decide) (off := 402) rfl (tgt := 434) (by decide) (lc_urge C hj hI hC hM kk)
  | 11, _ => exact lr_tab C (by decide) (off := 435) rfl (tgt := 467) (by decide) (lc_takes C hj hI hC hM kk)
  | 12, _ => exact lr_tab C (by decide) (off := 458) rfl (tgt := 490) (by decide) (lc_order C hj hI hC hM kk)
  | 13, _ => exact lr_tab C (by decide) (off := 481) rfl (tgt := 513) (by decide) (lc_clear C hj hI hC hM kk)
  | 14, _ => exact lr_tab C (by decide) (off := 494) rfl (tgt := 526) (by decide) (lc_inTurn C hj hI hC hM kk)
  | 15, _ => exact lr_tab C (by decide) (off := 527) rfl (tgt := 559) (by decide) (lc_begin C hj hI hC hM kk)
  | 16, _ => exact lr_tab C (by decide) (off := 560) rfl (tgt := 592) (by decide) (lc_atOnce C hj hI hC hM kk)
  | 17, _ => exact lr_tab C (by decide) (off := 583) rfl (tgt := 615) (by decide) (lc_minds C hj hI hC hM kk)
  | 18, _ => exact lr_tab C (by decide) (off := 606) rfl (tgt := 638) (by decide) (lc_host C hj hI hC hM kk)
  | 19, _ => exact lr_tab C (by decide) (off := 619) rfl (tgt := 651) (by decide) (lc_fewest C hj hI hC hM kk)
  | 20, _ => exact lr_tab C (by decide) (off := 642) rfl (tgt := 674) (by decide) (lc_urges C hj hI hC hM kk)
  | 21, _ => exact lr_tab C (by decide) (off := 685) rfl (tgt := 717) (by decide) (lc_evening C hj hI hC hM kk)
  | 22, _ => exact lr_tab C (by decide) (off := 728) rfl (tgt := 760) (by decide) (lc_forget C hj hI hC hM kk)
  | 23, _ => exact lr_tab C (by decide) (off := 741) rfl (tgt := 773) (by decide) (lc_fits C hj hI hC hM kk)
  | 24, _ => exact lr_tab C (by decide) (off := 764) rfl (tgt := 796) (by decide) (lc_evenings C hj hI hC hM kk)
  | 25, _ => exact lr_tab C (by decide) (off := 807) rfl (tgt := 839) (by decide) (lc_image C hj hI hC hM kk)
  | 26, _ => exact lr_tab C (by decide) (off := 820) rfl (tgt := 852) (by decide) (lc_restore C hj hI hC hM kk)
  | 27, _ => exact lr_tab C (by decide) (off := 833) rfl (tgt := 865) (by decide) (lc_count C hj hI hC hM kk)
  | 28, _ => exact lr_tab C (by decide) (off := 856) rfl (tgt := 888) (by decide) (lc_digest C hj hI hC hM kk)
  | n + 29, h => exact lr_tabOut C (by omega) h (kk σ X hI.up hC hM)
theorem lr_loop (C : Lx Γ p s m meth c b L xs) : ∀ (n j : Nat) (σ : Mm) (X : Xs), L < 4 * j + 4 * n → 4 * j < 1000 → XI j X → RC σ X → RM σ X → Lw p l e s m below meth c b Γ (nI (4 * j)) 18 [] σ := by
  have hL := C.2.1
  have e4 : ∀ j : Nat, nI (4 * j) + 4 = nI (4 * (j + 1)) := fun j => by
    rw [show (4 : Int32) = nI 4 by decide, nI_add]
    rfl
  have head : ∀ (j : Nat) (σ : Mm), 4 * j < 1000 → (L < 4 * j + 4 → Lw p l e s m below meth c b Γ (nI (4 * j)) 908 [] σ) → (4 * j + 4 ≤ L → Lw p l e s m below meth c b Γ (nI (4 * j)) 26 [] σ) → Lw p l e s m below meth c b Γ (nI (4 * j)) 18 [] σ := by
    intro j σ hb k1 k2
    refine lr_iload C dL_law_18 ?_
    refine lr_aload C dL_law_19 rfl rfl ?_
    refine lr_slen C dL_law_20 ?_
    refine lr_iconst (v := 4) C dL_law_21 (by decide) ?_
    refine lr_isub C dL_law_22 ?_
    have key : nI L - 4 < nI (4 * j) ↔ L < 4 * j + 4 := by
      rw [Int32.lt_iff_toInt_lt, Int32.toInt_sub, nI_toInt (by omega), nI_toInt (by omega), show (4 : Int32).toInt = 4 by decide]
      rw [Int.bmod_eq_of_le (by omega) (by omega)]
      omega
    refine lr_gt C dL_law_23 (tgt := 908) (by decide) (fun q => k1 (key.mp q)) (fun q => k2 (by have := mt key.mpr q; omega))
  intro n
  induction n with
  | zero =>
    intro j σ X h hb hI hC hM
    exact head j σ hb (fun _ => lr_end C) (fun q => absurd q (by omega))
  | succ n ih =>
    intro j σ X h hb hI hC hM
    refine head j σ hb (fun _ => lr_end C) (fun q => ?_)
    refine lr_body C q hI hC hM (fun σ' X' hI' hC' hM' => ?_)
    refine lr_iinc C (e4 j) dL_law_902 ?_
    refine lr_goto C dL_law_905 (tgt := 18) (by decide) ?_
    exact ih (j + 1) σ' X' (by omega) (by omega) hI' hC' hM'
end LAW
