/-! The worlds of this claim: all cells that the two constructors make stand side by side from the base on; nothing is made behind them. A memory: int at (cell, place), long at a cell. -/
abbrev Mm : Type := (Nat → Nat → Int32) × (Nat → Int64)
/-- classes and slots, base, array classes (0 int[], 1 Guest[], 2 int[][]), the address of SWAYS -/
abbrev Gm : Type := va_G × { f : Nat → Nat // ∀ a b, a < 74 → b < 74 → f a = f b → a = b } × (Nat → ClassId) × Nat
abbrev Sh : Type := (Nat × List Nat) ⊕ (Nat ⊕ (Nat × List Nat))
def shpL : List Sh := [Sum.inl (8, [3, 5, 8, 20, 25, 29, 43, 0, 0]),
  Sum.inl (5, [4, 0]),
  Sum.inr (Sum.inl 22),
  Sum.inl (4, [6, 7, 0, 0]),
  Sum.inr (Sum.inl 6),
  Sum.inr (Sum.inl 6),
  Sum.inl (6, [9, 0]),
  Sum.inr (Sum.inr (1, [8, 10, 12, 14, 16])),
  Sum.inl (1, [11, 0, 0, 0]),
  Sum.inr (Sum.inl 6),
  Sum.inl (1, [13, 0, 0, 0]),
  Sum.inr (Sum.inl 6),
  Sum.inl (1, [15, 0, 0, 0]),
  Sum.inr (Sum.inl 6),
  Sum.inl (1, [17, 0, 0, 0]),
  Sum.inr (Sum.inl 6),
  Sum.inl (1, [19, 0, 0, 0]),
  Sum.inr (Sum.inl 6),
  Sum.inl (7, [5, 8, 21, 22, 23, 24, 0, 0, 0]),
  Sum.inr (Sum.inl 6),
  Sum.inr (Sum.inl 6),
  Sum.inr (Sum.inl 5),
  Sum.inr (Sum.inl 5),
  Sum.inl (3, [26, 27, 28, 0]),
  Sum.inr (Sum.inl 4),
  Sum.inr (Sum.inl 4),
  Sum.inr (Sum.inl 4),
  Sum.inl (0, [5, 8, 20, 38, 30, 31, 32, 0, 0, 1]),
  Sum.inr (Sum.inl 32),
  Sum.inr (Sum.inl 32),
  Sum.inr (Sum.inr (2, [31, 32, 33, 34, 35])),
  Sum.inr (Sum.inl 6),
  Sum.inr (Sum.inl 6),
  Sum.inr (Sum.inl 6),
  Sum.inr (Sum.inl 6),
  Sum.inr (Sum.inl 6),
  Sum.inl (7, [5, 8, 39, 40, 41, 42, 0, 0, 0]),
  Sum.inr (Sum.inl 6),
  Sum.inr (Sum.inl 6),
  Sum.inr (Sum.inl 5),
  Sum.inr (Sum.inl 5),
  Sum.inl (2, [51, 56, 44, 50, 0, 0]),
  Sum.inr (Sum.inr (2, [43, 44, 45, 46, 47])),
  Sum.inr (Sum.inl 6),
  Sum.inr (Sum.inl 6),
  Sum.inr (Sum.inl 6),
  Sum.inr (Sum.inl 6),
  Sum.inr (Sum.inl 6),
  Sum.inr (Sum.inl 5),
  Sum.inl (7, [5, 8, 52, 53, 54, 55, 0, 0, 0]),
  Sum.inr (Sum.inl 6),
  Sum.inr (Sum.inl 6),
  Sum.inr (Sum.inl 5),
  Sum.inr (Sum.inl 5),
  Sum.inl (3, [57, 58, 59, 0]),
  Sum.inr (Sum.inl 4),
  Sum.inr (Sum.inl 4),
  Sum.inr (Sum.inl 4),
  Sum.inl (9, [61, 0, 62, 63, 0, 0, 0, 0, 0, 0, 0, 0, 64, 65, 0, 66, 67, 68, 0, 0, 0, 69, 0, 0, 70, 0, 71, 0, 0, 0, 0, 0, 72, 73, 74, 75, 1]),
  Sum.inr (Sum.inl 22),
  Sum.inr (Sum.inl 6),
  Sum.inr (Sum.inl 6),
  Sum.inr (Sum.inl 6),
  Sum.inr (Sum.inl 6),
  Sum.inr (Sum.inl 10),
  Sum.inr (Sum.inl 30),
  Sum.inr (Sum.inl 5),
  Sum.inr (Sum.inl 5),
  Sum.inr (Sum.inl 12),
  Sum.inr (Sum.inl 30),
  Sum.inr (Sum.inl 30),
  Sum.inr (Sum.inl 10),
  Sum.inr (Sum.inl 5),
  Sum.inr (Sum.inl 12)]
/-- the words of the tables that are good everywhere -/
def TB : List Cond := lw_tbl.filter goodWord
theorem TB_good : GoodIn TB TB := fun w hw => ⟨hw, good_of_word (List.mem_filter.mp hw).2⟩
abbrev Md : Type := MethodName × ByteArray × Nat × Option FieldType
def rmD (n : Nat) : Room := { frames := n, cells := 0, slots := 0, locals := 128 * n }
abbrev rf (Γ : Gm) (a : Nat) : Value := .ref (Γ.2.1.1 a)
def tysG (Γ : Gm) : List (ClassId × FieldType) := [(Γ.2.2.1 0, .int), (Γ.2.2.1 1, .object "OrdersInTurn$Guest"), (Γ.2.2.1 2, .array .int)]
def fval (Γ : Gm) (σ : Mm) (a k : Nat) : Nat → Value
  | 0 => .int (σ.1 a k)
  | 1 => .long (σ.2 a)
  | r + 2 => rf Γ r
def flds (Γ : Gm) (σ : Mm) (a : Nat) (tpl : List Nat) : List Value := tpl.mapIdx (fun k t => fval Γ σ a k t)
theorem flds_get {Γ : Gm} {σ : Mm} {a k t : Nat} {tpl : List Nat} (h : tpl[k]? = some t) : (flds Γ σ a tpl)[k]? = some (fval Γ σ a k t) := by
  simp [flds, List.getElem?_mapIdx, h]
theorem flds_len {Γ : Gm} {σ : Mm} {a : Nat} {tpl : List Nat} : (flds Γ σ a tpl).length = tpl.length := by simp [flds]
def entS (Γ : Gm) (σ : Mm) (a : Nat) : Sh → va_E
  | .inl (ci, tpl) => .inr (ci, flds Γ σ a tpl)
  | .inr (.inl n) => .inl (Γ.2.2.1 0, n, .inl (σ.1 a))
  | .inr (.inr (t, rs)) => .inl (Γ.2.2.1 t, rs.length, .inr (.inr (.inr (.inr (fun j => (rs[j]?).map Γ.2.1.1)))))
def wl (Γ : Gm) (σ : Mm) : va_W := shpL.mapIdx (fun a h => (Γ.2.1.1 a, entS Γ σ a h))
def AB (Γ : Gm) : Nat → Prop := fun q => ∃ a, a < 74 ∧ q = Γ.2.1.1 a
theorem shpL_len : shpL.length = 74 := by decide +kernel
theorem shp_lt {a : Nat} {h : Sh} (e : shpL[a]? = some h) : a < 74 := by
  have := (List.getElem?_eq_some_iff.mp e).1
  rw [shpL_len] at this
  exact this
theorem wl_get {Γ : Gm} {σ : Mm} {a : Nat} {h : Sh} (e : shpL[a]? = some h) : (wl Γ σ)[a]? = some (Γ.2.1.1 a, entS Γ σ a h) := by
  simp [wl, List.getElem?_mapIdx, e]
theorem wl_D {Γ : Gm} {σ : Mm} : va_D (AB Γ) (wl Γ σ) := by
  have key : ∀ (i : Nat) (p : Nat × va_E), (wl Γ σ)[i]? = some p → p.1 = Γ.2.1.1 i ∧ i < 74 := by
    intro i p h
    simp only [wl, List.getElem?_mapIdx] at h
    cases e : shpL[i]? with
    | none => rw [e] at h; cases h
    | some x => rw [e] at h; cases h; exact ⟨rfl, shp_lt e⟩
  refine ⟨fun i j p q hi hj hpq => ?_, fun k q hk => ?_⟩
  · obtain ⟨h1, h2⟩ := key i p hi
    obtain ⟨h3, h4⟩ := key j q hj
    exact Γ.2.1.2 i j h2 h4 (by rw [← h1, ← h3]; exact hpq)
  · exact ⟨k, (key k q hk).2, (key k q hk).1⟩
/-- stores -/
def stI (σ : Mm) (a k : Nat) (v : Int32) : Mm := (fun x y => if x = a ∧ y = k then v else σ.1 x y, σ.2)
def stL (σ : Mm) (a : Nat) (v : Int64) : Mm := (σ.1, fun x => if x = a then v else σ.2 x)
def stA (σ : Mm) (a : Nat) (f : Nat → Int32) : Mm := (fun x => if x = a then f else σ.1 x, σ.2)
theorem stI_at {σ : Mm} {a k : Nat} {v : Int32} : (stI σ a k v).1 a k = v := by simp [stI]
theorem stI_ne {σ : Mm} {a k x y : Nat} {v : Int32} (h : x ≠ a ∨ y ≠ k) : (stI σ a k v).1 x y = σ.1 x y := by
  have : ¬ (x = a ∧ y = k) := fun q => h.elim (fun z => z q.1) (fun z => z q.2)
  simp [stI, this]
theorem stI_2 {σ : Mm} {a k : Nat} {v : Int32} : (stI σ a k v).2 = σ.2 := rfl
theorem stL_1 {σ : Mm} {a : Nat} {v : Int64} : (stL σ a v).1 = σ.1 := rfl
theorem stL_at {σ : Mm} {a : Nat} {v : Int64} : (stL σ a v).2 a = v := by simp [stL]
theorem stA_at {σ : Mm} {a : Nat} {f : Nat → Int32} : (stA σ a f).1 a = f := by simp [stA]
theorem stA_ne {σ : Mm} {a x : Nat} {f : Nat → Int32} (h : x ≠ a) : (stA σ a f).1 x = σ.1 x := by simp [stA, h]
theorem stA_2 {σ : Mm} {a : Nat} {f : Nat → Int32} : (stA σ a f).2 = σ.2 := rfl
theorem wl_ext {Γ : Gm} {W W' : va_W} (hl : W.length = W'.length) (h : ∀ (i : Nat) (x y : Nat × va_E), W[i]? = some x → W'[i]? = some y → x = y) : W = W' := by
  apply List.ext_getElem? 
  intro i
  by_cases hi : i < W.length
  · rw [List.getElem?_eq_getElem hi, List.getElem?_eq_getElem (hl ▸ hi)]
    exact congrArg some (h i _ _ (List.getElem?_eq_getElem hi) (List.getElem?_eq_getElem (hl ▸ hi)))
  · rw [List.getElem?_eq_none (by omega), List.getElem?_eq_none (by omega)]
theorem wl_len {Γ : Gm} {σ : Mm} : (wl Γ σ).length = 74 := by simp [wl, shpL_len]
/-- a world with another entry at a is the world of another memory that is the same elsewhere -/
theorem wl_upd {Γ : Gm} {σ σ' : Mm} {a : Nat} {h : Sh} {e : va_E} (ha : shpL[a]? = some h) (he : entS Γ σ' a h = e) (ho : ∀ (x : Nat) (h' : Sh), x ≠ a → shpL[x]? = some h' → entS Γ σ' x h' = entS Γ σ x h') : (wl Γ σ).set a (Γ.2.1.1 a, e) = wl Γ σ' := by
  refine wl_ext (Γ := Γ) (by rw [List.length_set, wl_len, wl_len]) fun i x y hx hy => ?_
  have hi : i < 74 := by have := (List.getElem?_eq_some_iff.mp hy).1; rw [wl_len] at this; exact this
  obtain ⟨h', e'⟩ : ∃ h', shpL[i]? = some h' := ⟨_, List.getElem?_eq_getElem (by rw [shpL_len]; exact hi)⟩
  rw [wl_get e'] at hy
  by_cases q : i = a
  · subst q
    rw [List.getElem?_set_self (by rw [wl_len]; exact hi)] at hx
    rw [ha] at e'
    cases e'
    cases hx
    cases hy
    rw [he]
  · rw [List.getElem?_set_ne (Ne.symm q), wl_get e'] at hx
    cases hx
    cases hy
    rw [ho i h' q e']
theorem entS_ext {Γ : Gm} {σ σ' : Mm} {a : Nat} {h : Sh} (h1 : σ'.1 a = σ.1 a) (h2 : σ'.2 a = σ.2 a) : entS Γ σ' a h = entS Γ σ a h := by
  rcases h with ⟨ci, tpl⟩ | n | ⟨t, rs⟩
  · have e : ∀ k t, fval Γ σ' a k t = fval Γ σ a k t := by
      intro k t
      match t with
      | 0 => simp [fval, h1]
      | 1 => simp [fval, h2]
      | r + 2 => rfl
    simp [entS, flds, e]
  · simp [entS, h1]
  · rfl
theorem wl_stI {Γ : Gm} {σ : Mm} {a k ci : Nat} {tpl : List Nat} {v : Int32} (ha : shpL[a]? = some (.inl (ci, tpl))) (hk : tpl[k]? = some 0) : (wl Γ σ).set a (Γ.2.1.1 a, .inr (ci, (flds Γ σ a tpl).set k (.int v))) = wl Γ (stI σ a k v) := by
  refine wl_upd ha ?_ fun x h' q e => entS_ext (funext fun y => stI_ne (Or.inl q)) rfl
  show Sum.inr (ci, flds Γ (stI σ a k v) a tpl) = Sum.inr (ci, (flds Γ σ a tpl).set k (.int v))
  congr 2
  apply List.ext_getElem?
  intro i
  have hkl : k < (flds Γ σ a tpl).length := by rw [flds_len]; exact (List.getElem?_eq_some_iff.mp hk).1
  by_cases q : i = k
  · subst q
    rw [List.getElem?_set_self hkl, flds_get hk]
    simp [fval, stI]
  · rw [List.getElem?_set_ne (Ne.symm q)]
    simp only [flds, List.getElem?_mapIdx]
    cases tpl[i]? with
    | none => rfl
    | some t =>
      match t with
      | 0 => simp [fval, stI, q]
      | 1 => rfl
      | r + 2 => rfl
theorem wl_stL {Γ : Gm} {σ : Mm} {a k ci : Nat} {tpl : List Nat} {v : Int64} (ha : shpL[a]? = some (.inl (ci, tpl))) (hk : tpl[k]? = some 1) (hu : ∀ i, i ≠ k → tpl[i]? ≠ some 1) : (wl Γ σ).set a (Γ.2.1.1 a, .inr (ci, (flds Γ σ a tpl).set k (.long v))) = wl Γ (stL σ a v) := by
  refine wl_upd ha ?_ fun x h' q e => entS_ext rfl (by simp [stL, q])
  show Sum.inr (ci, flds Γ (stL σ a v) a tpl) = Sum.inr (ci, (flds Γ σ a tpl).set k (.long v))
  congr 2
  apply List.ext_getElem?
  intro i
  have hkl : k < (flds Γ σ a tpl).length := by rw [flds_len]; exact (List.getElem?_eq_some_iff.mp hk).1
  by_cases q : i = k
  · subst q
    rw [List.getElem?_set_self hkl, flds_get hk]
    simp [fval, stL]
  · rw [List.getElem?_set_ne (Ne.symm q)]
    have h1 := hu i q
    simp only [flds, List.getElem?_mapIdx]
    cases e : tpl[i]? with
    | none => rfl
    | some t =>
      match t with
      | 0 => rfl
      | 1 => exact absurd e h1
      | r + 2 => rfl
theorem wl_stE {Γ : Gm} {σ : Mm} {a n i : Nat} {v : Int32} (ha : shpL[a]? = some (.inr (.inl n))) : (wl Γ σ).set a (Γ.2.1.1 a, .inl (Γ.2.2.1 0, n, .inl (upd (σ.1 a) i v))) = wl Γ (stI σ a i v) := by
  refine wl_upd ha ?_ fun x h' q e => entS_ext (funext fun y => stI_ne (Or.inl q)) rfl
  have e : (stI σ a i v).1 a = upd (σ.1 a) i v := by funext j; simp [stI, upd]
  simp [entS, e]
theorem wl_stA {Γ : Gm} {σ : Mm} {a n : Nat} {f : Nat → Int32} (ha : shpL[a]? = some (.inr (.inl n))) : (wl Γ σ).set a (Γ.2.1.1 a, .inl (Γ.2.2.1 0, n, .inl f)) = wl Γ (stA σ a f) := by
  refine wl_upd ha ?_ fun x h' q e => entS_ext (stA_ne q) rfl
  simp [entS, stA_at]
/-- locals by place -/
def cvL : Nat → List (Option Value) → List (Nat × Value)
  | _, [] => []
  | i, none :: r => cvL (i + 1) r
  | i, some v :: r => (i, v) :: cvL (i + 1) r
theorem cvL_mem : ∀ (L : List (Option Value)) (i : Nat) (q : Nat × Value), q ∈ cvL i L ↔ i ≤ q.1 ∧ L[q.1 - i]? = some (some q.2)
  | [], i, q => by simp [cvL]
  | none :: r, i, q => by
    rw [cvL, cvL_mem r (i + 1) q]
    constructor
    · rintro ⟨h1, h2⟩
      refine ⟨by omega, ?_⟩
      rw [show q.1 - i = (q.1 - (i + 1)) + 1 by omega, List.getElem?_cons_succ]
      exact h2
    · rintro ⟨h1, h2⟩
      by_cases e : q.1 = i
      · rw [e, Nat.sub_self] at h2
        simp at h2
      · rw [show q.1 - i = (q.1 - (i + 1)) + 1 by omega, List.getElem?_cons_succ] at h2
        exact ⟨by omega, h2⟩
  | some v :: r, i, q => by
    rw [cvL, List.mem_cons, cvL_mem r (i + 1) q]
    constructor
    · rintro (h | ⟨h1, h2⟩)
      · subst h; simp
      · refine ⟨by omega, ?_⟩
        rw [show q.1 - i = (q.1 - (i + 1)) + 1 by omega, List.getElem?_cons_succ]
        exact h2
    · rintro ⟨h1, h2⟩
      by_cases e : q.1 = i
      · rw [e, Nat.sub_self] at h2
        left
        obtain ⟨a, b⟩ := q
        simp at h2 e
        rw [e, h2]
      · rw [show q.1 - i = (q.1 - (i + 1)) + 1 by omega, List.getElem?_cons_succ] at h2
        exact Or.inr ⟨by omega, h2⟩
def LH (ls : Array Slot) (nL : Nat) (L : List (Option Value)) : Prop := lv_has ls nL (cvL 0 L)
theorem LH.at {ls : Array Slot} {nL : Nat} {L : List (Option Value)} (h : LH ls nL L) {i : Nat} {v : Value} (hk : L[i]? = some (some v)) : ls[i]? = some (.val v) := h.2.2 (i, v) ((cvL_mem L 0 (i, v)).mpr ⟨Nat.zero_le _, by simpa using hk⟩)
theorem LH.sub {ls : Array Slot} {nL : Nat} {L L' : List (Option Value)} (h : LH ls nL L) (hs : ∀ (i : Nat) (v : Value), L'[i]? = some (some v) → L[i]? = some (some v)) : LH ls nL L' :=
  ⟨h.1, h.2.1, fun q hq => h.2.2 q ((cvL_mem L 0 q).mpr ⟨Nat.zero_le _, hs _ _ ((cvL_mem L' 0 q).mp hq).2⟩)⟩
/-- forget some -/
def mskL : List Bool → List (Option Value) → List (Option Value)
  | true :: b, x :: r => x :: mskL b r
  | false :: b, _ :: r => none :: mskL b r
  | _, _ => []
theorem mskL_le : ∀ (b : List Bool) (L : List (Option Value)) (i : Nat) (v : Value), (mskL b L)[i]? = some (some v) → L[i]? = some (some v)
  | [], L, i, v => by simp [mskL]
  | b :: bs, [], i, v => by cases b <;> simp [mskL]
  | true :: bs, x :: r, 0, v => by simp [mskL]
  | false :: bs, x :: r, 0, v => by simp [mskL]
  | true :: bs, x :: r, i + 1, v => by simpa [mskL] using mskL_le bs r i v
  | false :: bs, x :: r, i + 1, v => by simpa [mskL] using mskL_le bs r i v
/-- the place below isn't one half of a long -/
def okS (L : List (Option Value)) : Nat → Bool
  | 0 => true
  | j + 1 => match L[j]? with
    | some (some v) => v.category == 1
    | _ => true
theorem LH.store1 {ls : Array Slot} {nL : Nat} {L : List (Option Value)} {i : Nat} {v : Value} (h : LH ls nL L) (hi : i < nL) (hc : v.category = 1) (ho : okS L i = true) : ∃ ls', storeLocals ls i v = some ls' ∧ LH ls' nL (L.set i (some v)) := by
  obtain ⟨ls', e, h'⟩ := lv_store1 (v := v) h hi hc
  refine ⟨ls', e, h'.1, h'.2.1, fun q hq => h'.2.2 q ?_⟩
  replace hq := ((cvL_mem _ 0 q).mp hq).2
  simp only [Nat.sub_zero] at hq
  by_cases e : q.1 = i
  · rw [e] at hq
    have hl : i < L.length := by
      have := (List.getElem?_eq_some_iff.mp hq).1
      simpa using this
    rw [List.getElem?_set_self hl] at hq
    have hv := Option.some.inj (Option.some.inj hq)
    exact List.mem_cons.mpr (Or.inl (Prod.ext e hv.symm))
  · rw [List.getElem?_set_ne (Ne.symm e)] at hq
    refine List.mem_cons.mpr (Or.inr (List.mem_filter.mpr ⟨(cvL_mem L 0 q).mpr ⟨Nat.zero_le _, by simpa using hq⟩, ?_⟩))
    have h1 : ¬ (q.1 + 1 = i ∧ q.2.category = 2) := by
      rintro ⟨h1, h2⟩
      subst h1
      simp only [okS] at ho
      split at ho
      · rename_i v9 hv9
        rw [hq] at hv9
        cases hv9
        rw [h2] at ho
        cases ho
      · rename_i hv9
        exact hv9 _ hq
    have h2 : ¬ q.1 + 1 = i ∨ ¬ q.2.category = 2 := by
      by_cases h3 : q.1 + 1 = i
      · exact Or.inr fun h4 => h1 ⟨h3, h4⟩
      · exact Or.inl h3
    simpa [e] using h2
theorem LH.store2 {ls : Array Slot} {nL : Nat} {L : List (Option Value)} {i : Nat} {v : Value} (h : LH ls nL L) (hi : i + 1 < nL) (hc : v.category = 2) (ho : okS L i = true) : ∃ ls', storeLocals ls i v = some ls' ∧ LH ls' nL ((L.set i (some v)).set (i + 1) none) := by
  obtain ⟨ls', e, h'⟩ := lv_store2 (v := v) h hi hc
  refine ⟨ls', e, h'.1, h'.2.1, fun q hq => h'.2.2 q ?_⟩
  replace hq := ((cvL_mem _ 0 q).mp hq).2
  simp only [Nat.sub_zero] at hq
  have e1 : q.1 ≠ i + 1 := by
    intro e1
    rw [e1] at hq
    have hl : i + 1 < (L.set i (some v)).length := by
      have := (List.getElem?_eq_some_iff.mp hq).1
      simpa using this
    rw [List.getElem?_set_self hl] at hq
    cases hq
  rw [List.getElem?_set_ne (Ne.symm e1)] at hq
  by_cases e : q.1 = i
  · rw [e] at hq
    have hl : i < L.length := by
      have := (List.getElem?_eq_some_iff.mp hq).1
      simpa using this
    rw [List.getElem?_set_self hl] at hq
    have hv := Option.some.inj (Option.some.inj hq)
    exact List.mem_cons.mpr (Or.inl (Prod.ext e hv.symm))
  · rw [List.getElem?_set_ne (Ne.symm e)] at hq
    refine List.mem_cons.mpr (Or.inr (List.mem_filter.mpr ⟨(cvL_mem L 0 q).mpr ⟨Nat.zero_le _, by simpa using hq⟩, ?_⟩))
    have h1 : ¬ (q.1 + 1 = i ∧ q.2.category = 2) := by
      rintro ⟨h1, h2⟩
      subst h1
      simp only [okS] at ho
      split at ho
      · rename_i v9 hv9
        rw [hq] at hv9
        cases hv9
        rw [h2] at ho
        cases ho
      · rename_i hv9
        exact hv9 _ hq
    have h2 : ¬ q.1 + 1 = i ∨ ¬ q.2.category = 2 := by
      by_cases h3 : q.1 + 1 = i
      · exact Or.inr fun h4 => h1 ⟨h3, h4⟩
      · exact Or.inl h3
    simpa [e, e1] using h2
/-- what else stands at every start: SWAYS -/
def swV (j : Nat) : Int32 := ([-1, 0, -2, 1, 2] : List Int32).getD j 0
def SWs (Γ : Gm) (U : State) : Prop := va_Z "OrdersInTurn" "SWAYS" "[I" (.ref Γ.2.2.2) (AB Γ) U U.heap ∧ va_T .int Γ.2.2.2 5 (fun j => .int (swV j)) (AB Γ) U U.heap ∧ va_Nw (.fieldLinkNest "OrdersInTurn$Guest" 22 "OrdersInTurn" "SWAYS" "[I" "OrdersInTurn") U
def Cx (Γ : Gm) (M : Md) (p : Program) (s : State) (m : MethodId) (args : Array Value) (meth : Method) (c : Code) : Prop :=
  p.tables.exec = Jvm.exec ∧ c.code = M.2.1 ∧ meth.sig.returnType = M.2.2.2 ∧ c.maxLocals = M.2.2.1 ∧ s.vm.findClass M.1.cls = some m.cls ∧ (∀ w ∈ TB, w.before args s = true) ∧ meth.locks = false ∧ va_K Γ.1 vwCl (tysG Γ) s ∧ SWs Γ s
def Wd (Γ : Gm) (σ : Mm) (U : State) : Prop := va_P Γ.1 vwCl (wl Γ σ) U.heap ∧ va_K Γ.1 vwCl (tysG Γ) U ∧ SWs Γ U
def Qo (Γ : Gm) (Q : Option Value → Mm → Prop) : Array Value → State → Outcome → State → Prop := fun _ st oc t => (∃ (v : Option Value) (σ' : Mm), oc = .returned v ∧ Q v σ' ∧ va_P Γ.1 vwCl (wl Γ σ') t.heap) ∧ va_F (AB Γ) st t
/-- from here the method comes to its end, with an answer and a memory that Q says -/
def Go (Γ : Gm) (n : Nat) (M : Md) (Q : Option Value → Mm → Prop) (pc : Nat) (L : List (Option Value)) (st : List Value) (σ : Mm) : Prop :=
  ∀ (p : Program) (l : Launch) (e : Env) (s : State) (m : MethodId) (args : Array Value) (below : List Frame) (meth : Method) (c : Code) (H : Heap) (locs : List Loc) (ls : Array Slot),
    Cx Γ M p s m args meth c → va_P Γ.1 vwCl (wl Γ σ) H → va_S (AB Γ) s.heap H locs → LH ls M.2.2.1 L →
    W p l e (rmD n) s m args below meth c H locs 0 0 (MQ below (Qo Γ Q) args s 0 0 (AB Γ)) (F0 m pc ls st)
/-- a method's contract -/
def Sp (Γ : Gm) (n : Nat) (M : Md) (av : List Value) (σ : Mm) (Q : Option Value → Mm → Prop) : Prop :=
  ∀ l : Launch, Met l M.1 (Cond.code M.1 M.2.1 M.2.2.1 M.2.2.2 :: TB) (rmD n) (va_Pc av (Wd Γ σ)) (Qo Γ Q) 0 0 (AB Γ)

section GO
variable {Γ : Gm} {n : Nat} {M : Md} {Q : Option Value → Mm → Prop} {pc : Nat} {L : List (Option Value)} {st : List Value} {σ : Mm}
theorem go_iconst {k : Int} {v : Int32} (d : decode M.2.1 pc = .ok (.iconst k, 1)) (hv : Int32.ofInt k = v) (k : Go Γ n M Q (pc + 1) L (.int v :: st) σ) : Go Γ n M Q pc L (st) σ := fun p l e s m args below meth c H locs ls C hP hS hl => lv_iconst C.1 C.2.1 d hv (k p l e s m args below meth c H locs ls C hP hS hl)
theorem go_bipush {k : Int} {v : Int32} (d : decode M.2.1 pc = .ok (.bipush k, 2)) (hv : (Int8.ofInt k).toInt32 = v) (k : Go Γ n M Q (pc + 2) L (.int v :: st) σ) : Go Γ n M Q pc L (st) σ := fun p l e s m args below meth c H locs ls C hP hS hl => lv_bipush C.1 C.2.1 d hv (k p l e s m args below meth c H locs ls C hP hS hl)
theorem go_sipush {k : Int} {v : Int32} (d : decode M.2.1 pc = .ok (.sipush k, 3)) (hv : (Int16.ofInt k).toInt32 = v) (k : Go Γ n M Q (pc + 3) L (.int v :: st) σ) : Go Γ n M Q pc L (st) σ := fun p l e s m args below meth c H locs ls C hP hS hl => lv_sipush C.1 C.2.1 d hv (k p l e s m args below meth c H locs ls C hP hS hl)
theorem go_lconst {k : Fin 2} {v : Int64} (d : decode M.2.1 pc = .ok (.lconst k, 1)) (hv : Int64.ofNat (k : Nat) = v) (k : Go Γ n M Q (pc + 1) L (.long v :: st) σ) : Go Γ n M Q pc L (st) σ := fun p l e s m args below meth c H locs ls C hP hS hl => lv_lconst C.1 C.2.1 d hv (k p l e s m args below meth c H locs ls C hP hS hl)
theorem go_ldc {i : Nat} {v : Int32} (d : decode M.2.1 pc = .ok (.ldc i, 2)) (hw : Cond.constant M.1.cls i v ∈ TB) (k : Go Γ n M Q (pc + 2) L (.int v :: st) σ) : Go Γ n M Q pc L (st) σ := fun p l e s m args below meth c H locs ls C hP hS hl => lv_ldc C.1 C.2.1 C.2.2.2.2.1 (C.2.2.2.2.2.1 _ hw) d (k p l e s m args below meth c H locs ls C hP hS hl)
theorem go_ldcw {i : Nat} {v : Int32} (d : decode M.2.1 pc = .ok (.ldc_w i, 3)) (hw : Cond.constant M.1.cls i v ∈ TB) (k : Go Γ n M Q (pc + 3) L (.int v :: st) σ) : Go Γ n M Q pc L (st) σ := fun p l e s m args below meth c H locs ls C hP hS hl => lv_ldcw C.1 C.2.1 C.2.2.2.2.1 (C.2.2.2.2.2.1 _ hw) d (k p l e s m args below meth c H locs ls C hP hS hl)
theorem go_ldc2 {i : Nat} {v : Int64} (d : decode M.2.1 pc = .ok (.ldc2_w i, 3)) (hw : Cond.constantLong M.1.cls i v ∈ TB) (k : Go Γ n M Q (pc + 3) L (.long v :: st) σ) : Go Γ n M Q pc L (st) σ := fun p l e s m args below meth c H locs ls C hP hS hl => lv_ldc2 C.1 C.2.1 C.2.2.2.2.1 (C.2.2.2.2.2.1 _ hw) d (k p l e s m args below meth c H locs ls C hP hS hl)
theorem go_iload_n {k : Fin 4} {i : Nat} {x : Int32} (d : decode M.2.1 pc = .ok (.iload_n k, 1)) (hi : (k : Nat) = i) (hx : L[i]? = some (some (.int x))) (k : Go Γ n M Q (pc + 1) L (.int x :: st) σ) : Go Γ n M Q pc L (st) σ := fun p l e s m args below meth c H locs ls C hP hS hl => lv_iload_n C.1 C.2.1 d hi (hl.at hx) (k p l e s m args below meth c H locs ls C hP hS hl)
theorem go_iload {i : Nat} {x : Int32} (d : decode M.2.1 pc = .ok (.iload i, 2)) (hx : L[i]? = some (some (.int x))) (k : Go Γ n M Q (pc + 2) L (.int x :: st) σ) : Go Γ n M Q pc L (st) σ := fun p l e s m args below meth c H locs ls C hP hS hl => lv_iload C.1 C.2.1 d (hl.at hx) (k p l e s m args below meth c H locs ls C hP hS hl)
theorem go_lload_n {k : Fin 4} {i : Nat} {x : Int64} (d : decode M.2.1 pc = .ok (.lload_n k, 1)) (hi : (k : Nat) = i) (hx : L[i]? = some (some (.long x))) (k : Go Γ n M Q (pc + 1) L (.long x :: st) σ) : Go Γ n M Q pc L (st) σ := fun p l e s m args below meth c H locs ls C hP hS hl => lv_lload_n C.1 C.2.1 d hi (hl.at hx) (k p l e s m args below meth c H locs ls C hP hS hl)
theorem go_lload {i : Nat} {x : Int64} (d : decode M.2.1 pc = .ok (.lload i, 2)) (hx : L[i]? = some (some (.long x))) (k : Go Γ n M Q (pc + 2) L (.long x :: st) σ) : Go Γ n M Q pc L (st) σ := fun p l e s m args below meth c H locs ls C hP hS hl => lv_lload C.1 C.2.1 d (hl.at hx) (k p l e s m args below meth c H locs ls C hP hS hl)
theorem go_aload_n {k : Fin 4} {i : Nat} {x : Nat} (d : decode M.2.1 pc = .ok (.aload_n k, 1)) (hi : (k : Nat) = i) (hx : L[i]? = some (some (.ref x))) (k : Go Γ n M Q (pc + 1) L (.ref x :: st) σ) : Go Γ n M Q pc L (st) σ := fun p l e s m args below meth c H locs ls C hP hS hl => lv_aload_n C.1 C.2.1 d hi (hl.at hx) (k p l e s m args below meth c H locs ls C hP hS hl)
theorem go_aload {i : Nat} {x : Nat} (d : decode M.2.1 pc = .ok (.aload i, 2)) (hx : L[i]? = some (some (.ref x))) (k : Go Γ n M Q (pc + 2) L (.ref x :: st) σ) : Go Γ n M Q pc L (st) σ := fun p l e s m args below meth c H locs ls C hP hS hl => lv_aload C.1 C.2.1 d (hl.at hx) (k p l e s m args below meth c H locs ls C hP hS hl)
theorem go_istore_n {k : Fin 4} {i : Nat} {x : Int32} {L' : List (Option Value)} (d : decode M.2.1 pc = .ok (.istore_n k, 1)) (hi : (k : Nat) = i) (hn : i < M.2.2.1) (ho : okS L i = true) (hL : L.set i (some (.int x)) = L') (k' : Go Γ n M Q (pc + 1) L' st σ) : Go Γ n M Q pc L (.int x :: st) σ := by
  intro p l e s m args below meth c H locs ls C hP hS hl
  subst hi
  obtain ⟨ls', e', h'⟩ := LH.store1 (v := .int x) hl hn rfl ho
  rw [hL] at h'
  intro T hT X
  obtain ⟨t, a, b⟩ := k' p l e s m args below meth c H locs ls' C hP hS h' T hT X
  refine ⟨t, ?_, b⟩
  have hexec := C.1
  have hb := C.2.1
  jvm_step X.here [X.here.top, ↓top_set X.here.top, hexec, hb, d, e']
  exact a
theorem go_istore {i : Nat} {x : Int32} {L' : List (Option Value)} (d : decode M.2.1 pc = .ok (.istore i, 2)) (hn : i < M.2.2.1) (ho : okS L i = true) (hL : L.set i (some (.int x)) = L') (k' : Go Γ n M Q (pc + 2) L' st σ) : Go Γ n M Q pc L (.int x :: st) σ := by
  intro p l e s m args below meth c H locs ls C hP hS hl
  obtain ⟨ls', e', h'⟩ := LH.store1 (v := .int x) hl hn rfl ho
  rw [hL] at h'
  intro T hT X
  obtain ⟨t, a, b⟩ := k' p l e s m args below meth c H locs ls' C hP hS h' T hT X
  refine ⟨t, ?_, b⟩
  have hexec := C.1
  have hb := C.2.1
  jvm_step X.here [X.here.top, ↓top_set X.here.top, hexec, hb, d, e']
  exact a
theorem go_astore_n {k : Fin 4} {i : Nat} {x : Nat} {L' : List (Option Value)} (d : decode M.2.1 pc = .ok (.astore_n k, 1)) (hi : (k : Nat) = i) (hn : i < M.2.2.1) (ho : okS L i = true) (hL : L.set i (some (.ref x)) = L') (k' : Go Γ n M Q (pc + 1) L' st σ) : Go Γ n M Q pc L (.ref x :: st) σ := by
  intro p l e s m args below meth c H locs ls C hP hS hl
  subst hi
  obtain ⟨ls', e', h'⟩ := LH.store1 (v := .ref x) hl hn rfl ho
  rw [hL] at h'
  intro T hT X
  obtain ⟨t, a, b⟩ := k' p l e s m args below meth c H locs ls' C hP hS h' T hT X
  refine ⟨t, ?_, b⟩
  have hexec := C.1
  have hb := C.2.1
  jvm_step X.here [X.here.top, ↓top_set X.here.top, hexec, hb, d, e']
  exact ⟨rfl, a⟩
theorem go_astore {i : Nat} {x : Nat} {L' : List (Option Value)} (d : decode M.2.1 pc = .ok (.astore i, 2)) (hn : i < M.2.2.1) (ho : okS L i = true) (hL : L.set i (some (.ref x)) = L') (k' : Go Γ n M Q (pc + 2) L' st σ) : Go Γ n M Q pc L (.ref x :: st) σ := by
  intro p l e s m args below meth c H locs ls C hP hS hl
  obtain ⟨ls', e', h'⟩ := LH.store1 (v := .ref x) hl hn rfl ho
  rw [hL] at h'
  intro T hT X
  obtain ⟨t, a, b⟩ := k' p l e s m args below meth c H locs ls' C hP hS h' T hT X
  refine ⟨t, ?_, b⟩
  have hexec := C.1
  have hb := C.2.1
  jvm_step X.here [X.here.top, ↓top_set X.here.top, hexec, hb, d, e']
  exact ⟨rfl, a⟩
theorem go_lstore_n {k : Fin 4} {i : Nat} {x : Int64} {L' : List (Option Value)} (d : decode M.2.1 pc = .ok (.lstore_n k, 1)) (hi : (k : Nat) = i) (hn : i + 1 < M.2.2.1) (ho : okS L i = true) (hL : (L.set i (some (.long x))).set (i + 1) none = L') (k' : Go Γ n M Q (pc + 1) L' st σ) : Go Γ n M Q pc L (.long x :: st) σ := by
  intro p l e s m args below meth c H locs ls C hP hS hl
  subst hi
  obtain ⟨ls', e', h'⟩ := LH.store2 (v := .long x) hl hn rfl ho
  rw [hL] at h'
  intro T hT X
  obtain ⟨t, a, b⟩ := k' p l e s m args below meth c H locs ls' C hP hS h' T hT X
  refine ⟨t, ?_, b⟩
  have hexec := C.1
  have hb := C.2.1
  jvm_step X.here [X.here.top, ↓top_set X.here.top, hexec, hb, d, e']
  exact a
theorem go_lstore {i : Nat} {x : Int64} {L' : List (Option Value)} (d : decode M.2.1 pc = .ok (.lstore i, 2)) (hn : i + 1 < M.2.2.1) (ho : okS L i = true) (hL : (L.set i (some (.long x))).set (i + 1) none = L') (k' : Go Γ n M Q (pc + 2) L' st σ) : Go Γ n M Q pc L (.long x :: st) σ := by
  intro p l e s m args below meth c H locs ls C hP hS hl
  obtain ⟨ls', e', h'⟩ := LH.store2 (v := .long x) hl hn rfl ho
  rw [hL] at h'
  intro T hT X
  obtain ⟨t, a, b⟩ := k' p l e s m args below meth c H locs ls' C hP hS h' T hT X
  refine ⟨t, ?_, b⟩
  have hexec := C.1
  have hb := C.2.1
  jvm_step X.here [X.here.top, ↓top_set X.here.top, hexec, hb, d, e']
  exact a
theorem go_iinc {i : Nat} {k : Int} {x v : Int32} {L' : List (Option Value)} (d : decode M.2.1 pc = .ok (.iinc i k, 3)) (hx : L[i]? = some (some (.int x))) (hv : x + Int32.ofInt k = v) (hn : i < M.2.2.1) (ho : okS L i = true) (hL : L.set i (some (.int v)) = L') (k' : Go Γ n M Q (pc + 3) L' st σ) : Go Γ n M Q pc L st σ := by
  intro p l e s m args below meth c H locs ls C hP hS hl
  subst hv
  have hg := hl.at hx
  obtain ⟨ls', e', h'⟩ := LH.store1 (v := .int (x + Int32.ofInt k)) hl hn rfl ho
  rw [hL] at h'
  intro T hT X
  obtain ⟨t, a, b⟩ := k' p l e s m args below meth c H locs ls' C hP hS h' T hT X
  refine ⟨t, ?_, b⟩
  have hexec := C.1
  have hb := C.2.1
  jvm_step X.here [X.here.top, ↓top_set X.here.top, hexec, hb, d, hg, e']
  exact a
theorem go_iadd {x y : Int32} (d : decode M.2.1 pc = .ok (.iadd, 1)) (k : Go Γ n M Q (pc + 1) L (.int (x + y) :: st) σ) : Go Γ n M Q pc L (.int y :: .int x :: st) σ := fun p l e s m args below meth c H locs ls C hP hS hl => lv_iadd C.1 C.2.1 d (k p l e s m args below meth c H locs ls C hP hS hl)
theorem go_isub {x y : Int32} (d : decode M.2.1 pc = .ok (.isub, 1)) (k : Go Γ n M Q (pc + 1) L (.int (x - y) :: st) σ) : Go Γ n M Q pc L (.int y :: .int x :: st) σ := fun p l e s m args below meth c H locs ls C hP hS hl => lv_isub C.1 C.2.1 d (k p l e s m args below meth c H locs ls C hP hS hl)
theorem go_imul {x y : Int32} (d : decode M.2.1 pc = .ok (.imul, 1)) (k : Go Γ n M Q (pc + 1) L (.int (x * y) :: st) σ) : Go Γ n M Q pc L (.int y :: .int x :: st) σ := fun p l e s m args below meth c H locs ls C hP hS hl => lv_imul C.1 C.2.1 d (k p l e s m args below meth c H locs ls C hP hS hl)
theorem go_iand {x y : Int32} (d : decode M.2.1 pc = .ok (.iand, 1)) (k : Go Γ n M Q (pc + 1) L (.int (x &&& y) :: st) σ) : Go Γ n M Q pc L (.int y :: .int x :: st) σ := fun p l e s m args below meth c H locs ls C hP hS hl => lv_iand C.1 C.2.1 d (k p l e s m args below meth c H locs ls C hP hS hl)
theorem go_ior {x y : Int32} (d : decode M.2.1 pc = .ok (.ior, 1)) (k : Go Γ n M Q (pc + 1) L (.int (x ||| y) :: st) σ) : Go Γ n M Q pc L (.int y :: .int x :: st) σ := fun p l e s m args below meth c H locs ls C hP hS hl => lv_ior C.1 C.2.1 d (k p l e s m args below meth c H locs ls C hP hS hl)
theorem go_ixor {x y : Int32} (d : decode M.2.1 pc = .ok (.ixor, 1)) (k : Go Γ n M Q (pc + 1) L (.int (x ^^^ y) :: st) σ) : Go Γ n M Q pc L (.int y :: .int x :: st) σ := fun p l e s m args below meth c H locs ls C hP hS hl => lv_ixor C.1 C.2.1 d (k p l e s m args below meth c H locs ls C hP hS hl)
theorem go_ishl {x y : Int32} (d : decode M.2.1 pc = .ok (.ishl, 1)) (k : Go Γ n M Q (pc + 1) L (.int (x <<< (y &&& 31)) :: st) σ) : Go Γ n M Q pc L (.int y :: .int x :: st) σ := fun p l e s m args below meth c H locs ls C hP hS hl => lv_ishl C.1 C.2.1 d (k p l e s m args below meth c H locs ls C hP hS hl)
theorem go_ishr {x y : Int32} (d : decode M.2.1 pc = .ok (.ishr, 1)) (k : Go Γ n M Q (pc + 1) L (.int (x >>> (y &&& 31)) :: st) σ) : Go Γ n M Q pc L (.int y :: .int x :: st) σ := fun p l e s m args below meth c H locs ls C hP hS hl => lv_ishr C.1 C.2.1 d (k p l e s m args below meth c H locs ls C hP hS hl)
theorem go_iushr {x y v : Int32} (d : decode M.2.1 pc = .ok (.iushr, 1)) (hv : (x.toUInt32 >>> (y.toUInt32 &&& Int32.toUInt32 31)).toInt32 = v) (k : Go Γ n M Q (pc + 1) L (.int v :: st) σ) : Go Γ n M Q pc L (.int y :: .int x :: st) σ := fun p l e s m args below meth c H locs ls C hP hS hl => lv_iushr C.1 C.2.1 d hv (k p l e s m args below meth c H locs ls C hP hS hl)
theorem go_idiv {x y : Int32} (d : decode M.2.1 pc = .ok (.idiv, 1)) (hne : ¬ y = 0) (k : Go Γ n M Q (pc + 1) L (.int (x / y) :: st) σ) : Go Γ n M Q pc L (.int y :: .int x :: st) σ := fun p l e s m args below meth c H locs ls C hP hS hl => lv_idiv C.1 C.2.1 d hne (k p l e s m args below meth c H locs ls C hP hS hl)
theorem go_irem {x y : Int32} (d : decode M.2.1 pc = .ok (.irem, 1)) (hne : ¬ y = 0) (k : Go Γ n M Q (pc + 1) L (.int (x - x / y * y) :: st) σ) : Go Γ n M Q pc L (.int y :: .int x :: st) σ := fun p l e s m args below meth c H locs ls C hP hS hl => lv_irem C.1 C.2.1 d hne (k p l e s m args below meth c H locs ls C hP hS hl)
theorem go_ineg {x : Int32} (d : decode M.2.1 pc = .ok (.ineg, 1)) (k : Go Γ n M Q (pc + 1) L (.int (-x) :: st) σ) : Go Γ n M Q pc L (.int x :: st) σ := fun p l e s m args below meth c H locs ls C hP hS hl => lv_ineg C.1 C.2.1 d (k p l e s m args below meth c H locs ls C hP hS hl)
theorem go_ladd {x y : Int64} (d : decode M.2.1 pc = .ok (.ladd, 1)) (k : Go Γ n M Q (pc + 1) L (.long (x + y) :: st) σ) : Go Γ n M Q pc L (.long y :: .long x :: st) σ := fun p l e s m args below meth c H locs ls C hP hS hl => lv_ladd C.1 C.2.1 d (k p l e s m args below meth c H locs ls C hP hS hl)
theorem go_lmul {x y : Int64} (d : decode M.2.1 pc = .ok (.lmul, 1)) (k : Go Γ n M Q (pc + 1) L (.long (x * y) :: st) σ) : Go Γ n M Q pc L (.long y :: .long x :: st) σ := fun p l e s m args below meth c H locs ls C hP hS hl => lv_lmul C.1 C.2.1 d (k p l e s m args below meth c H locs ls C hP hS hl)
theorem go_land {x y : Int64} (d : decode M.2.1 pc = .ok (.land, 1)) (k : Go Γ n M Q (pc + 1) L (.long (x &&& y) :: st) σ) : Go Γ n M Q pc L (.long y :: .long x :: st) σ := fun p l e s m args below meth c H locs ls C hP hS hl => lv_land C.1 C.2.1 d (k p l e s m args below meth c H locs ls C hP hS hl)
theorem go_ldiv {x y : Int64} (d : decode M.2.1 pc = .ok (.ldiv, 1)) (hne : ¬ y = 0) (k : Go Γ n M Q (pc + 1) L (.long (x / y) :: st) σ) : Go Γ n M Q pc L (.long y :: .long x :: st) σ := fun p l e s m args below meth c H locs ls C hP hS hl => lv_ldiv C.1 C.2.1 d hne (k p l e s m args below meth c H locs ls C hP hS hl)
theorem go_lrem {x y : Int64} (d : decode M.2.1 pc = .ok (.lrem, 1)) (hne : ¬ y = 0) (k : Go Γ n M Q (pc + 1) L (.long (x - x / y * y) :: st) σ) : Go Γ n M Q pc L (.long y :: .long x :: st) σ := fun p l e s m args below meth c H locs ls C hP hS hl => lv_lrem C.1 C.2.1 d hne (k p l e s m args below meth c H locs ls C hP hS hl)
theorem go_i2l {x : Int32} (d : decode M.2.1 pc = .ok (.i2l, 1)) (k : Go Γ n M Q (pc + 1) L (.long x.toInt64 :: st) σ) : Go Γ n M Q pc L (.int x :: st) σ := fun p l e s m args below meth c H locs ls C hP hS hl => lv_i2l C.1 C.2.1 d rfl (k p l e s m args below meth c H locs ls C hP hS hl)
theorem go_l2i {x : Int64} (d : decode M.2.1 pc = .ok (.l2i, 1)) (k : Go Γ n M Q (pc + 1) L (.int x.toInt32 :: st) σ) : Go Γ n M Q pc L (.long x :: st) σ := fun p l e s m args below meth c H locs ls C hP hS hl => lv_l2i C.1 C.2.1 d rfl (k p l e s m args below meth c H locs ls C hP hS hl)
theorem go_lcmp {x y : Int64} (d : decode M.2.1 pc = .ok (.lcmp, 1)) (k : Go Γ n M Q (pc + 1) L (.int (lg_cmp x y) :: st) σ) : Go Γ n M Q pc L (.long y :: .long x :: st) σ := fun p l e s m args below meth c H locs ls C hP hS hl => W.lcmp C.1 C.2.1 d (k p l e s m args below meth c H locs ls C hP hS hl)
theorem go_dup {x : Value} (d : decode M.2.1 pc = .ok (.dup, 1)) (hx : x.category = 1) (k : Go Γ n M Q (pc + 1) L (x :: x :: st) σ) : Go Γ n M Q pc L (x :: st) σ := fun p l e s m args below meth c H locs ls C hP hS hl => lv_dup C.1 C.2.1 d hx (k p l e s m args below meth c H locs ls C hP hS hl)
theorem go_dup2 {x y : Value} (d : decode M.2.1 pc = .ok (.dup2, 1)) (hx : x.category = 1) (hy : y.category = 1) (k : Go Γ n M Q (pc + 1) L (x :: y :: x :: y :: st) σ) : Go Γ n M Q pc L (x :: y :: st) σ := fun p l e s m args below meth c H locs ls C hP hS hl => lv_dup2_11 C.1 C.2.1 d hx hy (k p l e s m args below meth c H locs ls C hP hS hl)
theorem go_if_eq {x : Int32} {off : Int} {tgt : Nat} (d : decode M.2.1 pc = .ok (.ifCond .eq off, 3)) (ht : (pc : Int) + off = (tgt : Int)) (kt : x = 0 → Go Γ n M Q tgt L st σ) (kf : ¬ (x = 0) → Go Γ n M Q (pc + 3) L st σ) : Go Γ n M Q pc L (.int x :: st) σ := fun p l e s m args below meth c H locs ls C hP hS hl => lv_if_eq C.1 C.2.1 d ht (fun q => kt q p l e s m args below meth c H locs ls C hP hS hl) (fun q => kf q p l e s m args below meth c H locs ls C hP hS hl)
theorem go_if_ne {x : Int32} {off : Int} {tgt : Nat} (d : decode M.2.1 pc = .ok (.ifCond .ne off, 3)) (ht : (pc : Int) + off = (tgt : Int)) (kt : ¬ x = 0 → Go Γ n M Q tgt L st σ) (kf : x = 0 → Go Γ n M Q (pc + 3) L st σ) : Go Γ n M Q pc L (.int x :: st) σ := fun p l e s m args below meth c H locs ls C hP hS hl => lv_if_ne C.1 C.2.1 d ht (fun q => kt q p l e s m args below meth c H locs ls C hP hS hl) (fun q => kf q p l e s m args below meth c H locs ls C hP hS hl)
theorem go_if_lt {x : Int32} {off : Int} {tgt : Nat} (d : decode M.2.1 pc = .ok (.ifCond .lt off, 3)) (ht : (pc : Int) + off = (tgt : Int)) (kt : x < 0 → Go Γ n M Q tgt L st σ) (kf : ¬ (x < 0) → Go Γ n M Q (pc + 3) L st σ) : Go Γ n M Q pc L (.int x :: st) σ := fun p l e s m args below meth c H locs ls C hP hS hl => lv_if_lt C.1 C.2.1 d ht (fun q => kt q p l e s m args below meth c H locs ls C hP hS hl) (fun q => kf q p l e s m args below meth c H locs ls C hP hS hl)
theorem go_if_ge {x : Int32} {off : Int} {tgt : Nat} (d : decode M.2.1 pc = .ok (.ifCond .ge off, 3)) (ht : (pc : Int) + off = (tgt : Int)) (kt : 0 ≤ x → Go Γ n M Q tgt L st σ) (kf : ¬ (0 ≤ x) → Go Γ n M Q (pc + 3) L st σ) : Go Γ n M Q pc L (.int x :: st) σ := fun p l e s m args below meth c H locs ls C hP hS hl => lv_if_ge C.1 C.2.1 d ht (fun q => kt q p l e s m args below meth c H locs ls C hP hS hl) (fun q => kf q p l e s m args below meth c H locs ls C hP hS hl)
theorem go_if_gt {x : Int32} {off : Int} {tgt : Nat} (d : decode M.2.1 pc = .ok (.ifCond .gt off, 3)) (ht : (pc : Int) + off = (tgt : Int)) (kt : 0 < x → Go Γ n M Q tgt L st σ) (kf : ¬ (0 < x) → Go Γ n M Q (pc + 3) L st σ) : Go Γ n M Q pc L (.int x :: st) σ := fun p l e s m args below meth c H locs ls C hP hS hl => lv_if_gt C.1 C.2.1 d ht (fun q => kt q p l e s m args below meth c H locs ls C hP hS hl) (fun q => kf q p l e s m args below meth c H locs ls C hP hS hl)
theorem go_if_le {x : Int32} {off : Int} {tgt : Nat} (d : decode M.2.1 pc = .ok (.ifCond .le off, 3)) (ht : (pc : Int) + off = (tgt : Int)) (kt : x ≤ 0 → Go Γ n M Q tgt L st σ) (kf : ¬ (x ≤ 0) → Go Γ n M Q (pc + 3) L st σ) : Go Γ n M Q pc L (.int x :: st) σ := fun p l e s m args below meth c H locs ls C hP hS hl => lv_if_le C.1 C.2.1 d ht (fun q => kt q p l e s m args below meth c H locs ls C hP hS hl) (fun q => kf q p l e s m args below meth c H locs ls C hP hS hl)
theorem go_icmp_eq {x y : Int32} {off : Int} {tgt : Nat} (d : decode M.2.1 pc = .ok (.if_icmp .eq off, 3)) (ht : (pc : Int) + off = (tgt : Int)) (kt : x = y → Go Γ n M Q tgt L st σ) (kf : ¬ (x = y) → Go Γ n M Q (pc + 3) L st σ) : Go Γ n M Q pc L (.int y :: .int x :: st) σ := fun p l e s m args below meth c H locs ls C hP hS hl => lv_icmp_eq C.1 C.2.1 d ht (fun q => kt q p l e s m args below meth c H locs ls C hP hS hl) (fun q => kf q p l e s m args below meth c H locs ls C hP hS hl)
theorem go_icmp_ne {x y : Int32} {off : Int} {tgt : Nat} (d : decode M.2.1 pc = .ok (.if_icmp .ne off, 3)) (ht : (pc : Int) + off = (tgt : Int)) (kt : ¬ x = y → Go Γ n M Q tgt L st σ) (kf : x = y → Go Γ n M Q (pc + 3) L st σ) : Go Γ n M Q pc L (.int y :: .int x :: st) σ := fun p l e s m args below meth c H locs ls C hP hS hl => lv_icmp_ne C.1 C.2.1 d ht (fun q => kt q p l e s m args below meth c H locs ls C hP hS hl) (fun q => kf q p l e s m args below meth c H locs ls C hP hS hl)
theorem go_icmp_lt {x y : Int32} {off : Int} {tgt : Nat} (d : decode M.2.1 pc = .ok (.if_icmp .lt off, 3)) (ht : (pc : Int) + off = (tgt : Int)) (kt : x < y → Go Γ n M Q tgt L st σ) (kf : ¬ (x < y) → Go Γ n M Q (pc + 3) L st σ) : Go Γ n M Q pc L (.int y :: .int x :: st) σ := fun p l e s m args below meth c H locs ls C hP hS hl => lv_icmp_lt C.1 C.2.1 d ht (fun q => kt q p l e s m args below meth c H locs ls C hP hS hl) (fun q => kf q p l e s m args below meth c H locs ls C hP hS hl)
theorem go_icmp_ge {x y : Int32} {off : Int} {tgt : Nat} (d : decode M.2.1 pc = .ok (.if_icmp .ge off, 3)) (ht : (pc : Int) + off = (tgt : Int)) (kt : y ≤ x → Go Γ n M Q tgt L st σ) (kf : ¬ (y ≤ x) → Go Γ n M Q (pc + 3) L st σ) : Go Γ n M Q pc L (.int y :: .int x :: st) σ := fun p l e s m args below meth c H locs ls C hP hS hl => lv_icmp_ge C.1 C.2.1 d ht (fun q => kt q p l e s m args below meth c H locs ls C hP hS hl) (fun q => kf q p l e s m args below meth c H locs ls C hP hS hl)
theorem go_icmp_gt {x y : Int32} {off : Int} {tgt : Nat} (d : decode M.2.1 pc = .ok (.if_icmp .gt off, 3)) (ht : (pc : Int) + off = (tgt : Int)) (kt : y < x → Go Γ n M Q tgt L st σ) (kf : ¬ (y < x) → Go Γ n M Q (pc + 3) L st σ) : Go Γ n M Q pc L (.int y :: .int x :: st) σ := fun p l e s m args below meth c H locs ls C hP hS hl => lv_icmp_gt C.1 C.2.1 d ht (fun q => kt q p l e s m args below meth c H locs ls C hP hS hl) (fun q => kf q p l e s m args below meth c H locs ls C hP hS hl)
theorem go_icmp_le {x y : Int32} {off : Int} {tgt : Nat} (d : decode M.2.1 pc = .ok (.if_icmp .le off, 3)) (ht : (pc : Int) + off = (tgt : Int)) (kt : x ≤ y → Go Γ n M Q tgt L st σ) (kf : ¬ (x ≤ y) → Go Γ n M Q (pc + 3) L st σ) : Go Γ n M Q pc L (.int y :: .int x :: st) σ := fun p l e s m args below meth c H locs ls C hP hS hl => lv_icmp_le C.1 C.2.1 d ht (fun q => kt q p l e s m args below meth c H locs ls C hP hS hl) (fun q => kf q p l e s m args below meth c H locs ls C hP hS hl)
theorem go_goto {off : Int} {tgt : Nat} (d : decode M.2.1 pc = .ok (.goto off, 3)) (ht : (pc : Int) + off = (tgt : Int)) (k : Go Γ n M Q tgt L st σ) : Go Γ n M Q pc L st σ := fun p l e s m args below meth c H locs ls C hP hS hl => lv_goto C.1 C.2.1 d ht (k p l e s m args below meth c H locs ls C hP hS hl)
theorem go_tabOut {dflt lo hi : Int} {offs : Array Int} {len : Nat} {x : Int32} {tgt : Nat} (d : decode M.2.1 pc = .ok (.tableswitch dflt lo hi offs, len)) (h : x.toInt < lo ∨ hi < x.toInt) (ht : (pc : Int) + dflt = (tgt : Int)) (k : Go Γ n M Q tgt L st σ) : Go Γ n M Q pc L (.int x :: st) σ := fun p l e s m args below meth c H locs ls C hP hS hl => lv_tableOut C.1 C.2.1 d h ht (k p l e s m args below meth c H locs ls C hP hS hl)
theorem go_tabIn {dflt lo hi : Int} {offs : Array Int} {len : Nat} {x : Int32} {off : Int} {tgt : Nat} (d : decode M.2.1 pc = .ok (.tableswitch dflt lo hi offs, len)) (h1 : ¬ x.toInt < lo) (h2 : ¬ hi < x.toInt) (ho : offs[(x.toInt - lo).toNat]? = some off) (ht : (pc : Int) + off = (tgt : Int)) (k : Go Γ n M Q tgt L st σ) : Go Γ n M Q pc L (.int x :: st) σ := fun p l e s m args below meth c H locs ls C hP hS hl => lv_tableIn C.1 C.2.1 d h1 h2 ho ht (k p l e s m args below meth c H locs ls C hP hS hl)
theorem go_sub {L' : List (Option Value)} (b : List Bool) (h : mskL b L = L') (k : Go Γ n M Q pc L' st σ) : Go Γ n M Q pc L st σ := fun p l e s m args below meth c H locs ls C hP hS hl => k p l e s m args below meth c H locs ls C hP hS (hl.sub (fun i v q => mskL_le b L i v (by rw [h]; exact q)))
theorem go_mono {Q' : Option Value → Mm → Prop} (hQ : ∀ v σ', Q' v σ' → Q v σ') (k : Go Γ n M Q' pc L st σ) : Go Γ n M Q pc L st σ := by
  intro p l e s m args below meth c H locs ls C hP hS hl
  intro T hT X
  obtain ⟨t, a, o, b1, b2, ⟨⟨v, σ', c1, c2, c3⟩, c4⟩, b4⟩ := k p l e s m args below meth c H locs ls C hP hS hl T hT X
  exact ⟨t, a, o, b1, b2, ⟨⟨v, σ', c1, hQ v σ' c2, c3⟩, c4⟩, b4⟩
end GO
