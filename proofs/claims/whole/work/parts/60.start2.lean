/-! the law's start: classes, arrays, SWAYS; the cells that both constructors made are the flat world's -/
theorem st_K {args : Array Value} {s : State} (ht : ∀ w ∈ TB, w.before args s = true) : ∃ D : va_G, ∀ (k : Nat) (q : vw_C), vwCl[k]? = some q → u_Kn s q.1 q.2.1 q.2.2 (D.1 k) (D.2 k) := by
  obtain ⟨c0, i0, h0⟩ := u_known ht cfX0.2.1 (ht _ mkX0)
  obtain ⟨c1, i1, h1⟩ := u_known ht cfX1.2.1 (ht _ mkX1)
  obtain ⟨c2, i2, h2⟩ := u_known ht cfX2.2.1 (ht _ mkX2)
  obtain ⟨c3, i3, h3⟩ := u_known ht cfX3.2.1 (ht _ mkX3)
  obtain ⟨c4, i4, h4⟩ := u_known ht cfX4.2.1 (ht _ mkX4)
  obtain ⟨c5, i5, h5⟩ := u_known ht cfX5.2.1 (ht _ mkX5)
  obtain ⟨c6, i6, h6⟩ := u_known ht cfX6.2.1 (ht _ mkX6)
  obtain ⟨c7, i7, h7⟩ := u_known ht cfX7.2.1 (ht _ mkX7)
  obtain ⟨c8, i8, h8⟩ := u_known ht cfX8.2.1 (ht _ mkX8)
  obtain ⟨c9, i9, h9⟩ := u_known ht cfX9.2.1 (ht _ mkX9)
  refine ⟨(fun k => match k with | 0 => c0 | 1 => c1 | 2 => c2 | 3 => c3 | 4 => c4 | 5 => c5 | 6 => c6 | 7 => c7 | 8 => c8 | _ => c9, fun k => match k with | 0 => i0 | 1 => i1 | 2 => i2 | 3 => i3 | 4 => i4 | 5 => i5 | 6 => i6 | 7 => i7 | 8 => i8 | _ => i9), fun k q hq => ?_⟩
  match k, hq with
  | 0, hq => cases hq; exact h0
  | 1, hq => cases hq; exact h1
  | 2, hq => cases hq; exact h2
  | 3, hq => cases hq; exact h3
  | 4, hq => cases hq; exact h4
  | 5, hq => cases hq; exact h5
  | 6, hq => cases hq; exact h6
  | 7, hq => cases hq; exact h7
  | 8, hq => cases hq; exact h8
  | 9, hq => cases hq; exact h9
  | k + 10, hq => simp at hq
theorem st_T {b : Nat} {s : State} {D : va_G} (ht : ∀ w ∈ lw_tbl, w.before #[Value.ref b] s = true) (hD : ∀ (k : Nat) (q : vw_C), vwCl[k]? = some q → u_Kn s q.1 q.2.1 q.2.2 (D.1 k) (D.2 k)) : ∃ tc : Nat → ClassId, va_K D vwCl (tysD (D, tc)) s ∧ Nst (D, tc) s := by
  have w0 : (Cond.arrayClass .int).before #[Value.ref b] s = true := ht _ (List.mem_of_getElem? (i := 80) (by decide +kernel))
  have w1 : (Cond.arrayOver (.object "OrdersInTurn$Guest")).before #[Value.ref b] s = true := ht _ (List.mem_of_getElem? (i := 117) (by decide +kernel))
  have w2 : (Cond.arrayOver (.array .int)).before #[Value.ref b] s = true := ht _ (List.mem_of_getElem? (i := 239) (by decide +kernel))
  obtain ⟨t0, k0, p0, a1, a2, a3⟩ := Cond.arrayClass_spec w0
  obtain ⟨p1, t1, k1, b1, -, b2, b3, b4⟩ := Cond.arrayOver_spec w1
  obtain ⟨p2, t2, k2, d1, -, d2, d3, d4⟩ := arrayOverA_spec w2
  have e : p2 = t0 := Option.some.inj (d1.symm.trans a1)
  subst e
  refine ⟨fun k => match k with | 0 => p2 | 1 => t1 | _ => t2, ⟨hD, fun k q hq => ?_⟩, ?_⟩
  · match k, hq with
    | 0, hq => cases hq; exact ⟨fun n z => ⟨fun k h => (by cases h), k0, a2, p0, a3⟩, a1⟩
    | 1, hq => cases hq; exact ⟨fun n z => ⟨fun k h => (by cases h), k1, b2, p1, b3⟩, k1, p1, b2, b3, b1, b4⟩
    | 2, hq => cases hq; exact ⟨fun n z => ⟨fun k h => (by cases h), k2, d2, p2, d3⟩, d4⟩
    | k + 3, hq => simp [tysD] at hq
  · exact ⟨⟨va_Nw.of rfl (ht _ (List.mem_of_getElem? (i := 65) (by decide +kernel))), va_Nw.of rfl (ht _ (List.mem_of_getElem? (i := 83) (by decide +kernel))), va_Nw.of rfl (ht _ (List.mem_of_getElem? (i := 210) (by decide +kernel))), va_Nw.of rfl (ht _ (List.mem_of_getElem? (i := 286) (by decide +kernel))), va_Nw.of rfl (ht _ (List.mem_of_getElem? (i := 119) (by decide +kernel)))⟩, va_AO.of w1, k2, d2, d3⟩
theorem st_W {b : Nat} {s : State} (ht : ∀ w ∈ lw_tbl, w.before #[Value.ref b] s = true) (hgv : (Jvm.Cond.and given_1 narrow_1).before #[Value.ref b] s = true) : ∃ t : Nat, ∀ A : Nat → Prop, (∀ a : Nat, a < s.heap.size → ¬ A a) → va_Z "OrdersInTurn" "SWAYS" "[I" (.ref t) A s s.heap ∧ va_T .int t 5 (fun j => .int (swV j)) A s s.heap ∧ va_Nw (.fieldLinkNest "OrdersInTurn$Guest" 22 "OrdersInTurn" "SWAYS" "[I" "OrdersInTurn") s := by
  have hs := flat_of_before _ hgv
  have harr : (Cond.arrayOf (.static "OrdersInTurn" "SWAYS" "[I") .int).before #[Value.ref b] s = true := hs _ (by decide +kernel)
  have hlen : (Cond.eq (.length (.static "OrdersInTurn" "SWAYS" "[I")) (.int 5)).before #[Value.ref b] s = true := hs _ (by decide +kernel)
  have h0 : (Cond.eq (.elem (.static "OrdersInTurn" "SWAYS" "[I") (.int 0)) (.int (-1))).before #[Value.ref b] s = true := hs _ (by decide +kernel)
  have h1 : (Cond.eq (.elem (.static "OrdersInTurn" "SWAYS" "[I") (.int 1)) (.int 0)).before #[Value.ref b] s = true := hs _ (by decide +kernel)
  have h2 : (Cond.eq (.elem (.static "OrdersInTurn" "SWAYS" "[I") (.int 2)) (.int (-2))).before #[Value.ref b] s = true := hs _ (by decide +kernel)
  have h3 : (Cond.eq (.elem (.static "OrdersInTurn" "SWAYS" "[I") (.int 3)) (.int 1)).before #[Value.ref b] s = true := hs _ (by decide +kernel)
  have h4 : (Cond.eq (.elem (.static "OrdersInTurn" "SWAYS" "[I") (.int 4)) (.int 2)).before #[Value.ref b] s = true := hs _ (by decide +kernel)
  have hel : ∀ j : Nat, j < 5 → (Term.elem (.static "OrdersInTurn" "SWAYS" "[I") (.int (Int32.ofNat j))).eval #[Value.ref b] s none [] s = some (.int (swV j)) := by
    intro j hj
    match j, hj with
    | 0, _ => exact va_eqt h0
    | 1, _ => exact va_eqt h1
    | 2, _ => exact va_eqt h2
    | 3, _ => exact va_eqt h3
    | 4, _ => exact va_eqt h4
  have hl : (Cond.laysStatic "OrdersInTurn" "SWAYS" "[I").before #[Value.ref b] s = true := ht _ (List.mem_of_getElem? (i := 403) (by decide +kernel))
  have hini : (Cond.initialized "OrdersInTurn").before #[Value.ref b] s = true := ht _ (List.mem_of_getElem? (i := 42) (by decide +kernel))
  have hnw : (Cond.fieldLinkNest "OrdersInTurn$Guest" 22 "OrdersInTurn" "SWAYS" "[I" "OrdersInTurn").before #[Value.ref b] s = true := ht _ (List.mem_of_getElem? (i := 402) (by decide +kernel))
  obtain ⟨t, ht0, -⟩ := va_Tof (A := fun _ => False) (f := fun j => .int (swV j)) (N := 5) (by decide) harr (va_eqt hlen) hel (fun _ _ h => h)
  refine ⟨t, fun A hA => ?_⟩
  obtain ⟨t', ht1, hT⟩ := va_Tof (A := A) (f := fun j => .int (swV j)) (N := 5) (by decide) harr (va_eqt hlen) hel hA
  rw [ht0] at ht1
  cases ht1
  exact ⟨va_Zof hl hini ht0 hA, hT, va_Nw.of rfl hnw⟩
theorem s0_z {a : Nat} (h : a ≠ 18 ∧ a ≠ 36 ∧ a ≠ 49 ∧ a ≠ 58) : σ0.1 a = fun _ => 0 := by
  obtain ⟨h1, h2, h3, h4⟩ := h
  funext k
  simp [σ0, h1, h2, h3, h4]
def adL (l : List Nat) : Nat → Nat := fun i => l.getD i 0
theorem refs_eq (rs : List Nat) (f : Nat → Nat) : (fun j : Nat => (rs[j]?).map f) = fun j : Nat => (rs.map f)[j]? := by
  funext j
  rw [List.getElem?_map]
theorem ad_get {ws : va_W} {i : Nat} (h : i < ws.length) : ∃ e, ws[i]? = some (adL (ws.map Prod.fst) i, e) := by
  refine ⟨(ws[i]).2, ?_⟩
  rw [List.getElem?_eq_getElem h]
  unfold adL
  rw [List.getD_eq_getElem?_getD, List.getElem?_map, List.getElem?_eq_getElem h]
  rfl
theorem ad_inj {A : Nat → Prop} {ws : va_W} (hD : va_D A ws) (hl : ws.length = 74) : ∀ a b, a < 74 → b < 74 → adL (ws.map Prod.fst) a = adL (ws.map Prod.fst) b → a = b := by
  intro a b ha hb h
  obtain ⟨e1, h1⟩ := ad_get (ws := ws) (i := a) (by omega)
  obtain ⟨e2, h2⟩ := ad_get (ws := ws) (i := b) (by omega)
  exact hD.1 a b _ _ h1 h2 h

def mf {α β : Type} (g : Nat → α → β) : Nat → List α → List β
  | _, [] => []
  | i, a :: r => g i a :: mf g (i + 1) r
theorem mf_get {α β : Type} (g : Nat → α → β) : ∀ (l : List α) (i k : Nat), (mf g i l)[k]? = (l[k]?).map (g (i + k))
  | [], i, k => by simp [mf]
  | a :: r, i, 0 => by simp [mf]
  | a :: r, i, k + 1 => by
    have h := mf_get g r (i + 1) k
    simp only [mf, List.getElem?_cons_succ]
    rw [h, show i + 1 + k = i + (k + 1) by omega]
theorem mf_eq {α β : Type} (g : Nat → α → β) (l : List α) : l.mapIdx g = mf g 0 l := by
  apply List.ext_getElem?
  intro k
  rw [mf_get, List.getElem?_mapIdx, Nat.zero_add]
theorem mf_c {α β : Type} {g : Nat → α → β} {i : Nat} {a : α} {r : List α} {y : β} {ys : List β} (h : g i a = y) (h2 : mf g (i + 1) r = ys) : mf g i (a :: r) = y :: ys := by
  show g i a :: mf g (i + 1) r = y :: ys
  rw [h, h2]
theorem se_i (Δ : Gd) (t : Nat) (f : Nat → Nat) (hi : ∀ a b, a < 74 → b < 74 → f a = f b → a = b) (a n : Nat) (h : a ≠ 18 ∧ a ≠ 36 ∧ a ≠ 49 ∧ a ≠ 58) : entS ((Δ.1, ⟨f, hi⟩, Δ.2, t) : Gm) σ0 a (.inr (.inl n)) = .inl (Δ.2 0, n, .inl (fun _ => 0)) := by
  unfold entS
  rw [s0_z h]
theorem se_0 (Δ : Gd) (t : Nat) (f : Nat → Nat) (hi : ∀ a b, a < 74 → b < 74 → f a = f b → a = b) : entS ((Δ.1, ⟨f, hi⟩, Δ.2, t) : Gm) σ0 0 (Sum.inl (8, [3, 5, 8, 20, 25, 29, 43, 0, 0])) = .inr (8, [.ref (f 1), .ref (f 3), .ref (f 6), .ref (f 18), .ref (f 23), .ref (f 27), .ref (f 41), .int 0, .int 0]) := by
  show Sum.inr (8, List.mapIdx (fun k t' => fval ((Δ.1, ⟨f, hi⟩, Δ.2, t) : Gm) σ0 0 k t') [3, 5, 8, 20, 25, 29, 43, 0, 0]) = _
  rw [mf_eq]
  rfl
theorem se_1 (Δ : Gd) (t : Nat) (f : Nat → Nat) (hi : ∀ a b, a < 74 → b < 74 → f a = f b → a = b) : entS ((Δ.1, ⟨f, hi⟩, Δ.2, t) : Gm) σ0 1 (Sum.inl (5, [4, 0])) = .inr (5, [.ref (f 2), .int 0]) := by
  show Sum.inr (5, List.mapIdx (fun k t' => fval ((Δ.1, ⟨f, hi⟩, Δ.2, t) : Gm) σ0 1 k t') [4, 0]) = _
  rw [mf_eq]
  rfl
theorem se_3 (Δ : Gd) (t : Nat) (f : Nat → Nat) (hi : ∀ a b, a < 74 → b < 74 → f a = f b → a = b) : entS ((Δ.1, ⟨f, hi⟩, Δ.2, t) : Gm) σ0 3 (Sum.inl (4, [6, 7, 0, 0])) = .inr (4, [.ref (f 4), .ref (f 5), .int 0, .int 0]) := by
  show Sum.inr (4, List.mapIdx (fun k t' => fval ((Δ.1, ⟨f, hi⟩, Δ.2, t) : Gm) σ0 3 k t') [6, 7, 0, 0]) = _
  rw [mf_eq]
  rfl
theorem se_6 (Δ : Gd) (t : Nat) (f : Nat → Nat) (hi : ∀ a b, a < 74 → b < 74 → f a = f b → a = b) : entS ((Δ.1, ⟨f, hi⟩, Δ.2, t) : Gm) σ0 6 (Sum.inl (6, [9, 0])) = .inr (6, [.ref (f 7), .int 0]) := by
  show Sum.inr (6, List.mapIdx (fun k t' => fval ((Δ.1, ⟨f, hi⟩, Δ.2, t) : Gm) σ0 6 k t') [9, 0]) = _
  rw [mf_eq]
  rfl
theorem se_7 (Δ : Gd) (t : Nat) (f : Nat → Nat) (hi : ∀ a b, a < 74 → b < 74 → f a = f b → a = b) : entS ((Δ.1, ⟨f, hi⟩, Δ.2, t) : Gm) σ0 7 (Sum.inr (Sum.inr (1, [8, 10, 12, 14, 16]))) = .inl (Δ.2 1, 5, .inr (.inr (.inr (.inr (fun j => ([(f 8), (f 10), (f 12), (f 14), (f 16)] : List Nat)[j]?))))) := by
  show Sum.inl (Δ.2 1, 5, Sum.inr (Sum.inr (Sum.inr (Sum.inr (fun j : Nat => (([8, 10, 12, 14, 16] : List Nat)[j]?).map f))))) = (_ : va_E)
  rw [refs_eq]
  rfl
theorem se_8 (Δ : Gd) (t : Nat) (f : Nat → Nat) (hi : ∀ a b, a < 74 → b < 74 → f a = f b → a = b) : entS ((Δ.1, ⟨f, hi⟩, Δ.2, t) : Gm) σ0 8 (Sum.inl (1, [11, 0, 0, 0])) = .inr (1, [.ref (f 9), .int 0, .int 0, .int 0]) := by
  show Sum.inr (1, List.mapIdx (fun k t' => fval ((Δ.1, ⟨f, hi⟩, Δ.2, t) : Gm) σ0 8 k t') [11, 0, 0, 0]) = _
  rw [mf_eq]
  rfl
theorem se_10 (Δ : Gd) (t : Nat) (f : Nat → Nat) (hi : ∀ a b, a < 74 → b < 74 → f a = f b → a = b) : entS ((Δ.1, ⟨f, hi⟩, Δ.2, t) : Gm) σ0 10 (Sum.inl (1, [13, 0, 0, 0])) = .inr (1, [.ref (f 11), .int 0, .int 0, .int 0]) := by
  show Sum.inr (1, List.mapIdx (fun k t' => fval ((Δ.1, ⟨f, hi⟩, Δ.2, t) : Gm) σ0 10 k t') [13, 0, 0, 0]) = _
  rw [mf_eq]
  rfl
theorem se_12 (Δ : Gd) (t : Nat) (f : Nat → Nat) (hi : ∀ a b, a < 74 → b < 74 → f a = f b → a = b) : entS ((Δ.1, ⟨f, hi⟩, Δ.2, t) : Gm) σ0 12 (Sum.inl (1, [15, 0, 0, 0])) = .inr (1, [.ref (f 13), .int 0, .int 0, .int 0]) := by
  show Sum.inr (1, List.mapIdx (fun k t' => fval ((Δ.1, ⟨f, hi⟩, Δ.2, t) : Gm) σ0 12 k t') [15, 0, 0, 0]) = _
  rw [mf_eq]
  rfl
theorem se_14 (Δ : Gd) (t : Nat) (f : Nat → Nat) (hi : ∀ a b, a < 74 → b < 74 → f a = f b → a = b) : entS ((Δ.1, ⟨f, hi⟩, Δ.2, t) : Gm) σ0 14 (Sum.inl (1, [17, 0, 0, 0])) = .inr (1, [.ref (f 15), .int 0, .int 0, .int 0]) := by
  show Sum.inr (1, List.mapIdx (fun k t' => fval ((Δ.1, ⟨f, hi⟩, Δ.2, t) : Gm) σ0 14 k t') [17, 0, 0, 0]) = _
  rw [mf_eq]
  rfl
theorem se_16 (Δ : Gd) (t : Nat) (f : Nat → Nat) (hi : ∀ a b, a < 74 → b < 74 → f a = f b → a = b) : entS ((Δ.1, ⟨f, hi⟩, Δ.2, t) : Gm) σ0 16 (Sum.inl (1, [19, 0, 0, 0])) = .inr (1, [.ref (f 17), .int 0, .int 0, .int 0]) := by
  show Sum.inr (1, List.mapIdx (fun k t' => fval ((Δ.1, ⟨f, hi⟩, Δ.2, t) : Gm) σ0 16 k t') [19, 0, 0, 0]) = _
  rw [mf_eq]
  rfl
theorem se_18 (Δ : Gd) (t : Nat) (f : Nat → Nat) (hi : ∀ a b, a < 74 → b < 74 → f a = f b → a = b) : entS ((Δ.1, ⟨f, hi⟩, Δ.2, t) : Gm) σ0 18 (Sum.inl (7, [5, 8, 21, 22, 23, 24, 0, 0, 0])) = .inr (7, [.ref (f 3), .ref (f 6), .ref (f 19), .ref (f 20), .ref (f 21), .ref (f 22), .int (-1), .int 0, .int 0]) := by
  show Sum.inr (7, List.mapIdx (fun k t' => fval ((Δ.1, ⟨f, hi⟩, Δ.2, t) : Gm) σ0 18 k t') [5, 8, 21, 22, 23, 24, 0, 0, 0]) = _
  rw [mf_eq]
  rfl
theorem se_23 (Δ : Gd) (t : Nat) (f : Nat → Nat) (hi : ∀ a b, a < 74 → b < 74 → f a = f b → a = b) : entS ((Δ.1, ⟨f, hi⟩, Δ.2, t) : Gm) σ0 23 (Sum.inl (3, [26, 27, 28, 0])) = .inr (3, [.ref (f 24), .ref (f 25), .ref (f 26), .int 0]) := by
  show Sum.inr (3, List.mapIdx (fun k t' => fval ((Δ.1, ⟨f, hi⟩, Δ.2, t) : Gm) σ0 23 k t') [26, 27, 28, 0]) = _
  rw [mf_eq]
  rfl
theorem se_27 (Δ : Gd) (t : Nat) (f : Nat → Nat) (hi : ∀ a b, a < 74 → b < 74 → f a = f b → a = b) : entS ((Δ.1, ⟨f, hi⟩, Δ.2, t) : Gm) σ0 27 (Sum.inl (0, [5, 8, 20, 38, 30, 31, 32, 0, 0, 1])) = .inr (0, [.ref (f 3), .ref (f 6), .ref (f 18), .ref (f 36), .ref (f 28), .ref (f 29), .ref (f 30), .int 0, .int 0, .long 0]) := by
  show Sum.inr (0, List.mapIdx (fun k t' => fval ((Δ.1, ⟨f, hi⟩, Δ.2, t) : Gm) σ0 27 k t') [5, 8, 20, 38, 30, 31, 32, 0, 0, 1]) = _
  rw [mf_eq]
  rfl
theorem se_30 (Δ : Gd) (t : Nat) (f : Nat → Nat) (hi : ∀ a b, a < 74 → b < 74 → f a = f b → a = b) : entS ((Δ.1, ⟨f, hi⟩, Δ.2, t) : Gm) σ0 30 (Sum.inr (Sum.inr (2, [31, 32, 33, 34, 35]))) = .inl (Δ.2 2, 5, .inr (.inr (.inr (.inr (fun j => ([(f 31), (f 32), (f 33), (f 34), (f 35)] : List Nat)[j]?))))) := by
  show Sum.inl (Δ.2 2, 5, Sum.inr (Sum.inr (Sum.inr (Sum.inr (fun j : Nat => (([31, 32, 33, 34, 35] : List Nat)[j]?).map f))))) = (_ : va_E)
  rw [refs_eq]
  rfl
theorem se_36 (Δ : Gd) (t : Nat) (f : Nat → Nat) (hi : ∀ a b, a < 74 → b < 74 → f a = f b → a = b) : entS ((Δ.1, ⟨f, hi⟩, Δ.2, t) : Gm) σ0 36 (Sum.inl (7, [5, 8, 39, 40, 41, 42, 0, 0, 0])) = .inr (7, [.ref (f 3), .ref (f 6), .ref (f 37), .ref (f 38), .ref (f 39), .ref (f 40), .int (-1), .int 0, .int 0]) := by
  show Sum.inr (7, List.mapIdx (fun k t' => fval ((Δ.1, ⟨f, hi⟩, Δ.2, t) : Gm) σ0 36 k t') [5, 8, 39, 40, 41, 42, 0, 0, 0]) = _
  rw [mf_eq]
  rfl
theorem se_41 (Δ : Gd) (t : Nat) (f : Nat → Nat) (hi : ∀ a b, a < 74 → b < 74 → f a = f b → a = b) : entS ((Δ.1, ⟨f, hi⟩, Δ.2, t) : Gm) σ0 41 (Sum.inl (2, [51, 56, 44, 50, 0, 0])) = .inr (2, [.ref (f 49), .ref (f 54), .ref (f 42), .ref (f 48), .int 0, .int 0]) := by
  show Sum.inr (2, List.mapIdx (fun k t' => fval ((Δ.1, ⟨f, hi⟩, Δ.2, t) : Gm) σ0 41 k t') [51, 56, 44, 50, 0, 0]) = _
  rw [mf_eq]
  rfl
theorem se_42 (Δ : Gd) (t : Nat) (f : Nat → Nat) (hi : ∀ a b, a < 74 → b < 74 → f a = f b → a = b) : entS ((Δ.1, ⟨f, hi⟩, Δ.2, t) : Gm) σ0 42 (Sum.inr (Sum.inr (2, [43, 44, 45, 46, 47]))) = .inl (Δ.2 2, 5, .inr (.inr (.inr (.inr (fun j => ([(f 43), (f 44), (f 45), (f 46), (f 47)] : List Nat)[j]?))))) := by
  show Sum.inl (Δ.2 2, 5, Sum.inr (Sum.inr (Sum.inr (Sum.inr (fun j : Nat => (([43, 44, 45, 46, 47] : List Nat)[j]?).map f))))) = (_ : va_E)
  rw [refs_eq]
  rfl
theorem se_49 (Δ : Gd) (t : Nat) (f : Nat → Nat) (hi : ∀ a b, a < 74 → b < 74 → f a = f b → a = b) : entS ((Δ.1, ⟨f, hi⟩, Δ.2, t) : Gm) σ0 49 (Sum.inl (7, [5, 8, 52, 53, 54, 55, 0, 0, 0])) = .inr (7, [.ref (f 3), .ref (f 6), .ref (f 50), .ref (f 51), .ref (f 52), .ref (f 53), .int (-1), .int 0, .int 0]) := by
  show Sum.inr (7, List.mapIdx (fun k t' => fval ((Δ.1, ⟨f, hi⟩, Δ.2, t) : Gm) σ0 49 k t') [5, 8, 52, 53, 54, 55, 0, 0, 0]) = _
  rw [mf_eq]
  rfl
theorem se_54 (Δ : Gd) (t : Nat) (f : Nat → Nat) (hi : ∀ a b, a < 74 → b < 74 → f a = f b → a = b) : entS ((Δ.1, ⟨f, hi⟩, Δ.2, t) : Gm) σ0 54 (Sum.inl (3, [57, 58, 59, 0])) = .inr (3, [.ref (f 55), .ref (f 56), .ref (f 57), .int 0]) := by
  show Sum.inr (3, List.mapIdx (fun k t' => fval ((Δ.1, ⟨f, hi⟩, Δ.2, t) : Gm) σ0 54 k t') [57, 58, 59, 0]) = _
  rw [mf_eq]
  rfl
theorem se_58 (Δ : Gd) (t : Nat) (f : Nat → Nat) (hi : ∀ a b, a < 74 → b < 74 → f a = f b → a = b) : entS ((Δ.1, ⟨f, hi⟩, Δ.2, t) : Gm) σ0 58 (Sum.inl (9, [61, 0, 62, 63, 0, 0, 0, 0, 0, 0, 0, 0, 64, 65, 0, 66, 67, 68, 0, 0, 0, 69, 0, 0, 70, 0, 71, 0, 0, 0, 0, 0, 72, 73, 74, 75, 1])) = .inr (9, [.ref (f 59), .int 0, .ref (f 60), .ref (f 61), .int 0, .int 0, .int 0, .int 0, .int 0, .int 0, .int (-1), .int 0, .ref (f 62), .ref (f 63), .int 0, .ref (f 64), .ref (f 65), .ref (f 66), .int 0, .int 0, .int 0, .ref (f 67), .int 0, .int 0, .ref (f 68), .int 0, .ref (f 69), .int (-1), .int 0, .int 0, .int 0, .int 0, .ref (f 70), .ref (f 71), .ref (f 72), .ref (f 73), .long 0]) := by
  show Sum.inr (9, List.mapIdx (fun k t' => fval ((Δ.1, ⟨f, hi⟩, Δ.2, t) : Gm) σ0 58 k t') [61, 0, 62, 63, 0, 0, 0, 0, 0, 0, 0, 0, 64, 65, 0, 66, 67, 68, 0, 0, 0, 69, 0, 0, 70, 0, 71, 0, 0, 0, 0, 0, 72, 73, 74, 75, 1]) = _
  rw [mf_eq]
  rfl
set_option maxHeartbeats 4000000 in
set_option maxRecDepth 100000 in
theorem wl_0 (Δ : Gd) (t : Nat) (f : Nat → Nat) (hi : ∀ a b, a < 74 → b < 74 → f a = f b → a = b) : wl ((Δ.1, ⟨f, hi⟩, Δ.2, t) : Gm) σ0 = [(f 0, .inr (8, [.ref (f 1), .ref (f 3), .ref (f 6), .ref (f 18), .ref (f 23), .ref (f 27), .ref (f 41), .int 0, .int 0])), (f 1, .inr (5, [.ref (f 2), .int 0])), (f 2, .inl (Δ.2 0, 22, .inl (fun _ => 0))), (f 3, .inr (4, [.ref (f 4), .ref (f 5), .int 0, .int 0])), (f 4, .inl (Δ.2 0, 6, .inl (fun _ => 0))), (f 5, .inl (Δ.2 0, 6, .inl (fun _ => 0))), (f 6, .inr (6, [.ref (f 7), .int 0])), (f 7, .inl (Δ.2 1, 5, .inr (.inr (.inr (.inr (fun j => ([(f 8), (f 10), (f 12), (f 14), (f 16)] : List Nat)[j]?)))))), (f 8, .inr (1, [.ref (f 9), .int 0, .int 0, .int 0])), (f 9, .inl (Δ.2 0, 6, .inl (fun _ => 0))), (f 10, .inr (1, [.ref (f 11), .int 0, .int 0, .int 0])), (f 11, .inl (Δ.2 0, 6, .inl (fun _ => 0))), (f 12, .inr (1, [.ref (f 13), .int 0, .int 0, .int 0])), (f 13, .inl (Δ.2 0, 6, .inl (fun _ => 0))), (f 14, .inr (1, [.ref (f 15), .int 0, .int 0, .int 0])), (f 15, .inl (Δ.2 0, 6, .inl (fun _ => 0))), (f 16, .inr (1, [.ref (f 17), .int 0, .int 0, .int 0])), (f 17, .inl (Δ.2 0, 6, .inl (fun _ => 0))), (f 18, .inr (7, [.ref (f 3), .ref (f 6), .ref (f 19), .ref (f 20), .ref (f 21), .ref (f 22), .int (-1), .int 0, .int 0])), (f 19, .inl (Δ.2 0, 6, .inl (fun _ => 0))), (f 20, .inl (Δ.2 0, 6, .inl (fun _ => 0))), (f 21, .inl (Δ.2 0, 5, .inl (fun _ => 0))), (f 22, .inl (Δ.2 0, 5, .inl (fun _ => 0))), (f 23, .inr (3, [.ref (f 24), .ref (f 25), .ref (f 26), .int 0])), (f 24, .inl (Δ.2 0, 4, .inl (fun _ => 0))), (f 25, .inl (Δ.2 0, 4, .inl (fun _ => 0))), (f 26, .inl (Δ.2 0, 4, .inl (fun _ => 0))), (f 27, .inr (0, [.ref (f 3), .ref (f 6), .ref (f 18), .ref (f 36), .ref (f 28), .ref (f 29), .ref (f 30), .int 0, .int 0, .long 0])), (f 28, .inl (Δ.2 0, 32, .inl (fun _ => 0))), (f 29, .inl (Δ.2 0, 32, .inl (fun _ => 0))), (f 30, .inl (Δ.2 2, 5, .inr (.inr (.inr (.inr (fun j => ([(f 31), (f 32), (f 33), (f 34), (f 35)] : List Nat)[j]?)))))), (f 31, .inl (Δ.2 0, 6, .inl (fun _ => 0))), (f 32, .inl (Δ.2 0, 6, .inl (fun _ => 0))), (f 33, .inl (Δ.2 0, 6, .inl (fun _ => 0))), (f 34, .inl (Δ.2 0, 6, .inl (fun _ => 0))), (f 35, .inl (Δ.2 0, 6, .inl (fun _ => 0))), (f 36, .inr (7, [.ref (f 3), .ref (f 6), .ref (f 37), .ref (f 38), .ref (f 39), .ref (f 40), .int (-1), .int 0, .int 0])), (f 37, .inl (Δ.2 0, 6, .inl (fun _ => 0))), (f 38, .inl (Δ.2 0, 6, .inl (fun _ => 0))), (f 39, .inl (Δ.2 0, 5, .inl (fun _ => 0))), (f 40, .inl (Δ.2 0, 5, .inl (fun _ => 0))), (f 41, .inr (2, [.ref (f 49), .ref (f 54), .ref (f 42), .ref (f 48), .int 0, .int 0])), (f 42, .inl (Δ.2 2, 5, .inr (.inr (.inr (.inr (fun j => ([(f 43), (f 44), (f 45), (f 46), (f 47)] : List Nat)[j]?)))))), (f 43, .inl (Δ.2 0, 6, .inl (fun _ => 0))), (f 44, .inl (Δ.2 0, 6, .inl (fun _ => 0))), (f 45, .inl (Δ.2 0, 6, .inl (fun _ => 0))), (f 46, .inl (Δ.2 0, 6, .inl (fun _ => 0))), (f 47, .inl (Δ.2 0, 6, .inl (fun _ => 0))), (f 48, .inl (Δ.2 0, 5, .inl (fun _ => 0))), (f 49, .inr (7, [.ref (f 3), .ref (f 6), .ref (f 50), .ref (f 51), .ref (f 52), .ref (f 53), .int (-1), .int 0, .int 0])), (f 50, .inl (Δ.2 0, 6, .inl (fun _ => 0))), (f 51, .inl (Δ.2 0, 6, .inl (fun _ => 0))), (f 52, .inl (Δ.2 0, 5, .inl (fun _ => 0))), (f 53, .inl (Δ.2 0, 5, .inl (fun _ => 0))), (f 54, .inr (3, [.ref (f 55), .ref (f 56), .ref (f 57), .int 0])), (f 55, .inl (Δ.2 0, 4, .inl (fun _ => 0))), (f 56, .inl (Δ.2 0, 4, .inl (fun _ => 0))), (f 57, .inl (Δ.2 0, 4, .inl (fun _ => 0))), (f 58, .inr (9, [.ref (f 59), .int 0, .ref (f 60), .ref (f 61), .int 0, .int 0, .int 0, .int 0, .int 0, .int 0, .int (-1), .int 0, .ref (f 62), .ref (f 63), .int 0, .ref (f 64), .ref (f 65), .ref (f 66), .int 0, .int 0, .int 0, .ref (f 67), .int 0, .int 0, .ref (f 68), .int 0, .ref (f 69), .int (-1), .int 0, .int 0, .int 0, .int 0, .ref (f 70), .ref (f 71), .ref (f 72), .ref (f 73), .long 0])), (f 59, .inl (Δ.2 0, 22, .inl (fun _ => 0))), (f 60, .inl (Δ.2 0, 6, .inl (fun _ => 0))), (f 61, .inl (Δ.2 0, 6, .inl (fun _ => 0))), (f 62, .inl (Δ.2 0, 6, .inl (fun _ => 0))), (f 63, .inl (Δ.2 0, 6, .inl (fun _ => 0))), (f 64, .inl (Δ.2 0, 10, .inl (fun _ => 0))), (f 65, .inl (Δ.2 0, 30, .inl (fun _ => 0))), (f 66, .inl (Δ.2 0, 5, .inl (fun _ => 0))), (f 67, .inl (Δ.2 0, 5, .inl (fun _ => 0))), (f 68, .inl (Δ.2 0, 12, .inl (fun _ => 0))), (f 69, .inl (Δ.2 0, 30, .inl (fun _ => 0))), (f 70, .inl (Δ.2 0, 30, .inl (fun _ => 0))), (f 71, .inl (Δ.2 0, 10, .inl (fun _ => 0))), (f 72, .inl (Δ.2 0, 5, .inl (fun _ => 0))), (f 73, .inl (Δ.2 0, 12, .inl (fun _ => 0)))] := by
  show List.mapIdx (fun a h => (f a, entS ((Δ.1, ⟨f, hi⟩, Δ.2, t) : Gm) σ0 a h)) shpL = _
  rw [mf_eq]
  unfold shpL
  refine mf_c (congrArg (Prod.mk (f 0)) (se_0 Δ t f hi)) ?_
  refine mf_c (congrArg (Prod.mk (f 1)) (se_1 Δ t f hi)) ?_
  refine mf_c (congrArg (Prod.mk (f 2)) (se_i Δ t f hi 2 22 (by decide))) ?_
  refine mf_c (congrArg (Prod.mk (f 3)) (se_3 Δ t f hi)) ?_
  refine mf_c (congrArg (Prod.mk (f 4)) (se_i Δ t f hi 4 6 (by decide))) ?_
  refine mf_c (congrArg (Prod.mk (f 5)) (se_i Δ t f hi 5 6 (by decide))) ?_
  refine mf_c (congrArg (Prod.mk (f 6)) (se_6 Δ t f hi)) ?_
  refine mf_c (congrArg (Prod.mk (f 7)) (se_7 Δ t f hi)) ?_
  refine mf_c (congrArg (Prod.mk (f 8)) (se_8 Δ t f hi)) ?_
  refine mf_c (congrArg (Prod.mk (f 9)) (se_i Δ t f hi 9 6 (by decide))) ?_
  refine mf_c (congrArg (Prod.mk (f 10)) (se_10 Δ t f hi)) ?_
  refine mf_c (congrArg (Prod.mk (f 11)) (se_i Δ t f hi 11 6 (by decide))) ?_
  refine mf_c (congrArg (Prod.mk (f 12)) (se_12 Δ t f hi)) ?_
  refine mf_c (congrArg (Prod.mk (f 13)) (se_i Δ t f hi 13 6 (by decide))) ?_
  refine mf_c (congrArg (Prod.mk (f 14)) (se_14 Δ t f hi)) ?_
  refine mf_c (congrArg (Prod.mk (f 15)) (se_i Δ t f hi 15 6 (by decide))) ?_
  refine mf_c (congrArg (Prod.mk (f 16)) (se_16 Δ t f hi)) ?_
  refine mf_c (congrArg (Prod.mk (f 17)) (se_i Δ t f hi 17 6 (by decide))) ?_
  refine mf_c (congrArg (Prod.mk (f 18)) (se_18 Δ t f hi)) ?_
  refine mf_c (congrArg (Prod.mk (f 19)) (se_i Δ t f hi 19 6 (by decide))) ?_
  refine mf_c (congrArg (Prod.mk (f 20)) (se_i Δ t f hi 20 6 (by decide))) ?_
  refine mf_c (congrArg (Prod.mk (f 21)) (se_i Δ t f hi 21 5 (by decide))) ?_
  refine mf_c (congrArg (Prod.mk (f 22)) (se_i Δ t f hi 22 5 (by decide))) ?_
  refine mf_c (congrArg (Prod.mk (f 23)) (se_23 Δ t f hi)) ?_
  refine mf_c (congrArg (Prod.mk (f 24)) (se_i Δ t f hi 24 4 (by decide))) ?_
  refine mf_c (congrArg (Prod.mk (f 25)) (se_i Δ t f hi 25 4 (by decide))) ?_
  refine mf_c (congrArg (Prod.mk (f 26)) (se_i Δ t f hi 26 4 (by decide))) ?_
  refine mf_c (congrArg (Prod.mk (f 27)) (se_27 Δ t f hi)) ?_
  refine mf_c (congrArg (Prod.mk (f 28)) (se_i Δ t f hi 28 32 (by decide))) ?_
  refine mf_c (congrArg (Prod.mk (f 29)) (se_i Δ t f hi 29 32 (by decide))) ?_
  refine mf_c (congrArg (Prod.mk (f 30)) (se_30 Δ t f hi)) ?_
  refine mf_c (congrArg (Prod.mk (f 31)) (se_i Δ t f hi 31 6 (by decide))) ?_
  refine mf_c (congrArg (Prod.mk (f 32)) (se_i Δ t f hi 32 6 (by decide))) ?_
  refine mf_c (congrArg (Prod.mk (f 33)) (se_i Δ t f hi 33 6 (by decide))) ?_
  refine mf_c (congrArg (Prod.mk (f 34)) (se_i Δ t f hi 34 6 (by decide))) ?_
  refine mf_c (congrArg (Prod.mk (f 35)) (se_i Δ t f hi 35 6 (by decide))) ?_
  refine mf_c (congrArg (Prod.mk (f 36)) (se_36 Δ t f hi)) ?_
  refine mf_c (congrArg (Prod.mk (f 37)) (se_i Δ t f hi 37 6 (by decide))) ?_
  refine mf_c (congrArg (Prod.mk (f 38)) (se_i Δ t f hi 38 6 (by decide))) ?_
  refine mf_c (congrArg (Prod.mk (f 39)) (se_i Δ t f hi 39 5 (by decide))) ?_
  refine mf_c (congrArg (Prod.mk (f 40)) (se_i Δ t f hi 40 5 (by decide))) ?_
  refine mf_c (congrArg (Prod.mk (f 41)) (se_41 Δ t f hi)) ?_
  refine mf_c (congrArg (Prod.mk (f 42)) (se_42 Δ t f hi)) ?_
  refine mf_c (congrArg (Prod.mk (f 43)) (se_i Δ t f hi 43 6 (by decide))) ?_
  refine mf_c (congrArg (Prod.mk (f 44)) (se_i Δ t f hi 44 6 (by decide))) ?_
  refine mf_c (congrArg (Prod.mk (f 45)) (se_i Δ t f hi 45 6 (by decide))) ?_
  refine mf_c (congrArg (Prod.mk (f 46)) (se_i Δ t f hi 46 6 (by decide))) ?_
  refine mf_c (congrArg (Prod.mk (f 47)) (se_i Δ t f hi 47 6 (by decide))) ?_
  refine mf_c (congrArg (Prod.mk (f 48)) (se_i Δ t f hi 48 5 (by decide))) ?_
  refine mf_c (congrArg (Prod.mk (f 49)) (se_49 Δ t f hi)) ?_
  refine mf_c (congrArg (Prod.mk (f 50)) (se_i Δ t f hi 50 6 (by decide))) ?_
  refine mf_c (congrArg (Prod.mk (f 51)) (se_i Δ t f hi 51 6 (by decide))) ?_
  refine mf_c (congrArg (Prod.mk (f 52)) (se_i Δ t f hi 52 5 (by decide))) ?_
  refine mf_c (congrArg (Prod.mk (f 53)) (se_i Δ t f hi 53 5 (by decide))) ?_
  refine mf_c (congrArg (Prod.mk (f 54)) (se_54 Δ t f hi)) ?_
  refine mf_c (congrArg (Prod.mk (f 55)) (se_i Δ t f hi 55 4 (by decide))) ?_
  refine mf_c (congrArg (Prod.mk (f 56)) (se_i Δ t f hi 56 4 (by decide))) ?_
  refine mf_c (congrArg (Prod.mk (f 57)) (se_i Δ t f hi 57 4 (by decide))) ?_
  refine mf_c (congrArg (Prod.mk (f 58)) (se_58 Δ t f hi)) ?_
  refine mf_c (congrArg (Prod.mk (f 59)) (se_i Δ t f hi 59 22 (by decide))) ?_
  refine mf_c (congrArg (Prod.mk (f 60)) (se_i Δ t f hi 60 6 (by decide))) ?_
  refine mf_c (congrArg (Prod.mk (f 61)) (se_i Δ t f hi 61 6 (by decide))) ?_
  refine mf_c (congrArg (Prod.mk (f 62)) (se_i Δ t f hi 62 6 (by decide))) ?_
  refine mf_c (congrArg (Prod.mk (f 63)) (se_i Δ t f hi 63 6 (by decide))) ?_
  refine mf_c (congrArg (Prod.mk (f 64)) (se_i Δ t f hi 64 10 (by decide))) ?_
  refine mf_c (congrArg (Prod.mk (f 65)) (se_i Δ t f hi 65 30 (by decide))) ?_
  refine mf_c (congrArg (Prod.mk (f 66)) (se_i Δ t f hi 66 5 (by decide))) ?_
  refine mf_c (congrArg (Prod.mk (f 67)) (se_i Δ t f hi 67 5 (by decide))) ?_
  refine mf_c (congrArg (Prod.mk (f 68)) (se_i Δ t f hi 68 12 (by decide))) ?_
  refine mf_c (congrArg (Prod.mk (f 69)) (se_i Δ t f hi 69 30 (by decide))) ?_
  refine mf_c (congrArg (Prod.mk (f 70)) (se_i Δ t f hi 70 30 (by decide))) ?_
  refine mf_c (congrArg (Prod.mk (f 71)) (se_i Δ t f hi 71 10 (by decide))) ?_
  refine mf_c (congrArg (Prod.mk (f 72)) (se_i Δ t f hi 72 5 (by decide))) ?_
  refine mf_c (congrArg (Prod.mk (f 73)) (se_i Δ t f hi 73 12 (by decide))) ?_
  rfl
theorem st_P (Δ : Gd) (t : Nat) (f : Nat → Nat) (hi : ∀ a b, a < 74 → b < 74 → f a = f b → a = b) {H : Heap} (hP : va_P Δ.1 vwCl [(f 0, .inr (8, [.ref (f 1), .ref (f 3), .ref (f 6), .ref (f 18), .ref (f 23), .ref (f 27), .ref (f 41), .int 0, .int 0])), (f 1, .inr (5, [.ref (f 2), .int 0])), (f 2, .inl (Δ.2 0, 22, .inl (fun _ => 0))), (f 3, .inr (4, [.ref (f 4), .ref (f 5), .int 0, .int 0])), (f 4, .inl (Δ.2 0, 6, .inl (fun _ => 0))), (f 5, .inl (Δ.2 0, 6, .inl (fun _ => 0))), (f 6, .inr (6, [.ref (f 7), .int 0])), (f 7, .inl (Δ.2 1, 5, .inr (.inr (.inr (.inr (fun j => ([(f 8), (f 10), (f 12), (f 14), (f 16)] : List Nat)[j]?)))))), (f 8, .inr (1, [.ref (f 9), .int 0, .int 0, .int 0])), (f 9, .inl (Δ.2 0, 6, .inl (fun _ => 0))), (f 10, .inr (1, [.ref (f 11), .int 0, .int 0, .int 0])), (f 11, .inl (Δ.2 0, 6, .inl (fun _ => 0))), (f 12, .inr (1, [.ref (f 13), .int 0, .int 0, .int 0])), (f 13, .inl (Δ.2 0, 6, .inl (fun _ => 0))), (f 14, .inr (1, [.ref (f 15), .int 0, .int 0, .int 0])), (f 15, .inl (Δ.2 0, 6, .inl (fun _ => 0))), (f 16, .inr (1, [.ref (f 17), .int 0, .int 0, .int 0])), (f 17, .inl (Δ.2 0, 6, .inl (fun _ => 0))), (f 18, .inr (7, [.ref (f 3), .ref (f 6), .ref (f 19), .ref (f 20), .ref (f 21), .ref (f 22), .int (-1), .int 0, .int 0])), (f 19, .inl (Δ.2 0, 6, .inl (fun _ => 0))), (f 20, .inl (Δ.2 0, 6, .inl (fun _ => 0))), (f 21, .inl (Δ.2 0, 5, .inl (fun _ => 0))), (f 22, .inl (Δ.2 0, 5, .inl (fun _ => 0))), (f 23, .inr (3, [.ref (f 24), .ref (f 25), .ref (f 26), .int 0])), (f 24, .inl (Δ.2 0, 4, .inl (fun _ => 0))), (f 25, .inl (Δ.2 0, 4, .inl (fun _ => 0))), (f 26, .inl (Δ.2 0, 4, .inl (fun _ => 0))), (f 27, .inr (0, [.ref (f 3), .ref (f 6), .ref (f 18), .ref (f 36), .ref (f 28), .ref (f 29), .ref (f 30), .int 0, .int 0, .long 0])), (f 28, .inl (Δ.2 0, 32, .inl (fun _ => 0))), (f 29, .inl (Δ.2 0, 32, .inl (fun _ => 0))), (f 30, .inl (Δ.2 2, 5, .inr (.inr (.inr (.inr (fun j => ([(f 31), (f 32), (f 33), (f 34), (f 35)] : List Nat)[j]?)))))), (f 31, .inl (Δ.2 0, 6, .inl (fun _ => 0))), (f 32, .inl (Δ.2 0, 6, .inl (fun _ => 0))), (f 33, .inl (Δ.2 0, 6, .inl (fun _ => 0))), (f 34, .inl (Δ.2 0, 6, .inl (fun _ => 0))), (f 35, .inl (Δ.2 0, 6, .inl (fun _ => 0))), (f 36, .inr (7, [.ref (f 3), .ref (f 6), .ref (f 37), .ref (f 38), .ref (f 39), .ref (f 40), .int (-1), .int 0, .int 0])), (f 37, .inl (Δ.2 0, 6, .inl (fun _ => 0))), (f 38, .inl (Δ.2 0, 6, .inl (fun _ => 0))), (f 39, .inl (Δ.2 0, 5, .inl (fun _ => 0))), (f 40, .inl (Δ.2 0, 5, .inl (fun _ => 0))), (f 41, .inr (2, [.ref (f 49), .ref (f 54), .ref (f 42), .ref (f 48), .int 0, .int 0])), (f 42, .inl (Δ.2 2, 5, .inr (.inr (.inr (.inr (fun j => ([(f 43), (f 44), (f 45), (f 46), (f 47)] : List Nat)[j]?)))))), (f 43, .inl (Δ.2 0, 6, .inl (fun _ => 0))), (f 44, .inl (Δ.2 0, 6, .inl (fun _ => 0))), (f 45, .inl (Δ.2 0, 6, .inl (fun _ => 0))), (f 46, .inl (Δ.2 0, 6, .inl (fun _ => 0))), (f 47, .inl (Δ.2 0, 6, .inl (fun _ => 0))), (f 48, .inl (Δ.2 0, 5, .inl (fun _ => 0))), (f 49, .inr (7, [.ref (f 3), .ref (f 6), .ref (f 50), .ref (f 51), .ref (f 52), .ref (f 53), .int (-1), .int 0, .int 0])), (f 50, .inl (Δ.2 0, 6, .inl (fun _ => 0))), (f 51, .inl (Δ.2 0, 6, .inl (fun _ => 0))), (f 52, .inl (Δ.2 0, 5, .inl (fun _ => 0))), (f 53, .inl (Δ.2 0, 5, .inl (fun _ => 0))), (f 54, .inr (3, [.ref (f 55), .ref (f 56), .ref (f 57), .int 0])), (f 55, .inl (Δ.2 0, 4, .inl (fun _ => 0))), (f 56, .inl (Δ.2 0, 4, .inl (fun _ => 0))), (f 57, .inl (Δ.2 0, 4, .inl (fun _ => 0))), (f 58, .inr (9, [.ref (f 59), .int 0, .ref (f 60), .ref (f 61), .int 0, .int 0, .int 0, .int 0, .int 0, .int 0, .int (-1), .int 0, .ref (f 62), .ref (f 63), .int 0, .ref (f 64), .ref (f 65), .ref (f 66), .int 0, .int 0, .int 0, .ref (f 67), .int 0, .int 0, .ref (f 68), .int 0, .ref (f 69), .int (-1), .int 0, .int 0, .int 0, .int 0, .ref (f 70), .ref (f 71), .ref (f 72), .ref (f 73), .long 0])), (f 59, .inl (Δ.2 0, 22, .inl (fun _ => 0))), (f 60, .inl (Δ.2 0, 6, .inl (fun _ => 0))), (f 61, .inl (Δ.2 0, 6, .inl (fun _ => 0))), (f 62, .inl (Δ.2 0, 6, .inl (fun _ => 0))), (f 63, .inl (Δ.2 0, 6, .inl (fun _ => 0))), (f 64, .inl (Δ.2 0, 10, .inl (fun _ => 0))), (f 65, .inl (Δ.2 0, 30, .inl (fun _ => 0))), (f 66, .inl (Δ.2 0, 5, .inl (fun _ => 0))), (f 67, .inl (Δ.2 0, 5, .inl (fun _ => 0))), (f 68, .inl (Δ.2 0, 12, .inl (fun _ => 0))), (f 69, .inl (Δ.2 0, 30, .inl (fun _ => 0))), (f 70, .inl (Δ.2 0, 30, .inl (fun _ => 0))), (f 71, .inl (Δ.2 0, 10, .inl (fun _ => 0))), (f 72, .inl (Δ.2 0, 5, .inl (fun _ => 0))), (f 73, .inl (Δ.2 0, 12, .inl (fun _ => 0)))] H) : va_P Δ.1 vwCl (wl ((Δ.1, ⟨f, hi⟩, Δ.2, t) : Gm) σ0) H := by
  rw [wl_0]
  exact hP
