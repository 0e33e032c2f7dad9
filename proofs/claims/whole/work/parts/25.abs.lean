/-! the whole state, as it is told; every call's answer and the state then -/
abbrev Kt : Type := Nat × Pb × (Nat → Int32) × Ev
abbrev Xs : Type := Pb × (Nat → Int32) × Nat × (Nat → Int32) × Ev × Nat × Nat × Kt
abbrev xP (X : Xs) : Pb := X.1
abbrev xPg (X : Xs) : Nat → Int32 := X.2.1
abbrev xPn (X : Xs) : Nat := X.2.2.1
abbrev xH (X : Xs) : Nat → Int32 := X.2.2.2.1
abbrev xE (X : Xs) : Ev := X.2.2.2.2.1
abbrev xC (X : Xs) : Nat := X.2.2.2.2.2.1
abbrev xA (X : Xs) : Nat := X.2.2.2.2.2.2.1
abbrev xK (X : Xs) : Kt := X.2.2.2.2.2.2.2
def ix (n : Nat) (a : Int32) : Option Nat := if 0 ≤ a ∧ a < nI n then some a.toNatClampNeg else none
theorem ix_some {n k : Nat} {a : Int32} (hn : n < 2 ^ 31) (h : ix n a = some k) : k < n ∧ a = nI k := by
  unfold ix at h
  split at h
  · rename_i q
    obtain ⟨j, hj, e⟩ := nI_of (Int32.not_lt.mpr q.1)
    subst e
    rw [nI_clamp hj] at h
    cases h
    exact ⟨(nI_ltI hj hn).mp q.2, rfl⟩
  · cases h
theorem ix_nI {n k : Nat} (hn : n < 2 ^ 31) (h : k < n) : ix n (nI k) = some k := by
  unfold ix
  rw [if_pos ⟨nI_pos' (by omega), nI_lt h hn⟩, nI_clamp (by omega)]
theorem ix_none {n : Nat} {a : Int32} (h : ix n a = none) : a < 0 ∨ nI n ≤ a := by
  unfold ix at h
  split at h
  · cases h
  · rename_i q
    by_cases z : 0 ≤ a
    · exact Or.inr (Int32.not_lt.mp fun y => q ⟨z, y⟩)
    · exact Or.inl (Int32.not_le.mp z)
theorem ix_out {n : Nat} {a : Int32} (h : a < 0 ∨ nI n ≤ a) : ix n a = none := by
  unfold ix
  rw [if_neg]
  rintro ⟨z, y⟩
  rcases h with h | h
  · exact Int32.not_lt.mpr z h
  · exact Int32.not_lt.mpr h y
/-- within -/
def inR (lo hi a : Int32) : Bool := decide (lo ≤ a) && decide (a ≤ hi)
theorem inR_ix {k : Nat} {a : Int32} (hk : k < 2 ^ 31 - 1) : inR (nI 0) (nI k) a = (ix (k + 1) a).isSome := by
  cases h : ix (k + 1) a with
  | none =>
    rcases ix_none h with q | q
    · have : ¬ nI 0 ≤ a := Int32.not_le.mpr q
      simp [inR, this]
    · have : ¬ a ≤ nI k := fun z => by
        have h1 := Int32.le_trans q z
        exact nI_ge (by omega) (by omega) h1
      simp [inR, this]
  | some j =>
    obtain ⟨h1, rfl⟩ := ix_some (by omega) h
    have h2 : nI 0 ≤ nI j := nI_le (by omega) (by omega)
    have h3 : nI j ≤ nI k := nI_le (by omega) (by omega)
    simp [inR, h2, h3]
/-- what holds of data, row and evenings -/
def DI (P : Pb) (h : Nat → Int32) (E : Ev) : Prop :=
  Pok P ∧ pD P ≤ 6 ∧ pG P ≤ 5 ∧ (pD P = 0 → pG P = 0) ∧ (∀ g, g < pG P → ∃ k, k < 5 ∧ pKi P g = nI k) ∧ (∀ g d, g < pG P → d < pD P → ∃ k, k ≤ 9 ∧ pWa P g d = nI k) ∧ (pMu P = 0 → pUr P = -1) ∧ Rok P h ∧ E.1 ≤ 4 ∧ ∀ e, e < E.1 → E.2.1 e < pG P ∧ E.2.2.1 e < pG P
/-- the same card -/
def Smc (P P' : Pb) : Prop := pD P' = pD P ∧ pLo P' = pLo P ∧ (∀ d, d < pD P → pSt P' d = pSt P d ∧ pPr P' d = pPr P d) ∧ pG P' ≤ pG P ∧ ∀ g, g < pG P' → pKi P' g = pKi P g
def XI (N : Nat) (X : Xs) : Prop :=
  xPn X ≤ 22 ∧ DI (xP X) (xH X) (xE X) ∧ xC X ≤ N ∧ (xC X = 0 ↔ pD (xP X) = 0) ∧ xA X ≤ 20 ∧ (xK X).1 ≤ xC X ∧ ((xK X).1 = xC X → 0 < xC X → Smc (xP X) (xK X).2.1 ∧ DI (xK X).2.1 (xK X).2.2.1 (xK X).2.2.2)
/-- the class holds X -/
def RC (σ : Mm) (X : Xs) : Prop :=
  (σ.1 1 1 = nI (xPn X) ∧ ∀ k, k < xPn X → σ.1 2 k = xPg X k) ∧ (PI σ (xP X) ∧ σ.1 3 3 = pLo (xP X) ∧ ∀ g, g < pG (xP X) → σ.1 (8 + 2 * g) 1 = pKi (xP X) g) ∧ TI σ 18 (xP X) (xH X) ∧ LI σ 23 (pG (xP X)) (xE X) ∧ (σ.1 0 7 = nI (xC X) ∧ σ.1 0 8 = nI (xA X)) ∧ σ.1 41 5 = nI (xK X).1 ∧
  ((xK X).1 = xC X → 0 < xC X → σ.1 41 4 = nI (pG (xK X).2.1) ∧ TI σ 49 (xK X).2.1 (xK X).2.2.1 ∧ LI σ 54 (pG (xK X).2.1) (xK X).2.2.2 ∧ ∀ g, g < pG (xK X).2.1 → σ.1 48 g = pPu (xK X).2.1 g ∧ ∀ d, d < pD (xK X).2.1 → σ.1 (43 + g) d = pWa (xK X).2.1 g d)
/-- the model's cells are as they were -/
def FrC (σ σ' : Mm) : Prop := (∀ a, 58 ≤ a → σ'.1 a = σ.1 a) ∧ ∀ a, 58 ≤ a → σ'.2 a = σ.2 a
theorem FrC.rf {σ : Mm} : FrC σ σ := ⟨fun _ _ => rfl, fun _ _ => rfl⟩
theorem FrC.trans {σ σ1 σ2 : Mm} (h : FrC σ σ1) (h2 : FrC σ1 σ2) : FrC σ σ2 := ⟨fun a q => (h2.1 a q).trans (h.1 a q), fun a q => (h2.2 a q).trans (h.2 a q)⟩
theorem OF.frc {σ σ' : Mm} (h : OF σ σ') : FrC σ σ' := ⟨fun a q => h.1 a (by omega), fun a q => h.2 a (by omega)⟩
theorem TI.eq {σ σ' : Mm} {t : Nat} {P : Pb} {h : Nat → Int32} (hT : TI σ t P h) (e : ∀ a, t ≤ a → a ≤ t + 4 → σ'.1 a = σ.1 a) : TI σ' t P h := by
  obtain ⟨⟨u1, u2, u3⟩, h5, h6⟩ := hT
  refine ⟨?_, fun d hd => ?_, fun g hg hz => ?_⟩
  · rw [e t (by omega) (by omega)]; exact ⟨u1, u2, u3⟩
  · rw [e (t + 1) (by omega) (by omega), e (t + 2) (by omega) (by omega)]; exact h5 d hd
  · rw [e (t + 3) (by omega) (by omega), e (t + 4) (by omega) (by omega)]; exact h6 g hg hz
theorem LI.eq {σ σ' : Mm} {l G : Nat} {E : Ev} (hL : LI σ l G E) (e : ∀ a, l ≤ a → a ≤ l + 3 → σ'.1 a = σ.1 a) : LI σ' l G E := by
  obtain ⟨a, b, c⟩ := hL
  refine ⟨by rw [e l (by omega) (by omega)]; exact a, b, fun k hk => ?_⟩
  rw [e (l + 1) (by omega) (by omega), e (l + 2) (by omega) (by omega), e (l + 3) (by omega) (by omega)]
  exact c k hk
theorem PI.eq {σ σ' : Mm} {P : Pb} (hP : PI σ P) (e : ∀ a, 3 ≤ a → a ≤ 17 → σ'.1 a = σ.1 a) : PI σ' P := by
  obtain ⟨⟨a1, a2⟩, ⟨b1, b2⟩, c, d⟩ := hP
  refine ⟨⟨by rw [e 3 (by omega) (by omega)]; exact a1, a2⟩, ⟨by rw [e 6 (by omega) (by omega)]; exact b1, b2⟩, fun k hk => ?_, fun g hg => ?_⟩
  · rw [e 4 (by omega) (by omega), e 5 (by omega) (by omega)]; exact c k hk
  · rw [e (8 + 2 * g) (by omega) (by omega), e (9 + 2 * g) (by omega) (by omega)]; exact d g hg
/-- the kept part alone -/
def RK (σ : Mm) (c : Nat) (K : Kt) : Prop := σ.1 41 5 = nI K.1 ∧ (K.1 = c → 0 < c → σ.1 41 4 = nI (pG K.2.1) ∧ TI σ 49 K.2.1 K.2.2.1 ∧ LI σ 54 (pG K.2.1) K.2.2.2 ∧ ∀ g, g < pG K.2.1 → σ.1 48 g = pPu K.2.1 g ∧ ∀ d, d < pD K.2.1 → σ.1 (43 + g) d = pWa K.2.1 g d)
theorem RK.eq {σ σ' : Mm} {c : Nat} {K : Kt} (hK : pG K.2.1 ≤ 5 ∨ ¬ (K.1 = c ∧ 0 < c)) (h : RK σ c K) (e : ∀ a, 41 ≤ a → a ≤ 57 → σ'.1 a = σ.1 a) : RK σ' c K := by
  obtain ⟨a, b⟩ := h
  refine ⟨by rw [e 41 (by omega) (by omega)]; exact a, fun q1 q2 => ?_⟩
  have hG : pG K.2.1 ≤ 5 := hK.resolve_right (fun z => z ⟨q1, q2⟩)
  obtain ⟨b1, b2, b3, b4⟩ := b q1 q2
  refine ⟨by rw [e 41 (by omega) (by omega)]; exact b1, b2.eq (fun a h1 h2 => e a (by omega) (by omega)), b3.eq (fun a h1 h2 => e a (by omega) (by omega)), fun g hg => ?_⟩
  rw [e 48 (by omega) (by omega), e (43 + g) (by omega) (by omega)]
  exact b4 g hg
theorem RC.of {σ σ' : Mm} {X : Xs} {N : Nat} (hI : XI N X) (h : RC σ X) (ho : OF σ σ') : RC σ' X := by
  obtain ⟨⟨a1, a2⟩, ⟨b1, b2, b3⟩, c, d, ⟨e1, e2⟩, f⟩ := h
  have hG := b1.2.1.2
  have hK : pG (xK X).2.1 ≤ 5 ∨ ¬ ((xK X).1 = xC X ∧ 0 < xC X) := by
    by_cases q : (xK X).1 = xC X ∧ 0 < xC X
    · exact Or.inl (hI.2.2.2.2.2.2 q.1 q.2).2.2.2.1
    · exact Or.inr q
  refine ⟨⟨by rw [ho.1 1 (by omega)]; exact a1, fun k hk => by rw [ho.1 2 (by omega)]; exact a2 k hk⟩, ⟨b1.eq (fun a h1 h2 => ho.1 a (by omega)), by rw [ho.1 3 (by omega)]; exact b2, fun g hg => by rw [ho.1 _ (by omega)]; exact b3 g hg⟩, c.eq (fun a h1 h2 => ho.1 a (by omega)), d.eq (fun a h1 h2 => ho.1 a (by omega)), ⟨by rw [ho.1 0 (by omega)]; exact e1, by rw [ho.1 0 (by omega)]; exact e2⟩, RK.eq hK f (fun a h1 h2 => ho.1 a (by omega))⟩
theorem RC.su {σ : Mm} {X : Xs} {N : Nat} (hI : XI N X) (h : RC σ X) : SU σ (xP X) := ⟨h.2.1.1, h.2.1.2.1, h.2.2.1.1.1, h.2.2.1.1.2.1, hI.2.1.2.2.2.2.2.2.1⟩
theorem gdB_congr {p q : Nat → Int32} {k : Nat} (h : ∀ j, j ≤ k → p j = q j) : gdB p k = gdB q k := by
  unfold gdB
  by_cases h0 : k = 0
  · subst h0; simp [h 0 (Nat.le_refl _)]
  · rw [h k (Nat.le_refl _), h (k - 1) (by omega), h (k - 2) (by omega)]
theorem ffF_congr {p q : Nat → Int32} : ∀ m k : Nat, (∀ j, j < k + m → p j = q j) → ffF p m k = ffF q m k
  | 0, _, _ => rfl
  | m + 1, k, h => by
    unfold ffF
    rw [ffF_congr m (k + 1) (fun j hj => h j (by omega)), gdB_congr (fun j hj => h j (by omega))]
theorem ffM_congr {p q : Nat → Int32} {n : Nat} (h : ∀ j, j < n → p j = q j) : ffM p n = ffM q n := ffF_congr n 0 (fun j hj => h j (by omega))
theorem crdB_congr {p q : Nat → Int32} {n : Nat} (h : ∀ j, j < n → p j = q j) : crdB p n = crdB q n := by
  unfold crdB
  rw [ffM_congr h]
  by_cases z : 2 ≤ n
  · rw [h (n - 2) (by omega)]
  · simp [z]
/-- the answers -/
def cnH (X : Xs) (d : Nat) : Nat := cnt (xH X) (nI d) (pG (xP X))
def aLetter (X : Xs) (a : Int32) : Int32 := if inR (nI 1) (nI 126) a = true then (if xPn X < 22 then nI (xPn X + 1) else -104) else -102
def tLetter (X : Xs) (a : Int32) : Xs := if inR (nI 1) (nI 126) a = true ∧ xPn X < 22 then (xP X, upd (xPg X) (xPn X) a, xPn X + 1, X.2.2.2) else X
def aBlank (X : Xs) : Int32 := nI (xPn X)
def tBlank (X : Xs) : Xs := (xP X, xPg X, 0, X.2.2.2)
def aFault (X : Xs) : Int32 := nI (ffM (xPg X) (xPn X))
def newP (pg : Nat → Int32) (D : Nat) : Pb := (D, 0, pg (3 * D) - nI 48, -1, 0, (fun d => pg (3 * d) - nI 48), (fun d => pg (3 * d + 1) - nI 48), (fun _ => 0), (fun _ => 0), (fun _ _ => 0))
def aCard (X : Xs) : Int32 := if crdB (xPg X) (xPn X) = true then nI ((xPn X - 1) / 3) else -103
def tCard (X : Xs) : Xs := if crdB (xPg X) (xPn X) = true then (newP (xPg X) ((xPn X - 1) / 3), xPg X, 0, (fun _ => -2), (0, (fun _ => 0), (fun _ => 0), (fun _ => 0)), xC X + 1, xA X, xK X) else X
def aDish (X : Xs) (a b : Int32) : Int32 := match ix (pD (xP X)) a with
  | none => -101
  | some d => match ix 4 b with
    | some 0 => pSt (xP X) d - nI (cnH X d)
    | some 1 => pPr (xP X) d
    | some 2 => nI (cnH X d)
    | some 3 => if nI d = pUr (xP X) then pMu (xP X) else 0
    | _ => -102
def seat (P : Pb) (k x : Int32) : Pb := (pD P, pG P + 1, pLo P, pUr P, pMu P, pSt P, pPr P, upd (pPu P) (pG P) x, upd (pKi P) (pG P) k, fun a b => if a = pG P then 0 else pWa P a b)
def aGuest (X : Xs) (a b : Int32) : Int32 := if (inR (nI 0) (nI 4) a && inR (nI 1) (nI 9) b) = true then (if pD (xP X) = 0 then -103 else if pG (xP X) < 5 then nI (pG (xP X)) else -104) else -102
def tGuest (X : Xs) (a b : Int32) : Xs := if (inR (nI 0) (nI 4) a && inR (nI 1) (nI 9) b) = true ∧ pD (xP X) ≠ 0 ∧ pG (xP X) < 5 then (seat (xP X) a b, X.2) else X
def aAbout (X : Xs) (a b : Int32) : Int32 := match ix (pG (xP X)) a with
  | none => -101
  | some g => match ix 6 b with
    | some 0 => pKi (xP X) g
    | some 1 => pPu (xP X) g
    | some 2 => hC (xH X g)
    | some 3 => hO (xH X g)
    | some 4 => swK (pKi (xP X) g) * pLo (xP X)
    | some 5 => joyM (xP X) (xH X) g
    | _ => -102
def aAs (X : Xs) (a b : Int32) : Int32 := match ix (pG (xP X)) a with
  | none => -101
  | some g => if inR (nI 0) (nI 4) b = true then (if isK (pKi (xP X) g) b = true then nI g else -1) else -102
def aWant (X : Xs) (a b c : Int32) : Int32 := match ix (pG (xP X)) a, ix (pD (xP X)) b with
  | some g, some d => if inR (nI 0) (nI 9) c = true then pWa (xP X) g d else -102
  | _, _ => -101
def tWant (X : Xs) (a b c : Int32) : Xs := match ix (pG (xP X)) a, ix (pD (xP X)) b with
  | some g, some d => if inR (nI 0) (nI 9) c = true then (setWa (xP X) g d c, X.2) else X
  | _, _ => X
def setPu (P : Pb) (g : Nat) (x : Int32) : Pb := (pD P, pG P, pLo P, pUr P, pMu P, pSt P, pPr P, upd (pPu P) g x, pKi P, pWa P)
def aPurse (X : Xs) (a b : Int32) : Int32 := match ix (pG (xP X)) a with
  | some g => if inR (nI 1) (nI 9) b = true then pPu (xP X) g else -102
  | none => -101
def tPurse (X : Xs) (a b : Int32) : Xs := match ix (pG (xP X)) a with
  | some g => if inR (nI 1) (nI 9) b = true then (setPu (xP X) g b, X.2) else X
  | none => X
def aUrge (X : Xs) (a b : Int32) : Int32 := match ix (pD (xP X)) a with
  | some _ => if inR (nI 0) (nI 20) b = true then pUr (xP X) else -102
  | none => -101
def tUrge (X : Xs) (a b : Int32) : Xs := match ix (pD (xP X)) a with
  | some _ => if inR (nI 0) (nI 20) b = true then (setUr (xP X) (if b = 0 then -1 else a) b, X.2) else X
  | none => X
def aTakes (X : Xs) (a : Int32) : Int32 := match ix (pG (xP X)) a with
  | some g => if xH X g = -2 then bestM (xP X) (xH X) g else -103
  | none => -101
def setH (X : Xs) (h : Nat → Int32) : Xs := (xP X, xPg X, xPn X, h, X.2.2.2.2)
def tOrder (X : Xs) (a : Int32) : Xs := match ix (pG (xP X)) a with
  | some g => if xH X g = -2 then setH X (upd (xH X) g (bestM (xP X) (xH X) g)) else X
  | none => X
def aClear (X : Xs) : Int32 := ordN (xP X) (xH X)
def tClear (X : Xs) : Xs := setH X (fun _ => -2)
def aInTurn (X : Xs) (a b : Int32) : Int32 := match ix (pG (xP X)) a, ix (pG (xP X)) b with
  | some f, some g => lay (xP X) f g
  | _, _ => -101
def aBegin (X : Xs) (a b : Int32) : Int32 := if a ≠ -1 ∧ ix (pG (xP X)) a = none then -101 else match ix 2 b with
  | none => -102
  | some w => if pG (xP X) = 0 then -103 else if w = 0 then (bfL (joyF (xP X) a) 0 (pG (xP X))).1 else (bfL (joyF (xP X) a) 0 (pG (xP X))).2
def setA (X : Xs) (n : Nat) : Xs := (xP X, xPg X, xPn X, xH X, xE X, xC X, n, xK X)
def aAtOnce (X : Xs) (a : Int32) : Int32 := match ix 2 a with
  | none => -102
  | some w => if pD (xP X) = 0 ∨ 20 ≤ xA X then -103 else if w = 0 then (atM (xP X)).1 else (atM (xP X)).2
def tAtOnce (X : Xs) (a : Int32) : Xs := match ix 2 a with
  | none => X
  | some _ => if pD (xP X) = 0 ∨ 20 ≤ xA X then X else setA X (xA X + 1)
def aMinds (X : Xs) (a : Int32) : Int32 := match ix (pG (xP X)) a with
  | some f => minM (xP X) f
  | none => -101
def hostM (P : Pb) : Int32 := BG P (pD P) (2 ^ pG P - 1)
def aHost (X : Xs) : Int32 := if pD (xP X) = 0 then -103 else hostM (xP X)
def fewV (P : Pb) (w : Nat) : Int32 := match fewM P with
  | none => -1
  | some b => if w = 1 then nI b else nI (pop b)
def aFewest (X : Xs) (a : Int32) : Int32 := match ix 2 a with
  | none => -102
  | some w => if pD (xP X) = 0 then -103 else fewV (xP X) w
def aUrges (X : Xs) (a b c : Int32) : Int32 := match ix (pD (xP X)) a, ix (pG (xP X)) b with
  | some d, some f => if inR (nI 1) (nI 5) c = true then urgM (xP X) d f c 21 0 else -102
  | _, _ => -101
def updN (f : Nat → Nat) (k v : Nat) : Nat → Nat := fun j => if j = k then v else f j
def setE (X : Xs) (E : Ev) : Xs := (xP X, xPg X, xPn X, xH X, E, X.2.2.2.2.2)
def aEvening (X : Xs) (a b c : Int32) : Int32 := match ix (pG (xP X)) a, ix (pG (xP X)) b with
  | some _, some _ => if c ≠ -1 ∧ ix (pD (xP X)) c = none then -101 else if (xE X).1 < 4 then nI ((xE X).1 + 1) else -104
  | _, _ => -101
def tEvening (X : Xs) (a b c : Int32) : Xs := match ix (pG (xP X)) a, ix (pG (xP X)) b with
  | some f, some g => if c ≠ -1 ∧ ix (pD (xP X)) c = none then X else if (xE X).1 < 4 then setE X ((xE X).1 + 1, updN (xE X).2.1 (xE X).1 f, updN (xE X).2.2.1 (xE X).1 g, upd (xE X).2.2.2 (xE X).1 c) else X
  | _, _ => X
def aForget (X : Xs) : Int32 := nI (xE X).1
def tForget (X : Xs) : Xs := setE X (0, (xE X).2)
/-- which one bit: k more to look at from i on -/
def oneB (bits : Int32) : Nat → Nat → Int32
  | 0, _ => -1
  | m + 1, i => if bits = nI 1 <<< (nI i &&& 31) then nI i else oneB bits m (i + 1)
def aFits (X : Xs) (a : Int32) : Int32 := match ix 2 a with
  | none => -102
  | some w => if pD (xP X) = 0 then -103 else if w = 0 then fitsM (xP X) (xE X) else oneB (fitsM (xP X) (xE X)) 10 0
def aEvenings (X : Xs) (a b c : Int32) : Int32 := if inR (nI 1) (nI 60) a = true ∧ 0 ≤ b then (match ix 2 c with
  | none => -102
  | some w => if pG (xP X) = 0 then -103 else if w = 0 then (evS (xP X) b.toNatClampNeg a.toNatClampNeg).2.2 else nI (evS (xP X) b.toNatClampNeg a.toNatClampNeg).2.1) else -102
def setK (X : Xs) (K : Kt) : Xs := (xP X, xPg X, xPn X, xH X, xE X, xC X, xA X, K)
def aImage (X : Xs) : Int32 := if pD (xP X) = 0 then -103 else ordN (xP X) (xH X)
def tImage (X : Xs) : Xs := if pD (xP X) = 0 then X else setK X (xC X, xP X, xH X, xE X)
def canRe (X : Xs) : Prop := 0 < xC X ∧ (xK X).1 = xC X ∧ pG (xK X).2.1 = pG (xP X)
def aCount (X : Xs) (a : Int32) : Int32 := match ix 9 a with
  | some 0 => nI (pD (xP X))
  | some 1 => pLo (xP X)
  | some 2 => nI (pG (xP X))
  | some 3 => ordN (xP X) (xH X)
  | some 4 => joyA (xP X) (xH X)
  | some 5 => nI (xE X).1
  | some 6 => nI (xPn X)
  | some 7 => nI (xC X)
  | some 8 => nI (xA X)
  | _ => -102
def aRestore (X : Xs) : Int32 := if 0 < xC X ∧ (xK X).1 = xC X ∧ pG (xK X).2.1 = pG (xP X) then ordN (xK X).2.1 (xK X).2.2.1 else -103
def tRestore (X : Xs) : Xs := if 0 < xC X ∧ (xK X).1 = xC X ∧ pG (xK X).2.1 = pG (xP X) then ((xK X).2.1, xPg X, xPn X, (xK X).2.2.1, (xK X).2.2.2, X.2.2.2.2.2) else X
