/-! what is spoken of: a table's data (dishes, guests, loath, urged, how much, left on the card, prices, purses, kinds, wants) and a row: what each guest has (-2 waits, -1 nothing, else a dish) -/
abbrev Pb : Type := Nat × Nat × Int32 × Int32 × Int32 × (Nat → Int32) × (Nat → Int32) × (Nat → Int32) × (Nat → Int32) × (Nat → Nat → Int32)
def pD (P : Pb) : Nat := P.1
def pG (P : Pb) : Nat := P.2.1
def pLo (P : Pb) : Int32 := P.2.2.1
def pUr (P : Pb) : Int32 := P.2.2.2.1
def pMu (P : Pb) : Int32 := P.2.2.2.2.1
def pSt (P : Pb) : Nat → Int32 := P.2.2.2.2.2.1
def pPr (P : Pb) : Nat → Int32 := P.2.2.2.2.2.2.1
def pPu (P : Pb) : Nat → Int32 := P.2.2.2.2.2.2.2.1
def pKi (P : Pb) : Nat → Int32 := P.2.2.2.2.2.2.2.2.1
def pWa (P : Pb) : Nat → Nat → Int32 := P.2.2.2.2.2.2.2.2.2
/-- how many of the first n have d -/
def cnt (h : Nat → Int32) (d : Int32) : Nat → Nat
  | 0 => 0
  | n + 1 => cnt h d n + (if h n = d then 1 else 0)
theorem cnt_le (h : Nat → Int32) (d : Int32) : ∀ n, cnt h d n ≤ n
  | 0 => Nat.le_refl 0
  | n + 1 => by
    have := cnt_le h d n
    unfold cnt
    split <;> omega
def swK (k : Int32) : Int32 := if k = 0 then -1 else if k = 1 then 0 else if k = 2 then -2 else if k = 3 then 1 else 2
def hC (x : Int32) : Int32 := if x = -2 then -1 else x
def hO (x : Int32) : Int32 := if x = -2 then 0 else 1
/-- how many others have it -/
def oth (P : Pb) (h : Nat → Int32) (g d : Nat) : Int32 := nI (cnt h (nI d) (pG P)) - (if h g = nI d then 1 else 0)
def valM (P : Pb) (h : Nat → Int32) (g d : Nat) : Int32 := pWa P g d + swK (pKi P g) * pLo P * oth P h g d + (if nI d = pUr P then pMu P else 0)
def mayM (P : Pb) (h : Nat → Int32) (g d : Nat) : Bool := decide (pPr P d ≤ pPu P g) && decide (oth P h g d < pSt P d)
/-- the first of most value among those that may be: it and its value -/
def fB (may : Nat → Bool) (val : Nat → Int32) : Nat → Int32 × Int32
  | 0 => (-1, 0)
  | d + 1 => if may d = true then (if (fB may val d).1 = -1 ∨ (fB may val d).2 < val d then (nI d, val d) else fB may val d) else fB may val d
theorem fB_congr {m m' : Nat → Bool} {v v' : Nat → Int32} : ∀ (n : Nat), (∀ d, d < n → m d = m' d ∧ (m d = true → v d = v' d)) → fB m v n = fB m' v' n
  | 0, _ => rfl
  | n + 1, h => by
    have ih := fB_congr n (fun d hd => h d (by omega))
    obtain ⟨h1, h2⟩ := h n (by omega)
    unfold fB
    rw [ih, ← h1]
    by_cases hm : m n = true
    · rw [if_pos hm, if_pos hm, h2 hm]
    · rw [if_neg hm, if_neg hm]
theorem fB_range {m : Nat → Bool} {v : Nat → Int32} : ∀ n : Nat, (fB m v n).1 = -1 ∨ ∃ d, d < n ∧ m d = true ∧ (fB m v n).1 = nI d ∧ (fB m v n).2 = v d
  | 0 => Or.inl rfl
  | n + 1 => by
    unfold fB
    by_cases hm : m n = true
    · rw [if_pos hm]
      split
      · exact Or.inr ⟨n, by omega, hm, rfl, rfl⟩
      · rcases fB_range (m := m) (v := v) n with h | ⟨d, h1, h2⟩
        · exact Or.inl h
        · exact Or.inr ⟨d, by omega, h2⟩
    · rw [if_neg hm]
      rcases fB_range (m := m) (v := v) n with h | ⟨d, h1, h2⟩
      · exact Or.inl h
      · exact Or.inr ⟨d, by omega, h2⟩
def bestM (P : Pb) (h : Nat → Int32) (g : Nat) : Int32 := (fB (mayM P h g) (valM P h g) (pD P)).1
/-- the class's menu and party hold P -/
def PI (σ : Mm) (P : Pb) : Prop :=
  (σ.1 3 2 = nI (pD P) ∧ pD P ≤ 6) ∧ (σ.1 6 1 = nI (pG P) ∧ pG P ≤ 5) ∧ (∀ d, d < pD P → σ.1 4 d = pSt P d ∧ σ.1 5 d = pPr P d) ∧
  (∀ g, g < pG P → σ.1 (8 + 2 * g) 2 = pPu P g ∧ σ.1 (8 + 2 * g) 3 = swK (pKi P g) ∧ ∀ d, d < pD P → σ.1 (9 + 2 * g) d = pWa P g d)
/-- what holds of the data -/
def Pok (P : Pb) : Prop := ∀ d, d < pD P → ∃ k, pSt P d = nI k ∧ 1 ≤ k ∧ k ≤ 9
/-- a table of the class holds P's urge and loath, and the row h -/
def TI (σ : Mm) (t : Nat) (P : Pb) (h : Nat → Int32) : Prop :=
  (σ.1 t 6 = pUr P ∧ σ.1 t 7 = pMu P ∧ σ.1 t 8 = pLo P) ∧ (∀ d, d < pD P → σ.1 (t + 1) d = pSt P d - nI (cnt h (nI d) (pG P)) ∧ σ.1 (t + 2) d = nI (cnt h (nI d) (pG P))) ∧
  (∀ g, g < 5 → 0 < pD P ∨ g < pG P → σ.1 (t + 3) g = hC (h g) ∧ σ.1 (t + 4) g = hO (h g))
/-- a row: waits, nothing or a dish, and who isn't there waits -/
def Rok (P : Pb) (h : Nat → Int32) : Prop := (∀ g, g < 5 → h g = -2 ∨ h g = -1 ∨ ∃ d, d < pD P ∧ h g = nI d) ∧ ∀ g, pG P ≤ g → h g = -2
theorem nI_neg1 {d : Nat} (h : d < 2 ^ 31) : nI d ≠ -1 := by
  intro q
  have h1 := nI_toInt h
  rw [q] at h1
  have : ((-1 : Int32)).toInt = -1 := by decide
  omega
theorem nI_neg2 {d : Nat} (h : d < 2 ^ 31) : nI d ≠ -2 := by
  intro q
  have h1 := nI_toInt h
  rw [q] at h1
  have : ((-2 : Int32)).toInt = -2 := by decide
  omega
theorem hC_eq {x : Int32} {d : Nat} (h : d < 2 ^ 31) : hC x = nI d ↔ x = nI d := by
  unfold hC
  split
  · rename_i e
    subst e
    exact ⟨fun q => absurd q.symm (nI_neg1 h), fun q => absurd q.symm (nI_neg2 h)⟩
  · exact Iff.rfl
theorem cnt_upd (h : Nat → Int32) (g : Nat) (x y : Int32) : ∀ n : Nat, cnt (upd h g x) y n + (if g < n ∧ h g = y then 1 else 0) = cnt h y n + (if g < n ∧ x = y then 1 else 0)
  | 0 => by simp [cnt]
  | n + 1 => by
    have ih := cnt_upd h g x y n
    unfold cnt
    by_cases e : n = g
    · subst e
      simp [upd] at ih ⊢
      omega
    · have e1 : (g < n + 1) ↔ (g < n) := by omega
      have e2 : upd h g x n = h n := by simp [upd, e]
      simp only [e1, e2]
      omega
theorem cnt_give {h : Nat → Int32} {g n : Nat} {x y : Int32} (hg : g < n) (hw : h g ≠ y) : cnt (upd h g x) y n = cnt h y n + (if x = y then 1 else 0) := by
  have := cnt_upd h g x y n
  simpa [hg, hw] using this
theorem cnt_back {h : Nat → Int32} {g n : Nat} {x y : Int32} (hg : g < n) (hx : x ≠ y) : cnt (upd h g x) y n + (if h g = y then 1 else 0) = cnt h y n := by
  have := cnt_upd h g x y n
  simpa [hg, hx] using this
/-- only the cells of one table are new -/
def OT (t : Nat) (σ σ' : Mm) : Prop := (∀ a, a < t ∨ t + 4 < a → σ'.1 a = σ.1 a) ∧ σ'.2 = σ.2
theorem OT.rf {t : Nat} {σ : Mm} : OT t σ σ := ⟨fun _ _ => rfl, rfl⟩
theorem OT.trans {t : Nat} {σ σ1 σ2 : Mm} (h : OT t σ σ1) (h2 : OT t σ1 σ2) : OT t σ σ2 := ⟨fun a q => (h2.1 a q).trans (h.1 a q), h2.2.trans h.2⟩
theorem OT.st {t a k : Nat} {v : Int32} {σ σ' : Mm} (h : OT t σ σ') (h1 : t ≤ a) (h2 : a ≤ t + 4) : OT t σ (stI σ' a k v) := ⟨fun x q => (funext fun y => stI_ne (Or.inl (by omega))).trans (h.1 x q), h.2⟩
theorem PI.ot {t : Nat} {σ σ' : Mm} {P : Pb} (ht : isT t) (h : OT t σ σ') (hP : PI σ P) : PI σ' P := by
  have ht : 18 ≤ t := by rcases ht with rfl | rfl | rfl <;> omega
  obtain ⟨⟨a1, a2⟩, ⟨b1, b2⟩, c, d⟩ := hP
  refine ⟨⟨by rw [h.1 3 (by omega)]; exact a1, a2⟩, ⟨by rw [h.1 6 (by omega)]; exact b1, b2⟩, fun k hk => ?_, fun g hg => ?_⟩
  · rw [h.1 4 (by omega), h.1 5 (by omega)]; exact c k hk
  · rw [h.1 (8 + 2 * g) (by omega), h.1 (9 + 2 * g) (by omega)]; exact d g hg
/-- what each has of joy -/
def joyM (P : Pb) (h : Nat → Int32) (g : Nat) : Int32 := if h g < 0 then 0 else pWa P g (h g).toNatClampNeg
def sumN (f : Nat → Int32) : Nat → Int32
  | 0 => 0
  | n + 1 => sumN f n + f n
theorem sumN_congr {f f' : Nat → Int32} : ∀ n : Nat, (∀ k, k < n → f k = f' k) → sumN f n = sumN f' n
  | 0, _ => rfl
  | n + 1, h => by unfold sumN; rw [sumN_congr n (fun k hk => h k (by omega)), h n (by omega)]
def joyA (P : Pb) (h : Nat → Int32) : Int32 := sumN (joyM P h) (pG P)
def ordN (P : Pb) (h : Nat → Int32) : Int32 := sumN (fun g => hO (h g)) (pG P)
theorem nI_lt0 {d : Nat} (h : d < 2 ^ 31) : ¬ nI d < 0 := nI_pos h
theorem m1_lt0 : (-1 : Int32) < 0 := by decide
theorem m2_lt0 : (-2 : Int32) < 0 := by decide
