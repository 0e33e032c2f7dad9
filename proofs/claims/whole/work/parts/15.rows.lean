/-! in turn: the row as it is laid, what holds of it -/
def gat (P : Pb) (f k : Nat) : Nat := (f + k) % pG P
def layR (P : Pb) (f : Nat) : Nat → (Nat → Int32)
  | 0 => fun _ => -2
  | k + 1 => upd (layR P f k) (gat P f k) (bestM P (layR P f k) (gat P f k))
def lay (P : Pb) (f : Nat) : Nat → Int32 := layR P f (pG P)
theorem gat_lt {P : Pb} {f k : Nat} (h : 0 < pG P) : gat P f k < pG P := Nat.mod_lt _ h
theorem gat_eq {P : Pb} {f k : Nat} (hf : f < pG P) (hk : k < pG P) : gat P f k = if f + k < pG P then f + k else f + k - pG P := by
  unfold gat
  split
  · exact Nat.mod_eq_of_lt (by assumption)
  · rw [Nat.mod_eq_sub_mod (by omega), Nat.mod_eq_of_lt (by omega)]
theorem gat_inj {P : Pb} {f j k : Nat} (hf : f < pG P) (hj : j < pG P) (hk : k < pG P) (h : gat P f j = gat P f k) : j = k := by
  rw [gat_eq hf hj, gat_eq hf hk] at h
  split at h <;> split at h <;> omega
theorem gat_sur {P : Pb} {f g : Nat} (hf : f < pG P) (hg : g < pG P) : ∃ k, k < pG P ∧ gat P f k = g := by
  by_cases h : f ≤ g
  · exact ⟨g - f, by omega, by rw [gat_eq hf (by omega), if_pos (by omega)]; omega⟩
  · exact ⟨g + pG P - f, by omega, by rw [gat_eq hf (by omega), if_neg (by omega)]; omega⟩
theorem layR_wait {P : Pb} {f : Nat} (hf : f < pG P) : ∀ k j : Nat, k ≤ j → j < pG P → layR P f k (gat P f j) = -2
  | 0, _, _, _ => rfl
  | k + 1, j, h, hj => by
    unfold layR
    have : gat P f j ≠ gat P f k := fun e => by have := gat_inj hf hj (by omega) e; omega
    simp only [upd, if_neg this]
    exact layR_wait hf k j (by omega) hj
theorem layR_out {P : Pb} {f : Nat} (hf : f < pG P) : ∀ k g : Nat, pG P ≤ g → layR P f k g = -2
  | 0, _, _ => rfl
  | k + 1, g, h => by
    unfold layR
    have := gat_lt (P := P) (f := f) (k := k) (by omega)
    simp only [upd, if_neg (show ¬ g = gat P f k by omega)]
    exact layR_out hf k g h
theorem layR_ok {P : Pb} {f : Nat} (hf : f < pG P) (k : Nat) : Rok P (layR P f k) := by
  refine ⟨fun g _ => ?_, fun g hg => layR_out hf k g hg⟩
  induction k with
  | zero => exact Or.inl rfl
  | succ k ih =>
    unfold layR
    by_cases e : g = gat P f k
    · subst e
      simp only [upd, if_true]
      rcases best_range (P := P) (h := layR P f k) (g := gat P f k) with q | ⟨d, hd, -, q⟩
      · exact Or.inr (Or.inl q)
      · exact Or.inr (Or.inr ⟨d, hd, q⟩)
    · simp only [upd, if_neg e]
      exact ih
theorem layR_set {P : Pb} {f : Nat} (hf : f < pG P) (hD : pD P ≤ 6) : ∀ k j : Nat, j < k → k ≤ pG P → layR P f k (gat P f j) ≠ -2
  | 0, _, h, _ => absurd h (Nat.not_lt_zero _)
  | k + 1, j, h, hk => by
    unfold layR
    by_cases e : j = k
    · subst e
      simp only [upd, if_true]
      rcases best_range (P := P) (h := layR P f j) (g := gat P f j) with q | ⟨d, hd, -, q⟩
      · rw [q]; decide
      · rw [q]; exact nI_neg2 (by omega)
    · have : gat P f j ≠ gat P f k := fun q => e (gat_inj hf (by omega) (by omega) q)
      simp only [upd, if_neg this]
      exact layR_set hf hD k j (by omega) (by omega)
theorem lay_set {P : Pb} {f g : Nat} (hf : f < pG P) (hD : pD P ≤ 6) (hg : g < pG P) : lay P f g ≠ -2 := by
  obtain ⟨k, hk, rfl⟩ := gat_sur hf hg
  exact layR_set hf hD _ k hk (Nat.le_refl _)
/-- what one has his purse has; of no dish more than there are -/
def Fea (P : Pb) (h : Nat → Int32) : Prop := (∀ g d, g < pG P → d < pD P → h g = nI d → pPr P d ≤ pPu P g) ∧ ∀ d k, d < pD P → pSt P d = nI k → k ≤ 9 → cnt h (nI d) (pG P) ≤ k
theorem Fea.may {P : Pb} {h : Nat → Int32} {g d : Nat} (hk : Pok P) (hG : pG P ≤ 5) (hF : Fea P h) (hg : g < pG P) (hd : d < pD P) (e : h g = nI d) : mayM P h g d = true := by
  obtain ⟨k, q, q1, q2⟩ := hk d hd
  have h1 := hF.1 g d hg hd e
  have h2 := hF.2 d k hd q q2
  have h3 : 1 ≤ cnt h (nI d) (pG P) := by
    have := cnt_back (h := h) (x := -2) (y := nI d) hg
    by_cases z : (-2 : Int32) = nI d
    · by_cases w : d < 2 ^ 31
      · exact absurd z.symm (nI_neg2 w)
      · have hc : ∀ n, g < n → 1 ≤ cnt h (nI d) n := by
          intro n
          induction n with
          | zero => intro q; omega
          | succ n ih =>
            intro q
            unfold cnt
            by_cases c : n = g
            · subst c; rw [if_pos e]; omega
            · have := ih (by omega); omega
        exact hc _ hg
    · have := this z
      rw [if_pos e] at this
      omega
  unfold mayM oth
  rw [if_pos e, q]
  simp only [h1, decide_true, Bool.true_and, decide_eq_true_eq]
  rw [show (1 : Int32) = nI 1 from rfl, pk_sub h3]
  exact nI_lt (by omega) (by omega)
theorem Fea.take {P : Pb} {h : Nat → Int32} {g : Nat} (hk : Pok P) (hG : pG P ≤ 5) (hD : pD P ≤ 6) (hF : Fea P h) (hg : g < pG P) {x : Int32} (hx : x = -1 ∨ ∃ d, d < pD P ∧ mayM P h g d = true ∧ x = nI d) : Fea P (upd h g x) := by
  refine ⟨fun a d ha hd e => ?_, fun d k hd q hk9 => ?_⟩
  · by_cases c : a = g
    · subst c
      simp only [upd, if_true] at e
      rcases hx with z | ⟨d', hd', hm, z⟩
      · rw [z] at e; exact absurd e.symm (nI_neg1 (by omega))
      · rw [z] at e
        have : d' = d := (nI_eq (by omega) (by omega)).mp e
        subst this
        unfold mayM at hm
        simp only [Bool.and_eq_true, decide_eq_true_eq] at hm
        exact hm.1
    · simp only [upd, if_neg c] at e
      exact hF.1 a d ha hd e
  · have hu := cnt_upd h g x (nI d) (pG P)
    simp only [hg, true_and] at hu
    have h2 := hF.2 d k hd q hk9
    rcases hx with z | ⟨d', hd', hm, z⟩
    · rw [if_neg (show ¬ x = nI d by rw [z]; exact (nI_neg1 (by omega)).symm)] at hu
      omega
    · by_cases c : d' = d
      · subst c
        rw [if_pos z] at hu
        unfold mayM oth at hm
        simp only [Bool.and_eq_true, decide_eq_true_eq] at hm
        rw [q] at hm
        have hc := cnt_le h (nI d') (pG P)
        by_cases w : h g = nI d'
        · rw [if_pos w] at hu
          omega
        · rw [if_neg w] at hu hm
          rw [Int32.sub_zero, nI_ltI (by omega) (by omega)] at hm
          omega
      · rw [if_neg (show ¬ x = nI d by rw [z]; exact fun y => c ((nI_eq (by omega) (by omega)).mp y))] at hu
        omega
theorem Fea.wait {P : Pb} (hD : pD P ≤ 6) : Fea P (fun _ => -2) := by
  refine ⟨fun g d _ hd e => absurd e.symm (nI_neg2 (by omega)), fun d k hd _ _ => ?_⟩
  have : ∀ n, cnt (fun _ => -2) (nI d) n = 0 := by
    intro n
    induction n with
    | zero => rfl
    | succ n ih => unfold cnt; rw [ih, if_neg (nI_neg2 (by omega)).symm]
  rw [this]
  exact Nat.zero_le k
theorem cnt_wait {d : Nat} (hd : d < 2 ^ 31) : ∀ n, cnt (fun _ => -2) (nI d) n = 0
  | 0 => rfl
  | n + 1 => by unfold cnt; rw [cnt_wait hd n, if_neg (nI_neg2 hd).symm]
theorem layR_fea {P : Pb} {f : Nat} (hf : f < pG P) (hk : Pok P) (hG : pG P ≤ 5) (hD : pD P ≤ 6) : ∀ k : Nat, Fea P (layR P f k)
  | 0 => Fea.wait hD
  | k + 1 => by
    unfold layR
    exact (layR_fea hf hk hG hD k).take hk hG hD (gat_lt (by omega)) best_range
/-- a row in which nobody waits -/
def Full (P : Pb) (h : Nat → Int32) : Prop := ∀ g, g < pG P → h g ≠ -2
theorem row_cases {P : Pb} {h : Nat → Int32} {g : Nat} (hr : Rok P h) (hf : Full P h) (hG : pG P ≤ 5) (hg : g < pG P) : h g = -1 ∨ ∃ d, d < pD P ∧ h g = nI d := (hr.1 g (by omega)).resolve_left (hf g hg)
theorem mindR_ok {P : Pb} {h : Nat → Int32} {g : Nat} (hk : Pok P) (hG : pG P ≤ 5) (hD : pD P ≤ 6) (hg : g < pG P) (hr : Rok P h) (hf : Full P h) (hF : Fea P h) : Rok P (mindR P h g) ∧ Full P (mindR P h g) ∧ Fea P (mindR P h g) := by
  unfold mindR
  split
  · refine ⟨⟨fun k hk => ?_, fun k hk => ?_⟩, fun k hk => ?_, hF.take hk hG hD hg best_range⟩
    · by_cases e : k = g
      · subst e
        simp only [upd, if_true]
        rcases best_range (P := P) (h := h) (g := k) with q | ⟨d, hd, -, q⟩
        · exact Or.inr (Or.inl q)
        · exact Or.inr (Or.inr ⟨d, hd, q⟩)
      · simp only [upd, if_neg e]; exact hr.1 k hk
    · simp only [upd, if_neg (show ¬ k = g by omega)]; exact hr.2 k hk
    · by_cases e : k = g
      · subst e
        simp only [upd, if_true]
        rcases best_range (P := P) (h := h) (g := k) with q | ⟨d, hd, -, q⟩
        · rw [q]; decide
        · rw [q]; exact nI_neg2 (by omega)
      · simp only [upd, if_neg e]; exact hf k hk
  · exact ⟨hr, hf, hF⟩
/-- a round of minds: the row and whether one has changed -/
def mr (P : Pb) (f : Nat) (h : Nat → Int32) : Nat → (Nat → Int32) × Bool
  | 0 => (h, false)
  | k + 1 => (mindR P (mr P f h k).1 (gat P f k), (mr P f h k).2 || mindB P (mr P f h k).1 (gat P f k))
theorem mr_ok {P : Pb} {f : Nat} {h : Nat → Int32} (hk : Pok P) (hG : pG P ≤ 5) (hD : pD P ≤ 6) (hf0 : f < pG P) (hr : Rok P h) (hf : Full P h) (hF : Fea P h) : ∀ k : Nat, Rok P (mr P f h k).1 ∧ Full P (mr P f h k).1 ∧ Fea P (mr P f h k).1
  | 0 => ⟨hr, hf, hF⟩
  | k + 1 => by
    obtain ⟨a, b, c⟩ := mr_ok hk hG hD hf0 hr hf hF k
    unfold mr
    exact mindR_ok hk hG hD (gat_lt (by omega)) a b c
/-- behind how many rounds nobody changes: n rounds may still come, the next is the r-th -/
def rs (P : Pb) (f : Nat) : Nat → (Nat → Int32) → Nat → Int32
  | 0, _, _ => -1
  | n + 1, h, r => if (mr P f h (pG P)).2 = true then rs P f n (mr P f h (pG P)).1 (r + 1) else nI r
def minM (P : Pb) (f : Nat) : Int32 := rs P f 20 (lay P f) 1
/-- from whom on: the first of most -/
def bfL (j : Nat → Int32) (b0 : Int32) : Nat → Int32 × Int32
  | 0 => (b0, -1)
  | k + 1 => if (bfL j b0 k).2 < j k then (nI k, j k) else bfL j b0 k
def joyF (P : Pb) (g : Int32) (f : Nat) : Int32 := if g = -1 then joyA P (lay P f) else joyM P (lay P f) g.toNatClampNeg
def setLo (P : Pb) (x : Int32) : Pb := (P.1, P.2.1, x, P.2.2.2)
def setUr (P : Pb) (u m : Int32) : Pb := (P.1, P.2.1, P.2.2.1, u, m, P.2.2.2.2.2)
def setWa (P : Pb) (g d : Nat) (v : Int32) : Pb := (P.1, P.2.1, P.2.2.1, P.2.2.2.1, P.2.2.2.2.1, P.2.2.2.2.2.1, P.2.2.2.2.2.2.1, P.2.2.2.2.2.2.2.1, P.2.2.2.2.2.2.2.2.1, fun a b => if a = g ∧ b = d then v else P.2.2.2.2.2.2.2.2.2 a b)
def allB (f : Nat → Bool) : Nat → Bool
  | 0 => true
  | n + 1 => allB f n && f n
