/-! folds by an operation that is associative and commutative -/
def mx (a b : Int32) : Int32 := if a < b then b else a
theorem mx_toInt (a b : Int32) : (mx a b).toInt = max a.toInt b.toInt := by
  unfold mx
  split
  · rename_i h; have := Int32.lt_iff_toInt_lt.mp h; omega
  · rename_i h; have : ¬ a.toInt < b.toInt := fun z => h (Int32.lt_iff_toInt_lt.mpr z); omega
theorem mx_comm (a b : Int32) : mx a b = mx b a := Int32.toInt_inj.mp (by rw [mx_toInt, mx_toInt]; omega)
theorem mx_assoc (a b c : Int32) : mx (mx a b) c = mx a (mx b c) := Int32.toInt_inj.mp (by simp only [mx_toInt]; omega)
theorem mx_min (a : Int32) : mx a Int32.minValue = a := by
  refine Int32.toInt_inj.mp ?_
  rw [mx_toInt]
  have h1 : Int32.minValue.toInt = -2147483648 := by decide
  have h2 := Int32.le_toInt a
  omega
abbrev Ac : Type := Int32 × Int32
def opA (a b : Ac) : Ac := (a.1 + b.1, mx a.2 b.2)
def eA : Ac := (0, Int32.minValue)
theorem opA_comm (a b : Ac) : opA a b = opA b a := Prod.ext (Int32.add_comm _ _) (mx_comm _ _)
theorem opA_assoc (a b c : Ac) : opA (opA a b) c = opA a (opA b c) := Prod.ext (Int32.add_assoc _ _ _) (mx_assoc _ _ _)
theorem opA_e (a : Ac) : opA a eA = a := Prod.ext (Int32.add_zero _) (mx_min _)
theorem e_opA (a : Ac) : opA eA a = a := by rw [opA_comm, opA_e]
def fo (f : Nat → Ac) : Nat → Ac
  | 0 => eA
  | n + 1 => opA (fo f n) (f n)
theorem fo_congr {f g : Nat → Ac} : ∀ n : Nat, (∀ k, k < n → f k = g k) → fo f n = fo g n
  | 0, _ => rfl
  | n + 1, h => by unfold fo; rw [fo_congr n (fun k hk => h k (by omega)), h n (by omega)]
theorem fo_e {f : Nat → Ac} : ∀ n : Nat, (∀ k, k < n → f k = eA) → fo f n = eA
  | 0, _ => rfl
  | n + 1, h => by unfold fo; rw [fo_e n (fun k hk => h k (by omega)), h n (by omega)]; exact opA_e _
theorem fo_op (f g : Nat → Ac) : ∀ n : Nat, fo (fun k => opA (f k) (g k)) n = opA (fo f n) (fo g n)
  | 0 => (opA_e eA).symm
  | n + 1 => by
    unfold fo
    rw [fo_op f g n, opA_assoc, opA_assoc]
    congr 1
    rw [← opA_assoc, opA_comm (fo g n) (f n), opA_assoc]
theorem fo_swap (F : Nat → Nat → Ac) (m : Nat) : ∀ n : Nat, fo (fun a => fo (fun b => F a b) m) n = fo (fun b => fo (fun a => F a b) n) m
  | 0 => (fo_e m (fun _ _ => rfl)).symm
  | n + 1 => by
    have e : fo (fun b => fo (fun a => F a b) (n + 1)) m = fo (fun b => opA (fo (fun a => F a b) n) (F n b)) m := rfl
    rw [e, fo_op, ← fo_swap F m n]
    rfl
theorem fo_add (f : Nat → Ac) (n : Nat) : ∀ m : Nat, fo f (n + m) = opA (fo f n) (fo (fun k => f (n + k)) m)
  | 0 => (opA_e _).symm
  | m + 1 => by
    show opA (fo f (n + m)) (f (n + m)) = opA (fo f n) (opA (fo (fun k => f (n + k)) m) (f (n + m)))
    rw [fo_add f n m, opA_assoc]
theorem fo_mul (f : Nat → Ac) (n : Nat) : ∀ m : Nat, fo f (m * n) = fo (fun q => fo (fun r => f (q * n + r)) n) m
  | 0 => by rw [Nat.zero_mul]; rfl
  | m + 1 => by
    rw [Nat.succ_mul, fo_add, fo_mul f n m]
    rfl
/-- at once: each one's own choice is the best for him -/
def conE (P : Pb) (h : Nat → Int32) (g d : Nat) : Bool := decide (nI d = h g) || (!mayM P h g d || decide (valM P h g d ≤ valM P h g (h g).toNatClampNeg))
def conB (P : Pb) (h : Nat → Int32) : Bool := allB (fun g => allB (conE P h g) (pD P)) (pG P)
def goodB (P : Pb) (h : Nat → Int32) : Bool := allB (fun g => mayM P h g (h g).toNatClampNeg && allB (conE P h g) (pD P)) (pG P)
def ctr (P : Pb) (h : Nat → Int32) : Ac := if goodB P h = true then (1, joyA P h) else eA
/-- over all that the last r guests may have -/
def NF (P : Pb) : Nat → (Nat → Int32) → Ac
  | 0, h => ctr P h
  | r + 1, h => fo (fun d => NF P r (upd h (pG P - (r + 1)) (nI d))) (pD P)
def atM (P : Pb) : Ac := opA (0, -1) (NF P (pG P) (fun _ => -2))
theorem cnt_mono {h : Nat → Int32} {y : Int32} {m n : Nat} (hmn : m ≤ n) : cnt h y m ≤ cnt h y n := by
  induction n with
  | zero => have : m = 0 := by omega
            subst this; exact Nat.le_refl _
  | succ n ih =>
    by_cases e : m = n + 1
    · subst e; exact Nat.le_refl _
    · have := ih (by omega)
      show cnt h y m ≤ cnt h y n + (if h n = y then 1 else 0)
      omega
theorem cnt_congr {h h' : Nat → Int32} {y : Int32} : ∀ n : Nat, (∀ k, k < n → h k = h' k) → cnt h y n = cnt h' y n
  | 0, _ => rfl
  | n + 1, q => by unfold cnt; rw [cnt_congr n (fun k hk => q k (by omega)), q n (by omega)]
/-- somebody among the first m has what can't be -/
def Bad (P : Pb) (h : Nat → Int32) (m : Nat) : Prop := ∃ g d, g < m ∧ d < pD P ∧ h g = nI d ∧ (¬ pPr P d ≤ pPu P g ∨ ∃ k, k ≤ 9 ∧ pSt P d = nI k ∧ k < cnt h (nI d) m)
theorem Bad.good {P : Pb} {h : Nat → Int32} (hG : pG P ≤ 5) (hD : pD P ≤ 6) (hb : Bad P h (pG P)) : goodB P h = false := by
  obtain ⟨g, d, hg, hd, e, q⟩ := hb
  refine allB_false hg ?_
  have : mayM P h g (h g).toNatClampNeg = false := by
    rw [e, nI_clamp (by omega)]
    unfold mayM oth
    rcases q with q | ⟨k, hk, q1, q2⟩
    · simp [q]
    · rw [if_pos e, q1, show (1 : Int32) = nI 1 from rfl, pk_sub (by omega)]
      have := cnt_le h (nI d) (pG P)
      have hn : ¬ nI (cnt h (nI d) (pG P) - 1) < nI k := nI_nlt (by omega) (by omega)
      simp [hn]
  rw [this, Bool.false_and]
theorem Bad.nf {P : Pb} (hG : pG P ≤ 5) (hD : pD P ≤ 6) : ∀ (r : Nat) (h : Nat → Int32), r ≤ pG P → Bad P h (pG P - r) → NF P r h = eA
  | 0, h, _, hb => by
    unfold NF ctr
    rw [Bad.good hG hD hb]
    rfl
  | r + 1, h, hr, ⟨g, d, hg, hd, e, q⟩ => by
    unfold NF
    refine fo_e _ (fun x hx => Bad.nf hG hD r _ (by omega) ⟨g, d, by omega, hd, ?_, ?_⟩)
    · simp only [upd, if_neg (show ¬ g = pG P - (r + 1) by omega)]; exact e
    · rcases q with q | ⟨k, hk, q1, q2⟩
      · exact Or.inl q
      · refine Or.inr ⟨k, hk, q1, Nat.lt_of_lt_of_le q2 ?_⟩
        rw [cnt_congr (h := h) (h' := upd h (pG P - (r + 1)) (nI x)) (pG P - (r + 1)) (fun a ha => by simp only [upd, if_neg (show ¬ a = pG P - (r + 1) by omega)])]
        exact cnt_mono (by omega)
