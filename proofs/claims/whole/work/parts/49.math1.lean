/-! at once: by codes and by seats is the same -/
theorem allB_congr {f g : Nat → Bool} : ∀ n : Nat, (∀ k, k < n → f k = g k) → allB f n = allB g n
  | 0, _ => rfl
  | n + 1, h => by unfold allB; rw [allB_congr n (fun k hk => h k (by omega)), h n (by omega)]
theorem joyA_congr {P : Pb} {h h' : Nat → Int32} (e : ∀ g, g < pG P → h g = h' g) : joyA P h = joyA P h' := by
  unfold joyA
  exact sumN_congr _ (fun g hg => by unfold joyM; rw [e g hg])
theorem ctr_congr {P : Pb} {h h' : Nat → Int32} (e : ∀ g, g < pG P → h g = h' g) : ctr P h = ctr P h' := by
  have hc : ∀ y, cnt h y (pG P) = cnt h' y (pG P) := fun y => cnt_congr _ e
  have ho : ∀ g d, g < pG P → oth P h g d = oth P h' g d := fun g d hg => by unfold oth; rw [hc, e g hg]
  have hm : ∀ g d, g < pG P → mayM P h g d = mayM P h' g d := fun g d hg => by unfold mayM; rw [ho g d hg]
  have hv : ∀ g d, g < pG P → valM P h g d = valM P h' g d := fun g d hg => by unfold valM; rw [ho g d hg]
  have hg : goodB P h = goodB P h' := by
    unfold goodB
    refine allB_congr _ (fun g hg => ?_)
    rw [hm g _ hg, e g hg]
    congr 1
    refine allB_congr _ (fun d _ => ?_)
    unfold conE
    rw [hm g _ hg, hv g _ hg, hv g _ hg, e g hg]
  unfold ctr
  rw [hg, joyA_congr e]
/-- the last r by a code, the others by h -/
def mxd (P : Pb) (h : Nat → Int32) (r c : Nat) : Nat → Int32 := fun g => if pG P - r ≤ g ∧ g < pG P then nI (c / pD P ^ (g - (pG P - r)) % pD P) else h g
theorem mxd_s {P : Pb} {h : Nat → Int32} {r q d : Nat} (hr : r + 1 ≤ pG P) (hd : d < pD P) : mxd P h (r + 1) (q * pD P + d) = mxd P (upd h (pG P - (r + 1)) (nI d)) r q := by
  funext g
  unfold mxd upd
  by_cases h1 : g = pG P - (r + 1)
  · rw [if_pos ⟨by omega, by omega⟩, if_neg (by omega), if_pos h1, h1, Nat.sub_self, Nat.pow_zero, Nat.div_one, Nat.mul_comm, Nat.mul_add_mod, Nat.mod_eq_of_lt hd]
  · by_cases h2 : pG P - r ≤ g ∧ g < pG P
    · rw [if_pos ⟨by omega, h2.2⟩, if_pos h2, show g - (pG P - (r + 1)) = (g - (pG P - r)) + 1 by omega, Nat.pow_succ, Nat.mul_comm (pD P ^ _) (pD P), ← Nat.div_div_eq_div_mul, show (q * pD P + d) / pD P = q by
        rw [Nat.mul_comm, Nat.mul_add_div (by omega), Nat.div_eq_of_lt hd, Nat.add_zero]]
    · rw [if_neg (by omega), if_neg h2, if_neg h1]
theorem NF_code {P : Pb} : ∀ (r : Nat) (h : Nat → Int32), r ≤ pG P → NF P r h = fo (fun c => ctr P (mxd P h r c)) (pD P ^ r)
  | 0, h, _ => by
    unfold NF
    rw [Nat.pow_zero]
    show ctr P h = opA eA (ctr P (mxd P h 0 0))
    rw [e_opA]
    exact ctr_congr (fun g hg => by unfold mxd; rw [if_neg (by omega)])
  | r + 1, h, hr => by
    unfold NF
    rw [Nat.pow_succ, fo_mul, fo_swap]
    refine fo_congr _ (fun d hd => ?_)
    rw [NF_code r _ (by omega)]
    refine fo_congr _ (fun q _ => ?_)
    rw [mxd_s hr hd]
theorem at_code (P : Pb) : atA P (pD P ^ pG P) = atM P := by
  unfold atA atM
  rw [NF_code _ _ (Nat.le_refl _)]
  congr 1
  refine fo_congr _ (fun c _ => ctr_congr (fun g hg => ?_))
  unfold mxd rc
  rw [if_pos ⟨by omega, hg⟩, Nat.sub_self, Nat.sub_zero]
