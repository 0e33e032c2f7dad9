/-! the host by codes -/
theorem Asg.congr {P : Pb} {d S : Nat} {h h' : Nat → Int32} (e : ∀ g, g < pG P → h g = h' g) (ha : Asg P d S h) : Asg P d S h' := by
  refine ⟨fun g hg hs => by rw [← e g hg]; exact ha.1 g hg hs, fun g hg => by rw [← e g hg]; exact ha.2.1 g hg, fun x k hx hk h9 => ?_⟩
  rw [← cnt_congr (h := h) (h' := h') _ e]
  exact ha.2.2 x k hx hk h9
theorem full_bit {P : Pb} {g : Nat} (hg : g < pG P) : (2 ^ pG P - 1).testBit g = true := by
  rw [Nat.testBit_two_pow_sub_one]
  exact decide_eq_true hg
theorem fea_asg {P : Pb} (hy : HY P) {h : Nat → Int32} (hr : ∀ g, h g = -1 ∨ ∃ d, d < pD P ∧ h g = nI d) : (allB (feaG P h) (pG P) && allB (feaD P h) (pD P)) = true ↔ Asg P (pD P) (2 ^ pG P - 1) h := by
  have hD := hy.2.1
  have hG := hy.1
  rw [Bool.and_eq_true, allB_iff, allB_iff]
  constructor
  · rintro ⟨h1, h2⟩
    refine ⟨fun g hg hs => absurd (hs.symm.trans (full_bit hg)) (by decide), fun g hg => ?_, fun e k he hk h9 => ?_⟩
    · rcases hr g with z | ⟨d, hd, z⟩
      · exact Or.inl z
      · refine Or.inr ⟨d, hd, z, ?_⟩
        have := h1 g hg
        unfold feaG at this
        rw [z, nI_clamp (by omega)] at this
        simpa [nI_neg1 (show d < 2 ^ 31 by omega)] using this
    · have h3 := of_decide_eq_true (h2 e he)
      have := cnt_le h (nI e) (pG P)
      rw [hk, nI_leI (by omega) (by omega)] at h3
      exact h3
  · intro ha
    refine ⟨fun g hg => ?_, fun d hd => ?_⟩
    · unfold feaG
      rcases ha.2.1 g hg with z | ⟨e, he, z, hp⟩
      · simp [z]
      · rw [z, nI_clamp (by omega)]; simp [hp]
    · obtain ⟨k, hk, -, h9⟩ := hy.2.2.2 d hd
      have h3 := ha.2.2 d k hd hk h9
      unfold feaD
      rw [hk]
      exact decide_eq_true (nI_le h3 (by omega))
/-- a row's digit, a row's code -/
def dig (x : Int32) : Nat := if x = -1 then 0 else x.toNatClampNeg + 1
def cd (b : Nat) (h : Nat → Int32) : Nat → Nat
  | 0 => 0
  | n + 1 => cd b h n + dig (h n) * b ^ n
theorem cd_lt {b : Nat} {h : Nat → Int32} (n : Nat) (hd : ∀ g, g < n → dig (h g) < b) : cd b h n < b ^ n := by
  induction n with
  | zero => exact Nat.lt_succ_self 0
  | succ n ih =>
    have h1 := ih (fun g hg => hd g (by omega))
    have h2 := hd n (by omega)
    show cd b h n + dig (h n) * b ^ n < b ^ (n + 1)
    have h3 : (dig (h n) + 1) * b ^ n ≤ b * b ^ n := Nat.mul_le_mul_right _ (by omega)
    rw [Nat.add_mul, Nat.one_mul] at h3
    rw [Nat.pow_succ, Nat.mul_comm (b ^ n) b]
    omega
theorem cd_dig {b : Nat} {h : Nat → Int32} (n : Nat) (hd : ∀ g, g < n → dig (h g) < b) : ∀ g, g < n → cd b h n / b ^ g % b = dig (h g) := by
  induction n with
  | zero => intro g hg; exact absurd hg (Nat.not_lt_zero g)
  | succ n ih =>
    intro g hg
    have hb : 0 < b := by have := hd n (by omega); omega
    have hl := cd_lt n (fun g hg => hd g (by omega))
    show (cd b h n + dig (h n) * b ^ n) / b ^ g % b = dig (h g)
    by_cases q : g = n
    · subst q
      rw [Nat.add_mul_div_right _ _ (Nat.pow_pos hb), Nat.div_eq_of_lt hl, Nat.zero_add]
      exact Nat.mod_eq_of_lt (hd g (by omega))
    · obtain ⟨j, e⟩ : ∃ j, n = g + 1 + j := ⟨n - (g + 1), by omega⟩
      have e2 : dig (h n) * b ^ n = (dig (h n) * b ^ j * b) * b ^ g := by
        rw [e, Nat.pow_add, Nat.pow_succ]
        simp only [Nat.mul_assoc, Nat.mul_comm, Nat.mul_left_comm]
      rw [e2, Nat.add_mul_div_right _ _ (Nat.pow_pos hb), Nat.add_mul_mod_self_right]
      exact ih (fun g hg => hd g (by omega)) g (by omega)
theorem row_code {P : Pb} {h : Nat → Int32} (hD : pD P ≤ 6) (hr : ∀ g, g < pG P → h g = -1 ∨ ∃ d, d < pD P ∧ h g = nI d) : ∃ c, c < (pD P + 1) ^ pG P ∧ ∀ g, g < pG P → hrC P c g = h g := by
  have hd : ∀ g, g < pG P → dig (h g) < pD P + 1 := fun g hg => by
    unfold dig
    rcases hr g hg with z | ⟨d, hd, z⟩
    · rw [if_pos z]; omega
    · rw [z, if_neg (nI_neg1 (by omega)), nI_clamp (by omega)]; omega
  refine ⟨cd (pD P + 1) h (pG P), cd_lt _ hd, fun g hg => ?_⟩
  unfold hrC
  rw [cd_dig _ hd g hg]
  unfold dig
  rcases hr g hg with z | ⟨d, hd, z⟩
  · rw [if_pos z, z]; decide
  · rw [z, if_neg (nI_neg1 (by omega)), nI_clamp (by omega), pk_sub (by omega)]; rfl
theorem host_code {P : Pb} (hy : HY P) : hmF P ((pD P + 1) ^ pG P) = hostM P := by
  obtain ⟨v, e, ⟨h, ha, hj⟩, up⟩ := bst hy (pD P) (Nat.le_refl _) (2 ^ pG P - 1) (by have := Nat.two_pow_pos (pG P); omega)
  have hv45 : v ≤ 45 := by rw [← hj]; exact jN_45 hy (Nat.le_refl _) ha
  have one : ∀ c, ∃ w, hv P (hrC P c) = nI w ∧ w ≤ v := fun c => by
    unfold hv
    by_cases q : (allB (feaG P (hrC P c)) (pG P) && allB (feaD P (hrC P c)) (pD P)) = true
    · rw [if_pos q]
      have a1 := (fea_asg hy (fun g => hrC_row)).mp q
      exact ⟨_, joyA_jN hy (Nat.le_refl _) a1, up _ a1⟩
    · rw [if_neg q]; exact ⟨0, rfl, Nat.zero_le _⟩
  have all : ∀ c, ∃ w, hmF P c = nI w ∧ w ≤ v ∧ ∀ c', c' < c → ∀ u, u ≤ 45 → hv P (hrC P c') = nI u → u ≤ w := by
    intro c
    induction c with
    | zero => exact ⟨0, rfl, Nat.zero_le _, fun c' h => absurd h (Nat.not_lt_zero c')⟩
    | succ c ih =>
      obtain ⟨w, e1, e2, e3⟩ := ih
      obtain ⟨w2, f1, f2⟩ := one c
      refine ⟨max w w2, ?_, by omega, fun c' hc u hu45 hu => ?_⟩
      · show mx (hmF P c) (hv P (hrC P c)) = _
        rw [e1, f1]
        unfold mx
        by_cases y : w < w2
        · rw [if_pos ((nI_ltI (by omega) (by omega)).mpr y), Nat.max_eq_right (by omega)]
        · rw [if_neg (fun z => y ((nI_ltI (by omega) (by omega)).mp z)), Nat.max_eq_left (by omega)]
      · by_cases y : c' = c
        · subst y
          have : u = w2 := (nI_eq (by omega) (by omega)).mp (hu.symm.trans f1)
          omega
        · have := e3 c' (by omega) u hu45 hu
          omega
  obtain ⟨c, hc, hrow⟩ := row_code hy.2.1 (h := h) (fun g hg => by
    rcases ha.2.1 g hg with z | ⟨d, hd, z, -⟩
    · exact Or.inl z
    · exact Or.inr ⟨d, hd, z⟩)
  have a2 : Asg P (pD P) (2 ^ pG P - 1) (hrC P c) := ha.congr (fun g hg => (hrow g hg).symm)
  have hvc : hv P (hrC P c) = nI v := by
    unfold hv
    rw [if_pos ((fea_asg hy (fun g => hrC_row)).mpr a2), joyA_congr hrow, joyA_jN hy (Nat.le_refl _) ha, hj]
  obtain ⟨w, e1, e2, e3⟩ := all ((pD P + 1) ^ pG P)
  have := e3 c hc v hv45 hvc
  have hwv : w = v := by omega
  unfold hostM
  rw [e1, e, hwv]
