theorem os_0 : osh 0 = some 8 := by decide
theorem fs_0_0 : fsh 0 0 = some (8, 1 + 2) := by decide
theorem fs_0_1 : fsh 0 1 = some (8, 3 + 2) := by decide
theorem fs_0_2 : fsh 0 2 = some (8, 6 + 2) := by decide
theorem fs_0_3 : fsh 0 3 = some (8, 18 + 2) := by decide
theorem fs_0_4 : fsh 0 4 = some (8, 23 + 2) := by decide
theorem fs_0_5 : fsh 0 5 = some (8, 27 + 2) := by decide
theorem fs_0_6 : fsh 0 6 = some (8, 41 + 2) := by decide
theorem fs_0_7 : fsh 0 7 = some (8, 0) := by decide
theorem fs_0_8 : fsh 0 8 = some (8, 0) := by decide
theorem os_1 : osh 1 = some 5 := by decide
theorem fs_1_0 : fsh 1 0 = some (5, 2 + 2) := by decide
theorem fs_1_1 : fsh 1 1 = some (5, 0) := by decide
theorem as_2 : ash 2 = some 22 := by decide
theorem os_3 : osh 3 = some 4 := by decide
theorem fs_3_0 : fsh 3 0 = some (4, 4 + 2) := by decide
theorem fs_3_1 : fsh 3 1 = some (4, 5 + 2) := by decide
theorem fs_3_2 : fsh 3 2 = some (4, 0) := by decide
theorem fs_3_3 : fsh 3 3 = some (4, 0) := by decide
theorem as_4 : ash 4 = some 6 := by decide
theorem as_5 : ash 5 = some 6 := by decide
theorem os_6 : osh 6 = some 6 := by decide
theorem fs_6_0 : fsh 6 0 = some (6, 7 + 2) := by decide
theorem fs_6_1 : fsh 6 1 = some (6, 0) := by decide
theorem rt_7 : ∀ t rs, shpL[7]? = some (Sum.inr (Sum.inr (t, rs))) → (t = 1 ∨ t = 2) ∧ rs.length < 2 ^ 31 := by
  intro t rs h
  rw [show shpL[7]? = some (Sum.inr (Sum.inr (1, [8, 10, 12, 14, 16]))) by decide] at h
  cases h
  exact ⟨by decide, by decide⟩
theorem os_8 : osh 8 = some 1 := by decide
theorem fs_8_0 : fsh 8 0 = some (1, 9 + 2) := by decide
theorem fs_8_1 : fsh 8 1 = some (1, 0) := by decide
theorem fs_8_2 : fsh 8 2 = some (1, 0) := by decide
theorem fs_8_3 : fsh 8 3 = some (1, 0) := by decide
theorem as_9 : ash 9 = some 6 := by decide
theorem os_10 : osh 10 = some 1 := by decide
theorem fs_10_0 : fsh 10 0 = some (1, 11 + 2) := by decide
theorem fs_10_1 : fsh 10 1 = some (1, 0) := by decide
theorem fs_10_2 : fsh 10 2 = some (1, 0) := by decide
theorem fs_10_3 : fsh 10 3 = some (1, 0) := by decide
theorem as_11 : ash 11 = some 6 := by decide
theorem os_12 : osh 12 = some 1 := by decide
theorem fs_12_0 : fsh 12 0 = some (1, 13 + 2) := by decide
theorem fs_12_1 : fsh 12 1 = some (1, 0) := by decide
theorem fs_12_2 : fsh 12 2 = some (1, 0) := by decide
theorem fs_12_3 : fsh 12 3 = some (1, 0) := by decide
theorem as_13 : ash 13 = some 6 := by decide
theorem os_14 : osh 14 = some 1 := by decide
theorem fs_14_0 : fsh 14 0 = some (1, 15 + 2) := by decide
theorem fs_14_1 : fsh 14 1 = some (1, 0) := by decide
theorem fs_14_2 : fsh 14 2 = some (1, 0) := by decide
theorem fs_14_3 : fsh 14 3 = some (1, 0) := by decide
theorem as_15 : ash 15 = some 6 := by decide
theorem os_16 : osh 16 = some 1 := by decide
theorem fs_16_0 : fsh 16 0 = some (1, 17 + 2) := by decide
theorem fs_16_1 : fsh 16 1 = some (1, 0) := by decide
theorem fs_16_2 : fsh 16 2 = some (1, 0) := by decide
theorem fs_16_3 : fsh 16 3 = some (1, 0) := by decide
theorem as_17 : ash 17 = some 6 := by decide
theorem os_18 : osh 18 = some 7 := by decide
theorem fs_18_0 : fsh 18 0 = some (7, 3 + 2) := by decide
theorem fs_18_1 : fsh 18 1 = some (7, 6 + 2) := by decide
theorem fs_18_2 : fsh 18 2 = some (7, 19 + 2) := by decide
theorem fs_18_3 : fsh 18 3 = some (7, 20 + 2) := by decide
theorem fs_18_4 : fsh 18 4 = some (7, 21 + 2) := by decide
theorem fs_18_5 : fsh 18 5 = some (7, 22 + 2) := by decide
theorem fs_18_6 : fsh 18 6 = some (7, 0) := by decide
theorem fs_18_7 : fsh 18 7 = some (7, 0) := by decide
theorem fs_18_8 : fsh 18 8 = some (7, 0) := by decide
theorem as_19 : ash 19 = some 6 := by decide
theorem as_20 : ash 20 = some 6 := by decide
theorem as_21 : ash 21 = some 5 := by decide
theorem as_22 : ash 22 = some 5 := by decide
theorem os_23 : osh 23 = some 3 := by decide
theorem fs_23_0 : fsh 23 0 = some (3, 24 + 2) := by decide
theorem fs_23_1 : fsh 23 1 = some (3, 25 + 2) := by decide
theorem fs_23_2 : fsh 23 2 = some (3, 26 + 2) := by decide
theorem fs_23_3 : fsh 23 3 = some (3, 0) := by decide
theorem as_24 : ash 24 = some 4 := by decide
theorem as_25 : ash 25 = some 4 := by decide
theorem as_26 : ash 26 = some 4 := by decide
theorem os_27 : osh 27 = some 0 := by decide
theorem fs_27_0 : fsh 27 0 = some (0, 3 + 2) := by decide
theorem fs_27_1 : fsh 27 1 = some (0, 6 + 2) := by decide
theorem fs_27_2 : fsh 27 2 = some (0, 18 + 2) := by decide
theorem fs_27_3 : fsh 27 3 = some (0, 36 + 2) := by decide
theorem fs_27_4 : fsh 27 4 = some (0, 28 + 2) := by decide
theorem fs_27_5 : fsh 27 5 = some (0, 29 + 2) := by decide
theorem fs_27_6 : fsh 27 6 = some (0, 30 + 2) := by decide
theorem fs_27_7 : fsh 27 7 = some (0, 0) := by decide
theorem fs_27_8 : fsh 27 8 = some (0, 0) := by decide
theorem fs_27_9 : fsh 27 9 = some (0, 1) := by decide
theorem as_28 : ash 28 = some 32 := by decide
theorem as_29 : ash 29 = some 32 := by decide
theorem rt_30 : ∀ t rs, shpL[30]? = some (Sum.inr (Sum.inr (t, rs))) → (t = 1 ∨ t = 2) ∧ rs.length < 2 ^ 31 := by
  intro t rs h
  rw [show shpL[30]? = some (Sum.inr (Sum.inr (2, [31, 32, 33, 34, 35]))) by decide] at h
  cases h
  exact ⟨by decide, by decide⟩
theorem as_31 : ash 31 = some 6 := by decide
theorem as_32 : ash 32 = some 6 := by decide
theorem as_33 : ash 33 = some 6 := by decide
theorem as_34 : ash 34 = some 6 := by decide
theorem as_35 : ash 35 = some 6 := by decide
theorem os_36 : osh 36 = some 7 := by decide
theorem fs_36_0 : fsh 36 0 = some (7, 3 + 2) := by decide
theorem fs_36_1 : fsh 36 1 = some (7, 6 + 2) := by decide
theorem fs_36_2 : fsh 36 2 = some (7, 37 + 2) := by decide
theorem fs_36_3 : fsh 36 3 = some (7, 38 + 2) := by decide
theorem fs_36_4 : fsh 36 4 = some (7, 39 + 2) := by decide
theorem fs_36_5 : fsh 36 5 = some (7, 40 + 2) := by decide
theorem fs_36_6 : fsh 36 6 = some (7, 0) := by decide
theorem fs_36_7 : fsh 36 7 = some (7, 0) := by decide
theorem fs_36_8 : fsh 36 8 = some (7, 0) := by decide
theorem as_37 : ash 37 = some 6 := by decide
theorem as_38 : ash 38 = some 6 := by decide
theorem as_39 : ash 39 = some 5 := by decide
theorem as_40 : ash 40 = some 5 := by decide
theorem os_41 : osh 41 = some 2 := by decide
theorem fs_41_0 : fsh 41 0 = some (2, 49 + 2) := by decide
theorem fs_41_1 : fsh 41 1 = some (2, 54 + 2) := by decide
theorem fs_41_2 : fsh 41 2 = some (2, 42 + 2) := by decide
theorem fs_41_3 : fsh 41 3 = some (2, 48 + 2) := by decide
theorem fs_41_4 : fsh 41 4 = some (2, 0) := by decide
theorem fs_41_5 : fsh 41 5 = some (2, 0) := by decide
theorem rt_42 : ∀ t rs, shpL[42]? = some (Sum.inr (Sum.inr (t, rs))) → (t = 1 ∨ t = 2) ∧ rs.length < 2 ^ 31 := by
  intro t rs h
  rw [show shpL[42]? = some (Sum.inr (Sum.inr (2, [43, 44, 45, 46, 47]))) by decide] at h
  cases h
  exact ⟨by decide, by decide⟩
theorem as_43 : ash 43 = some 6 := by decide
theorem as_44 : ash 44 = some 6 := by decide
theorem as_45 : ash 45 = some 6 := by decide
theorem as_46 : ash 46 = some 6 := by decide
theorem as_47 : ash 47 = some 6 := by decide
theorem as_48 : ash 48 = some 5 := by decide
theorem os_49 : osh 49 = some 7 := by decide
theorem fs_49_0 : fsh 49 0 = some (7, 3 + 2) := by decide
theorem fs_49_1 : fsh 49 1 = some (7, 6 + 2) := by decide
theorem fs_49_2 : fsh 49 2 = some (7, 50 + 2) := by decide
theorem fs_49_3 : fsh 49 3 = some (7, 51 + 2) := by decide
theorem fs_49_4 : fsh 49 4 = some (7, 52 + 2) := by decide
theorem fs_49_5 : fsh 49 5 = some (7, 53 + 2) := by decide
theorem fs_49_6 : fsh 49 6 = some (7, 0) := by decide
theorem fs_49_7 : fsh 49 7 = some (7, 0) := by decide
theorem fs_49_8 : fsh 49 8 = some (7, 0) := by decide
theorem as_50 : ash 50 = some 6 := by decide
theorem as_51 : ash 51 = some 6 := by decide
theorem as_52 : ash 52 = some 5 := by decide
theorem as_53 : ash 53 = some 5 := by decide
theorem os_54 : osh 54 = some 3 := by decide
theorem fs_54_0 : fsh 54 0 = some (3, 55 + 2) := by decide
theorem fs_54_1 : fsh 54 1 = some (3, 56 + 2) := by decide
theorem fs_54_2 : fsh 54 2 = some (3, 57 + 2) := by decide
theorem fs_54_3 : fsh 54 3 = some (3, 0) := by decide
theorem as_55 : ash 55 = some 4 := by decide
theorem as_56 : ash 56 = some 4 := by decide
theorem as_57 : ash 57 = some 4 := by decide
theorem os_58 : osh 58 = some 9 := by decide
theorem fs_58_0 : fsh 58 0 = some (9, 59 + 2) := by decide
theorem fs_58_1 : fsh 58 1 = some (9, 0) := by decide
theorem fs_58_2 : fsh 58 2 = some (9, 60 + 2) := by decide
theorem fs_58_3 : fsh 58 3 = some (9, 61 + 2) := by decide
theorem fs_58_4 : fsh 58 4 = some (9, 0) := by decide
theorem fs_58_5 : fsh 58 5 = some (9, 0) := by decide
theorem fs_58_6 : fsh 58 6 = some (9, 0) := by decide
theorem fs_58_7 : fsh 58 7 = some (9, 0) := by decide
theorem fs_58_8 : fsh 58 8 = some (9, 0) := by decide
theorem fs_58_9 : fsh 58 9 = some (9, 0) := by decide
theorem fs_58_10 : fsh 58 10 = some (9, 0) := by decide
theorem fs_58_11 : fsh 58 11 = some (9, 0) := by decide
theorem fs_58_12 : fsh 58 12 = some (9, 62 + 2) := by decide
theorem fs_58_13 : fsh 58 13 = some (9, 63 + 2) := by decide
theorem fs_58_14 : fsh 58 14 = some (9, 0) := by decide
theorem fs_58_15 : fsh 58 15 = some (9, 64 + 2) := by decide
theorem fs_58_16 : fsh 58 16 = some (9, 65 + 2) := by decide
theorem fs_58_17 : fsh 58 17 = some (9, 66 + 2) := by decide
theorem fs_58_18 : fsh 58 18 = some (9, 0) := by decide
theorem fs_58_19 : fsh 58 19 = some (9, 0) := by decide
theorem fs_58_20 : fsh 58 20 = some (9, 0) := by decide
theorem fs_58_21 : fsh 58 21 = some (9, 67 + 2) := by decide
theorem fs_58_22 : fsh 58 22 = some (9, 0) := by decide
theorem fs_58_23 : fsh 58 23 = some (9, 0) := by decide
theorem fs_58_24 : fsh 58 24 = some (9, 68 + 2) := by decide
theorem fs_58_25 : fsh 58 25 = some (9, 0) := by decide
theorem fs_58_26 : fsh 58 26 = some (9, 69 + 2) := by decide
theorem fs_58_27 : fsh 58 27 = some (9, 0) := by decide
theorem fs_58_28 : fsh 58 28 = some (9, 0) := by decide
theorem fs_58_29 : fsh 58 29 = some (9, 0) := by decide
theorem fs_58_30 : fsh 58 30 = some (9, 0) := by decide
theorem fs_58_31 : fsh 58 31 = some (9, 0) := by decide
theorem fs_58_32 : fsh 58 32 = some (9, 70 + 2) := by decide
theorem fs_58_33 : fsh 58 33 = some (9, 71 + 2) := by decide
theorem fs_58_34 : fsh 58 34 = some (9, 72 + 2) := by decide
theorem fs_58_35 : fsh 58 35 = some (9, 73 + 2) := by decide
theorem fs_58_36 : fsh 58 36 = some (9, 1) := by decide
theorem as_59 : ash 59 = some 22 := by decide
theorem as_60 : ash 60 = some 6 := by decide
theorem as_61 : ash 61 = some 6 := by decide
theorem as_62 : ash 62 = some 6 := by decide
theorem as_63 : ash 63 = some 6 := by decide
theorem as_64 : ash 64 = some 10 := by decide
theorem as_65 : ash 65 = some 30 := by decide
theorem as_66 : ash 66 = some 5 := by decide
theorem as_67 : ash 67 = some 5 := by decide
theorem as_68 : ash 68 = some 12 := by decide
theorem as_69 : ash 69 = some 30 := by decide
theorem as_70 : ash 70 = some 30 := by decide
theorem as_71 : ash 71 = some 10 := by decide
theorem as_72 : ash 72 = some 5 := by decide
theorem as_73 : ash 73 = some 12 := by decide
def isT (t : Nat) : Prop := t = 18 ∨ t = 36 ∨ t = 49
def isG (l : Nat) : Prop := l = 23 ∨ l = 54
theorem co5 {P : Nat → Prop} (h0 : P 0) (h1 : P 1) (h2 : P 2) (h3 : P 3) (h4 : P 4) {i : Nat} (hi : i < 5) : P i := by
  match i, hi with
  | 0, _ => exact h0
  | 1, _ => exact h1
  | 2, _ => exact h2
  | 3, _ => exact h3
  | 4, _ => exact h4
theorem osT {t : Nat} (h : isT t) : osh t = some 7 := by rcases h with rfl | rfl | rfl <;> decide
theorem fT_0 {t : Nat} (h : isT t) : fsh t 0 = some (7, 3 + 2) := by rcases h with rfl | rfl | rfl <;> decide
theorem fT_1 {t : Nat} (h : isT t) : fsh t 1 = some (7, 6 + 2) := by rcases h with rfl | rfl | rfl <;> decide
theorem fT_2 {t : Nat} (h : isT t) : fsh t 2 = some (7, t + 1 + 2) := by rcases h with rfl | rfl | rfl <;> decide
theorem fT_3 {t : Nat} (h : isT t) : fsh t 3 = some (7, t + 2 + 2) := by rcases h with rfl | rfl | rfl <;> decide
theorem fT_4 {t : Nat} (h : isT t) : fsh t 4 = some (7, t + 3 + 2) := by rcases h with rfl | rfl | rfl <;> decide
theorem fT_5 {t : Nat} (h : isT t) : fsh t 5 = some (7, t + 4 + 2) := by rcases h with rfl | rfl | rfl <;> decide
theorem fT_6 {t : Nat} (h : isT t) : fsh t 6 = some (7, 0) := by rcases h with rfl | rfl | rfl <;> decide
theorem fT_7 {t : Nat} (h : isT t) : fsh t 7 = some (7, 0) := by rcases h with rfl | rfl | rfl <;> decide
theorem fT_8 {t : Nat} (h : isT t) : fsh t 8 = some (7, 0) := by rcases h with rfl | rfl | rfl <;> decide
theorem aT_1 {t : Nat} (h : isT t) : ash (t + 1) = some 6 := by rcases h with rfl | rfl | rfl <;> decide
theorem aT_2 {t : Nat} (h : isT t) : ash (t + 2) = some 6 := by rcases h with rfl | rfl | rfl <;> decide
theorem aT_3 {t : Nat} (h : isT t) : ash (t + 3) = some 5 := by rcases h with rfl | rfl | rfl <;> decide
theorem aT_4 {t : Nat} (h : isT t) : ash (t + 4) = some 5 := by rcases h with rfl | rfl | rfl <;> decide
theorem osL {l : Nat} (h : isG l) : osh l = some 3 := by rcases h with rfl | rfl <;> decide
theorem fL_0 {l : Nat} (h : isG l) : fsh l 0 = some (3, l + 1 + 2) := by rcases h with rfl | rfl <;> decide
theorem fL_1 {l : Nat} (h : isG l) : fsh l 1 = some (3, l + 2 + 2) := by rcases h with rfl | rfl <;> decide
theorem fL_2 {l : Nat} (h : isG l) : fsh l 2 = some (3, l + 3 + 2) := by rcases h with rfl | rfl <;> decide
theorem fL_3 {l : Nat} (h : isG l) : fsh l 3 = some (3, 0) := by rcases h with rfl | rfl <;> decide
theorem aL_1 {l : Nat} (h : isG l) : ash (l + 1) = some 4 := by rcases h with rfl | rfl <;> decide
theorem aL_2 {l : Nat} (h : isG l) : ash (l + 2) = some 4 := by rcases h with rfl | rfl <;> decide
theorem aL_3 {l : Nat} (h : isG l) : ash (l + 3) = some 4 := by rcases h with rfl | rfl <;> decide
theorem osG {g : Nat} (h : g < 5) : osh (8 + 2 * g) = some 1 := co5 (P := fun g => osh (8 + 2 * g) = some 1) (by decide) (by decide) (by decide) (by decide) (by decide) h
theorem fG_0 {g : Nat} (h : g < 5) : fsh (8 + 2 * g) 0 = some (1, 9 + 2 * g + 2) := co5 (P := fun g => fsh (8 + 2 * g) 0 = some (1, 9 + 2 * g + 2)) (by decide) (by decide) (by decide) (by decide) (by decide) h
theorem fG_1 {g : Nat} (h : g < 5) : fsh (8 + 2 * g) 1 = some (1, 0) := co5 (P := fun g => fsh (8 + 2 * g) 1 = some (1, 0)) (by decide) (by decide) (by decide) (by decide) (by decide) h
theorem fG_2 {g : Nat} (h : g < 5) : fsh (8 + 2 * g) 2 = some (1, 0) := co5 (P := fun g => fsh (8 + 2 * g) 2 = some (1, 0)) (by decide) (by decide) (by decide) (by decide) (by decide) h
theorem fG_3 {g : Nat} (h : g < 5) : fsh (8 + 2 * g) 3 = some (1, 0) := co5 (P := fun g => fsh (8 + 2 * g) 3 = some (1, 0)) (by decide) (by decide) (by decide) (by decide) (by decide) h
theorem aW {g : Nat} (h : g < 5) : ash (9 + 2 * g) = some 6 := co5 (P := fun g => ash (9 + 2 * g) = some 6) (by decide) (by decide) (by decide) (by decide) (by decide) h
theorem rG {g : Nat} (h : g < 5) : rsh 7 g = some (8 + 2 * g) := co5 (P := fun g => rsh 7 g = some (8 + 2 * g)) (by decide) (by decide) (by decide) (by decide) (by decide) h
theorem rK {g : Nat} (h : g < 5) : rsh 30 g = some (31 + g) := co5 (P := fun g => rsh 30 g = some (31 + g)) (by decide) (by decide) (by decide) (by decide) (by decide) h
theorem aK {g : Nat} (h : g < 5) : ash (31 + g) = some 6 := co5 (P := fun g => ash (31 + g) = some 6) (by decide) (by decide) (by decide) (by decide) (by decide) h
theorem rIm {g : Nat} (h : g < 5) : rsh 42 g = some (43 + g) := co5 (P := fun g => rsh 42 g = some (43 + g)) (by decide) (by decide) (by decide) (by decide) (by decide) h
theorem aIm {g : Nat} (h : g < 5) : ash (43 + g) = some 6 := co5 (P := fun g => ash (43 + g) = some 6) (by decide) (by decide) (by decide) (by decide) (by decide) h
abbrev aI (r : Int32) (P : Mm → Prop) : Option Value → Mm → Prop := fun v σ' => v = some (.int r) ∧ P σ'
abbrev aP (r : Int32) (σ : Mm) : Option Value → Mm → Prop := fun v σ' => v = some (.int r) ∧ σ' = σ
abbrev aV (P : Mm → Prop) : Option Value → Mm → Prop := fun v σ' => v = none ∧ P σ'
abbrev aJ (r : Int64) (P : Mm → Prop) : Option Value → Mm → Prop := fun v σ' => v = some (.long r) ∧ P σ'
def bI (b : Bool) : Int32 := if b = true then 1 else 0
theorem bI_01 (b : Bool) : bI b = 0 ∨ bI b = 1 := by cases b <;> simp [bI]
theorem bI_eq0 {b : Bool} : bI b = 0 ↔ b = false := by cases b <;> simp [bI]
theorem bI_ne0 {b : Bool} : ¬ bI b = 0 ↔ b = true := by cases b <;> simp [bI]
section GO3
variable {Γ : Gm} {n : Nat} {M : Md} {Q : Option Value → Mm → Prop} {pc : Nat} {L : List (Option Value)} {st : List Value} {σ : Mm}
theorem go_callVi {M' : Md} {As rest : List Value} {b idx ci np n' : Nat} (w : CV M.1.cls idx M' np ci) (hb : osh b = some ci) {r : Int32} {P : Mm → Prop} (sp : Sp Γ n' M' (rf Γ b :: As) σ (aI r P)) (hn : n' + 1 ≤ n) (hA : As.length = np) (hst : st = As.reverse ++ rf Γ b :: rest) (hr : (rest.map fun v => v.category).sum ≤ 8) (d : decode M.2.1 pc = .ok (.invokevirtual idx, 3)) (kk : ∀ σ', P σ' → Go Γ n M Q (pc + 3) L (.int r :: rest) σ') : Go Γ n M Q pc L st σ := go_callV w hb sp hn hA hst hr d (fun v σ' h => by obtain ⟨h1, h2⟩ := h; subst h1; exact kk σ' h2)
theorem go_callVp {M' : Md} {As rest : List Value} {b idx ci np n' : Nat} (w : CV M.1.cls idx M' np ci) (hb : osh b = some ci) {r : Int32} (sp : Sp Γ n' M' (rf Γ b :: As) σ (aP r σ)) (hn : n' + 1 ≤ n) (hA : As.length = np) (hst : st = As.reverse ++ rf Γ b :: rest) (hr : (rest.map fun v => v.category).sum ≤ 8) (d : decode M.2.1 pc = .ok (.invokevirtual idx, 3)) (kk : Go Γ n M Q (pc + 3) L (.int r :: rest) σ) : Go Γ n M Q pc L st σ := go_callV w hb sp hn hA hst hr d (fun v σ' h => by obtain ⟨h1, h2⟩ := h; subst h1; subst h2; exact kk)
theorem go_callVv {M' : Md} {As rest : List Value} {b idx ci np n' : Nat} (w : CV M.1.cls idx M' np ci) (hb : osh b = some ci) {P : Mm → Prop} (sp : Sp Γ n' M' (rf Γ b :: As) σ (aV P)) (hn : n' + 1 ≤ n) (hA : As.length = np) (hst : st = As.reverse ++ rf Γ b :: rest) (hr : (rest.map fun v => v.category).sum ≤ 8) (d : decode M.2.1 pc = .ok (.invokevirtual idx, 3)) (kk : ∀ σ', P σ' → Go Γ n M Q (pc + 3) L rest σ') : Go Γ n M Q pc L st σ := go_callV w hb sp hn hA hst hr d (fun v σ' h => by obtain ⟨h1, h2⟩ := h; subst h1; exact kk σ' h2)
theorem go_callVj {M' : Md} {As rest : List Value} {b idx ci np n' : Nat} (w : CV M.1.cls idx M' np ci) (hb : osh b = some ci) {r : Int64} {P : Mm → Prop} (sp : Sp Γ n' M' (rf Γ b :: As) σ (aJ r P)) (hn : n' + 1 ≤ n) (hA : As.length = np) (hst : st = As.reverse ++ rf Γ b :: rest) (hr : (rest.map fun v => v.category).sum ≤ 8) (d : decode M.2.1 pc = .ok (.invokevirtual idx, 3)) (kk : ∀ σ', P σ' → Go Γ n M Q (pc + 3) L (.long r :: rest) σ') : Go Γ n M Q pc L st σ := go_callV w hb sp hn hA hst hr d (fun v σ' h => by obtain ⟨h1, h2⟩ := h; subst h1; exact kk σ' h2)
theorem go_callSi {M' : Md} {As rest : List Value} {idx np n' : Nat} (w : CS M.1.cls idx M' np) {r : Int32} {P : Mm → Prop} (sp : Sp Γ n' M' (As) σ (aI r P)) (hn : n' + 1 ≤ n) (hA : As.length = np) (hst : st = As.reverse ++ rest) (hr : (rest.map fun v => v.category).sum ≤ 8) (d : decode M.2.1 pc = .ok (.invokestatic idx, 3)) (kk : ∀ σ', P σ' → Go Γ n M Q (pc + 3) L (.int r :: rest) σ') : Go Γ n M Q pc L st σ := go_callS w sp hn hA hst hr d (fun v σ' h => by obtain ⟨h1, h2⟩ := h; subst h1; exact kk σ' h2)
theorem go_callSp {M' : Md} {As rest : List Value} {idx np n' : Nat} (w : CS M.1.cls idx M' np) {r : Int32} (sp : Sp Γ n' M' (As) σ (aP r σ)) (hn : n' + 1 ≤ n) (hA : As.length = np) (hst : st = As.reverse ++ rest) (hr : (rest.map fun v => v.category).sum ≤ 8) (d : decode M.2.1 pc = .ok (.invokestatic idx, 3)) (kk : Go Γ n M Q (pc + 3) L (.int r :: rest) σ) : Go Γ n M Q pc L st σ := go_callS w sp hn hA hst hr d (fun v σ' h => by obtain ⟨h1, h2⟩ := h; subst h1; subst h2; exact kk)
theorem go_callSv {M' : Md} {As rest : List Value} {idx np n' : Nat} (w : CS M.1.cls idx M' np) {P : Mm → Prop} (sp : Sp Γ n' M' (As) σ (aV P)) (hn : n' + 1 ≤ n) (hA : As.length = np) (hst : st = As.reverse ++ rest) (hr : (rest.map fun v => v.category).sum ≤ 8) (d : decode M.2.1 pc = .ok (.invokestatic idx, 3)) (kk : ∀ σ', P σ' → Go Γ n M Q (pc + 3) L rest σ') : Go Γ n M Q pc L st σ := go_callS w sp hn hA hst hr d (fun v σ' h => by obtain ⟨h1, h2⟩ := h; subst h1; exact kk σ' h2)
theorem go_callSj {M' : Md} {As rest : List Value} {idx np n' : Nat} (w : CS M.1.cls idx M' np) {r : Int64} {P : Mm → Prop} (sp : Sp Γ n' M' (As) σ (aJ r P)) (hn : n' + 1 ≤ n) (hA : As.length = np) (hst : st = As.reverse ++ rest) (hr : (rest.map fun v => v.category).sum ≤ 8) (d : decode M.2.1 pc = .ok (.invokestatic idx, 3)) (kk : ∀ σ', P σ' → Go Γ n M Q (pc + 3) L (.long r :: rest) σ') : Go Γ n M Q pc L st σ := go_callS w sp hn hA hst hr d (fun v σ' h => by obtain ⟨h1, h2⟩ := h; subst h1; exact kk σ' h2)
end GO3
/-- the locals at the entry, by place -/
def argL : List Value → Nat → List (Option Value)
  | [], n => List.replicate n none
  | v :: vs, n => if v.category = 2 then some v :: none :: argL vs (n - 2) else some v :: argL vs (n - 1)
theorem sp_in {Γ : Gm} {n : Nat} {M : Md} {Q : Option Value → Mm → Prop} {L : List (Option Value)} {σ : Mm} {av : List Value} (hy : plainName M.1.cls = true) (hlen : (lg_sl av).length ≤ M.2.2.1) (hL : cvL 0 L = lv_args 0 av) (k : Go Γ n M Q 0 L [] σ) : Sp Γ n M av σ Q := sp_intro hy hlen (fun ls h => by unfold LH; rw [hL]; exact h) k
