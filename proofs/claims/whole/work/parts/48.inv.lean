/-! what holds stays -/
theorem XI.up {N : Nat} {X : Xs} (h : XI N X) : XI (N + 1) X := ⟨h.1, h.2.1, Nat.le_succ_of_le h.2.2.1, h.2.2.2⟩
theorem Smc.rf {P : Pb} : Smc P P := ⟨rfl, rfl, fun _ _ => ⟨rfl, rfl⟩, Nat.le_refl _, fun _ _ => rfl⟩
theorem inR_num {lo hi : Nat} {a : Int32} (h1 : lo < 2 ^ 31) (h2 : hi < 2 ^ 31) (h : inR (nI lo) (nI hi) a = true) : ∃ k, lo ≤ k ∧ k ≤ hi ∧ a = nI k := by
  unfold inR at h
  simp only [Bool.and_eq_true, decide_eq_true_eq] at h
  obtain ⟨k, hk, rfl⟩ := nI_of (x := a) (fun z => nI_pos (n := lo) (by omega) (Int32.lt_of_le_of_lt h.1 z))
  rw [nI_leI (by omega) (by omega), nI_leI (by omega) (by omega)] at h
  exact ⟨k, h.1, h.2, rfl⟩
theorem xi_letter {N : Nat} {X : Xs} {a : Int32} (h : XI N X) : XI (N + 1) (tLetter X a) := by
  unfold tLetter
  split
  · rename_i q
    exact ⟨by show xPn X + 1 ≤ 22; omega, h.up.2⟩
  · exact h.up
theorem xi_blank {N : Nat} {X : Xs} (h : XI N X) : XI (N + 1) (tBlank X) := ⟨Nat.zero_le _, h.up.2⟩
theorem xi_card {N : Nat} {X : Xs} (h : XI N X) : XI (N + 1) (tCard X) := by
  unfold tCard
  split
  · rename_i hc
    obtain ⟨D, hn, hD2, hD6, hdg, hlo⟩ := card_page h.1 hc
    rw [show (xPn X - 1) / 3 = D by omega]
    refine ⟨Nat.zero_le _, ⟨fun d hd => ?_, hD6, Nat.zero_le _, fun _ => rfl, fun g hg => absurd hg (Nat.not_lt_zero g), fun g d hg => absurd hg (Nat.not_lt_zero g), fun _ => rfl, ⟨fun g _ => Or.inl rfl, fun g _ => rfl⟩, Nat.zero_le _, fun e he => absurd he (Nat.not_lt_zero e)⟩, Nat.succ_le_succ h.2.2.1, ⟨fun z => absurd z (Nat.succ_ne_zero _), fun z => absurd z (by show ¬ D = 0; omega)⟩, h.2.2.2.2.1, Nat.le_succ_of_le h.2.2.2.2.2.1, fun q _ => ?_⟩
    · obtain ⟨k, e, h1, h2⟩ := dg_num (by omega) (by omega) (hdg d hd).1
      exact ⟨k, e, by omega, h2⟩
    · have := h.2.2.2.2.2.1
      exact absurd q (by show ¬ (xK X).1 = xC X + 1; omega)
  · exact h.up
theorem xi_guest {N : Nat} {X : Xs} {a b : Int32} (h : XI N X) : XI (N + 1) (tGuest X a b) := by
  unfold tGuest
  split
  · rename_i hq
    obtain ⟨q1, q2, q3⟩ := hq
    rw [Bool.and_eq_true] at q1
    obtain ⟨k, -, hk, rfl⟩ := inR_num (by omega) (by omega) q1.1
    obtain ⟨i1, ⟨d1, d2, d3, d4, d5, d6, d7, d8, d9, d10⟩, i3, i4, i5, i6, i7⟩ := h.up
    refine ⟨i1, ⟨d1, d2, by show pG (xP X) + 1 ≤ 5; omega, fun z => absurd z q2, fun g hg => ?_, fun g d hg hd => ?_, d7, ⟨d8.1, fun g hg => d8.2 g (Nat.le_of_succ_le hg)⟩, d9, fun e he => ⟨Nat.lt_succ_of_lt (d10 e he).1, Nat.lt_succ_of_lt (d10 e he).2⟩⟩, i3, i4, i5, i6, fun z1 z2 => ?_⟩
    · have hg' : g < pG (xP X) + 1 := hg
      show ∃ j, j < 5 ∧ upd (pKi (xP X)) (pG (xP X)) (nI k) g = nI j
      by_cases q : g = pG (xP X)
      · exact ⟨k, by omega, by simp [upd, q]⟩
      · obtain ⟨j, h1, h2⟩ := d5 g (by omega)
        exact ⟨j, h1, by simp [upd, q]; exact h2⟩
    · have hg' : g < pG (xP X) + 1 := hg
      show ∃ j, j ≤ 9 ∧ (if g = pG (xP X) then 0 else pWa (xP X) g d) = nI j
      by_cases q : g = pG (xP X)
      · exact ⟨0, by omega, by rw [if_pos q]; rfl⟩
      · rw [if_neg q]; exact d6 g d (by omega) hd
    · obtain ⟨⟨s1, s2, s3, s4, s5⟩, s6⟩ := i7 z1 z2
      refine ⟨⟨s1, s2, s3, Nat.le_succ_of_le s4, fun g hg => ?_⟩, s6⟩
      show _ = upd (pKi (xP X)) (pG (xP X)) (nI k) g
      have : g < pG (xK X).2.1 := hg
      have s4' : pG (xK X).2.1 ≤ pG (xP X) := s4
      rw [s5 g hg]
      simp [upd, show ¬ g = pG (xP X) by omega]
  · exact h.up
theorem xi_want {N : Nat} {X : Xs} {a b c : Int32} (h : XI N X) : XI (N + 1) (tWant X a b c) := by
  unfold tWant
  split
  · rename_i g d hg hd
    split
    · rename_i hq
      obtain ⟨k, -, hk, rfl⟩ := inR_num (by omega) (by omega) hq
      obtain ⟨i1, ⟨d1, d2, d3, d4, d5, d6, d7, d8, d9, d10⟩, i3, i4, i5, i6, i7⟩ := h.up
      refine ⟨i1, ⟨d1, d2, d3, d4, d5, fun x y hx hy => ?_, d7, d8, d9, d10⟩, i3, i4, i5, i6, i7⟩
      show ∃ j, j ≤ 9 ∧ (if x = g ∧ y = d then nI k else pWa (xP X) x y) = nI j
      split
      · exact ⟨k, hk, rfl⟩
      · exact d6 x y hx hy
    · exact h.up
  · exact h.up
theorem xi_purse {N : Nat} {X : Xs} {a b : Int32} (h : XI N X) : XI (N + 1) (tPurse X a b) := by
  unfold tPurse
  split
  · split
    · obtain ⟨i1, ⟨d1, d2, d3, d4, d5, d6, d7, d8, d9, d10⟩, i3, i4, i5, i6, i7⟩ := h.up
      exact ⟨i1, ⟨d1, d2, d3, d4, d5, d6, d7, d8, d9, d10⟩, i3, i4, i5, i6, i7⟩
    · exact h.up
  · exact h.up
theorem xi_urge {N : Nat} {X : Xs} {a b : Int32} (h : XI N X) : XI (N + 1) (tUrge X a b) := by
  unfold tUrge
  split
  · split
    · obtain ⟨i1, ⟨d1, d2, d3, d4, d5, d6, d7, d8, d9, d10⟩, i3, i4, i5, i6, i7⟩ := h.up
      refine ⟨i1, ⟨d1, d2, d3, d4, d5, d6, fun z => ?_, d8, d9, d10⟩, i3, i4, i5, i6, i7⟩
      show (if b = 0 then -1 else a) = -1
      rw [if_pos (show b = 0 from z)]
    · exact h.up
  · exact h.up
theorem xi_clear {N : Nat} {X : Xs} (h : XI N X) : XI (N + 1) (tClear X) := by
  obtain ⟨i1, ⟨d1, d2, d3, d4, d5, d6, d7, d8, d9, d10⟩, i3, i4, i5, i6, i7⟩ := h.up
  exact ⟨i1, ⟨d1, d2, d3, d4, d5, d6, d7, ⟨fun g _ => Or.inl rfl, fun g _ => rfl⟩, d9, d10⟩, i3, i4, i5, i6, i7⟩
theorem xi_atOnce {N : Nat} {X : Xs} {a : Int32} (h : XI N X) : XI (N + 1) (tAtOnce X a) := by
  unfold tAtOnce
  split
  · exact h.up
  · split
    · exact h.up
    · rename_i q
      obtain ⟨i1, i2, i3, i4, i5, i6, i7⟩ := h.up
      exact ⟨i1, i2, i3, i4, by show xA X + 1 ≤ 20; omega, i6, i7⟩
theorem xi_evening {N : Nat} {X : Xs} {a b c : Int32} (h : XI N X) : XI (N + 1) (tEvening X a b c) := by
  unfold tEvening
  split
  · rename_i f g hf hg
    split
    · exact h.up
    · split
      · rename_i hl
        obtain ⟨i1, ⟨d1, d2, d3, d4, d5, d6, d7, d8, d9, d10⟩, i3, i4, i5, i6, i7⟩ := h.up
        have hf' := (ix_some (by omega) hf).1
        have hg' := (ix_some (by omega) hg).1
        refine ⟨i1, ⟨d1, d2, d3, d4, d5, d6, d7, d8, by show (xE X).1 + 1 ≤ 4; omega, fun e he => ?_⟩, i3, i4, i5, i6, i7⟩
        have he' : e < (xE X).1 + 1 := he
        show updN (xE X).2.1 (xE X).1 f e < pG (xP X) ∧ updN (xE X).2.2.1 (xE X).1 g e < pG (xP X)
        by_cases q : e = (xE X).1
        · simp only [updN, if_pos q]; exact ⟨hf', hg'⟩
        · simp only [updN, if_neg q]; exact d10 e (by omega)
      · exact h.up
  · exact h.up
theorem xi_forget {N : Nat} {X : Xs} (h : XI N X) : XI (N + 1) (tForget X) := by
  obtain ⟨i1, ⟨d1, d2, d3, d4, d5, d6, d7, d8, d9, d10⟩, i3, i4, i5, i6, i7⟩ := h.up
  exact ⟨i1, ⟨d1, d2, d3, d4, d5, d6, d7, d8, Nat.zero_le _, fun e he => absurd he (Nat.not_lt_zero e)⟩, i3, i4, i5, i6, i7⟩
theorem xi_image {N : Nat} {X : Xs} (h : XI N X) : XI (N + 1) (tImage X) := by
  unfold tImage
  split
  · exact h.up
  · obtain ⟨i1, i2, i3, i4, i5, i6, i7⟩ := h.up
    exact ⟨i1, i2, i3, i4, i5, Nat.le_refl _, fun _ _ => ⟨Smc.rf, i2⟩⟩
theorem xi_restore {N : Nat} {X : Xs} (h : XI N X) : XI (N + 1) (tRestore X) := by
  unfold tRestore
  split
  · rename_i q
    obtain ⟨i1, i2, i3, i4, i5, i6, i7⟩ := h.up
    obtain ⟨s, dk⟩ := i7 q.2.1 q.1
    refine ⟨i1, dk, i3, ?_, i5, i6, fun _ _ => ⟨Smc.rf, dk⟩⟩
    show xC X = 0 ↔ pD (xK X).2.1 = 0
    rw [s.1]; exact i4
  · exact h.up
theorem xi_order {N : Nat} {X : Xs} {a : Int32} (h : XI N X) : XI (N + 1) (tOrder X a) := by
  unfold tOrder
  split
  · rename_i g hg
    split
    · obtain ⟨i1, ⟨d1, d2, d3, d4, d5, d6, d7, d8, d9, d10⟩, i3, i4, i5, i6, i7⟩ := h.up
      have hg' := (ix_some (by omega) hg).1
      refine ⟨i1, ⟨d1, d2, d3, d4, d5, d6, d7, ⟨fun x hx => ?_, fun x hx => ?_⟩, d9, d10⟩, i3, i4, i5, i6, i7⟩
      · show upd (xH X) g (bestM (xP X) (xH X) g) x = -2 ∨ upd (xH X) g (bestM (xP X) (xH X) g) x = -1 ∨ ∃ d, d < pD (xP X) ∧ upd (xH X) g (bestM (xP X) (xH X) g) x = nI d
        by_cases q : x = g
        · simp only [upd, if_pos q]
          rcases fB_range (m := mayM (xP X) (xH X) g) (v := valM (xP X) (xH X) g) (pD (xP X)) with z | ⟨d, z1, -, z2, -⟩
          · exact Or.inr (Or.inl z)
          · exact Or.inr (Or.inr ⟨d, z1, z2⟩)
        · simp only [upd, if_neg q]; exact d8.1 x hx
      · have hx' : pG (xP X) ≤ x := hx
        show upd (xH X) g (bestM (xP X) (xH X) g) x = -2
        simp only [upd, if_neg (show ¬ x = g by omega)]
        exact d8.2 x hx
    · exact h.up
  · exact h.up
/-- at first -/
def P0 : Pb := (0, 0, 0, -1, 0, (fun _ => 0), (fun _ => 0), (fun _ => 0), (fun _ => 0), (fun _ _ => 0))
def E0 : Ev := (0, (fun _ => 0), (fun _ => 0), (fun _ => 0))
def X0 : Xs := (P0, (fun _ => 0), 0, (fun _ => -2), E0, 0, 0, (0, P0, (fun _ => -2), E0))
theorem xi_0 : XI 0 X0 := by
  refine ⟨Nat.zero_le _, ⟨fun d hd => absurd hd (Nat.not_lt_zero d), Nat.zero_le _, Nat.zero_le _, fun _ => rfl, fun g hg => absurd hg (Nat.not_lt_zero g), fun g d hg => absurd hg (Nat.not_lt_zero g), fun _ => rfl, ⟨fun g _ => Or.inl rfl, fun g _ => rfl⟩, Nat.zero_le _, fun e he => absurd he (Nat.not_lt_zero e)⟩, Nat.le_refl _, ⟨fun _ => rfl, fun _ => rfl⟩, Nat.zero_le _, Nat.le_refl _, fun _ q => absurd q (Nat.lt_irrefl 0)⟩
