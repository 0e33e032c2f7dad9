/-! the memory at first -/
def σ0 : Mm := (fun a k => if ((a = 18 ∨ a = 36 ∨ a = 49) ∧ k = 6) ∨ (a = 58 ∧ (k = 27 ∨ k = 10)) then -1 else 0, fun _ => 0)
theorem rc_0 : RC σ0 X0 := by
  refine ⟨⟨rfl, fun k hk => absurd hk (Nat.not_lt_zero k)⟩, ⟨⟨⟨rfl, Nat.zero_le _⟩, ⟨rfl, Nat.zero_le _⟩, fun d hd => absurd hd (Nat.not_lt_zero d), fun g hg => absurd hg (Nat.not_lt_zero g)⟩, rfl, fun g hg => absurd hg (Nat.not_lt_zero g)⟩, ⟨⟨rfl, rfl, rfl⟩, fun d hd => absurd hd (Nat.not_lt_zero d), fun g _ hz => absurd hz (by rintro (z | z); exact Nat.lt_irrefl 0 z; exact Nat.not_lt_zero g z)⟩, ⟨rfl, Nat.zero_le _, fun e he => absurd he (Nat.not_lt_zero e)⟩, ⟨rfl, rfl⟩, rfl, fun _ q => absurd q (Nat.lt_irrefl 0)⟩
theorem rm_0 : RM σ0 X0 := by
  refine ⟨⟨rfl, fun k hk => absurd hk (Nat.not_lt_zero k)⟩, ⟨⟨⟨rfl, Nat.zero_le _⟩, ⟨rfl, Nat.zero_le _⟩, fun d hd => absurd hd (Nat.not_lt_zero d), fun g hg => absurd hg (Nat.not_lt_zero g)⟩, rfl, rfl, rfl⟩, fun g hg => absurd hg (Nat.not_lt_zero g), ⟨rfl, Nat.zero_le _, fun e he => absurd he (Nat.not_lt_zero e)⟩, ⟨rfl, rfl⟩, rfl, fun _ q => absurd q (Nat.lt_irrefl 0)⟩
/-- the class's cells speak for it, the model's for it -/
theorem RM.frc {σ σ' : Mm} {X : Xs} (h : RM σ X) (f : FrC σ σ') : RM σ' X := by
  obtain ⟨⟨a1, a2⟩, b, c, d, ⟨e1, e2⟩, g⟩ := h
  have h58 := f.1 58 (by omega)
  exact ⟨⟨by rw [h58]; exact a1, fun k hk => by rw [f.1 59 (by omega)]; exact a2 k hk⟩, b.eq (fun k hk => by rw [h58]) (fun a h1 h2 => f.1 a (by omega)), fun x hx => by rw [f.1 66 (by omega)]; exact c x hx, d.eq (by rw [h58]) (f.1 68 (by omega)), ⟨by rw [h58]; exact e1, by rw [h58]; exact e2⟩, RMk.eq g (fun k h1 h2 => by rw [h58]) (fun a h1 h2 => f.1 a (by omega))⟩
theorem RC.frm {σ σ' : Mm} {X : Xs} {N : Nat} (hI : XI N X) (h : RC σ X) (f : FrM σ σ') : RC σ' X := by
  obtain ⟨⟨a1, a2⟩, ⟨b1, b2, b3⟩, c, d, ⟨e1, e2⟩, g⟩ := h
  have hG := b1.2.1.2
  exact ⟨⟨by rw [f.1 1 (by omega)]; exact a1, fun k hk => by rw [f.1 2 (by omega)]; exact a2 k hk⟩, ⟨b1.eq (fun a h1 h2 => f.1 a (by omega)), by rw [f.1 3 (by omega)]; exact b2, fun x hx => by rw [f.1 _ (by omega)]; exact b3 x hx⟩, c.eq (fun a h1 h2 => f.1 a (by omega)), d.eq (fun a h1 h2 => f.1 a (by omega)), ⟨by rw [f.1 0 (by omega)]; exact e1, by rw [f.1 0 (by omega)]; exact e2⟩, RK.eq (K := xK X) (c := xC X) (RC.k5 (σ := σ) (X := X) hI) g (fun a h1 h2 => f.1 a (by omega))⟩
