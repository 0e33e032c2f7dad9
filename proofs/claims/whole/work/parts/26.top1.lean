/-! the class's public methods (1) -/
theorem sw3 (x : Int32) : (x.toInt < 0 ∨ 3 < x.toInt) ∨ x = nI 0 ∨ x = nI 1 ∨ x = nI 2 ∨ x = nI 3 := by
  by_cases h1 : x.toInt < 0
  · exact Or.inl (Or.inl h1)
  · by_cases h2 : 3 < x.toInt
    · exact Or.inl (Or.inr h2)
    · right
      have e : ∀ k : Nat, k < 2 ^ 31 → x.toInt = k → x = nI k := fun k hk h => Int32.toInt_inj.mp (h.trans (nI_toInt hk).symm)
      have h3 : x.toInt = 0 ∨ x.toInt = 1 ∨ x.toInt = 2 ∨ x.toInt = 3 := by omega
      rcases h3 with h3 | h3 | h3 | h3
      · exact Or.inl (e 0 (by omega) h3)
      · exact Or.inr (Or.inl (e 1 (by omega) h3))
      · exact Or.inr (Or.inr (Or.inl (e 2 (by omega) h3)))
      · exact Or.inr (Or.inr (Or.inr (e 3 (by omega) h3)))
theorem sw5 (x : Int32) : (x.toInt < 0 ∨ 5 < x.toInt) ∨ x = nI 0 ∨ x = nI 1 ∨ x = nI 2 ∨ x = nI 3 ∨ x = nI 4 ∨ x = nI 5 := by
  by_cases h1 : x.toInt < 0
  · exact Or.inl (Or.inl h1)
  · by_cases h2 : 5 < x.toInt
    · exact Or.inl (Or.inr h2)
    · right
      have e : ∀ k : Nat, k < 2 ^ 31 → x.toInt = k → x = nI k := fun k hk h => Int32.toInt_inj.mp (h.trans (nI_toInt hk).symm)
      have h3 : x.toInt = 0 ∨ x.toInt = 1 ∨ x.toInt = 2 ∨ x.toInt = 3 ∨ x.toInt = 4 ∨ x.toInt = 5 := by omega
      rcases h3 with h3 | h3 | h3 | h3 | h3 | h3
      · exact Or.inl (e 0 (by omega) h3)
      · exact Or.inr (Or.inl (e 1 (by omega) h3))
      · exact Or.inr (Or.inr (Or.inl (e 2 (by omega) h3)))
      · exact Or.inr (Or.inr (Or.inr (Or.inl (e 3 (by omega) h3))))
      · exact Or.inr (Or.inr (Or.inr (Or.inr (Or.inl (e 4 (by omega) h3)))))
      · exact Or.inr (Or.inr (Or.inr (Or.inr (Or.inr (e 5 (by omega) h3)))))
theorem sw8 (x : Int32) : (x.toInt < 0 ∨ 8 < x.toInt) ∨ x = nI 0 ∨ x = nI 1 ∨ x = nI 2 ∨ x = nI 3 ∨ x = nI 4 ∨ x = nI 5 ∨ x = nI 6 ∨ x = nI 7 ∨ x = nI 8 := by
  by_cases h1 : x.toInt < 0
  · exact Or.inl (Or.inl h1)
  · by_cases h2 : 8 < x.toInt
    · exact Or.inl (Or.inr h2)
    · right
      have e : ∀ k : Nat, k < 2 ^ 31 → x.toInt = k → x = nI k := fun k hk h => Int32.toInt_inj.mp (h.trans (nI_toInt hk).symm)
      have h3 : x.toInt = 0 ∨ x.toInt = 1 ∨ x.toInt = 2 ∨ x.toInt = 3 ∨ x.toInt = 4 ∨ x.toInt = 5 ∨ x.toInt = 6 ∨ x.toInt = 7 ∨ x.toInt = 8 := by omega
      rcases h3 with h3 | h3 | h3 | h3 | h3 | h3 | h3 | h3 | h3
      · exact Or.inl (e 0 (by omega) h3)
      · exact Or.inr (Or.inl (e 1 (by omega) h3))
      · exact Or.inr (Or.inr (Or.inl (e 2 (by omega) h3)))
      · exact Or.inr (Or.inr (Or.inr (Or.inl (e 3 (by omega) h3))))
      · exact Or.inr (Or.inr (Or.inr (Or.inr (Or.inl (e 4 (by omega) h3)))))
      · exact Or.inr (Or.inr (Or.inr (Or.inr (Or.inr (Or.inl (e 5 (by omega) h3))))))
      · exact Or.inr (Or.inr (Or.inr (Or.inr (Or.inr (Or.inr (Or.inl (e 6 (by omega) h3)))))))
      · exact Or.inr (Or.inr (Or.inr (Or.inr (Or.inr (Or.inr (Or.inr (Or.inl (e 7 (by omega) h3))))))))
      · exact Or.inr (Or.inr (Or.inr (Or.inr (Or.inr (Or.inr (Or.inr (Or.inr (e 8 (by omega) h3))))))))
theorem swo {x : Int32} {n : Nat} (hn : n < 2 ^ 31 - 1) (h : x.toInt < 0 ∨ (n : Int) < x.toInt) : ix (n + 1) x = none := by
  refine ix_out ?_
  rcases h with h | h
  · left
    rw [Int32.lt_iff_toInt_lt, Int32.toInt_zero]; exact h
  · right
    rw [Int32.le_iff_toInt_le, nI_toInt (by omega)]; omega
set_option maxHeartbeats 1000000 in
theorem sp_isOutside {Γ : Gm} {σ : Mm} {x lo hi : Int32} : Sp Γ 1 mX8_isOutside [.int x, .int lo, .int hi] σ (aP (bI (!inR lo hi x)) σ) := by
  refine sp_in (L := [some (.int x), some (.int lo), some (.int hi)]) rfl (Nat.le_of_ble_eq_true rfl) rfl ?_
  refine go_iload_n dX8_isOutside_0 rfl rfl ?_
  refine go_iload_n dX8_isOutside_1 rfl rfl ?_
  refine go_icmp_lt (tgt := 10) dX8_isOutside_2 (by decide) (fun c2 => ?_) (fun c2 => ?_)
  · refine go_iconst (v := nI 1) dX8_isOutside_10 rfl ?_
    refine go_goto (tgt := 15) dX8_isOutside_11 (by decide) ?_
    refine go_zret rfl dX8_isOutside_15 (by first | exact Or.inl rfl | exact Or.inr rfl | exact bI_01 _) ?_
    exact ⟨by rw [show inR lo hi x = false by unfold inR; simp [Int32.not_le.mpr c2]]; rfl, rfl⟩
  · refine go_iload_n dX8_isOutside_5 rfl rfl ?_
    refine go_iload_n dX8_isOutside_6 rfl rfl ?_
    refine go_icmp_le (tgt := 14) dX8_isOutside_7 (by decide) (fun c7 => ?_) (fun c7 => ?_)
    · refine go_iconst (v := nI 0) dX8_isOutside_14 rfl ?_
      refine go_zret rfl dX8_isOutside_15 (by first | exact Or.inl rfl | exact Or.inr rfl | exact bI_01 _) ?_
      exact ⟨by rw [show inR lo hi x = true by unfold inR; simp [Int32.not_lt.mp c2, c7]]; rfl, rfl⟩
    · refine go_iconst (v := nI 1) dX8_isOutside_10 rfl ?_
      refine go_goto (tgt := 15) dX8_isOutside_11 (by decide) ?_
      refine go_zret rfl dX8_isOutside_15 (by first | exact Or.inl rfl | exact Or.inr rfl | exact bI_01 _) ?_
      exact ⟨by rw [show inR lo hi x = false by unfold inR; simp [c7]]; rfl, rfl⟩
theorem nI_z {k : Nat} (h : k < 2 ^ 31) : nI k = 0 ↔ k = 0 := by rw [← nI_0]; exact nI_eq h (by omega)
set_option maxHeartbeats 1000000 in
theorem sp_noCard {Γ : Gm} {σ : Mm} {P : Pb} (hP : PI σ P) : Sp Γ 1 mX8_noCard [rf Γ 0] σ (aP (bI (decide (pD P = 0))) σ) := by
  have hD := hP.1.2
  refine sp_in (L := [some (rf Γ 0)]) rfl (Nat.le_of_ble_eq_true rfl) rfl ?_
  refine go_aload_n dX8_noCard_0 rfl rfl ?_
  refine go_getR flX8_19 fs_0_1 dX8_noCard_1 ?_
  refine go_getI flX8_102 fs_3_2 dX8_noCard_4 ?_
  rw [hP.1.1]
  refine go_if_ne (tgt := 14) dX8_noCard_7 (by decide) (fun c7 => ?_) (fun c7 => ?_)
  · refine go_iconst (v := nI 0) dX8_noCard_14 rfl ?_
    refine go_zret rfl dX8_noCard_15 (by first | exact Or.inl rfl | exact Or.inr rfl | exact bI_01 _) ?_
    rw [nI_z (by omega)] at c7
    exact ⟨by rw [decide_eq_false c7]; rfl, rfl⟩
  · refine go_iconst (v := nI 1) dX8_noCard_10 rfl ?_
    refine go_goto (tgt := 15) dX8_noCard_11 (by decide) ?_
    refine go_zret rfl dX8_noCard_15 (by first | exact Or.inl rfl | exact Or.inr rfl | exact bI_01 _) ?_
    rw [nI_z (by omega)] at c7
    exact ⟨by rw [decide_eq_true c7]; rfl, rfl⟩
set_option maxHeartbeats 1000000 in
theorem sp_noDish {Γ : Gm} {σ : Mm} {P : Pb} {x : Int32} (hP : PI σ P) : Sp Γ 1 mX8_noDish [rf Γ 0, .int x] σ (aP (bI (ix (pD P) x).isNone) σ) := by
  refine sp_in (L := [some (rf Γ 0), some (.int x)]) rfl (Nat.le_of_ble_eq_true rfl) rfl ?_
  refine go_iload_n dX8_noDish_0 rfl rfl ?_
  refine go_if_lt (tgt := 15) dX8_noDish_1 (by decide) (fun c1 => ?_) (fun c1 => ?_)
  · refine go_iconst (v := nI 1) dX8_noDish_15 rfl ?_
    refine go_goto (tgt := 20) dX8_noDish_16 (by decide) ?_
    refine go_zret rfl dX8_noDish_20 (by first | exact Or.inl rfl | exact Or.inr rfl | exact bI_01 _) ?_
    exact ⟨by rw [ix_out (Or.inl c1)]; rfl, rfl⟩
  · refine go_iload_n dX8_noDish_4 rfl rfl ?_
    refine go_aload_n dX8_noDish_5 rfl rfl ?_
    refine go_getR flX8_19 fs_0_1 dX8_noDish_6 ?_
    refine go_getI flX8_102 fs_3_2 dX8_noDish_9 ?_
    rw [hP.1.1]
    refine go_icmp_lt (tgt := 19) dX8_noDish_12 (by decide) (fun c12 => ?_) (fun c12 => ?_)
    · refine go_iconst (v := nI 0) dX8_noDish_19 rfl ?_
      refine go_zret rfl dX8_noDish_20 (by first | exact Or.inl rfl | exact Or.inr rfl | exact bI_01 _) ?_
      exact ⟨by rw [show ix (pD P) x = some x.toNatClampNeg by unfold ix; rw [if_pos ⟨Int32.not_lt.mp c1, c12⟩]]; rfl, rfl⟩
    · refine go_iconst (v := nI 1) dX8_noDish_15 rfl ?_
      refine go_goto (tgt := 20) dX8_noDish_16 (by decide) ?_
      refine go_zret rfl dX8_noDish_20 (by first | exact Or.inl rfl | exact Or.inr rfl | exact bI_01 _) ?_
      exact ⟨by rw [ix_out (Or.inr (Int32.not_lt.mp c12))]; rfl, rfl⟩
set_option maxHeartbeats 1000000 in
theorem sp_noGuest {Γ : Gm} {σ : Mm} {P : Pb} {x : Int32} (hP : PI σ P) : Sp Γ 1 mX8_noGuest [rf Γ 0, .int x] σ (aP (bI (ix (pG P) x).isNone) σ) := by
  refine sp_in (L := [some (rf Γ 0), some (.int x)]) rfl (Nat.le_of_ble_eq_true rfl) rfl ?_
  refine go_iload_n dX8_noGuest_0 rfl rfl ?_
  refine go_if_lt (tgt := 15) dX8_noGuest_1 (by decide) (fun c1 => ?_) (fun c1 => ?_)
  · refine go_iconst (v := nI 1) dX8_noGuest_15 rfl ?_
    refine go_goto (tgt := 20) dX8_noGuest_16 (by decide) ?_
    refine go_zret rfl dX8_noGuest_20 (by first | exact Or.inl rfl | exact Or.inr rfl | exact bI_01 _) ?_
    exact ⟨by rw [ix_out (Or.inl c1)]; rfl, rfl⟩
  · refine go_iload_n dX8_noGuest_4 rfl rfl ?_
    refine go_aload_n dX8_noGuest_5 rfl rfl ?_
    refine go_getR flX8_26 fs_0_2 dX8_noGuest_6 ?_
    refine go_getI flX8_86 fs_6_1 dX8_noGuest_9 ?_
    rw [hP.2.1.1]
    refine go_icmp_lt (tgt := 19) dX8_noGuest_12 (by decide) (fun c12 => ?_) (fun c12 => ?_)
    · refine go_iconst (v := nI 0) dX8_noGuest_19 rfl ?_
      refine go_zret rfl dX8_noGuest_20 (by first | exact Or.inl rfl | exact Or.inr rfl | exact bI_01 _) ?_
      exact ⟨by rw [show ix (pG P) x = some x.toNatClampNeg by unfold ix; rw [if_pos ⟨Int32.not_lt.mp c1, c12⟩]]; rfl, rfl⟩
    · refine go_iconst (v := nI 1) dX8_noGuest_15 rfl ?_
      refine go_goto (tgt := 20) dX8_noGuest_16 (by decide) ?_
      refine go_zret rfl dX8_noGuest_20 (by first | exact Or.inl rfl | exact Or.inr rfl | exact bI_01 _) ?_
      exact ⟨by rw [ix_out (Or.inr (Int32.not_lt.mp c12))]; rfl, rfl⟩
theorem FrC.st {σ σ' : Mm} {a k : Nat} {v : Int32} (h : FrC σ σ') (ha : a < 58) : FrC σ (stI σ' a k v) := ⟨fun x q => (funext fun y => stI_ne (Or.inl (by omega))).trans (h.1 x q), h.2⟩
theorem RC.k5 {σ : Mm} {X : Xs} {N : Nat} (hI : XI N X) : pG (xK X).2.1 ≤ 5 ∨ ¬ ((xK X).1 = xC X ∧ 0 < xC X) := by
  by_cases q : (xK X).1 = xC X ∧ 0 < xC X
  · exact Or.inl (hI.2.2.2.2.2.2 q.1 q.2).2.2.2.1
  · exact Or.inr q
theorem RC.page {σ σ' : Mm} {X : Xs} {N n : Nat} {pg : Nat → Int32} (hI : XI N X) (h : RC σ X) (ho : ∀ a, a ≠ 1 → a ≠ 2 → σ'.1 a = σ.1 a) (hp : σ'.1 1 1 = nI n ∧ ∀ k, k < n → σ'.1 2 k = pg k) : RC σ' (xP X, pg, n, X.2.2.2) := by
  obtain ⟨-, ⟨b1, b2, b3⟩, c, d, ⟨e1, e2⟩, f⟩ := h
  exact ⟨hp, ⟨b1.eq (fun a h1 h2 => ho a (by omega) (by omega)), by rw [ho 3 (by omega) (by omega)]; exact b2, fun g hg => by rw [ho _ (by omega) (by omega)]; exact b3 g hg⟩, c.eq (fun a h1 h2 => ho a (by omega) (by omega)), d.eq (fun a h1 h2 => ho a (by omega) (by omega)), ⟨by rw [ho 0 (by omega) (by omega)]; exact e1, by rw [ho 0 (by omega) (by omega)]; exact e2⟩, RK.eq (K := xK X) (c := xC X) (RC.k5 (σ := σ) (X := X) hI) f (fun a h1 h2 => ho a (by omega) (by omega))⟩
set_option maxHeartbeats 1000000 in
theorem sc_letter {Γ : Gm} {σ : Mm} {X : Xs} {N : Nat} {a : Int32} (hI : XI N X) (h : RC σ X) : Sp Γ 2 mX8_letter [rf Γ 0, .int a] σ (aI (aLetter X a) (fun σ' => RC σ' (tLetter X a) ∧ FrC σ σ')) := by
  refine sp_in (L := [some (rf Γ 0), some (.int a)]) rfl (Nat.le_of_ble_eq_true rfl) rfl ?_
  have hs := h.1.1
  have hn := hI.1
  refine go_iload_n dX8_letter_0 rfl rfl ?_
  refine go_iconst (v := nI 1) dX8_letter_1 rfl ?_
  refine go_bipush (v := nI 126) dX8_letter_2 rfl ?_
  refine go_callSp csX8_62 sp_isOutside (by omega) rfl rfl (Nat.le_of_ble_eq_true rfl) dX8_letter_4 ?_
  refine go_if_eq (tgt := 13) dX8_letter_7 (by decide) (fun c7 => ?_) (fun c7 => ?_)
  · have c7 : inR (nI 1) (nI 126) a = true := by have := bI_eq0.mp c7; simpa using this
    refine go_aload_n dX8_letter_13 rfl rfl ?_
    refine go_getR flX8_10 fs_0_0 dX8_letter_14 ?_
    refine go_getI flX8_66 fs_1_1 dX8_letter_17 ?_
    rw [hs]
    refine go_bipush (v := nI 22) dX8_letter_20 rfl ?_
    refine go_icmp_lt (tgt := 28) dX8_letter_22 (by decide) (fun c22 => ?_) (fun c22 => ?_)
    · rw [nI_ltI (by omega) (by omega)] at c22
      refine go_aload_n dX8_letter_28 rfl rfl ?_
      refine go_getR flX8_10 fs_0_0 dX8_letter_29 ?_
      refine go_getR flX8_70 fs_1_0 dX8_letter_32 ?_
      refine go_aload_n dX8_letter_35 rfl rfl ?_
      refine go_getR flX8_10 fs_0_0 dX8_letter_36 ?_
      refine go_getI flX8_66 fs_1_1 dX8_letter_39 ?_
      rw [hs]
      refine go_iload_n dX8_letter_42 rfl rfl ?_
      refine go_iast (xPn X) rfl as_2 (by omega) (by decide) dX8_letter_43 ?_
      refine go_aload_n dX8_letter_44 rfl rfl ?_
      refine go_getR flX8_10 fs_0_0 dX8_letter_45 ?_
      refine go_dup dX8_letter_48 rfl ?_
      refine go_getI flX8_66 fs_1_1 dX8_letter_49 ?_
      rw [stI_ne (by omega), hs]
      refine go_iconst (v := nI 1) dX8_letter_52 rfl ?_
      refine go_iadd dX8_letter_53 ?_
      rw [nI_add]
      refine go_putI fwX8_66 fs_1_1 dX8_letter_54 ?_
      refine go_aload_n dX8_letter_57 rfl rfl ?_
      refine go_getR flX8_10 fs_0_0 dX8_letter_58 ?_
      refine go_getI flX8_66 fs_1_1 dX8_letter_61 ?_
      rw [stI_at]
      refine go_iret rfl dX8_letter_64 ?_
      refine ⟨by unfold aLetter; rw [if_pos c7, if_pos c22], ?_, (FrC.rf.st (by omega)).st (by omega)⟩
      unfold tLetter
      rw [if_pos ⟨c7, c22⟩]
      refine h.page hI (fun b h1 h2 => funext fun y => (stI_ne (Or.inl h1)).trans (stI_ne (Or.inl h2))) ⟨stI_at, fun k hk => ?_⟩
      rw [stI_ne (by omega)]
      by_cases q : k = xPn X
      · subst q; rw [stI_at]; simp [upd]
      · rw [stI_ne (by omega)]; simp only [upd, if_neg q]; exact h.1.2 k (by omega)
    · rw [nI_ltI (by omega) (by omega)] at c22
      refine go_bipush (v := (-104)) dX8_letter_25 rfl ?_
      refine go_iret rfl dX8_letter_27 ?_
      exact ⟨by unfold aLetter; rw [if_pos c7, if_neg c22], by unfold tLetter; rw [if_neg (fun z => c22 z.2)]; exact ⟨h, FrC.rf⟩⟩
  · have c7 : inR (nI 1) (nI 126) a = false := by have := bI_ne0.mp c7; simpa using this
    refine go_bipush (v := (-102)) dX8_letter_10 rfl ?_
    refine go_iret rfl dX8_letter_12 ?_
    exact ⟨by unfold aLetter; rw [c7]; rfl, by unfold tLetter; rw [if_neg (fun z => by rw [c7] at z; cases z.1)]; exact ⟨h, FrC.rf⟩⟩
set_option maxHeartbeats 1000000 in
theorem sc_blank {Γ : Gm} {σ : Mm} {X : Xs} {N : Nat} (hI : XI N X) (h : RC σ X) : Sp Γ 1 mX8_blank [rf Γ 0] σ (aI (aBlank X) (fun σ' => RC σ' (tBlank X) ∧ FrC σ σ')) := by
  refine sp_in (L := [some (rf Γ 0), none]) rfl (Nat.le_of_ble_eq_true rfl) rfl ?_
  refine go_aload_n dX8_blank_0 rfl rfl ?_
  refine go_getR flX8_10 fs_0_0 dX8_blank_1 ?_
  refine go_getI flX8_66 fs_1_1 dX8_blank_4 ?_
  rw [h.1.1]
  refine go_istore_n (L' := [_, _]) dX8_blank_7 rfl (by decide) rfl rfl ?_
  refine go_aload_n dX8_blank_8 rfl rfl ?_
  refine go_getR flX8_10 fs_0_0 dX8_blank_9 ?_
  refine go_iconst (v := nI 0) dX8_blank_12 rfl ?_
  refine go_putI fwX8_66 fs_1_1 dX8_blank_13 ?_
  refine go_iload_n dX8_blank_16 rfl rfl ?_
  refine go_iret rfl dX8_blank_17 ?_
  exact ⟨rfl, h.page hI (fun b h1 h2 => funext fun y => stI_ne (Or.inl h1)) ⟨stI_at, fun k hk => absurd hk (Nat.not_lt_zero k)⟩, FrC.rf.st (by omega)⟩
set_option maxHeartbeats 1000000 in
theorem sc_fault {Γ : Gm} {σ : Mm} {X : Xs} {N : Nat} (hI : XI N X) (h : RC σ X) : Sp Γ 3 mX8_fault [rf Γ 0] σ (aI (aFault X) (fun σ' => RC σ' X ∧ FrC σ σ')) := by
  refine sp_in (L := [some (rf Γ 0)]) rfl (Nat.le_of_ble_eq_true rfl) rfl ?_
  refine go_aload_n dX8_fault_0 rfl rfl ?_
  refine go_getR flX8_10 fs_0_0 dX8_fault_1 ?_
  refine go_callVp cvX8_74 os_1 (sp_firstFault hI.1 h.1.1) (by omega) rfl rfl (Nat.le_of_ble_eq_true rfl) dX8_fault_4 ?_
  refine go_iret rfl dX8_fault_7 ?_
  exact ⟨by unfold aFault; rw [ffM_congr h.1.2], h, FrC.rf⟩
/-- what a good page is -/
theorem good_semi {pg : Nat → Int32} {n : Nat} (hn : n ≤ 22) (hg : ∀ j, j < n → gdB pg j = true) : ∀ k, k < n → pg k = nI 59 → k % 3 = 2 ∧ n ≤ k + 2 := by
  have dig : ∀ lo c, dg lo c = true → c ≠ nI 59 := by
    intro lo c h e
    subst e
    unfold dg at h
    simp only [Bool.and_eq_true, decide_eq_true_eq] at h
    exact absurd h.2 (by decide)
  intro k hk e
  have h := hg k hk
  unfold gdB at h
  split at h
  · exact absurd e (dig _ _ h)
  · rename_i n1
    split at h
    · cases h
    · rename_i n2
      split at h
      · exact absurd e (dig _ _ h)
      · refine ⟨by omega, ?_⟩
        by_cases q : n ≤ k + 2
        · exact q
        · have h2 := hg (k + 2) (by omega)
          unfold gdB at h2
          by_cases z : pg (k + 1) = nI 59
          · have h3 := hg (k + 1) (by omega)
            unfold gdB at h3
            rw [if_pos ⟨by omega, by rw [show k + 1 - 1 = k by omega]; exact e⟩] at h3
            exact absurd z (dig _ _ h3)
          · rw [if_neg (fun y => z (by have := y.2; rw [show k + 2 - 1 = k + 1 by omega] at this; exact this)), if_pos ⟨by omega, by rw [show k + 2 - 2 = k by omega]; exact e⟩] at h2
            cases h2
theorem good_18 {pg : Nat → Int32} {n : Nat} (hn : n ≤ 22) (hg : ∀ j, j < n → gdB pg j = true) (hns : ∀ j, j + 2 < n → pg j ≠ nI 59) (h : 20 ≤ n) : False := by
  have h1 := hg 17 (by omega)
  unfold gdB at h1
  rw [if_neg (fun z => hns 16 (by omega) z.2), if_neg (fun z => hns 15 (by omega) z.2), if_neg (by omega)] at h1
  by_cases q : pg 17 = nI 44
  · rw [if_pos q] at h1; simp at h1
  · rw [if_neg q] at h1
    simp only [Bool.and_eq_true, decide_eq_true_eq] at h1
    exact hns 17 (by omega) h1.1
/-- a card's page -/
theorem card_page {pg : Nat → Int32} {n : Nat} (hn : n ≤ 22) (h : crdB pg n = true) : ∃ D, n = 3 * D + 1 ∧ 2 ≤ D ∧ D ≤ 6 ∧ (∀ d, d < D → dg 49 (pg (3 * d)) = true ∧ dg 49 (pg (3 * d + 1)) = true) ∧ dg 48 (pg (3 * D)) = true := by
  unfold crdB at h
  simp only [Bool.and_eq_true, decide_eq_true_eq] at h
  obtain ⟨h1, h2, h3⟩ := h
  have hg : ∀ j, j < n → gdB pg j = true := fun j hj => ffF_all n 0 (by unfold ffM at h3; omega) j (Nat.zero_le _) (by omega)
  have hs := good_semi hn hg
  have hns : ∀ j, j + 2 < n → pg j ≠ nI 59 := fun j hj e => by have := (hs j (by omega) e).2; omega
  have hm := (hs (n - 2) (by omega) h2).1
  have h19 : n < 20 := by
    by_cases q : n < 20
    · exact q
    · exact (good_18 hn hg hns (by omega)).elim
  refine ⟨(n - 1) / 3, by omega, ?_, by omega, fun d hd => ?_, ?_⟩
  · have h4 := hg (n - 2) (by omega)
    unfold gdB at h4
    rw [if_neg (fun z => hns (n - 2 - 1) (by omega) z.2), if_neg (fun z => hns (n - 2 - 2) (by omega) z.2), if_neg (by omega), if_neg (by rw [h2]; decide)] at h4
    simp only [Bool.and_eq_true, decide_eq_true_eq] at h4
    omega
  · have low : ∀ k, k + 2 < n → k % 3 < 2 → dg 49 (pg k) = true := by
      intro k hk hk3
      have h5 := hg k (by omega)
      unfold gdB at h5
      rw [if_neg (fun z => hns (k - 1) (by omega) z.2), if_neg (fun z => hns (k - 2) (by omega) z.2), if_pos hk3] at h5
      exact h5
    exact ⟨low _ (by omega) (by omega), low _ (by omega) (by omega)⟩
  · have h5 := hg (n - 1) (by omega)
    unfold gdB at h5
    rw [if_pos ⟨by omega, by rw [show n - 1 - 1 = n - 2 by omega]; exact h2⟩] at h5
    rw [show 3 * ((n - 1) / 3) = n - 1 by omega]
    exact h5
theorem dg_num {lo : Nat} {c : Int32} (hlo : 48 ≤ lo) (h57 : lo ≤ 57) (h : dg lo c = true) : ∃ k, c - nI 48 = nI k ∧ lo - 48 ≤ k ∧ k ≤ 9 := by
  unfold dg at h
  simp only [Bool.and_eq_true, decide_eq_true_eq] at h
  have h0 : ¬ c < 0 := fun z => by
    have h1 := Int32.lt_of_le_of_lt h.1 z
    exact nI_pos (by omega) h1
  obtain ⟨j, hj, e⟩ := nI_of h0
  subst e
  rw [nI_leI (by omega) hj, nI_leI hj (by omega)] at h
  exact ⟨j - 48, pk_sub (by omega), by omega, by omega⟩
set_option maxHeartbeats 1000000 in
theorem sc_card {Γ : Gm} {σ : Mm} {X : Xs} {N : Nat} (hI : XI N X) (h : RC σ X) : Sp Γ 4 mX8_card [rf Γ 0] σ (aI (aCard X) (fun σ' => RC σ' (tCard X) ∧ FrC σ σ')) := by
  refine sp_in (L := [some (rf Γ 0)]) rfl (Nat.le_of_ble_eq_true rfl) rfl ?_
  have hce : crdB (σ.1 2) (xPn X) = crdB (xPg X) (xPn X) := crdB_congr h.1.2
  by_cases hc : crdB (xPg X) (xPn X) = true
  · obtain ⟨D, hn, hD2, hD6, -, -⟩ := card_page hI.1 hc
    have hpn : σ.1 1 1 = nI (3 * D + 1) := by rw [h.1.1, hn]
    have hD3 : (xPn X - 1) / 3 = D := by omega
    refine go_aload_n dX8_card_0 rfl rfl ?_
    refine go_getR flX8_10 fs_0_0 dX8_card_1 ?_
    refine go_callVp cvX8_78 os_1 (sp_isCard hI.1 h.1.1) (by omega) rfl rfl (Nat.le_of_ble_eq_true rfl) dX8_card_4 ?_
    rw [hce]
    refine go_if_ne (tgt := 13) dX8_card_7 (by decide) (fun c7 => ?_) (fun c7 => ?_)
    · refine go_aload_n dX8_card_13 rfl rfl ?_
      refine go_getR flX8_19 fs_0_1 dX8_card_14 ?_
      refine go_aload_n dX8_card_17 rfl rfl ?_
      refine go_getR flX8_10 fs_0_0 dX8_card_18 ?_
      refine go_callVv cvX8_82 os_3 (sp_read hD6 hpn) (by omega) rfl rfl (Nat.le_of_ble_eq_true rfl) dX8_card_21 (fun σ1 q1 => ?_)
      obtain ⟨r1, r2, r3, r4, r5⟩ := q1
      refine go_aload_n dX8_card_24 rfl rfl ?_
      refine go_getR flX8_10 fs_0_0 dX8_card_25 ?_
      refine go_iconst (v := nI 0) dX8_card_28 rfl ?_
      refine go_putI fwX8_66 fs_1_1 dX8_card_29 ?_
      refine go_aload_n dX8_card_32 rfl rfl ?_
      refine go_getR flX8_26 fs_0_2 dX8_card_33 ?_
      refine go_iconst (v := nI 0) dX8_card_36 rfl ?_
      refine go_putI fwX8_86 fs_6_1 dX8_card_37 ?_
      refine go_aload_n dX8_card_40 rfl rfl ?_
      refine go_getR flX8_42 fs_0_4 dX8_card_41 ?_
      refine go_iconst (v := nI 0) dX8_card_44 rfl ?_
      refine go_putI fwX8_87 fs_23_3 dX8_card_45 ?_
      refine go_aload_n dX8_card_48 rfl rfl ?_
      refine go_getR flX8_35 fs_0_3 dX8_card_49 ?_
      refine go_aload_n dX8_card_52 rfl rfl ?_
      refine go_getR flX8_19 fs_0_1 dX8_card_53 ?_
      refine go_getI flX8_88 fs_3_3 dX8_card_56 ?_
      refine go_putI fwX8_91 fs_18_8 dX8_card_59 ?_
      refine go_aload_n dX8_card_62 rfl rfl ?_
      refine go_getR flX8_35 fs_0_3 dX8_card_63 ?_
      refine go_iconst (v := (-1)) dX8_card_66 rfl ?_
      refine go_iconst (v := nI 0) dX8_card_67 rfl ?_
      refine go_callVv cvX8_92 os_18 (sp_press isT18) (by omega) rfl rfl (Nat.le_of_ble_eq_true rfl) dX8_card_68 (fun σ2 q2 => ?_)
      refine go_aload_n dX8_card_71 rfl rfl ?_
      refine go_getR flX8_35 fs_0_3 dX8_card_72 ?_
      refine go_callVv cvX8_96 os_18 (sp_wipe isT18) (by omega) rfl rfl (Nat.le_of_ble_eq_true rfl) dX8_card_75 (fun σ3 q3 => ?_)
      obtain ⟨w1, w2, w3, w4⟩ := q3
      refine go_aload_n dX8_card_78 rfl rfl ?_
      refine go_dup dX8_card_79 rfl ?_
      refine go_getI flX8_99 fs_0_7 dX8_card_80 ?_
      refine go_iconst (v := nI 1) dX8_card_83 rfl ?_
      refine go_iadd dX8_card_84 ?_
      refine go_putI fwX8_99 fs_0_7 dX8_card_85 ?_
      refine go_aload_n dX8_card_88 rfl rfl ?_
      refine go_getR flX8_19 fs_0_1 dX8_card_89 ?_
      refine go_getI flX8_102 fs_3_2 dX8_card_92 ?_
      refine go_iret rfl dX8_card_95 ?_
      have e2 : ∀ a, a ≠ 1 → a ≠ 6 → a ≠ 23 → a ≠ 18 → σ2.1 a = σ1.1 a := fun a h1 h2 h3 h4 => by rw [q2]; exact funext fun y => by rw [stI_ne (Or.inl h4), stI_ne (Or.inl h4), stI_ne (Or.inl h4), stI_ne (Or.inl h3), stI_ne (Or.inl h2), stI_ne (Or.inl h1)]
      have e3 : ∀ a, a < 18 ∨ 22 < a → σ3.1 a = σ2.1 a := fun a h1 => w4.1 a (by omega)
      have e0 : σ3.1 0 = σ.1 0 := by rw [e3 0 (by omega), e2 0 (by omega) (by omega) (by omega) (by omega), r4 0 (by omega) (by omega) (by omega)]
      have pgs : ∀ k, k < xPn X → σ.1 2 k = xPg X k := h.1.2
      have e4 : ∀ a, a = 3 ∨ a = 4 ∨ a = 5 → σ3.1 a = σ1.1 a := fun a h1 => by rw [e3 a (by omega), e2 a (by omega) (by omega) (by omega) (by omega)]
      have e5 : ∀ a, 24 ≤ a → σ3.1 a = σ.1 a := fun a h1 => by rw [e3 a (by omega), e2 a (by omega) (by omega) (by omega) (by omega), r4 a (by omega) (by omega) (by omega)]
      refine ⟨?_, ?_, ?_⟩
      · unfold aCard
        rw [if_pos hc, hD3, stI_ne (by omega), e4 3 (by omega), r1]
      · unfold tCard
        rw [if_pos hc, hD3]
        have hlo : σ3.1 3 3 = xPg X (3 * D) - nI 48 := by rw [e4 3 (by omega), r3, pgs _ (by omega)]
        refine ⟨⟨?_, fun k hk => absurd hk (Nat.not_lt_zero k)⟩, ⟨⟨⟨?_, hD6⟩, ⟨?_, Nat.zero_le _⟩, fun d hd => ?_, fun g hg => absurd hg (Nat.not_lt_zero g)⟩, ?_, fun g hg => absurd hg (Nat.not_lt_zero g)⟩, ⟨⟨?_, ?_, ?_⟩, fun d hd => ?_, fun g hg _ => ?_⟩, ⟨?_, Nat.zero_le _, fun e he => absurd he (Nat.not_lt_zero e)⟩, ⟨?_, ?_⟩, ?_⟩
        · rw [stI_ne (by omega), e3 1 (by omega), q2]; simp (disch := omega) only [stI_at, stI_ne]
        · rw [stI_ne (by omega), e4 3 (by omega)]; exact r1
        · rw [stI_ne (by omega), e3 6 (by omega), q2]; simp (disch := omega) only [stI_at, stI_ne]; rfl
        · have hd' : d < D := hd
          rw [stI_ne (by omega), stI_ne (by omega), e4 4 (by omega), e4 5 (by omega), (r2 d hd).1, (r2 d hd).2, pgs _ (by omega), pgs _ (by omega)]
          exact ⟨rfl, rfl⟩
        · rw [stI_ne (by omega)]; exact hlo
        · rw [stI_ne (by omega), w3 6, q2]; simp (disch := omega) only [stI_at, stI_ne]; rfl
        · rw [stI_ne (by omega), w3 7, q2, stI_at]; rfl
        · rw [stI_ne (by omega), w3 8, q2]; simp (disch := omega) only [stI_at, stI_ne]; rw [r3, pgs _ (by omega)]; rfl
        · have hd' : d < D := hd
          rw [stI_ne (by omega), stI_ne (by omega), (w1 d (by omega)).1, (w1 d (by omega)).2, e2 4 (by omega) (by omega) (by omega) (by omega), (r2 d hd).1, pgs _ (by omega)]
          exact ⟨(show _ = _ - nI (cnt _ _ 0) by rw [show cnt (fun _ => -2) (nI d) 0 = 0 from rfl, show nI 0 = 0 from rfl, Int32.sub_zero]; rfl), rfl⟩
        · rw [stI_ne (by omega), stI_ne (by omega), (w2 g hg).1, (w2 g hg).2]; exact ⟨by show (-1 : Int32) = hC (-2); decide, by show (0 : Int32) = hO (-2); decide⟩
        · rw [stI_ne (by omega), e3 23 (by omega), q2]; simp (disch := omega) only [stI_at, stI_ne]
        · rw [stI_at, e0, h.2.2.2.2.1.1, nI_add]
        · rw [stI_ne (by omega), e0]; exact h.2.2.2.2.1.2
        · refine ⟨by rw [stI_ne (by omega), e5 41 (by omega)]; exact h.2.2.2.2.2.1, fun q1 _ => ?_⟩
          have := hI.2.2.2.2.2.1
          exact absurd q1 (by show ¬ (xK X).1 = xC X + 1; omega)
      · refine FrC.st ⟨fun a ha => e5 a (by omega), fun a ha => ?_⟩ (by omega)
        rw [w4.2, q2]
        show σ1.2 a = σ.2 a
        rw [r5]
    · exact absurd hc (by rw [bI_eq0.mp c7]; simp)
  · refine go_aload_n dX8_card_0 rfl rfl ?_
    refine go_getR flX8_10 fs_0_0 dX8_card_1 ?_
    refine go_callVp cvX8_78 os_1 (sp_isCard hI.1 h.1.1) (by omega) rfl rfl (Nat.le_of_ble_eq_true rfl) dX8_card_4 ?_
    rw [hce]
    refine go_if_ne (tgt := 13) dX8_card_7 (by decide) (fun c7 => ?_) (fun c7 => ?_)
    · exact absurd (bI_ne0.mp c7) hc
    · refine go_bipush (v := (-103)) dX8_card_10 rfl ?_
      refine go_iret rfl dX8_card_12 ?_
      exact ⟨by unfold aCard; rw [if_neg hc], by unfold tCard; rw [if_neg hc]; exact ⟨h, FrC.rf⟩⟩
