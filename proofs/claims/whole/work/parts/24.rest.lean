/-! the menu read, a guest sits down, evenings and images kept -/
theorem isG23 : isG 23 := Or.inl rfl
theorem isG54 : isG 54 := Or.inr rfl
def Rd (D : Nat) (σ σ' : Mm) : Prop := σ'.1 3 2 = nI D ∧ (∀ d, d < D → σ'.1 4 d = σ.1 2 (3 * d) - nI 48 ∧ σ'.1 5 d = σ.1 2 (3 * d + 1) - nI 48) ∧ σ'.1 3 3 = σ.1 2 (3 * D) - nI 48 ∧ (∀ a, a ≠ 3 → a ≠ 4 → a ≠ 5 → σ'.1 a = σ.1 a) ∧ σ'.2 = σ.2
set_option maxHeartbeats 1000000 in
theorem lp_read {Γ : Gm} {σ : Mm} {D : Nat} (hD : D ≤ 6) : ∀ (m d : Nat) (σ' : Mm), D - d = m → d ≤ D → σ'.1 3 2 = nI D → (∀ k, k < d → σ'.1 4 k = σ.1 2 (3 * k) - nI 48 ∧ σ'.1 5 k = σ.1 2 (3 * k + 1) - nI 48) → (∀ a, a ≠ 3 → a ≠ 4 → a ≠ 5 → σ'.1 a = σ.1 a) → σ'.2 = σ.2 → Go Γ 2 mX4_read (aV (Rd D σ)) 17 [some (rf Γ 3), some (rf Γ 1), some (.int (nI d))] [] σ' := by
  intro m
  induction m with
  | zero =>
    intro d σ' hm hd h1 h2 h3 h4
    have e : d = D := by omega
    subst e
    refine go_iload_n dX4_read_17 rfl rfl ?_
    refine go_aload_n dX4_read_18 rfl rfl ?_
    refine go_getI flX4_30 fs_3_2 dX4_read_19 ?_
    rw [h1]
    refine go_icmp_ge (tgt := 67) dX4_read_22 (by decide) (fun c22 => ?_) (fun c22 => ?_)
    · refine go_aload_n dX4_read_67 rfl rfl ?_
      refine go_aload_n dX4_read_68 rfl rfl ?_
      refine go_getR flX4_33 fs_1_0 dX4_read_69 ?_
      refine go_iconst (v := nI 3) dX4_read_72 rfl ?_
      refine go_aload_n dX4_read_73 rfl rfl ?_
      refine go_getI flX4_30 fs_3_2 dX4_read_74 ?_
      rw [h1]
      refine go_imul dX4_read_77 ?_
      refine go_iald (3 * d) (by simp only [pk_mul, nI_add]) as_2 (by omega) (by decide) dX4_read_78 ?_
      refine go_bipush (v := nI 48) dX4_read_79 rfl ?_
      refine go_isub dX4_read_81 ?_
      refine go_putI fwX4_36 fs_3_3 dX4_read_82 ?_
      refine go_vret rfl dX4_read_85 ?_
      refine ⟨rfl, ?_, fun k hk => ?_, ?_, fun a q1 q2 q3 => ?_, h4⟩
      · rw [stI_ne (by omega)]; exact h1
      · rw [stI_ne (by omega), stI_ne (by omega)]; exact h2 k hk
      · rw [stI_at, h3 2 (by omega) (by omega) (by omega)]
      · exact (funext fun y => stI_ne (Or.inl q1)).trans (h3 a q1 q2 q3)
    · exact absurd (Int32.le_refl _) c22
  | succ m ih =>
    intro d σ' hm hd h1 h2 h3 h4
    have hd1 : d < 6 := by omega
    refine go_iload_n dX4_read_17 rfl rfl ?_
    refine go_aload_n dX4_read_18 rfl rfl ?_
    refine go_getI flX4_30 fs_3_2 dX4_read_19 ?_
    rw [h1]
    refine go_icmp_ge (tgt := 67) dX4_read_22 (by decide) (fun c22 => ?_) (fun c22 => ?_)
    · exact absurd c22 (nI_ge (by omega) (by omega))
    · refine go_aload_n dX4_read_25 rfl rfl ?_
      refine go_getR flX4_9 fs_3_0 dX4_read_26 ?_
      refine go_iload_n dX4_read_29 rfl rfl ?_
      refine go_aload_n dX4_read_30 rfl rfl ?_
      refine go_getR flX4_33 fs_1_0 dX4_read_31 ?_
      refine go_iconst (v := nI 3) dX4_read_34 rfl ?_
      refine go_iload_n dX4_read_35 rfl rfl ?_
      refine go_imul dX4_read_36 ?_
      refine go_iald (3 * d) (by simp only [pk_mul, nI_add]) as_2 (by omega) (by decide) dX4_read_37 ?_
      refine go_bipush (v := nI 48) dX4_read_38 rfl ?_
      refine go_isub dX4_read_40 ?_
      refine go_iast (d) rfl as_4 (by omega) (by decide) dX4_read_41 ?_
      refine go_aload_n dX4_read_42 rfl rfl ?_
      refine go_getR flX4_15 fs_3_1 dX4_read_43 ?_
      refine go_iload_n dX4_read_46 rfl rfl ?_
      refine go_aload_n dX4_read_47 rfl rfl ?_
      refine go_getR flX4_33 fs_1_0 dX4_read_48 ?_
      refine go_iconst (v := nI 3) dX4_read_51 rfl ?_
      refine go_iload_n dX4_read_52 rfl rfl ?_
      refine go_imul dX4_read_53 ?_
      refine go_iconst (v := nI 1) dX4_read_54 rfl ?_
      refine go_iadd dX4_read_55 ?_
      refine go_iald ((3 * d) + 1) (by simp only [pk_mul, nI_add]) as_2 (by omega) (by decide) dX4_read_56 ?_
      refine go_bipush (v := nI 48) dX4_read_57 rfl ?_
      refine go_isub dX4_read_59 ?_
      refine go_iast (d) rfl as_5 (by omega) (by decide) dX4_read_60 ?_
      refine go_iinc (v := nI (d + 1)) (L' := [_, _, _]) dX4_read_61 rfl (nI_1 _) (by decide) rfl rfl ?_
      refine go_goto (tgt := 17) dX4_read_64 (by decide) ?_
      refine ih (d + 1) _ (by omega) (by omega) ?_ (fun k hk => ?_) (fun a q1 q2 q3 => ?_) h4
      · rw [stI_ne (by omega), stI_ne (by omega)]; exact h1
      · by_cases q : k = d
        · subst q
          simp (disch := omega) only [stI_at, stI_ne]
          rw [h3 2 (by omega) (by omega) (by omega)]
          exact ⟨rfl, rfl⟩
        · rw [stI_ne (by omega), stI_ne (by omega), stI_ne (by omega), stI_ne (by omega)]; exact h2 k (by omega)
      · exact (funext fun y => (stI_ne (Or.inl q3)).trans (stI_ne (Or.inl q2))).trans (h3 a q1 q2 q3)
set_option maxHeartbeats 1000000 in
theorem sp_read {Γ : Gm} {σ : Mm} {D : Nat} (hD : D ≤ 6) (hs : σ.1 1 1 = nI (3 * D + 1)) : Sp Γ 2 mX4_read [rf Γ 3, rf Γ 1] σ (aV (Rd D σ)) := by
  refine sp_in (L := [some (rf Γ 3), some (rf Γ 1), none]) rfl (Nat.le_of_ble_eq_true rfl) rfl ?_
  have em : mn (nI ((3 * D + 1) / 3)) (nI 6) = nI D := by
    rw [show (3 * D + 1) / 3 = D by omega]
    unfold mn
    rw [if_neg (nI_nlt hD (by omega))]
  refine go_aload_n dX4_read_0 rfl rfl ?_
  refine go_aload_n dX4_read_1 rfl rfl ?_
  refine go_getI flX4_18 fs_1_1 dX4_read_2 ?_
  rw [hs]
  refine go_iconst (v := nI 3) dX4_read_5 rfl ?_
  refine go_idiv dX4_read_6 (by decide) ?_
  rw [div3 (show 3 * D + 1 < 2 ^ 31 by omega)]
  refine go_bipush (v := nI 6) dX4_read_7 rfl ?_
  refine go_min csX4_24 (by omega) (Nat.le_of_ble_eq_true rfl) dX4_read_9 ?_
  refine go_putI fwX4_30 fs_3_2 dX4_read_12 ?_
  refine go_iconst (v := nI 0) dX4_read_15 rfl ?_
  refine go_istore_n (L' := [_, _, _]) dX4_read_16 rfl (by decide) rfl rfl ?_
  refine lp_read hD D 0 _ rfl (Nat.zero_le _) ?_ (fun k hk => absurd hk (Nat.not_lt_zero k)) (fun a q1 _ _ => funext fun y => stI_ne (Or.inl q1)) rfl
  rw [stI_at]; exact em
/-- a guest's two cells are new -/
def Sat (g : Nat) (k : Nat) (x : Int32) (σ σ' : Mm) : Prop := (σ'.1 (8 + 2 * g) 1 = nI k ∧ σ'.1 (8 + 2 * g) 2 = x ∧ σ'.1 (8 + 2 * g) 3 = swK (nI k)) ∧ (∀ d, d < 6 → σ'.1 (9 + 2 * g) d = 0) ∧ (∀ a, a ≠ 8 + 2 * g → a ≠ 9 + 2 * g → σ'.1 a = σ.1 a) ∧ σ'.2 = σ.2
theorem swV_eq : ∀ k, k < 5 → swV k = swK (nI k) := by decide +kernel
set_option maxHeartbeats 1000000 in
theorem lp_sit {Γ : Gm} {σ : Mm} {g k : Nat} {x : Int32} (hg : g < 5) : ∀ (m d : Nat) (σ' : Mm), 6 - d = m → d ≤ 6 → (σ'.1 (8 + 2 * g) 1 = nI k ∧ σ'.1 (8 + 2 * g) 2 = x ∧ σ'.1 (8 + 2 * g) 3 = swK (nI k)) → (∀ j, j < d → σ'.1 (9 + 2 * g) j = 0) → (∀ a, a ≠ 8 + 2 * g → a ≠ 9 + 2 * g → σ'.1 a = σ.1 a) → σ'.2 = σ.2 → Go Γ 1 mX1_sitDown (aV (Sat g k x σ)) 21 [some (rf Γ (8 + 2 * g)), some (.int (nI k)), some (.int x), some (.int (nI d))] [] σ' := by
  intro m
  induction m with
  | zero =>
    intro d σ' hm hd h1 h2 h3 h4
    have e : d = 6 := by omega
    subst e
    refine go_iload_n dX1_sitDown_21 rfl rfl ?_
    refine go_bipush (v := nI 6) dX1_sitDown_22 rfl ?_
    refine go_icmp_ge (tgt := 40) dX1_sitDown_24 (by decide) (fun c24 => ?_) (fun c24 => ?_)
    · refine go_vret rfl dX1_sitDown_40 ?_
      exact ⟨rfl, h1, h2, h3, h4⟩
    · exact absurd (Int32.le_refl _) c24
  | succ m ih =>
    intro d σ' hm hd h1 h2 h3 h4
    have hd1 : d < 6 := by omega
    refine go_iload_n dX1_sitDown_21 rfl rfl ?_
    refine go_bipush (v := nI 6) dX1_sitDown_22 rfl ?_
    refine go_icmp_ge (tgt := 40) dX1_sitDown_24 (by decide) (fun c24 => ?_) (fun c24 => ?_)
    · exact absurd c24 (nI_ge (by omega) (by omega))
    · refine go_aload_n dX1_sitDown_27 rfl rfl ?_
      refine go_getR flX1_9 (fG_0 hg) dX1_sitDown_28 ?_
      refine go_iload_n dX1_sitDown_31 rfl rfl ?_
      refine go_iconst (v := nI 0) dX1_sitDown_32 rfl ?_
      refine go_iast (d) rfl (aW hg) (by omega) (by decide) dX1_sitDown_33 ?_
      refine go_iinc (v := nI (d + 1)) (L' := [_, _, _, _]) dX1_sitDown_34 rfl (nI_1 _) (by decide) rfl rfl ?_
      refine go_goto (tgt := 21) dX1_sitDown_37 (by decide) ?_
      refine ih (d + 1) _ (by omega) (by omega) ?_ (fun j hj => ?_) (fun a q1 q2 => ?_) h4
      · rw [stI_ne (by omega), stI_ne (by omega), stI_ne (by omega)]; exact h1
      · by_cases q : j = d
        · subst q; rw [stI_at]; rfl
        · rw [stI_ne (by omega)]; exact h2 j (by omega)
      · exact (funext fun y => stI_ne (Or.inl q2)).trans (h3 a q1 q2)
set_option maxHeartbeats 1000000 in
theorem sp_sitDown {Γ : Gm} {σ : Mm} {g k : Nat} {x : Int32} (hg : g < 5) (hk : k < 5) : Sp Γ 1 mX1_sitDown [rf Γ (8 + 2 * g), .int (nI k), .int x] σ (aV (Sat g k x σ)) := by
  refine sp_in (L := [some (rf Γ (8 + 2 * g)), some (.int (nI k)), some (.int x), none]) rfl (Nat.le_of_ble_eq_true rfl) rfl ?_
  refine go_aload_n dX1_sitDown_0 rfl rfl ?_
  refine go_iload_n dX1_sitDown_1 rfl rfl ?_
  refine go_putI fwX1_15 (fG_1 hg) dX1_sitDown_2 ?_
  refine go_aload_n dX1_sitDown_5 rfl rfl ?_
  refine go_iload_n dX1_sitDown_6 rfl rfl ?_
  refine go_putI fwX1_19 (fG_2 hg) dX1_sitDown_7 ?_
  refine go_aload_n dX1_sitDown_10 rfl rfl ?_
  refine go_sways dX1_sitDown_11 rfl ?_
  refine go_iload_n dX1_sitDown_14 rfl rfl ?_
  refine go_swld k rfl hk dX1_sitDown_15 ?_
  refine go_putI fwX1_25 (fG_3 hg) dX1_sitDown_16 ?_
  refine go_iconst (v := nI 0) dX1_sitDown_19 rfl ?_
  refine go_istore_n (L' := [_, _, _, _]) dX1_sitDown_20 rfl (by decide) rfl rfl ?_
  refine lp_sit hg 6 0 _ rfl (by omega) ⟨?_, ?_, ?_⟩ (fun j hj => absurd hj (Nat.not_lt_zero j)) (fun a q1 q2 => funext fun y => ?_) rfl
  · simp (disch := omega) only [stI_at, stI_ne]
  · simp (disch := omega) only [stI_at, stI_ne]
  · rw [stI_at]; exact swV_eq k hk
  · rw [stI_ne (Or.inl q1), stI_ne (Or.inl q1), stI_ne (Or.inl q1)]
def isK (of kind : Int32) : Bool := decide (kind = 0) || (decide (kind = of) || (decide (kind = nI 3) && decide (of = nI 4)))
set_option maxHeartbeats 1000000 in
theorem sp_isOfKind {Γ : Gm} {σ : Mm} {g : Nat} {x : Int32} (hg : g < 5) : Sp Γ 1 mX1_isOfKind [rf Γ (8 + 2 * g), .int x] σ (aP (bI (isK (σ.1 (8 + 2 * g) 1) x)) σ) := by
  refine sp_in (L := [some (rf Γ (8 + 2 * g)), some (.int x)]) rfl (Nat.le_of_ble_eq_true rfl) rfl ?_
  have yes : isK (σ.1 (8 + 2 * g) 1) x = true → aP (bI (isK (σ.1 (8 + 2 * g) 1) x)) σ (some (.int (nI 1))) σ := fun q => ⟨by rw [q]; rfl, rfl⟩
  have no : isK (σ.1 (8 + 2 * g) 1) x = false → aP (bI (isK (σ.1 (8 + 2 * g) 1) x)) σ (some (.int (nI 0))) σ := fun q => ⟨by rw [q]; rfl, rfl⟩
  refine go_iload_n dX1_isOfKind_0 rfl rfl ?_
  refine go_if_eq (tgt := 25) dX1_isOfKind_1 (by decide) (fun c1 => ?_) (fun c1 => ?_)
  · refine go_iconst (v := nI 1) dX1_isOfKind_25 rfl ?_
    refine go_goto (tgt := 30) dX1_isOfKind_26 (by decide) ?_
    refine go_zret rfl dX1_isOfKind_30 (by first | exact Or.inl rfl | exact Or.inr rfl | exact bI_01 _) ?_
    exact yes (by unfold isK; simp [c1])
  · refine go_iload_n dX1_isOfKind_4 rfl rfl ?_
    refine go_aload_n dX1_isOfKind_5 rfl rfl ?_
    refine go_getI flX1_15 (fG_1 hg) dX1_isOfKind_6 ?_
    refine go_icmp_eq (tgt := 25) dX1_isOfKind_9 (by decide) (fun c9 => ?_) (fun c9 => ?_)
    · refine go_iconst (v := nI 1) dX1_isOfKind_25 rfl ?_
      refine go_goto (tgt := 30) dX1_isOfKind_26 (by decide) ?_
      refine go_zret rfl dX1_isOfKind_30 (by first | exact Or.inl rfl | exact Or.inr rfl | exact bI_01 _) ?_
      exact yes (by unfold isK; simp [c9])
    · refine go_iload_n dX1_isOfKind_12 rfl rfl ?_
      refine go_iconst (v := nI 3) dX1_isOfKind_13 rfl ?_
      refine go_icmp_ne (tgt := 29) dX1_isOfKind_14 (by decide) (fun c14 => ?_) (fun c14 => ?_)
      · refine go_iconst (v := nI 0) dX1_isOfKind_29 rfl ?_
        refine go_zret rfl dX1_isOfKind_30 (by first | exact Or.inl rfl | exact Or.inr rfl | exact bI_01 _) ?_
        exact no (by unfold isK; simp [c1, c9, c14])
      · refine go_aload_n dX1_isOfKind_17 rfl rfl ?_
        refine go_getI flX1_15 (fG_1 hg) dX1_isOfKind_18 ?_
        refine go_iconst (v := nI 4) dX1_isOfKind_21 rfl ?_
        refine go_icmp_ne (tgt := 29) dX1_isOfKind_22 (by decide) (fun c22 => ?_) (fun c22 => ?_)
        · refine go_iconst (v := nI 0) dX1_isOfKind_29 rfl ?_
          refine go_zret rfl dX1_isOfKind_30 (by first | exact Or.inl rfl | exact Or.inr rfl | exact bI_01 _) ?_
          exact no (by unfold isK; simp [c1, c9, c22])
        · refine go_iconst (v := nI 1) dX1_isOfKind_25 rfl ?_
          refine go_goto (tgt := 30) dX1_isOfKind_26 (by decide) ?_
          refine go_zret rfl dX1_isOfKind_30 (by first | exact Or.inl rfl | exact Or.inr rfl | exact bI_01 _) ?_
          exact yes (by unfold isK; simp [c14, c22])
set_option maxHeartbeats 1000000 in
theorem sp_add {Γ : Gm} {σ : Mm} {e : Nat} {x y z : Int32} (he : e < 4) (hs : σ.1 23 3 = nI e) : Sp Γ 1 mX3_add [rf Γ 23, .int x, .int y, .int z] σ (aV (fun σ' => (σ'.1 24 e = x ∧ σ'.1 25 e = y ∧ σ'.1 26 e = z) ∧ (∀ a k, a = 24 ∨ a = 25 ∨ a = 26 → k ≠ e → σ'.1 a k = σ.1 a k) ∧ σ'.1 23 3 = nI (e + 1) ∧ (∀ a, a < 23 ∨ 26 < a → σ'.1 a = σ.1 a) ∧ σ'.2 = σ.2)) := by
  refine sp_in (L := [some (rf Γ 23), some (.int x), some (.int y), some (.int z)]) rfl (Nat.le_of_ble_eq_true rfl) rfl ?_
  refine go_aload_n dX3_add_0 rfl rfl ?_
  refine go_getR flX3_9 fs_23_0 dX3_add_1 ?_
  refine go_aload_n dX3_add_4 rfl rfl ?_
  refine go_getI flX3_21 fs_23_3 dX3_add_5 ?_
  rw [hs]
  refine go_iload_n dX3_add_8 rfl rfl ?_
  refine go_iast (e) rfl as_24 (by omega) (by decide) dX3_add_9 ?_
  refine go_aload_n dX3_add_10 rfl rfl ?_
  refine go_getR flX3_15 fs_23_1 dX3_add_11 ?_
  refine go_aload_n dX3_add_14 rfl rfl ?_
  refine go_getI flX3_21 fs_23_3 dX3_add_15 ?_
  rw [stI_ne (by omega), hs]
  refine go_iload_n dX3_add_18 rfl rfl ?_
  refine go_iast (e) rfl as_25 (by omega) (by decide) dX3_add_19 ?_
  refine go_aload_n dX3_add_20 rfl rfl ?_
  refine go_getR flX3_18 fs_23_2 dX3_add_21 ?_
  refine go_aload_n dX3_add_24 rfl rfl ?_
  refine go_getI flX3_21 fs_23_3 dX3_add_25 ?_
  rw [stI_ne (by omega), stI_ne (by omega), hs]
  refine go_iload_n dX3_add_28 rfl rfl ?_
  refine go_iast (e) rfl as_26 (by omega) (by decide) dX3_add_29 ?_
  refine go_aload_n dX3_add_30 rfl rfl ?_
  refine go_dup dX3_add_31 rfl ?_
  refine go_getI flX3_21 fs_23_3 dX3_add_32 ?_
  rw [stI_ne (by omega), stI_ne (by omega), stI_ne (by omega), hs]
  refine go_iconst (v := nI 1) dX3_add_35 rfl ?_
  refine go_iadd dX3_add_36 ?_
  refine go_putI fwX3_21 fs_23_3 dX3_add_37 ?_
  refine go_vret rfl dX3_add_40 ?_
  refine ⟨rfl, ⟨?_, ?_, ?_⟩, fun a k ha hk => ?_, ?_, fun a ha => funext fun y => ?_, rfl⟩
  · simp (disch := omega) only [stI_at, stI_ne]
  · simp (disch := omega) only [stI_at, stI_ne]
  · simp (disch := omega) only [stI_at, stI_ne]
  · simp (disch := omega) only [stI_ne]
  · rw [stI_at, nI_add]
  · rw [stI_ne (by omega), stI_ne (by omega), stI_ne (by omega), stI_ne (by omega)]
def LCp (l k : Nat) (σ σ' : Mm) : Prop := (∀ e, e < 4 → σ'.1 (l + 1) e = σ.1 (k + 1) e ∧ σ'.1 (l + 2) e = σ.1 (k + 2) e ∧ σ'.1 (l + 3) e = σ.1 (k + 3) e) ∧ σ'.1 l 3 = σ.1 k 3 ∧ (∀ a, a < l ∨ l + 3 < a → σ'.1 a = σ.1 a) ∧ σ'.2 = σ.2
set_option maxHeartbeats 1000000 in
theorem sp_logCopy {Γ : Gm} {σ : Mm} {l k : Nat} (hl : isG l) (hk : isG k) (hlk : l + 3 < k ∨ k + 3 < l) : Sp Γ 1 mX3_copyFrom [rf Γ l, rf Γ k] σ (aV (LCp l k σ)) := by
  refine sp_in (L := [some (rf Γ l), some (rf Γ k)]) rfl (Nat.le_of_ble_eq_true rfl) rfl ?_
  refine go_aload_n dX3_copyFrom_0 rfl rfl ?_
  refine go_getR flX3_9 (fL_0 hk) dX3_copyFrom_1 ?_
  refine go_iconst (v := nI 0) dX3_copyFrom_4 rfl ?_
  refine go_aload_n dX3_copyFrom_5 rfl rfl ?_
  refine go_getR flX3_9 (fL_0 hl) dX3_copyFrom_6 ?_
  refine go_iconst (v := nI 0) dX3_copyFrom_9 rfl ?_
  refine go_iconst (v := nI 4) dX3_copyFrom_10 rfl ?_
  refine go_acopy rfl rfl rfl (aL_1 hk) (aL_1 hl) (by decide) (by decide) (by omega) (by decide) acX3_25 ac_nat ac_sta ac_ini (Nat.le_of_ble_eq_true rfl) dX3_copyFrom_11 ?_
  refine go_aload_n dX3_copyFrom_14 rfl rfl ?_
  refine go_getR flX3_15 (fL_1 hk) dX3_copyFrom_15 ?_
  refine go_iconst (v := nI 0) dX3_copyFrom_18 rfl ?_
  refine go_aload_n dX3_copyFrom_19 rfl rfl ?_
  refine go_getR flX3_15 (fL_1 hl) dX3_copyFrom_20 ?_
  refine go_iconst (v := nI 0) dX3_copyFrom_23 rfl ?_
  refine go_iconst (v := nI 4) dX3_copyFrom_24 rfl ?_
  refine go_acopy rfl rfl rfl (aL_2 hk) (aL_2 hl) (by decide) (by decide) (by omega) (by decide) acX3_25 ac_nat ac_sta ac_ini (Nat.le_of_ble_eq_true rfl) dX3_copyFrom_25 ?_
  refine go_aload_n dX3_copyFrom_28 rfl rfl ?_
  refine go_getR flX3_18 (fL_2 hk) dX3_copyFrom_29 ?_
  refine go_iconst (v := nI 0) dX3_copyFrom_32 rfl ?_
  refine go_aload_n dX3_copyFrom_33 rfl rfl ?_
  refine go_getR flX3_18 (fL_2 hl) dX3_copyFrom_34 ?_
  refine go_iconst (v := nI 0) dX3_copyFrom_37 rfl ?_
  refine go_iconst (v := nI 4) dX3_copyFrom_38 rfl ?_
  refine go_acopy rfl rfl rfl (aL_3 hk) (aL_3 hl) (by decide) (by decide) (by omega) (by decide) acX3_25 ac_nat ac_sta ac_ini (Nat.le_of_ble_eq_true rfl) dX3_copyFrom_39 ?_
  refine go_aload_n dX3_copyFrom_42 rfl rfl ?_
  refine go_aload_n dX3_copyFrom_43 rfl rfl ?_
  refine go_getI flX3_21 (fL_3 hk) dX3_copyFrom_44 ?_
  refine go_putI fwX3_21 (fL_3 hl) dX3_copyFrom_47 ?_
  refine go_vret rfl dX3_copyFrom_50 ?_
  refine ⟨rfl, fun e he => ⟨?_, ?_, ?_⟩, ?_, fun a ha => ?_, rfl⟩
  · simp (disch := omega) only [stI_ne, stA_at, stA_ne, cpy_in]
  · simp (disch := omega) only [stI_ne, stA_at, stA_ne, cpy_in]
  · simp (disch := omega) only [stI_ne, stA_at, stA_ne, cpy_in]
  · simp (disch := omega) only [stI_at, stA_ne]
  · exact (funext fun y => stI_ne (Or.inl (by omega))).trans ((stA_ne (by omega)).trans ((stA_ne (by omega)).trans (stA_ne (by omega))))
/-- an image is taken -/
def Tk (σ σ' : Mm) : Prop := ((∀ d, d < 6 → σ'.1 50 d = σ.1 19 d ∧ σ'.1 51 d = σ.1 20 d) ∧ (∀ g, g < 5 → σ'.1 52 g = σ.1 21 g ∧ σ'.1 53 g = σ.1 22 g) ∧ (∀ k, k = 6 ∨ k = 7 ∨ k = 8 → σ'.1 49 k = σ.1 18 k)) ∧
  ((∀ e, e < 4 → σ'.1 55 e = σ.1 24 e ∧ σ'.1 56 e = σ.1 25 e ∧ σ'.1 57 e = σ.1 26 e) ∧ σ'.1 54 3 = σ.1 23 3) ∧ σ'.1 41 4 = σ.1 6 1 ∧ (∀ g k, g < 5 → k < 6 → σ'.1 (43 + g) k = σ.1 (9 + 2 * g) k) ∧ (∀ g, g < 5 → σ'.1 48 g = σ.1 (8 + 2 * g) 2) ∧ (∀ k, k ≠ 4 → σ'.1 41 k = σ.1 41 k) ∧ (∀ a, a < 41 ∨ 57 < a → σ'.1 a = σ.1 a) ∧ σ'.2 = σ.2
set_option maxHeartbeats 1000000 in
theorem lp_take {Γ : Gm} {σ σ1 : Mm} (hT : ∀ σ', (∀ g, g < 5 → σ'.1 48 g = σ.1 (8 + 2 * g) 2) → (∀ a, a ≠ 48 → σ'.1 a = σ1.1 a) → σ'.2 = σ1.2 → Tk σ σ') (hp : ∀ g, g < 5 → σ1.1 (8 + 2 * g) = σ.1 (8 + 2 * g)) : ∀ (m g : Nat) (σ' : Mm), 5 - g = m → g ≤ 5 → (∀ k, k < g → σ'.1 48 k = σ.1 (8 + 2 * k) 2) → (∀ a, a ≠ 48 → σ'.1 a = σ1.1 a) → σ'.2 = σ1.2 → Go Γ 2 mX2_take (aV (Tk σ)) 35 [some (rf Γ 41), some (rf Γ 6), some (rf Γ 18), some (rf Γ 23), some (.int (nI g))] [] σ' := by
  intro m
  induction m with
  | zero =>
    intro g σ' hm hg h1 h2 h3
    have e : g = 5 := by omega
    subst e
    refine go_iload dX2_take_35 rfl ?_
    refine go_iconst (v := nI 5) dX2_take_37 rfl ?_
    refine go_icmp_ge (tgt := 64) dX2_take_38 (by decide) (fun c38 => ?_) (fun c38 => ?_)
    · refine go_vret rfl dX2_take_64 ?_
      exact ⟨rfl, hT σ' h1 h2 h3⟩
    · exact absurd (Int32.le_refl _) c38
  | succ m ih =>
    intro g σ' hm hg h1 h2 h3
    have hg : g < 5 := by omega
    refine go_iload dX2_take_35 rfl ?_
    refine go_iconst (v := nI 5) dX2_take_37 rfl ?_
    refine go_icmp_ge (tgt := 64) dX2_take_38 (by decide) (fun c38 => ?_) (fun c38 => ?_)
    · exact absurd c38 (nI_ge (by omega) (by omega))
    · refine go_aload_n dX2_take_41 rfl rfl ?_
      refine go_getR flX2_16 fs_41_3 dX2_take_42 ?_
      refine go_iload dX2_take_45 rfl ?_
      refine go_aload_n dX2_take_47 rfl rfl ?_
      refine go_getR flX2_56 fs_6_0 dX2_take_48 ?_
      refine go_iload dX2_take_51 rfl ?_
      refine go_aald (g) rfl (rG hg) rt_7 dX2_take_53 ?_
      refine go_getI flX2_60 (fG_2 hg) dX2_take_54 ?_
      refine go_iast (g) rfl as_48 (by omega) (by decide) dX2_take_57 ?_
      refine go_iinc (v := nI (g + 1)) (L' := [_, _, _, _, _]) dX2_take_58 rfl (nI_1 _) (by decide) rfl rfl ?_
      refine go_goto (tgt := 35) dX2_take_61 (by decide) ?_
      refine ih (g + 1) _ (by omega) (by omega) (fun k hk => ?_) (fun a ha => (funext fun y => stI_ne (Or.inl ha)).trans (h2 a ha)) h3
      by_cases q : k = g
      · subst q; rw [stI_at, h2 _ (by omega), hp k hg]
      · rw [stI_ne (by omega)]; exact h1 k (by omega)
set_option maxHeartbeats 1000000 in
theorem sp_take {Γ : Gm} {σ : Mm} : Sp Γ 2 mX2_take [rf Γ 41, rf Γ 6, rf Γ 18, rf Γ 23] σ (aV (Tk σ)) := by
  refine sp_in (L := [some (rf Γ 41), some (rf Γ 6), some (rf Γ 18), some (rf Γ 23), none]) rfl (Nat.le_of_ble_eq_true rfl) rfl ?_
  refine go_aload_n dX2_take_0 rfl rfl ?_
  refine go_getR flX2_25 fs_41_0 dX2_take_1 ?_
  refine go_aload_n dX2_take_4 rfl rfl ?_
  refine go_callVv cvX2_36 os_49 (sp_copyFrom isT49 isT18 (by omega)) (by omega) rfl rfl (Nat.le_of_ble_eq_true rfl) dX2_take_5 (fun σ1 q1 => ?_)
  refine go_aload_n dX2_take_8 rfl rfl ?_
  refine go_getR flX2_32 fs_41_1 dX2_take_9 ?_
  refine go_aload_n dX2_take_12 rfl rfl ?_
  refine go_callVv cvX2_40 os_54 (sp_logCopy isG54 isG23 (by omega)) (by omega) rfl rfl (Nat.le_of_ble_eq_true rfl) dX2_take_13 (fun σ2 q2 => ?_)
  refine go_aload_n dX2_take_16 rfl rfl ?_
  refine go_aload_n dX2_take_17 rfl rfl ?_
  refine go_getI flX2_43 fs_6_1 dX2_take_18 ?_
  refine go_putI fwX2_49 fs_41_4 dX2_take_21 ?_
  refine go_aload_n dX2_take_24 rfl rfl ?_
  refine go_aload_n dX2_take_25 rfl rfl ?_
  refine go_getR flX2_11 fs_41_2 dX2_take_26 ?_
  refine go_callVv cvX2_52 os_6 (sp_saveWants (Or.inr rfl)) (by omega) rfl rfl (Nat.le_of_ble_eq_true rfl) dX2_take_29 (fun σ3 q3 => ?_)
  refine go_iconst (v := nI 0) dX2_take_32 rfl ?_
  refine go_istore (L' := [_, _, _, _, _]) dX2_take_33 (by decide) rfl rfl ?_
  obtain ⟨a1, a2, a3, a4⟩ := q1
  obtain ⟨b1, b2, b3, b4⟩ := q2
  obtain ⟨d1, d2, d3⟩ := q3
  have low : ∀ a, a < 41 ∨ 57 < a → σ3.1 a = σ.1 a := fun a ha => by
    rw [d2 a (by omega)]
    exact (funext fun y => stI_ne (Or.inl (by omega))).trans ((b3 a (by omega)).trans (a4.1 a (by omega)))
  refine lp_take (σ1 := σ3) (fun σ' h1 h2 h3 => ?_) (fun g hg => low _ (by omega)) 5 0 σ3 rfl (by omega) (fun k hk => absurd hk (Nat.not_lt_zero k)) (fun _ _ => rfl) rfl
  have t1 : ∀ a, 49 ≤ a → a ≤ 53 → σ'.1 a = σ1.1 a := fun a x1 x2 => by
    rw [h2 a (by omega), d2 a (by omega)]
    exact (funext fun y => stI_ne (Or.inl (by omega))).trans (b3 a (by omega))
  have t2 : ∀ a, 54 ≤ a → a ≤ 57 → σ'.1 a = σ2.1 a := fun a x1 x2 => by
    rw [h2 a (by omega), d2 a (by omega)]
    exact funext fun y => stI_ne (Or.inl (by omega))
  have t3 : ∀ a, a < 49 → σ1.1 a = σ.1 a := fun a x => a4.1 a (by omega)
  have t4 : ∀ a, a < 54 → σ2.1 a = σ1.1 a := fun a x => b3 a (by omega)
  refine ⟨⟨fun d hd => ?_, fun g hg => ?_, fun k hk => ?_⟩, ⟨fun e he => ?_, ?_⟩, ?_, fun g k hg hk => ?_, h1, fun k hk => ?_, fun a ha => ?_, ?_⟩
  · rw [t1 50 (by omega) (by omega), t1 51 (by omega) (by omega)]; exact a1 d hd
  · rw [t1 52 (by omega) (by omega), t1 53 (by omega) (by omega)]; exact a2 g hg
  · rw [t1 49 (by omega) (by omega)]; exact a3 k hk
  · rw [t2 55 (by omega) (by omega), t2 56 (by omega) (by omega), t2 57 (by omega) (by omega), ← t3 24 (by omega), ← t3 25 (by omega), ← t3 26 (by omega)]; exact b1 e he
  · rw [t2 54 (by omega) (by omega), ← t3 23 (by omega)]; exact b2
  · rw [h2 41 (by omega), d2 41 (by omega), stI_at, t4 6 (by omega), t3 6 (by omega)]
  · rw [h2 (43 + g) (by omega), show 43 + g = 42 + 1 + g by omega, d1 g k hg hk, stI_ne (by omega), t4 _ (by omega), t3 _ (by omega)]
  · rw [h2 41 (by omega), d2 41 (by omega), stI_ne (by omega), t4 41 (by omega), t3 41 (by omega)]
  · rw [h2 a (by omega)]; exact low a ha
  · rw [h3, d3]; exact b4.trans a4.2
/-- it goes on from an image -/
def Pb2 (σ σ' : Mm) : Prop := ((∀ d, d < 6 → σ'.1 19 d = σ.1 50 d ∧ σ'.1 20 d = σ.1 51 d) ∧ (∀ g, g < 5 → σ'.1 21 g = σ.1 52 g ∧ σ'.1 22 g = σ.1 53 g) ∧ (∀ k, k = 6 ∨ k = 7 ∨ k = 8 → σ'.1 18 k = σ.1 49 k)) ∧
  ((∀ e, e < 4 → σ'.1 24 e = σ.1 55 e ∧ σ'.1 25 e = σ.1 56 e ∧ σ'.1 26 e = σ.1 57 e) ∧ σ'.1 23 3 = σ.1 54 3) ∧ (∀ g k, g < 5 → k < 6 → σ'.1 (9 + 2 * g) k = σ.1 (43 + g) k) ∧ (∀ g, g < 5 → σ'.1 (8 + 2 * g) 2 = σ.1 48 g ∧ ∀ k, k ≠ 2 → σ'.1 (8 + 2 * g) k = σ.1 (8 + 2 * g) k) ∧ (∀ a, a < 8 ∨ 26 < a → σ'.1 a = σ.1 a) ∧ σ'.2 = σ.2
set_option maxHeartbeats 1000000 in
theorem lp_putBack {Γ : Gm} {σ σ1 : Mm} (hT : ∀ σ', (∀ g, g < 5 → σ'.1 (8 + 2 * g) 2 = σ.1 48 g ∧ ∀ k, k ≠ 2 → σ'.1 (8 + 2 * g) k = σ1.1 (8 + 2 * g) k) → (∀ a, (∀ g, g < 5 → a ≠ 8 + 2 * g) → σ'.1 a = σ1.1 a) → σ'.2 = σ1.2 → Pb2 σ σ') (hp : σ1.1 48 = σ.1 48) : ∀ (m g : Nat) (σ' : Mm), 5 - g = m → g ≤ 5 → (∀ k, k < g → σ'.1 (8 + 2 * k) 2 = σ.1 48 k) → (∀ g k, g < 5 → k ≠ 2 → σ'.1 (8 + 2 * g) k = σ1.1 (8 + 2 * g) k) → (∀ a, (∀ g, g < 5 → a ≠ 8 + 2 * g) → σ'.1 a = σ1.1 a) → σ'.2 = σ1.2 → Go Γ 2 mX2_putBack (aV (Pb2 σ)) 27 [some (rf Γ 41), some (rf Γ 6), some (rf Γ 18), some (rf Γ 23), some (.int (nI g))] [] σ' := by
  intro m
  induction m with
  | zero =>
    intro g σ' hm hg h1 h2 h3 h4
    have e : g = 5 := by omega
    subst e
    refine go_iload dX2_putBack_27 rfl ?_
    refine go_iconst (v := nI 5) dX2_putBack_29 rfl ?_
    refine go_icmp_ge (tgt := 56) dX2_putBack_30 (by decide) (fun c30 => ?_) (fun c30 => ?_)
    · refine go_vret rfl dX2_putBack_56 ?_
      exact ⟨rfl, hT σ' (fun g hg => ⟨h1 g hg, fun k hk => h2 g k hg hk⟩) h3 h4⟩
    · exact absurd (Int32.le_refl _) c30
  | succ m ih =>
    intro g σ' hm hg h1 h2 h3 h4
    have hg : g < 5 := by omega
    have e48 : σ'.1 48 g = σ.1 48 g := by rw [h3 48 (fun k hk => by omega), hp]
    refine go_iload dX2_putBack_27 rfl ?_
    refine go_iconst (v := nI 5) dX2_putBack_29 rfl ?_
    refine go_icmp_ge (tgt := 56) dX2_putBack_30 (by decide) (fun c30 => ?_) (fun c30 => ?_)
    · exact absurd c30 (nI_ge (by omega) (by omega))
    · refine go_aload_n dX2_putBack_33 rfl rfl ?_
      refine go_getR flX2_56 fs_6_0 dX2_putBack_34 ?_
      refine go_iload dX2_putBack_37 rfl ?_
      refine go_aald (g) rfl (rG hg) rt_7 dX2_putBack_39 ?_
      refine go_aload_n dX2_putBack_40 rfl rfl ?_
      refine go_getR flX2_16 fs_41_3 dX2_putBack_41 ?_
      refine go_iload dX2_putBack_44 rfl ?_
      refine go_iald (g) rfl as_48 (by omega) (by decide) dX2_putBack_46 ?_
      rw [e48]
      refine go_putI fwX2_60 (fG_2 hg) dX2_putBack_47 ?_
      refine go_iinc (v := nI (g + 1)) (L' := [_, _, _, _, _]) dX2_putBack_50 rfl (nI_1 _) (by decide) rfl rfl ?_
      refine go_goto (tgt := 27) dX2_putBack_53 (by decide) ?_
      refine ih (g + 1) _ (by omega) (by omega) (fun k hk => ?_) (fun a k ha hk => ?_) (fun a ha => (funext fun y => stI_ne (Or.inl (ha g hg))).trans (h3 a ha)) h4
      · by_cases q : k = g
        · subst q; rw [stI_at]
        · rw [stI_ne (by omega)]; exact h1 k (by omega)
      · rw [stI_ne (by omega)]; exact h2 a k ha hk
set_option maxHeartbeats 1000000 in
theorem sp_putBack {Γ : Gm} {σ : Mm} : Sp Γ 2 mX2_putBack [rf Γ 41, rf Γ 6, rf Γ 18, rf Γ 23] σ (aV (Pb2 σ)) := by
  refine sp_in (L := [some (rf Γ 41), some (rf Γ 6), some (rf Γ 18), some (rf Γ 23), none]) rfl (Nat.le_of_ble_eq_true rfl) rfl ?_
  refine go_aload_n dX2_putBack_0 rfl rfl ?_
  refine go_aload_n dX2_putBack_1 rfl rfl ?_
  refine go_getR flX2_25 fs_41_0 dX2_putBack_2 ?_
  refine go_callVv cvX2_36 os_18 (sp_copyFrom isT18 isT49 (by omega)) (by omega) rfl rfl (Nat.le_of_ble_eq_true rfl) dX2_putBack_5 (fun σ1 q1 => ?_)
  refine go_aload_n dX2_putBack_8 rfl rfl ?_
  refine go_aload_n dX2_putBack_9 rfl rfl ?_
  refine go_getR flX2_32 fs_41_1 dX2_putBack_10 ?_
  refine go_callVv cvX2_40 os_23 (sp_logCopy isG23 isG54 (by omega)) (by omega) rfl rfl (Nat.le_of_ble_eq_true rfl) dX2_putBack_13 (fun σ2 q2 => ?_)
  refine go_aload_n dX2_putBack_16 rfl rfl ?_
  refine go_aload_n dX2_putBack_17 rfl rfl ?_
  refine go_getR flX2_11 fs_41_2 dX2_putBack_18 ?_
  refine go_callVv cvX2_65 os_6 (sp_loadWants (Or.inr rfl)) (by omega) rfl rfl (Nat.le_of_ble_eq_true rfl) dX2_putBack_21 (fun σ3 q3 => ?_)
  refine go_iconst (v := nI 0) dX2_putBack_24 rfl ?_
  refine go_istore (L' := [_, _, _, _, _]) dX2_putBack_25 (by decide) rfl rfl ?_
  obtain ⟨a1, a2, a3, a4⟩ := q1
  obtain ⟨b1, b2, b3, b4⟩ := q2
  obtain ⟨d1, d2, d3, d4⟩ := q3
  have t3 : ∀ a, a < 18 ∨ 22 < a → σ1.1 a = σ.1 a := fun a x => a4.1 a (by omega)
  have t4 : ∀ a, a < 23 ∨ 26 < a → σ2.1 a = σ1.1 a := fun a x => b3 a (by omega)
  have t5 : ∀ a, (∀ g, g < 5 → a ≠ 9 + 2 * g) → σ3.1 a = σ2.1 a := d3
  refine lp_putBack (σ1 := σ3) (fun σ' h1 h2 h3 => ?_) ?_ 5 0 σ3 rfl (by omega) (fun k hk => absurd hk (Nat.not_lt_zero k)) (fun _ _ _ _ => rfl) (fun _ _ => rfl) rfl
  · refine ⟨⟨fun d hd => ?_, fun g hg => ?_, fun k hk => ?_⟩, ⟨fun e he => ?_, ?_⟩, fun g k hg hk => ?_, fun g hg => ⟨(h1 g hg).1, fun k hk => ?_⟩, fun a ha => ?_, ?_⟩
    · rw [h2 19 (by omega), h2 20 (by omega), t5 19 (by omega), t5 20 (by omega), t4 19 (by omega), t4 20 (by omega)]; exact a1 d hd
    · rw [h2 21 (by omega), h2 22 (by omega), t5 21 (by omega), t5 22 (by omega), t4 21 (by omega), t4 22 (by omega)]; exact a2 g hg
    · rw [h2 18 (by omega), t5 18 (by omega), t4 18 (by omega)]; exact a3 k hk
    · rw [h2 24 (by omega), h2 25 (by omega), h2 26 (by omega), t5 24 (by omega), t5 25 (by omega), t5 26 (by omega), ← t3 55 (by omega), ← t3 56 (by omega), ← t3 57 (by omega)]; exact b1 e he
    · rw [h2 23 (by omega), t5 23 (by omega), ← t3 54 (by omega)]; exact b2
    · rw [h2 _ (by omega), d1 g k hg hk, show 42 + 1 + g = 43 + g by omega, t4 _ (by omega), t3 _ (by omega)]
    · rw [(h1 g hg).2 k hk, t5 _ (by omega), t4 _ (by omega), t3 _ (by omega)]
    · rw [h2 a (by omega), t5 a (by omega), t4 a (by omega), t3 a (by omega)]
    · rw [h3, d4]; exact b4.trans a4.2
  · rw [t5 48 (by omega), t4 48 (by omega), t3 48 (by omega)]
