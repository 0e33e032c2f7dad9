/-! the class's Table: what each method does to the memory -/
set_option maxHeartbeats 1000000 in
theorem sp_canHave {Γ : Gm} {σ : Mm} {t g d : Nat} (ht : isT t) (hg : g < 5) (hd : d < 6) : Sp Γ 1 mX7_canHave [rf Γ t, .int (nI g), .int (nI d)] σ (aP (bI (decide (0 < σ.1 (t + 1) d) && decide (σ.1 5 d ≤ σ.1 (8 + 2 * g) 2))) σ) := by
  refine sp_in (L := [some (rf Γ t), some (.int (nI g)), some (.int (nI d))]) rfl (Nat.le_of_ble_eq_true rfl) rfl ?_
  refine go_aload_n dX7_canHave_0 rfl rfl ?_
  refine go_getR flX7_9 (fT_2 ht) dX7_canHave_1 ?_
  refine go_iload_n dX7_canHave_4 rfl rfl ?_
  refine go_iald (d) rfl (aT_1 ht) (by omega) (by decide) dX7_canHave_5 ?_
  refine go_if_le (tgt := 37) dX7_canHave_6 (by decide) (fun c6 => ?_) (fun c6 => ?_)
  · refine go_iconst (v := nI 0) dX7_canHave_37 rfl ?_
    refine go_zret rfl dX7_canHave_38 (by first | exact Or.inl rfl | exact Or.inr rfl | exact bI_01 _) ?_
    exact ⟨congrArg (fun z => some (Value.int z)) (by have : ¬ (0 < σ.1 (t + 1) d) := Int32.not_lt.mpr c6; simp [bI, this, nI]), rfl⟩
  · refine go_aload_n dX7_canHave_9 rfl rfl ?_
    refine go_getR flX7_28 (fT_0 ht) dX7_canHave_10 ?_
    refine go_getR flX7_44 fs_3_1 dX7_canHave_13 ?_
    refine go_iload_n dX7_canHave_16 rfl rfl ?_
    refine go_iald (d) rfl as_5 (by omega) (by decide) dX7_canHave_17 ?_
    refine go_aload_n dX7_canHave_18 rfl rfl ?_
    refine go_getR flX7_32 (fT_1 ht) dX7_canHave_19 ?_
    refine go_getR flX7_47 fs_6_0 dX7_canHave_22 ?_
    refine go_iload_n dX7_canHave_25 rfl rfl ?_
    refine go_aald (g) rfl (rG hg) rt_7 dX7_canHave_26 ?_
    refine go_getI flX7_53 (fG_2 hg) dX7_canHave_27 ?_
    refine go_icmp_gt (tgt := 37) dX7_canHave_30 (by decide) (fun c30 => ?_) (fun c30 => ?_)
    · refine go_iconst (v := nI 0) dX7_canHave_37 rfl ?_
      refine go_zret rfl dX7_canHave_38 (by first | exact Or.inl rfl | exact Or.inr rfl | exact bI_01 _) ?_
      exact ⟨congrArg (fun z => some (Value.int z)) (by have : ¬ (σ.1 5 d ≤ σ.1 (8 + 2 * g) 2) := Int32.not_le.mpr c30; simp [bI, this, nI]), rfl⟩
    · refine go_iconst (v := nI 1) dX7_canHave_33 rfl ?_
      refine go_goto (tgt := 38) dX7_canHave_34 (by decide) ?_
      refine go_zret rfl dX7_canHave_38 (by first | exact Or.inl rfl | exact Or.inr rfl | exact bI_01 _) ?_
      exact ⟨congrArg (fun z => some (Value.int z)) (by have h1 : 0 < σ.1 (t + 1) d := Int32.not_le.mp c6; have h2 : σ.1 5 d ≤ σ.1 (8 + 2 * g) 2 := Int32.not_lt.mp c30; simp [bI, h1, h2, nI]), rfl⟩
/-- a dish's value by what the table holds -/
def valC (σ : Mm) (t g d : Nat) : Int32 := σ.1 (9 + 2 * g) d + σ.1 (8 + 2 * g) 3 * σ.1 t 8 * (if σ.1 (t + 3) g = nI d then σ.1 (t + 2) d - 1 else σ.1 (t + 2) d) + (if nI d = σ.1 t 6 then σ.1 t 7 else 0)
set_option maxHeartbeats 1000000 in
theorem sp_value {Γ : Gm} {σ : Mm} {t g d : Nat} (ht : isT t) (hg : g < 5) (hd : d < 6) : Sp Γ 1 mX7_value [rf Γ t, .int (nI g), .int (nI d)] σ (aP (valC σ t g d) σ) := by
  refine sp_in (L := [some (rf Γ t), some (.int (nI g)), some (.int (nI d)), none, none, none]) rfl (Nat.le_of_ble_eq_true rfl) rfl ?_
  refine go_aload_n dX7_value_0 rfl rfl ?_
  refine go_getR flX7_32 (fT_1 ht) dX7_value_1 ?_
  refine go_getR flX7_47 fs_6_0 dX7_value_4 ?_
  refine go_iload_n dX7_value_7 rfl rfl ?_
  refine go_aald (g) rfl (rG hg) rt_7 dX7_value_8 ?_
  refine go_astore_n (L' := [_, _, _, _, _, _]) dX7_value_9 rfl (by decide) rfl rfl ?_
  refine go_aload_n dX7_value_10 rfl rfl ?_
  refine go_getR flX7_18 (fT_4 ht) dX7_value_11 ?_
  refine go_iload_n dX7_value_14 rfl rfl ?_
  refine go_iald (g) rfl (aT_3 ht) (by omega) (by decide) dX7_value_15 ?_
  refine go_iload_n dX7_value_16 rfl rfl ?_
  refine go_icmp_ne (tgt := 31) dX7_value_17 (by decide) (fun c17 => ?_) (fun c17 => ?_)
  · refine go_aload_n dX7_value_31 rfl rfl ?_
    refine go_getR flX7_15 (fT_3 ht) dX7_value_32 ?_
    refine go_iload_n dX7_value_35 rfl rfl ?_
    refine go_iald (d) rfl (aT_2 ht) (by omega) (by decide) dX7_value_36 ?_
    refine go_istore (L' := [_, _, _, _, _, _]) dX7_value_37 (by decide) rfl rfl ?_
    refine go_iload_n dX7_value_39 rfl rfl ?_
    refine go_aload_n dX7_value_40 rfl rfl ?_
    refine go_getI flX7_24 (fT_6 ht) dX7_value_41 ?_
    refine go_icmp_ne (tgt := 54) dX7_value_44 (by decide) (fun c44 => ?_) (fun c44 => ?_)
    · refine go_iconst (v := nI 0) dX7_value_54 rfl ?_
      refine go_istore (L' := [_, _, _, _, _, _]) dX7_value_55 (by decide) rfl rfl ?_
      refine go_aload_n dX7_value_57 rfl rfl ?_
      refine go_getR flX7_58 (fG_0 hg) dX7_value_58 ?_
      refine go_iload_n dX7_value_61 rfl rfl ?_
      refine go_iald (d) rfl (aW hg) (by omega) (by decide) dX7_value_62 ?_
      refine go_aload_n dX7_value_63 rfl rfl ?_
      refine go_getI flX7_61 (fG_3 hg) dX7_value_64 ?_
      refine go_aload_n dX7_value_67 rfl rfl ?_
      refine go_getI flX7_64 (fT_8 ht) dX7_value_68 ?_
      refine go_imul dX7_value_71 ?_
      refine go_iload dX7_value_72 rfl ?_
      refine go_imul dX7_value_74 ?_
      refine go_iadd dX7_value_75 ?_
      refine go_iload dX7_value_76 rfl ?_
      refine go_iadd dX7_value_78 ?_
      refine go_iret rfl dX7_value_79 ?_
      exact ⟨by unfold valC; simp only [if_neg c17, if_neg c44]; rfl, rfl⟩
    · refine go_aload_n dX7_value_47 rfl rfl ?_
      refine go_getI flX7_41 (fT_7 ht) dX7_value_48 ?_
      refine go_goto (tgt := 55) dX7_value_51 (by decide) ?_
      refine go_istore (L' := [_, _, _, _, _, _]) dX7_value_55 (by decide) rfl rfl ?_
      refine go_aload_n dX7_value_57 rfl rfl ?_
      refine go_getR flX7_58 (fG_0 hg) dX7_value_58 ?_
      refine go_iload_n dX7_value_61 rfl rfl ?_
      refine go_iald (d) rfl (aW hg) (by omega) (by decide) dX7_value_62 ?_
      refine go_aload_n dX7_value_63 rfl rfl ?_
      refine go_getI flX7_61 (fG_3 hg) dX7_value_64 ?_
      refine go_aload_n dX7_value_67 rfl rfl ?_
      refine go_getI flX7_64 (fT_8 ht) dX7_value_68 ?_
      refine go_imul dX7_value_71 ?_
      refine go_iload dX7_value_72 rfl ?_
      refine go_imul dX7_value_74 ?_
      refine go_iadd dX7_value_75 ?_
      refine go_iload dX7_value_76 rfl ?_
      refine go_iadd dX7_value_78 ?_
      refine go_iret rfl dX7_value_79 ?_
      exact ⟨by unfold valC; simp only [if_neg c17, if_pos c44], rfl⟩
  · refine go_aload_n dX7_value_20 rfl rfl ?_
    refine go_getR flX7_15 (fT_3 ht) dX7_value_21 ?_
    refine go_iload_n dX7_value_24 rfl rfl ?_
    refine go_iald (d) rfl (aT_2 ht) (by omega) (by decide) dX7_value_25 ?_
    refine go_iconst (v := nI 1) dX7_value_26 rfl ?_
    refine go_isub dX7_value_27 ?_
    refine go_goto (tgt := 37) dX7_value_28 (by decide) ?_
    refine go_istore (L' := [_, _, _, _, _, _]) dX7_value_37 (by decide) rfl rfl ?_
    refine go_iload_n dX7_value_39 rfl rfl ?_
    refine go_aload_n dX7_value_40 rfl rfl ?_
    refine go_getI flX7_24 (fT_6 ht) dX7_value_41 ?_
    refine go_icmp_ne (tgt := 54) dX7_value_44 (by decide) (fun c44 => ?_) (fun c44 => ?_)
    · refine go_iconst (v := nI 0) dX7_value_54 rfl ?_
      refine go_istore (L' := [_, _, _, _, _, _]) dX7_value_55 (by decide) rfl rfl ?_
      refine go_aload_n dX7_value_57 rfl rfl ?_
      refine go_getR flX7_58 (fG_0 hg) dX7_value_58 ?_
      refine go_iload_n dX7_value_61 rfl rfl ?_
      refine go_iald (d) rfl (aW hg) (by omega) (by decide) dX7_value_62 ?_
      refine go_aload_n dX7_value_63 rfl rfl ?_
      refine go_getI flX7_61 (fG_3 hg) dX7_value_64 ?_
      refine go_aload_n dX7_value_67 rfl rfl ?_
      refine go_getI flX7_64 (fT_8 ht) dX7_value_68 ?_
      refine go_imul dX7_value_71 ?_
      refine go_iload dX7_value_72 rfl ?_
      refine go_imul dX7_value_74 ?_
      refine go_iadd dX7_value_75 ?_
      refine go_iload dX7_value_76 rfl ?_
      refine go_iadd dX7_value_78 ?_
      refine go_iret rfl dX7_value_79 ?_
      exact ⟨by unfold valC; simp only [if_pos c17, if_neg c44]; rfl, rfl⟩
    · refine go_aload_n dX7_value_47 rfl rfl ?_
      refine go_getI flX7_41 (fT_7 ht) dX7_value_48 ?_
      refine go_goto (tgt := 55) dX7_value_51 (by decide) ?_
      refine go_istore (L' := [_, _, _, _, _, _]) dX7_value_55 (by decide) rfl rfl ?_
      refine go_aload_n dX7_value_57 rfl rfl ?_
      refine go_getR flX7_58 (fG_0 hg) dX7_value_58 ?_
      refine go_iload_n dX7_value_61 rfl rfl ?_
      refine go_iald (d) rfl (aW hg) (by omega) (by decide) dX7_value_62 ?_
      refine go_aload_n dX7_value_63 rfl rfl ?_
      refine go_getI flX7_61 (fG_3 hg) dX7_value_64 ?_
      refine go_aload_n dX7_value_67 rfl rfl ?_
      refine go_getI flX7_64 (fT_8 ht) dX7_value_68 ?_
      refine go_imul dX7_value_71 ?_
      refine go_iload dX7_value_72 rfl ?_
      refine go_imul dX7_value_74 ?_
      refine go_iadd dX7_value_75 ?_
      refine go_iload dX7_value_76 rfl ?_
      refine go_iadd dX7_value_78 ?_
      refine go_iret rfl dX7_value_79 ?_
      exact ⟨by unfold valC; simp only [if_pos c17, if_pos c44]; rfl, rfl⟩
theorem canHave_may {σ : Mm} {t g d : Nat} {P : Pb} {h : Nat → Int32} (hP : PI σ P) (hT : TI σ t P h) (hk : Pok P) (hg : g < pG P) (hd : d < pD P) (hn : h g ≠ nI d) : (decide (0 < σ.1 (t + 1) d) && decide (σ.1 5 d ≤ σ.1 (8 + 2 * g) 2)) = mayM P h g d := by
  obtain ⟨-, ⟨-, hG⟩, h3, h4⟩ := hP
  obtain ⟨k, e, h1, h2⟩ := hk d hd
  have hc := cnt_le h (nI d) (pG P)
  rw [(hT.2.1 d hd).1, (h3 d hd).2, (h4 g hg).1]
  unfold mayM oth
  rw [if_neg hn, Bool.and_comm]
  congr 1
  rw [e, Int32.sub_zero]
  rw [decide_eq_decide, nI_ltI (by omega) (by omega)]
  by_cases q : cnt h (nI d) (pG P) < k
  · rw [pk_sub (by omega)]
    constructor
    · intro _; exact q
    · intro _; exact nI_lt (a := 0) (by omega) (by omega)
  · constructor
    · intro z
      exfalso
      by_cases q2 : cnt h (nI d) (pG P) = k
      · rw [q2, Int32.sub_self] at z; exact absurd z (by decide)
      · exact absurd (pk_sneg (a := k) (b := cnt h (nI d) (pG P)) (by omega) (by omega)) (Int32.not_lt.mpr (Int32.le_of_lt z))
    · intro z; exact absurd z q
theorem valC_val {σ : Mm} {t g d : Nat} {P : Pb} {h : Nat → Int32} (hP : PI σ P) (hT : TI σ t P h) (hg : g < pG P) (hd : d < pD P) : valC σ t g d = valM P h g d := by
  obtain ⟨⟨-, hD⟩, ⟨-, hG⟩, h3, h4⟩ := hP
  obtain ⟨⟨u1, u2, u3⟩, h5, h6⟩ := hT
  unfold valC valM oth
  rw [(h4 g hg).2.1, (h4 g hg).2.2 d hd, u1, u2, u3, (h6 g (by omega) (Or.inr hg)).1, (h5 d hd).2]
  by_cases q : h g = nI d
  · rw [if_pos ((hC_eq (by omega)).mpr q), if_pos q]
  · rw [if_neg (fun z => q ((hC_eq (by omega)).mp z)), if_neg q, Int32.sub_zero]
set_option maxHeartbeats 1000000 in
theorem lp_choice {Γ : Gm} {σ : Mm} {t g : Nat} {P : Pb} {h : Nat → Int32} (ht : isT t) (hg : g < pG P) (hP : PI σ P) (hT : TI σ t P h) (hk : Pok P) (hw : h g = -2) : ∀ (m d : Nat), pD P - d = m → d ≤ pD P → Go Γ 2 mX7_choice (aP (bestM P h g) σ) 7 [some (rf Γ t), some (.int (nI g)), some (.int (fB (mayM P h g) (valM P h g) d).1), some (.int (fB (mayM P h g) (valM P h g) d).2), some (.int (nI d)), none] [] σ := by
  have hD := hP.1.2
  have hG := hP.2.1.2
  have hg5 : g < 5 := by omega
  intro m
  induction m with
  | zero =>
    intro d hm hd
    have e : d = pD P := by omega
    subst e
    refine go_iload dX7_choice_7 rfl ?_
    refine go_aload_n dX7_choice_9 rfl rfl ?_
    refine go_getR flX7_28 (fT_0 ht) dX7_choice_10 ?_
    refine go_getI flX7_67 fs_3_2 dX7_choice_13 ?_
    rw [hP.1.1]
    refine go_icmp_ge (tgt := 61) dX7_choice_16 (by decide) (fun c16 => ?_) (fun c16 => ?_)
    · refine go_iload_n dX7_choice_61 rfl rfl ?_
      refine go_iret rfl dX7_choice_62 ?_
      exact ⟨rfl, rfl⟩
    · exact absurd (Int32.le_refl _) c16
  | succ m ih =>
    intro d hm hd
    have hd1 : d < pD P := by omega
    have hne : h g ≠ nI d := by rw [hw]; exact (nI_neg2 (by omega)).symm
    have e0 := canHave_may hP hT hk hg hd1 hne
    have e1 := valC_val hP hT hg hd1
    have stp : ∀ d', d' = d + 1 → Go Γ 2 mX7_choice (aP (bestM P h g) σ) 7 [some (rf Γ t), some (.int (nI g)), some (.int (fB (mayM P h g) (valM P h g) (d + 1)).1), some (.int (fB (mayM P h g) (valM P h g) (d + 1)).2), some (.int (nI d')), none] [] σ := fun d' e => e ▸ ih (d + 1) (by omega) (by omega)
    refine go_iload dX7_choice_7 rfl ?_
    refine go_aload_n dX7_choice_9 rfl rfl ?_
    refine go_getR flX7_28 (fT_0 ht) dX7_choice_10 ?_
    refine go_getI flX7_67 fs_3_2 dX7_choice_13 ?_
    rw [hP.1.1]
    refine go_icmp_ge (tgt := 61) dX7_choice_16 (by decide) (fun c16 => ?_) (fun c16 => ?_)
    · exact absurd c16 (nI_ge (by omega) (by omega))
    · refine go_aload_n dX7_choice_19 rfl rfl ?_
      refine go_iload_n dX7_choice_20 rfl rfl ?_
      refine go_iload dX7_choice_21 rfl ?_
      refine go_callVp cvX7_70 (osT ht) (sp_canHave ht hg5 (by omega)) (by omega) rfl rfl (Nat.le_of_ble_eq_true rfl) dX7_choice_23 ?_
      rw [e0]
      refine go_if_eq (tgt := 55) dX7_choice_26 (by decide) (fun c26 => ?_) (fun c26 => ?_)
      · refine go_iinc (v := nI (d + 1)) (L' := [_, _, _, _, _, _]) dX7_choice_55 rfl (nI_1 _) (by decide) rfl rfl ?_
        refine go_goto (tgt := 7) dX7_choice_58 (by decide) ?_
        have e2 : fB (mayM P h g) (valM P h g) (d + 1) = fB (mayM P h g) (valM P h g) d := by conv => lhs; unfold fB; rw [if_neg (by rw [bI_eq0.mp c26]; decide)]
        rw [e2] at stp
        exact stp _ rfl
      · refine go_aload_n dX7_choice_29 rfl rfl ?_
        refine go_iload_n dX7_choice_30 rfl rfl ?_
        refine go_iload dX7_choice_31 rfl ?_
        refine go_callVp cvX7_74 (osT ht) (sp_value ht hg5 (by omega)) (by omega) rfl rfl (Nat.le_of_ble_eq_true rfl) dX7_choice_33 ?_
        rw [e1]
        refine go_istore (L' := [_, _, _, _, _, _]) dX7_choice_36 (by decide) rfl rfl ?_
        refine go_iload_n dX7_choice_38 rfl rfl ?_
        refine go_iconst (v := (-1)) dX7_choice_39 rfl ?_
        refine go_icmp_eq (tgt := 49) dX7_choice_40 (by decide) (fun c40 => ?_) (fun c40 => ?_)
        · refine go_iload dX7_choice_49 rfl ?_
          refine go_istore_n (L' := [_, _, _, _, _, _]) dX7_choice_51 rfl (by decide) rfl rfl ?_
          refine go_iload dX7_choice_52 rfl ?_
          refine go_istore_n (L' := [_, _, _, _, _, _]) dX7_choice_54 rfl (by decide) rfl rfl ?_
          refine go_iinc (v := nI (d + 1)) (L' := [_, _, _, _, _, _]) dX7_choice_55 rfl (nI_1 _) (by decide) rfl rfl ?_
          refine go_goto (tgt := 7) dX7_choice_58 (by decide) ?_
          have e2 : fB (mayM P h g) (valM P h g) (d + 1) = (nI d, valM P h g d) := by conv => lhs; unfold fB; rw [if_pos (bI_ne0.mp c26), if_pos (Or.inl c40)]
          rw [e2] at stp
          exact go_sub [true, true, true, true, true, false] rfl (stp _ rfl)
        · refine go_iload dX7_choice_43 rfl ?_
          refine go_iload_n dX7_choice_45 rfl rfl ?_
          refine go_icmp_le (tgt := 55) dX7_choice_46 (by decide) (fun c46 => ?_) (fun c46 => ?_)
          · refine go_iinc (v := nI (d + 1)) (L' := [_, _, _, _, _, _]) dX7_choice_55 rfl (nI_1 _) (by decide) rfl rfl ?_
            refine go_goto (tgt := 7) dX7_choice_58 (by decide) ?_
            have e2 : fB (mayM P h g) (valM P h g) (d + 1) = fB (mayM P h g) (valM P h g) d := by conv => lhs; unfold fB; rw [if_pos (bI_ne0.mp c26), if_neg (fun z => z.elim c40 (fun z => Int32.not_lt.mpr c46 z))]
            rw [e2] at stp
            exact go_sub [true, true, true, true, true, false] rfl (stp _ rfl)
          · refine go_iload dX7_choice_49 rfl ?_
            refine go_istore_n (L' := [_, _, _, _, _, _]) dX7_choice_51 rfl (by decide) rfl rfl ?_
            refine go_iload dX7_choice_52 rfl ?_
            refine go_istore_n (L' := [_, _, _, _, _, _]) dX7_choice_54 rfl (by decide) rfl rfl ?_
            refine go_iinc (v := nI (d + 1)) (L' := [_, _, _, _, _, _]) dX7_choice_55 rfl (nI_1 _) (by decide) rfl rfl ?_
            refine go_goto (tgt := 7) dX7_choice_58 (by decide) ?_
            have e2 : fB (mayM P h g) (valM P h g) (d + 1) = (nI d, valM P h g d) := by conv => lhs; unfold fB; rw [if_pos (bI_ne0.mp c26), if_pos (Or.inr (Int32.not_le.mp c46))]
            rw [e2] at stp
            exact go_sub [true, true, true, true, true, false] rfl (stp _ rfl)
set_option maxHeartbeats 1000000 in
theorem sp_choice {Γ : Gm} {σ : Mm} {t g : Nat} {P : Pb} {h : Nat → Int32} (ht : isT t) (hg : g < pG P) (hP : PI σ P) (hT : TI σ t P h) (hk : Pok P) (hw : h g = -2) : Sp Γ 2 mX7_choice [rf Γ t, .int (nI g)] σ (aP (bestM P h g) σ) := by
  refine sp_in (L := [some (rf Γ t), some (.int (nI g)), none, none, none, none]) rfl (Nat.le_of_ble_eq_true rfl) rfl ?_
  refine go_iconst (v := (-1)) dX7_choice_0 rfl ?_
  refine go_istore_n (L' := [_, _, _, _, _, _]) dX7_choice_1 rfl (by decide) rfl rfl ?_
  refine go_iconst (v := nI 0) dX7_choice_2 rfl ?_
  refine go_istore_n (L' := [_, _, _, _, _, _]) dX7_choice_3 rfl (by decide) rfl rfl ?_
  refine go_iconst (v := nI 0) dX7_choice_4 rfl ?_
  refine go_istore (L' := [_, _, _, _, _, _]) dX7_choice_5 (by decide) rfl rfl ?_
  exact lp_choice ht hg hP hT hk hw (pD P) 0 rfl (Nat.zero_le _)

theorem hC_nI {d : Nat} (h : d < 2 ^ 31) : hC (nI d) = nI d := (hC_eq h).mpr rfl
theorem hO_nI {d : Nat} (h : d < 2 ^ 31) : hO (nI d) = nI 1 := by unfold hO; rw [if_neg (nI_neg2 h)]; rfl
theorem hC_row {P : Pb} {h : Nat → Int32} {g : Nat} (hD : pD P ≤ 6) (hr : Rok P h) (hg : g < 5) : (hC (h g) = -1 ∧ h g < 0) ∨ ∃ d, d < pD P ∧ h g = nI d ∧ hC (h g) = nI d := by
  rcases hr.1 g hg with e | e | ⟨d, hd, e⟩
  · exact Or.inl ⟨by rw [e]; decide, by rw [e]; decide⟩
  · exact Or.inl ⟨by rw [e]; decide, by rw [e]; decide⟩
  · exact Or.inr ⟨d, hd, e, by rw [e]; exact hC_nI (by omega)⟩
