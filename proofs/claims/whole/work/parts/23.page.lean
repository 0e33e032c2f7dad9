/-! the page: which letter is good behind good ones; the first fault -/
def dg (lo : Nat) (c : Int32) : Bool := decide (nI lo ≤ c) && decide (c ≤ nI 57)
def gdB (pg : Nat → Int32) (k : Nat) : Bool :=
  if 0 < k ∧ pg (k - 1) = nI 59 then dg 48 (pg k)
  else if 1 < k ∧ pg (k - 2) = nI 59 then false
  else if k % 3 < 2 then dg 49 (pg k)
  else if pg k = nI 44 then decide (k / 3 + 1 < 6) else decide (pg k = nI 59) && decide (2 ≤ k / 3 + 1)
theorem nI0_lt {k : Nat} (h : k < 2 ^ 31) : nI k ≤ 0 ↔ k = 0 := by
  rw [← nI_0, nI_leI h (by omega)]; omega
theorem rem3 {k : Nat} (h : k < 2 ^ 31) : nI k - nI k / nI 3 * nI 3 = nI (k % 3) := pk_rem h (by omega) (by omega)
theorem div3 {k : Nat} (h : k < 2 ^ 31) : nI k / nI 3 = nI (k / 3) := pk_div h (by omega) (by omega)
set_option maxHeartbeats 2000000 in
theorem sp_isGood {Γ : Gm} {σ : Mm} {k : Nat} (hk : k < 22) : Sp Γ 1 mX5_isGood [rf Γ 1, .int (nI k)] σ (aP (bI (gdB (σ.1 2) k)) σ) := by
  refine sp_in (L := [some (rf Γ 1), some (.int (nI k)), none, none]) rfl (Nat.le_of_ble_eq_true rfl) rfl ?_
  have er := rem3 (k := k) (by omega)
  have ed := div3 (k := k) (by omega)
  have e3 : nI (k / 3) + nI 1 = nI (k / 3 + 1) := nI_add _ _
  have yes : gdB (σ.1 2) k = true → aP (bI (gdB (σ.1 2) k)) σ (some (.int (nI 1))) σ := fun q => ⟨by rw [q]; rfl, rfl⟩
  have no : gdB (σ.1 2) k = false → aP (bI (gdB (σ.1 2) k)) σ (some (.int (nI 0))) σ := fun q => ⟨by rw [q]; rfl, rfl⟩
  have at62 : ¬ (0 < k ∧ σ.1 2 (k - 1) = nI 59) → ¬ (1 < k ∧ σ.1 2 (k - 2) = nI 59) → Go Γ 1 mX5_isGood (aP (bI (gdB (σ.1 2) k)) σ) 62 [some (rf Γ 1), some (.int (nI k)), some (.int (σ.1 2 k)), none] [] σ := by
    intro n1 n2
    have g0 : gdB (σ.1 2) k = if k % 3 < 2 then dg 49 (σ.1 2 k) else if σ.1 2 k = nI 44 then decide (k / 3 + 1 < 6) else decide (σ.1 2 k = nI 59) && decide (2 ≤ k / 3 + 1) := by
      unfold gdB; rw [if_neg n1, if_neg n2]
    refine go_iload_n dX5_isGood_62 rfl rfl ?_
    refine go_iconst (v := nI 3) dX5_isGood_63 rfl ?_
    refine go_irem dX5_isGood_64 (by decide) ?_
    rw [er]
    refine go_iconst (v := nI 2) dX5_isGood_65 rfl ?_
    refine go_icmp_ge (tgt := 87) dX5_isGood_66 (by decide) (fun c66 => ?_) (fun c66 => ?_)
    · rw [nI_leI (by omega) (by omega)] at c66
      rw [if_neg (by omega)] at g0
      refine go_iload_n dX5_isGood_87 rfl rfl ?_
      refine go_iconst (v := nI 3) dX5_isGood_88 rfl ?_
      refine go_idiv dX5_isGood_89 (by decide) ?_
      rw [ed]
      refine go_iconst (v := nI 1) dX5_isGood_90 rfl ?_
      refine go_iadd dX5_isGood_91 ?_
      rw [e3]
      refine go_istore_n (L' := [_, _, _, _]) dX5_isGood_92 rfl (by decide) rfl rfl ?_
      refine go_iload_n dX5_isGood_93 rfl rfl ?_
      refine go_bipush (v := nI 44) dX5_isGood_94 rfl ?_
      refine go_icmp_ne (tgt := 113) dX5_isGood_96 (by decide) (fun c96 => ?_) (fun c96 => ?_)
      · rw [if_neg c96] at g0
        refine go_iload_n dX5_isGood_113 rfl rfl ?_
        refine go_bipush (v := nI 59) dX5_isGood_114 rfl ?_
        refine go_icmp_ne (tgt := 128) dX5_isGood_116 (by decide) (fun c116 => ?_) (fun c116 => ?_)
        · refine go_iconst (v := nI 0) dX5_isGood_128 rfl ?_
          refine go_zret rfl dX5_isGood_129 (by first | exact Or.inl rfl | exact Or.inr rfl | exact bI_01 _) ?_
          exact no (by rw [g0]; simp [c116])
        · refine go_iload_n dX5_isGood_119 rfl rfl ?_
          refine go_iconst (v := nI 2) dX5_isGood_120 rfl ?_
          refine go_icmp_lt (tgt := 128) dX5_isGood_121 (by decide) (fun c121 => ?_) (fun c121 => ?_)
          · rw [nI_ltI (by omega) (by omega)] at c121
            refine go_iconst (v := nI 0) dX5_isGood_128 rfl ?_
            refine go_zret rfl dX5_isGood_129 (by first | exact Or.inl rfl | exact Or.inr rfl | exact bI_01 _) ?_
            exact no (by rw [g0]; simp; omega)
          · rw [nI_ltI (by omega) (by omega)] at c121
            refine go_iconst (v := nI 1) dX5_isGood_124 rfl ?_
            refine go_goto (tgt := 129) dX5_isGood_125 (by decide) ?_
            refine go_zret rfl dX5_isGood_129 (by first | exact Or.inl rfl | exact Or.inr rfl | exact bI_01 _) ?_
            exact yes (by rw [g0]; simp [c116]; omega)
      · rw [if_pos c96] at g0
        refine go_iload_n dX5_isGood_99 rfl rfl ?_
        refine go_bipush (v := nI 6) dX5_isGood_100 rfl ?_
        refine go_icmp_ge (tgt := 109) dX5_isGood_102 (by decide) (fun c102 => ?_) (fun c102 => ?_)
        · rw [nI_leI (by omega) (by omega)] at c102
          refine go_iconst (v := nI 0) dX5_isGood_109 rfl ?_
          refine go_goto (tgt := 129) dX5_isGood_110 (by decide) ?_
          refine go_zret rfl dX5_isGood_129 (by first | exact Or.inl rfl | exact Or.inr rfl | exact bI_01 _) ?_
          exact no (by rw [g0]; simp; omega)
        · rw [nI_leI (by omega) (by omega)] at c102
          refine go_iconst (v := nI 1) dX5_isGood_105 rfl ?_
          refine go_goto (tgt := 129) dX5_isGood_106 (by decide) ?_
          refine go_zret rfl dX5_isGood_129 (by first | exact Or.inl rfl | exact Or.inr rfl | exact bI_01 _) ?_
          exact yes (by rw [g0]; simp; omega)
    · rw [nI_leI (by omega) (by omega)] at c66
      rw [if_pos (by omega)] at g0
      refine go_iload_n dX5_isGood_69 rfl rfl ?_
      refine go_bipush (v := nI 49) dX5_isGood_70 rfl ?_
      refine go_icmp_lt (tgt := 85) dX5_isGood_72 (by decide) (fun c72 => ?_) (fun c72 => ?_)
      · refine go_iconst (v := nI 0) dX5_isGood_85 rfl ?_
        refine go_zret rfl dX5_isGood_86 (by first | exact Or.inl rfl | exact Or.inr rfl | exact bI_01 _) ?_
        exact no (by rw [g0]; unfold dg; simp [Int32.not_le.mpr c72])
      · refine go_iload_n dX5_isGood_75 rfl rfl ?_
        refine go_bipush (v := nI 57) dX5_isGood_76 rfl ?_
        refine go_icmp_gt (tgt := 85) dX5_isGood_78 (by decide) (fun c78 => ?_) (fun c78 => ?_)
        · refine go_iconst (v := nI 0) dX5_isGood_85 rfl ?_
          refine go_zret rfl dX5_isGood_86 (by first | exact Or.inl rfl | exact Or.inr rfl | exact bI_01 _) ?_
          exact no (by rw [g0]; unfold dg; simp [Int32.not_le.mpr c78])
        · refine go_iconst (v := nI 1) dX5_isGood_81 rfl ?_
          refine go_goto (tgt := 86) dX5_isGood_82 (by decide) ?_
          refine go_zret rfl dX5_isGood_86 (by first | exact Or.inl rfl | exact Or.inr rfl | exact bI_01 _) ?_
          exact yes (by rw [g0]; unfold dg; simp [Int32.not_lt.mp c72, Int32.not_lt.mp c78])
  have at42 : ¬ (0 < k ∧ σ.1 2 (k - 1) = nI 59) → Go Γ 1 mX5_isGood (aP (bI (gdB (σ.1 2) k)) σ) 42 [some (rf Γ 1), some (.int (nI k)), some (.int (σ.1 2 k)), none] [] σ := by
    intro n1
    refine go_iload_n dX5_isGood_42 rfl rfl ?_
    refine go_iconst (v := nI 1) dX5_isGood_43 rfl ?_
    refine go_icmp_le (tgt := 62) dX5_isGood_44 (by decide) (fun c44 => ?_) (fun c44 => ?_)
    · rw [nI_leI (by omega) (by omega)] at c44
      exact at62 n1 (fun z => by omega)
    · rw [nI_leI (by omega) (by omega)] at c44
      refine go_aload_n dX5_isGood_47 rfl rfl ?_
      refine go_getR flX5_9 fs_1_0 dX5_isGood_48 ?_
      refine go_iload_n dX5_isGood_51 rfl rfl ?_
      refine go_iconst (v := nI 2) dX5_isGood_52 rfl ?_
      refine go_isub dX5_isGood_53 ?_
      rw [pk_sub (show 2 ≤ k by omega)]
      refine go_iald (k - 2) rfl as_2 (by omega) (by decide) dX5_isGood_54 ?_
      refine go_bipush (v := nI 59) dX5_isGood_55 rfl ?_
      refine go_icmp_ne (tgt := 62) dX5_isGood_57 (by decide) (fun c57 => ?_) (fun c57 => ?_)
      · exact at62 n1 (fun z => c57 z.2)
      · refine go_iconst (v := nI 0) dX5_isGood_60 rfl ?_
        refine go_zret rfl dX5_isGood_61 (by first | exact Or.inl rfl | exact Or.inr rfl | exact bI_01 _) ?_
        exact no (by unfold gdB; rw [if_neg n1, if_pos ⟨by omega, c57⟩])
  refine go_aload_n dX5_isGood_0 rfl rfl ?_
  refine go_getR flX5_9 fs_1_0 dX5_isGood_1 ?_
  refine go_iload_n dX5_isGood_4 rfl rfl ?_
  refine go_iald (k) rfl as_2 (by omega) (by decide) dX5_isGood_5 ?_
  refine go_istore_n (L' := [_, _, _, _]) dX5_isGood_6 rfl (by decide) rfl rfl ?_
  refine go_iload_n dX5_isGood_7 rfl rfl ?_
  refine go_if_le (tgt := 42) dX5_isGood_8 (by decide) (fun c8 => ?_) (fun c8 => ?_)
  · rw [nI0_lt (by omega)] at c8
    exact at42 (fun z => by omega)
  · rw [nI0_lt (by omega)] at c8
    refine go_aload_n dX5_isGood_11 rfl rfl ?_
    refine go_getR flX5_9 fs_1_0 dX5_isGood_12 ?_
    refine go_iload_n dX5_isGood_15 rfl rfl ?_
    refine go_iconst (v := nI 1) dX5_isGood_16 rfl ?_
    refine go_isub dX5_isGood_17 ?_
    rw [pk_sub (show 1 ≤ k by omega)]
    refine go_iald (k - 1) rfl as_2 (by omega) (by decide) dX5_isGood_18 ?_
    refine go_bipush (v := nI 59) dX5_isGood_19 rfl ?_
    refine go_icmp_ne (tgt := 42) dX5_isGood_21 (by decide) (fun c21 => ?_) (fun c21 => ?_)
    · exact at42 (fun z => c21 z.2)
    · refine go_iload_n dX5_isGood_24 rfl rfl ?_
      refine go_bipush (v := nI 48) dX5_isGood_25 rfl ?_
      refine go_icmp_lt (tgt := 40) dX5_isGood_27 (by decide) (fun c27 => ?_) (fun c27 => ?_)
      · refine go_iconst (v := nI 0) dX5_isGood_40 rfl ?_
        refine go_zret rfl dX5_isGood_41 (by first | exact Or.inl rfl | exact Or.inr rfl | exact bI_01 _) ?_
        exact no (by unfold gdB dg; rw [if_pos ⟨by omega, c21⟩]; simp [Int32.not_le.mpr c27])
      · refine go_iload_n dX5_isGood_30 rfl rfl ?_
        refine go_bipush (v := nI 57) dX5_isGood_31 rfl ?_
        refine go_icmp_gt (tgt := 40) dX5_isGood_33 (by decide) (fun c33 => ?_) (fun c33 => ?_)
        · refine go_iconst (v := nI 0) dX5_isGood_40 rfl ?_
          refine go_zret rfl dX5_isGood_41 (by first | exact Or.inl rfl | exact Or.inr rfl | exact bI_01 _) ?_
          exact no (by unfold gdB dg; rw [if_pos ⟨by omega, c21⟩]; simp [Int32.not_le.mpr c33])
        · refine go_iconst (v := nI 1) dX5_isGood_36 rfl ?_
          refine go_goto (tgt := 41) dX5_isGood_37 (by decide) ?_
          refine go_zret rfl dX5_isGood_41 (by first | exact Or.inl rfl | exact Or.inr rfl | exact bI_01 _) ?_
          exact yes (by unfold gdB dg; rw [if_pos ⟨by omega, c21⟩]; simp [Int32.not_lt.mp c27, Int32.not_lt.mp c33])
/-- the first fault from k on, m letters still to come -/
def ffF (pg : Nat → Int32) : Nat → Nat → Nat
  | 0, k => k
  | m + 1, k => if gdB pg k = true then ffF pg m (k + 1) else k
def ffM (pg : Nat → Int32) (n : Nat) : Nat := ffF pg n 0
theorem ffF_le (pg : Nat → Int32) : ∀ m k : Nat, k ≤ ffF pg m k ∧ ffF pg m k ≤ k + m
  | 0, k => ⟨Nat.le_refl _, Nat.le_refl _⟩
  | m + 1, k => by
    unfold ffF
    split
    · have := ffF_le pg m (k + 1); omega
    · omega
theorem ffF_all {pg : Nat → Int32} : ∀ m k : Nat, ffF pg m k = k + m → ∀ j, k ≤ j → j < k + m → gdB pg j = true
  | 0, k, _, j, h1, h2 => by omega
  | m + 1, k, h, j, h1, h2 => by
    unfold ffF at h
    split at h
    · rename_i q
      by_cases e : j = k
      · subst e; exact q
      · exact ffF_all m (k + 1) (by omega) j (by omega) (by omega)
    · omega
theorem lp_firstFault {Γ : Gm} {σ : Mm} {n : Nat} (hn : n ≤ 22) (hs : σ.1 1 1 = nI n) : ∀ (m k : Nat), k + m = n → Go Γ 2 mX5_firstFault (aP (nI (ffF (σ.1 2) m k)) σ) 2 [some (rf Γ 1), some (.int (nI k))] [] σ := by
  intro m
  induction m with
  | zero =>
    intro k hm
    have e : k = n := by omega
    subst e
    refine go_iload_n dX5_firstFault_2 rfl rfl ?_
    refine go_aload_n dX5_firstFault_3 rfl rfl ?_
    refine go_getI flX5_15 fs_1_1 dX5_firstFault_4 ?_
    rw [hs]
    refine go_icmp_ge (tgt := 26) dX5_firstFault_7 (by decide) (fun c7 => ?_) (fun c7 => ?_)
    · refine go_aload_n dX5_firstFault_26 rfl rfl ?_
      refine go_getI flX5_15 fs_1_1 dX5_firstFault_27 ?_
      rw [hs]
      refine go_iret rfl dX5_firstFault_30 ?_
      exact ⟨rfl, rfl⟩
    · exact absurd (Int32.le_refl _) c7
  | succ m ih =>
    intro k hm
    refine go_iload_n dX5_firstFault_2 rfl rfl ?_
    refine go_aload_n dX5_firstFault_3 rfl rfl ?_
    refine go_getI flX5_15 fs_1_1 dX5_firstFault_4 ?_
    rw [hs]
    refine go_icmp_ge (tgt := 26) dX5_firstFault_7 (by decide) (fun c7 => ?_) (fun c7 => ?_)
    · exact absurd c7 (nI_ge (by omega) (by omega))
    · refine go_aload_n dX5_firstFault_10 rfl rfl ?_
      refine go_iload_n dX5_firstFault_11 rfl rfl ?_
      refine go_callVp cvX5_19 os_1 (sp_isGood (by omega)) (by omega) rfl rfl (Nat.le_of_ble_eq_true rfl) dX5_firstFault_12 ?_
      refine go_if_ne (tgt := 20) dX5_firstFault_15 (by decide) (fun c15 => ?_) (fun c15 => ?_)
      · refine go_iinc (v := nI (k + 1)) (L' := [_, _]) dX5_firstFault_20 rfl (nI_1 _) (by decide) rfl rfl ?_
        refine go_goto (tgt := 2) dX5_firstFault_23 (by decide) ?_
        rw [show ffF (σ.1 2) (m + 1) k = ffF (σ.1 2) m (k + 1) by conv => lhs; unfold ffF; rw [if_pos (bI_ne0.mp c15)]]
        exact ih (k + 1) (by omega)
      · refine go_iload_n dX5_firstFault_18 rfl rfl ?_
        refine go_iret rfl dX5_firstFault_19 ?_
        exact ⟨by unfold ffF; rw [if_neg (by rw [bI_eq0.mp c15]; simp)], rfl⟩
theorem sp_firstFault {Γ : Gm} {σ : Mm} {n : Nat} (hn : n ≤ 22) (hs : σ.1 1 1 = nI n) : Sp Γ 2 mX5_firstFault [rf Γ 1] σ (aP (nI (ffM (σ.1 2) n)) σ) := by
  refine sp_in (L := [some (rf Γ 1), none]) rfl (Nat.le_of_ble_eq_true rfl) rfl ?_
  refine go_iconst (v := nI 0) dX5_firstFault_0 rfl ?_
  refine go_istore_n (L' := [_, _]) dX5_firstFault_1 rfl (by decide) rfl rfl ?_
  exact lp_firstFault hn hs n 0 (by omega)
def crdB (pg : Nat → Int32) (n : Nat) : Bool := decide (2 ≤ n) && (decide (pg (n - 2) = nI 59) && decide (ffM pg n = n))
theorem sp_isCard {Γ : Gm} {σ : Mm} {n : Nat} (hn : n ≤ 22) (hs : σ.1 1 1 = nI n) : Sp Γ 3 mX5_isCard [rf Γ 1] σ (aP (bI (crdB (σ.1 2) n)) σ) := by
  have hf := ffF_le (σ.1 2) n 0
  refine sp_in (L := [some (rf Γ 1)]) rfl (Nat.le_of_ble_eq_true rfl) rfl ?_
  refine go_aload_n dX5_isCard_0 rfl rfl ?_
  refine go_getI flX5_15 fs_1_1 dX5_isCard_1 ?_
  rw [hs]
  refine go_iconst (v := nI 2) dX5_isCard_4 rfl ?_
  refine go_icmp_lt (tgt := 39) dX5_isCard_5 (by decide) (fun c5 => ?_) (fun c5 => ?_)
  · rw [nI_ltI (by omega) (by omega)] at c5
    refine go_iconst (v := nI 0) dX5_isCard_39 rfl ?_
    refine go_zret rfl dX5_isCard_40 (by first | exact Or.inl rfl | exact Or.inr rfl | exact bI_01 _) ?_
    exact ⟨by rw [show crdB (σ.1 2) n = false by unfold crdB; simp [show ¬ 2 ≤ n by omega]]; rfl, rfl⟩
  · rw [nI_ltI (by omega) (by omega)] at c5
    refine go_aload_n dX5_isCard_8 rfl rfl ?_
    refine go_getR flX5_9 fs_1_0 dX5_isCard_9 ?_
    refine go_aload_n dX5_isCard_12 rfl rfl ?_
    refine go_getI flX5_15 fs_1_1 dX5_isCard_13 ?_
    rw [hs]
    refine go_iconst (v := nI 2) dX5_isCard_16 rfl ?_
    refine go_isub dX5_isCard_17 ?_
    rw [pk_sub (show 2 ≤ n by omega)]
    refine go_iald (n - 2) rfl as_2 (by omega) (by decide) dX5_isCard_18 ?_
    refine go_bipush (v := nI 59) dX5_isCard_19 rfl ?_
    refine go_icmp_ne (tgt := 39) dX5_isCard_21 (by decide) (fun c21 => ?_) (fun c21 => ?_)
    · refine go_iconst (v := nI 0) dX5_isCard_39 rfl ?_
      refine go_zret rfl dX5_isCard_40 (by first | exact Or.inl rfl | exact Or.inr rfl | exact bI_01 _) ?_
      exact ⟨by rw [show crdB (σ.1 2) n = false by unfold crdB; simp [c21]]; rfl, rfl⟩
    · refine go_aload_n dX5_isCard_24 rfl rfl ?_
      refine go_callVp cvX5_23 os_1 (sp_firstFault hn hs) (by omega) rfl rfl (Nat.le_of_ble_eq_true rfl) dX5_isCard_25 ?_
      refine go_aload_n dX5_isCard_28 rfl rfl ?_
      refine go_getI flX5_15 fs_1_1 dX5_isCard_29 ?_
      rw [hs]
      refine go_icmp_ne (tgt := 39) dX5_isCard_32 (by decide) (fun c32 => ?_) (fun c32 => ?_)
      · rw [nI_eq (by unfold ffM; omega) (by omega)] at c32
        refine go_iconst (v := nI 0) dX5_isCard_39 rfl ?_
        refine go_zret rfl dX5_isCard_40 (by first | exact Or.inl rfl | exact Or.inr rfl | exact bI_01 _) ?_
        exact ⟨by rw [show crdB (σ.1 2) n = false by unfold crdB; simp [c32]]; rfl, rfl⟩
      · rw [nI_eq (by unfold ffM; omega) (by omega)] at c32
        refine go_iconst (v := nI 1) dX5_isCard_35 rfl ?_
        refine go_goto (tgt := 40) dX5_isCard_36 (by decide) ?_
        refine go_zret rfl dX5_isCard_40 (by first | exact Or.inl rfl | exact Or.inr rfl | exact bI_01 _) ?_
        exact ⟨by rw [show crdB (σ.1 2) n = true by unfold crdB; simp [c21, c32]; omega]; rfl, rfl⟩
