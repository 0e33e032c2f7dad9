/-! the model: its data, its small methods -/
def isR (r : Nat) : Prop := r = 66 ∨ r = 67
theorem aR {r : Nat} (h : isR r) : ash r = some 5 := by rcases h with rfl | rfl <;> decide
theorem isR66 : isR 66 := Or.inl rfl
theorem isR67 : isR 67 := Or.inr rfl
def MP (σ : Mm) (P : Pb) : Prop := (σ.1 58 7 = nI (pD P) ∧ pD P ≤ 6) ∧ (σ.1 58 14 = nI (pG P) ∧ pG P ≤ 5) ∧ (∀ d, d < pD P → σ.1 62 d = pSt P d ∧ σ.1 63 d = pPr P d) ∧ ∀ g, g < pG P → σ.1 64 (2 * g) = pKi P g ∧ σ.1 64 (2 * g + 1) = pPu P g ∧ ∀ d, d < pD P → σ.1 65 (6 * g + d) = pWa P g d
def BY (σ : Mm) (P : Pb) : Prop := σ.1 58 18 = pLo P ∧ σ.1 58 19 = pUr P ∧ σ.1 58 20 = pMu P
def Rw (σ : Mm) (r : Nat) (P : Pb) (h : Nat → Int32) : Prop := ∀ g, g < pG P → σ.1 r g = h g
theorem i64_le {x y : Int32} : x.toInt64 ≤ y.toInt64 ↔ x ≤ y := by
  rw [Int64.le_iff_toInt_le, Int32.le_iff_toInt_le, Int32.toInt_toInt64, Int32.toInt_toInt64]
theorem cmp_lt {x y : Int64} : lg_cmp x y < 0 ↔ x < y := lg_cmp_lt x y
theorem cmp_gt {x y : Int64} : 0 < lg_cmp x y ↔ y < x := lg_cmp_gt x y
set_option maxHeartbeats 1000000 in
theorem sm_in {Γ : Gm} {σ : Mm} {a lo hi : Int32} {x l u : Int64} (ea : x = a.toInt64) (el : l = lo.toInt64) (eu : u = hi.toInt64) : Sp Γ 1 mX9_in [.long x, .long l, .long u] σ (aP (bI (inR lo hi a)) σ) := by
  subst ea; subst el; subst eu
  refine sp_in (L := [some (.long a.toInt64), none, some (.long lo.toInt64), none, some (.long hi.toInt64), none]) rfl (Nat.le_of_ble_eq_true rfl) rfl ?_
  refine go_lload_n dX9_in_0 rfl rfl ?_
  refine go_lload_n dX9_in_1 rfl rfl ?_
  refine go_lcmp dX9_in_2 ?_
  refine go_if_lt (tgt := 17) dX9_in_3 (by decide) (fun c3 => ?_) (fun c3 => ?_)
  · have c3 : ¬ lo ≤ a := fun z => Int64.not_lt.mpr (i64_le.mpr z) (cmp_lt.mp c3)
    refine go_iconst (v := nI 0) dX9_in_17 rfl ?_
    refine go_zret rfl dX9_in_18 (by first | exact Or.inl rfl | exact Or.inr rfl | exact bI_01 _) ?_
    exact ⟨by rw [show inR lo hi a = false by unfold inR; simp [c3]]; rfl, rfl⟩
  · have c3 : lo ≤ a := i64_le.mp (Int64.not_lt.mp (fun z => c3 (cmp_lt.mpr z)))
    refine go_lload_n dX9_in_6 rfl rfl ?_
    refine go_lload dX9_in_7 rfl ?_
    refine go_lcmp dX9_in_9 ?_
    refine go_if_gt (tgt := 17) dX9_in_10 (by decide) (fun c10 => ?_) (fun c10 => ?_)
    · have c10 : ¬ a ≤ hi := fun z => Int64.not_lt.mpr (i64_le.mpr z) (cmp_gt.mp c10)
      refine go_iconst (v := nI 0) dX9_in_17 rfl ?_
      refine go_zret rfl dX9_in_18 (by first | exact Or.inl rfl | exact Or.inr rfl | exact bI_01 _) ?_
      exact ⟨by rw [show inR lo hi a = false by unfold inR; simp [c10]]; rfl, rfl⟩
    · have c10 : a ≤ hi := i64_le.mp (Int64.not_lt.mp (fun z => c10 (cmp_gt.mpr z)))
      refine go_iconst (v := nI 1) dX9_in_13 rfl ?_
      refine go_goto (tgt := 18) dX9_in_14 (by decide) ?_
      refine go_zret rfl dX9_in_18 (by first | exact Or.inl rfl | exact Or.inr rfl | exact bI_01 _) ?_
      exact ⟨by rw [show inR lo hi a = true by unfold inR; simp [c3, c10]]; rfl, rfl⟩
theorem inR_n {n : Nat} {a : Int32} (hn : n < 2 ^ 30) : inR (nI 0) (nI n - nI 1) a = (ix n a).isSome := by
  cases n with
  | zero =>
    rw [ix_out (by by_cases z : a < 0; exact Or.inl z; exact Or.inr (Int32.not_lt.mp z))]
    by_cases z : nI 0 ≤ a
    · have : ¬ a ≤ nI 0 - nI 1 := fun y => absurd (Int32.le_trans z y) (by decide)
      simp [inR, this]
    · simp [inR, z]
  | succ n =>
    rw [pk_sub (by omega), Nat.add_sub_cancel]
    exact inR_ix (by omega)
set_option maxHeartbeats 1000000 in
theorem sm_lacks {Γ : Gm} {σ : Mm} {P : Pb} (hP : MP σ P) : Sp Γ 1 mX9_lacks [rf Γ 58] σ (aP (bI (decide (pD P = 0))) σ) := by
  have hD := hP.1.2
  refine sp_in (L := [some (rf Γ 58)]) rfl (Nat.le_of_ble_eq_true rfl) rfl ?_
  refine go_aload_n dX9_lacks_0 rfl rfl ?_
  refine go_getI flX9_90 fs_58_7 dX9_lacks_1 ?_
  rw [hP.1.1]
  refine go_if_ne (tgt := 11) dX9_lacks_4 (by decide) (fun c4 => ?_) (fun c4 => ?_)
  · refine go_iconst (v := nI 0) dX9_lacks_11 rfl ?_
    refine go_zret rfl dX9_lacks_12 (by first | exact Or.inl rfl | exact Or.inr rfl | exact bI_01 _) ?_
    rw [nI_z (by omega)] at c4
    exact ⟨by rw [decide_eq_false c4]; rfl, rfl⟩
  · refine go_iconst (v := nI 1) dX9_lacks_7 rfl ?_
    refine go_goto (tgt := 12) dX9_lacks_8 (by decide) ?_
    refine go_zret rfl dX9_lacks_12 (by first | exact Or.inl rfl | exact Or.inr rfl | exact bI_01 _) ?_
    rw [nI_z (by omega)] at c4
    exact ⟨by rw [decide_eq_true c4]; rfl, rfl⟩
set_option maxHeartbeats 1000000 in
theorem sm_isDish {Γ : Gm} {σ : Mm} {P : Pb} {a : Int32} (hP : MP σ P) : Sp Γ 2 mX9_isDish [rf Γ 58, .int a] σ (aP (bI (ix (pD P) a).isSome) σ) := by
  have hD := hP.1.2
  refine sp_in (L := [some (rf Γ 58), some (.int a)]) rfl (Nat.le_of_ble_eq_true rfl) rfl ?_
  refine go_iload_n dX9_isDish_0 rfl rfl ?_
  refine go_i2l dX9_isDish_1 ?_
  refine go_lconst (v := 0) dX9_isDish_2 rfl ?_
  refine go_aload_n dX9_isDish_3 rfl rfl ?_
  refine go_getI flX9_90 fs_58_7 dX9_isDish_4 ?_
  rw [hP.1.1]
  refine go_iconst (v := nI 1) dX9_isDish_7 rfl ?_
  refine go_isub dX9_isDish_8 ?_
  refine go_i2l dX9_isDish_9 ?_
  refine go_callSp csX9_64 (sm_in (lo := nI 0) (hi := nI (pD P) - nI 1) rfl rfl rfl) (by omega) rfl rfl (Nat.le_of_ble_eq_true rfl) dX9_isDish_10 ?_
  rw [inR_n (show pD P < 2 ^ 30 by omega)]
  refine go_zret rfl dX9_isDish_13 (by first | exact Or.inl rfl | exact Or.inr rfl | exact bI_01 _) ?_
  exact ⟨rfl, rfl⟩
set_option maxHeartbeats 1000000 in
theorem sm_isGuest {Γ : Gm} {σ : Mm} {P : Pb} {a : Int32} (hP : MP σ P) : Sp Γ 2 mX9_isGuest [rf Γ 58, .int a] σ (aP (bI (ix (pG P) a).isSome) σ) := by
  have hG := hP.2.1.2
  refine sp_in (L := [some (rf Γ 58), some (.int a)]) rfl (Nat.le_of_ble_eq_true rfl) rfl ?_
  refine go_iload_n dX9_isGuest_0 rfl rfl ?_
  refine go_i2l dX9_isGuest_1 ?_
  refine go_lconst (v := 0) dX9_isGuest_2 rfl ?_
  refine go_aload_n dX9_isGuest_3 rfl rfl ?_
  refine go_getI flX9_96 fs_58_14 dX9_isGuest_4 ?_
  rw [hP.2.1.1]
  refine go_iconst (v := nI 1) dX9_isGuest_7 rfl ?_
  refine go_isub dX9_isGuest_8 ?_
  refine go_i2l dX9_isGuest_9 ?_
  refine go_callSp csX9_64 (sm_in (lo := nI 0) (hi := nI (pG P) - nI 1) rfl rfl rfl) (by omega) rfl rfl (Nat.le_of_ble_eq_true rfl) dX9_isGuest_10 ?_
  rw [inR_n (show pG P < 2 ^ 30 by omega)]
  refine go_zret rfl dX9_isGuest_13 (by first | exact Or.inl rfl | exact Or.inr rfl | exact bI_01 _) ?_
  exact ⟨rfl, rfl⟩
set_option maxHeartbeats 1000000 in
theorem lp_haveOf {Γ : Gm} {σ : Mm} {P : Pb} {h : Nat → Int32} {rr : Nat} {x : Int32} (hrr : isR rr) (hP : MP σ P) (hR : Rw σ rr P h) : ∀ (m g : Nat), g + m = pG P → Go Γ 1 mX9_haveOf (aP (nI (cnt h x (pG P))) σ) 5 [some (rf Γ 58), some (rf Γ rr), some (.int x), some (.int (nI (cnt h x g))), some (.int (nI g))] [] σ := by
  have hG := hP.2.1.2
  intro m
  induction m with
  | zero =>
    intro g hg
    have e : g = pG P := by omega
    subst e
    refine go_iload dX9_haveOf_5 rfl ?_
    refine go_aload_n dX9_haveOf_7 rfl rfl ?_
    refine go_getI flX9_96 fs_58_14 dX9_haveOf_8 ?_
    rw [hP.2.1.1]
    refine go_icmp_ge (tgt := 36) dX9_haveOf_11 (by decide) (fun c11 => ?_) (fun c11 => ?_)
    · refine go_iload_n dX9_haveOf_36 rfl rfl ?_
      refine go_iret rfl dX9_haveOf_37 ?_
      exact ⟨rfl, rfl⟩
    · exact absurd (Int32.le_refl _) c11
  | succ m ih =>
    intro g hg
    have stp := ih (g + 1) (by omega)
    refine go_iload dX9_haveOf_5 rfl ?_
    refine go_aload_n dX9_haveOf_7 rfl rfl ?_
    refine go_getI flX9_96 fs_58_14 dX9_haveOf_8 ?_
    rw [hP.2.1.1]
    refine go_icmp_ge (tgt := 36) dX9_haveOf_11 (by decide) (fun c11 => ?_) (fun c11 => ?_)
    · exact absurd c11 (nI_ge (by omega) (by omega))
    · refine go_iload_n dX9_haveOf_14 rfl rfl ?_
      refine go_aload_n dX9_haveOf_15 rfl rfl ?_
      refine go_iload dX9_haveOf_16 rfl ?_
      refine go_iald (g) rfl (aR hrr) (by omega) (by decide) dX9_haveOf_18 ?_
      rw [hR g (by omega)]
      refine go_iload_n dX9_haveOf_19 rfl rfl ?_
      refine go_icmp_ne (tgt := 27) dX9_haveOf_20 (by decide) (fun c20 => ?_) (fun c20 => ?_)
      · refine go_iconst (v := nI 0) dX9_haveOf_27 rfl ?_
        refine go_iadd dX9_haveOf_28 ?_
        rw [nI_add]
        refine go_istore_n (L' := [_, _, _, _, _]) dX9_haveOf_29 rfl (by decide) rfl rfl ?_
        refine go_iinc (v := nI (g + 1)) (L' := [_, _, _, _, _]) dX9_haveOf_30 rfl (nI_1 _) (by decide) rfl rfl ?_
        refine go_goto (tgt := 5) dX9_haveOf_33 (by decide) ?_
        rw [show cnt h x (g + 1) = cnt h x g + 0 by conv => lhs; unfold cnt; rw [if_neg c20]] at stp
        exact stp
      · refine go_iconst (v := nI 1) dX9_haveOf_23 rfl ?_
        refine go_goto (tgt := 28) dX9_haveOf_24 (by decide) ?_
        refine go_iadd dX9_haveOf_28 ?_
        rw [nI_add]
        refine go_istore_n (L' := [_, _, _, _, _]) dX9_haveOf_29 rfl (by decide) rfl rfl ?_
        refine go_iinc (v := nI (g + 1)) (L' := [_, _, _, _, _]) dX9_haveOf_30 rfl (nI_1 _) (by decide) rfl rfl ?_
        refine go_goto (tgt := 5) dX9_haveOf_33 (by decide) ?_
        rw [show cnt h x (g + 1) = cnt h x g + 1 by conv => lhs; unfold cnt; rw [if_pos c20]] at stp
        exact stp
set_option maxHeartbeats 1000000 in
theorem sm_haveOf {Γ : Gm} {σ : Mm} {P : Pb} {h : Nat → Int32} {rr : Nat} {x : Int32} (hrr : isR rr) (hP : MP σ P) (hR : Rw σ rr P h) : Sp Γ 1 mX9_haveOf [rf Γ 58, rf Γ rr, .int x] σ (aP (nI (cnt h x (pG P))) σ) := by
  refine sp_in (L := [some (rf Γ 58), some (rf Γ rr), some (.int x), none, none]) rfl (Nat.le_of_ble_eq_true rfl) rfl ?_
  refine go_iconst (v := nI 0) dX9_haveOf_0 rfl ?_
  refine go_istore_n (L' := [_, _, _, _, _]) dX9_haveOf_1 rfl (by decide) rfl rfl ?_
  refine go_iconst (v := nI 0) dX9_haveOf_2 rfl ?_
  refine go_istore (L' := [_, _, _, _, _]) dX9_haveOf_3 (by decide) rfl rfl ?_
  exact lp_haveOf hrr hP hR (pG P) 0 (by omega)
theorem swK_n (k : Int32) : swK k = if k = 0 then -1 else if k = nI 1 then 0 else if k = nI 2 then -2 else if k = nI 3 then 1 else 2 := rfl
set_option maxHeartbeats 1000000 in
theorem sm_swayBy {Γ : Gm} {σ : Mm} {P : Pb} {g : Nat} {x : Int32} (hP : MP σ P) (hg : g < pG P) : Sp Γ 1 mX9_swayBy [rf Γ 58, .int (nI g), .int x] σ (aP (swK (pKi P g) * x) σ) := by
  have hG := hP.2.1.2
  refine sp_in (L := [some (rf Γ 58), some (.int (nI g)), some (.int x), none]) rfl (Nat.le_of_ble_eq_true rfl) rfl ?_
  refine go_aload_n dX9_swayBy_0 rfl rfl ?_
  refine go_getR flX9_25 fs_58_15 dX9_swayBy_1 ?_
  refine go_iconst (v := nI 2) dX9_swayBy_4 rfl ?_
  refine go_iload_n dX9_swayBy_5 rfl rfl ?_
  refine go_imul dX9_swayBy_6 ?_
  refine go_iald (2 * g) (by simp only [pk_mul, nI_add]) as_64 (by omega) (by decide) dX9_swayBy_7 ?_
  rw [(hP.2.2.2 g hg).1]
  refine go_istore_n (L' := [_, _, _, _]) dX9_swayBy_8 rfl (by decide) rfl rfl ?_
  refine go_iload_n dX9_swayBy_9 rfl rfl ?_
  refine go_if_ne (tgt := 18) dX9_swayBy_10 (by decide) (fun c10 => ?_) (fun c10 => ?_)
  · refine go_iload_n dX9_swayBy_18 rfl rfl ?_
    refine go_iconst (v := nI 1) dX9_swayBy_19 rfl ?_
    refine go_icmp_ne (tgt := 27) dX9_swayBy_20 (by decide) (fun c20 => ?_) (fun c20 => ?_)
    · refine go_iload_n dX9_swayBy_27 rfl rfl ?_
      refine go_iconst (v := nI 2) dX9_swayBy_28 rfl ?_
      refine go_icmp_ne (tgt := 39) dX9_swayBy_29 (by decide) (fun c29 => ?_) (fun c29 => ?_)
      · refine go_iload_n dX9_swayBy_39 rfl rfl ?_
        refine go_iconst (v := nI 3) dX9_swayBy_40 rfl ?_
        refine go_icmp_ne (tgt := 48) dX9_swayBy_41 (by decide) (fun c41 => ?_) (fun c41 => ?_)
        · refine go_iconst (v := nI 2) dX9_swayBy_48 rfl ?_
          refine go_iload_n dX9_swayBy_49 rfl rfl ?_
          refine go_imul dX9_swayBy_50 ?_
          refine go_iret rfl dX9_swayBy_51 ?_
          exact ⟨by rw [swK_n, if_neg c10, if_neg c20, if_neg c29, if_neg c41]; rfl, rfl⟩
        · refine go_iload_n dX9_swayBy_44 rfl rfl ?_
          refine go_goto (tgt := 51) dX9_swayBy_45 (by decide) ?_
          refine go_iret rfl dX9_swayBy_51 ?_
          exact ⟨by rw [swK_n, if_neg c10, if_neg c20, if_neg c29, if_pos c41, Int32.one_mul], rfl⟩
      · refine go_bipush (v := (-2)) dX9_swayBy_32 rfl ?_
        refine go_iload_n dX9_swayBy_34 rfl rfl ?_
        refine go_imul dX9_swayBy_35 ?_
        refine go_goto (tgt := 51) dX9_swayBy_36 (by decide) ?_
        refine go_iret rfl dX9_swayBy_51 ?_
        exact ⟨by rw [swK_n, if_neg c10, if_neg c20, if_pos c29], rfl⟩
    · refine go_iconst (v := nI 0) dX9_swayBy_23 rfl ?_
      refine go_goto (tgt := 51) dX9_swayBy_24 (by decide) ?_
      refine go_iret rfl dX9_swayBy_51 ?_
      exact ⟨by rw [swK_n, if_neg c10, if_pos c20, Int32.zero_mul]; rfl, rfl⟩
  · refine go_iload_n dX9_swayBy_13 rfl rfl ?_
    refine go_ineg dX9_swayBy_14 ?_
    refine go_goto (tgt := 51) dX9_swayBy_15 (by decide) ?_
    refine go_iret rfl dX9_swayBy_51 ?_
    exact ⟨by rw [swK_n, if_pos c10, show (-1 : Int32) * x = -x by grind], rfl⟩
set_option maxHeartbeats 1000000 in
theorem sm_joyOf {Γ : Gm} {σ : Mm} {P : Pb} {h : Nat → Int32} {rr g : Nat} (hrr : isR rr) (hP : MP σ P) (hR : Rw σ rr P h) (hg : g < pG P) (hv : h g < 0 ∨ ∃ d, d < pD P ∧ h g = nI d) : Sp Γ 1 mX9_joyOf [rf Γ 58, rf Γ rr, .int (nI g)] σ (aP (joyM P h g) σ) := by
  have hG := hP.2.1.2
  have hD := hP.1.2
  refine sp_in (L := [some (rf Γ 58), some (rf Γ rr), some (.int (nI g))]) rfl (Nat.le_of_ble_eq_true rfl) rfl ?_
  refine go_aload_n dX9_joyOf_0 rfl rfl ?_
  refine go_iload_n dX9_joyOf_1 rfl rfl ?_
  refine go_iald (g) rfl (aR hrr) (by omega) (by decide) dX9_joyOf_2 ?_
  rw [hR g hg]
  refine go_if_ge (tgt := 10) dX9_joyOf_3 (by decide) (fun c3 => ?_) (fun c3 => ?_)
  · obtain ⟨d, hd, e⟩ := hv.resolve_left (Int32.not_lt.mpr c3)
    refine go_aload_n dX9_joyOf_10 rfl rfl ?_
    refine go_getR flX9_28 fs_58_16 dX9_joyOf_11 ?_
    refine go_bipush (v := nI 6) dX9_joyOf_14 rfl ?_
    refine go_iload_n dX9_joyOf_16 rfl rfl ?_
    refine go_imul dX9_joyOf_17 ?_
    refine go_aload_n dX9_joyOf_18 rfl rfl ?_
    refine go_iload_n dX9_joyOf_19 rfl rfl ?_
    refine go_iald (g) rfl (aR hrr) (by omega) (by decide) dX9_joyOf_20 ?_
    rw [hR g hg, e]
    refine go_iadd dX9_joyOf_21 ?_
    refine go_iald ((6 * g) + d) (by simp only [pk_mul, nI_add]) as_65 (by omega) (by decide) dX9_joyOf_22 ?_
    rw [(hP.2.2.2 g hg).2.2 d hd]
    refine go_iret rfl dX9_joyOf_23 ?_
    exact ⟨by unfold joyM; rw [if_neg (Int32.not_lt.mpr c3), e, nI_clamp (by omega)], rfl⟩
  · refine go_iconst (v := nI 0) dX9_joyOf_6 rfl ?_
    refine go_goto (tgt := 23) dX9_joyOf_7 (by decide) ?_
    refine go_iret rfl dX9_joyOf_23 ?_
    exact ⟨by unfold joyM; rw [if_pos (Int32.not_le.mp c3)]; rfl, rfl⟩
set_option maxHeartbeats 1000000 in
theorem sm_valueOf {Γ : Gm} {σ : Mm} {P : Pb} {h : Nat → Int32} {rr g d : Nat} {x : Int32} (hrr : isR rr) (hP : MP σ P) (hB : BY σ P) (hR : Rw σ rr P h) (hg : g < pG P) (hd : d < pD P) (e : x = nI d) : Sp Γ 2 mX9_valueOf [rf Γ 58, rf Γ rr, .int (nI g), .int x] σ (aP (valM P h g d) σ) := by
  subst e
  have hG := hP.2.1.2
  have hD := hP.1.2
  refine sp_in (L := [some (rf Γ 58), some (rf Γ rr), some (.int (nI g)), some (.int (nI d)), none]) rfl (Nat.le_of_ble_eq_true rfl) rfl ?_
  refine go_aload_n dX9_valueOf_0 rfl rfl ?_
  refine go_aload_n dX9_valueOf_1 rfl rfl ?_
  refine go_iload_n dX9_valueOf_2 rfl rfl ?_
  refine go_callVp cvX9_108 os_58 (sm_haveOf hrr hP hR) (by omega) rfl rfl (Nat.le_of_ble_eq_true rfl) dX9_valueOf_3 ?_
  refine go_aload_n dX9_valueOf_6 rfl rfl ?_
  refine go_iload_n dX9_valueOf_7 rfl rfl ?_
  refine go_iald (g) rfl (aR hrr) (by omega) (by decide) dX9_valueOf_8 ?_
  rw [hR g hg]
  refine go_iload_n dX9_valueOf_9 rfl rfl ?_
  refine go_icmp_ne (tgt := 17) dX9_valueOf_10 (by decide) (fun c10 => ?_) (fun c10 => ?_)
  · refine go_iconst (v := nI 0) dX9_valueOf_17 rfl ?_
    refine go_isub dX9_valueOf_18 ?_
    refine go_istore (L' := [_, _, _, _, _]) dX9_valueOf_19 (by decide) rfl rfl ?_
    refine go_aload_n dX9_valueOf_21 rfl rfl ?_
    refine go_getR flX9_28 fs_58_16 dX9_valueOf_22 ?_
    refine go_bipush (v := nI 6) dX9_valueOf_25 rfl ?_
    refine go_iload_n dX9_valueOf_27 rfl rfl ?_
    refine go_imul dX9_valueOf_28 ?_
    refine go_iload_n dX9_valueOf_29 rfl rfl ?_
    refine go_iadd dX9_valueOf_30 ?_
    refine go_iald ((6 * g) + d) (by simp only [pk_mul, nI_add]) as_65 (by omega) (by decide) dX9_valueOf_31 ?_
    rw [(hP.2.2.2 g hg).2.2 d hd]
    refine go_aload_n dX9_valueOf_32 rfl rfl ?_
    refine go_iload_n dX9_valueOf_33 rfl rfl ?_
    refine go_aload_n dX9_valueOf_34 rfl rfl ?_
    refine go_getI flX9_139 fs_58_18 dX9_valueOf_35 ?_
    rw [hB.1]
    refine go_callVp cvX9_125 os_58 (sm_swayBy hP hg) (by omega) rfl rfl (Nat.le_of_ble_eq_true rfl) dX9_valueOf_38 ?_
    refine go_iload dX9_valueOf_41 rfl ?_
    refine go_imul dX9_valueOf_43 ?_
    refine go_iadd dX9_valueOf_44 ?_
    refine go_iload_n dX9_valueOf_45 rfl rfl ?_
    refine go_aload_n dX9_valueOf_46 rfl rfl ?_
    refine go_getI flX9_142 fs_58_19 dX9_valueOf_47 ?_
    rw [hB.2.1]
    refine go_icmp_ne (tgt := 60) dX9_valueOf_50 (by decide) (fun c50 => ?_) (fun c50 => ?_)
    · refine go_iconst (v := nI 0) dX9_valueOf_60 rfl ?_
      refine go_iadd dX9_valueOf_61 ?_
      refine go_iret rfl dX9_valueOf_62 ?_
      exact ⟨by unfold valM oth; rw [if_neg c10, if_neg c50]; rfl, rfl⟩
    · refine go_aload_n dX9_valueOf_53 rfl rfl ?_
      refine go_getI flX9_145 fs_58_20 dX9_valueOf_54 ?_
      rw [hB.2.2]
      refine go_goto (tgt := 61) dX9_valueOf_57 (by decide) ?_
      refine go_iadd dX9_valueOf_61 ?_
      refine go_iret rfl dX9_valueOf_62 ?_
      exact ⟨by unfold valM oth; rw [if_neg c10, if_pos c50]; rfl, rfl⟩
  · refine go_iconst (v := nI 1) dX9_valueOf_13 rfl ?_
    refine go_goto (tgt := 18) dX9_valueOf_14 (by decide) ?_
    refine go_isub dX9_valueOf_18 ?_
    refine go_istore (L' := [_, _, _, _, _]) dX9_valueOf_19 (by decide) rfl rfl ?_
    refine go_aload_n dX9_valueOf_21 rfl rfl ?_
    refine go_getR flX9_28 fs_58_16 dX9_valueOf_22 ?_
    refine go_bipush (v := nI 6) dX9_valueOf_25 rfl ?_
    refine go_iload_n dX9_valueOf_27 rfl rfl ?_
    refine go_imul dX9_valueOf_28 ?_
    refine go_iload_n dX9_valueOf_29 rfl rfl ?_
    refine go_iadd dX9_valueOf_30 ?_
    refine go_iald ((6 * g) + d) (by simp only [pk_mul, nI_add]) as_65 (by omega) (by decide) dX9_valueOf_31 ?_
    rw [(hP.2.2.2 g hg).2.2 d hd]
    refine go_aload_n dX9_valueOf_32 rfl rfl ?_
    refine go_iload_n dX9_valueOf_33 rfl rfl ?_
    refine go_aload_n dX9_valueOf_34 rfl rfl ?_
    refine go_getI flX9_139 fs_58_18 dX9_valueOf_35 ?_
    rw [hB.1]
    refine go_callVp cvX9_125 os_58 (sm_swayBy hP hg) (by omega) rfl rfl (Nat.le_of_ble_eq_true rfl) dX9_valueOf_38 ?_
    refine go_iload dX9_valueOf_41 rfl ?_
    refine go_imul dX9_valueOf_43 ?_
    refine go_iadd dX9_valueOf_44 ?_
    refine go_iload_n dX9_valueOf_45 rfl rfl ?_
    refine go_aload_n dX9_valueOf_46 rfl rfl ?_
    refine go_getI flX9_142 fs_58_19 dX9_valueOf_47 ?_
    rw [hB.2.1]
    refine go_icmp_ne (tgt := 60) dX9_valueOf_50 (by decide) (fun c50 => ?_) (fun c50 => ?_)
    · refine go_iconst (v := nI 0) dX9_valueOf_60 rfl ?_
      refine go_iadd dX9_valueOf_61 ?_
      refine go_iret rfl dX9_valueOf_62 ?_
      exact ⟨by unfold valM oth; rw [if_pos c10, if_neg c50]; rfl, rfl⟩
    · refine go_aload_n dX9_valueOf_53 rfl rfl ?_
      refine go_getI flX9_145 fs_58_20 dX9_valueOf_54 ?_
      rw [hB.2.2]
      refine go_goto (tgt := 61) dX9_valueOf_57 (by decide) ?_
      refine go_iadd dX9_valueOf_61 ?_
      refine go_iret rfl dX9_valueOf_62 ?_
      exact ⟨by unfold valM oth; rw [if_pos c10, if_pos c50]; rfl, rfl⟩
set_option maxHeartbeats 1000000 in
theorem sm_mayHave {Γ : Gm} {σ : Mm} {P : Pb} {h : Nat → Int32} {rr g d : Nat} {x : Int32} (hrr : isR rr) (hP : MP σ P) (hR : Rw σ rr P h) (hg : g < pG P) (hd : d < pD P) (e : x = nI d) : Sp Γ 2 mX9_mayHave [rf Γ 58, rf Γ rr, .int (nI g), .int x] σ (aP (bI (mayM P h g d)) σ) := by
  subst e
  have hG := hP.2.1.2
  have hD := hP.1.2
  refine sp_in (L := [some (rf Γ 58), some (rf Γ rr), some (.int (nI g)), some (.int (nI d)), none]) rfl (Nat.le_of_ble_eq_true rfl) rfl ?_
  have at21 : ∀ x, x = oth P h g d → Go Γ 2 mX9_mayHave (aP (bI (mayM P h g d)) σ) 21 [some (rf Γ 58), some (rf Γ rr), some (.int (nI g)), some (.int (nI d)), some (.int x)] [] σ := by
    intro x hx
    subst hx
    refine go_aload_n dX9_mayHave_21 rfl rfl ?_
    refine go_getR flX9_22 fs_58_13 dX9_mayHave_22 ?_
    refine go_iload_n dX9_mayHave_25 rfl rfl ?_
    refine go_iald (d) rfl as_63 (by omega) (by decide) dX9_mayHave_26 ?_
    rw [(hP.2.2.1 d hd).2]
    refine go_aload_n dX9_mayHave_27 rfl rfl ?_
    refine go_getR flX9_25 fs_58_15 dX9_mayHave_28 ?_
    refine go_iconst (v := nI 2) dX9_mayHave_31 rfl ?_
    refine go_iload_n dX9_mayHave_32 rfl rfl ?_
    refine go_imul dX9_mayHave_33 ?_
    refine go_iconst (v := nI 1) dX9_mayHave_34 rfl ?_
    refine go_iadd dX9_mayHave_35 ?_
    refine go_iald ((2 * g) + 1) (by simp only [pk_mul, nI_add]) as_64 (by omega) (by decide) dX9_mayHave_36 ?_
    rw [(hP.2.2.2 g hg).2.1]
    refine go_icmp_gt (tgt := 55) dX9_mayHave_37 (by decide) (fun c37 => ?_) (fun c37 => ?_)
    · refine go_iconst (v := nI 0) dX9_mayHave_55 rfl ?_
      refine go_zret rfl dX9_mayHave_56 (by first | exact Or.inl rfl | exact Or.inr rfl | exact bI_01 _) ?_
      exact ⟨by rw [show mayM P h g d = false by unfold mayM; simp [Int32.not_le.mpr c37]]; rfl, rfl⟩
    · refine go_iload dX9_mayHave_40 rfl ?_
      refine go_aload_n dX9_mayHave_42 rfl rfl ?_
      refine go_getR flX9_19 fs_58_12 dX9_mayHave_43 ?_
      refine go_iload_n dX9_mayHave_46 rfl rfl ?_
      refine go_iald (d) rfl as_62 (by omega) (by decide) dX9_mayHave_47 ?_
      rw [(hP.2.2.1 d hd).1]
      refine go_icmp_ge (tgt := 55) dX9_mayHave_48 (by decide) (fun c48 => ?_) (fun c48 => ?_)
      · refine go_iconst (v := nI 0) dX9_mayHave_55 rfl ?_
        refine go_zret rfl dX9_mayHave_56 (by first | exact Or.inl rfl | exact Or.inr rfl | exact bI_01 _) ?_
        exact ⟨by rw [show mayM P h g d = false by unfold mayM; simp [Int32.not_lt.mpr c48]]; rfl, rfl⟩
      · refine go_iconst (v := nI 1) dX9_mayHave_51 rfl ?_
        refine go_goto (tgt := 56) dX9_mayHave_52 (by decide) ?_
        refine go_zret rfl dX9_mayHave_56 (by first | exact Or.inl rfl | exact Or.inr rfl | exact bI_01 _) ?_
        exact ⟨by rw [show mayM P h g d = true by unfold mayM; simp [Int32.not_lt.mp c37, Int32.not_le.mp c48]]; rfl, rfl⟩
  refine go_aload_n dX9_mayHave_0 rfl rfl ?_
  refine go_aload_n dX9_mayHave_1 rfl rfl ?_
  refine go_iload_n dX9_mayHave_2 rfl rfl ?_
  refine go_callVp cvX9_108 os_58 (sm_haveOf hrr hP hR) (by omega) rfl rfl (Nat.le_of_ble_eq_true rfl) dX9_mayHave_3 ?_
  refine go_aload_n dX9_mayHave_6 rfl rfl ?_
  refine go_iload_n dX9_mayHave_7 rfl rfl ?_
  refine go_iald (g) rfl (aR hrr) (by omega) (by decide) dX9_mayHave_8 ?_
  rw [hR g hg]
  refine go_iload_n dX9_mayHave_9 rfl rfl ?_
  refine go_icmp_ne (tgt := 17) dX9_mayHave_10 (by decide) (fun c10 => ?_) (fun c10 => ?_)
  · refine go_iconst (v := nI 0) dX9_mayHave_17 rfl ?_
    refine go_isub dX9_mayHave_18 ?_
    refine go_istore (L' := [_, _, _, _, _]) dX9_mayHave_19 (by decide) rfl rfl ?_
    exact at21 _ (by unfold oth; rw [if_neg c10]; rfl)
  · refine go_iconst (v := nI 1) dX9_mayHave_13 rfl ?_
    refine go_goto (tgt := 18) dX9_mayHave_14 (by decide) ?_
    refine go_isub dX9_mayHave_18 ?_
    refine go_istore (L' := [_, _, _, _, _]) dX9_mayHave_19 (by decide) rfl rfl ?_
    exact at21 _ (by unfold oth; rw [if_pos c10]; rfl)
set_option maxHeartbeats 1000000 in
theorem lp_bestFor {Γ : Gm} {σ : Mm} {P : Pb} {h : Nat → Int32} {rr g : Nat} (hrr : isR rr) (hP : MP σ P) (hB : BY σ P) (hR : Rw σ rr P h) (hg : g < pG P) : ∀ (m d : Nat), d + m = pD P → Go Γ 3 mX9_bestFor (aP (bestM P h g) σ) 8 [some (rf Γ 58), some (rf Γ rr), some (.int (nI g)), some (.int (fB (mayM P h g) (valM P h g) d).1), some (.int (fB (mayM P h g) (valM P h g) d).2), some (.int (nI d)), none, none] [] σ := by
  have hD := hP.1.2
  intro m
  induction m with
  | zero =>
    intro d hd
    have e : d = pD P := by omega
    subst e
    refine go_iload dX9_bestFor_8 rfl ?_
    refine go_aload_n dX9_bestFor_10 rfl rfl ?_
    refine go_getI flX9_90 fs_58_7 dX9_bestFor_11 ?_
    rw [hP.1.1]
    refine go_icmp_ge (tgt := 89) dX9_bestFor_14 (by decide) (fun c14 => ?_) (fun c14 => ?_)
    · refine go_iload_n dX9_bestFor_89 rfl rfl ?_
      refine go_iret rfl dX9_bestFor_90 ?_
      exact ⟨rfl, rfl⟩
    · exact absurd (Int32.le_refl _) c14
  | succ m ih =>
    intro d hd
    have stp := ih (d + 1) (by omega)
    have t0 : nI 0 = 0 := rfl
    have t1 : ¬ nI 1 = 0 := by decide
    have yes : mayM P h g d = true → ((fB (mayM P h g) (valM P h g) d).1 = -1 ∨ (fB (mayM P h g) (valM P h g) d).2 < valM P h g d) → Go Γ 3 mX9_bestFor (aP (bestM P h g) σ) 8 [some (rf Γ 58), some (rf Γ rr), some (.int (nI g)), some (.int (nI d)), some (.int (valM P h g d)), some (.int (nI (d + 1))), none, none] [] σ := by
      intro a b
      rw [show fB (mayM P h g) (valM P h g) (d + 1) = (nI d, valM P h g d) by conv => lhs; unfold fB; rw [if_pos a, if_pos b]] at stp
      exact stp
    have no : (mayM P h g d = false ∨ ¬ ((fB (mayM P h g) (valM P h g) d).1 = -1 ∨ (fB (mayM P h g) (valM P h g) d).2 < valM P h g d)) → Go Γ 3 mX9_bestFor (aP (bestM P h g) σ) 8 [some (rf Γ 58), some (rf Γ rr), some (.int (nI g)), some (.int (fB (mayM P h g) (valM P h g) d).1), some (.int (fB (mayM P h g) (valM P h g) d).2), some (.int (nI (d + 1))), none, none] [] σ := by
      intro a
      have : fB (mayM P h g) (valM P h g) (d + 1) = fB (mayM P h g) (valM P h g) d := by
        conv => lhs; unfold fB
        by_cases z : mayM P h g d = true
        · rw [if_pos z, if_neg (a.resolve_left (by rw [z]; simp))]
        · rw [if_neg z]
      rw [this] at stp
      exact stp
    refine go_iload dX9_bestFor_8 rfl ?_
    refine go_aload_n dX9_bestFor_10 rfl rfl ?_
    refine go_getI flX9_90 fs_58_7 dX9_bestFor_11 ?_
    rw [hP.1.1]
    refine go_icmp_ge (tgt := 89) dX9_bestFor_14 (by decide) (fun c14 => ?_) (fun c14 => ?_)
    · exact absurd c14 (nI_ge (by omega) (by omega))
    · refine go_aload_n dX9_bestFor_17 rfl rfl ?_
      refine go_aload_n dX9_bestFor_18 rfl rfl ?_
      refine go_iload_n dX9_bestFor_19 rfl rfl ?_
      refine go_iload dX9_bestFor_20 rfl ?_
      refine go_callVp cvX9_148 os_58 (sm_mayHave hrr hP hR hg (by omega) rfl) (by omega) rfl rfl (Nat.le_of_ble_eq_true rfl) dX9_bestFor_22 ?_
      refine go_if_eq (tgt := 83) dX9_bestFor_25 (by decide) (fun c25 => ?_) (fun c25 => ?_)
      · refine go_iinc (v := nI (d + 1)) (L' := [_, _, _, _, _, _, _, _]) dX9_bestFor_83 rfl (nI_1 _) (by decide) rfl rfl ?_
        refine go_goto (tgt := 8) dX9_bestFor_86 (by decide) ?_
        exact no (Or.inl (bI_eq0.mp c25))
      · refine go_aload_n dX9_bestFor_28 rfl rfl ?_
        refine go_aload_n dX9_bestFor_29 rfl rfl ?_
        refine go_iload_n dX9_bestFor_30 rfl rfl ?_
        refine go_iload dX9_bestFor_31 rfl ?_
        refine go_callVp cvX9_152 os_58 (sm_valueOf hrr hP hB hR hg (by omega) rfl) (by omega) rfl rfl (Nat.le_of_ble_eq_true rfl) dX9_bestFor_33 ?_
        refine go_istore (L' := [_, _, _, _, _, _, _, _]) dX9_bestFor_36 (by decide) rfl rfl ?_
        refine go_iload_n dX9_bestFor_38 rfl rfl ?_
        refine go_iconst (v := (-1)) dX9_bestFor_39 rfl ?_
        refine go_icmp_eq (tgt := 50) dX9_bestFor_40 (by decide) (fun c40 => ?_) (fun c40 => ?_)
        · refine go_iconst (v := nI 1) dX9_bestFor_50 rfl ?_
          refine go_goto (tgt := 55) dX9_bestFor_51 (by decide) ?_
          refine go_istore (L' := [_, _, _, _, _, _, _, _]) dX9_bestFor_55 (by decide) rfl rfl ?_
          refine go_iload dX9_bestFor_57 rfl ?_
          refine go_if_eq (tgt := 67) dX9_bestFor_59 (by decide) (fun c59 => ?_) (fun c59 => ?_)
          · exact absurd c59 t1
          · refine go_iload dX9_bestFor_62 rfl ?_
            refine go_goto (tgt := 68) dX9_bestFor_64 (by decide) ?_
            refine go_istore_n (L' := [_, _, _, _, _, _, _, _]) dX9_bestFor_68 rfl (by decide) rfl rfl ?_
            refine go_iload dX9_bestFor_69 rfl ?_
            refine go_if_eq (tgt := 79) dX9_bestFor_71 (by decide) (fun c71 => absurd c71 t1) (fun c71 => ?_)
            refine go_iload dX9_bestFor_74 rfl ?_
            refine go_goto (tgt := 81) dX9_bestFor_76 (by decide) ?_
            refine go_istore (L' := [_, _, _, _, _, _, _, _]) dX9_bestFor_81 (by decide) rfl rfl ?_
            refine go_iinc (v := nI (d + 1)) (L' := [_, _, _, _, _, _, _, _]) dX9_bestFor_83 rfl (nI_1 _) (by decide) rfl rfl ?_
            refine go_goto (tgt := 8) dX9_bestFor_86 (by decide) ?_
            exact go_sub [true, true, true, true, true, true, false, false] rfl (yes (bI_ne0.mp c25) (Or.inl c40))
        · refine go_iload dX9_bestFor_43 rfl ?_
          refine go_iload dX9_bestFor_45 rfl ?_
          refine go_icmp_le (tgt := 54) dX9_bestFor_47 (by decide) (fun c47 => ?_) (fun c47 => ?_)
          · refine go_iconst (v := nI 0) dX9_bestFor_54 rfl ?_
            refine go_istore (L' := [_, _, _, _, _, _, _, _]) dX9_bestFor_55 (by decide) rfl rfl ?_
            refine go_iload dX9_bestFor_57 rfl ?_
            refine go_if_eq (tgt := 67) dX9_bestFor_59 (by decide) (fun c59 => ?_) (fun c59 => ?_)
            · refine go_iload_n dX9_bestFor_67 rfl rfl ?_
              refine go_istore_n (L' := [_, _, _, _, _, _, _, _]) dX9_bestFor_68 rfl (by decide) rfl rfl ?_
              refine go_iload dX9_bestFor_69 rfl ?_
              refine go_if_eq (tgt := 79) dX9_bestFor_71 (by decide) (fun c71 => ?_) (fun c71 => absurd t0 c71)
              refine go_iload dX9_bestFor_79 rfl ?_
              refine go_istore (L' := [_, _, _, _, _, _, _, _]) dX9_bestFor_81 (by decide) rfl rfl ?_
              refine go_iinc (v := nI (d + 1)) (L' := [_, _, _, _, _, _, _, _]) dX9_bestFor_83 rfl (nI_1 _) (by decide) rfl rfl ?_
              refine go_goto (tgt := 8) dX9_bestFor_86 (by decide) ?_
              exact go_sub [true, true, true, true, true, true, false, false] rfl (no (Or.inr (fun z => z.elim c40 (fun y => Int32.not_lt.mpr c47 y))))
            · exact absurd t0 c59
          · refine go_iconst (v := nI 1) dX9_bestFor_50 rfl ?_
            refine go_goto (tgt := 55) dX9_bestFor_51 (by decide) ?_
            refine go_istore (L' := [_, _, _, _, _, _, _, _]) dX9_bestFor_55 (by decide) rfl rfl ?_
            refine go_iload dX9_bestFor_57 rfl ?_
            refine go_if_eq (tgt := 67) dX9_bestFor_59 (by decide) (fun c59 => ?_) (fun c59 => ?_)
            · exact absurd c59 t1
            · refine go_iload dX9_bestFor_62 rfl ?_
              refine go_goto (tgt := 68) dX9_bestFor_64 (by decide) ?_
              refine go_istore_n (L' := [_, _, _, _, _, _, _, _]) dX9_bestFor_68 rfl (by decide) rfl rfl ?_
              refine go_iload dX9_bestFor_69 rfl ?_
              refine go_if_eq (tgt := 79) dX9_bestFor_71 (by decide) (fun c71 => absurd c71 t1) (fun c71 => ?_)
              refine go_iload dX9_bestFor_74 rfl ?_
              refine go_goto (tgt := 81) dX9_bestFor_76 (by decide) ?_
              refine go_istore (L' := [_, _, _, _, _, _, _, _]) dX9_bestFor_81 (by decide) rfl rfl ?_
              refine go_iinc (v := nI (d + 1)) (L' := [_, _, _, _, _, _, _, _]) dX9_bestFor_83 rfl (nI_1 _) (by decide) rfl rfl ?_
              refine go_goto (tgt := 8) dX9_bestFor_86 (by decide) ?_
              exact go_sub [true, true, true, true, true, true, false, false] rfl (yes (bI_ne0.mp c25) (Or.inr (Int32.not_le.mp c47)))
set_option maxHeartbeats 1000000 in
theorem sm_bestFor {Γ : Gm} {σ : Mm} {P : Pb} {h : Nat → Int32} {rr g : Nat} (hrr : isR rr) (hP : MP σ P) (hB : BY σ P) (hR : Rw σ rr P h) (hg : g < pG P) : Sp Γ 3 mX9_bestFor [rf Γ 58, rf Γ rr, .int (nI g)] σ (aP (bestM P h g) σ) := by
  refine sp_in (L := [some (rf Γ 58), some (rf Γ rr), some (.int (nI g)), none, none, none, none, none]) rfl (Nat.le_of_ble_eq_true rfl) rfl ?_
  refine go_iconst (v := (-1)) dX9_bestFor_0 rfl ?_
  refine go_istore_n (L' := [_, _, _, _, _, _, _, _]) dX9_bestFor_1 rfl (by decide) rfl rfl ?_
  refine go_iconst (v := nI 0) dX9_bestFor_2 rfl ?_
  refine go_istore (L' := [_, _, _, _, _, _, _, _]) dX9_bestFor_3 (by decide) rfl rfl ?_
  refine go_iconst (v := nI 0) dX9_bestFor_5 rfl ?_
  refine go_istore (L' := [_, _, _, _, _, _, _, _]) dX9_bestFor_6 (by decide) rfl rfl ?_
  exact lp_bestFor hrr hP hB hR hg (pD P) 0 (by omega)
