/-! the model's public methods (1) -/
theorem bt0 : ¬ bI true = 0 := by decide
theorem MS.eq {σ σ' : Mm} {P : Pb} (h : MS σ P) (e : ∀ k, k = 7 ∨ k = 8 ∨ k = 10 ∨ k = 11 ∨ k = 14 → σ'.1 58 k = σ.1 58 k) (f : ∀ a, 62 ≤ a → a ≤ 65 → σ'.1 a = σ.1 a) : MS σ' P := by
  unfold MS MP
  rw [e 7 (by omega), e 8 (by omega), e 10 (by omega), e 11 (by omega), e 14 (by omega), f 62 (by omega) (by omega), f 63 (by omega) (by omega), f 64 (by omega) (by omega), f 65 (by omega) (by omega)]
  exact h
theorem ML.eq {σ σ' : Mm} {G : Nat} {E : Ev} (h : ML σ G E) (e : σ'.1 58 23 = σ.1 58 23) (f : σ'.1 68 = σ.1 68) : ML σ' G E := by
  unfold ML
  rw [e, f]
  exact h
theorem RM.page {σ σ' : Mm} {X : Xs} {n : Nat} {pg : Nat → Int32} (h : RM σ X) (ho : ∀ a, a ≠ 58 → a ≠ 59 → σ'.1 a = σ.1 a) (hf : ∀ k, k ≠ 1 → σ'.1 58 k = σ.1 58 k) (hp : σ'.1 58 1 = nI n ∧ ∀ k, k < n → σ'.1 59 k = pg k) : RM σ' (xP X, pg, n, X.2.2.2) := by
  obtain ⟨-, b, c, d, ⟨e1, e2⟩, f⟩ := h
  exact ⟨hp, b.eq (fun k hk => hf k (by omega)) (fun a h1 h2 => ho a (by omega) (by omega)), fun g hg => by rw [ho 66 (by omega) (by omega)]; exact c g hg, d.eq (hf 23 (by omega)) (ho 68 (by omega) (by omega)), ⟨by rw [hf 9 (by omega)]; exact e1, by rw [hf 22 (by omega)]; exact e2⟩, RMk.eq f (fun k h1 h2 => hf k (by omega)) (fun a h1 h2 => ho a (by omega) (by omega))⟩
set_option maxHeartbeats 1000000 in
theorem sm_letter {Γ : Gm} {σ : Mm} {X : Xs} {N : Nat} {a : Int32} (hI : XI N X) (h : RM σ X) : Sp Γ 2 mX9_letter [rf Γ 58, .int a] σ (aI (aLetter X a) (fun σ' => RM σ' (tLetter X a) ∧ FrM σ σ')) := by
  refine sp_in (L := [some (rf Γ 58), some (.int a)]) rfl (Nat.le_of_ble_eq_true rfl) rfl ?_
  have hs := h.1.1
  have hn := hI.1
  refine go_iload_n dX9_letter_0 rfl rfl ?_
  refine go_i2l dX9_letter_1 ?_
  refine go_lconst (v := 1) dX9_letter_2 rfl ?_
  refine go_ldc2 (v := 126) dX9_letter_3 klX9_62 ?_
  refine go_callSp csX9_64 (sm_in (lo := nI 1) (hi := nI 126) rfl rfl rfl) (by omega) rfl rfl (Nat.le_of_ble_eq_true rfl) dX9_letter_6 ?_
  refine go_if_ne (tgt := 15) dX9_letter_9 (by decide) (fun c9 => ?_) (fun c9 => ?_)
  · refine go_aload_n dX9_letter_15 rfl rfl ?_
    refine go_getI flX9_68 fs_58_1 dX9_letter_16 ?_
    rw [hs]
    refine go_bipush (v := nI 22) dX9_letter_19 rfl ?_
    refine go_icmp_ne (tgt := 27) dX9_letter_21 (by decide) (fun c21 => ?_) (fun c21 => ?_)
    · rw [nI_eq (by omega) (by omega)] at c21
      refine go_aload_n dX9_letter_27 rfl rfl ?_
      refine go_getR flX9_7 fs_58_0 dX9_letter_28 ?_
      refine go_aload_n dX9_letter_31 rfl rfl ?_
      refine go_getI flX9_68 fs_58_1 dX9_letter_32 ?_
      rw [hs]
      refine go_iload_n dX9_letter_35 rfl rfl ?_
      refine go_iast (xPn X) rfl as_59 (by omega) (by decide) dX9_letter_36 ?_
      refine go_aload_n dX9_letter_37 rfl rfl ?_
      refine go_dup dX9_letter_38 rfl ?_
      refine go_getI flX9_68 fs_58_1 dX9_letter_39 ?_
      rw [stI_ne (by omega), hs]
      refine go_iconst (v := nI 1) dX9_letter_42 rfl ?_
      refine go_iadd dX9_letter_43 ?_
      rw [nI_add]
      refine go_putI fwX9_68 fs_58_1 dX9_letter_44 ?_
      refine go_aload_n dX9_letter_47 rfl rfl ?_
      refine go_getI flX9_68 fs_58_1 dX9_letter_48 ?_
      rw [stI_at]
      refine go_iret rfl dX9_letter_51 ?_
      refine ⟨by unfold aLetter; rw [if_pos (bI_ne0.mp c9), if_pos (by omega)], ?_, (FrM.rf.st (by omega)).st (by omega)⟩
      unfold tLetter
      rw [if_pos ⟨bI_ne0.mp c9, by omega⟩]
      refine h.page (fun b h1 h2 => funext fun y => (stI_ne (Or.inl h1)).trans (stI_ne (Or.inl h2))) (fun k hk => (stI_ne (by omega)).trans (stI_ne (by omega))) ⟨stI_at, fun k hk => ?_⟩
      rw [stI_ne (by omega)]
      by_cases q : k = xPn X
      · subst q; rw [stI_at]; simp [upd]
      · rw [stI_ne (by omega)]; simp only [upd, if_neg q]; exact h.1.2 k (by omega)
    · rw [nI_eq (by omega) (by omega)] at c21
      refine go_bipush (v := (-104)) dX9_letter_24 rfl ?_
      refine go_iret rfl dX9_letter_26 ?_
      exact ⟨by unfold aLetter; rw [if_pos (bI_ne0.mp c9), if_neg (by omega)], by unfold tLetter; rw [if_neg (fun z => by omega)]; exact ⟨h, FrM.rf⟩⟩
  · refine go_bipush (v := (-102)) dX9_letter_12 rfl ?_
    refine go_iret rfl dX9_letter_14 ?_
    exact ⟨by unfold aLetter; rw [bI_eq0.mp c9]; rfl, by unfold tLetter; rw [if_neg (fun z => by rw [bI_eq0.mp c9] at z; cases z.1)]; exact ⟨h, FrM.rf⟩⟩
set_option maxHeartbeats 1000000 in
theorem sm_blank {Γ : Gm} {σ : Mm} {X : Xs} (h : RM σ X) : Sp Γ 1 mX9_blank [rf Γ 58] σ (aI (aBlank X) (fun σ' => RM σ' (tBlank X) ∧ FrM σ σ')) := by
  refine sp_in (L := [some (rf Γ 58), none]) rfl (Nat.le_of_ble_eq_true rfl) rfl ?_
  refine go_aload_n dX9_blank_0 rfl rfl ?_
  refine go_getI flX9_68 fs_58_1 dX9_blank_1 ?_
  rw [h.1.1]
  refine go_istore_n (L' := [_, _]) dX9_blank_4 rfl (by decide) rfl rfl ?_
  refine go_aload_n dX9_blank_5 rfl rfl ?_
  refine go_iconst (v := nI 0) dX9_blank_6 rfl ?_
  refine go_putI fwX9_68 fs_58_1 dX9_blank_7 ?_
  refine go_iload_n dX9_blank_10 rfl rfl ?_
  refine go_iret rfl dX9_blank_11 ?_
  exact ⟨rfl, h.page (fun b h1 h2 => funext fun y => stI_ne (Or.inl h1)) (fun k hk => stI_ne (by omega)) ⟨stI_at, fun k hk => absurd hk (Nat.not_lt_zero k)⟩, FrM.rf.st (by omega)⟩
set_option maxHeartbeats 2000000 in
theorem sm_tellDish {Γ : Gm} {σ : Mm} {X : Xs} {d : Nat} {b : Int32} (h : RM σ X) (hd : d < pD (xP X)) : Sp Γ 2 mX9_tellDish [rf Γ 58, .int (nI d), .int b] σ (aP (aDish X (nI d) b) σ) := by
  refine sp_in (L := [some (rf Γ 58), some (.int (nI d)), some (.int b)]) rfl (Nat.le_of_ble_eq_true rfl) rfl ?_
  have hP := h.2.1.1
  have hD := hP.1.2
  have hi : ix (pD (xP X)) (nI d) = some d := ix_nI (by omega) hd
  refine go_iload_n dX9_tellDish_0 rfl rfl ?_
  rcases sw3 b with hsw | rfl | rfl | rfl | rfl
  · refine go_tabOut (tgt := 83) dX9_tellDish_1 hsw (by decide) ?_
    refine go_bipush (v := (-102)) dX9_tellDish_83 rfl ?_
    refine go_iret rfl dX9_tellDish_85 ?_
    exact ⟨by unfold aDish; rw [hi, swo (n := 3) (by omega) hsw], rfl⟩
  · refine go_tabIn (off := 31) (tgt := 32) dX9_tellDish_1 (by decide) (by decide) (by decide) (by decide) ?_
    refine go_aload_n dX9_tellDish_32 rfl rfl ?_
    refine go_getR flX9_19 fs_58_12 dX9_tellDish_33 ?_
    refine go_iload_n dX9_tellDish_36 rfl rfl ?_
    refine go_iald (d) rfl as_62 (by omega) (by decide) dX9_tellDish_37 ?_
    rw [(hP.2.2.1 d hd).1]
    refine go_aload_n dX9_tellDish_38 rfl rfl ?_
    refine go_aload_n dX9_tellDish_39 rfl rfl ?_
    refine go_getR flX9_31 fs_58_17 dX9_tellDish_40 ?_
    refine go_iload_n dX9_tellDish_43 rfl rfl ?_
    refine go_callVp cvX9_108 os_58 (sm_haveOf isR66 hP h.2.2.1) (by omega) rfl rfl (Nat.le_of_ble_eq_true rfl) dX9_tellDish_44 ?_
    refine go_isub dX9_tellDish_47 ?_
    refine go_iret rfl dX9_tellDish_48 ?_
    exact ⟨by unfold aDish; rw [hi]; rfl, rfl⟩
  · refine go_tabIn (off := 48) (tgt := 49) dX9_tellDish_1 (by decide) (by decide) (by decide) (by decide) ?_
    refine go_aload_n dX9_tellDish_49 rfl rfl ?_
    refine go_getR flX9_22 fs_58_13 dX9_tellDish_50 ?_
    refine go_iload_n dX9_tellDish_53 rfl rfl ?_
    refine go_iald (d) rfl as_63 (by omega) (by decide) dX9_tellDish_54 ?_
    rw [(hP.2.2.1 d hd).2]
    refine go_iret rfl dX9_tellDish_55 ?_
    exact ⟨by unfold aDish; rw [hi]; rfl, rfl⟩
  · refine go_tabIn (off := 55) (tgt := 56) dX9_tellDish_1 (by decide) (by decide) (by decide) (by decide) ?_
    refine go_aload_n dX9_tellDish_56 rfl rfl ?_
    refine go_aload_n dX9_tellDish_57 rfl rfl ?_
    refine go_getR flX9_31 fs_58_17 dX9_tellDish_58 ?_
    refine go_iload_n dX9_tellDish_61 rfl rfl ?_
    refine go_callVp cvX9_108 os_58 (sm_haveOf isR66 hP h.2.2.1) (by omega) rfl rfl (Nat.le_of_ble_eq_true rfl) dX9_tellDish_62 ?_
    refine go_iret rfl dX9_tellDish_65 ?_
    exact ⟨by unfold aDish; rw [hi]; rfl, rfl⟩
  · refine go_tabIn (off := 65) (tgt := 66) dX9_tellDish_1 (by decide) (by decide) (by decide) (by decide) ?_
    refine go_iload_n dX9_tellDish_66 rfl rfl ?_
    refine go_aload_n dX9_tellDish_67 rfl rfl ?_
    refine go_getI flX9_59 fs_58_10 dX9_tellDish_68 ?_
    rw [h.2.1.2.2.1]
    refine go_icmp_ne (tgt := 81) dX9_tellDish_71 (by decide) (fun c71 => ?_) (fun c71 => ?_)
    · refine go_iconst (v := nI 0) dX9_tellDish_81 rfl ?_
      refine go_iret rfl dX9_tellDish_82 ?_
      exact ⟨by unfold aDish; rw [hi, ix_nI (by omega) (by omega)]; simp only [if_neg c71]; rfl, rfl⟩
    · refine go_aload_n dX9_tellDish_74 rfl rfl ?_
      refine go_getI flX9_102 fs_58_11 dX9_tellDish_75 ?_
      rw [h.2.1.2.2.2]
      refine go_goto (tgt := 82) dX9_tellDish_78 (by decide) ?_
      refine go_iret rfl dX9_tellDish_82 ?_
      exact ⟨by unfold aDish; rw [hi, ix_nI (by omega) (by omega)]; simp only [if_pos c71], rfl⟩
set_option maxHeartbeats 1000000 in
theorem sm_dish {Γ : Gm} {σ : Mm} {X : Xs} {a b : Int32} (h : RM σ X) : Sp Γ 3 mX9_dish [rf Γ 58, .int a, .int b] σ (aP (aDish X a b) σ) := by
  refine sp_in (L := [some (rf Γ 58), some (.int a), some (.int b)]) rfl (Nat.le_of_ble_eq_true rfl) rfl ?_
  have hP := h.2.1.1
  have hD := hP.1.2
  cases hi : ix (pD (xP X)) a with
  | none =>
    refine go_aload_n dX9_dish_0 rfl rfl ?_
    refine go_iload_n dX9_dish_1 rfl rfl ?_
    refine go_callVp cvX9_112 os_58 (sm_isDish hP) (by omega) rfl rfl (Nat.le_of_ble_eq_true rfl) dX9_dish_2 ?_
    rw [hi]
    refine go_if_eq (tgt := 17) dX9_dish_5 (by decide) (fun c5 => ?_) (fun c5 => ?_)
    · refine go_bipush (v := (-101)) dX9_dish_17 rfl ?_
      refine go_iret rfl dX9_dish_19 ?_
      exact ⟨by unfold aDish; rw [hi], rfl⟩
    · exact absurd rfl c5
  | some d =>
    obtain ⟨hd, rfl⟩ := ix_some (by omega) hi
    refine go_aload_n dX9_dish_0 rfl rfl ?_
    refine go_iload_n dX9_dish_1 rfl rfl ?_
    refine go_callVp cvX9_112 os_58 (sm_isDish hP) (by omega) rfl rfl (Nat.le_of_ble_eq_true rfl) dX9_dish_2 ?_
    rw [hi]
    refine go_if_eq (tgt := 17) dX9_dish_5 (by decide) (fun c5 => ?_) (fun c5 => ?_)
    · exact absurd c5 bt0
    · refine go_aload_n dX9_dish_8 rfl rfl ?_
      refine go_iload_n dX9_dish_9 rfl rfl ?_
      refine go_iload_n dX9_dish_10 rfl rfl ?_
      refine go_callVp cvX9_115 os_58 (sm_tellDish h hd) (by omega) rfl rfl (Nat.le_of_ble_eq_true rfl) dX9_dish_11 ?_
      refine go_goto (tgt := 19) dX9_dish_14 (by decide) ?_
      refine go_iret rfl dX9_dish_19 ?_
      exact ⟨rfl, rfl⟩
set_option maxHeartbeats 2000000 in
theorem sm_tell {Γ : Gm} {σ : Mm} {X : Xs} {N g : Nat} {b : Int32} (hI : XI N X) (h : RM σ X) (hg : g < pG (xP X)) : Sp Γ 2 mX9_tell [rf Γ 58, .int (nI g), .int b] σ (aP (aAbout X (nI g) b) σ) := by
  refine sp_in (L := [some (rf Γ 58), some (.int (nI g)), some (.int b)]) rfl (Nat.le_of_ble_eq_true rfl) rfl ?_
  have hP := h.2.1.1
  have hG := hP.2.1.2
  have hi : ix (pG (xP X)) (nI g) = some g := ix_nI (by omega) hg
  have hr := hI.2.1.2.2.2.2.2.2.2.1.1 g (by omega)
  have hD := hP.1.2
  have hc : xH X g < 0 → hC (xH X g) = -1 := by
    intro z
    rcases hr with e | e | ⟨d, hd, e⟩
    · rw [e]; decide
    · rw [e]; decide
    · rw [e] at z; exact absurd z (nI_pos (by omega))
  have hc2 : ¬ xH X g < 0 → hC (xH X g) = xH X g := fun z => by
    unfold hC; rw [if_neg (fun y => z (by rw [y]; decide))]
  have at40 : ∀ w, w < 2 → σ.1 64 (2 * g + w) = aAbout X (nI g) (nI w) → Go Γ 2 mX9_tell (aP (aAbout X (nI g) (nI w)) σ) 40 [some (rf Γ 58), some (.int (nI g)), some (.int (nI w))] [] σ := by
    intro w hw e
    refine go_aload_n dX9_tell_40 rfl rfl ?_
    refine go_getR flX9_25 fs_58_15 dX9_tell_41 ?_
    refine go_iconst (v := nI 2) dX9_tell_44 rfl ?_
    refine go_iload_n dX9_tell_45 rfl rfl ?_
    refine go_imul dX9_tell_46 ?_
    refine go_iload_n dX9_tell_47 rfl rfl ?_
    refine go_iadd dX9_tell_48 ?_
    refine go_iald ((2 * g) + w) (by simp only [pk_mul, nI_add]) as_64 (by omega) (by decide) dX9_tell_49 ?_
    rw [e]
    refine go_iret rfl dX9_tell_50 ?_
    exact ⟨rfl, rfl⟩
  refine go_iload_n dX9_tell_0 rfl rfl ?_
  rcases sw5 b with hsw | rfl | rfl | rfl | rfl | rfl | rfl
  · refine go_tabOut (tgt := 108) dX9_tell_1 hsw (by decide) ?_
    refine go_bipush (v := (-102)) dX9_tell_108 rfl ?_
    refine go_iret rfl dX9_tell_110 ?_
    exact ⟨by unfold aAbout; rw [hi, swo (n := 5) (by omega) hsw], rfl⟩
  · refine go_tabIn (off := 39) (tgt := 40) dX9_tell_1 (by decide) (by decide) (by decide) (by decide) ?_
    exact at40 0 (by omega) (by unfold aAbout; rw [hi]; exact (hP.2.2.2 g hg).1)
  · refine go_tabIn (off := 39) (tgt := 40) dX9_tell_1 (by decide) (by decide) (by decide) (by decide) ?_
    exact at40 1 (by omega) (by unfold aAbout; rw [hi]; exact (hP.2.2.2 g hg).2.1)
  · refine go_tabIn (off := 50) (tgt := 51) dX9_tell_1 (by decide) (by decide) (by decide) (by decide) ?_
    refine go_aload_n dX9_tell_51 rfl rfl ?_
    refine go_getR flX9_31 fs_58_17 dX9_tell_52 ?_
    refine go_iload_n dX9_tell_55 rfl rfl ?_
    refine go_iald (g) rfl as_66 (by omega) (by decide) dX9_tell_56 ?_
    rw [h.2.2.1 g hg]
    refine go_if_ge (tgt := 64) dX9_tell_57 (by decide) (fun c57 => ?_) (fun c57 => ?_)
    · refine go_aload_n dX9_tell_64 rfl rfl ?_
      refine go_getR flX9_31 fs_58_17 dX9_tell_65 ?_
      refine go_iload_n dX9_tell_68 rfl rfl ?_
      refine go_iald (g) rfl as_66 (by omega) (by decide) dX9_tell_69 ?_
      rw [h.2.2.1 g hg]
      refine go_iret rfl dX9_tell_70 ?_
      exact ⟨by unfold aAbout; rw [hi, ix_nI (by omega) (by omega)]; show _ = some (Value.int (hC (xH X g))); rw [hc2 (Int32.not_lt.mpr c57)], rfl⟩
    · refine go_iconst (v := (-1)) dX9_tell_60 rfl ?_
      refine go_goto (tgt := 70) dX9_tell_61 (by decide) ?_
      refine go_iret rfl dX9_tell_70 ?_
      exact ⟨by unfold aAbout; rw [hi, ix_nI (by omega) (by omega)]; show _ = some (Value.int (hC (xH X g))); rw [hc (Int32.not_le.mp c57)], rfl⟩
  · refine go_tabIn (off := 70) (tgt := 71) dX9_tell_1 (by decide) (by decide) (by decide) (by decide) ?_
    refine go_aload_n dX9_tell_71 rfl rfl ?_
    refine go_getR flX9_31 fs_58_17 dX9_tell_72 ?_
    refine go_iload_n dX9_tell_75 rfl rfl ?_
    refine go_iald (g) rfl as_66 (by omega) (by decide) dX9_tell_76 ?_
    rw [h.2.2.1 g hg]
    refine go_bipush (v := (-2)) dX9_tell_77 rfl ?_
    refine go_icmp_ne (tgt := 86) dX9_tell_79 (by decide) (fun c79 => ?_) (fun c79 => ?_)
    · refine go_iconst (v := nI 1) dX9_tell_86 rfl ?_
      refine go_iret rfl dX9_tell_87 ?_
      exact ⟨by unfold aAbout; rw [hi, ix_nI (by omega) (by omega)]; show _ = some (Value.int (hO (xH X g))); unfold hO; rw [if_neg c79]; rfl, rfl⟩
    · refine go_iconst (v := nI 0) dX9_tell_82 rfl ?_
      refine go_goto (tgt := 87) dX9_tell_83 (by decide) ?_
      refine go_iret rfl dX9_tell_87 ?_
      exact ⟨by unfold aAbout; rw [hi, ix_nI (by omega) (by omega)]; show _ = some (Value.int (hO (xH X g))); unfold hO; rw [if_pos c79]; rfl, rfl⟩
  · refine go_tabIn (off := 87) (tgt := 88) dX9_tell_1 (by decide) (by decide) (by decide) (by decide) ?_
    refine go_aload_n dX9_tell_88 rfl rfl ?_
    refine go_iload_n dX9_tell_89 rfl rfl ?_
    refine go_aload_n dX9_tell_90 rfl rfl ?_
    refine go_getI flX9_93 fs_58_8 dX9_tell_91 ?_
    rw [h.2.1.2.1]
    refine go_callVp cvX9_125 os_58 (sm_swayBy hP hg) (by omega) rfl rfl (Nat.le_of_ble_eq_true rfl) dX9_tell_94 ?_
    refine go_iret rfl dX9_tell_97 ?_
    exact ⟨by unfold aAbout; rw [hi]; rfl, rfl⟩
  · refine go_tabIn (off := 97) (tgt := 98) dX9_tell_1 (by decide) (by decide) (by decide) (by decide) ?_
    refine go_aload_n dX9_tell_98 rfl rfl ?_
    refine go_aload_n dX9_tell_99 rfl rfl ?_
    refine go_getR flX9_31 fs_58_17 dX9_tell_100 ?_
    refine go_iload_n dX9_tell_103 rfl rfl ?_
    refine go_callVp cvX9_128 os_58 (sm_joyOf isR66 hP h.2.2.1 hg (row_neg hr)) (by omega) rfl rfl (Nat.le_of_ble_eq_true rfl) dX9_tell_104 ?_
    refine go_iret rfl dX9_tell_107 ?_
    exact ⟨by unfold aAbout; rw [hi]; rfl, rfl⟩
