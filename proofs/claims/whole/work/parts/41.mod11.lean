/-! the model's public methods (5) -/
theorem RM.log {σ σ' : Mm} {X : Xs} {E : Ev} (h : RM σ X) (ho : ∀ a, a ≠ 58 → a ≠ 68 → σ'.1 a = σ.1 a) (hf : ∀ k, k ≠ 23 → σ'.1 58 k = σ.1 58 k) (hE : ML σ' (pG (xP X)) E) : RM σ' (setE X E) := by
  obtain ⟨⟨a1, a2⟩, b, c, d, ⟨e1, e2⟩, f⟩ := h
  exact ⟨⟨by rw [hf 1 (by omega)]; exact a1, fun k hk => by rw [ho 59 (by omega) (by omega)]; exact a2 k hk⟩, b.eq (fun k hk => hf k (by omega)) (fun a h1 h2 => ho a (by omega) (by omega)), fun g hg => by rw [ho 66 (by omega) (by omega)]; exact c g hg, hE, ⟨by rw [hf 9 (by omega)]; exact e1, by rw [hf 22 (by omega)]; exact e2⟩, RMk.eq f (fun k h1 h2 => hf k (by omega)) (fun a h1 h2 => ho a (by omega) (by omega))⟩
set_option maxHeartbeats 2000000 in
theorem sm_evening {Γ : Gm} {σ : Mm} {X : Xs} {a b v : Int32} (h : RM σ X) : Sp Γ 3 mX9_evening [rf Γ 58, .int a, .int b, .int v] σ (aI (aEvening X a b v) (fun σ' => RM σ' (tEvening X a b v) ∧ FrM σ σ')) := by
  refine sp_in (L := [some (rf Γ 58), some (.int a), some (.int b), some (.int v)]) rfl (Nat.le_of_ble_eq_true rfl) rfl ?_
  have hP := h.2.1.1
  have hG := hP.2.1.2
  have hD := hP.1.2
  cases hi : ix (pG (xP X)) a with
  | none =>
    refine go_aload_n dX9_evening_0 rfl rfl ?_
    refine go_iload_n dX9_evening_1 rfl rfl ?_
    refine go_callVp cvX9_131 os_58 (sm_isGuest hP) (by omega) rfl rfl (Nat.le_of_ble_eq_true rfl) dX9_evening_2 ?_
    rw [hi]
    refine go_if_eq (tgt := 29) dX9_evening_5 (by decide) (fun c5 => ?_) (fun c5 => ?_)
    · refine go_bipush (v := (-101)) dX9_evening_29 rfl ?_
      refine go_iret rfl dX9_evening_31 ?_
      exact ⟨by unfold aEvening; rw [hi], by unfold tEvening; rw [hi]; exact h.q OM.rf⟩
    · exact absurd rfl c5
  | some f =>
    obtain ⟨hf, rfl⟩ := ix_some (by omega) hi
    cases hj : ix (pG (xP X)) b with
    | none =>
      refine go_aload_n dX9_evening_0 rfl rfl ?_
      refine go_iload_n dX9_evening_1 rfl rfl ?_
      refine go_callVp cvX9_131 os_58 (sm_isGuest hP) (by omega) rfl rfl (Nat.le_of_ble_eq_true rfl) dX9_evening_2 ?_
      rw [hi]
      refine go_if_eq (tgt := 29) dX9_evening_5 (by decide) (fun c5 => ?_) (fun c5 => ?_)
      · exact absurd c5 bt0
      · refine go_aload_n dX9_evening_8 rfl rfl ?_
        refine go_iload_n dX9_evening_9 rfl rfl ?_
        refine go_callVp cvX9_131 os_58 (sm_isGuest hP) (by omega) rfl rfl (Nat.le_of_ble_eq_true rfl) dX9_evening_10 ?_
        rw [hj]
        refine go_if_eq (tgt := 29) dX9_evening_13 (by decide) (fun c13 => ?_) (fun c13 => ?_)
        · refine go_bipush (v := (-101)) dX9_evening_29 rfl ?_
          refine go_iret rfl dX9_evening_31 ?_
          exact ⟨by unfold aEvening; rw [hi, hj], by unfold tEvening; rw [hi, hj]; exact h.q OM.rf⟩
        · exact absurd rfl c13
    | some g =>
      obtain ⟨hg, rfl⟩ := ix_some (by omega) hj
      obtain ⟨hE1, hE2, hE3⟩ := h.2.2.2.1
      have go : ¬ (v ≠ -1 ∧ ix (pD (xP X)) v = none) → Go Γ 3 mX9_evening (aI (aEvening X (nI f) (nI g) v) (fun σ' => RM σ' (tEvening X (nI f) (nI g) v) ∧ FrM σ σ')) 32 [some (rf Γ 58), some (.int (nI f)), some (.int (nI g)), some (.int v)] [] σ := by
        intro hn
        refine go_aload_n dX9_evening_32 rfl rfl ?_
        refine go_getI flX9_99 fs_58_23 dX9_evening_33 ?_
        rw [hE1]
        refine go_iconst (v := nI 4) dX9_evening_36 rfl ?_
        refine go_icmp_ne (tgt := 43) dX9_evening_37 (by decide) (fun c37 => ?_) (fun c37 => ?_)
        · rw [nI_eq (by omega) (by omega)] at c37
          refine go_aload_n dX9_evening_43 rfl rfl ?_
          refine go_getR flX9_37 fs_58_24 dX9_evening_44 ?_
          refine go_iconst (v := nI 3) dX9_evening_47 rfl ?_
          refine go_aload_n dX9_evening_48 rfl rfl ?_
          refine go_getI flX9_99 fs_58_23 dX9_evening_49 ?_
          rw [hE1]
          refine go_imul dX9_evening_52 ?_
          refine go_iload_n dX9_evening_53 rfl rfl ?_
          refine go_iast (3 * (xE X).1) (by simp only [pk_mul]) as_68 (by omega) (by decide) dX9_evening_54 ?_
          refine go_aload_n dX9_evening_55 rfl rfl ?_
          refine go_getR flX9_37 fs_58_24 dX9_evening_56 ?_
          refine go_iconst (v := nI 3) dX9_evening_59 rfl ?_
          refine go_aload_n dX9_evening_60 rfl rfl ?_
          refine go_getI flX9_99 fs_58_23 dX9_evening_61 ?_
          rw [stI_ne (by omega), hE1]
          refine go_imul dX9_evening_64 ?_
          refine go_iconst (v := nI 1) dX9_evening_65 rfl ?_
          refine go_iadd dX9_evening_66 ?_
          refine go_iload_n dX9_evening_67 rfl rfl ?_
          refine go_iast (3 * (xE X).1 + 1) (by simp only [pk_mul, nI_add]) as_68 (by omega) (by decide) dX9_evening_68 ?_
          refine go_aload_n dX9_evening_69 rfl rfl ?_
          refine go_getR flX9_37 fs_58_24 dX9_evening_70 ?_
          refine go_iconst (v := nI 3) dX9_evening_73 rfl ?_
          refine go_aload_n dX9_evening_74 rfl rfl ?_
          refine go_getI flX9_99 fs_58_23 dX9_evening_75 ?_
          rw [stI_ne (by omega), stI_ne (by omega), hE1]
          refine go_imul dX9_evening_78 ?_
          refine go_iconst (v := nI 2) dX9_evening_79 rfl ?_
          refine go_iadd dX9_evening_80 ?_
          refine go_iload_n dX9_evening_81 rfl rfl ?_
          refine go_iast (3 * (xE X).1 + 2) (by simp only [pk_mul, nI_add]) as_68 (by omega) (by decide) dX9_evening_82 ?_
          refine go_aload_n dX9_evening_83 rfl rfl ?_
          refine go_dup dX9_evening_84 rfl ?_
          refine go_getI flX9_99 fs_58_23 dX9_evening_85 ?_
          rw [stI_ne (by omega), stI_ne (by omega), stI_ne (by omega), hE1]
          refine go_iconst (v := nI 1) dX9_evening_88 rfl ?_
          refine go_iadd dX9_evening_89 ?_
          rw [nI_add]
          refine go_putI fwX9_99 fs_58_23 dX9_evening_90 ?_
          refine go_aload_n dX9_evening_93 rfl rfl ?_
          refine go_getI flX9_99 fs_58_23 dX9_evening_94 ?_
          rw [stI_at]
          refine go_iret rfl dX9_evening_97 ?_
          have hl : (xE X).1 < 4 := by omega
          refine ⟨by unfold aEvening; rw [hi, hj]; simp only [if_neg hn, if_pos hl], ?_, (((FrM.rf.st (by omega)).st (by omega)).st (by omega)).st (by omega)⟩
          unfold tEvening
          rw [hi, hj]
          simp only [if_neg hn, if_pos hl]
          refine h.log (fun x h1 h2 => funext fun y => by simp (disch := omega) only [stI_ne]) (fun k hk => by simp (disch := omega) only [stI_ne]) ⟨stI_at, by show (xE X).1 + 1 ≤ 4; omega, fun e he => ?_⟩
          have he' : e < (xE X).1 + 1 := he
          show _ = nI (updN (xE X).2.1 (xE X).1 f e) ∧ updN (xE X).2.1 (xE X).1 f e < _ ∧ _ = nI (updN (xE X).2.2.1 (xE X).1 g e) ∧ updN (xE X).2.2.1 (xE X).1 g e < _ ∧ _ = upd (xE X).2.2.2 (xE X).1 v e
          by_cases q : e = (xE X).1
          · subst q
            simp (disch := omega) only [stI_ne, stI_at, updN, upd, if_true]
            exact ⟨trivial, hf, trivial, hg, trivial⟩
          · simp (disch := omega) only [stI_ne, updN, upd, if_neg q]
            exact hE3 e (by omega)
        · rw [nI_eq (by omega) (by omega)] at c37
          refine go_bipush (v := (-104)) dX9_evening_40 rfl ?_
          refine go_iret rfl dX9_evening_42 ?_
          exact ⟨by unfold aEvening; rw [hi, hj]; simp only [if_neg hn, if_neg (show ¬ (xE X).1 < 4 by omega)], by unfold tEvening; rw [hi, hj]; simp only [if_neg hn, if_neg (show ¬ (xE X).1 < 4 by omega)]; exact h.q OM.rf⟩
      cases hk : ix (pD (xP X)) v with
      | none =>
        refine go_aload_n dX9_evening_0 rfl rfl ?_
        refine go_iload_n dX9_evening_1 rfl rfl ?_
        refine go_callVp cvX9_131 os_58 (sm_isGuest hP) (by omega) rfl rfl (Nat.le_of_ble_eq_true rfl) dX9_evening_2 ?_
        rw [hi]
        refine go_if_eq (tgt := 29) dX9_evening_5 (by decide) (fun c5 => ?_) (fun c5 => ?_)
        · exact absurd c5 bt0
        · refine go_aload_n dX9_evening_8 rfl rfl ?_
          refine go_iload_n dX9_evening_9 rfl rfl ?_
          refine go_callVp cvX9_131 os_58 (sm_isGuest hP) (by omega) rfl rfl (Nat.le_of_ble_eq_true rfl) dX9_evening_10 ?_
          rw [hj]
          refine go_if_eq (tgt := 29) dX9_evening_13 (by decide) (fun c13 => ?_) (fun c13 => ?_)
          · exact absurd c13 bt0
          · refine go_iload_n dX9_evening_16 rfl rfl ?_
            refine go_iconst (v := (-1)) dX9_evening_17 rfl ?_
            refine go_icmp_eq (tgt := 32) dX9_evening_18 (by decide) (fun c18 => ?_) (fun c18 => ?_)
            · exact go (fun z => z.1 c18)
            · refine go_aload_n dX9_evening_21 rfl rfl ?_
              refine go_iload_n dX9_evening_22 rfl rfl ?_
              refine go_callVp cvX9_112 os_58 (sm_isDish hP) (by omega) rfl rfl (Nat.le_of_ble_eq_true rfl) dX9_evening_23 ?_
              rw [hk]
              refine go_if_ne (tgt := 32) dX9_evening_26 (by decide) (fun c26 => ?_) (fun c26 => ?_)
              · exact absurd rfl c26
              · refine go_bipush (v := (-101)) dX9_evening_29 rfl ?_
                refine go_iret rfl dX9_evening_31 ?_
                exact ⟨by unfold aEvening; rw [hi, hj]; simp only [if_pos (show v ≠ -1 ∧ ix (pD (xP X)) v = none from ⟨c18, hk⟩)], by unfold tEvening; rw [hi, hj]; simp only [if_pos (show v ≠ -1 ∧ ix (pD (xP X)) v = none from ⟨c18, hk⟩)]; exact h.q OM.rf⟩
      | some d =>
        refine go_aload_n dX9_evening_0 rfl rfl ?_
        refine go_iload_n dX9_evening_1 rfl rfl ?_
        refine go_callVp cvX9_131 os_58 (sm_isGuest hP) (by omega) rfl rfl (Nat.le_of_ble_eq_true rfl) dX9_evening_2 ?_
        rw [hi]
        refine go_if_eq (tgt := 29) dX9_evening_5 (by decide) (fun c5 => ?_) (fun c5 => ?_)
        · exact absurd c5 bt0
        · refine go_aload_n dX9_evening_8 rfl rfl ?_
          refine go_iload_n dX9_evening_9 rfl rfl ?_
          refine go_callVp cvX9_131 os_58 (sm_isGuest hP) (by omega) rfl rfl (Nat.le_of_ble_eq_true rfl) dX9_evening_10 ?_
          rw [hj]
          refine go_if_eq (tgt := 29) dX9_evening_13 (by decide) (fun c13 => ?_) (fun c13 => ?_)
          · exact absurd c13 bt0
          · refine go_iload_n dX9_evening_16 rfl rfl ?_
            refine go_iconst (v := (-1)) dX9_evening_17 rfl ?_
            refine go_icmp_eq (tgt := 32) dX9_evening_18 (by decide) (fun c18 => ?_) (fun c18 => ?_)
            · exact go (fun z => by rw [hk] at z; cases z.2)
            · refine go_aload_n dX9_evening_21 rfl rfl ?_
              refine go_iload_n dX9_evening_22 rfl rfl ?_
              refine go_callVp cvX9_112 os_58 (sm_isDish hP) (by omega) rfl rfl (Nat.le_of_ble_eq_true rfl) dX9_evening_23 ?_
              rw [hk]
              refine go_if_ne (tgt := 32) dX9_evening_26 (by decide) (fun c26 => ?_) (fun c26 => ?_)
              · exact go (fun z => by rw [hk] at z; cases z.2)
              · exact absurd c26 bt0
set_option maxHeartbeats 1000000 in
theorem sm_forget {Γ : Gm} {σ : Mm} {X : Xs} (h : RM σ X) : Sp Γ 1 mX9_forget [rf Γ 58] σ (aI (aForget X) (fun σ' => RM σ' (tForget X) ∧ FrM σ σ')) := by
  refine sp_in (L := [some (rf Γ 58), none]) rfl (Nat.le_of_ble_eq_true rfl) rfl ?_
  refine go_aload_n dX9_forget_0 rfl rfl ?_
  refine go_getI flX9_99 fs_58_23 dX9_forget_1 ?_
  rw [h.2.2.2.1.1]
  refine go_istore_n (L' := [_, _]) dX9_forget_4 rfl (by decide) rfl rfl ?_
  refine go_aload_n dX9_forget_5 rfl rfl ?_
  refine go_iconst (v := nI 0) dX9_forget_6 rfl ?_
  refine go_putI fwX9_99 fs_58_23 dX9_forget_7 ?_
  refine go_iload_n dX9_forget_10 rfl rfl ?_
  refine go_iret rfl dX9_forget_11 ?_
  exact ⟨rfl, h.log (fun b h1 h2 => funext fun y => stI_ne (Or.inl h1)) (fun k hk => stI_ne (by omega)) ⟨stI_at, Nat.zero_le _, fun e he => absurd he (Nat.not_lt_zero e)⟩, FrM.rf.st (by omega)⟩
set_option maxHeartbeats 1000000 in
theorem lp_fitsM {Γ : Gm} {σ : Mm} {bits x1 : Int32} : ∀ (m i : Nat), i + m = 10 → Go Γ 6 mX9_fits (aP (oneB bits m i) σ) 36 [some (rf Γ 58), some (.int x1), some (.int bits), some (.int (nI i))] [] σ := by
  intro m
  induction m with
  | zero =>
    intro i hi
    have e : i = 10 := by omega
    subst e
    refine go_iload_n dX9_fits_36 rfl rfl ?_
    refine go_bipush (v := nI 10) dX9_fits_37 rfl ?_
    refine go_icmp_ge (tgt := 57) dX9_fits_39 (by decide) (fun c39 => ?_) (fun c39 => ?_)
    · refine go_iconst (v := (-1)) dX9_fits_57 rfl ?_
      refine go_iret rfl dX9_fits_58 ?_
      exact ⟨rfl, rfl⟩
    · exact absurd (Int32.le_refl _) c39
  | succ m ih =>
    intro i hi
    refine go_iload_n dX9_fits_36 rfl rfl ?_
    refine go_bipush (v := nI 10) dX9_fits_37 rfl ?_
    refine go_icmp_ge (tgt := 57) dX9_fits_39 (by decide) (fun c39 => ?_) (fun c39 => ?_)
    · exact absurd c39 (nI_ge (by omega) (by omega))
    · refine go_iload_n dX9_fits_42 rfl rfl ?_
      refine go_iconst (v := nI 1) dX9_fits_43 rfl ?_
      refine go_iload_n dX9_fits_44 rfl rfl ?_
      refine go_ishl dX9_fits_45 ?_
      refine go_icmp_ne (tgt := 51) dX9_fits_46 (by decide) (fun c46 => ?_) (fun c46 => ?_)
      · refine go_iinc (v := nI (i + 1)) (L' := [_, _, _, _]) dX9_fits_51 rfl (nI_1 _) (by decide) rfl rfl ?_
        refine go_goto (tgt := 36) dX9_fits_54 (by decide) ?_
        rw [show oneB bits (m + 1) i = oneB bits m (i + 1) by conv => lhs; unfold oneB; rw [if_neg c46]]
        exact ih (i + 1) (by omega)
      · refine go_iload_n dX9_fits_49 rfl rfl ?_
        refine go_iret rfl dX9_fits_50 ?_
        exact ⟨by unfold oneB; rw [if_pos c46], rfl⟩
set_option maxHeartbeats 1000000 in
theorem sm_fits {Γ : Gm} {σ : Mm} {X : Xs} {a : Int32} (h : RM σ X) : Sp Γ 6 mX9_fits [rf Γ 58, .int a] σ (aI (aFits X a) (fun σ' => RM σ' X ∧ FrM σ σ')) := by
  refine sp_in (L := [some (rf Γ 58), some (.int a), none, none]) rfl (Nat.le_of_ble_eq_true rfl) rfl ?_
  have hP := h.2.1.1
  have hbx := inR_ix (k := 1) (a := a) (by omega)
  cases hi : ix 2 a with
  | none =>
    rw [hi] at hbx
    refine go_iload_n dX9_fits_0 rfl rfl ?_
    refine go_i2l dX9_fits_1 ?_
    refine go_lconst (v := 0) dX9_fits_2 rfl ?_
    refine go_lconst (v := 1) dX9_fits_3 rfl ?_
    refine go_callSp csX9_64 (sm_in (lo := nI 0) (hi := nI 1) rfl rfl rfl) (by omega) rfl rfl (Nat.le_of_ble_eq_true rfl) dX9_fits_4 ?_
    rw [hbx]
    refine go_if_ne (tgt := 13) dX9_fits_7 (by decide) (fun c7 => ?_) (fun c7 => ?_)
    · exact absurd rfl c7
    · refine go_bipush (v := (-102)) dX9_fits_10 rfl ?_
      refine go_iret rfl dX9_fits_12 ?_
      exact ⟨by unfold aFits; rw [hi], h.q OM.rf⟩
  | some w =>
    obtain ⟨hw, rfl⟩ := ix_some (by omega) hi
    rw [hi] at hbx
    refine go_iload_n dX9_fits_0 rfl rfl ?_
    refine go_i2l dX9_fits_1 ?_
    refine go_lconst (v := 0) dX9_fits_2 rfl ?_
    refine go_lconst (v := 1) dX9_fits_3 rfl ?_
    refine go_callSp csX9_64 (sm_in (lo := nI 0) (hi := nI 1) rfl rfl rfl) (by omega) rfl rfl (Nat.le_of_ble_eq_true rfl) dX9_fits_4 ?_
    rw [hbx]
    refine go_if_ne (tgt := 13) dX9_fits_7 (by decide) (fun c7 => ?_) (fun c7 => ?_)
    · refine go_aload_n dX9_fits_13 rfl rfl ?_
      refine go_callVp cvX9_121 os_58 (sm_lacks hP) (by omega) rfl rfl (Nat.le_of_ble_eq_true rfl) dX9_fits_14 ?_
      refine go_if_eq (tgt := 23) dX9_fits_17 (by decide) (fun c17 => ?_) (fun c17 => ?_)
      · have c17 : ¬ pD (xP X) = 0 := by have := bI_eq0.mp c17; simpa using this
        refine go_aload_n dX9_fits_23 rfl rfl ?_
        refine go_callVi cvX9_200 os_58 (sm_fitsOf h.2.1 h.2.2.2.1) (by omega) rfl rfl (Nat.le_of_ble_eq_true rfl) dX9_fits_24 (fun σ1 q1 => ?_)
        refine go_istore_n (L' := [_, _, _, _]) dX9_fits_27 rfl (by decide) rfl rfl ?_
        refine go_iload_n dX9_fits_28 rfl rfl ?_
        refine go_if_ne (tgt := 34) dX9_fits_29 (by decide) (fun c29 => ?_) (fun c29 => ?_)
        · refine go_iconst (v := nI 0) dX9_fits_34 rfl ?_
          refine go_istore_n (L' := [_, _, _, _]) dX9_fits_35 rfl (by decide) rfl rfl ?_
          have hw1 : ¬ w = 0 := fun z => c29 (by rw [z]; rfl)
          refine go_mono (fun v σ' q => ⟨?_, by rw [q.2]; exact h.q q1⟩) (lp_fitsM 10 0 rfl)
          rw [q.1]
          unfold aFits
          rw [hi]
          simp only [if_neg c17, if_neg hw1]
        · refine go_iload_n dX9_fits_32 rfl rfl ?_
          refine go_iret rfl dX9_fits_33 ?_
          have hw1 : w = 0 := (nI_z (by omega)).mp c29
          refine ⟨?_, h.q q1⟩
          unfold aFits
          rw [hi]
          simp only [if_neg c17, if_pos hw1]
      · have c17 : pD (xP X) = 0 := by have := bI_ne0.mp c17; simpa using this
        refine go_bipush (v := (-103)) dX9_fits_20 rfl ?_
        refine go_iret rfl dX9_fits_22 ?_
        exact ⟨by unfold aFits; rw [hi]; simp only [if_pos c17], h.q OM.rf⟩
    · exact absurd c7 bt0
set_option maxHeartbeats 2000000 in
theorem lp_evenM0 {Γ : Gm} {σ : Mm} {P : Pb} {s n : Nat} {w : Int32} (hS : MS σ P) (hs : s < 2147483648) (hn : n ≤ 60) (hG : 0 < pG P) (hD : 0 < pD P) : Go Γ 5 mX9_evenings (aI (if w = 0 then (evS P s n).2.2 else nI (evS P s n).2.1) (OM σ)) 39 [some (rf Γ 58), some (.int (nI n)), some (.int (nI s)), some (.int w), none, none, none, none, none] [] σ := by
  have o1 : ∀ σ1, Cpd 65 69 30 σ σ1 → OM σ σ1 := fun σ1 q => ⟨fun a _ _ _ _ h5 => q.2.2.1 a h5, fun k _ _ _ _ _ _ _ => by rw [q.2.2.1 58 (by omega)], fun a _ => by rw [q.2.2.2]⟩
  refine go_aload_n dX9_evenings_39 rfl rfl ?_
  refine go_getR flX9_28 fs_58_16 dX9_evenings_40 ?_
  refine go_aload_n dX9_evenings_43 rfl rfl ?_
  refine go_getR flX9_40 fs_58_26 dX9_evenings_44 ?_
  refine go_callSv csX9_215 (sm_copy 65 69 as_65 as_69 (by omega) (by omega)) (by omega) rfl rfl (Nat.le_of_ble_eq_true rfl) dX9_evenings_47 (fun σ1 q1 => ?_)
  refine go_aload_n dX9_evenings_50 rfl rfl ?_
  refine go_callVv cvX9_156 os_58 (sm_asItIs (hS.om (o1 σ1 q1))) (by omega) rfl rfl (Nat.le_of_ble_eq_true rfl) dX9_evenings_51 (fun σ2 q2 => ?_)
  refine go_aload_n dX9_evenings_54 rfl rfl ?_
  refine go_iload_n dX9_evenings_55 rfl rfl ?_
  refine go_putI fwX9_205 fs_58_25 dX9_evenings_56 ?_
  refine go_iconst (v := nI 0) dX9_evenings_59 rfl ?_
  refine go_istore (L' := [_, _, _, _, _, _, _, _, _]) dX9_evenings_60 (by decide) rfl rfl ?_
  refine go_iconst (v := nI 0) dX9_evenings_62 rfl ?_
  refine go_istore (L' := [_, _, _, _, _, _, _, _, _]) dX9_evenings_63 (by decide) rfl rfl ?_
  have o2 := (o1 σ1 q1).trans q2.2.1
  refine lp_evenM hs hn hG hD n 0 _ (by omega) ⟨(hS.1.om o2).om (OM.rf.s58 (by omega)), ⟨by rw [stI_ne (by omega)]; exact q2.1.1, by rw [stI_ne (by omega)]; exact q2.1.2.1, by rw [stI_ne (by omega)]; exact q2.1.2.2⟩, stI_at, fun k hk => ?_, fun k hk => ?_, fun a h1 h2 h3 h4 h5 h6 => ?_, fun k h1 h2 h3 h4 h5 h6 h7 => ?_, fun a h1 => o2.2.2 a h1⟩
  · rw [stI_ne (by omega), q2.2.2 69 (by omega)]; exact q1.1 k hk
  · rw [stI_ne (by omega), o2.1 65 (by omega) (by omega) (by omega) (by omega) (by omega)]
  · exact (funext fun y => stI_ne (Or.inl h1)).trans (o2.1 a h1 h2 h3 h5 h6)
  · rw [stI_ne (by omega)]; exact o2.2.1 k h1 h2 h3 h4 h5 h6 h7
set_option maxHeartbeats 2000000 in
theorem sm_evenings {Γ : Gm} {σ : Mm} {X : Xs} {N : Nat} {a b v : Int32} (hI : XI N X) (h : RM σ X) : Sp Γ 5 mX9_evenings [rf Γ 58, .int a, .int b, .int v] σ (aI (aEvenings X a b v) (fun σ' => RM σ' X ∧ FrM σ σ')) := by
  refine sp_in (L := [some (rf Γ 58), some (.int a), some (.int b), some (.int v), none, none, none, none, none]) rfl (Nat.le_of_ble_eq_true rfl) rfl ?_
  have hP := h.2.1.1
  have hG := hP.2.1.2
  have hbx := inR_ix (k := 1) (a := v) (by omega)
  have bad : ¬ (inR (nI 1) (nI 60) a = true ∧ 0 ≤ b) → aI (aEvenings X a b v) (fun σ' => RM σ' X ∧ FrM σ σ') (some (.int (-102))) σ := fun q => ⟨by unfold aEvenings; rw [if_neg q], h.q OM.rf⟩
  cases hb : ix 2 v with
  | none =>
    rw [hb] at hbx
    refine go_iload_n dX9_evenings_0 rfl rfl ?_
    refine go_i2l dX9_evenings_1 ?_
    refine go_lconst (v := 1) dX9_evenings_2 rfl ?_
    refine go_ldc2 (v := 60) dX9_evenings_3 klX9_213 ?_
    refine go_callSp csX9_64 (sm_in (lo := nI 1) (hi := nI 60) rfl rfl rfl) (by omega) rfl rfl (Nat.le_of_ble_eq_true rfl) dX9_evenings_6 ?_
    refine go_if_eq (tgt := 26) dX9_evenings_9 (by decide) (fun c9 => ?_) (fun c9 => ?_)
    · refine go_bipush (v := (-102)) dX9_evenings_26 rfl ?_
      refine go_iret rfl dX9_evenings_28 ?_
      exact bad (fun z => by rw [z.1] at c9; exact absurd c9 bt0)
    · refine go_iload_n dX9_evenings_12 rfl rfl ?_
      refine go_if_lt (tgt := 26) dX9_evenings_13 (by decide) (fun c13 => ?_) (fun c13 => ?_)
      · refine go_bipush (v := (-102)) dX9_evenings_26 rfl ?_
        refine go_iret rfl dX9_evenings_28 ?_
        exact bad (fun z => Int32.not_lt.mpr z.2 c13)
      · refine go_iload_n dX9_evenings_16 rfl rfl ?_
        refine go_i2l dX9_evenings_17 ?_
        refine go_lconst (v := 0) dX9_evenings_18 rfl ?_
        refine go_lconst (v := 1) dX9_evenings_19 rfl ?_
        refine go_callSp csX9_64 (sm_in (lo := nI 0) (hi := nI 1) rfl rfl rfl) (by omega) rfl rfl (Nat.le_of_ble_eq_true rfl) dX9_evenings_20 ?_
        rw [hbx]
        refine go_if_ne (tgt := 29) dX9_evenings_23 (by decide) (fun c23 => ?_) (fun c23 => ?_)
        · exact absurd rfl c23
        · refine go_bipush (v := (-102)) dX9_evenings_26 rfl ?_
          refine go_iret rfl dX9_evenings_28 ?_
          exact ⟨by unfold aEvenings; rw [if_pos ⟨bI_ne0.mp c9, Int32.not_lt.mp c13⟩, hb], h.q OM.rf⟩
  | some w =>
    obtain ⟨hw, rfl⟩ := ix_some (by omega) hb
    rw [hb] at hbx
    by_cases h0 : pG (xP X) = 0
    · have hs : σ.1 58 14 = nI 0 := by rw [hP.2.1.1, h0]
      refine go_iload_n dX9_evenings_0 rfl rfl ?_
      refine go_i2l dX9_evenings_1 ?_
      refine go_lconst (v := 1) dX9_evenings_2 rfl ?_
      refine go_ldc2 (v := 60) dX9_evenings_3 klX9_213 ?_
      refine go_callSp csX9_64 (sm_in (lo := nI 1) (hi := nI 60) rfl rfl rfl) (by omega) rfl rfl (Nat.le_of_ble_eq_true rfl) dX9_evenings_6 ?_
      refine go_if_eq (tgt := 26) dX9_evenings_9 (by decide) (fun c9 => ?_) (fun c9 => ?_)
      · refine go_bipush (v := (-102)) dX9_evenings_26 rfl ?_
        refine go_iret rfl dX9_evenings_28 ?_
        exact bad (fun z => by rw [z.1] at c9; exact absurd c9 bt0)
      · refine go_iload_n dX9_evenings_12 rfl rfl ?_
        refine go_if_lt (tgt := 26) dX9_evenings_13 (by decide) (fun c13 => ?_) (fun c13 => ?_)
        · refine go_bipush (v := (-102)) dX9_evenings_26 rfl ?_
          refine go_iret rfl dX9_evenings_28 ?_
          exact bad (fun z => Int32.not_lt.mpr z.2 c13)
        · refine go_iload_n dX9_evenings_16 rfl rfl ?_
          refine go_i2l dX9_evenings_17 ?_
          refine go_lconst (v := 0) dX9_evenings_18 rfl ?_
          refine go_lconst (v := 1) dX9_evenings_19 rfl ?_
          refine go_callSp csX9_64 (sm_in (lo := nI 0) (hi := nI 1) rfl rfl rfl) (by omega) rfl rfl (Nat.le_of_ble_eq_true rfl) dX9_evenings_20 ?_
          rw [hbx]
          refine go_if_ne (tgt := 29) dX9_evenings_23 (by decide) (fun c23 => ?_) (fun c23 => ?_)
          · refine go_aload_n dX9_evenings_29 rfl rfl ?_
            refine go_getI flX9_96 fs_58_14 dX9_evenings_30 ?_
            rw [hs]
            refine go_if_ne (tgt := 39) dX9_evenings_33 (by decide) (fun c33 => ?_) (fun c33 => ?_)
            · exact absurd rfl c33
            · refine go_bipush (v := (-103)) dX9_evenings_36 rfl ?_
              refine go_iret rfl dX9_evenings_38 ?_
              exact ⟨by unfold aEvenings; rw [if_pos ⟨bI_ne0.mp c9, Int32.not_lt.mp c13⟩, hb]; simp only [if_pos h0], h.q OM.rf⟩
          · exact absurd c23 bt0
    · have hD0 : 0 < pD (xP X) := by
        rcases Nat.eq_zero_or_pos (pD (xP X)) with z | z
        · exact absurd (hI.2.1.2.2.2.1 z) h0
        · exact z
      refine go_iload_n dX9_evenings_0 rfl rfl ?_
      refine go_i2l dX9_evenings_1 ?_
      refine go_lconst (v := 1) dX9_evenings_2 rfl ?_
      refine go_ldc2 (v := 60) dX9_evenings_3 klX9_213 ?_
      refine go_callSp csX9_64 (sm_in (lo := nI 1) (hi := nI 60) rfl rfl rfl) (by omega) rfl rfl (Nat.le_of_ble_eq_true rfl) dX9_evenings_6 ?_
      refine go_if_eq (tgt := 26) dX9_evenings_9 (by decide) (fun c9 => ?_) (fun c9 => ?_)
      · refine go_bipush (v := (-102)) dX9_evenings_26 rfl ?_
        refine go_iret rfl dX9_evenings_28 ?_
        exact bad (fun z => by rw [z.1] at c9; exact absurd c9 bt0)
      · refine go_iload_n dX9_evenings_12 rfl rfl ?_
        refine go_if_lt (tgt := 26) dX9_evenings_13 (by decide) (fun c13 => ?_) (fun c13 => ?_)
        · refine go_bipush (v := (-102)) dX9_evenings_26 rfl ?_
          refine go_iret rfl dX9_evenings_28 ?_
          exact bad (fun z => Int32.not_lt.mpr z.2 c13)
        · refine go_iload_n dX9_evenings_16 rfl rfl ?_
          refine go_i2l dX9_evenings_17 ?_
          refine go_lconst (v := 0) dX9_evenings_18 rfl ?_
          refine go_lconst (v := 1) dX9_evenings_19 rfl ?_
          refine go_callSp csX9_64 (sm_in (lo := nI 0) (hi := nI 1) rfl rfl rfl) (by omega) rfl rfl (Nat.le_of_ble_eq_true rfl) dX9_evenings_20 ?_
          rw [hbx]
          refine go_if_ne (tgt := 29) dX9_evenings_23 (by decide) (fun c23 => ?_) (fun c23 => ?_)
          · refine go_aload_n dX9_evenings_29 rfl rfl ?_
            refine go_getI flX9_96 fs_58_14 dX9_evenings_30 ?_
            rw [hP.2.1.1]
            refine go_if_ne (tgt := 39) dX9_evenings_33 (by decide) (fun c33 => ?_) (fun c33 => ?_)
            · have ha' := bI_ne0.mp c9
              have hb0 := Int32.not_lt.mp c13
              have ha := ha'
              unfold inR at ha
              simp only [Bool.and_eq_true, decide_eq_true_eq] at ha
              obtain ⟨n, hn31, rfl⟩ := nI_of (x := a) (fun z => nI_pos (n := 1) (by omega) (Int32.lt_of_le_of_lt ha.1 z))
              rw [nI_leI (by omega) (by omega), nI_leI (by omega) (by omega)] at ha
              obtain ⟨s, hs31, rfl⟩ := nI_of (x := b) c13
              refine go_mono (fun v σ' q => ⟨?_, h.q q.2⟩) (lp_evenM0 (Γ := Γ) (s := s) (n := n) (w := nI w) h.2.1 (by omega) (by omega) (by omega) hD0)
              rw [q.1]
              unfold aEvenings
              rw [if_pos (show inR (nI 1) (nI 60) (nI n) = true ∧ 0 ≤ nI s from ⟨ha', hb0⟩), hb]
              simp only [if_neg h0]
              rw [nI_clamp hn31, nI_clamp hs31]
              by_cases z : w = 0
              · subst z; rfl
              · rw [if_neg z, if_neg (fun y => z ((nI_z (by omega)).mp y))]
            · exact absurd ((nI_z (by omega)).mp c33) h0
          · exact absurd c23 bt0
