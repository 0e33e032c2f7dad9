/-! the model's public methods (3) -/
theorem RM.party {σ σ' : Mm} {X : Xs} {P' : Pb} (h : RM σ X) (ho : ∀ a, a ≠ 58 → a ≠ 64 → a ≠ 65 → a ≠ 66 → σ'.1 a = σ.1 a) (hf : ∀ k, k ≠ 10 → k ≠ 11 → k ≠ 14 → σ'.1 58 k = σ.1 58 k) (hS : MS σ' P') (hr : Rw σ' 66 P' (xH X)) (hg : pG (xP X) ≤ pG P') : RM σ' (P', X.2) := by
  obtain ⟨⟨a1, a2⟩, b, c, d, ⟨e1, e2⟩, f⟩ := h
  have d' := d.eq (hf 23 (by omega) (by omega) (by omega)) (ho 68 (by omega) (by omega) (by omega) (by omega))
  exact ⟨⟨by rw [hf 1 (by omega) (by omega) (by omega)]; exact a1, fun k hk => by rw [ho 59 (by omega) (by omega) (by omega) (by omega)]; exact a2 k hk⟩, hS, hr, ⟨d'.1, d'.2.1, fun e he => by obtain ⟨y1, y2, y3, y4, y5⟩ := d'.2.2 e he; exact ⟨y1, Nat.lt_of_lt_of_le y2 hg, y3, Nat.lt_of_lt_of_le y4 hg, y5⟩⟩, ⟨by rw [hf 9 (by omega) (by omega) (by omega)]; exact e1, by rw [hf 22 (by omega) (by omega) (by omega)]; exact e2⟩, RMk.eq f (fun k h1 h2 => hf k (by omega) (by omega) (by omega)) (fun a h1 h2 => ho a (by omega) (by omega) (by omega) (by omega))⟩
set_option maxHeartbeats 2000000 in
theorem sm_want {Γ : Gm} {σ : Mm} {X : Xs} {a b v : Int32} (h : RM σ X) : Sp Γ 3 mX9_want [rf Γ 58, .int a, .int b, .int v] σ (aI (aWant X a b v) (fun σ' => RM σ' (tWant X a b v) ∧ FrM σ σ')) := by
  refine sp_in (L := [some (rf Γ 58), some (.int a), some (.int b), some (.int v), none]) rfl (Nat.le_of_ble_eq_true rfl) rfl ?_
  have hP := h.2.1.1
  have hG := hP.2.1.2
  have hD := hP.1.2
  cases hi : ix (pG (xP X)) a with
  | none =>
    refine go_aload_n dX9_want_0 rfl rfl ?_
    refine go_iload_n dX9_want_1 rfl rfl ?_
    refine go_callVp cvX9_131 os_58 (sm_isGuest hP) (by omega) rfl rfl (Nat.le_of_ble_eq_true rfl) dX9_want_2 ?_
    rw [hi]
    refine go_if_eq (tgt := 16) dX9_want_5 (by decide) (fun c5 => ?_) (fun c5 => ?_)
    · refine go_bipush (v := (-101)) dX9_want_16 rfl ?_
      refine go_iret rfl dX9_want_18 ?_
      exact ⟨by unfold aWant; rw [hi], by unfold tWant; rw [hi]; exact h.q OM.rf⟩
    · exact absurd rfl c5
  | some g =>
    obtain ⟨hg, rfl⟩ := ix_some (by omega) hi
    cases hj : ix (pD (xP X)) b with
    | none =>
      refine go_aload_n dX9_want_0 rfl rfl ?_
      refine go_iload_n dX9_want_1 rfl rfl ?_
      refine go_callVp cvX9_131 os_58 (sm_isGuest hP) (by omega) rfl rfl (Nat.le_of_ble_eq_true rfl) dX9_want_2 ?_
      rw [hi]
      refine go_if_eq (tgt := 16) dX9_want_5 (by decide) (fun c5 => ?_) (fun c5 => ?_)
      · exact absurd c5 bt0
      · refine go_aload_n dX9_want_8 rfl rfl ?_
        refine go_iload_n dX9_want_9 rfl rfl ?_
        refine go_callVp cvX9_112 os_58 (sm_isDish hP) (by omega) rfl rfl (Nat.le_of_ble_eq_true rfl) dX9_want_10 ?_
        rw [hj]
        refine go_if_ne (tgt := 19) dX9_want_13 (by decide) (fun c13 => ?_) (fun c13 => ?_)
        · exact absurd rfl c13
        · refine go_bipush (v := (-101)) dX9_want_16 rfl ?_
          refine go_iret rfl dX9_want_18 ?_
          exact ⟨by unfold aWant; rw [hi, hj], by unfold tWant; rw [hi, hj]; exact h.q OM.rf⟩
    | some d =>
      obtain ⟨hd, rfl⟩ := ix_some (by omega) hj
      refine go_aload_n dX9_want_0 rfl rfl ?_
      refine go_iload_n dX9_want_1 rfl rfl ?_
      refine go_callVp cvX9_131 os_58 (sm_isGuest hP) (by omega) rfl rfl (Nat.le_of_ble_eq_true rfl) dX9_want_2 ?_
      rw [hi]
      refine go_if_eq (tgt := 16) dX9_want_5 (by decide) (fun c5 => ?_) (fun c5 => ?_)
      · exact absurd c5 bt0
      · refine go_aload_n dX9_want_8 rfl rfl ?_
        refine go_iload_n dX9_want_9 rfl rfl ?_
        refine go_callVp cvX9_112 os_58 (sm_isDish hP) (by omega) rfl rfl (Nat.le_of_ble_eq_true rfl) dX9_want_10 ?_
        rw [hj]
        refine go_if_ne (tgt := 19) dX9_want_13 (by decide) (fun c13 => ?_) (fun c13 => ?_)
        · refine go_iload_n dX9_want_19 rfl rfl ?_
          refine go_i2l dX9_want_20 ?_
          refine go_lconst (v := 0) dX9_want_21 rfl ?_
          refine go_ldc2 (v := 9) dX9_want_22 klX9_77 ?_
          refine go_callSp csX9_64 (sm_in (lo := nI 0) (hi := nI 9) rfl rfl rfl) (by omega) rfl rfl (Nat.le_of_ble_eq_true rfl) dX9_want_25 ?_
          refine go_if_ne (tgt := 34) dX9_want_28 (by decide) (fun c28 => ?_) (fun c28 => ?_)
          · refine go_aload_n dX9_want_34 rfl rfl ?_
            refine go_getR flX9_28 fs_58_16 dX9_want_35 ?_
            refine go_bipush (v := nI 6) dX9_want_38 rfl ?_
            refine go_iload_n dX9_want_40 rfl rfl ?_
            refine go_imul dX9_want_41 ?_
            refine go_iload_n dX9_want_42 rfl rfl ?_
            refine go_iadd dX9_want_43 ?_
            refine go_iald ((6 * g) + d) (by simp only [pk_mul, nI_add]) as_65 (by omega) (by decide) dX9_want_44 ?_
            rw [(hP.2.2.2 g hg).2.2 d hd]
            refine go_istore (L' := [_, _, _, _, _]) dX9_want_45 (by decide) rfl rfl ?_
            refine go_aload_n dX9_want_47 rfl rfl ?_
            refine go_getR flX9_28 fs_58_16 dX9_want_48 ?_
            refine go_bipush (v := nI 6) dX9_want_51 rfl ?_
            refine go_iload_n dX9_want_53 rfl rfl ?_
            refine go_imul dX9_want_54 ?_
            refine go_iload_n dX9_want_55 rfl rfl ?_
            refine go_iadd dX9_want_56 ?_
            refine go_iload_n dX9_want_57 rfl rfl ?_
            refine go_iast ((6 * g) + d) (by simp only [pk_mul, nI_add]) as_65 (by omega) (by decide) dX9_want_58 ?_
            refine go_iload dX9_want_59 rfl ?_
            refine go_iret rfl dX9_want_61 ?_
            have c28 := bI_ne0.mp c28
            refine ⟨by unfold aWant; rw [hi, hj]; simp only [c28]; rfl, ?_, FrM.rf.st (by omega)⟩
            unfold tWant
            rw [hi, hj]
            simp only [c28, if_true]
            obtain ⟨⟨⟨p1, p2⟩, ⟨p3, p4⟩, p5, p6⟩, m1, m2, m3⟩ := h.2.1
            refine h.party (fun x _ _ h3 _ => funext fun y => stI_ne (Or.inl h3)) (fun k _ _ _ => stI_ne (by omega)) ⟨⟨⟨by rw [stI_ne (by omega)]; exact p1, p2⟩, ⟨by rw [stI_ne (by omega)]; exact p3, p4⟩, fun q hq => by rw [stI_ne (by omega), stI_ne (by omega)]; exact p5 q hq, fun k hk => ?_⟩, by rw [stI_ne (by omega)]; exact m1, by rw [stI_ne (by omega)]; exact m2, by rw [stI_ne (by omega)]; exact m3⟩ (fun k hk => by rw [stI_ne (by omega)]; exact h.2.2.1 k hk) (Nat.le_refl _)
            obtain ⟨y1, y2, y3⟩ := p6 k hk
            refine ⟨by rw [stI_ne (by omega)]; exact y1, by rw [stI_ne (by omega)]; exact y2, fun y hy => ?_⟩
            have hy' : y < pD (xP X) := hy
            show _ = if k = g ∧ y = d then v else pWa (xP X) k y
            by_cases q : k = g ∧ y = d
            · rw [if_pos q, q.1, q.2, stI_at]
            · rw [if_neg q, stI_ne (by omega)]; exact y3 y hy
          · refine go_bipush (v := (-102)) dX9_want_31 rfl ?_
            refine go_iret rfl dX9_want_33 ?_
            exact ⟨by unfold aWant; rw [hi, hj]; simp only [bI_eq0.mp c28]; rfl, by unfold tWant; rw [hi, hj]; simp only [bI_eq0.mp c28]; exact h.q OM.rf⟩
        · exact absurd c13 bt0
set_option maxHeartbeats 2000000 in
theorem sm_purse {Γ : Gm} {σ : Mm} {X : Xs} {a v : Int32} (h : RM σ X) : Sp Γ 3 mX9_purse [rf Γ 58, .int a, .int v] σ (aI (aPurse X a v) (fun σ' => RM σ' (tPurse X a v) ∧ FrM σ σ')) := by
  refine sp_in (L := [some (rf Γ 58), some (.int a), some (.int v), none]) rfl (Nat.le_of_ble_eq_true rfl) rfl ?_
  have hP := h.2.1.1
  have hG := hP.2.1.2
  cases hi : ix (pG (xP X)) a with
  | none =>
    refine go_aload_n dX9_purse_0 rfl rfl ?_
    refine go_iload_n dX9_purse_1 rfl rfl ?_
    refine go_callVp cvX9_131 os_58 (sm_isGuest hP) (by omega) rfl rfl (Nat.le_of_ble_eq_true rfl) dX9_purse_2 ?_
    rw [hi]
    refine go_if_ne (tgt := 11) dX9_purse_5 (by decide) (fun c5 => ?_) (fun c5 => ?_)
    · exact absurd rfl c5
    · refine go_bipush (v := (-101)) dX9_purse_8 rfl ?_
      refine go_iret rfl dX9_purse_10 ?_
      exact ⟨by unfold aPurse; rw [hi], by unfold tPurse; rw [hi]; exact h.q OM.rf⟩
  | some g =>
    obtain ⟨hg, rfl⟩ := ix_some (by omega) hi
    refine go_aload_n dX9_purse_0 rfl rfl ?_
    refine go_iload_n dX9_purse_1 rfl rfl ?_
    refine go_callVp cvX9_131 os_58 (sm_isGuest hP) (by omega) rfl rfl (Nat.le_of_ble_eq_true rfl) dX9_purse_2 ?_
    rw [hi]
    refine go_if_ne (tgt := 11) dX9_purse_5 (by decide) (fun c5 => ?_) (fun c5 => ?_)
    · refine go_iload_n dX9_purse_11 rfl rfl ?_
      refine go_i2l dX9_purse_12 ?_
      refine go_lconst (v := 1) dX9_purse_13 rfl ?_
      refine go_ldc2 (v := 9) dX9_purse_14 klX9_77 ?_
      refine go_callSp csX9_64 (sm_in (lo := nI 1) (hi := nI 9) rfl rfl rfl) (by omega) rfl rfl (Nat.le_of_ble_eq_true rfl) dX9_purse_17 ?_
      refine go_if_ne (tgt := 26) dX9_purse_20 (by decide) (fun c20 => ?_) (fun c20 => ?_)
      · refine go_aload_n dX9_purse_26 rfl rfl ?_
        refine go_getR flX9_25 fs_58_15 dX9_purse_27 ?_
        refine go_iconst (v := nI 2) dX9_purse_30 rfl ?_
        refine go_iload_n dX9_purse_31 rfl rfl ?_
        refine go_imul dX9_purse_32 ?_
        refine go_iconst (v := nI 1) dX9_purse_33 rfl ?_
        refine go_iadd dX9_purse_34 ?_
        refine go_iald ((2 * g) + 1) (by simp only [pk_mul, nI_add]) as_64 (by omega) (by decide) dX9_purse_35 ?_
        rw [(hP.2.2.2 g hg).2.1]
        refine go_istore_n (L' := [_, _, _, _]) dX9_purse_36 rfl (by decide) rfl rfl ?_
        refine go_aload_n dX9_purse_37 rfl rfl ?_
        refine go_getR flX9_25 fs_58_15 dX9_purse_38 ?_
        refine go_iconst (v := nI 2) dX9_purse_41 rfl ?_
        refine go_iload_n dX9_purse_42 rfl rfl ?_
        refine go_imul dX9_purse_43 ?_
        refine go_iconst (v := nI 1) dX9_purse_44 rfl ?_
        refine go_iadd dX9_purse_45 ?_
        refine go_iload_n dX9_purse_46 rfl rfl ?_
        refine go_iast ((2 * g) + 1) (by simp only [pk_mul, nI_add]) as_64 (by omega) (by decide) dX9_purse_47 ?_
        refine go_iload_n dX9_purse_48 rfl rfl ?_
        refine go_iret rfl dX9_purse_49 ?_
        have c20 := bI_ne0.mp c20
        refine ⟨by unfold aPurse; rw [hi]; simp only [c20]; rfl, ?_, FrM.rf.st (by omega)⟩
        unfold tPurse
        rw [hi]
        simp only [c20, if_true]
        obtain ⟨⟨⟨p1, p2⟩, ⟨p3, p4⟩, p5, p6⟩, m1, m2, m3⟩ := h.2.1
        refine h.party (fun x _ h2 _ _ => funext fun y => stI_ne (Or.inl h2)) (fun k _ _ _ => stI_ne (by omega)) ⟨⟨⟨by rw [stI_ne (by omega)]; exact p1, p2⟩, ⟨by rw [stI_ne (by omega)]; exact p3, p4⟩, fun q hq => by rw [stI_ne (by omega), stI_ne (by omega)]; exact p5 q hq, fun k hk => ?_⟩, by rw [stI_ne (by omega)]; exact m1, by rw [stI_ne (by omega)]; exact m2, by rw [stI_ne (by omega)]; exact m3⟩ (fun k hk => by rw [stI_ne (by omega)]; exact h.2.2.1 k hk) (Nat.le_refl _)
        obtain ⟨y1, y2, y3⟩ := p6 k hk
        refine ⟨by rw [stI_ne (by omega)]; exact y1, ?_, fun y hy => by rw [stI_ne (by omega)]; exact y3 y hy⟩
        show _ = upd (pPu (xP X)) g v k
        by_cases q : k = g
        · subst q; rw [stI_at]; simp [upd]
        · rw [stI_ne (by omega), y2]; simp [upd, q]
      · refine go_bipush (v := (-102)) dX9_purse_23 rfl ?_
        refine go_iret rfl dX9_purse_25 ?_
        exact ⟨by unfold aPurse; rw [hi]; simp only [bI_eq0.mp c20]; rfl, by unfold tPurse; rw [hi]; simp only [bI_eq0.mp c20]; exact h.q OM.rf⟩
    · exact absurd c5 bt0
set_option maxHeartbeats 2000000 in
theorem sm_urge {Γ : Gm} {σ : Mm} {X : Xs} {a v : Int32} (h : RM σ X) : Sp Γ 3 mX9_urge [rf Γ 58, .int a, .int v] σ (aI (aUrge X a v) (fun σ' => RM σ' (tUrge X a v) ∧ FrM σ σ')) := by
  refine sp_in (L := [some (rf Γ 58), some (.int a), some (.int v), none]) rfl (Nat.le_of_ble_eq_true rfl) rfl ?_
  have hP := h.2.1.1
  have hD := hP.1.2
  cases hi : ix (pD (xP X)) a with
  | none =>
    refine go_aload_n dX9_urge_0 rfl rfl ?_
    refine go_iload_n dX9_urge_1 rfl rfl ?_
    refine go_callVp cvX9_112 os_58 (sm_isDish hP) (by omega) rfl rfl (Nat.le_of_ble_eq_true rfl) dX9_urge_2 ?_
    rw [hi]
    refine go_if_ne (tgt := 11) dX9_urge_5 (by decide) (fun c5 => ?_) (fun c5 => ?_)
    · exact absurd rfl c5
    · refine go_bipush (v := (-101)) dX9_urge_8 rfl ?_
      refine go_iret rfl dX9_urge_10 ?_
      exact ⟨by unfold aUrge; rw [hi], by unfold tUrge; rw [hi]; exact h.q OM.rf⟩
  | some d =>
    have fin : inR (nI 0) (nI 20) v = true → ∀ u, u = (if v = 0 then -1 else a) → aI (aUrge X a v) (fun σ' => RM σ' (tUrge X a v) ∧ FrM σ σ') (some (.int (pUr (xP X)))) (stI (stI σ 58 10 u) 58 11 v) := by
      intro c u hu
      subst hu
      refine ⟨by unfold aUrge; rw [hi]; simp only [c]; rfl, ?_, (FrM.rf.st (by omega)).st (by omega)⟩
      unfold tUrge
      rw [hi]
      simp only [c, if_true]
      obtain ⟨⟨⟨p1, p2⟩, ⟨p3, p4⟩, p5, p6⟩, m1, m2, m3⟩ := h.2.1
      refine h.party (fun x h1 _ _ _ => funext fun y => (stI_ne (Or.inl h1)).trans (stI_ne (Or.inl h1))) (fun k h1 h2 _ => (stI_ne (by omega)).trans (stI_ne (by omega))) ⟨⟨⟨?_, p2⟩, ⟨?_, p4⟩, fun q hq => ?_, fun k hk => ?_⟩, ?_, ?_, stI_at⟩ (fun k hk => ?_) (Nat.le_refl _)
      · simp (disch := omega) only [stI_ne]; exact p1
      · simp (disch := omega) only [stI_ne]; exact p3
      · simp (disch := omega) only [stI_ne]; exact p5 q hq
      · simp (disch := omega) only [stI_ne]; exact p6 k hk
      · simp (disch := omega) only [stI_ne]; exact m1
      · rw [stI_ne (by omega), stI_at]; rfl
      · simp (disch := omega) only [stI_ne]; exact h.2.2.1 k hk
    refine go_aload_n dX9_urge_0 rfl rfl ?_
    refine go_iload_n dX9_urge_1 rfl rfl ?_
    refine go_callVp cvX9_112 os_58 (sm_isDish hP) (by omega) rfl rfl (Nat.le_of_ble_eq_true rfl) dX9_urge_2 ?_
    rw [hi]
    refine go_if_ne (tgt := 11) dX9_urge_5 (by decide) (fun c5 => ?_) (fun c5 => ?_)
    · refine go_iload_n dX9_urge_11 rfl rfl ?_
      refine go_i2l dX9_urge_12 ?_
      refine go_lconst (v := 0) dX9_urge_13 rfl ?_
      refine go_ldc2 (v := 20) dX9_urge_14 klX9_137 ?_
      refine go_callSp csX9_64 (sm_in (lo := nI 0) (hi := nI 20) rfl rfl rfl) (by omega) rfl rfl (Nat.le_of_ble_eq_true rfl) dX9_urge_17 ?_
      refine go_if_ne (tgt := 26) dX9_urge_20 (by decide) (fun c20 => ?_) (fun c20 => ?_)
      · refine go_aload_n dX9_urge_26 rfl rfl ?_
        refine go_getI flX9_59 fs_58_10 dX9_urge_27 ?_
        rw [h.2.1.2.2.1]
        refine go_istore_n (L' := [_, _, _, _]) dX9_urge_30 rfl (by decide) rfl rfl ?_
        refine go_aload_n dX9_urge_31 rfl rfl ?_
        refine go_iload_n dX9_urge_32 rfl rfl ?_
        refine go_if_ne (tgt := 40) dX9_urge_33 (by decide) (fun c33 => ?_) (fun c33 => ?_)
        · refine go_iload_n dX9_urge_40 rfl rfl ?_
          refine go_putI fwX9_59 fs_58_10 dX9_urge_41 ?_
          refine go_aload_n dX9_urge_44 rfl rfl ?_
          refine go_iload_n dX9_urge_45 rfl rfl ?_
          refine go_putI fwX9_102 fs_58_11 dX9_urge_46 ?_
          refine go_iload_n dX9_urge_49 rfl rfl ?_
          refine go_iret rfl dX9_urge_50 ?_
          exact fin (bI_ne0.mp c20) _ (by rw [if_neg c33])
        · refine go_iconst (v := (-1)) dX9_urge_36 rfl ?_
          refine go_goto (tgt := 41) dX9_urge_37 (by decide) ?_
          refine go_putI fwX9_59 fs_58_10 dX9_urge_41 ?_
          refine go_aload_n dX9_urge_44 rfl rfl ?_
          refine go_iload_n dX9_urge_45 rfl rfl ?_
          refine go_putI fwX9_102 fs_58_11 dX9_urge_46 ?_
          refine go_iload_n dX9_urge_49 rfl rfl ?_
          refine go_iret rfl dX9_urge_50 ?_
          exact fin (bI_ne0.mp c20) _ (by rw [if_pos c33])
      · refine go_bipush (v := (-102)) dX9_urge_23 rfl ?_
        refine go_iret rfl dX9_urge_25 ?_
        exact ⟨by unfold aUrge; rw [hi]; simp only [bI_eq0.mp c20]; rfl, by unfold tUrge; rw [hi]; simp only [bI_eq0.mp c20]; exact h.q OM.rf⟩
    · exact absurd c5 bt0
