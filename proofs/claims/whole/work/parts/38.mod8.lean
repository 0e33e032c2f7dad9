/-! the model's public methods (2) -/
set_option maxHeartbeats 1000000 in
theorem sm_about {Γ : Gm} {σ : Mm} {X : Xs} {N : Nat} {a b : Int32} (hI : XI N X) (h : RM σ X) : Sp Γ 3 mX9_about [rf Γ 58, .int a, .int b] σ (aP (aAbout X a b) σ) := by
  refine sp_in (L := [some (rf Γ 58), some (.int a), some (.int b)]) rfl (Nat.le_of_ble_eq_true rfl) rfl ?_
  have hP := h.2.1.1
  have hG := hP.2.1.2
  cases hi : ix (pG (xP X)) a with
  | none =>
    refine go_aload_n dX9_about_0 rfl rfl ?_
    refine go_iload_n dX9_about_1 rfl rfl ?_
    refine go_callVp cvX9_131 os_58 (sm_isGuest hP) (by omega) rfl rfl (Nat.le_of_ble_eq_true rfl) dX9_about_2 ?_
    rw [hi]
    refine go_if_eq (tgt := 17) dX9_about_5 (by decide) (fun c5 => ?_) (fun c5 => ?_)
    · refine go_bipush (v := (-101)) dX9_about_17 rfl ?_
      refine go_iret rfl dX9_about_19 ?_
      exact ⟨by unfold aAbout; rw [hi], rfl⟩
    · exact absurd rfl c5
  | some g =>
    obtain ⟨hg, rfl⟩ := ix_some (by omega) hi
    refine go_aload_n dX9_about_0 rfl rfl ?_
    refine go_iload_n dX9_about_1 rfl rfl ?_
    refine go_callVp cvX9_131 os_58 (sm_isGuest hP) (by omega) rfl rfl (Nat.le_of_ble_eq_true rfl) dX9_about_2 ?_
    rw [hi]
    refine go_if_eq (tgt := 17) dX9_about_5 (by decide) (fun c5 => ?_) (fun c5 => ?_)
    · exact absurd c5 bt0
    · refine go_aload_n dX9_about_8 rfl rfl ?_
      refine go_iload_n dX9_about_9 rfl rfl ?_
      refine go_iload_n dX9_about_10 rfl rfl ?_
      refine go_callVp cvX9_134 os_58 (sm_tell hI h hg) (by omega) rfl rfl (Nat.le_of_ble_eq_true rfl) dX9_about_11 ?_
      refine go_goto (tgt := 19) dX9_about_14 (by decide) ?_
      refine go_iret rfl dX9_about_19 ?_
      exact ⟨rfl, rfl⟩
set_option maxHeartbeats 2000000 in
theorem sm_as {Γ : Gm} {σ : Mm} {X : Xs} {a b : Int32} (h : RM σ X) : Sp Γ 3 mX9_as [rf Γ 58, .int a, .int b] σ (aP (aAs X a b) σ) := by
  refine sp_in (L := [some (rf Γ 58), some (.int a), some (.int b), none, none]) rfl (Nat.le_of_ble_eq_true rfl) rfl ?_
  have hP := h.2.1.1
  have hG := hP.2.1.2
  cases hi : ix (pG (xP X)) a with
  | none =>
    refine go_aload_n dX9_as_0 rfl rfl ?_
    refine go_iload_n dX9_as_1 rfl rfl ?_
    refine go_callVp cvX9_131 os_58 (sm_isGuest hP) (by omega) rfl rfl (Nat.le_of_ble_eq_true rfl) dX9_as_2 ?_
    rw [hi]
    refine go_if_ne (tgt := 11) dX9_as_5 (by decide) (fun c5 => ?_) (fun c5 => ?_)
    · exact absurd rfl c5
    · refine go_bipush (v := (-101)) dX9_as_8 rfl ?_
      refine go_iret rfl dX9_as_10 ?_
      exact ⟨by unfold aAs; rw [hi], rfl⟩
  | some g =>
    obtain ⟨hg, rfl⟩ := ix_some (by omega) hi
    have yes : inR (nI 0) (nI 4) b = true → isK (pKi (xP X) g) b = true → aAs X (nI g) b = nI g := fun q1 q2 => by
      unfold aAs; rw [hi]; simp only [q1, q2]; rfl
    have no : inR (nI 0) (nI 4) b = true → isK (pKi (xP X) g) b = false → aAs X (nI g) b = -1 := fun q1 q2 => by
      unfold aAs; rw [hi]; simp only [q1, q2]; rfl
    refine go_aload_n dX9_as_0 rfl rfl ?_
    refine go_iload_n dX9_as_1 rfl rfl ?_
    refine go_callVp cvX9_131 os_58 (sm_isGuest hP) (by omega) rfl rfl (Nat.le_of_ble_eq_true rfl) dX9_as_2 ?_
    rw [hi]
    refine go_if_ne (tgt := 11) dX9_as_5 (by decide) (fun c5 => ?_) (fun c5 => ?_)
    · refine go_iload_n dX9_as_11 rfl rfl ?_
      refine go_i2l dX9_as_12 ?_
      refine go_lconst (v := 0) dX9_as_13 rfl ?_
      refine go_ldc2 (v := 4) dX9_as_14 klX9_119 ?_
      refine go_callSp csX9_64 (sm_in (lo := nI 0) (hi := nI 4) rfl rfl rfl) (by omega) rfl rfl (Nat.le_of_ble_eq_true rfl) dX9_as_17 ?_
      refine go_if_ne (tgt := 26) dX9_as_20 (by decide) (fun c20 => ?_) (fun c20 => ?_)
      · refine go_aload_n dX9_as_26 rfl rfl ?_
        refine go_getR flX9_25 fs_58_15 dX9_as_27 ?_
        refine go_iconst (v := nI 2) dX9_as_30 rfl ?_
        refine go_iload_n dX9_as_31 rfl rfl ?_
        refine go_imul dX9_as_32 ?_
        refine go_iald (2 * g) (by simp only [pk_mul, nI_add]) as_64 (by omega) (by decide) dX9_as_33 ?_
        rw [(hP.2.2.2 g hg).1]
        refine go_istore_n (L' := [_, _, _, _, _]) dX9_as_34 rfl (by decide) rfl rfl ?_
        refine go_iload_n dX9_as_35 rfl rfl ?_
        refine go_if_eq (tgt := 54) dX9_as_36 (by decide) (fun c36 => ?_) (fun c36 => ?_)
        · refine go_iconst (v := nI 1) dX9_as_54 rfl ?_
          refine go_goto (tgt := 59) dX9_as_55 (by decide) ?_
          refine go_istore (L' := [_, _, _, _, _]) dX9_as_59 (by decide) rfl rfl ?_
          refine go_iload dX9_as_61 rfl ?_
          refine go_if_eq (tgt := 70) dX9_as_63 (by decide) (fun c63 => ?_) (fun c63 => ?_)
          · refine go_iconst (v := (-1)) dX9_as_70 rfl ?_
            refine go_iret rfl dX9_as_71 ?_
            first | exact absurd c63 (by decide) | exact absurd (show nI 0 = 0 by decide) c63 | exact ⟨by rw [yes (bI_ne0.mp c20) (by unfold isK; simp_all)], rfl⟩
          · refine go_iload_n dX9_as_66 rfl rfl ?_
            refine go_goto (tgt := 71) dX9_as_67 (by decide) ?_
            refine go_iret rfl dX9_as_71 ?_
            first | exact absurd c63 (by decide) | exact absurd (show nI 0 = 0 by decide) c63 | exact ⟨by rw [yes (bI_ne0.mp c20) (by unfold isK; simp_all)], rfl⟩
        · refine go_iload_n dX9_as_39 rfl rfl ?_
          refine go_iload_n dX9_as_40 rfl rfl ?_
          refine go_icmp_eq (tgt := 54) dX9_as_41 (by decide) (fun c41 => ?_) (fun c41 => ?_)
          · refine go_iconst (v := nI 1) dX9_as_54 rfl ?_
            refine go_goto (tgt := 59) dX9_as_55 (by decide) ?_
            refine go_istore (L' := [_, _, _, _, _]) dX9_as_59 (by decide) rfl rfl ?_
            refine go_iload dX9_as_61 rfl ?_
            refine go_if_eq (tgt := 70) dX9_as_63 (by decide) (fun c63 => ?_) (fun c63 => ?_)
            · refine go_iconst (v := (-1)) dX9_as_70 rfl ?_
              refine go_iret rfl dX9_as_71 ?_
              first | exact absurd c63 (by decide) | exact absurd (show nI 0 = 0 by decide) c63 | exact ⟨by rw [yes (bI_ne0.mp c20) (by unfold isK; simp_all)], rfl⟩
            · refine go_iload_n dX9_as_66 rfl rfl ?_
              refine go_goto (tgt := 71) dX9_as_67 (by decide) ?_
              refine go_iret rfl dX9_as_71 ?_
              first | exact absurd c63 (by decide) | exact absurd (show nI 0 = 0 by decide) c63 | exact ⟨by rw [yes (bI_ne0.mp c20) (by unfold isK; simp_all)], rfl⟩
          · refine go_iload_n dX9_as_44 rfl rfl ?_
            refine go_iconst (v := nI 3) dX9_as_45 rfl ?_
            refine go_icmp_ne (tgt := 58) dX9_as_46 (by decide) (fun c46 => ?_) (fun c46 => ?_)
            · refine go_iconst (v := nI 0) dX9_as_58 rfl ?_
              refine go_istore (L' := [_, _, _, _, _]) dX9_as_59 (by decide) rfl rfl ?_
              refine go_iload dX9_as_61 rfl ?_
              refine go_if_eq (tgt := 70) dX9_as_63 (by decide) (fun c63 => ?_) (fun c63 => ?_)
              · refine go_iconst (v := (-1)) dX9_as_70 rfl ?_
                refine go_iret rfl dX9_as_71 ?_
                exact ⟨by rw [no (bI_ne0.mp c20) (by unfold isK; simp [c36, c41, c46])], rfl⟩
              · refine go_iload_n dX9_as_66 rfl rfl ?_
                refine go_goto (tgt := 71) dX9_as_67 (by decide) ?_
                refine go_iret rfl dX9_as_71 ?_
                first | exact absurd c63 (by decide) | exact absurd (show nI 0 = 0 by decide) c63 | exact ⟨by rw [yes (bI_ne0.mp c20) (by unfold isK; simp_all)], rfl⟩
            · refine go_iload_n dX9_as_49 rfl rfl ?_
              refine go_iconst (v := nI 4) dX9_as_50 rfl ?_
              refine go_icmp_ne (tgt := 58) dX9_as_51 (by decide) (fun c51 => ?_) (fun c51 => ?_)
              · refine go_iconst (v := nI 0) dX9_as_58 rfl ?_
                refine go_istore (L' := [_, _, _, _, _]) dX9_as_59 (by decide) rfl rfl ?_
                refine go_iload dX9_as_61 rfl ?_
                refine go_if_eq (tgt := 70) dX9_as_63 (by decide) (fun c63 => ?_) (fun c63 => ?_)
                · refine go_iconst (v := (-1)) dX9_as_70 rfl ?_
                  refine go_iret rfl dX9_as_71 ?_
                  exact ⟨by rw [no (bI_ne0.mp c20) (by unfold isK; simp [c36, c41, c51])], rfl⟩
                · refine go_iload_n dX9_as_66 rfl rfl ?_
                  refine go_goto (tgt := 71) dX9_as_67 (by decide) ?_
                  refine go_iret rfl dX9_as_71 ?_
                  first | exact absurd c63 (by decide) | exact absurd (show nI 0 = 0 by decide) c63 | exact ⟨by rw [yes (bI_ne0.mp c20) (by unfold isK; simp_all)], rfl⟩
              · refine go_iconst (v := nI 1) dX9_as_54 rfl ?_
                refine go_goto (tgt := 59) dX9_as_55 (by decide) ?_
                refine go_istore (L' := [_, _, _, _, _]) dX9_as_59 (by decide) rfl rfl ?_
                refine go_iload dX9_as_61 rfl ?_
                refine go_if_eq (tgt := 70) dX9_as_63 (by decide) (fun c63 => ?_) (fun c63 => ?_)
                · refine go_iconst (v := (-1)) dX9_as_70 rfl ?_
                  refine go_iret rfl dX9_as_71 ?_
                  first | exact absurd c63 (by decide) | exact absurd (show nI 0 = 0 by decide) c63 | exact ⟨by rw [yes (bI_ne0.mp c20) (by unfold isK; simp_all)], rfl⟩
                · refine go_iload_n dX9_as_66 rfl rfl ?_
                  refine go_goto (tgt := 71) dX9_as_67 (by decide) ?_
                  refine go_iret rfl dX9_as_71 ?_
                  first | exact absurd c63 (by decide) | exact absurd (show nI 0 = 0 by decide) c63 | exact ⟨by rw [yes (bI_ne0.mp c20) (by unfold isK; simp_all)], rfl⟩
      · refine go_bipush (v := (-102)) dX9_as_23 rfl ?_
        refine go_iret rfl dX9_as_25 ?_
        exact ⟨by unfold aAs; rw [hi]; simp only [bI_eq0.mp c20]; rfl, rfl⟩
    · exact absurd c5 bt0
set_option maxHeartbeats 2000000 in
theorem sm_takes {Γ : Gm} {σ : Mm} {X : Xs} {a : Int32} (h : RM σ X) : Sp Γ 5 mX9_takes [rf Γ 58, .int a] σ (aI (aTakes X a) (fun σ' => RM σ' X ∧ FrM σ σ')) := by
  refine sp_in (L := [some (rf Γ 58), some (.int a)]) rfl (Nat.le_of_ble_eq_true rfl) rfl ?_
  have hP := h.2.1.1
  have hG := hP.2.1.2
  cases hi : ix (pG (xP X)) a with
  | none =>
    refine go_aload_n dX9_takes_0 rfl rfl ?_
    refine go_iload_n dX9_takes_1 rfl rfl ?_
    refine go_callVp cvX9_131 os_58 (sm_isGuest hP) (by omega) rfl rfl (Nat.le_of_ble_eq_true rfl) dX9_takes_2 ?_
    rw [hi]
    refine go_if_ne (tgt := 11) dX9_takes_5 (by decide) (fun c5 => ?_) (fun c5 => ?_)
    · exact absurd rfl c5
    · refine go_bipush (v := (-101)) dX9_takes_8 rfl ?_
      refine go_iret rfl dX9_takes_10 ?_
      exact ⟨by unfold aTakes; rw [hi], h.q OM.rf⟩
  | some g =>
    obtain ⟨hg, rfl⟩ := ix_some (by omega) hi
    refine go_aload_n dX9_takes_0 rfl rfl ?_
    refine go_iload_n dX9_takes_1 rfl rfl ?_
    refine go_callVp cvX9_131 os_58 (sm_isGuest hP) (by omega) rfl rfl (Nat.le_of_ble_eq_true rfl) dX9_takes_2 ?_
    rw [hi]
    refine go_if_ne (tgt := 11) dX9_takes_5 (by decide) (fun c5 => ?_) (fun c5 => ?_)
    · refine go_aload_n dX9_takes_11 rfl rfl ?_
      refine go_getR flX9_31 fs_58_17 dX9_takes_12 ?_
      refine go_iload_n dX9_takes_15 rfl rfl ?_
      refine go_iald (g) rfl as_66 (by omega) (by decide) dX9_takes_16 ?_
      rw [h.2.2.1 g hg]
      refine go_bipush (v := (-2)) dX9_takes_17 rfl ?_
      refine go_icmp_eq (tgt := 25) dX9_takes_19 (by decide) (fun c19 => ?_) (fun c19 => ?_)
      · refine go_aload_n dX9_takes_25 rfl rfl ?_
        refine go_callVv cvX9_156 os_58 (sm_asItIs h.2.1) (by omega) rfl rfl (Nat.le_of_ble_eq_true rfl) dX9_takes_26 (fun σ1 q1 => ?_)
        refine go_aload_n dX9_takes_29 rfl rfl ?_
        refine go_aload_n dX9_takes_30 rfl rfl ?_
        refine go_getR flX9_31 fs_58_17 dX9_takes_31 ?_
        refine go_iload_n dX9_takes_34 rfl rfl ?_
        refine go_callVp cvX9_159 os_58 (sm_bestFor isR66 (hP.om q1.2.1) q1.1 (h.om q1.2.1).2.2.1 hg) (by omega) rfl rfl (Nat.le_of_ble_eq_true rfl) dX9_takes_35 ?_
        refine go_iret rfl dX9_takes_38 ?_
        exact ⟨by unfold aTakes; rw [hi]; simp only [if_pos c19], h.q q1.2.1⟩
      · refine go_bipush (v := (-103)) dX9_takes_22 rfl ?_
        refine go_iret rfl dX9_takes_24 ?_
        exact ⟨by unfold aTakes; rw [hi]; simp only [if_neg c19], h.q OM.rf⟩
    · exact absurd c5 bt0
theorem RM.row {σ σ' : Mm} {X : Xs} {r : Nat → Int32} (h : RM σ X) (ho : ∀ a, a ≠ 66 → σ'.1 a = σ.1 a) (hr : Rw σ' 66 (xP X) r) : RM σ' (setH X r) := by
  obtain ⟨⟨a1, a2⟩, b, c, d, ⟨e1, e2⟩, f⟩ := h
  have h58 := ho 58 (by omega)
  exact ⟨⟨by rw [h58]; exact a1, fun k hk => by rw [ho 59 (by omega)]; exact a2 k hk⟩, b.eq (fun k hk => by rw [h58]) (fun a h1 h2 => ho a (by omega)), hr, d.eq (by rw [h58]) (ho 68 (by omega)), ⟨by rw [h58]; exact e1, by rw [h58]; exact e2⟩, RMk.eq f (fun k h1 h2 => by rw [h58]) (fun a h1 h2 => ho a (by omega))⟩
set_option maxHeartbeats 2000000 in
theorem sm_order {Γ : Gm} {σ : Mm} {X : Xs} {a : Int32} (h : RM σ X) : Sp Γ 5 mX9_order [rf Γ 58, .int a] σ (aI (aTakes X a) (fun σ' => RM σ' (tOrder X a) ∧ FrM σ σ')) := by
  refine sp_in (L := [some (rf Γ 58), some (.int a)]) rfl (Nat.le_of_ble_eq_true rfl) rfl ?_
  have hP := h.2.1.1
  have hG := hP.2.1.2
  cases hi : ix (pG (xP X)) a with
  | none =>
    refine go_aload_n dX9_order_0 rfl rfl ?_
    refine go_iload_n dX9_order_1 rfl rfl ?_
    refine go_callVp cvX9_131 os_58 (sm_isGuest hP) (by omega) rfl rfl (Nat.le_of_ble_eq_true rfl) dX9_order_2 ?_
    rw [hi]
    refine go_if_ne (tgt := 11) dX9_order_5 (by decide) (fun c5 => ?_) (fun c5 => ?_)
    · exact absurd rfl c5
    · refine go_bipush (v := (-101)) dX9_order_8 rfl ?_
      refine go_iret rfl dX9_order_10 ?_
      exact ⟨by unfold aTakes; rw [hi], by unfold tOrder; rw [hi]; exact h.q OM.rf⟩
  | some g =>
    obtain ⟨hg, rfl⟩ := ix_some (by omega) hi
    refine go_aload_n dX9_order_0 rfl rfl ?_
    refine go_iload_n dX9_order_1 rfl rfl ?_
    refine go_callVp cvX9_131 os_58 (sm_isGuest hP) (by omega) rfl rfl (Nat.le_of_ble_eq_true rfl) dX9_order_2 ?_
    rw [hi]
    refine go_if_ne (tgt := 11) dX9_order_5 (by decide) (fun c5 => ?_) (fun c5 => ?_)
    · refine go_aload_n dX9_order_11 rfl rfl ?_
      refine go_getR flX9_31 fs_58_17 dX9_order_12 ?_
      refine go_iload_n dX9_order_15 rfl rfl ?_
      refine go_iald (g) rfl as_66 (by omega) (by decide) dX9_order_16 ?_
      rw [h.2.2.1 g hg]
      refine go_bipush (v := (-2)) dX9_order_17 rfl ?_
      refine go_icmp_eq (tgt := 25) dX9_order_19 (by decide) (fun c19 => ?_) (fun c19 => ?_)
      · refine go_aload_n dX9_order_25 rfl rfl ?_
        refine go_callVv cvX9_156 os_58 (sm_asItIs h.2.1) (by omega) rfl rfl (Nat.le_of_ble_eq_true rfl) dX9_order_26 (fun σ1 q1 => ?_)
        refine go_aload_n dX9_order_29 rfl rfl ?_
        refine go_getR flX9_31 fs_58_17 dX9_order_30 ?_
        refine go_iload_n dX9_order_33 rfl rfl ?_
        refine go_aload_n dX9_order_34 rfl rfl ?_
        refine go_aload_n dX9_order_35 rfl rfl ?_
        refine go_getR flX9_31 fs_58_17 dX9_order_36 ?_
        refine go_iload_n dX9_order_39 rfl rfl ?_
        refine go_callVp cvX9_159 os_58 (sm_bestFor isR66 (hP.om q1.2.1) q1.1 (h.om q1.2.1).2.2.1 hg) (by omega) rfl rfl (Nat.le_of_ble_eq_true rfl) dX9_order_40 ?_
        refine go_iast (g) rfl as_66 (by omega) (by decide) dX9_order_43 ?_
        refine go_aload_n dX9_order_44 rfl rfl ?_
        refine go_getR flX9_31 fs_58_17 dX9_order_45 ?_
        refine go_iload_n dX9_order_48 rfl rfl ?_
        refine go_iald (g) rfl as_66 (by omega) (by decide) dX9_order_49 ?_
        rw [stI_at]
        refine go_iret rfl dX9_order_50 ?_
        refine ⟨by unfold aTakes; rw [hi]; simp only [if_pos c19], ?_, q1.2.1.frm.st (by omega)⟩
        unfold tOrder
        rw [hi]
        simp only [if_pos c19]
        refine (h.om q1.2.1).row (fun x hx => funext fun y => stI_ne (Or.inl hx)) (fun k hk => ?_)
        by_cases q : k = g
        · subst q; rw [stI_at]; simp [upd]
        · rw [stI_ne (by omega), (h.om q1.2.1).2.2.1 k hk]; simp [upd, q]
      · refine go_bipush (v := (-103)) dX9_order_22 rfl ?_
        refine go_iret rfl dX9_order_24 ?_
        exact ⟨by unfold aTakes; rw [hi]; simp only [if_neg c19], by unfold tOrder; rw [hi]; simp only [if_neg c19]; exact h.q OM.rf⟩
    · exact absurd c5 bt0
set_option maxHeartbeats 1000000 in
theorem lp_clearM {Γ : Gm} {σ : Mm} {X : Xs} {x1 : Int32} (h : RM σ X) (ex : x1 = aClear X) : ∀ (m g : Nat) (σ' : Mm), g + m = pG (xP X) → (∀ a, a ≠ 66 → σ'.1 a = σ.1 a) → σ'.2 = σ.2 → (∀ k, k < g → σ'.1 66 k = -2) → Go Γ 2 mX9_clear (aI (aClear X) (fun σ' => RM σ' (tClear X) ∧ FrM σ σ')) 7 [some (rf Γ 58), some (.int x1), some (.int (nI g))] [] σ' := by
  have hP := h.2.1.1
  have hG := hP.2.1.2
  subst ex
  intro m
  induction m with
  | zero =>
    intro g σ' hg ho h2 hr
    have e : g = pG (xP X) := by omega
    subst e
    refine go_iload_n dX9_clear_7 rfl rfl ?_
    refine go_aload_n dX9_clear_8 rfl rfl ?_
    refine go_getI flX9_96 fs_58_14 dX9_clear_9 ?_
    rw [ho 58 (by omega), hP.2.1.1]
    refine go_icmp_ge (tgt := 29) dX9_clear_12 (by decide) (fun c12 => ?_) (fun c12 => ?_)
    · refine go_iload_n dX9_clear_29 rfl rfl ?_
      refine go_iret rfl dX9_clear_30 ?_
      exact ⟨rfl, h.row ho (fun k hk => hr k hk), fun a ha => ho a (by omega), fun a ha => by rw [h2]⟩
    · exact absurd (Int32.le_refl _) c12
  | succ m ih =>
    intro g σ' hg ho h2 hr
    refine go_iload_n dX9_clear_7 rfl rfl ?_
    refine go_aload_n dX9_clear_8 rfl rfl ?_
    refine go_getI flX9_96 fs_58_14 dX9_clear_9 ?_
    rw [ho 58 (by omega), hP.2.1.1]
    refine go_icmp_ge (tgt := 29) dX9_clear_12 (by decide) (fun c12 => ?_) (fun c12 => ?_)
    · exact absurd c12 (nI_ge (by omega) (by omega))
    · refine go_aload_n dX9_clear_15 rfl rfl ?_
      refine go_getR flX9_31 fs_58_17 dX9_clear_16 ?_
      refine go_iload_n dX9_clear_19 rfl rfl ?_
      refine go_bipush (v := (-2)) dX9_clear_20 rfl ?_
      refine go_iast (g) rfl as_66 (by omega) (by decide) dX9_clear_22 ?_
      refine go_iinc (v := nI (g + 1)) (L' := [_, _, _]) dX9_clear_23 rfl (nI_1 _) (by decide) rfl rfl ?_
      refine go_goto (tgt := 7) dX9_clear_26 (by decide) ?_
      refine ih (g + 1) _ (by omega) (fun a ha => (funext fun y => stI_ne (Or.inl ha)).trans (ho a ha)) h2 (fun k hk => ?_)
      by_cases q : k = g
      · subst q; rw [stI_at]
      · rw [stI_ne (by omega)]; exact hr k (by omega)
set_option maxHeartbeats 1000000 in
theorem sm_clear {Γ : Gm} {σ : Mm} {X : Xs} (h : RM σ X) : Sp Γ 2 mX9_clear [rf Γ 58] σ (aI (aClear X) (fun σ' => RM σ' (tClear X) ∧ FrM σ σ')) := by
  refine sp_in (L := [some (rf Γ 58), none, none]) rfl (Nat.le_of_ble_eq_true rfl) rfl ?_
  refine go_aload_n dX9_clear_0 rfl rfl ?_
  refine go_callVp cvX9_162 os_58 (sm_ordered h.2.1.1 h.2.2.1) (by omega) rfl rfl (Nat.le_of_ble_eq_true rfl) dX9_clear_1 ?_
  refine go_istore_n (L' := [_, _, _]) dX9_clear_4 rfl (by decide) rfl rfl ?_
  refine go_iconst (v := nI 0) dX9_clear_5 rfl ?_
  refine go_istore_n (L' := [_, _, _]) dX9_clear_6 rfl (by decide) rfl rfl ?_
  exact lp_clearM h rfl (pG (xP X)) 0 σ (by omega) (fun _ _ => rfl) rfl (fun k hk => absurd hk (Nat.not_lt_zero k))
