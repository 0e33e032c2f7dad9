/-! the class's public methods (2) -/
set_option maxHeartbeats 2000000 in
theorem sc_dish {Γ : Gm} {σ : Mm} {X : Xs} {N : Nat} {a b : Int32} (hI : XI N X) (h : RC σ X) : Sp Γ 2 mX8_dish [rf Γ 0, .int a, .int b] σ (aP (aDish X a b) σ) := by
  refine sp_in (L := [some (rf Γ 0), some (.int a), some (.int b)]) rfl (Nat.le_of_ble_eq_true rfl) rfl ?_
  have hP := h.2.1.1
  have hD := hP.1.2
  cases hi : ix (pD (xP X)) a with
  | none =>
    refine go_aload_n dX8_dish_0 rfl rfl ?_
    refine go_iload_n dX8_dish_1 rfl rfl ?_
    refine go_callVp cvX8_105 os_0 (sp_noDish hP) (by omega) rfl rfl (Nat.le_of_ble_eq_true rfl) dX8_dish_2 ?_
    rw [hi]
    refine go_if_eq (tgt := 11) dX8_dish_5 (by decide) (fun c5 => ?_) (fun c5 => ?_)
    · exact absurd c5 (by decide)
    · refine go_bipush (v := (-101)) dX8_dish_8 rfl ?_
      refine go_iret rfl dX8_dish_10 ?_
      exact ⟨by unfold aDish; rw [hi], rfl⟩
  | some d =>
    obtain ⟨hd, rfl⟩ := ix_some (by omega) hi
    have hd6 : d < 6 := by omega
    have hT := h.2.2.1
    refine go_aload_n dX8_dish_0 rfl rfl ?_
    refine go_iload_n dX8_dish_1 rfl rfl ?_
    refine go_callVp cvX8_105 os_0 (sp_noDish hP) (by omega) rfl rfl (Nat.le_of_ble_eq_true rfl) dX8_dish_2 ?_
    rw [hi]
    refine go_if_eq (tgt := 11) dX8_dish_5 (by decide) (fun c5 => ?_) (fun c5 => ?_)
    · refine go_iload_n dX8_dish_11 rfl rfl ?_
      rcases sw3 b with hsw | rfl | rfl | rfl | rfl
      · refine go_tabOut (tgt := 97) dX8_dish_12 hsw (by decide) ?_
        refine go_bipush (v := (-102)) dX8_dish_97 rfl ?_
        refine go_iret rfl dX8_dish_99 ?_
        exact ⟨by unfold aDish; rw [hi, swo (n := 3) (by omega) hsw], rfl⟩
      · refine go_tabIn (off := 32) (tgt := 44) dX8_dish_12 (by decide) (by decide) (by decide) (by decide) ?_
        refine go_aload_n dX8_dish_44 rfl rfl ?_
        refine go_getR flX8_35 fs_0_3 dX8_dish_45 ?_
        refine go_getR flX8_109 fs_18_2 dX8_dish_48 ?_
        refine go_iload_n dX8_dish_51 rfl rfl ?_
        refine go_iald (d) rfl as_19 (by omega) (by decide) dX8_dish_52 ?_
        rw [(hT.2.1 d hd).1]
        refine go_iret rfl dX8_dish_53 ?_
        exact ⟨by unfold aDish; rw [hi]; rfl, rfl⟩
      · refine go_tabIn (off := 42) (tgt := 54) dX8_dish_12 (by decide) (by decide) (by decide) (by decide) ?_
        refine go_aload_n dX8_dish_54 rfl rfl ?_
        refine go_getR flX8_19 fs_0_1 dX8_dish_55 ?_
        refine go_getR flX8_112 fs_3_1 dX8_dish_58 ?_
        refine go_iload_n dX8_dish_61 rfl rfl ?_
        refine go_iald (d) rfl as_5 (by omega) (by decide) dX8_dish_62 ?_
        rw [(hP.2.2.1 d hd).2]
        refine go_iret rfl dX8_dish_63 ?_
        exact ⟨by unfold aDish; rw [hi]; rfl, rfl⟩
      · refine go_tabIn (off := 52) (tgt := 64) dX8_dish_12 (by decide) (by decide) (by decide) (by decide) ?_
        refine go_aload_n dX8_dish_64 rfl rfl ?_
        refine go_getR flX8_35 fs_0_3 dX8_dish_65 ?_
        refine go_getR flX8_115 fs_18_3 dX8_dish_68 ?_
        refine go_iload_n dX8_dish_71 rfl rfl ?_
        refine go_iald (d) rfl as_20 (by omega) (by decide) dX8_dish_72 ?_
        rw [(hT.2.1 d hd).2]
        refine go_iret rfl dX8_dish_73 ?_
        exact ⟨by unfold aDish; rw [hi]; rfl, rfl⟩
      · refine go_tabIn (off := 62) (tgt := 74) dX8_dish_12 (by decide) (by decide) (by decide) (by decide) ?_
        refine go_iload_n dX8_dish_74 rfl rfl ?_
        refine go_aload_n dX8_dish_75 rfl rfl ?_
        refine go_getR flX8_35 fs_0_3 dX8_dish_76 ?_
        refine go_getI flX8_118 fs_18_6 dX8_dish_79 ?_
        rw [hT.1.1]
        refine go_icmp_ne (tgt := 95) dX8_dish_82 (by decide) (fun c82 => ?_) (fun c82 => ?_)
        · refine go_iconst (v := nI 0) dX8_dish_95 rfl ?_
          refine go_iret rfl dX8_dish_96 ?_
          exact ⟨by unfold aDish; rw [hi, ix_nI (by omega) (by omega)]; simp only [if_neg c82]; rfl, rfl⟩
        · refine go_aload_n dX8_dish_85 rfl rfl ?_
          refine go_getR flX8_35 fs_0_3 dX8_dish_86 ?_
          refine go_getI flX8_121 fs_18_7 dX8_dish_89 ?_
          rw [hT.1.2.1]
          refine go_goto (tgt := 96) dX8_dish_92 (by decide) ?_
          refine go_iret rfl dX8_dish_96 ?_
          exact ⟨by unfold aDish; rw [hi, ix_nI (by omega) (by omega)]; simp only [if_pos c82], rfl⟩
    · exact absurd rfl c5
set_option maxHeartbeats 2000000 in
theorem sc_guest {Γ : Gm} {σ : Mm} {X : Xs} {N : Nat} {a b : Int32} (hI : XI N X) (h : RC σ X) : Sp Γ 2 mX8_guest [rf Γ 0, .int a, .int b] σ (aI (aGuest X a b) (fun σ' => RC σ' (tGuest X a b) ∧ FrC σ σ')) := by
  refine sp_in (L := [some (rf Γ 0), some (.int a), some (.int b)]) rfl (Nat.le_of_ble_eq_true rfl) rfl ?_
  have hP := h.2.1.1
  have hD := hP.1.2
  have hG := hP.2.1.2
  have bad : (inR (nI 0) (nI 4) a && inR (nI 1) (nI 9) b) = false → aI (aGuest X a b) (fun σ' => RC σ' (tGuest X a b) ∧ FrC σ σ') (some (.int (-102))) σ := fun q => ⟨by unfold aGuest; rw [q]; rfl, by unfold tGuest; rw [if_neg (fun z => by rw [q] at z; cases z.1)]; exact ⟨h, FrC.rf⟩⟩
  refine go_iload_n dX8_guest_0 rfl rfl ?_
  refine go_iconst (v := nI 0) dX8_guest_1 rfl ?_
  refine go_iconst (v := nI 4) dX8_guest_2 rfl ?_
  refine go_callSp csX8_62 sp_isOutside (by omega) rfl rfl (Nat.le_of_ble_eq_true rfl) dX8_guest_3 ?_
  refine go_if_ne (tgt := 19) dX8_guest_6 (by decide) (fun c6 => ?_) (fun c6 => ?_)
  · have c6 : inR (nI 0) (nI 4) a = false := by have := bI_ne0.mp c6; simpa using this
    refine go_bipush (v := (-102)) dX8_guest_19 rfl ?_
    refine go_iret rfl dX8_guest_21 ?_
    exact bad (by rw [c6]; rfl)
  · have c6 : inR (nI 0) (nI 4) a = true := by have := bI_eq0.mp c6; simpa using this
    refine go_iload_n dX8_guest_9 rfl rfl ?_
    refine go_iconst (v := nI 1) dX8_guest_10 rfl ?_
    refine go_bipush (v := nI 9) dX8_guest_11 rfl ?_
    refine go_callSp csX8_62 sp_isOutside (by omega) rfl rfl (Nat.le_of_ble_eq_true rfl) dX8_guest_13 ?_
    refine go_if_eq (tgt := 22) dX8_guest_16 (by decide) (fun c16 => ?_) (fun c16 => ?_)
    · have c16 : inR (nI 1) (nI 9) b = true := by have := bI_eq0.mp c16; simpa using this
      refine go_aload_n dX8_guest_22 rfl rfl ?_
      refine go_callVp cvX8_124 os_0 (sp_noCard hP) (by omega) rfl rfl (Nat.le_of_ble_eq_true rfl) dX8_guest_23 ?_
      refine go_if_eq (tgt := 32) dX8_guest_26 (by decide) (fun c26 => ?_) (fun c26 => ?_)
      · have c26 : ¬ pD (xP X) = 0 := by have := bI_eq0.mp c26; simpa using this
        refine go_aload_n dX8_guest_32 rfl rfl ?_
        refine go_getR flX8_26 fs_0_2 dX8_guest_33 ?_
        refine go_getI flX8_86 fs_6_1 dX8_guest_36 ?_
        rw [hP.2.1.1]
        refine go_iconst (v := nI 5) dX8_guest_39 rfl ?_
        refine go_icmp_lt (tgt := 46) dX8_guest_40 (by decide) (fun c40 => ?_) (fun c40 => ?_)
        · rw [nI_ltI (by omega) (by omega)] at c40
          have hg5 : pG (xP X) < 5 := c40
          obtain ⟨k, hk, rfl⟩ : ∃ k, k < 5 ∧ a = nI k := by
            have z := inR_ix (k := 4) (a := a) (by omega)
            rw [c6] at z
            cases hz : ix (4 + 1) a with
            | none => rw [hz] at z; cases z
            | some k => exact ⟨k, (ix_some (by omega) hz).1, (ix_some (by omega) hz).2⟩
          refine go_aload_n dX8_guest_46 rfl rfl ?_
          refine go_getR flX8_26 fs_0_2 dX8_guest_47 ?_
          refine go_getR flX8_127 fs_6_0 dX8_guest_50 ?_
          refine go_aload_n dX8_guest_53 rfl rfl ?_
          refine go_getR flX8_26 fs_0_2 dX8_guest_54 ?_
          refine go_getI flX8_86 fs_6_1 dX8_guest_57 ?_
          rw [hP.2.1.1]
          refine go_aald (pG (xP X)) rfl (rG hg5) rt_7 dX8_guest_60 ?_
          refine go_iload_n dX8_guest_61 rfl rfl ?_
          refine go_iload_n dX8_guest_62 rfl rfl ?_
          refine go_callVv cvX8_131 (osG hg5) (sp_sitDown hg5 hk) (by omega) rfl rfl (Nat.le_of_ble_eq_true rfl) dX8_guest_63 (fun σ1 q1 => ?_)
          obtain ⟨⟨s1, s2, s3⟩, s4, s5, s6⟩ := q1
          refine go_aload_n dX8_guest_66 rfl rfl ?_
          refine go_getR flX8_26 fs_0_2 dX8_guest_67 ?_
          refine go_dup dX8_guest_70 rfl ?_
          refine go_getI flX8_86 fs_6_1 dX8_guest_71 ?_
          rw [s5 6 (by omega) (by omega), hP.2.1.1]
          refine go_iconst (v := nI 1) dX8_guest_74 rfl ?_
          refine go_iadd dX8_guest_75 ?_
          rw [nI_add]
          refine go_putI fwX8_86 fs_6_1 dX8_guest_76 ?_
          refine go_aload_n dX8_guest_79 rfl rfl ?_
          refine go_getR flX8_26 fs_0_2 dX8_guest_80 ?_
          refine go_getI flX8_86 fs_6_1 dX8_guest_83 ?_
          rw [stI_at]
          refine go_iconst (v := nI 1) dX8_guest_86 rfl ?_
          refine go_isub dX8_guest_87 ?_
          rw [pk_sub (show 1 ≤ pG (xP X) + 1 by omega)]
          refine go_iret rfl dX8_guest_88 ?_
          refine ⟨by unfold aGuest; rw [c6, c16]; simp [c26, c40], ?_, FrC.st ⟨fun x hx => s5 x (by omega) (by omega), fun x hx => by rw [s6]⟩ (by omega)⟩
          unfold tGuest
          rw [if_pos ⟨by rw [c6, c16]; rfl, c26, c40⟩]
          obtain ⟨⟨a1, a2⟩, ⟨⟨⟨p1, p2⟩, ⟨p3, p4⟩, p5, p6⟩, b2, b3⟩, c, d, ⟨e1, e2⟩, f⟩ := h
          have old : ∀ x, x ≠ 6 → x ≠ 8 + 2 * pG (xP X) → x ≠ 9 + 2 * pG (xP X) → (stI σ1 6 1 (nI (pG (xP X) + 1))).1 x = σ.1 x := fun x h1 h2 h3 => (funext fun y => stI_ne (Or.inl h1)).trans (s5 x h2 h3)
          have hw : xH X (pG (xP X)) = -2 := hI.2.1.2.2.2.2.2.2.2.1.2 _ (Nat.le_refl _)
          refine ⟨⟨by rw [old 1 (by omega) (by omega) (by omega)]; exact a1, fun q hq => by rw [old 2 (by omega) (by omega) (by omega)]; exact a2 q hq⟩, ⟨⟨⟨by rw [old 3 (by omega) (by omega) (by omega)]; exact p1, p2⟩, ⟨stI_at, by show pG (xP X) + 1 ≤ 5; omega⟩, fun q hq => ?_, fun g hg => ?_⟩, by rw [old 3 (by omega) (by omega) (by omega)]; exact b2, fun g hg => ?_⟩, ?_, ?_, ⟨by rw [old 0 (by omega) (by omega) (by omega)]; exact e1, by rw [old 0 (by omega) (by omega) (by omega)]; exact e2⟩, RK.eq (K := xK X) (c := xC X) (RC.k5 (σ := σ) (X := X) hI) f (fun x h1 h2 => old x (by omega) (by omega) (by omega))⟩
          · rw [old 4 (by omega) (by omega) (by omega), old 5 (by omega) (by omega) (by omega)]; exact p5 q hq
          · have hg' : g < pG (xP X) + 1 := hg
            by_cases q : g = pG (xP X)
            · subst q
              rw [stI_ne (by omega), stI_ne (by omega)]
              refine ⟨?_, ?_, fun y hy => ?_⟩
              · rw [s2]; show b = upd (pPu (xP X)) (pG (xP X)) b (pG (xP X)); simp [upd]
              · rw [s3]; show _ = swK (upd (pKi (xP X)) (pG (xP X)) (nI k) (pG (xP X))); simp [upd]
              · rw [stI_ne (by omega), s4 y (by have : y < pD (xP X) := hy; omega)]; show _ = if pG (xP X) = pG (xP X) then 0 else _; rw [if_pos rfl]
            · rw [old (8 + 2 * g) (by omega) (by omega) (by omega), old (9 + 2 * g) (by omega) (by omega) (by omega)]
              obtain ⟨y1, y2, y3⟩ := p6 g (by omega)
              refine ⟨?_, ?_, fun y hy => ?_⟩
              · rw [y1]; show _ = upd (pPu (xP X)) (pG (xP X)) b g; simp [upd, q]
              · rw [y2]; show _ = swK (upd (pKi (xP X)) (pG (xP X)) (nI k) g); simp [upd, q]
              · rw [y3 y hy]; show _ = if g = pG (xP X) then 0 else _; rw [if_neg q]
          · have hg' : g < pG (xP X) + 1 := hg
            by_cases q : g = pG (xP X)
            · subst q
              rw [stI_ne (by omega), s1]; show _ = upd (pKi (xP X)) (pG (xP X)) (nI k) (pG (xP X)); simp [upd]
            · rw [old (8 + 2 * g) (by omega) (by omega) (by omega), b3 g (by omega)]; show _ = upd (pKi (xP X)) (pG (xP X)) (nI k) g; simp [upd, q]
          · have cn : ∀ y, y < pD (xP X) → cnt (xH X) (nI y) (pG (xP X) + 1) = cnt (xH X) (nI y) (pG (xP X)) := fun y hy => by
              show cnt (xH X) (nI y) (pG (xP X)) + (if xH X (pG (xP X)) = nI y then 1 else 0) = _
              rw [hw, if_neg (nI_neg2 (by omega)).symm, Nat.add_zero]
            obtain ⟨u1, u2, u3⟩ := c.eq (σ' := stI σ1 6 1 (nI (pG (xP X) + 1))) (fun x h1 h2 => old x (by omega) (by omega) (by omega))
            refine ⟨u1, fun y hy => ?_, fun g hg _ => u3 g hg (Or.inl (by omega))⟩
            have := u2 y hy
            rw [← cn y hy] at this
            exact this
          · obtain ⟨u1, u2, u3⟩ := d.eq (σ' := stI σ1 6 1 (nI (pG (xP X) + 1))) (fun x h1 h2 => old x (by omega) (by omega) (by omega))
            refine ⟨u1, u2, fun e he => ?_⟩
            obtain ⟨v1, v2, v3, v4, v5⟩ := u3 e he
            exact ⟨v1, Nat.lt_succ_of_lt v2, v3, Nat.lt_succ_of_lt v4, v5⟩
        · rw [nI_ltI (by omega) (by omega)] at c40
          refine go_bipush (v := (-104)) dX8_guest_43 rfl ?_
          refine go_iret rfl dX8_guest_45 ?_
          exact ⟨by unfold aGuest; rw [c6, c16]; simp [c26, c40], by unfold tGuest; rw [if_neg (fun z => c40 z.2.2)]; exact ⟨h, FrC.rf⟩⟩
      · have c26 : pD (xP X) = 0 := by have := bI_ne0.mp c26; simpa using this
        refine go_bipush (v := (-103)) dX8_guest_29 rfl ?_
        refine go_iret rfl dX8_guest_31 ?_
        exact ⟨by unfold aGuest; rw [c6, c16]; simp [c26], by unfold tGuest; rw [if_neg (fun z => z.2.1 c26)]; exact ⟨h, FrC.rf⟩⟩
    · have c16 : inR (nI 1) (nI 9) b = false := by have := bI_ne0.mp c16; simpa using this
      refine go_bipush (v := (-102)) dX8_guest_19 rfl ?_
      refine go_iret rfl dX8_guest_21 ?_
      exact bad (by rw [c16, Bool.and_false])
set_option maxHeartbeats 2000000 in
theorem sc_about {Γ : Gm} {σ : Mm} {X : Xs} {N : Nat} {a b : Int32} (hI : XI N X) (h : RC σ X) : Sp Γ 2 mX8_about [rf Γ 0, .int a, .int b] σ (aP (aAbout X a b) σ) := by
  refine sp_in (L := [some (rf Γ 0), some (.int a), some (.int b)]) rfl (Nat.le_of_ble_eq_true rfl) rfl ?_
  have hP := h.2.1.1
  have hG := hP.2.1.2
  cases hi : ix (pG (xP X)) a with
  | none =>
    refine go_aload_n dX8_about_0 rfl rfl ?_
    refine go_iload_n dX8_about_1 rfl rfl ?_
    refine go_callVp cvX8_136 os_0 (sp_noGuest hP) (by omega) rfl rfl (Nat.le_of_ble_eq_true rfl) dX8_about_2 ?_
    rw [hi]
    refine go_if_eq (tgt := 11) dX8_about_5 (by decide) (fun c5 => ?_) (fun c5 => ?_)
    · exact absurd c5 (by decide)
    · refine go_bipush (v := (-101)) dX8_about_8 rfl ?_
      refine go_iret rfl dX8_about_10 ?_
      exact ⟨by unfold aAbout; rw [hi], rfl⟩
  | some g =>
    obtain ⟨hg, rfl⟩ := ix_some (by omega) hi
    have hg5 : g < 5 := by omega
    have hT := h.2.2.1
    refine go_aload_n dX8_about_0 rfl rfl ?_
    refine go_iload_n dX8_about_1 rfl rfl ?_
    refine go_callVp cvX8_136 os_0 (sp_noGuest hP) (by omega) rfl rfl (Nat.le_of_ble_eq_true rfl) dX8_about_2 ?_
    rw [hi]
    refine go_if_eq (tgt := 11) dX8_about_5 (by decide) (fun c5 => ?_) (fun c5 => ?_)
    · refine go_iload_n dX8_about_11 rfl rfl ?_
      rcases sw5 b with hsw | rfl | rfl | rfl | rfl | rfl | rfl
      · refine go_tabOut (tgt := 128) dX8_about_12 hsw (by decide) ?_
        refine go_bipush (v := (-102)) dX8_about_128 rfl ?_
        refine go_iret rfl dX8_about_130 ?_
        exact ⟨by unfold aAbout; rw [hi, swo (n := 5) (by omega) hsw], rfl⟩
      · refine go_tabIn (off := 40) (tgt := 52) dX8_about_12 (by decide) (by decide) (by decide) (by decide) ?_
        refine go_aload_n dX8_about_52 rfl rfl ?_
        refine go_getR flX8_26 fs_0_2 dX8_about_53 ?_
        refine go_getR flX8_127 fs_6_0 dX8_about_56 ?_
        refine go_iload_n dX8_about_59 rfl rfl ?_
        refine go_aald (g) rfl (rG hg5) rt_7 dX8_about_60 ?_
        refine go_getI flX8_139 (fG_1 hg5) dX8_about_61 ?_
        rw [h.2.1.2.2 g hg]
        refine go_iret rfl dX8_about_64 ?_
        exact ⟨by unfold aAbout; rw [hi]; rfl, rfl⟩
      · refine go_tabIn (off := 53) (tgt := 65) dX8_about_12 (by decide) (by decide) (by decide) (by decide) ?_
        refine go_aload_n dX8_about_65 rfl rfl ?_
        refine go_getR flX8_26 fs_0_2 dX8_about_66 ?_
        refine go_getR flX8_127 fs_6_0 dX8_about_69 ?_
        refine go_iload_n dX8_about_72 rfl rfl ?_
        refine go_aald (g) rfl (rG hg5) rt_7 dX8_about_73 ?_
        refine go_getI flX8_142 (fG_2 hg5) dX8_about_74 ?_
        rw [(hP.2.2.2 g hg).1]
        refine go_iret rfl dX8_about_77 ?_
        exact ⟨by unfold aAbout; rw [hi]; rfl, rfl⟩
      · refine go_tabIn (off := 66) (tgt := 78) dX8_about_12 (by decide) (by decide) (by decide) (by decide) ?_
        refine go_aload_n dX8_about_78 rfl rfl ?_
        refine go_getR flX8_35 fs_0_3 dX8_about_79 ?_
        refine go_getR flX8_145 fs_18_4 dX8_about_82 ?_
        refine go_iload_n dX8_about_85 rfl rfl ?_
        refine go_iald (g) rfl as_21 (by omega) (by decide) dX8_about_86 ?_
        rw [(hT.2.2 g hg5 (Or.inr hg)).1]
        refine go_iret rfl dX8_about_87 ?_
        exact ⟨by unfold aAbout; rw [hi]; rfl, rfl⟩
      · refine go_tabIn (off := 76) (tgt := 88) dX8_about_12 (by decide) (by decide) (by decide) (by decide) ?_
        refine go_aload_n dX8_about_88 rfl rfl ?_
        refine go_getR flX8_35 fs_0_3 dX8_about_89 ?_
        refine go_getR flX8_148 fs_18_5 dX8_about_92 ?_
        refine go_iload_n dX8_about_95 rfl rfl ?_
        refine go_iald (g) rfl as_22 (by omega) (by decide) dX8_about_96 ?_
        rw [(hT.2.2 g hg5 (Or.inr hg)).2]
        refine go_iret rfl dX8_about_97 ?_
        exact ⟨by unfold aAbout; rw [hi]; rfl, rfl⟩
      · refine go_tabIn (off := 86) (tgt := 98) dX8_about_12 (by decide) (by decide) (by decide) (by decide) ?_
        refine go_aload_n dX8_about_98 rfl rfl ?_
        refine go_getR flX8_26 fs_0_2 dX8_about_99 ?_
        refine go_getR flX8_127 fs_6_0 dX8_about_102 ?_
        refine go_iload_n dX8_about_105 rfl rfl ?_
        refine go_aald (g) rfl (rG hg5) rt_7 dX8_about_106 ?_
        refine go_getI flX8_151 (fG_3 hg5) dX8_about_107 ?_
        rw [(hP.2.2.2 g hg).2.1]
        refine go_aload_n dX8_about_110 rfl rfl ?_
        refine go_getR flX8_19 fs_0_1 dX8_about_111 ?_
        refine go_getI flX8_88 fs_3_3 dX8_about_114 ?_
        rw [h.2.1.2.1]
        refine go_imul dX8_about_117 ?_
        refine go_iret rfl dX8_about_118 ?_
        exact ⟨by unfold aAbout; rw [hi]; rfl, rfl⟩
      · refine go_tabIn (off := 107) (tgt := 119) dX8_about_12 (by decide) (by decide) (by decide) (by decide) ?_
        refine go_aload_n dX8_about_119 rfl rfl ?_
        refine go_getR flX8_35 fs_0_3 dX8_about_120 ?_
        refine go_iload_n dX8_about_123 rfl rfl ?_
        refine go_callVp cvX8_154 os_18 (sp_joyOf isT18 hg hP hT hI.2.1.2.2.2.2.2.2.2.1) (by omega) rfl rfl (Nat.le_of_ble_eq_true rfl) dX8_about_124 ?_
        refine go_iret rfl dX8_about_127 ?_
        exact ⟨by unfold aAbout; rw [hi]; rfl, rfl⟩
    · exact absurd rfl c5
set_option maxHeartbeats 2000000 in
theorem sc_as {Γ : Gm} {σ : Mm} {X : Xs} {N : Nat} {a b : Int32} (hI : XI N X) (h : RC σ X) : Sp Γ 2 mX8_as [rf Γ 0, .int a, .int b] σ (aP (aAs X a b) σ) := by
  refine sp_in (L := [some (rf Γ 0), some (.int a), some (.int b)]) rfl (Nat.le_of_ble_eq_true rfl) rfl ?_
  have hP := h.2.1.1
  have hG := hP.2.1.2
  cases hi : ix (pG (xP X)) a with
  | none =>
    refine go_aload_n dX8_as_0 rfl rfl ?_
    refine go_iload_n dX8_as_1 rfl rfl ?_
    refine go_callVp cvX8_136 os_0 (sp_noGuest hP) (by omega) rfl rfl (Nat.le_of_ble_eq_true rfl) dX8_as_2 ?_
    rw [hi]
    refine go_if_eq (tgt := 11) dX8_as_5 (by decide) (fun c5 => ?_) (fun c5 => ?_)
    · exact absurd c5 (by decide)
    · refine go_bipush (v := (-101)) dX8_as_8 rfl ?_
      refine go_iret rfl dX8_as_10 ?_
      exact ⟨by unfold aAs; rw [hi], rfl⟩
  | some g =>
    obtain ⟨hg, rfl⟩ := ix_some (by omega) hi
    have hg5 : g < 5 := by omega
    refine go_aload_n dX8_as_0 rfl rfl ?_
    refine go_iload_n dX8_as_1 rfl rfl ?_
    refine go_callVp cvX8_136 os_0 (sp_noGuest hP) (by omega) rfl rfl (Nat.le_of_ble_eq_true rfl) dX8_as_2 ?_
    rw [hi]
    refine go_if_eq (tgt := 11) dX8_as_5 (by decide) (fun c5 => ?_) (fun c5 => ?_)
    · refine go_iload_n dX8_as_11 rfl rfl ?_
      refine go_iconst (v := nI 0) dX8_as_12 rfl ?_
      refine go_iconst (v := nI 4) dX8_as_13 rfl ?_
      refine go_callSp csX8_62 sp_isOutside (by omega) rfl rfl (Nat.le_of_ble_eq_true rfl) dX8_as_14 ?_
      refine go_if_eq (tgt := 23) dX8_as_17 (by decide) (fun c17 => ?_) (fun c17 => ?_)
      · have c17 : inR (nI 0) (nI 4) b = true := by have := bI_eq0.mp c17; simpa using this
        refine go_aload_n dX8_as_23 rfl rfl ?_
        refine go_getR flX8_26 fs_0_2 dX8_as_24 ?_
        refine go_getR flX8_127 fs_6_0 dX8_as_27 ?_
        refine go_iload_n dX8_as_30 rfl rfl ?_
        refine go_aald (g) rfl (rG hg5) rt_7 dX8_as_31 ?_
        refine go_iload_n dX8_as_32 rfl rfl ?_
        refine go_callVp cvX8_158 (osG hg5) (sp_isOfKind hg5) (by omega) rfl rfl (Nat.le_of_ble_eq_true rfl) dX8_as_33 ?_
        rw [h.2.1.2.2 g hg]
        refine go_if_eq (tgt := 43) dX8_as_36 (by decide) (fun c36 => ?_) (fun c36 => ?_)
        · refine go_iconst (v := (-1)) dX8_as_43 rfl ?_
          refine go_iret rfl dX8_as_44 ?_
          exact ⟨by unfold aAs; rw [hi]; simp only [c17, bI_eq0.mp c36]; rfl, rfl⟩
        · refine go_iload_n dX8_as_39 rfl rfl ?_
          refine go_goto (tgt := 44) dX8_as_40 (by decide) ?_
          refine go_iret rfl dX8_as_44 ?_
          exact ⟨by unfold aAs; rw [hi]; simp only [c17, bI_ne0.mp c36]; rfl, rfl⟩
      · have c17 : inR (nI 0) (nI 4) b = false := by have := bI_ne0.mp c17; simpa using this
        refine go_bipush (v := (-102)) dX8_as_20 rfl ?_
        refine go_iret rfl dX8_as_22 ?_
        exact ⟨by unfold aAs; rw [hi]; simp only [c17]; rfl, rfl⟩
    · exact absurd rfl c5
theorem RC.party {σ σ' : Mm} {X : Xs} {N : Nat} {P' : Pb} (hI : XI N X) (h : RC σ X) (ho : ∀ a, a < 8 ∨ 17 < a → σ'.1 a = σ.1 a) (hP : PI σ' P') (hl : pLo P' = pLo (xP X)) (hk : ∀ g, g < pG P' → σ'.1 (8 + 2 * g) 1 = pKi P' g) (hT : TI σ 18 (xP X) (xH X) → TI σ 18 P' (xH X)) (hg : pG P' = pG (xP X)) : RC σ' (P', X.2) := by
  obtain ⟨⟨a1, a2⟩, ⟨b1, b2, b3⟩, c, d, ⟨e1, e2⟩, f⟩ := h
  refine ⟨⟨by rw [ho 1 (by omega)]; exact a1, fun k hk => by rw [ho 2 (by omega)]; exact a2 k hk⟩, ⟨hP, by rw [ho 3 (by omega)]; exact b2.trans hl.symm, hk⟩, (hT c).eq (fun a h1 h2 => ho a (by omega)), ?_, ⟨by rw [ho 0 (by omega)]; exact e1, by rw [ho 0 (by omega)]; exact e2⟩, RK.eq (K := xK X) (c := xC X) (RC.k5 (σ := σ) (X := X) hI) f (fun a h1 h2 => ho a (by omega))⟩
  show LI σ' 23 (pG P') (xE X)
  rw [hg]
  exact d.eq (fun a h1 h2 => ho a (by omega))
set_option maxHeartbeats 2000000 in
theorem sc_want {Γ : Gm} {σ : Mm} {X : Xs} {N : Nat} {a b v : Int32} (hI : XI N X) (h : RC σ X) : Sp Γ 2 mX8_want [rf Γ 0, .int a, .int b, .int v] σ (aI (aWant X a b v) (fun σ' => RC σ' (tWant X a b v) ∧ FrC σ σ')) := by
  refine sp_in (L := [some (rf Γ 0), some (.int a), some (.int b), some (.int v), none]) rfl (Nat.le_of_ble_eq_true rfl) rfl ?_
  have hP := h.2.1.1
  have hG := hP.2.1.2
  have hD := hP.1.2
  cases hi : ix (pG (xP X)) a with
  | none =>
    refine go_aload_n dX8_want_0 rfl rfl ?_
    refine go_iload_n dX8_want_1 rfl rfl ?_
    refine go_callVp cvX8_136 os_0 (sp_noGuest hP) (by omega) rfl rfl (Nat.le_of_ble_eq_true rfl) dX8_want_2 ?_
    rw [hi]
    refine go_if_ne (tgt := 16) dX8_want_5 (by decide) (fun c5 => ?_) (fun c5 => ?_)
    · refine go_bipush (v := (-101)) dX8_want_16 rfl ?_
      refine go_iret rfl dX8_want_18 ?_
      exact ⟨by unfold aWant; rw [hi], by unfold tWant; rw [hi]; exact ⟨h, FrC.rf⟩⟩
    · exact absurd rfl (show ¬ bI true = bI true from fun _ => by exact absurd c5 (by decide))
  | some g =>
    obtain ⟨hg, rfl⟩ := ix_some (by omega) hi
    have hg5 : g < 5 := by omega
    cases hj : ix (pD (xP X)) b with
    | none =>
      refine go_aload_n dX8_want_0 rfl rfl ?_
      refine go_iload_n dX8_want_1 rfl rfl ?_
      refine go_callVp cvX8_136 os_0 (sp_noGuest hP) (by omega) rfl rfl (Nat.le_of_ble_eq_true rfl) dX8_want_2 ?_
      rw [hi]
      refine go_if_ne (tgt := 16) dX8_want_5 (by decide) (fun c5 => ?_) (fun c5 => ?_)
      · exact absurd rfl c5
      · refine go_aload_n dX8_want_8 rfl rfl ?_
        refine go_iload_n dX8_want_9 rfl rfl ?_
        refine go_callVp cvX8_105 os_0 (sp_noDish hP) (by omega) rfl rfl (Nat.le_of_ble_eq_true rfl) dX8_want_10 ?_
        rw [hj]
        refine go_if_eq (tgt := 19) dX8_want_13 (by decide) (fun c13 => ?_) (fun c13 => ?_)
        · exact absurd c13 (by decide)
        · refine go_bipush (v := (-101)) dX8_want_16 rfl ?_
          refine go_iret rfl dX8_want_18 ?_
          exact ⟨by unfold aWant; rw [hi, hj], by unfold tWant; rw [hi, hj]; exact ⟨h, FrC.rf⟩⟩
    | some d =>
      obtain ⟨hd, rfl⟩ := ix_some (by omega) hj
      have hd6 : d < 6 := by omega
      refine go_aload_n dX8_want_0 rfl rfl ?_
      refine go_iload_n dX8_want_1 rfl rfl ?_
      refine go_callVp cvX8_136 os_0 (sp_noGuest hP) (by omega) rfl rfl (Nat.le_of_ble_eq_true rfl) dX8_want_2 ?_
      rw [hi]
      refine go_if_ne (tgt := 16) dX8_want_5 (by decide) (fun c5 => ?_) (fun c5 => ?_)
      · exact absurd rfl c5
      · refine go_aload_n dX8_want_8 rfl rfl ?_
        refine go_iload_n dX8_want_9 rfl rfl ?_
        refine go_callVp cvX8_105 os_0 (sp_noDish hP) (by omega) rfl rfl (Nat.le_of_ble_eq_true rfl) dX8_want_10 ?_
        rw [hj]
        refine go_if_eq (tgt := 19) dX8_want_13 (by decide) (fun c13 => ?_) (fun c13 => ?_)
        · refine go_iload_n dX8_want_19 rfl rfl ?_
          refine go_iconst (v := nI 0) dX8_want_20 rfl ?_
          refine go_bipush (v := nI 9) dX8_want_21 rfl ?_
          refine go_callSp csX8_62 sp_isOutside (by omega) rfl rfl (Nat.le_of_ble_eq_true rfl) dX8_want_23 ?_
          refine go_if_eq (tgt := 32) dX8_want_26 (by decide) (fun c26 => ?_) (fun c26 => ?_)
          · have c26 : inR (nI 0) (nI 9) v = true := by have := bI_eq0.mp c26; simpa using this
            refine go_aload_n dX8_want_32 rfl rfl ?_
            refine go_getR flX8_26 fs_0_2 dX8_want_33 ?_
            refine go_getR flX8_127 fs_6_0 dX8_want_36 ?_
            refine go_iload_n dX8_want_39 rfl rfl ?_
            refine go_aald (g) rfl (rG hg5) rt_7 dX8_want_40 ?_
            refine go_getR flX8_161 (fG_0 hg5) dX8_want_41 ?_
            refine go_iload_n dX8_want_44 rfl rfl ?_
            refine go_iald (d) rfl (aW hg5) (by omega) (by decide) dX8_want_45 ?_
            rw [(hP.2.2.2 g hg).2.2 d hd]
            refine go_istore (L' := [_, _, _, _, _]) dX8_want_46 (by decide) rfl rfl ?_
            refine go_aload_n dX8_want_48 rfl rfl ?_
            refine go_getR flX8_26 fs_0_2 dX8_want_49 ?_
            refine go_getR flX8_127 fs_6_0 dX8_want_52 ?_
            refine go_iload_n dX8_want_55 rfl rfl ?_
            refine go_aald (g) rfl (rG hg5) rt_7 dX8_want_56 ?_
            refine go_getR flX8_161 (fG_0 hg5) dX8_want_57 ?_
            refine go_iload_n dX8_want_60 rfl rfl ?_
            refine go_iload_n dX8_want_61 rfl rfl ?_
            refine go_iast (d) rfl (aW hg5) (by omega) (by decide) dX8_want_62 ?_
            refine go_iload dX8_want_63 rfl ?_
            refine go_iret rfl dX8_want_65 ?_
            refine ⟨by unfold aWant; rw [hi, hj]; simp only [c26]; rfl, ?_, FrC.rf.st (by omega)⟩
            unfold tWant
            rw [hi, hj]
            simp only [c26, if_true]
            obtain ⟨⟨p1, p2⟩, ⟨p3, p4⟩, p5, p6⟩ := hP
            refine h.party hI (fun x hx => funext fun y => stI_ne (Or.inl (by omega))) ⟨⟨by rw [stI_ne (by omega)]; exact p1, p2⟩, ⟨by rw [stI_ne (by omega)]; exact p3, p4⟩, fun q hq => by rw [stI_ne (by omega), stI_ne (by omega)]; exact p5 q hq, fun k hk => ?_⟩ rfl (fun k hk => by rw [stI_ne (by omega)]; exact h.2.1.2.2 k hk) (fun t => t) rfl
            obtain ⟨y1, y2, y3⟩ := p6 k hk
            refine ⟨by rw [stI_ne (by omega)]; exact y1, by rw [stI_ne (by omega)]; exact y2, fun y hy => ?_⟩
            show _ = if k = g ∧ y = d then v else pWa (xP X) k y
            by_cases q : k = g ∧ y = d
            · rw [if_pos q, q.1, q.2, stI_at]
            · rw [if_neg q, stI_ne (by omega)]; exact y3 y hy
          · have c26 : inR (nI 0) (nI 9) v = false := by have := bI_ne0.mp c26; simpa using this
            refine go_bipush (v := (-102)) dX8_want_29 rfl ?_
            refine go_iret rfl dX8_want_31 ?_
            exact ⟨by unfold aWant; rw [hi, hj]; simp only [c26]; rfl, by unfold tWant; rw [hi, hj]; simp only [c26]; exact ⟨h, FrC.rf⟩⟩
        · exact absurd rfl c13
set_option maxHeartbeats 2000000 in
theorem sc_purse {Γ : Gm} {σ : Mm} {X : Xs} {N : Nat} {a v : Int32} (hI : XI N X) (h : RC σ X) : Sp Γ 2 mX8_purse [rf Γ 0, .int a, .int v] σ (aI (aPurse X a v) (fun σ' => RC σ' (tPurse X a v) ∧ FrC σ σ')) := by
  refine sp_in (L := [some (rf Γ 0), some (.int a), some (.int v), none]) rfl (Nat.le_of_ble_eq_true rfl) rfl ?_
  have hP := h.2.1.1
  have hG := hP.2.1.2
  cases hi : ix (pG (xP X)) a with
  | none =>
    refine go_aload_n dX8_purse_0 rfl rfl ?_
    refine go_iload_n dX8_purse_1 rfl rfl ?_
    refine go_callVp cvX8_136 os_0 (sp_noGuest hP) (by omega) rfl rfl (Nat.le_of_ble_eq_true rfl) dX8_purse_2 ?_
    rw [hi]
    refine go_if_eq (tgt := 11) dX8_purse_5 (by decide) (fun c5 => ?_) (fun c5 => ?_)
    · exact absurd c5 (by decide)
    · refine go_bipush (v := (-101)) dX8_purse_8 rfl ?_
      refine go_iret rfl dX8_purse_10 ?_
      exact ⟨by unfold aPurse; rw [hi], by unfold tPurse; rw [hi]; exact ⟨h, FrC.rf⟩⟩
  | some g =>
    obtain ⟨hg, rfl⟩ := ix_some (by omega) hi
    have hg5 : g < 5 := by omega
    refine go_aload_n dX8_purse_0 rfl rfl ?_
    refine go_iload_n dX8_purse_1 rfl rfl ?_
    refine go_callVp cvX8_136 os_0 (sp_noGuest hP) (by omega) rfl rfl (Nat.le_of_ble_eq_true rfl) dX8_purse_2 ?_
    rw [hi]
    refine go_if_eq (tgt := 11) dX8_purse_5 (by decide) (fun c5 => ?_) (fun c5 => ?_)
    · refine go_iload_n dX8_purse_11 rfl rfl ?_
      refine go_iconst (v := nI 1) dX8_purse_12 rfl ?_
      refine go_bipush (v := nI 9) dX8_purse_13 rfl ?_
      refine go_callSp csX8_62 sp_isOutside (by omega) rfl rfl (Nat.le_of_ble_eq_true rfl) dX8_purse_15 ?_
      refine go_if_eq (tgt := 24) dX8_purse_18 (by decide) (fun c18 => ?_) (fun c18 => ?_)
      · have c18 : inR (nI 1) (nI 9) v = true := by have := bI_eq0.mp c18; simpa using this
        refine go_aload_n dX8_purse_24 rfl rfl ?_
        refine go_getR flX8_26 fs_0_2 dX8_purse_25 ?_
        refine go_getR flX8_127 fs_6_0 dX8_purse_28 ?_
        refine go_iload_n dX8_purse_31 rfl rfl ?_
        refine go_aald (g) rfl (rG hg5) rt_7 dX8_purse_32 ?_
        refine go_getI flX8_142 (fG_2 hg5) dX8_purse_33 ?_
        rw [(hP.2.2.2 g hg).1]
        refine go_istore_n (L' := [_, _, _, _]) dX8_purse_36 rfl (by decide) rfl rfl ?_
        refine go_aload_n dX8_purse_37 rfl rfl ?_
        refine go_getR flX8_26 fs_0_2 dX8_purse_38 ?_
        refine go_getR flX8_127 fs_6_0 dX8_purse_41 ?_
        refine go_iload_n dX8_purse_44 rfl rfl ?_
        refine go_aald (g) rfl (rG hg5) rt_7 dX8_purse_45 ?_
        refine go_iload_n dX8_purse_46 rfl rfl ?_
        refine go_putI fwX8_142 (fG_2 hg5) dX8_purse_47 ?_
        refine go_iload_n dX8_purse_50 rfl rfl ?_
        refine go_iret rfl dX8_purse_51 ?_
        refine ⟨by unfold aPurse; rw [hi]; simp only [c18]; rfl, ?_, FrC.rf.st (by omega)⟩
        unfold tPurse
        rw [hi]
        simp only [c18, if_true]
        obtain ⟨⟨p1, p2⟩, ⟨p3, p4⟩, p5, p6⟩ := hP
        refine h.party hI (fun x hx => funext fun y => stI_ne (Or.inl (by omega))) ⟨⟨by rw [stI_ne (by omega)]; exact p1, p2⟩, ⟨by rw [stI_ne (by omega)]; exact p3, p4⟩, fun q hq => by rw [stI_ne (by omega), stI_ne (by omega)]; exact p5 q hq, fun k hk => ?_⟩ rfl (fun k hk => by rw [stI_ne (by omega)]; exact h.2.1.2.2 k hk) (fun t => t) rfl
        obtain ⟨y1, y2, y3⟩ := p6 k hk
        refine ⟨?_, by rw [stI_ne (by omega)]; exact y2, fun y hy => by rw [stI_ne (by omega)]; exact y3 y hy⟩
        show _ = upd (pPu (xP X)) g v k
        by_cases q : k = g
        · subst q; rw [stI_at]; simp [upd]
        · rw [stI_ne (by omega), y1]; simp [upd, q]
      · have c18 : inR (nI 1) (nI 9) v = false := by have := bI_ne0.mp c18; simpa using this
        refine go_bipush (v := (-102)) dX8_purse_21 rfl ?_
        refine go_iret rfl dX8_purse_23 ?_
        exact ⟨by unfold aPurse; rw [hi]; simp only [c18]; rfl, by unfold tPurse; rw [hi]; simp only [c18]; exact ⟨h, FrC.rf⟩⟩
    · exact absurd rfl c5
