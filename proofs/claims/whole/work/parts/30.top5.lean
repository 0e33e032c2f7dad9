/-! the class's public methods (5): image, restore, count, digest -/
theorem TI.cp {σ σ' : Mm} {t u : Nat} {P : Pb} {h : Nat → Int32} (hD : pD P ≤ 6) (hT : TI σ u P h) (c1 : ∀ d, d < 6 → σ'.1 (t + 1) d = σ.1 (u + 1) d ∧ σ'.1 (t + 2) d = σ.1 (u + 2) d) (c2 : ∀ g, g < 5 → σ'.1 (t + 3) g = σ.1 (u + 3) g ∧ σ'.1 (t + 4) g = σ.1 (u + 4) g) (c3 : ∀ k, k = 6 ∨ k = 7 ∨ k = 8 → σ'.1 t k = σ.1 u k) : TI σ' t P h := by
  obtain ⟨⟨u1, u2, u3⟩, h5, h6⟩ := hT
  refine ⟨⟨by rw [c3 6 (by omega)]; exact u1, by rw [c3 7 (by omega)]; exact u2, by rw [c3 8 (by omega)]; exact u3⟩, fun d hd => ?_, fun g hg hz => ?_⟩
  · rw [(c1 d (by omega)).1, (c1 d (by omega)).2]; exact h5 d hd
  · rw [(c2 g hg).1, (c2 g hg).2]; exact h6 g hg hz
theorem LI.cp {σ σ' : Mm} {l k G : Nat} {E : Ev} (hL : LI σ k G E) (c1 : ∀ e, e < 4 → σ'.1 (l + 1) e = σ.1 (k + 1) e ∧ σ'.1 (l + 2) e = σ.1 (k + 2) e ∧ σ'.1 (l + 3) e = σ.1 (k + 3) e) (c2 : σ'.1 l 3 = σ.1 k 3) : LI σ' l G E := by
  obtain ⟨a, b, c⟩ := hL
  refine ⟨by rw [c2]; exact a, b, fun e he => ?_⟩
  obtain ⟨x1, x2, x3⟩ := c1 e (by omega)
  rw [x1, x2, x3]
  exact c e he
set_option maxHeartbeats 2000000 in
theorem sc_image {Γ : Gm} {σ : Mm} {X : Xs} {N : Nat} (hI : XI N X) (h : RC σ X) : Sp Γ 3 mX8_image [rf Γ 0] σ (aI (aImage X) (fun σ' => RC σ' (tImage X) ∧ FrC σ σ')) := by
  refine sp_in (L := [some (rf Γ 0)]) rfl (Nat.le_of_ble_eq_true rfl) rfl ?_
  have hP := h.2.1.1
  have hD := hP.1.2
  have hG := hP.2.1.2
  refine go_aload_n dX8_image_0 rfl rfl ?_
  refine go_callVp cvX8_124 os_0 (sp_noCard hP) (by omega) rfl rfl (Nat.le_of_ble_eq_true rfl) dX8_image_1 ?_
  refine go_if_eq (tgt := 10) dX8_image_4 (by decide) (fun c4 => ?_) (fun c4 => ?_)
  · have c4 : ¬ pD (xP X) = 0 := by have := bI_eq0.mp c4; simpa using this
    refine go_aload_n dX8_image_10 rfl rfl ?_
    refine go_getR flX8_58 fs_0_6 dX8_image_11 ?_
    refine go_aload_n dX8_image_14 rfl rfl ?_
    refine go_getR flX8_26 fs_0_2 dX8_image_15 ?_
    refine go_aload_n dX8_image_18 rfl rfl ?_
    refine go_getR flX8_35 fs_0_3 dX8_image_19 ?_
    refine go_aload_n dX8_image_22 rfl rfl ?_
    refine go_getR flX8_42 fs_0_4 dX8_image_23 ?_
    refine go_callVv cvX8_234 os_41 sp_take (by omega) rfl rfl (Nat.le_of_ble_eq_true rfl) dX8_image_26 (fun σ1 q1 => ?_)
    obtain ⟨⟨k1, k2, k3⟩, ⟨k4, k5⟩, k6, k7, k8, k9, k10, k11⟩ := q1
    have lo : ∀ a, a < 41 ∨ 57 < a → (stI σ1 41 5 (σ1.1 0 7)).1 a = σ.1 a := fun a ha => (funext fun y => stI_ne (Or.inl (by omega))).trans (k10 a ha)
    have hi : ∀ a, 42 ≤ a → (stI σ1 41 5 (σ1.1 0 7)).1 a = σ1.1 a := fun a ha => funext fun y => stI_ne (Or.inl (by omega))
    refine go_aload_n dX8_image_29 rfl rfl ?_
    refine go_getR flX8_58 fs_0_6 dX8_image_30 ?_
    refine go_aload_n dX8_image_33 rfl rfl ?_
    refine go_getI flX8_99 fs_0_7 dX8_image_34 ?_
    refine go_putI fwX8_238 fs_41_5 dX8_image_37 ?_
    refine go_aload_n dX8_image_40 rfl rfl ?_
    refine go_getR flX8_35 fs_0_3 dX8_image_41 ?_
    refine go_callVp cvX8_173 os_18 (sp_howMany isT18 (hP.eq (fun a h1 h2 => lo a (by omega))) (h.2.2.1.eq (fun a h1 h2 => lo a (by omega)))) (by omega) rfl rfl (Nat.le_of_ble_eq_true rfl) dX8_image_44 ?_
    refine go_iret rfl dX8_image_47 ?_
    refine ⟨by unfold aImage; rw [if_neg c4], ?_, FrC.st ⟨fun a ha => k10 a (by omega), fun a ha => by rw [k11]⟩ (by omega)⟩
    unfold tImage
    rw [if_neg c4]
    obtain ⟨⟨a1, a2⟩, ⟨b1, b2, b3⟩, c, d, ⟨e1, e2⟩, f⟩ := h
    refine ⟨⟨by rw [lo 1 (by omega)]; exact a1, fun k hk => by rw [lo 2 (by omega)]; exact a2 k hk⟩, ⟨b1.eq (fun a h1 h2 => lo a (by omega)), by rw [lo 3 (by omega)]; exact b2, fun g hg => by have hg' : g < pG (xP X) := hg; rw [lo _ (by omega)]; exact b3 g hg⟩, c.eq (fun a h1 h2 => lo a (by omega)), d.eq (fun a h1 h2 => lo a (by omega)), ⟨by rw [lo 0 (by omega)]; exact e1, by rw [lo 0 (by omega)]; exact e2⟩, ?_, fun _ _ => ⟨?_, ?_, ?_, fun g hg => ?_⟩⟩
    · rw [stI_at, k10 0 (by omega)]; exact e1
    · rw [stI_ne (by omega), k6]; exact hP.2.1.1
    · refine TI.cp hD c (fun d hd => ?_) (fun g hg => ?_) (fun k hk => ?_)
      · rw [hi (49 + 1) (by omega), hi (49 + 2) (by omega)]; exact k1 d hd
      · rw [hi (49 + 3) (by omega), hi (49 + 4) (by omega)]; exact k2 g hg
      · rw [hi 49 (by omega)]; exact k3 k hk
    · refine LI.cp d (fun e he => ?_) ?_
      · rw [hi (54 + 1) (by omega), hi (54 + 2) (by omega), hi (54 + 3) (by omega)]; exact k4 e he
      · rw [hi 54 (by omega)]; exact k5
    · have hg' : g < pG (xP X) := hg
      rw [hi 48 (by omega), k8 g (by omega)]
      refine ⟨(hP.2.2.2 g hg).1, fun y hy => ?_⟩
      have hy' : y < pD (xP X) := hy
      rw [hi (43 + g) (by omega), k7 g y (by omega) (by omega)]
      exact (hP.2.2.2 g hg).2.2 y hy
  · have c4 : pD (xP X) = 0 := by have := bI_ne0.mp c4; simpa using this
    refine go_bipush (v := (-103)) dX8_image_7 rfl ?_
    refine go_iret rfl dX8_image_9 ?_
    exact ⟨by unfold aImage; rw [if_pos c4], by unfold tImage; rw [if_pos c4]; exact ⟨h, FrC.rf⟩⟩
set_option maxHeartbeats 2000000 in
theorem sc_restore {Γ : Gm} {σ : Mm} {X : Xs} {N : Nat} (hN : N < 2 ^ 30) (hI : XI N X) (h : RC σ X) : Sp Γ 3 mX8_restore [rf Γ 0] σ (aI (aRestore X) (fun σ' => RC σ' (tRestore X) ∧ FrC σ σ')) := by
  refine sp_in (L := [some (rf Γ 0)]) rfl (Nat.le_of_ble_eq_true rfl) rfl ?_
  have hP := h.2.1.1
  have hD := hP.1.2
  have hG := hP.2.1.2
  have hC := hI.2.2.1
  have hz := hI.2.2.2.1
  have hkc := hI.2.2.2.2.2.1
  have no : ¬ (0 < xC X ∧ (xK X).1 = xC X ∧ pG (xK X).2.1 = pG (xP X)) → aI (aRestore X) (fun σ' => RC σ' (tRestore X) ∧ FrC σ σ') (some (.int (-103))) σ := fun q => ⟨by unfold aRestore; rw [if_neg q], by unfold tRestore; rw [if_neg q]; exact ⟨h, FrC.rf⟩⟩
  by_cases hv : (xK X).1 = xC X ∧ 0 < xC X
  · obtain ⟨g1, g2, g3, g4⟩ := h.2.2.2.2.2.2 hv.1 hv.2
    obtain ⟨⟨m1, m2, m3, m4, m5⟩, hdi⟩ := hI.2.2.2.2.2.2 hv.1 hv.2
    by_cases hgg : pG (xK X).2.1 = pG (xP X)
    · have hyes : 0 < xC X ∧ (xK X).1 = xC X ∧ pG (xK X).2.1 = pG (xP X) := ⟨hv.2, hv.1, hgg⟩
      have fin : ∀ σ1, Pb2 σ σ1 → PI σ1 (xK X).2.1 ∧ TI σ1 18 (xK X).2.1 (xK X).2.2.1 ∧ RC σ1 (tRestore X) ∧ FrC σ σ1 := by
        intro σ1 q1
        obtain ⟨⟨k1, k2, k3⟩, ⟨k4, k5⟩, k6, k7, k8, k9⟩ := q1
        have hp1 : PI σ1 (xK X).2.1 := by
          refine ⟨⟨by rw [k8 3 (by omega), m1]; exact hP.1.1, by rw [m1]; exact hD⟩, ⟨by rw [k8 6 (by omega), hgg]; exact hP.2.1.1, by rw [hgg]; exact hG⟩, fun d hd => ?_, fun g hg => ?_⟩
          · rw [m1] at hd
            rw [k8 4 (by omega), k8 5 (by omega), (m3 d hd).1, (m3 d hd).2]
            exact hP.2.2.1 d hd
          · have hg5 : g < 5 := by omega
            have hgx : g < pG (xP X) := by omega
            refine ⟨?_, ?_, fun d hd => ?_⟩
            · rw [(k7 g hg5).1]; exact (g4 g hg).1
            · rw [(k7 g hg5).2 3 (by omega), m5 g hg]; exact (hP.2.2.2 g hgx).2.1
            · have hd' := hd
              rw [m1] at hd'
              rw [k6 g d hg5 (by omega)]; exact (g4 g hg).2 d hd
        have ht1 : TI σ1 18 (xK X).2.1 (xK X).2.2.1 := TI.cp (by rw [m1]; exact hD) g2 k1 k2 k3
        refine ⟨hp1, ht1, ?_, ⟨fun a ha => k8 a (by omega), fun a ha => by rw [k9]⟩⟩
        unfold tRestore
        rw [if_pos hyes]
        obtain ⟨⟨a1, a2⟩, ⟨b1, b2, b3⟩, c, d, ⟨e1, e2⟩, f⟩ := h
        refine ⟨⟨by rw [k8 1 (by omega)]; exact a1, fun k hk => by rw [k8 2 (by omega)]; exact a2 k hk⟩, ⟨hp1, ?_, fun g hg => ?_⟩, ht1, ?_, ⟨by rw [k8 0 (by omega)]; exact e1, by rw [k8 0 (by omega)]; exact e2⟩, RK.eq (K := xK X) (c := xC X) (RC.k5 (σ := σ) (X := X) hI) f (fun a h1 h2 => k8 a (by omega))⟩
        · rw [k8 3 (by omega)]; exact b2.trans m2.symm
        · have hg' : g < pG (xK X).2.1 := hg
          show σ1.1 (8 + 2 * g) 1 = pKi (xK X).2.1 g
          rw [(k7 g (by omega)).2 1 (by omega), m5 g hg]
          exact b3 g (by omega)
        · exact LI.cp g3 k4 k5
      refine go_aload_n dX8_restore_0 rfl rfl ?_
      refine go_callVp cvX8_124 os_0 (sp_noCard hP) (by omega) rfl rfl (Nat.le_of_ble_eq_true rfl) dX8_restore_1 ?_
      refine go_if_ne (tgt := 38) dX8_restore_4 (by decide) (fun c4 => ?_) (fun c4 => ?_)
      · exact absurd (hz.mpr (by have := bI_ne0.mp c4; simpa using this)) (by omega)
      · refine go_aload_n dX8_restore_7 rfl rfl ?_
        refine go_getR flX8_58 fs_0_6 dX8_restore_8 ?_
        refine go_getI flX8_238 fs_41_5 dX8_restore_11 ?_
        rw [h.2.2.2.2.2.1]
        refine go_aload_n dX8_restore_14 rfl rfl ?_
        refine go_getI flX8_99 fs_0_7 dX8_restore_15 ?_
        rw [h.2.2.2.2.1.1]
        refine go_icmp_ne (tgt := 38) dX8_restore_18 (by decide) (fun c18 => ?_) (fun c18 => ?_)
        · exact absurd (by rw [hv.1]) c18
        · refine go_aload_n dX8_restore_21 rfl rfl ?_
          refine go_getR flX8_58 fs_0_6 dX8_restore_22 ?_
          refine go_getI flX8_241 fs_41_4 dX8_restore_25 ?_
          rw [g1]
          refine go_aload_n dX8_restore_28 rfl rfl ?_
          refine go_getR flX8_26 fs_0_2 dX8_restore_29 ?_
          refine go_getI flX8_86 fs_6_1 dX8_restore_32 ?_
          rw [hP.2.1.1]
          refine go_icmp_eq (tgt := 41) dX8_restore_35 (by decide) (fun c35 => ?_) (fun c35 => ?_)
          · refine go_aload_n dX8_restore_41 rfl rfl ?_
            refine go_getR flX8_58 fs_0_6 dX8_restore_42 ?_
            refine go_aload_n dX8_restore_45 rfl rfl ?_
            refine go_getR flX8_26 fs_0_2 dX8_restore_46 ?_
            refine go_aload_n dX8_restore_49 rfl rfl ?_
            refine go_getR flX8_35 fs_0_3 dX8_restore_50 ?_
            refine go_aload_n dX8_restore_53 rfl rfl ?_
            refine go_getR flX8_42 fs_0_4 dX8_restore_54 ?_
            refine go_callVv cvX8_244 os_41 sp_putBack (by omega) rfl rfl (Nat.le_of_ble_eq_true rfl) dX8_restore_57 (fun σ1 q1 => ?_)
            obtain ⟨f1, f2, f3, f4⟩ := fin σ1 q1
            refine go_aload_n dX8_restore_60 rfl rfl ?_
            refine go_getR flX8_35 fs_0_3 dX8_restore_61 ?_
            refine go_callVp cvX8_173 os_18 (sp_howMany isT18 f1 f2) (by omega) rfl rfl (Nat.le_of_ble_eq_true rfl) dX8_restore_64 ?_
            refine go_iret rfl dX8_restore_67 ?_
            exact ⟨by unfold aRestore; rw [if_pos hyes], f3, f4⟩
          · exact absurd (by rw [hgg]) c35
    · have hno := no (fun z => hgg z.2.2)
      refine go_aload_n dX8_restore_0 rfl rfl ?_
      refine go_callVp cvX8_124 os_0 (sp_noCard hP) (by omega) rfl rfl (Nat.le_of_ble_eq_true rfl) dX8_restore_1 ?_
      refine go_if_ne (tgt := 38) dX8_restore_4 (by decide) (fun c4 => ?_) (fun c4 => ?_)
      · refine go_bipush (v := (-103)) dX8_restore_38 rfl ?_
        refine go_iret rfl dX8_restore_40 ?_
        exact hno
      · refine go_aload_n dX8_restore_7 rfl rfl ?_
        refine go_getR flX8_58 fs_0_6 dX8_restore_8 ?_
        refine go_getI flX8_238 fs_41_5 dX8_restore_11 ?_
        rw [h.2.2.2.2.2.1]
        refine go_aload_n dX8_restore_14 rfl rfl ?_
        refine go_getI flX8_99 fs_0_7 dX8_restore_15 ?_
        rw [h.2.2.2.2.1.1]
        refine go_icmp_ne (tgt := 38) dX8_restore_18 (by decide) (fun c18 => ?_) (fun c18 => ?_)
        · refine go_bipush (v := (-103)) dX8_restore_38 rfl ?_
          refine go_iret rfl dX8_restore_40 ?_
          exact hno
        · refine go_aload_n dX8_restore_21 rfl rfl ?_
          refine go_getR flX8_58 fs_0_6 dX8_restore_22 ?_
          refine go_getI flX8_241 fs_41_4 dX8_restore_25 ?_
          rw [g1]
          refine go_aload_n dX8_restore_28 rfl rfl ?_
          refine go_getR flX8_26 fs_0_2 dX8_restore_29 ?_
          refine go_getI flX8_86 fs_6_1 dX8_restore_32 ?_
          rw [hP.2.1.1]
          refine go_icmp_eq (tgt := 41) dX8_restore_35 (by decide) (fun c35 => ?_) (fun c35 => ?_)
          · exact absurd ((nI_eq (by omega) (by omega)).mp c35) hgg
          · refine go_bipush (v := (-103)) dX8_restore_38 rfl ?_
            refine go_iret rfl dX8_restore_40 ?_
            exact hno
  · have hno := no (fun z => hv ⟨z.2.1, z.1⟩)
    refine go_aload_n dX8_restore_0 rfl rfl ?_
    refine go_callVp cvX8_124 os_0 (sp_noCard hP) (by omega) rfl rfl (Nat.le_of_ble_eq_true rfl) dX8_restore_1 ?_
    refine go_if_ne (tgt := 38) dX8_restore_4 (by decide) (fun c4 => ?_) (fun c4 => ?_)
    · refine go_bipush (v := (-103)) dX8_restore_38 rfl ?_
      refine go_iret rfl dX8_restore_40 ?_
      exact hno
    · refine go_aload_n dX8_restore_7 rfl rfl ?_
      refine go_getR flX8_58 fs_0_6 dX8_restore_8 ?_
      refine go_getI flX8_238 fs_41_5 dX8_restore_11 ?_
      rw [h.2.2.2.2.2.1]
      refine go_aload_n dX8_restore_14 rfl rfl ?_
      refine go_getI flX8_99 fs_0_7 dX8_restore_15 ?_
      rw [h.2.2.2.2.1.1]
      refine go_icmp_ne (tgt := 38) dX8_restore_18 (by decide) (fun c18 => ?_) (fun c18 => ?_)
      · refine go_bipush (v := (-103)) dX8_restore_38 rfl ?_
        refine go_iret rfl dX8_restore_40 ?_
        exact hno
      · have e1 := (nI_eq (by omega) (by omega)).mp c18
        have e2 : ¬ pD (xP X) = 0 := by have := bI_eq0.mp c4; simpa using this
        exact absurd ⟨e1, by rcases Nat.eq_zero_or_pos (xC X) with z | z; exact absurd (hz.mp z) e2; exact z⟩ hv
set_option maxHeartbeats 2000000 in
theorem sc_count {Γ : Gm} {σ : Mm} {X : Xs} {N : Nat} {a : Int32} (hI : XI N X) (h : RC σ X) : Sp Γ 3 mX8_count [rf Γ 0, .int a] σ (aP (aCount X a) σ) := by
  refine sp_in (L := [some (rf Γ 0), some (.int a)]) rfl (Nat.le_of_ble_eq_true rfl) rfl ?_
  have hP := h.2.1.1
  refine go_iload_n dX8_count_0 rfl rfl ?_
  rcases sw8 a with hsw | rfl | rfl | rfl | rfl | rfl | rfl | rfl | rfl | rfl
  · refine go_tabOut (tgt := 118) dX8_count_1 hsw (by decide) ?_
    refine go_bipush (v := (-102)) dX8_count_118 rfl ?_
    refine go_iret rfl dX8_count_120 ?_
    exact ⟨by unfold aCount; rw [swo (n := 8) (by omega) hsw], rfl⟩
  · refine go_tabIn (off := 51) (tgt := 52) dX8_count_1 (by decide) (by decide) (by decide) (by decide) ?_
    refine go_aload_n dX8_count_52 rfl rfl ?_
    refine go_getR flX8_19 fs_0_1 dX8_count_53 ?_
    refine go_getI flX8_102 fs_3_2 dX8_count_56 ?_
    rw [hP.1.1]
    refine go_iret rfl dX8_count_59 ?_
    exact ⟨by unfold aCount; rfl, rfl⟩
  · refine go_tabIn (off := 59) (tgt := 60) dX8_count_1 (by decide) (by decide) (by decide) (by decide) ?_
    refine go_aload_n dX8_count_60 rfl rfl ?_
    refine go_getR flX8_19 fs_0_1 dX8_count_61 ?_
    refine go_getI flX8_88 fs_3_3 dX8_count_64 ?_
    rw [h.2.1.2.1]
    refine go_iret rfl dX8_count_67 ?_
    exact ⟨by unfold aCount; rfl, rfl⟩
  · refine go_tabIn (off := 67) (tgt := 68) dX8_count_1 (by decide) (by decide) (by decide) (by decide) ?_
    refine go_aload_n dX8_count_68 rfl rfl ?_
    refine go_getR flX8_26 fs_0_2 dX8_count_69 ?_
    refine go_getI flX8_86 fs_6_1 dX8_count_72 ?_
    rw [hP.2.1.1]
    refine go_iret rfl dX8_count_75 ?_
    exact ⟨by unfold aCount; rfl, rfl⟩
  · refine go_tabIn (off := 75) (tgt := 76) dX8_count_1 (by decide) (by decide) (by decide) (by decide) ?_
    refine go_aload_n dX8_count_76 rfl rfl ?_
    refine go_getR flX8_35 fs_0_3 dX8_count_77 ?_
    refine go_callVp cvX8_173 os_18 (sp_howMany isT18 hP h.2.2.1) (by omega) rfl rfl (Nat.le_of_ble_eq_true rfl) dX8_count_80 ?_
    refine go_iret rfl dX8_count_83 ?_
    exact ⟨by unfold aCount; rfl, rfl⟩
  · refine go_tabIn (off := 83) (tgt := 84) dX8_count_1 (by decide) (by decide) (by decide) (by decide) ?_
    refine go_aload_n dX8_count_84 rfl rfl ?_
    refine go_getR flX8_35 fs_0_3 dX8_count_85 ?_
    refine go_callVp cvX8_247 os_18 (sp_joyOfAll isT18 hP h.2.2.1 hI.2.1.2.2.2.2.2.2.2.1) (by omega) rfl rfl (Nat.le_of_ble_eq_true rfl) dX8_count_88 ?_
    refine go_iret rfl dX8_count_91 ?_
    exact ⟨by unfold aCount; rfl, rfl⟩
  · refine go_tabIn (off := 91) (tgt := 92) dX8_count_1 (by decide) (by decide) (by decide) (by decide) ?_
    refine go_aload_n dX8_count_92 rfl rfl ?_
    refine go_getR flX8_42 fs_0_4 dX8_count_93 ?_
    refine go_getI flX8_87 fs_23_3 dX8_count_96 ?_
    rw [h.2.2.2.1.1]
    refine go_iret rfl dX8_count_99 ?_
    exact ⟨by unfold aCount; rfl, rfl⟩
  · refine go_tabIn (off := 99) (tgt := 100) dX8_count_1 (by decide) (by decide) (by decide) (by decide) ?_
    refine go_aload_n dX8_count_100 rfl rfl ?_
    refine go_getR flX8_10 fs_0_0 dX8_count_101 ?_
    refine go_getI flX8_66 fs_1_1 dX8_count_104 ?_
    rw [h.1.1]
    refine go_iret rfl dX8_count_107 ?_
    exact ⟨by unfold aCount; rfl, rfl⟩
  · refine go_tabIn (off := 107) (tgt := 108) dX8_count_1 (by decide) (by decide) (by decide) (by decide) ?_
    refine go_aload_n dX8_count_108 rfl rfl ?_
    refine go_getI flX8_99 fs_0_7 dX8_count_109 ?_
    rw [h.2.2.2.2.1.1]
    refine go_iret rfl dX8_count_112 ?_
    exact ⟨by unfold aCount; rfl, rfl⟩
  · refine go_tabIn (off := 112) (tgt := 113) dX8_count_1 (by decide) (by decide) (by decide) (by decide) ?_
    refine go_aload_n dX8_count_113 rfl rfl ?_
    refine go_getI flX8_186 fs_0_8 dX8_count_114 ?_
    rw [h.2.2.2.2.1.2]
    refine go_iret rfl dX8_count_117 ?_
    exact ⟨by unfold aCount; rfl, rfl⟩
/-- the digest -/
def mixH (h : Int64) (v : Int32) : Int64 := 31 * h + v.toInt64
def foL (f : Nat → Int64 → Int64) (h : Int64) : Nat → Int64
  | 0 => h
  | n + 1 => f n (foL f h n)
def mixL (f : Nat → Int32) (h : Int64) (n : Nat) : Int64 := foL (fun k x => mixH x (f k)) h n
def dgs1 (X : Xs) : Int64 := foL (fun d x => mixL (fun w => aDish X (nI d) (nI w)) x 4) 757 (pD (xP X))
def dgG (X : Xs) (g : Nat) (x : Int64) : Int64 := mixH (mixL (fun d => pWa (xP X) g d) (mixL (fun w => aAbout X (nI g) (nI w)) x 6) (pD (xP X))) (minM (xP X) g)
def dgs2 (X : Xs) : Int64 := foL (dgG X) (dgs1 X) (pG (xP X))
def dgs3 (X : Xs) : Int64 := if pD (xP X) = 0 then dgs2 X else mixH (mixH (mixH (mixH (dgs2 X) (hostM (xP X))) (fewV (xP X) 0)) (fewV (xP X) 1)) (fitsM (xP X) (xE X))
def dgs4 (X : Xs) : Int64 := if pG (xP X) = 0 then dgs3 X else mixH (mixH (dgs3 X) (bfL (joyF (xP X) (-1)) 0 (pG (xP X))).1) (bfL (joyF (xP X) (-1)) 0 (pG (xP X))).2
def dgs5 (X : Xs) : Int64 := mixL (xPg X) (dgs4 X) (xPn X)
def aDigest (X : Xs) : Int64 := mixL (fun w => aCount X (nI w)) (dgs5 X) 9
set_option maxHeartbeats 1000000 in
theorem sp_mixed {Γ : Gm} {σ : Mm} {x y : Int64} : Sp Γ 1 mX8_mixed [.long x, .long y] σ (aJ (31 * x + y) (fun σ' => σ' = σ)) := by
  refine sp_in (L := [some (.long x), none, some (.long y), none]) rfl (Nat.le_of_ble_eq_true rfl) rfl ?_
  refine go_ldc2 (v := 31) dX8_mixed_0 klX8_287 ?_
  refine go_lload_n dX8_mixed_3 rfl rfl ?_
  refine go_lmul dX8_mixed_4 ?_
  refine go_lload_n dX8_mixed_5 rfl rfl ?_
  refine go_ladd dX8_mixed_6 ?_
  refine go_lret rfl dX8_mixed_7 ?_
  exact ⟨rfl, rfl⟩
set_option maxHeartbeats 1000000 in
theorem lp_mxD2 {Γ : Gm} {σ : Mm} {X : Xs} {N d : Nat} {x0 h0 : Int64} {Q : Option Value → Mm → Prop} (hI : XI N X) (h : RC σ X) (hd : d < pD (xP X))
    (next : Go Γ 3 mX8_mixedDishes Q 46 [some (rf Γ 0), some (.long x0), none, some (.long (mixL (fun w => aDish X (nI d) (nI w)) h0 4)), none, some (.int (nI d)), none] [] σ) : ∀ (m w : Nat), w + m = 4 → Go Γ 3 mX8_mixedDishes Q 20 [some (rf Γ 0), some (.long x0), none, some (.long (mixL (fun w => aDish X (nI d) (nI w)) h0 w)), none, some (.int (nI d)), some (.int (nI w))] [] σ := by
  intro m
  induction m with
  | zero =>
    intro w hw
    have e : w = 4 := by omega
    subst e
    refine go_iload dX8_mixedDishes_20 rfl ?_
    refine go_iconst (v := nI 4) dX8_mixedDishes_22 rfl ?_
    refine go_icmp_ge (tgt := 46) dX8_mixedDishes_23 (by decide) (fun c23 => ?_) (fun c23 => ?_)
    · exact go_sub [true, true, true, true, true, true, false] rfl next
    · exact absurd (Int32.le_refl _) c23
  | succ m ih =>
    intro w hw
    refine go_iload dX8_mixedDishes_20 rfl ?_
    refine go_iconst (v := nI 4) dX8_mixedDishes_22 rfl ?_
    refine go_icmp_ge (tgt := 46) dX8_mixedDishes_23 (by decide) (fun c23 => ?_) (fun c23 => ?_)
    · exact absurd c23 (nI_ge (by omega) (by omega))
    · refine go_lload_n dX8_mixedDishes_26 rfl rfl ?_
      refine go_aload_n dX8_mixedDishes_27 rfl rfl ?_
      refine go_iload dX8_mixedDishes_28 rfl ?_
      refine go_iload dX8_mixedDishes_30 rfl ?_
      refine go_callVp cvX8_278 os_0 (sc_dish hI h) (by omega) rfl rfl (Nat.le_of_ble_eq_true rfl) dX8_mixedDishes_32 ?_
      refine go_i2l dX8_mixedDishes_35 ?_
      refine go_callSjp csX8_262 sp_mixed (by omega) rfl rfl (Nat.le_of_ble_eq_true rfl) dX8_mixedDishes_36 ?_
      refine go_lstore_n (L' := [_, _, _, _, _, _, _]) dX8_mixedDishes_39 rfl (by decide) rfl rfl ?_
      refine go_iinc (v := nI (w + 1)) (L' := [_, _, _, _, _, _, _]) dX8_mixedDishes_40 rfl (nI_1 _) (by decide) rfl rfl ?_
      refine go_goto (tgt := 20) dX8_mixedDishes_43 (by decide) ?_
      exact ih (w + 1) (by omega)
set_option maxHeartbeats 1000000 in
theorem lp_mxD1 {Γ : Gm} {σ : Mm} {X : Xs} {N : Nat} {x0 : Int64} (hI : XI N X) (h : RC σ X) : ∀ (m d : Nat), d + m = pD (xP X) → Go Γ 3 mX8_mixedDishes (aJ (foL (fun d x => mixL (fun w => aDish X (nI d) (nI w)) x 4) x0 (pD (xP X))) (fun σ' => σ' = σ)) 5 [some (rf Γ 0), some (.long x0), none, some (.long (foL (fun d x => mixL (fun w => aDish X (nI d) (nI w)) x 4) x0 d)), none, some (.int (nI d)), none] [] σ := by
  have hD := h.2.1.1.1.2
  intro m
  induction m with
  | zero =>
    intro d hd
    have e : d = pD (xP X) := by omega
    subst e
    refine go_iload dX8_mixedDishes_5 rfl ?_
    refine go_aload_n dX8_mixedDishes_7 rfl rfl ?_
    refine go_getR flX8_19 fs_0_1 dX8_mixedDishes_8 ?_
    refine go_getI flX8_102 fs_3_2 dX8_mixedDishes_11 ?_
    rw [h.2.1.1.1.1]
    refine go_icmp_ge (tgt := 52) dX8_mixedDishes_14 (by decide) (fun c14 => ?_) (fun c14 => ?_)
    · refine go_lload_n dX8_mixedDishes_52 rfl rfl ?_
      refine go_lret rfl dX8_mixedDishes_53 ?_
      exact ⟨rfl, rfl⟩
    · exact absurd (Int32.le_refl _) c14
  | succ m ih =>
    intro d hd
    refine go_iload dX8_mixedDishes_5 rfl ?_
    refine go_aload_n dX8_mixedDishes_7 rfl rfl ?_
    refine go_getR flX8_19 fs_0_1 dX8_mixedDishes_8 ?_
    refine go_getI flX8_102 fs_3_2 dX8_mixedDishes_11 ?_
    rw [h.2.1.1.1.1]
    refine go_icmp_ge (tgt := 52) dX8_mixedDishes_14 (by decide) (fun c14 => ?_) (fun c14 => ?_)
    · exact absurd c14 (nI_ge (by omega) (by omega))
    · refine go_iconst (v := nI 0) dX8_mixedDishes_17 rfl ?_
      refine go_istore (L' := [_, _, _, _, _, _, _]) dX8_mixedDishes_18 (by decide) rfl rfl ?_
      refine lp_mxD2 hI h (by omega) ?_ 4 0 rfl
      refine go_iinc (v := nI (d + 1)) (L' := [_, _, _, _, _, _, _]) dX8_mixedDishes_46 rfl (nI_1 _) (by decide) rfl rfl ?_
      refine go_goto (tgt := 5) dX8_mixedDishes_49 (by decide) ?_
      exact ih (d + 1) (by omega)
set_option maxHeartbeats 1000000 in
theorem sp_mixedDishes {Γ : Gm} {σ : Mm} {X : Xs} {N : Nat} {x0 : Int64} (hI : XI N X) (h : RC σ X) : Sp Γ 3 mX8_mixedDishes [rf Γ 0, .long x0] σ (aJ (foL (fun d x => mixL (fun w => aDish X (nI d) (nI w)) x 4) x0 (pD (xP X))) (fun σ' => σ' = σ)) := by
  refine sp_in (L := [some (rf Γ 0), some (.long x0), none, none, none, none, none]) rfl (Nat.le_of_ble_eq_true rfl) rfl ?_
  refine go_lload_n dX8_mixedDishes_0 rfl rfl ?_
  refine go_lstore_n (L' := [_, _, _, _, _, _, _]) dX8_mixedDishes_1 rfl (by decide) rfl rfl ?_
  refine go_iconst (v := nI 0) dX8_mixedDishes_2 rfl ?_
  refine go_istore (L' := [_, _, _, _, _, _, _]) dX8_mixedDishes_3 (by decide) rfl rfl ?_
  exact lp_mxD1 hI h (pD (xP X)) 0 (by omega)
set_option maxHeartbeats 1000000 in
theorem lp_mxG3 {Γ : Gm} {σ : Mm} {X : Xs} {N g : Nat} {x0 h0 : Int64} {Q : Option Value → Mm → Prop} (hI : XI N X) (h : RC σ X) (hg : g < pG (xP X))
    (next : Go Γ 7 mX8_mixedGuests Q 90 [some (rf Γ 0), some (.long x0), none, some (.long (mixL (fun d => pWa (xP X) g d) h0 (pD (xP X)))), none, some (.int (nI g)), none] [] σ) : ∀ (m d : Nat), d + m = pD (xP X) → Go Γ 7 mX8_mixedGuests Q 50 [some (rf Γ 0), some (.long x0), none, some (.long (mixL (fun d => pWa (xP X) g d) h0 d)), none, some (.int (nI g)), some (.int (nI d))] [] σ := by
  have hP := h.2.1.1
  have hD := hP.1.2
  have hg5 : g < 5 := by have := hP.2.1.2; omega
  intro m
  induction m with
  | zero =>
    intro d hd
    have e : d = pD (xP X) := by omega
    subst e
    refine go_iload dX8_mixedGuests_50 rfl ?_
    refine go_aload_n dX8_mixedGuests_52 rfl rfl ?_
    refine go_getR flX8_19 fs_0_1 dX8_mixedGuests_53 ?_
    refine go_getI flX8_102 fs_3_2 dX8_mixedGuests_56 ?_
    rw [hP.1.1]
    refine go_icmp_ge (tgt := 90) dX8_mixedGuests_59 (by decide) (fun c59 => ?_) (fun c59 => ?_)
    · exact go_sub [true, true, true, true, true, true, false] rfl next
    · exact absurd (Int32.le_refl _) c59
  | succ m ih =>
    intro d hd
    refine go_iload dX8_mixedGuests_50 rfl ?_
    refine go_aload_n dX8_mixedGuests_52 rfl rfl ?_
    refine go_getR flX8_19 fs_0_1 dX8_mixedGuests_53 ?_
    refine go_getI flX8_102 fs_3_2 dX8_mixedGuests_56 ?_
    rw [hP.1.1]
    refine go_icmp_ge (tgt := 90) dX8_mixedGuests_59 (by decide) (fun c59 => ?_) (fun c59 => ?_)
    · exact absurd c59 (nI_ge (by omega) (by omega))
    · refine go_lload_n dX8_mixedGuests_62 rfl rfl ?_
      refine go_aload_n dX8_mixedGuests_63 rfl rfl ?_
      refine go_getR flX8_26 fs_0_2 dX8_mixedGuests_64 ?_
      refine go_getR flX8_127 fs_6_0 dX8_mixedGuests_67 ?_
      refine go_iload dX8_mixedGuests_70 rfl ?_
      refine go_aald (g) rfl (rG hg5) rt_7 dX8_mixedGuests_72 ?_
      refine go_getR flX8_161 (fG_0 hg5) dX8_mixedGuests_73 ?_
      refine go_iload dX8_mixedGuests_76 rfl ?_
      refine go_iald (d) rfl (aW hg5) (by omega) (by decide) dX8_mixedGuests_78 ?_
      rw [(hP.2.2.2 g hg).2.2 d (by omega)]
      refine go_i2l dX8_mixedGuests_79 ?_
      refine go_callSjp csX8_262 sp_mixed (by omega) rfl rfl (Nat.le_of_ble_eq_true rfl) dX8_mixedGuests_80 ?_
      refine go_lstore_n (L' := [_, _, _, _, _, _, _]) dX8_mixedGuests_83 rfl (by decide) rfl rfl ?_
      refine go_iinc (v := nI (d + 1)) (L' := [_, _, _, _, _, _, _]) dX8_mixedGuests_84 rfl (nI_1 _) (by decide) rfl rfl ?_
      refine go_goto (tgt := 50) dX8_mixedGuests_87 (by decide) ?_
      exact ih (d + 1) (by omega)
set_option maxHeartbeats 1000000 in
theorem lp_mxG2 {Γ : Gm} {σ : Mm} {X : Xs} {N g : Nat} {x0 h0 : Int64} {Q : Option Value → Mm → Prop} (hI : XI N X) (h : RC σ X)
    (next : Go Γ 7 mX8_mixedGuests Q 47 [some (rf Γ 0), some (.long x0), none, some (.long (mixL (fun w => aAbout X (nI g) (nI w)) h0 6)), none, some (.int (nI g)), none] [] σ) : ∀ (m w : Nat), w + m = 6 → Go Γ 7 mX8_mixedGuests Q 20 [some (rf Γ 0), some (.long x0), none, some (.long (mixL (fun w => aAbout X (nI g) (nI w)) h0 w)), none, some (.int (nI g)), some (.int (nI w))] [] σ := by
  intro m
  induction m with
  | zero =>
    intro w hw
    have e : w = 6 := by omega
    subst e
    refine go_iload dX8_mixedGuests_20 rfl ?_
    refine go_bipush (v := nI 6) dX8_mixedGuests_22 rfl ?_
    refine go_icmp_ge (tgt := 47) dX8_mixedGuests_24 (by decide) (fun c24 => ?_) (fun c24 => ?_)
    · exact go_sub [true, true, true, true, true, true, false] rfl next
    · exact absurd (Int32.le_refl _) c24
  | succ m ih =>
    intro w hw
    refine go_iload dX8_mixedGuests_20 rfl ?_
    refine go_bipush (v := nI 6) dX8_mixedGuests_22 rfl ?_
    refine go_icmp_ge (tgt := 47) dX8_mixedGuests_24 (by decide) (fun c24 => ?_) (fun c24 => ?_)
    · exact absurd c24 (nI_ge (by omega) (by omega))
    · refine go_lload_n dX8_mixedGuests_27 rfl rfl ?_
      refine go_aload_n dX8_mixedGuests_28 rfl rfl ?_
      refine go_iload dX8_mixedGuests_29 rfl ?_
      refine go_iload dX8_mixedGuests_31 rfl ?_
      refine go_callVp cvX8_281 os_0 (sc_about hI h) (by omega) rfl rfl (Nat.le_of_ble_eq_true rfl) dX8_mixedGuests_33 ?_
      refine go_i2l dX8_mixedGuests_36 ?_
      refine go_callSjp csX8_262 sp_mixed (by omega) rfl rfl (Nat.le_of_ble_eq_true rfl) dX8_mixedGuests_37 ?_
      refine go_lstore_n (L' := [_, _, _, _, _, _, _]) dX8_mixedGuests_40 rfl (by decide) rfl rfl ?_
      refine go_iinc (v := nI (w + 1)) (L' := [_, _, _, _, _, _, _]) dX8_mixedGuests_41 rfl (nI_1 _) (by decide) rfl rfl ?_
      refine go_goto (tgt := 20) dX8_mixedGuests_44 (by decide) ?_
      exact ih (w + 1) (by omega)
set_option maxHeartbeats 1000000 in
theorem lp_mxG1 {Γ : Gm} {σ : Mm} {X : Xs} {N : Nat} {x0 : Int64} (hI : XI N X) : ∀ (m g : Nat) (σ' : Mm), g + m = pG (xP X) → RC σ' X → OF σ σ' → Go Γ 7 mX8_mixedGuests (aJ (foL (dgG X) x0 (pG (xP X))) (fun σ' => RC σ' X ∧ OF σ σ')) 5 [some (rf Γ 0), some (.long x0), none, some (.long (foL (dgG X) x0 g)), none, some (.int (nI g)), none] [] σ' := by
  intro m
  induction m with
  | zero =>
    intro g σ' hg h hO
    have hG := h.2.1.1.2.1.2
    have e : g = pG (xP X) := by omega
    subst e
    refine go_iload dX8_mixedGuests_5 rfl ?_
    refine go_aload_n dX8_mixedGuests_7 rfl rfl ?_
    refine go_getR flX8_26 fs_0_2 dX8_mixedGuests_8 ?_
    refine go_getI flX8_86 fs_6_1 dX8_mixedGuests_11 ?_
    rw [h.2.1.1.2.1.1]
    refine go_icmp_ge (tgt := 108) dX8_mixedGuests_14 (by decide) (fun c14 => ?_) (fun c14 => ?_)
    · refine go_lload_n dX8_mixedGuests_108 rfl rfl ?_
      refine go_lret rfl dX8_mixedGuests_109 ?_
      exact ⟨rfl, h, hO⟩
    · exact absurd (Int32.le_refl _) c14
  | succ m ih =>
    intro g σ' hg h hO
    have hG := h.2.1.1.2.1.2
    have ea : aMinds X (nI g) = minM (xP X) g := by unfold aMinds; rw [ix_nI (by omega) (by omega)]
    have n90 : Go Γ 7 mX8_mixedGuests (aJ (foL (dgG X) x0 (pG (xP X))) (fun σ' => RC σ' X ∧ OF σ σ')) 90 [some (rf Γ 0), some (.long x0), none, some (.long (mixL (fun d => pWa (xP X) g d) (mixL (fun w => aAbout X (nI g) (nI w)) (foL (dgG X) x0 g) 6) (pD (xP X)))), none, some (.int (nI g)), none] [] σ' := by
      refine go_lload_n dX8_mixedGuests_90 rfl rfl ?_
      refine go_aload_n dX8_mixedGuests_91 rfl rfl ?_
      refine go_iload dX8_mixedGuests_92 rfl ?_
      refine go_callVi cvX8_284 os_0 (sc_minds hI h) (by omega) rfl rfl (Nat.le_of_ble_eq_true rfl) dX8_mixedGuests_94 (fun σ1 q1 => ?_)
      rw [ea]
      refine go_i2l dX8_mixedGuests_97 ?_
      refine go_callSjp csX8_262 sp_mixed (by omega) rfl rfl (Nat.le_of_ble_eq_true rfl) dX8_mixedGuests_98 ?_
      refine go_lstore_n (L' := [_, _, _, _, _, _, _]) dX8_mixedGuests_101 rfl (by decide) rfl rfl ?_
      refine go_iinc (v := nI (g + 1)) (L' := [_, _, _, _, _, _, _]) dX8_mixedGuests_102 rfl (nI_1 _) (by decide) rfl rfl ?_
      refine go_goto (tgt := 5) dX8_mixedGuests_105 (by decide) ?_
      exact ih (g + 1) σ1 (by omega) q1.1 (hO.trans q1.2)
    refine go_iload dX8_mixedGuests_5 rfl ?_
    refine go_aload_n dX8_mixedGuests_7 rfl rfl ?_
    refine go_getR flX8_26 fs_0_2 dX8_mixedGuests_8 ?_
    refine go_getI flX8_86 fs_6_1 dX8_mixedGuests_11 ?_
    rw [h.2.1.1.2.1.1]
    refine go_icmp_ge (tgt := 108) dX8_mixedGuests_14 (by decide) (fun c14 => ?_) (fun c14 => ?_)
    · exact absurd c14 (nI_ge (by omega) (by omega))
    · refine go_iconst (v := nI 0) dX8_mixedGuests_17 rfl ?_
      refine go_istore (L' := [_, _, _, _, _, _, _]) dX8_mixedGuests_18 (by decide) rfl rfl ?_
      refine lp_mxG2 hI h ?_ 6 0 rfl
      refine go_iconst (v := nI 0) dX8_mixedGuests_47 rfl ?_
      refine go_istore (L' := [_, _, _, _, _, _, _]) dX8_mixedGuests_48 (by decide) rfl rfl ?_
      exact lp_mxG3 hI h (by omega) n90 (pD (xP X)) 0 (by omega)
set_option maxHeartbeats 1000000 in
theorem sp_mixedGuests {Γ : Gm} {σ : Mm} {X : Xs} {N : Nat} {x0 : Int64} (hI : XI N X) (h : RC σ X) : Sp Γ 7 mX8_mixedGuests [rf Γ 0, .long x0] σ (aJ (foL (dgG X) x0 (pG (xP X))) (fun σ' => RC σ' X ∧ OF σ σ')) := by
  refine sp_in (L := [some (rf Γ 0), some (.long x0), none, none, none, none, none]) rfl (Nat.le_of_ble_eq_true rfl) rfl ?_
  refine go_lload_n dX8_mixedGuests_0 rfl rfl ?_
  refine go_lstore_n (L' := [_, _, _, _, _, _, _]) dX8_mixedGuests_1 rfl (by decide) rfl rfl ?_
  refine go_iconst (v := nI 0) dX8_mixedGuests_2 rfl ?_
  refine go_istore (L' := [_, _, _, _, _, _, _]) dX8_mixedGuests_3 (by decide) rfl rfl ?_
  exact lp_mxG1 hI (pG (xP X)) 0 σ (by omega) h OF.rf
set_option maxHeartbeats 1000000 in
theorem lp_dg2 {Γ : Gm} {σ0 σ : Mm} {X : Xs} {N : Nat} (hI : XI N X) (h : RC σ X) (hF : FrC σ0 σ) : ∀ (m w : Nat), w + m = 9 → Go Γ 8 mX8_digest (aJ (aDigest X) (fun σ' => RC σ' X ∧ FrC σ0 σ')) 132 [some (rf Γ 0), some (.long (mixL (fun w => aCount X (nI w)) (dgs5 X) w)), none, some (.int (nI w))] [] σ := by
  intro m
  induction m with
  | zero =>
    intro w hw
    have e : w = 9 := by omega
    subst e
    refine go_iload_n dX8_digest_132 rfl rfl ?_
    refine go_bipush (v := nI 9) dX8_digest_133 rfl ?_
    refine go_icmp_ge (tgt := 155) dX8_digest_135 (by decide) (fun c135 => ?_) (fun c135 => ?_)
    · refine go_lload_n dX8_digest_155 rfl rfl ?_
      refine go_lret rfl dX8_digest_156 ?_
      exact ⟨rfl, h, hF⟩
    · exact absurd (Int32.le_refl _) c135
  | succ m ih =>
    intro w hw
    refine go_iload_n dX8_digest_132 rfl rfl ?_
    refine go_bipush (v := nI 9) dX8_digest_133 rfl ?_
    refine go_icmp_ge (tgt := 155) dX8_digest_135 (by decide) (fun c135 => ?_) (fun c135 => ?_)
    · exact absurd c135 (nI_ge (by omega) (by omega))
    · refine go_lload_n dX8_digest_138 rfl rfl ?_
      refine go_aload_n dX8_digest_139 rfl rfl ?_
      refine go_iload_n dX8_digest_140 rfl rfl ?_
      refine go_callVp cvX8_275 os_0 (sc_count hI h) (by omega) rfl rfl (Nat.le_of_ble_eq_true rfl) dX8_digest_141 ?_
      refine go_i2l dX8_digest_144 ?_
      refine go_callSjp csX8_262 sp_mixed (by omega) rfl rfl (Nat.le_of_ble_eq_true rfl) dX8_digest_145 ?_
      refine go_lstore_n (L' := [_, _, _, _]) dX8_digest_148 rfl (by decide) rfl rfl ?_
      refine go_iinc (v := nI (w + 1)) (L' := [_, _, _, _]) dX8_digest_149 rfl (nI_1 _) (by decide) rfl rfl ?_
      refine go_goto (tgt := 132) dX8_digest_152 (by decide) ?_
      exact ih (w + 1) (by omega)
set_option maxHeartbeats 1000000 in
theorem lp_dg1 {Γ : Gm} {σ0 σ : Mm} {X : Xs} {N : Nat} (hI : XI N X) (h : RC σ X) (hF : FrC σ0 σ) : ∀ (m k : Nat), k + m = xPn X → Go Γ 8 mX8_digest (aJ (aDigest X) (fun σ' => RC σ' X ∧ FrC σ0 σ')) 98 [some (rf Γ 0), some (.long (mixL (xPg X) (dgs4 X) k)), none, some (.int (nI k))] [] σ := by
  have hn := hI.1
  intro m
  induction m with
  | zero =>
    intro k hk
    have e : k = xPn X := by omega
    subst e
    refine go_iload_n dX8_digest_98 rfl rfl ?_
    refine go_aload_n dX8_digest_99 rfl rfl ?_
    refine go_getR flX8_10 fs_0_0 dX8_digest_100 ?_
    refine go_getI flX8_66 fs_1_1 dX8_digest_103 ?_
    rw [h.1.1]
    refine go_icmp_ge (tgt := 130) dX8_digest_106 (by decide) (fun c106 => ?_) (fun c106 => ?_)
    · refine go_iconst (v := nI 0) dX8_digest_130 rfl ?_
      refine go_istore_n (L' := [_, _, _, _]) dX8_digest_131 rfl (by decide) rfl rfl ?_
      exact lp_dg2 hI h hF 9 0 rfl
    · exact absurd (Int32.le_refl _) c106
  | succ m ih =>
    intro k hk
    refine go_iload_n dX8_digest_98 rfl rfl ?_
    refine go_aload_n dX8_digest_99 rfl rfl ?_
    refine go_getR flX8_10 fs_0_0 dX8_digest_100 ?_
    refine go_getI flX8_66 fs_1_1 dX8_digest_103 ?_
    rw [h.1.1]
    refine go_icmp_ge (tgt := 130) dX8_digest_106 (by decide) (fun c106 => ?_) (fun c106 => ?_)
    · exact absurd c106 (nI_ge (by omega) (by omega))
    · refine go_lload_n dX8_digest_109 rfl rfl ?_
      refine go_aload_n dX8_digest_110 rfl rfl ?_
      refine go_getR flX8_10 fs_0_0 dX8_digest_111 ?_
      refine go_getR flX8_70 fs_1_0 dX8_digest_114 ?_
      refine go_iload_n dX8_digest_117 rfl rfl ?_
      refine go_iald (k) rfl as_2 (by omega) (by decide) dX8_digest_118 ?_
      rw [h.1.2 k (by omega)]
      refine go_i2l dX8_digest_119 ?_
      refine go_callSjp csX8_262 sp_mixed (by omega) rfl rfl (Nat.le_of_ble_eq_true rfl) dX8_digest_120 ?_
      refine go_lstore_n (L' := [_, _, _, _]) dX8_digest_123 rfl (by decide) rfl rfl ?_
      refine go_iinc (v := nI (k + 1)) (L' := [_, _, _, _]) dX8_digest_124 rfl (nI_1 _) (by decide) rfl rfl ?_
      refine go_goto (tgt := 98) dX8_digest_127 (by decide) ?_
      exact ih (k + 1) (by omega)
set_option maxHeartbeats 2000000 in
theorem sc_digest {Γ : Gm} {σ : Mm} {X : Xs} {N : Nat} (hI : XI N X) (h : RC σ X) : Sp Γ 8 mX8_digest [rf Γ 0] σ (aJ (aDigest X) (fun σ' => RC σ' X ∧ FrC σ σ')) := by
  refine sp_in (L := [some (rf Γ 0), none, none, none]) rfl (Nat.le_of_ble_eq_true rfl) rfl ?_
  have hD := h.2.1.1.1.2
  have hG := h.2.1.1.2.1.2
  have at62 : ∀ σ1, RC σ1 X → FrC σ σ1 → Go Γ 8 mX8_digest (aJ (aDigest X) (fun σ' => RC σ' X ∧ FrC σ σ')) 62 [some (rf Γ 0), some (.long (dgs3 X)), none, none] [] σ1 := by
    intro σ1 h1 hF
    by_cases h0 : pG (xP X) = 0
    · have hs : σ1.1 6 1 = nI 0 := by rw [h1.2.1.1.2.1.1, h0]
      refine go_aload_n dX8_digest_62 rfl rfl ?_
      refine go_getR flX8_26 fs_0_2 dX8_digest_63 ?_
      refine go_getI flX8_86 fs_6_1 dX8_digest_66 ?_
      rw [hs]
      refine go_if_le (tgt := 96) dX8_digest_69 (by decide) (fun c69 => ?_) (fun c69 => ?_)
      · refine go_iconst (v := nI 0) dX8_digest_96 rfl ?_
        refine go_istore_n (L' := [_, _, _, _]) dX8_digest_97 rfl (by decide) rfl rfl ?_
        rw [show dgs3 X = dgs4 X by unfold dgs4; rw [if_pos h0]]
        exact lp_dg1 hI h1 hF (xPn X) 0 (by omega)
      · exact absurd (by decide) c69
    · have hs := h1.2.1.1.2.1.1
      have b0 : aBegin X (-1) (nI 0) = (bfL (joyF (xP X) (-1)) 0 (pG (xP X))).1 := by
        unfold aBegin
        rw [if_neg (fun z => z.1 rfl), ix_nI (by omega) (by omega)]
        simp only [if_neg h0]; rfl
      have b1 : aBegin X (-1) (nI 1) = (bfL (joyF (xP X) (-1)) 0 (pG (xP X))).2 := by
        unfold aBegin
        rw [if_neg (fun z => z.1 rfl), ix_nI (by omega) (by omega)]
        simp only [if_neg h0]; rfl
      refine go_aload_n dX8_digest_62 rfl rfl ?_
      refine go_getR flX8_26 fs_0_2 dX8_digest_63 ?_
      refine go_getI flX8_86 fs_6_1 dX8_digest_66 ?_
      rw [hs]
      refine go_if_le (tgt := 96) dX8_digest_69 (by decide) (fun c69 => ?_) (fun c69 => ?_)
      · exact absurd c69 (nI_nle (by omega) (by omega))
      · refine go_lload_n dX8_digest_72 rfl rfl ?_
        refine go_aload_n dX8_digest_73 rfl rfl ?_
        refine go_iconst (v := (-1)) dX8_digest_74 rfl ?_
        refine go_iconst (v := nI 0) dX8_digest_75 rfl ?_
        refine go_callVi cvX8_272 os_0 (sc_begin hI h1) (by omega) rfl rfl (Nat.le_of_ble_eq_true rfl) dX8_digest_76 (fun σ2 q2 => ?_)
        rw [b0]
        refine go_i2l dX8_digest_79 ?_
        refine go_callSjp csX8_262 sp_mixed (by omega) rfl rfl (Nat.le_of_ble_eq_true rfl) dX8_digest_80 ?_
        refine go_lstore_n (L' := [_, _, _, _]) dX8_digest_83 rfl (by decide) rfl rfl ?_
        refine go_lload_n dX8_digest_84 rfl rfl ?_
        refine go_aload_n dX8_digest_85 rfl rfl ?_
        refine go_iconst (v := (-1)) dX8_digest_86 rfl ?_
        refine go_iconst (v := nI 1) dX8_digest_87 rfl ?_
        refine go_callVi cvX8_272 os_0 (sc_begin hI q2.1) (by omega) rfl rfl (Nat.le_of_ble_eq_true rfl) dX8_digest_88 (fun σ3 q3 => ?_)
        rw [b1]
        refine go_i2l dX8_digest_91 ?_
        refine go_callSjp csX8_262 sp_mixed (by omega) rfl rfl (Nat.le_of_ble_eq_true rfl) dX8_digest_92 ?_
        refine go_lstore_n (L' := [_, _, _, _]) dX8_digest_95 rfl (by decide) rfl rfl ?_
        refine go_iconst (v := nI 0) dX8_digest_96 rfl ?_
        refine go_istore_n (L' := [_, _, _, _]) dX8_digest_97 rfl (by decide) rfl rfl ?_
        rw [show 31 * (31 * dgs3 X + (bfL (joyF (xP X) (-1)) 0 (pG (xP X))).1.toInt64) + (bfL (joyF (xP X) (-1)) 0 (pG (xP X))).2.toInt64 = dgs4 X by unfold dgs4; rw [if_neg h0]; rfl]
        exact lp_dg1 hI q3.1 (hF.trans (q2.2.trans q3.2)) (xPn X) 0 (by omega)
  by_cases hd : pD (xP X) = 0
  · refine go_aload_n dX8_digest_0 rfl rfl ?_
    refine go_aload_n dX8_digest_1 rfl rfl ?_
    refine go_ldc2 (v := 757) dX8_digest_2 klX8_250 ?_
    refine go_callVj cvX8_252 os_0 (sp_mixedDishes hI h) (by omega) rfl rfl (Nat.le_of_ble_eq_true rfl) dX8_digest_5 (fun σ1 q1 => ?_)
    rw [q1]
    refine go_callVj cvX8_256 os_0 (sp_mixedGuests hI h) (by omega) rfl rfl (Nat.le_of_ble_eq_true rfl) dX8_digest_8 (fun σ2 q2 => ?_)
    refine go_lstore_n (L' := [_, _, _, _]) dX8_digest_11 rfl (by decide) rfl rfl ?_
    refine go_aload_n dX8_digest_12 rfl rfl ?_
    refine go_callVp cvX8_124 os_0 (sp_noCard q2.1.2.1.1) (by omega) rfl rfl (Nat.le_of_ble_eq_true rfl) dX8_digest_13 ?_
    refine go_if_ne (tgt := 62) dX8_digest_16 (by decide) (fun c16 => ?_) (fun c16 => ?_)
    · have e3 : foL (dgG X) (foL (fun d x => mixL (fun w => aDish X (nI d) (nI w)) x 4) 757 (pD (xP X))) (pG (xP X)) = dgs3 X := by unfold dgs3; rw [if_pos hd]; rfl
      rw [e3]
      exact at62 σ2 q2.1 q2.2.frc
    · exact absurd hd (by have := bI_eq0.mp c16; simpa using this)
  · have ef0 : aFewest X (nI 0) = fewV (xP X) 0 := by unfold aFewest; rw [ix_nI (by omega) (by omega)]; simp only [if_neg hd]
    have ef1 : aFewest X (nI 1) = fewV (xP X) 1 := by unfold aFewest; rw [ix_nI (by omega) (by omega)]; simp only [if_neg hd]
    have eft : aFits X (nI 0) = fitsM (xP X) (xE X) := by unfold aFits; rw [ix_nI (by omega) (by omega)]; simp only [if_neg hd]; rfl
    have eh : aHost X = hostM (xP X) := by unfold aHost; rw [if_neg hd]
    refine go_aload_n dX8_digest_0 rfl rfl ?_
    refine go_aload_n dX8_digest_1 rfl rfl ?_
    refine go_ldc2 (v := 757) dX8_digest_2 klX8_250 ?_
    refine go_callVj cvX8_252 os_0 (sp_mixedDishes hI h) (by omega) rfl rfl (Nat.le_of_ble_eq_true rfl) dX8_digest_5 (fun σ1 q1 => ?_)
    rw [q1]
    refine go_callVj cvX8_256 os_0 (sp_mixedGuests hI h) (by omega) rfl rfl (Nat.le_of_ble_eq_true rfl) dX8_digest_8 (fun σ2 q2 => ?_)
    refine go_lstore_n (L' := [_, _, _, _]) dX8_digest_11 rfl (by decide) rfl rfl ?_
    refine go_aload_n dX8_digest_12 rfl rfl ?_
    refine go_callVp cvX8_124 os_0 (sp_noCard q2.1.2.1.1) (by omega) rfl rfl (Nat.le_of_ble_eq_true rfl) dX8_digest_13 ?_
    refine go_if_ne (tgt := 62) dX8_digest_16 (by decide) (fun c16 => ?_) (fun c16 => ?_)
    · exact absurd (by have := bI_ne0.mp c16; simpa using this) hd
    · refine go_lload_n dX8_digest_19 rfl rfl ?_
      refine go_aload_n dX8_digest_20 rfl rfl ?_
      refine go_callVi cvX8_259 os_0 (sc_host hI q2.1) (by omega) rfl rfl (Nat.le_of_ble_eq_true rfl) dX8_digest_21 (fun σ3 q3 => ?_)
      rw [eh]
      refine go_i2l dX8_digest_24 ?_
      refine go_callSjp csX8_262 sp_mixed (by omega) rfl rfl (Nat.le_of_ble_eq_true rfl) dX8_digest_25 ?_
      refine go_lstore_n (L' := [_, _, _, _]) dX8_digest_28 rfl (by decide) rfl rfl ?_
      refine go_lload_n dX8_digest_29 rfl rfl ?_
      refine go_aload_n dX8_digest_30 rfl rfl ?_
      refine go_iconst (v := nI 0) dX8_digest_31 rfl ?_
      refine go_callVp cvX8_266 os_0 (sc_fewest hI q3.1) (by omega) rfl rfl (Nat.le_of_ble_eq_true rfl) dX8_digest_32 ?_
      rw [ef0]
      refine go_i2l dX8_digest_35 ?_
      refine go_callSjp csX8_262 sp_mixed (by omega) rfl rfl (Nat.le_of_ble_eq_true rfl) dX8_digest_36 ?_
      refine go_lstore_n (L' := [_, _, _, _]) dX8_digest_39 rfl (by decide) rfl rfl ?_
      refine go_lload_n dX8_digest_40 rfl rfl ?_
      refine go_aload_n dX8_digest_41 rfl rfl ?_
      refine go_iconst (v := nI 1) dX8_digest_42 rfl ?_
      refine go_callVp cvX8_266 os_0 (sc_fewest hI q3.1) (by omega) rfl rfl (Nat.le_of_ble_eq_true rfl) dX8_digest_43 ?_
      rw [ef1]
      refine go_i2l dX8_digest_46 ?_
      refine go_callSjp csX8_262 sp_mixed (by omega) rfl rfl (Nat.le_of_ble_eq_true rfl) dX8_digest_47 ?_
      refine go_lstore_n (L' := [_, _, _, _]) dX8_digest_50 rfl (by decide) rfl rfl ?_
      refine go_lload_n dX8_digest_51 rfl rfl ?_
      refine go_aload_n dX8_digest_52 rfl rfl ?_
      refine go_iconst (v := nI 0) dX8_digest_53 rfl ?_
      refine go_callVi cvX8_269 os_0 (sc_fits hI q3.1) (by omega) rfl rfl (Nat.le_of_ble_eq_true rfl) dX8_digest_54 (fun σ4 q4 => ?_)
      rw [eft]
      refine go_i2l dX8_digest_57 ?_
      refine go_callSjp csX8_262 sp_mixed (by omega) rfl rfl (Nat.le_of_ble_eq_true rfl) dX8_digest_58 ?_
      refine go_lstore_n (L' := [_, _, _, _]) dX8_digest_61 rfl (by decide) rfl rfl ?_
      rw [show _ + (fitsM (xP X) (xE X)).toInt64 = dgs3 X by unfold dgs3; rw [if_neg hd]; rfl]
      exact at62 σ4 q4.1 (q2.2.frc.trans (q3.2.frc.trans q4.2))
