/-! the class's public methods (3) -/
theorem OT.frc {σ σ' : Mm} (h : OT 18 σ σ') : FrC σ σ' := ⟨fun a q => h.1 a (by omega), fun a _ => by rw [h.2]⟩
theorem RC.table {σ σ' : Mm} {X : Xs} {N : Nat} {P' : Pb} {h' : Nat → Int32} (hI : XI N X) (h : RC σ X) (ho : OT 18 σ σ') (hP : PI σ P') (hl : pLo P' = pLo (xP X)) (hk : pKi P' = pKi (xP X)) (hg : pG P' = pG (xP X)) (hT : TI σ' 18 P' h') : RC σ' (P', xPg X, xPn X, h', X.2.2.2.2) := by
  obtain ⟨⟨a1, a2⟩, ⟨b1, b2, b3⟩, c, d, ⟨e1, e2⟩, f⟩ := h
  have hG := b1.2.1.2
  refine ⟨⟨by rw [ho.1 1 (by omega)]; exact a1, fun k hk => by rw [ho.1 2 (by omega)]; exact a2 k hk⟩, ⟨hP.ot isT18 ho, by rw [ho.1 3 (by omega)]; exact b2.trans hl.symm, fun g hg1 => ?_⟩, hT, ?_, ⟨by rw [ho.1 0 (by omega)]; exact e1, by rw [ho.1 0 (by omega)]; exact e2⟩, RK.eq (K := xK X) (c := xC X) (RC.k5 (σ := σ) (X := X) hI) f (fun a h1 h2 => ho.1 a (by omega))⟩
  · have hg2 : g < pG (xP X) := hg ▸ hg1
    rw [ho.1 _ (by omega)]
    show _ = pKi P' g
    rw [hk]
    exact b3 g hg2
  · show LI σ' 23 (pG P') (xE X)
    rw [hg]
    exact d.eq (fun a h1 h2 => ho.1 a (by omega))
set_option maxHeartbeats 2000000 in
theorem sc_urge {Γ : Gm} {σ : Mm} {X : Xs} {N : Nat} {a v : Int32} (hI : XI N X) (h : RC σ X) : Sp Γ 2 mX8_urge [rf Γ 0, .int a, .int v] σ (aI (aUrge X a v) (fun σ' => RC σ' (tUrge X a v) ∧ FrC σ σ')) := by
  refine sp_in (L := [some (rf Γ 0), some (.int a), some (.int v), none]) rfl (Nat.le_of_ble_eq_true rfl) rfl ?_
  have hP := h.2.1.1
  have hD := hP.1.2
  cases hi : ix (pD (xP X)) a with
  | none =>
    refine go_aload_n dX8_urge_0 rfl rfl ?_
    refine go_iload_n dX8_urge_1 rfl rfl ?_
    refine go_callVp cvX8_105 os_0 (sp_noDish hP) (by omega) rfl rfl (Nat.le_of_ble_eq_true rfl) dX8_urge_2 ?_
    rw [hi]
    refine go_if_eq (tgt := 11) dX8_urge_5 (by decide) (fun c5 => ?_) (fun c5 => ?_)
    · exact absurd c5 (by decide)
    · refine go_bipush (v := (-101)) dX8_urge_8 rfl ?_
      refine go_iret rfl dX8_urge_10 ?_
      exact ⟨by unfold aUrge; rw [hi], by unfold tUrge; rw [hi]; exact ⟨h, FrC.rf⟩⟩
  | some d =>
    refine go_aload_n dX8_urge_0 rfl rfl ?_
    refine go_iload_n dX8_urge_1 rfl rfl ?_
    refine go_callVp cvX8_105 os_0 (sp_noDish hP) (by omega) rfl rfl (Nat.le_of_ble_eq_true rfl) dX8_urge_2 ?_
    rw [hi]
    refine go_if_eq (tgt := 11) dX8_urge_5 (by decide) (fun c5 => ?_) (fun c5 => ?_)
    · refine go_iload_n dX8_urge_11 rfl rfl ?_
      refine go_iconst (v := nI 0) dX8_urge_12 rfl ?_
      refine go_bipush (v := nI 20) dX8_urge_13 rfl ?_
      refine go_callSp csX8_62 sp_isOutside (by omega) rfl rfl (Nat.le_of_ble_eq_true rfl) dX8_urge_15 ?_
      refine go_if_eq (tgt := 24) dX8_urge_18 (by decide) (fun c18 => ?_) (fun c18 => ?_)
      · have c18 : inR (nI 0) (nI 20) v = true := by have := bI_eq0.mp c18; simpa using this
        refine go_aload_n dX8_urge_24 rfl rfl ?_
        refine go_getR flX8_35 fs_0_3 dX8_urge_25 ?_
        refine go_getI flX8_118 fs_18_6 dX8_urge_28 ?_
        rw [h.2.2.1.1.1]
        refine go_istore_n (L' := [_, _, _, _]) dX8_urge_31 rfl (by decide) rfl rfl ?_
        refine go_aload_n dX8_urge_32 rfl rfl ?_
        refine go_getR flX8_35 fs_0_3 dX8_urge_33 ?_
        refine go_iload_n dX8_urge_36 rfl rfl ?_
        refine go_iload_n dX8_urge_37 rfl rfl ?_
        refine go_callVv cvX8_92 os_18 (sp_press isT18) (by omega) rfl rfl (Nat.le_of_ble_eq_true rfl) dX8_urge_38 (fun σ1 q1 => ?_)
        refine go_iload_n dX8_urge_41 rfl rfl ?_
        refine go_iret rfl dX8_urge_42 ?_
        have o : OT 18 σ σ1 := by rw [q1]; exact (OT.rf.st (by omega) (by omega)).st (by omega) (by omega)
        refine ⟨by unfold aUrge; rw [hi]; simp only [c18]; rfl, ?_, o.frc⟩
        unfold tUrge
        rw [hi]
        simp only [c18, if_true]
        exact h.table hI o (P' := setUr (xP X) (if v = 0 then -1 else a) v) hP rfl rfl rfl (by rw [q1]; exact h.2.2.1.setUr _ _)
      · have c18 : inR (nI 0) (nI 20) v = false := by have := bI_ne0.mp c18; simpa using this
        refine go_bipush (v := (-102)) dX8_urge_21 rfl ?_
        refine go_iret rfl dX8_urge_23 ?_
        exact ⟨by unfold aUrge; rw [hi]; simp only [c18]; rfl, by unfold tUrge; rw [hi]; simp only [c18]; exact ⟨h, FrC.rf⟩⟩
    · exact absurd rfl c5
theorem hO_1 {x : Int32} : hO x = nI 1 ↔ x ≠ -2 := by
  unfold hO
  split
  · rename_i q; exact ⟨fun z => absurd z (by decide), fun z => absurd q z⟩
  · rename_i q; exact ⟨fun _ => q, fun _ => rfl⟩
set_option maxHeartbeats 2000000 in
theorem sc_takes {Γ : Gm} {σ : Mm} {X : Xs} {N : Nat} {a : Int32} (hI : XI N X) (h : RC σ X) : Sp Γ 3 mX8_takes [rf Γ 0, .int a] σ (aP (aTakes X a) σ) := by
  refine sp_in (L := [some (rf Γ 0), some (.int a)]) rfl (Nat.le_of_ble_eq_true rfl) rfl ?_
  have hP := h.2.1.1
  have hG := hP.2.1.2
  cases hi : ix (pG (xP X)) a with
  | none =>
    refine go_aload_n dX8_takes_0 rfl rfl ?_
    refine go_iload_n dX8_takes_1 rfl rfl ?_
    refine go_callVp cvX8_136 os_0 (sp_noGuest hP) (by omega) rfl rfl (Nat.le_of_ble_eq_true rfl) dX8_takes_2 ?_
    rw [hi]
    refine go_if_eq (tgt := 11) dX8_takes_5 (by decide) (fun c5 => ?_) (fun c5 => ?_)
    · exact absurd c5 (by decide)
    · refine go_bipush (v := (-101)) dX8_takes_8 rfl ?_
      refine go_iret rfl dX8_takes_10 ?_
      exact ⟨by unfold aTakes; rw [hi], rfl⟩
  | some g =>
    obtain ⟨hg, rfl⟩ := ix_some (by omega) hi
    have hg5 : g < 5 := by omega
    refine go_aload_n dX8_takes_0 rfl rfl ?_
    refine go_iload_n dX8_takes_1 rfl rfl ?_
    refine go_callVp cvX8_136 os_0 (sp_noGuest hP) (by omega) rfl rfl (Nat.le_of_ble_eq_true rfl) dX8_takes_2 ?_
    rw [hi]
    refine go_if_eq (tgt := 11) dX8_takes_5 (by decide) (fun c5 => ?_) (fun c5 => ?_)
    · refine go_aload_n dX8_takes_11 rfl rfl ?_
      refine go_getR flX8_35 fs_0_3 dX8_takes_12 ?_
      refine go_getR flX8_148 fs_18_5 dX8_takes_15 ?_
      refine go_iload_n dX8_takes_18 rfl rfl ?_
      refine go_iald (g) rfl as_22 (by omega) (by decide) dX8_takes_19 ?_
      rw [(h.2.2.1.2.2 g hg5 (Or.inr hg)).2]
      refine go_iconst (v := nI 1) dX8_takes_20 rfl ?_
      refine go_icmp_ne (tgt := 27) dX8_takes_21 (by decide) (fun c21 => ?_) (fun c21 => ?_)
      · have c21 : xH X g = -2 := by by_cases z : xH X g = -2; exact z; exact absurd (hO_1.mpr z) c21
        refine go_aload_n dX8_takes_27 rfl rfl ?_
        refine go_getR flX8_35 fs_0_3 dX8_takes_28 ?_
        refine go_iload_n dX8_takes_31 rfl rfl ?_
        refine go_callVp cvX8_164 os_18 (sp_choice isT18 hg hP h.2.2.1 hI.2.1.1 c21) (by omega) rfl rfl (Nat.le_of_ble_eq_true rfl) dX8_takes_32 ?_
        refine go_iret rfl dX8_takes_35 ?_
        exact ⟨by unfold aTakes; rw [hi]; simp only [if_pos c21], rfl⟩
      · have c21 := hO_1.mp c21
        refine go_bipush (v := (-103)) dX8_takes_24 rfl ?_
        refine go_iret rfl dX8_takes_26 ?_
        exact ⟨by unfold aTakes; rw [hi]; simp only [if_neg c21], rfl⟩
    · exact absurd rfl c5
theorem m1_le_nI {d : Nat} (h : d < 2 ^ 31) : ¬ nI d < -1 := fun z => by
  have := Int32.lt_iff_toInt_lt.mp z
  rw [nI_toInt h] at this
  have e : ((-1 : Int32)).toInt = -1 := by decide
  omega
set_option maxHeartbeats 2000000 in
theorem sc_order {Γ : Gm} {σ : Mm} {X : Xs} {N : Nat} {a : Int32} (hI : XI N X) (h : RC σ X) : Sp Γ 4 mX8_order [rf Γ 0, .int a] σ (aI (aTakes X a) (fun σ' => RC σ' (tOrder X a) ∧ FrC σ σ')) := by
  refine sp_in (L := [some (rf Γ 0), some (.int a), none]) rfl (Nat.le_of_ble_eq_true rfl) rfl ?_
  have hP := h.2.1.1
  have hG := hP.2.1.2
  have hD := hP.1.2
  cases hi : ix (pG (xP X)) a with
  | none =>
    have ea : aTakes X a = -101 := by unfold aTakes; rw [hi]
    refine go_aload_n dX8_order_0 rfl rfl ?_
    refine go_iload_n dX8_order_1 rfl rfl ?_
    refine go_callVp cvX8_167 os_0 (sc_takes hI h) (by omega) rfl rfl (Nat.le_of_ble_eq_true rfl) dX8_order_2 ?_
    rw [ea]
    refine go_istore_n (L' := [_, _, _]) dX8_order_5 rfl (by decide) rfl rfl ?_
    refine go_iload_n dX8_order_6 rfl rfl ?_
    refine go_iconst (v := (-1)) dX8_order_7 rfl ?_
    refine go_icmp_lt (tgt := 20) dX8_order_8 (by decide) (fun c8 => ?_) (fun c8 => ?_)
    · refine go_iload_n dX8_order_20 rfl rfl ?_
      refine go_iret rfl dX8_order_21 ?_
      exact ⟨rfl, by unfold tOrder; rw [hi]; exact ⟨h, FrC.rf⟩⟩
    · exact absurd (by decide) c8
  | some g =>
    obtain ⟨hg, rfl⟩ := ix_some (by omega) hi
    by_cases hw : xH X g = -2
    · have ea : aTakes X (nI g) = bestM (xP X) (xH X) g := by unfold aTakes; rw [hi]; simp only [if_pos hw]
      have hx : bestM (xP X) (xH X) g = -1 ∨ ∃ d, d < pD (xP X) ∧ bestM (xP X) (xH X) g = nI d := by
        rcases best_range (P := xP X) (h := xH X) (g := g) with q | ⟨d, hd, -, q⟩
        · exact Or.inl q
        · exact Or.inr ⟨d, hd, q⟩
      refine go_aload_n dX8_order_0 rfl rfl ?_
      refine go_iload_n dX8_order_1 rfl rfl ?_
      refine go_callVp cvX8_167 os_0 (sc_takes hI h) (by omega) rfl rfl (Nat.le_of_ble_eq_true rfl) dX8_order_2 ?_
      rw [ea]
      refine go_istore_n (L' := [_, _, _]) dX8_order_5 rfl (by decide) rfl rfl ?_
      refine go_iload_n dX8_order_6 rfl rfl ?_
      refine go_iconst (v := (-1)) dX8_order_7 rfl ?_
      refine go_icmp_lt (tgt := 20) dX8_order_8 (by decide) (fun c8 => ?_) (fun c8 => ?_)
      · rcases hx with q | ⟨d, hd, q⟩ <;> rw [q] at c8
        · exact absurd c8 (by decide)
        · exact absurd c8 (m1_le_nI (by omega))
      · refine go_aload_n dX8_order_11 rfl rfl ?_
        refine go_getR flX8_35 fs_0_3 dX8_order_12 ?_
        refine go_iload_n dX8_order_15 rfl rfl ?_
        refine go_iload_n dX8_order_16 rfl rfl ?_
        refine go_callVv cvX8_170 os_18 (sp_give isT18 hg hG hD h.2.2.1 hw hx) (by omega) rfl rfl (Nat.le_of_ble_eq_true rfl) dX8_order_17 (fun σ1 q1 => ?_)
        refine go_iload_n dX8_order_20 rfl rfl ?_
        refine go_iret rfl dX8_order_21 ?_
        refine ⟨rfl, ?_, q1.2.frc⟩
        unfold tOrder
        rw [hi]
        simp only [if_pos hw]
        exact h.table hI q1.2 hP rfl rfl rfl q1.1
    · have ea : aTakes X (nI g) = -103 := by unfold aTakes; rw [hi]; simp only [if_neg hw]
      refine go_aload_n dX8_order_0 rfl rfl ?_
      refine go_iload_n dX8_order_1 rfl rfl ?_
      refine go_callVp cvX8_167 os_0 (sc_takes hI h) (by omega) rfl rfl (Nat.le_of_ble_eq_true rfl) dX8_order_2 ?_
      rw [ea]
      refine go_istore_n (L' := [_, _, _]) dX8_order_5 rfl (by decide) rfl rfl ?_
      refine go_iload_n dX8_order_6 rfl rfl ?_
      refine go_iconst (v := (-1)) dX8_order_7 rfl ?_
      refine go_icmp_lt (tgt := 20) dX8_order_8 (by decide) (fun c8 => ?_) (fun c8 => ?_)
      · refine go_iload_n dX8_order_20 rfl rfl ?_
        refine go_iret rfl dX8_order_21 ?_
        exact ⟨rfl, by unfold tOrder; rw [hi]; simp only [if_neg hw]; exact ⟨h, FrC.rf⟩⟩
      · exact absurd (by decide) c8
theorem Wiped.ti {σ σ' : Mm} {P : Pb} {h : Nat → Int32} (hw : Wiped 18 σ σ') (hP : PI σ P) (hT : TI σ 18 P h) : TI σ' 18 P (fun _ => -2) := by
  obtain ⟨w1, w2, w3, w4⟩ := hw
  have hD := hP.1.2
  refine ⟨by rw [w3, w3, w3]; exact hT.1, fun d hd => ?_, fun g hg _ => ?_⟩
  · rw [(w1 d (by omega)).1, (w1 d (by omega)).2, cnt_wait (by omega), (hP.2.2.1 d hd).1]
    exact ⟨by rw [show nI 0 = 0 from rfl, Int32.sub_zero], rfl⟩
  · rw [(w2 g hg).1, (w2 g hg).2]
    exact ⟨by show (-1 : Int32) = hC (-2); decide, by show (0 : Int32) = hO (-2); decide⟩
set_option maxHeartbeats 2000000 in
theorem sc_clear {Γ : Gm} {σ : Mm} {X : Xs} {N : Nat} (hI : XI N X) (h : RC σ X) : Sp Γ 2 mX8_clear [rf Γ 0] σ (aI (aClear X) (fun σ' => RC σ' (tClear X) ∧ FrC σ σ')) := by
  refine sp_in (L := [some (rf Γ 0), none]) rfl (Nat.le_of_ble_eq_true rfl) rfl ?_
  refine go_aload_n dX8_clear_0 rfl rfl ?_
  refine go_getR flX8_35 fs_0_3 dX8_clear_1 ?_
  refine go_callVp cvX8_173 os_18 (sp_howMany isT18 h.2.1.1 h.2.2.1) (by omega) rfl rfl (Nat.le_of_ble_eq_true rfl) dX8_clear_4 ?_
  refine go_istore_n (L' := [_, _]) dX8_clear_7 rfl (by decide) rfl rfl ?_
  refine go_aload_n dX8_clear_8 rfl rfl ?_
  refine go_getR flX8_35 fs_0_3 dX8_clear_9 ?_
  refine go_callVv cvX8_96 os_18 (sp_wipe isT18) (by omega) rfl rfl (Nat.le_of_ble_eq_true rfl) dX8_clear_12 (fun σ1 q1 => ?_)
  refine go_iload_n dX8_clear_15 rfl rfl ?_
  refine go_iret rfl dX8_clear_16 ?_
  exact ⟨rfl, h.table hI q1.2.2.2 h.2.1.1 rfl rfl rfl (q1.ti h.2.1.1 h.2.2.1), q1.2.2.2.frc⟩
set_option maxHeartbeats 2000000 in
theorem sc_inTurn {Γ : Gm} {σ : Mm} {X : Xs} {N : Nat} {a b : Int32} (hI : XI N X) (h : RC σ X) : Sp Γ 5 mX8_inTurn [rf Γ 0, .int a, .int b] σ (aI (aInTurn X a b) (fun σ' => RC σ' X ∧ FrC σ σ')) := by
  refine sp_in (L := [some (rf Γ 0), some (.int a), some (.int b)]) rfl (Nat.le_of_ble_eq_true rfl) rfl ?_
  have hP := h.2.1.1
  have hG := hP.2.1.2
  cases hi : ix (pG (xP X)) a with
  | none =>
    refine go_aload_n dX8_inTurn_0 rfl rfl ?_
    refine go_iload_n dX8_inTurn_1 rfl rfl ?_
    refine go_callVp cvX8_136 os_0 (sp_noGuest hP) (by omega) rfl rfl (Nat.le_of_ble_eq_true rfl) dX8_inTurn_2 ?_
    rw [hi]
    refine go_if_ne (tgt := 16) dX8_inTurn_5 (by decide) (fun c5 => ?_) (fun c5 => ?_)
    · refine go_bipush (v := (-101)) dX8_inTurn_16 rfl ?_
      refine go_iret rfl dX8_inTurn_18 ?_
      exact ⟨by unfold aInTurn; rw [hi], h, FrC.rf⟩
    · exact absurd c5 (by decide)
  | some f =>
    obtain ⟨hf, rfl⟩ := ix_some (by omega) hi
    cases hj : ix (pG (xP X)) b with
    | none =>
      refine go_aload_n dX8_inTurn_0 rfl rfl ?_
      refine go_iload_n dX8_inTurn_1 rfl rfl ?_
      refine go_callVp cvX8_136 os_0 (sp_noGuest hP) (by omega) rfl rfl (Nat.le_of_ble_eq_true rfl) dX8_inTurn_2 ?_
      rw [hi]
      refine go_if_ne (tgt := 16) dX8_inTurn_5 (by decide) (fun c5 => ?_) (fun c5 => ?_)
      · exact absurd rfl c5
      · refine go_aload_n dX8_inTurn_8 rfl rfl ?_
        refine go_iload_n dX8_inTurn_9 rfl rfl ?_
        refine go_callVp cvX8_136 os_0 (sp_noGuest hP) (by omega) rfl rfl (Nat.le_of_ble_eq_true rfl) dX8_inTurn_10 ?_
        rw [hj]
        refine go_if_eq (tgt := 19) dX8_inTurn_13 (by decide) (fun c13 => ?_) (fun c13 => ?_)
        · exact absurd c13 (by decide)
        · refine go_bipush (v := (-101)) dX8_inTurn_16 rfl ?_
          refine go_iret rfl dX8_inTurn_18 ?_
          exact ⟨by unfold aInTurn; rw [hi, hj], h, FrC.rf⟩
    | some g =>
      obtain ⟨hg, rfl⟩ := ix_some (by omega) hj
      refine go_aload_n dX8_inTurn_0 rfl rfl ?_
      refine go_iload_n dX8_inTurn_1 rfl rfl ?_
      refine go_callVp cvX8_136 os_0 (sp_noGuest hP) (by omega) rfl rfl (Nat.le_of_ble_eq_true rfl) dX8_inTurn_2 ?_
      rw [hi]
      refine go_if_ne (tgt := 16) dX8_inTurn_5 (by decide) (fun c5 => ?_) (fun c5 => ?_)
      · exact absurd rfl c5
      · refine go_aload_n dX8_inTurn_8 rfl rfl ?_
        refine go_iload_n dX8_inTurn_9 rfl rfl ?_
        refine go_callVp cvX8_136 os_0 (sp_noGuest hP) (by omega) rfl rfl (Nat.le_of_ble_eq_true rfl) dX8_inTurn_10 ?_
        rw [hj]
        refine go_if_eq (tgt := 19) dX8_inTurn_13 (by decide) (fun c13 => ?_) (fun c13 => ?_)
        · refine go_aload_n dX8_inTurn_19 rfl rfl ?_
          refine go_getR flX8_51 fs_0_5 dX8_inTurn_20 ?_
          refine go_iload_n dX8_inTurn_23 rfl rfl ?_
          refine go_iload_n dX8_inTurn_24 rfl rfl ?_
          refine go_callVi cvX8_176 os_27 (sp_dishInTurn (h.su hI) hI.2.1.1 hf hg) (by omega) rfl rfl (Nat.le_of_ble_eq_true rfl) dX8_inTurn_25 (fun σ1 q1 => ?_)
          refine go_iret rfl dX8_inTurn_28 ?_
          exact ⟨by unfold aInTurn; rw [hi, hj], h.of hI q1.of, q1.of.frc⟩
        · exact absurd rfl c13
theorem bfL_at {j : Nat → Int32} {b0 : Int32} : ∀ n : Nat, (bfL j b0 n = (b0, -1) ∧ ∀ k, k < n → ¬ -1 < j k) ∨ ∃ f, f < n ∧ bfL j b0 n = (nI f, j f)
  | 0 => Or.inl ⟨rfl, fun k h => absurd h (Nat.not_lt_zero k)⟩
  | n + 1 => by
    unfold bfL
    split
    · exact Or.inr ⟨n, by omega, rfl⟩
    · rename_i q
      rcases bfL_at (j := j) (b0 := b0) n with ⟨e, z⟩ | ⟨f, hf, e⟩
      · refine Or.inl ⟨e, fun k hk => ?_⟩
        by_cases y : k = n
        · subst y; rw [e] at q; exact q
        · exact z k (by omega)
      · exact Or.inr ⟨f, by omega, e⟩
theorem joyM_num {P : Pb} {h : Nat → Int32} {g : Nat} (hw : ∀ g d, g < pG P → d < pD P → ∃ k, k ≤ 9 ∧ pWa P g d = nI k) (hD : pD P ≤ 6) (hr : h g = -2 ∨ h g = -1 ∨ ∃ d, d < pD P ∧ h g = nI d) (hg : g < pG P) : ∃ k, k ≤ 9 ∧ joyM P h g = nI k := by
  unfold joyM
  rcases hr with e | e | ⟨d, hd, e⟩
  · rw [e, if_pos (by decide)]; exact ⟨0, by omega, rfl⟩
  · rw [e, if_pos (by decide)]; exact ⟨0, by omega, rfl⟩
  · rw [e, if_neg (nI_pos (by omega)), nI_clamp (by omega)]; exact hw g d hg hd
theorem sumN_num {f : Nat → Int32} : ∀ n : Nat, (∀ k, k < n → ∃ v, v ≤ 9 ∧ f k = nI v) → ∃ v, v ≤ 9 * n ∧ sumN f n = nI v
  | 0, _ => ⟨0, by omega, rfl⟩
  | n + 1, h => by
    obtain ⟨v, h1, h2⟩ := sumN_num n (fun k hk => h k (by omega))
    obtain ⟨w, h3, h4⟩ := h n (by omega)
    refine ⟨v + w, by omega, ?_⟩
    unfold sumN
    rw [h2, h4, nI_add]
theorem joyA_num {P : Pb} {h : Nat → Int32} (hw : ∀ g d, g < pG P → d < pD P → ∃ k, k ≤ 9 ∧ pWa P g d = nI k) (hD : pD P ≤ 6) (hG : pG P ≤ 5) (hr : Rok P h) : ∃ k, k ≤ 45 ∧ joyA P h = nI k := by
  obtain ⟨v, h1, h2⟩ := sumN_num (f := joyM P h) (pG P) (fun k hk => joyM_num hw hD (hr.1 k (by omega)) hk)
  exact ⟨v, by omega, h2⟩
theorem joyF_pos {P : Pb} {h : Nat → Int32} {E : Ev} {a : Int32} {f : Nat} (hI : DI P h E) (ha : a = -1 ∨ ∃ k, k < pG P ∧ a = nI k) (hf : f < pG P) : -1 < joyF P a f := by
  obtain ⟨-, hD, hG, -, -, hw, -⟩ := hI
  have m1 : ∀ v, v < 2 ^ 31 → (-1 : Int32) < nI v := fun v hv => by
    rw [Int32.lt_iff_toInt_lt, nI_toInt hv]
    have e : ((-1 : Int32)).toInt = -1 := by decide
    omega
  unfold joyF
  split
  · obtain ⟨v, h1, h2⟩ := joyA_num hw hD hG (lay_ok hf)
    rw [h2]; exact m1 v (by omega)
  · rename_i q
    obtain ⟨k, hk, e⟩ := ha.resolve_left q
    subst e
    rw [nI_clamp (by omega)]
    obtain ⟨v, h1, h2⟩ := joyM_num hw hD ((lay_ok hf).1 k (by omega)) hk
    rw [h2]; exact m1 v (by omega)
set_option maxHeartbeats 2000000 in
theorem sc_begin {Γ : Gm} {σ : Mm} {X : Xs} {N : Nat} {a b : Int32} (hI : XI N X) (h : RC σ X) : Sp Γ 6 mX8_begin [rf Γ 0, .int a, .int b] σ (aI (aBegin X a b) (fun σ' => RC σ' X ∧ FrC σ σ')) := by
  refine sp_in (L := [some (rf Γ 0), some (.int a), some (.int b), none]) rfl (Nat.le_of_ble_eq_true rfl) rfl ?_
  have hP := h.2.1.1
  have hG := hP.2.1.2
  have at16 : (a = -1 ∨ ∃ k, k < pG (xP X) ∧ a = nI k) → ¬ (a ≠ -1 ∧ ix (pG (xP X)) a = none) → Go Γ 6 mX8_begin (aI (aBegin X a b) (fun σ' => RC σ' X ∧ FrC σ σ')) 16 [some (rf Γ 0), some (.int a), some (.int b), none] [] σ := by
    intro ha hn
    have e0 : aBegin X a b = match ix 2 b with
      | none => -102
      | some w => if pG (xP X) = 0 then -103 else if w = 0 then (bfL (joyF (xP X) a) 0 (pG (xP X))).1 else (bfL (joyF (xP X) a) 0 (pG (xP X))).2 := by
      unfold aBegin; rw [if_neg hn]; cases ix 2 b <;> rfl
    have hbx := inR_ix (k := 1) (a := b) (by omega)
    cases hb : ix 2 b with
    | none =>
      rw [hb] at hbx e0
      refine go_iload_n dX8_begin_16 rfl rfl ?_
      refine go_iconst (v := nI 0) dX8_begin_17 rfl ?_
      refine go_iconst (v := nI 1) dX8_begin_18 rfl ?_
      refine go_callSp csX8_62 sp_isOutside (by omega) rfl rfl (Nat.le_of_ble_eq_true rfl) dX8_begin_19 ?_
      rw [hbx]
      refine go_if_eq (tgt := 28) dX8_begin_22 (by decide) (fun c22 => ?_) (fun c22 => ?_)
      · exact absurd c22 (by decide)
      · refine go_bipush (v := (-102)) dX8_begin_25 rfl ?_
        refine go_iret rfl dX8_begin_27 ?_
        exact ⟨by rw [e0], h, FrC.rf⟩
    | some w =>
      obtain ⟨hw, rfl⟩ := ix_some (by omega) hb
      rw [hb] at hbx e0
      by_cases h0 : pG (xP X) = 0
      · have hs : σ.1 6 1 = nI 0 := by rw [hP.2.1.1, h0]
        refine go_iload_n dX8_begin_16 rfl rfl ?_
        refine go_iconst (v := nI 0) dX8_begin_17 rfl ?_
        refine go_iconst (v := nI 1) dX8_begin_18 rfl ?_
        refine go_callSp csX8_62 sp_isOutside (by omega) rfl rfl (Nat.le_of_ble_eq_true rfl) dX8_begin_19 ?_
        rw [hbx]
        refine go_if_eq (tgt := 28) dX8_begin_22 (by decide) (fun c22 => ?_) (fun c22 => ?_)
        · refine go_aload_n dX8_begin_28 rfl rfl ?_
          refine go_getR flX8_26 fs_0_2 dX8_begin_29 ?_
          refine go_getI flX8_86 fs_6_1 dX8_begin_32 ?_
          rw [hs]
          refine go_if_ne (tgt := 41) dX8_begin_35 (by decide) (fun c35 => ?_) (fun c35 => ?_)
          · exact absurd rfl c35
          · refine go_bipush (v := (-103)) dX8_begin_38 rfl ?_
            refine go_iret rfl dX8_begin_40 ?_
            exact ⟨by rw [e0]; simp only [if_pos h0], h, FrC.rf⟩
        · exact absurd rfl c22
      · have hs : σ.1 6 1 = nI (pG (xP X)) := hP.2.1.1
        obtain ⟨f, hf, ef⟩ : ∃ f, f < pG (xP X) ∧ bfL (joyF (xP X) a) 0 (pG (xP X)) = (nI f, joyF (xP X) a f) := by
          rcases bfL_at (j := joyF (xP X) a) (b0 := 0) (pG (xP X)) with ⟨-, z⟩ | z
          · exact absurd (joyF_pos hI.2.1 ha (by omega)) (z 0 (by omega))
          · exact z
        refine go_iload_n dX8_begin_16 rfl rfl ?_
        refine go_iconst (v := nI 0) dX8_begin_17 rfl ?_
        refine go_iconst (v := nI 1) dX8_begin_18 rfl ?_
        refine go_callSp csX8_62 sp_isOutside (by omega) rfl rfl (Nat.le_of_ble_eq_true rfl) dX8_begin_19 ?_
        rw [hbx]
        refine go_if_eq (tgt := 28) dX8_begin_22 (by decide) (fun c22 => ?_) (fun c22 => ?_)
        · refine go_aload_n dX8_begin_28 rfl rfl ?_
          refine go_getR flX8_26 fs_0_2 dX8_begin_29 ?_
          refine go_getI flX8_86 fs_6_1 dX8_begin_32 ?_
          rw [hs]
          refine go_if_ne (tgt := 41) dX8_begin_35 (by decide) (fun c35 => ?_) (fun c35 => ?_)
          · refine go_aload_n dX8_begin_41 rfl rfl ?_
            refine go_getR flX8_51 fs_0_5 dX8_begin_42 ?_
            refine go_iload_n dX8_begin_45 rfl rfl ?_
            refine go_callVi cvX8_180 os_27 (sp_bestFirst (h.su hI) hI.2.1.1 ha) (by omega) rfl rfl (Nat.le_of_ble_eq_true rfl) dX8_begin_46 (fun σ1 q1 => ?_)
            rw [ef]
            refine go_istore_n (L' := [_, _, _, _]) dX8_begin_49 rfl (by decide) rfl rfl ?_
            refine go_iload_n dX8_begin_50 rfl rfl ?_
            refine go_if_ne (tgt := 58) dX8_begin_51 (by decide) (fun c51 => ?_) (fun c51 => ?_)
            · refine go_aload_n dX8_begin_58 rfl rfl ?_
              refine go_getR flX8_51 fs_0_5 dX8_begin_59 ?_
              refine go_iload_n dX8_begin_62 rfl rfl ?_
              refine go_iload_n dX8_begin_63 rfl rfl ?_
              refine go_callVi cvX8_183 os_27 (sp_joyFrom ((h.su hI).ot q1) hI.2.1.1 hf ha) (by omega) rfl rfl (Nat.le_of_ble_eq_true rfl) dX8_begin_64 (fun σ2 q2 => ?_)
              refine go_iret rfl dX8_begin_67 ?_
              have hw0 : ¬ w = 0 := fun z => c51 (by rw [z]; rfl)
              exact ⟨by rw [e0]; simp only [if_neg h0, if_neg hw0, ef], h.of hI (q1.of.trans q2.of), (q1.of.trans q2.of).frc⟩
            · refine go_iload_n dX8_begin_54 rfl rfl ?_
              refine go_goto (tgt := 67) dX8_begin_55 (by decide) ?_
              refine go_iret rfl dX8_begin_67 ?_
              have hw0 : w = 0 := (nI_z (by omega)).mp c51
              exact ⟨by rw [e0]; simp only [if_neg h0, if_pos hw0, ef], h.of hI q1.of, q1.of.frc⟩
          · exact absurd ((nI_z (by omega)).mp c35) h0
        · exact absurd rfl c22
  refine go_iload_n dX8_begin_0 rfl rfl ?_
  refine go_iconst (v := (-1)) dX8_begin_1 rfl ?_
  refine go_icmp_eq (tgt := 16) dX8_begin_2 (by decide) (fun c2 => ?_) (fun c2 => ?_)
  · exact at16 (Or.inl c2) (fun z => z.1 c2)
  · refine go_aload_n dX8_begin_5 rfl rfl ?_
    refine go_iload_n dX8_begin_6 rfl rfl ?_
    refine go_callVp cvX8_136 os_0 (sp_noGuest hP) (by omega) rfl rfl (Nat.le_of_ble_eq_true rfl) dX8_begin_7 ?_
    refine go_if_eq (tgt := 16) dX8_begin_10 (by decide) (fun c10 => ?_) (fun c10 => ?_)
    · have c10 := bI_eq0.mp c10
      cases hi : ix (pG (xP X)) a with
      | none => rw [hi] at c10; cases c10
      | some k => exact at16 (Or.inr ⟨k, ix_some (by omega) hi⟩) (fun z => by rw [hi] at z; cases z.2)
    · refine go_bipush (v := (-101)) dX8_begin_13 rfl ?_
      refine go_iret rfl dX8_begin_15 ?_
      have c10 := bI_ne0.mp c10
      have hn : ix (pG (xP X)) a = none := by cases hi : ix (pG (xP X)) a with
        | none => rfl
        | some k => rw [hi] at c10; cases c10
      exact ⟨by unfold aBegin; rw [if_pos ⟨c2, hn⟩], h, FrC.rf⟩
theorem RC.main {σ σ' : Mm} {X : Xs} {N n : Nat} (hI : XI N X) (h : RC σ X) (ho : ∀ a, a ≠ 0 → σ'.1 a = σ.1 a) (h7 : σ'.1 0 7 = nI (xC X)) (h8 : σ'.1 0 8 = nI n) : RC σ' (setA X n) := by
  obtain ⟨⟨a1, a2⟩, ⟨b1, b2, b3⟩, c, d, -, f⟩ := h
  exact ⟨⟨by rw [ho 1 (by omega)]; exact a1, fun k hk => by rw [ho 2 (by omega)]; exact a2 k hk⟩, ⟨b1.eq (fun a h1 h2 => ho a (by omega)), by rw [ho 3 (by omega)]; exact b2, fun g hg => by rw [ho _ (by omega)]; exact b3 g hg⟩, c.eq (fun a h1 h2 => ho a (by omega)), d.eq (fun a h1 h2 => ho a (by omega)), ⟨h7, h8⟩, RK.eq (K := xK X) (c := xC X) (RC.k5 (σ := σ) (X := X) hI) f (fun a h1 h2 => ho a (by omega))⟩
set_option maxHeartbeats 2000000 in
theorem sc_atOnce {Γ : Gm} {σ : Mm} {X : Xs} {N : Nat} {a : Int32} (hI : XI N X) (h : RC σ X) : Sp Γ 10 mX8_atOnce [rf Γ 0, .int a] σ (aI (aAtOnce X a) (fun σ' => RC σ' (tAtOnce X a) ∧ FrC σ σ')) := by
  refine sp_in (L := [some (rf Γ 0), some (.int a)]) rfl (Nat.le_of_ble_eq_true rfl) rfl ?_
  have hP := h.2.1.1
  have hbx := inR_ix (k := 1) (a := a) (by omega)
  have hA := hI.2.2.2.2.1
  cases hb : ix 2 a with
  | none =>
    rw [hb] at hbx
    refine go_iload_n dX8_atOnce_0 rfl rfl ?_
    refine go_iconst (v := nI 0) dX8_atOnce_1 rfl ?_
    refine go_iconst (v := nI 1) dX8_atOnce_2 rfl ?_
    refine go_callSp csX8_62 sp_isOutside (by omega) rfl rfl (Nat.le_of_ble_eq_true rfl) dX8_atOnce_3 ?_
    rw [hbx]
    refine go_if_eq (tgt := 12) dX8_atOnce_6 (by decide) (fun c6 => ?_) (fun c6 => ?_)
    · exact absurd c6 (by decide)
    · refine go_bipush (v := (-102)) dX8_atOnce_9 rfl ?_
      refine go_iret rfl dX8_atOnce_11 ?_
      exact ⟨by unfold aAtOnce; rw [hb], by unfold tAtOnce; rw [hb]; exact ⟨h, FrC.rf⟩⟩
  | some w =>
    obtain ⟨hw, rfl⟩ := ix_some (by omega) hb
    rw [hb] at hbx
    have no : (pD (xP X) = 0 ∨ 20 ≤ xA X) → aI (aAtOnce X (nI w)) (fun σ' => RC σ' (tAtOnce X (nI w)) ∧ FrC σ σ') (some (.int (-103))) σ := fun q => ⟨by unfold aAtOnce; rw [hb]; simp only [if_pos q], by unfold tAtOnce; rw [hb]; simp only [if_pos q]; exact ⟨h, FrC.rf⟩⟩
    refine go_iload_n dX8_atOnce_0 rfl rfl ?_
    refine go_iconst (v := nI 0) dX8_atOnce_1 rfl ?_
    refine go_iconst (v := nI 1) dX8_atOnce_2 rfl ?_
    refine go_callSp csX8_62 sp_isOutside (by omega) rfl rfl (Nat.le_of_ble_eq_true rfl) dX8_atOnce_3 ?_
    rw [hbx]
    refine go_if_eq (tgt := 12) dX8_atOnce_6 (by decide) (fun c6 => ?_) (fun c6 => ?_)
    · refine go_aload_n dX8_atOnce_12 rfl rfl ?_
      refine go_callVp cvX8_124 os_0 (sp_noCard hP) (by omega) rfl rfl (Nat.le_of_ble_eq_true rfl) dX8_atOnce_13 ?_
      refine go_if_ne (tgt := 28) dX8_atOnce_16 (by decide) (fun c16 => ?_) (fun c16 => ?_)
      · refine go_bipush (v := (-103)) dX8_atOnce_28 rfl ?_
        refine go_iret rfl dX8_atOnce_30 ?_
        exact no (Or.inl (by have := bI_ne0.mp c16; simpa using this))
      · refine go_aload_n dX8_atOnce_19 rfl rfl ?_
        refine go_getI flX8_186 fs_0_8 dX8_atOnce_20 ?_
        rw [h.2.2.2.2.1.2]
        refine go_bipush (v := nI 20) dX8_atOnce_23 rfl ?_
        refine go_icmp_lt (tgt := 31) dX8_atOnce_25 (by decide) (fun c25 => ?_) (fun c25 => ?_)
        · rw [nI_ltI (by omega) (by omega)] at c25
          have hI2 : XI N (setA X (xA X + 1)) := ⟨hI.1, hI.2.1, hI.2.2.1, hI.2.2.2.1, by show xA X + 1 ≤ 20; omega, hI.2.2.2.2.2.1, hI.2.2.2.2.2.2⟩
          refine go_aload_n dX8_atOnce_31 rfl rfl ?_
          refine go_dup dX8_atOnce_32 rfl ?_
          refine go_getI flX8_186 fs_0_8 dX8_atOnce_33 ?_
          rw [h.2.2.2.2.1.2]
          refine go_iconst (v := nI 1) dX8_atOnce_36 rfl ?_
          refine go_iadd dX8_atOnce_37 ?_
          rw [nI_add]
          refine go_putI fwX8_186 fs_0_8 dX8_atOnce_38 ?_
          refine go_aload_n dX8_atOnce_41 rfl rfl ?_
          refine go_getR flX8_51 fs_0_5 dX8_atOnce_42 ?_
          refine go_callVv cvX8_189 os_27 (sp_seekContent ((h.main (n := xA X + 1) hI (fun x hx => funext fun y => stI_ne (Or.inl hx)) (by rw [stI_ne (by omega)]; exact h.2.2.2.2.1.1) stI_at).su hI2) hI.2.1.1) (by omega) rfl rfl (Nat.le_of_ble_eq_true rfl) dX8_atOnce_45 (fun σ1 q1 => ?_)
          refine go_iload_n dX8_atOnce_48 rfl rfl ?_
          refine go_if_ne (tgt := 62) dX8_atOnce_49 (by decide) (fun c49 => ?_) (fun c49 => ?_)
          · refine go_aload_n dX8_atOnce_62 rfl rfl ?_
            refine go_getR flX8_51 fs_0_5 dX8_atOnce_63 ?_
            refine go_getI flX8_195 fs_27_8 dX8_atOnce_66 ?_
            refine go_iret rfl dX8_atOnce_69 ?_
            have hr := h.main (n := xA X + 1) hI (σ' := stI σ 0 8 (nI (xA X + 1))) (fun x hx => funext fun y => stI_ne (Or.inl hx)) (by rw [stI_ne (by omega)]; exact h.2.2.2.2.1.1) stI_at
            have q : ¬ (pD (xP X) = 0 ∨ 20 ≤ xA X) := by rintro (z | z); have := bI_eq0.mp c16; simp [z] at this; omega
            have hw0 : ¬ w = 0 := fun z => c49 (by rw [z]; rfl)
            refine ⟨?_, ?_, (FrC.rf.st (by omega)).trans q1.2.frc⟩
            · unfold aAtOnce; rw [hb]; simp only [if_neg q, if_neg hw0]
              exact congrArg (fun z : Ac => some (Value.int z.2)) q1.1
            · unfold tAtOnce; rw [hb]; simp only [if_neg q]; exact hr.of hI2 q1.2
          · refine go_aload_n dX8_atOnce_52 rfl rfl ?_
            refine go_getR flX8_51 fs_0_5 dX8_atOnce_53 ?_
            refine go_getI flX8_192 fs_27_7 dX8_atOnce_56 ?_
            refine go_goto (tgt := 69) dX8_atOnce_59 (by decide) ?_
            refine go_iret rfl dX8_atOnce_69 ?_
            have hr := h.main (n := xA X + 1) hI (σ' := stI σ 0 8 (nI (xA X + 1))) (fun x hx => funext fun y => stI_ne (Or.inl hx)) (by rw [stI_ne (by omega)]; exact h.2.2.2.2.1.1) stI_at
            have q : ¬ (pD (xP X) = 0 ∨ 20 ≤ xA X) := by rintro (z | z); have := bI_eq0.mp c16; simp [z] at this; omega
            have hw0 : w = 0 := (nI_z (by omega)).mp c49
            refine ⟨?_, ?_, (FrC.rf.st (by omega)).trans q1.2.frc⟩
            · unfold aAtOnce; rw [hb]; simp only [if_neg q, if_pos hw0]
              exact congrArg (fun z : Ac => some (Value.int z.1)) q1.1
            · unfold tAtOnce; rw [hb]; simp only [if_neg q]; exact hr.of hI2 q1.2
        · rw [nI_ltI (by omega) (by omega)] at c25
          refine go_bipush (v := (-103)) dX8_atOnce_28 rfl ?_
          refine go_iret rfl dX8_atOnce_30 ?_
          exact no (Or.inr (by omega))
    · exact absurd rfl c6
set_option maxHeartbeats 2000000 in
theorem sc_minds {Γ : Gm} {σ : Mm} {X : Xs} {N : Nat} {a : Int32} (hI : XI N X) (h : RC σ X) : Sp Γ 6 mX8_minds [rf Γ 0, .int a] σ (aI (aMinds X a) (fun σ' => RC σ' X ∧ OF σ σ')) := by
  refine sp_in (L := [some (rf Γ 0), some (.int a)]) rfl (Nat.le_of_ble_eq_true rfl) rfl ?_
  have hP := h.2.1.1
  have hG := hP.2.1.2
  cases hi : ix (pG (xP X)) a with
  | none =>
    refine go_aload_n dX8_minds_0 rfl rfl ?_
    refine go_iload_n dX8_minds_1 rfl rfl ?_
    refine go_callVp cvX8_136 os_0 (sp_noGuest hP) (by omega) rfl rfl (Nat.le_of_ble_eq_true rfl) dX8_minds_2 ?_
    rw [hi]
    refine go_if_eq (tgt := 11) dX8_minds_5 (by decide) (fun c5 => ?_) (fun c5 => ?_)
    · exact absurd c5 (by decide)
    · refine go_bipush (v := (-101)) dX8_minds_8 rfl ?_
      refine go_iret rfl dX8_minds_10 ?_
      exact ⟨by unfold aMinds; rw [hi], h, OF.rf⟩
  | some f =>
    obtain ⟨hf, rfl⟩ := ix_some (by omega) hi
    refine go_aload_n dX8_minds_0 rfl rfl ?_
    refine go_iload_n dX8_minds_1 rfl rfl ?_
    refine go_callVp cvX8_136 os_0 (sp_noGuest hP) (by omega) rfl rfl (Nat.le_of_ble_eq_true rfl) dX8_minds_2 ?_
    rw [hi]
    refine go_if_eq (tgt := 11) dX8_minds_5 (by decide) (fun c5 => ?_) (fun c5 => ?_)
    · refine go_aload_n dX8_minds_11 rfl rfl ?_
      refine go_getR flX8_51 fs_0_5 dX8_minds_12 ?_
      refine go_iload_n dX8_minds_15 rfl rfl ?_
      refine go_callVi cvX8_198 os_27 (sp_rounds (h.su hI) hI.2.1.1 hf) (by omega) rfl rfl (Nat.le_of_ble_eq_true rfl) dX8_minds_16 (fun σ1 q1 => ?_)
      refine go_iret rfl dX8_minds_19 ?_
      exact ⟨by unfold aMinds; rw [hi], h.of hI q1.of, q1.of⟩
    · exact absurd rfl c5
set_option maxHeartbeats 2000000 in
theorem sc_host {Γ : Gm} {σ : Mm} {X : Xs} {N : Nat} (hI : XI N X) (h : RC σ X) : Sp Γ 4 mX8_host [rf Γ 0] σ (aI (aHost X) (fun σ' => RC σ' X ∧ OF σ σ')) := by
  refine sp_in (L := [some (rf Γ 0)]) rfl (Nat.le_of_ble_eq_true rfl) rfl ?_
  have hP := h.2.1.1
  refine go_aload_n dX8_host_0 rfl rfl ?_
  refine go_callVp cvX8_124 os_0 (sp_noCard hP) (by omega) rfl rfl (Nat.le_of_ble_eq_true rfl) dX8_host_1 ?_
  refine go_if_eq (tgt := 10) dX8_host_4 (by decide) (fun c4 => ?_) (fun c4 => ?_)
  · refine go_aload_n dX8_host_10 rfl rfl ?_
    refine go_getR flX8_51 fs_0_5 dX8_host_11 ?_
    refine go_callVi cvX8_201 os_27 (sp_mostGiven hP) (by omega) rfl rfl (Nat.le_of_ble_eq_true rfl) dX8_host_14 (fun σ1 q1 => ?_)
    refine go_iret rfl dX8_host_17 ?_
    exact ⟨by unfold aHost; rw [if_neg (by have := bI_eq0.mp c4; simpa using this)]; rfl, h.of hI q1.of, q1.of⟩
  · refine go_bipush (v := (-103)) dX8_host_7 rfl ?_
    refine go_iret rfl dX8_host_9 ?_
    exact ⟨by unfold aHost; rw [if_pos (by have := bI_ne0.mp c4; simpa using this)], h, OF.rf⟩
set_option maxHeartbeats 2000000 in
theorem sc_fewest {Γ : Gm} {σ : Mm} {X : Xs} {N : Nat} {a : Int32} (hI : XI N X) (h : RC σ X) : Sp Γ 3 mX8_fewest [rf Γ 0, .int a] σ (aP (aFewest X a) σ) := by
  refine sp_in (L := [some (rf Γ 0), some (.int a), none]) rfl (Nat.le_of_ble_eq_true rfl) rfl ?_
  have hP := h.2.1.1
  have hD := hP.1.2
  have hbx := inR_ix (k := 1) (a := a) (by omega)
  have h64 := pw_le hD
  cases hb : ix 2 a with
  | none =>
    rw [hb] at hbx
    refine go_iload_n dX8_fewest_0 rfl rfl ?_
    refine go_iconst (v := nI 0) dX8_fewest_1 rfl ?_
    refine go_iconst (v := nI 1) dX8_fewest_2 rfl ?_
    refine go_callSp csX8_62 sp_isOutside (by omega) rfl rfl (Nat.le_of_ble_eq_true rfl) dX8_fewest_3 ?_
    rw [hbx]
    refine go_if_eq (tgt := 12) dX8_fewest_6 (by decide) (fun c6 => ?_) (fun c6 => ?_)
    · exact absurd c6 (by decide)
    · refine go_bipush (v := (-102)) dX8_fewest_9 rfl ?_
      refine go_iret rfl dX8_fewest_11 ?_
      exact ⟨by unfold aFewest; rw [hb], rfl⟩
  | some w =>
    obtain ⟨hw, rfl⟩ := ix_some (by omega) hb
    rw [hb] at hbx
    cases hfw : fewM (xP X) with
    | none =>
      refine go_iload_n dX8_fewest_0 rfl rfl ?_
      refine go_iconst (v := nI 0) dX8_fewest_1 rfl ?_
      refine go_iconst (v := nI 1) dX8_fewest_2 rfl ?_
      refine go_callSp csX8_62 sp_isOutside (by omega) rfl rfl (Nat.le_of_ble_eq_true rfl) dX8_fewest_3 ?_
      rw [hbx]
      refine go_if_eq (tgt := 12) dX8_fewest_6 (by decide) (fun c6 => ?_) (fun c6 => ?_)
      · refine go_aload_n dX8_fewest_12 rfl rfl ?_
        refine go_callVp cvX8_124 os_0 (sp_noCard hP) (by omega) rfl rfl (Nat.le_of_ble_eq_true rfl) dX8_fewest_13 ?_
        refine go_if_eq (tgt := 22) dX8_fewest_16 (by decide) (fun c16 => ?_) (fun c16 => ?_)
        · refine go_aload_n dX8_fewest_22 rfl rfl ?_
          refine go_getR flX8_51 fs_0_5 dX8_fewest_23 ?_
          refine go_callVp cvX8_204 os_27 (sp_fewestBits hP) (by omega) rfl rfl (Nat.le_of_ble_eq_true rfl) dX8_fewest_26 ?_
          rw [hfw]
          refine go_istore_n (L' := [_, _, _]) dX8_fewest_29 rfl (by decide) rfl rfl ?_
          refine go_iload_n dX8_fewest_30 rfl rfl ?_
          refine go_iconst (v := nI 1) dX8_fewest_31 rfl ?_
          refine go_icmp_eq (tgt := 40) dX8_fewest_32 (by decide) (fun c32 => ?_) (fun c32 => ?_)
          · refine go_iload_n dX8_fewest_40 rfl rfl ?_
            refine go_goto (tgt := 48) dX8_fewest_41 (by decide) ?_
            refine go_iret rfl dX8_fewest_48 ?_
            exact ⟨by unfold aFewest fewV; rw [hb]; simp only [if_neg (show ¬ pD (xP X) = 0 by have := bI_eq0.mp c16; simpa using this), hfw]; rfl, rfl⟩
          · refine go_iload_n dX8_fewest_35 rfl rfl ?_
            refine go_iconst (v := (-1)) dX8_fewest_36 rfl ?_
            refine go_icmp_ne (tgt := 44) dX8_fewest_37 (by decide) (fun c37 => ?_) (fun c37 => ?_)
            · exact absurd rfl c37
            · refine go_iload_n dX8_fewest_40 rfl rfl ?_
              refine go_goto (tgt := 48) dX8_fewest_41 (by decide) ?_
              refine go_iret rfl dX8_fewest_48 ?_
              exact ⟨by unfold aFewest fewV; rw [hb]; simp only [if_neg (show ¬ pD (xP X) = 0 by have := bI_eq0.mp c16; simpa using this), hfw]; rfl, rfl⟩
        · refine go_bipush (v := (-103)) dX8_fewest_19 rfl ?_
          refine go_iret rfl dX8_fewest_21 ?_
          exact ⟨by unfold aFewest; rw [hb]; simp only [if_pos (show pD (xP X) = 0 by have := bI_ne0.mp c16; simpa using this)], rfl⟩
      · exact absurd rfl c6
    | some k =>
      have hk := fwN_lt _ k hfw
      refine go_iload_n dX8_fewest_0 rfl rfl ?_
      refine go_iconst (v := nI 0) dX8_fewest_1 rfl ?_
      refine go_iconst (v := nI 1) dX8_fewest_2 rfl ?_
      refine go_callSp csX8_62 sp_isOutside (by omega) rfl rfl (Nat.le_of_ble_eq_true rfl) dX8_fewest_3 ?_
      rw [hbx]
      refine go_if_eq (tgt := 12) dX8_fewest_6 (by decide) (fun c6 => ?_) (fun c6 => ?_)
      · refine go_aload_n dX8_fewest_12 rfl rfl ?_
        refine go_callVp cvX8_124 os_0 (sp_noCard hP) (by omega) rfl rfl (Nat.le_of_ble_eq_true rfl) dX8_fewest_13 ?_
        refine go_if_eq (tgt := 22) dX8_fewest_16 (by decide) (fun c16 => ?_) (fun c16 => ?_)
        · refine go_aload_n dX8_fewest_22 rfl rfl ?_
          refine go_getR flX8_51 fs_0_5 dX8_fewest_23 ?_
          refine go_callVp cvX8_204 os_27 (sp_fewestBits hP) (by omega) rfl rfl (Nat.le_of_ble_eq_true rfl) dX8_fewest_26 ?_
          rw [hfw]
          refine go_istore_n (L' := [_, _, _]) dX8_fewest_29 rfl (by decide) rfl rfl ?_
          refine go_iload_n dX8_fewest_30 rfl rfl ?_
          refine go_iconst (v := nI 1) dX8_fewest_31 rfl ?_
          refine go_icmp_eq (tgt := 40) dX8_fewest_32 (by decide) (fun c32 => ?_) (fun c32 => ?_)
          · refine go_iload_n dX8_fewest_40 rfl rfl ?_
            refine go_goto (tgt := 48) dX8_fewest_41 (by decide) ?_
            refine go_iret rfl dX8_fewest_48 ?_
            exact ⟨by unfold aFewest fewV; rw [hb]; simp only [if_neg (show ¬ pD (xP X) = 0 by have := bI_eq0.mp c16; simpa using this), hfw, if_pos (show w = 1 from (nI_eq (by omega) (by omega)).mp c32)]; rfl, rfl⟩
          · refine go_iload_n dX8_fewest_35 rfl rfl ?_
            refine go_iconst (v := (-1)) dX8_fewest_36 rfl ?_
            refine go_icmp_ne (tgt := 44) dX8_fewest_37 (by decide) (fun c37 => ?_) (fun c37 => ?_)
            · refine go_iload_n dX8_fewest_44 rfl rfl ?_
              refine go_callSp csX8_207 (sp_bitCount (show k < 64 by omega)) (by omega) rfl rfl (Nat.le_of_ble_eq_true rfl) dX8_fewest_45 ?_
              refine go_iret rfl dX8_fewest_48 ?_
              exact ⟨by unfold aFewest fewV; rw [hb]; simp only [if_neg (show ¬ pD (xP X) = 0 by have := bI_eq0.mp c16; simpa using this), hfw, if_neg (show ¬ w = 1 from fun z => c32 (by rw [z]))], rfl⟩
            · exact absurd c37 (nI_neg1 (by omega))
        · refine go_bipush (v := (-103)) dX8_fewest_19 rfl ?_
          refine go_iret rfl dX8_fewest_21 ?_
          exact ⟨by unfold aFewest; rw [hb]; simp only [if_pos (show pD (xP X) = 0 by have := bI_ne0.mp c16; simpa using this)], rfl⟩
      · exact absurd rfl c6
