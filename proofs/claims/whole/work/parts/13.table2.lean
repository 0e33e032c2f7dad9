theorem TI.upd_none {σ σ' : Mm} {t g : Nat} {P : Pb} {h : Nat → Int32} {x : Int32} (hT : TI σ t P h) (hg : g < pG P) (hG : pG P ≤ 5) (hD : pD P ≤ 6) (hx : x = -1 ∨ x = -2) (hw : h g = -1 ∨ h g = -2)
    (e0 : ∀ k, k = 6 ∨ k = 7 ∨ k = 8 → σ'.1 t k = σ.1 t k) (e1 : ∀ d, d < pD P → σ'.1 (t + 1) d = σ.1 (t + 1) d ∧ σ'.1 (t + 2) d = σ.1 (t + 2) d)
    (e3 : ∀ k, k < 5 → k ≠ g → σ'.1 (t + 3) k = σ.1 (t + 3) k ∧ σ'.1 (t + 4) k = σ.1 (t + 4) k) (e4 : σ'.1 (t + 3) g = hC x) (e5 : σ'.1 (t + 4) g = hO x) : TI σ' t P (upd h g x) := by
  obtain ⟨⟨u1, u2, u3⟩, h5, h6⟩ := hT
  refine ⟨⟨by rw [e0 6 (by omega)]; exact u1, by rw [e0 7 (by omega)]; exact u2, by rw [e0 8 (by omega)]; exact u3⟩, fun d hd => ?_, fun k hk hz => ?_⟩
  · have n1 : x ≠ nI d := by rcases hx with rfl | rfl; exact (nI_neg1 (by omega)).symm; exact (nI_neg2 (by omega)).symm
    have n2 : h g ≠ nI d := by rcases hw with e | e <;> rw [e]; exact (nI_neg1 (by omega)).symm; exact (nI_neg2 (by omega)).symm
    rw [cnt_give hg n2, if_neg n1, (e1 d hd).1, (e1 d hd).2]
    exact h5 d hd
  · by_cases q : k = g
    · subst q
      rw [e4, e5]
      simp [upd]
    · rw [(e3 k hk q).1, (e3 k hk q).2]
      simp only [upd, if_neg q]
      exact h6 k hk hz
set_option maxHeartbeats 1000000 in
theorem sp_give {Γ : Gm} {σ : Mm} {t g : Nat} {P : Pb} {h : Nat → Int32} {x : Int32} (ht : isT t) (hg : g < pG P) (hG : pG P ≤ 5) (hD : pD P ≤ 6) (hT : TI σ t P h) (hw : h g = -2) (hx : x = -1 ∨ ∃ d, d < pD P ∧ x = nI d) : Sp Γ 1 mX7_give [rf Γ t, .int (nI g), .int x] σ (aV (fun σ' => TI σ' t P (upd h g x) ∧ OT t σ σ')) := by
  have hg5 : g < 5 := by omega
  refine sp_in (L := [some (rf Γ t), some (.int (nI g)), some (.int x)]) rfl (Nat.le_of_ble_eq_true rfl) rfl ?_
  refine go_aload_n dX7_give_0 rfl rfl ?_
  refine go_getR flX7_18 (fT_4 ht) dX7_give_1 ?_
  refine go_iload_n dX7_give_4 rfl rfl ?_
  refine go_iload_n dX7_give_5 rfl rfl ?_
  refine go_iast (g) rfl (aT_3 ht) (by omega) (by decide) dX7_give_6 ?_
  refine go_aload_n dX7_give_7 rfl rfl ?_
  refine go_getR flX7_21 (fT_5 ht) dX7_give_8 ?_
  refine go_iload_n dX7_give_11 rfl rfl ?_
  refine go_iconst (v := nI 1) dX7_give_12 rfl ?_
  refine go_iast (g) rfl (aT_4 ht) (by omega) (by decide) dX7_give_13 ?_
  refine go_iload_n dX7_give_14 rfl rfl ?_
  refine go_iconst (v := (-1)) dX7_give_15 rfl ?_
  refine go_icmp_eq (tgt := 39) dX7_give_16 (by decide) (fun c16 => ?_) (fun c16 => ?_)
  · refine go_vret rfl dX7_give_39 ?_
    refine ⟨rfl, ?_, ((OT.rf.st (by omega) (by omega)).st (by omega) (by omega))⟩
    refine hT.upd_none hg hG hD (Or.inl c16) (Or.inr hw) (fun k hk => ?_) (fun d hd => ?_) (fun k h1 h2 => ?_) ?_ ?_
    · rcases hk with rfl | rfl | rfl <;> simp (disch := omega) only [stI_ne]
    · exact ⟨by simp (disch := omega) only [stI_ne], by simp (disch := omega) only [stI_ne]⟩
    · exact ⟨by simp (disch := omega) only [stI_ne], by simp (disch := omega) only [stI_ne]⟩
    · rw [stI_ne (by omega), stI_at, c16]; decide
    · rw [stI_at, c16]; decide
  · obtain ⟨d, hd, e⟩ : ∃ d, d < pD P ∧ x = nI d := hx.resolve_left c16
    refine go_aload_n dX7_give_19 rfl rfl ?_
    refine go_getR flX7_9 (fT_2 ht) dX7_give_20 ?_
    refine go_iload_n dX7_give_23 rfl rfl ?_
    refine go_dup2 dX7_give_24 rfl rfl ?_
    refine go_iald d e (aT_1 ht) (by omega) (by decide) dX7_give_25 ?_
    refine go_iconst (v := nI 1) dX7_give_26 rfl ?_
    refine go_isub dX7_give_27 ?_
    refine go_iast d e (aT_1 ht) (by omega) (by decide) dX7_give_28 ?_
    refine go_aload_n dX7_give_29 rfl rfl ?_
    refine go_getR flX7_15 (fT_3 ht) dX7_give_30 ?_
    refine go_iload_n dX7_give_33 rfl rfl ?_
    refine go_dup2 dX7_give_34 rfl rfl ?_
    refine go_iald d e (aT_2 ht) (by omega) (by decide) dX7_give_35 ?_
    refine go_iconst (v := nI 1) dX7_give_36 rfl ?_
    refine go_iadd dX7_give_37 ?_
    refine go_iast d e (aT_2 ht) (by omega) (by decide) dX7_give_38 ?_
    refine go_vret rfl dX7_give_39 ?_
    refine ⟨rfl, ?_, ((((OT.rf.st (by omega) (by omega)).st (by omega) (by omega)).st (by omega) (by omega)).st (by omega) (by omega))⟩
    subst e
    obtain ⟨⟨u1, u2, u3⟩, h5, h6⟩ := hT
    refine ⟨⟨?_, ?_, ?_⟩, fun d' hd' => ?_, fun k hk hz => ?_⟩
    · simp (disch := omega) only [stI_ne]; exact u1
    · simp (disch := omega) only [stI_ne]; exact u2
    · simp (disch := omega) only [stI_ne]; exact u3
    · have n2 : h g ≠ nI d' := by rw [hw]; exact (nI_neg2 (by omega)).symm
      obtain ⟨q1, q2⟩ := h5 d' hd'
      rw [cnt_give hg n2]
      by_cases q : d' = d
      · subst q
        rw [if_pos rfl]
        constructor
        · simp (disch := omega) only [stI_at, stI_ne]
          rw [q1, ← nI_add]
          grind
        · simp (disch := omega) only [stI_at, stI_ne]
          rw [q2, nI_add]
      · have n3 : ¬ nI d = nI d' := fun z => q ((nI_eq (by omega) (by omega)).mp z).symm
        rw [if_neg n3]
        constructor
        · simp (disch := omega) only [stI_ne]; exact q1
        · simp (disch := omega) only [stI_ne]; exact q2
    · by_cases q : k = g
      · subst q
        simp (disch := omega) only [stI_at, stI_ne]
        simp only [upd, if_pos rfl]
        exact ⟨(hC_nI (by omega)).symm, (hO_nI (by omega)).symm⟩
      · simp (disch := omega) only [stI_at, stI_ne]
        simp only [upd, if_neg q]
        exact h6 k hk hz
set_option maxHeartbeats 1000000 in
theorem sp_giveBack {Γ : Gm} {σ : Mm} {t g : Nat} {P : Pb} {h : Nat → Int32} (ht : isT t) (hg : g < pG P) (hG : pG P ≤ 5) (hD : pD P ≤ 6) (hT : TI σ t P h) (hr : Rok P h) : Sp Γ 1 mX7_giveBack [rf Γ t, .int (nI g)] σ (aV (fun σ' => TI σ' t P (upd h g (-2)) ∧ OT t σ σ')) := by
  have hg5 : g < 5 := by omega
  refine sp_in (L := [some (rf Γ t), some (.int (nI g)), none]) rfl (Nat.le_of_ble_eq_true rfl) rfl ?_
  have hrow := (hT.2.2 g hg5 (Or.inr hg)).1
  have hcase := hC_row hD hr hg5
  refine go_aload_n dX7_giveBack_0 rfl rfl ?_
  refine go_getR flX7_18 (fT_4 ht) dX7_giveBack_1 ?_
  refine go_iload_n dX7_giveBack_4 rfl rfl ?_
  refine go_iald (g) rfl (aT_3 ht) (by omega) (by decide) dX7_giveBack_5 ?_
  rw [hrow]
  refine go_istore_n (L' := [_, _, _]) dX7_giveBack_6 rfl (by decide) rfl rfl ?_
  refine go_aload_n dX7_giveBack_7 rfl rfl ?_
  refine go_getR flX7_18 (fT_4 ht) dX7_giveBack_8 ?_
  refine go_iload_n dX7_giveBack_11 rfl rfl ?_
  refine go_iconst (v := (-1)) dX7_giveBack_12 rfl ?_
  refine go_iast (g) rfl (aT_3 ht) (by omega) (by decide) dX7_giveBack_13 ?_
  refine go_aload_n dX7_giveBack_14 rfl rfl ?_
  refine go_getR flX7_21 (fT_5 ht) dX7_giveBack_15 ?_
  refine go_iload_n dX7_giveBack_18 rfl rfl ?_
  refine go_iconst (v := nI 0) dX7_giveBack_19 rfl ?_
  refine go_iast (g) rfl (aT_4 ht) (by omega) (by decide) dX7_giveBack_20 ?_
  refine go_iload_n dX7_giveBack_21 rfl rfl ?_
  refine go_iconst (v := (-1)) dX7_giveBack_22 rfl ?_
  refine go_icmp_eq (tgt := 46) dX7_giveBack_23 (by decide) (fun c23 => ?_) (fun c23 => ?_)
  · refine go_vret rfl dX7_giveBack_46 ?_
    have hw : h g = -1 ∨ h g = -2 := by
      rcases hr.1 g hg5 with e | e | ⟨d, hd, e⟩
      · exact Or.inr e
      · exact Or.inl e
      · rw [e, hC_nI (by omega)] at c23; exact absurd c23 (nI_neg1 (by omega))
    refine ⟨rfl, ?_, ((OT.rf.st (by omega) (by omega)).st (by omega) (by omega))⟩
    refine hT.upd_none hg hG hD (Or.inr rfl) hw (fun k hk => ?_) (fun d hd => ?_) (fun k h1 h2 => ?_) ?_ ?_
    · rcases hk with rfl | rfl | rfl <;> simp (disch := omega) only [stI_ne]
    · exact ⟨by simp (disch := omega) only [stI_ne], by simp (disch := omega) only [stI_ne]⟩
    · exact ⟨by simp (disch := omega) only [stI_ne], by simp (disch := omega) only [stI_ne]⟩
    · rw [stI_ne (by omega), stI_at]; decide
    · rw [stI_at]; decide
  · obtain ⟨d, hd, e, e2⟩ : ∃ d, d < pD P ∧ h g = nI d ∧ hC (h g) = nI d := hcase.resolve_left (fun z => c23 z.1)
    refine go_aload_n dX7_giveBack_26 rfl rfl ?_
    refine go_getR flX7_9 (fT_2 ht) dX7_giveBack_27 ?_
    refine go_iload_n dX7_giveBack_30 rfl rfl ?_
    refine go_dup2 dX7_giveBack_31 rfl rfl ?_
    refine go_iald d e2 (aT_1 ht) (by omega) (by decide) dX7_giveBack_32 ?_
    refine go_iconst (v := nI 1) dX7_giveBack_33 rfl ?_
    refine go_iadd dX7_giveBack_34 ?_
    refine go_iast d e2 (aT_1 ht) (by omega) (by decide) dX7_giveBack_35 ?_
    refine go_aload_n dX7_giveBack_36 rfl rfl ?_
    refine go_getR flX7_15 (fT_3 ht) dX7_giveBack_37 ?_
    refine go_iload_n dX7_giveBack_40 rfl rfl ?_
    refine go_dup2 dX7_giveBack_41 rfl rfl ?_
    refine go_iald d e2 (aT_2 ht) (by omega) (by decide) dX7_giveBack_42 ?_
    refine go_iconst (v := nI 1) dX7_giveBack_43 rfl ?_
    refine go_isub dX7_giveBack_44 ?_
    refine go_iast d e2 (aT_2 ht) (by omega) (by decide) dX7_giveBack_45 ?_
    refine go_vret rfl dX7_giveBack_46 ?_
    refine ⟨rfl, ?_, ((((OT.rf.st (by omega) (by omega)).st (by omega) (by omega)).st (by omega) (by omega)).st (by omega) (by omega))⟩
    obtain ⟨⟨u1, u2, u3⟩, h5, h6⟩ := hT
    refine ⟨⟨?_, ?_, ?_⟩, fun d' hd' => ?_, fun k hk hz => ?_⟩
    · simp (disch := omega) only [stI_ne]; exact u1
    · simp (disch := omega) only [stI_ne]; exact u2
    · simp (disch := omega) only [stI_ne]; exact u3
    · obtain ⟨q1, q2⟩ := h5 d' hd'
      have hb := cnt_back (h := h) (x := -2) (y := nI d') hg (nI_neg2 (by omega)).symm
      by_cases q : d' = d
      · subst q
        rw [if_pos e] at hb
        rw [← hb] at q1 q2
        constructor
        · simp (disch := omega) only [stI_at, stI_ne]
          rw [q1, ← nI_add]
          grind
        · simp (disch := omega) only [stI_at, stI_ne]
          rw [q2, ← nI_add]
          grind
      · have n3 : ¬ h g = nI d' := fun z => q ((nI_eq (by omega) (by omega)).mp (e.symm.trans z)).symm
        rw [if_neg n3, Nat.add_zero] at hb
        rw [hb]
        constructor
        · simp (disch := omega) only [stI_ne]; exact q1
        · simp (disch := omega) only [stI_ne]; exact q2
    · by_cases q : k = g
      · subst q
        simp (disch := omega) only [stI_at, stI_ne]
        rw [show upd h k (-2) k = -2 by simp [upd]]
        exact ⟨by decide, by decide⟩
      · simp (disch := omega) only [stI_at, stI_ne]
        simp only [upd, if_neg q]
        exact h6 k hk hz
set_option maxHeartbeats 1000000 in
theorem sp_joyOf {Γ : Gm} {σ : Mm} {t g : Nat} {P : Pb} {h : Nat → Int32} (ht : isT t) (hg : g < pG P) (hP : PI σ P) (hT : TI σ t P h) (hr : Rok P h) : Sp Γ 1 mX7_joyOf [rf Γ t, .int (nI g)] σ (aP (joyM P h g) σ) := by
  have hD := hP.1.2
  have hG := hP.2.1.2
  have hg5 : g < 5 := by omega
  refine sp_in (L := [some (rf Γ t), some (.int (nI g))]) rfl (Nat.le_of_ble_eq_true rfl) rfl ?_
  have hrow := (hT.2.2 g hg5 (Or.inr hg)).1
  have hcase := hC_row hD hr hg5
  refine go_aload_n dX7_joyOf_0 rfl rfl ?_
  refine go_getR flX7_18 (fT_4 ht) dX7_joyOf_1 ?_
  refine go_iload_n dX7_joyOf_4 rfl rfl ?_
  refine go_iald (g) rfl (aT_3 ht) (by omega) (by decide) dX7_joyOf_5 ?_
  rw [hrow]
  refine go_iconst (v := (-1)) dX7_joyOf_6 rfl ?_
  refine go_icmp_ne (tgt := 14) dX7_joyOf_7 (by decide) (fun c7 => ?_) (fun c7 => ?_)
  · obtain ⟨d, hd, e, e2⟩ : ∃ d, d < pD P ∧ h g = nI d ∧ hC (h g) = nI d := hcase.resolve_left (fun z => c7 z.1)
    refine go_aload_n dX7_joyOf_14 rfl rfl ?_
    refine go_getR flX7_32 (fT_1 ht) dX7_joyOf_15 ?_
    refine go_getR flX7_47 fs_6_0 dX7_joyOf_18 ?_
    refine go_iload_n dX7_joyOf_21 rfl rfl ?_
    refine go_aald (g) rfl (rG hg5) rt_7 dX7_joyOf_22 ?_
    refine go_getR flX7_58 (fG_0 hg5) dX7_joyOf_23 ?_
    refine go_aload_n dX7_joyOf_26 rfl rfl ?_
    refine go_getR flX7_18 (fT_4 ht) dX7_joyOf_27 ?_
    refine go_iload_n dX7_joyOf_30 rfl rfl ?_
    refine go_iald (g) rfl (aT_3 ht) (by omega) (by decide) dX7_joyOf_31 ?_
    rw [hrow]
    refine go_iald d e2 (aW hg5) (by omega) (by decide) dX7_joyOf_32 ?_
    refine go_iret rfl dX7_joyOf_33 ?_
    refine ⟨?_, rfl⟩
    rw [(hP.2.2.2 g hg).2.2 d hd]
    unfold joyM
    rw [e, if_neg (nI_pos (by omega)), nI_clamp (by omega)]
  · refine go_iconst (v := nI 0) dX7_joyOf_10 rfl ?_
    refine go_goto (tgt := 33) dX7_joyOf_11 (by decide) ?_
    refine go_iret rfl dX7_joyOf_33 ?_
    refine ⟨?_, rfl⟩
    have hl : h g < 0 := by
      rcases hcase with z | ⟨d, hd, e, e2⟩
      · exact z.2
      · rw [e2] at c7; exact absurd c7 (nI_neg1 (by omega))
    unfold joyM
    rw [if_pos hl]
    rfl
set_option maxHeartbeats 1000000 in
theorem lp_joyOfAll {Γ : Gm} {σ : Mm} {t : Nat} {P : Pb} {h : Nat → Int32} (ht : isT t) (hP : PI σ P) (hT : TI σ t P h) (hr : Rok P h) : ∀ (m g : Nat), pG P - g = m → g ≤ pG P → Go Γ 2 mX7_joyOfAll (aP (joyA P h) σ) 4 [some (rf Γ t), some (.int (sumN (joyM P h) g)), some (.int (nI g))] [] σ := by
  have hG := hP.2.1.2
  intro m
  induction m with
  | zero =>
    intro g hm hg
    have e : g = pG P := by omega
    subst e
    refine go_iload_n dX7_joyOfAll_4 rfl rfl ?_
    refine go_aload_n dX7_joyOfAll_5 rfl rfl ?_
    refine go_getR flX7_32 (fT_1 ht) dX7_joyOfAll_6 ?_
    refine go_getI flX7_90 fs_6_1 dX7_joyOfAll_9 ?_
    rw [hP.2.1.1]
    refine go_icmp_ge (tgt := 29) dX7_joyOfAll_12 (by decide) (fun c12 => ?_) (fun c12 => ?_)
    · refine go_iload_n dX7_joyOfAll_29 rfl rfl ?_
      refine go_iret rfl dX7_joyOfAll_30 ?_
      exact ⟨rfl, rfl⟩
    · exact absurd (Int32.le_refl _) c12
  | succ m ih =>
    intro g hm hg
    have hg1 : g < pG P := by omega
    refine go_iload_n dX7_joyOfAll_4 rfl rfl ?_
    refine go_aload_n dX7_joyOfAll_5 rfl rfl ?_
    refine go_getR flX7_32 (fT_1 ht) dX7_joyOfAll_6 ?_
    refine go_getI flX7_90 fs_6_1 dX7_joyOfAll_9 ?_
    rw [hP.2.1.1]
    refine go_icmp_ge (tgt := 29) dX7_joyOfAll_12 (by decide) (fun c12 => ?_) (fun c12 => ?_)
    · exact absurd c12 (nI_ge (by omega) (by omega))
    · refine go_iload_n dX7_joyOfAll_15 rfl rfl ?_
      refine go_aload_n dX7_joyOfAll_16 rfl rfl ?_
      refine go_iload_n dX7_joyOfAll_17 rfl rfl ?_
      refine go_callVp cvX7_93 (osT ht) (sp_joyOf ht hg1 hP hT hr) (by omega) rfl rfl (Nat.le_of_ble_eq_true rfl) dX7_joyOfAll_18 ?_
      refine go_iadd dX7_joyOfAll_21 ?_
      refine go_istore_n (L' := [_, _, _]) dX7_joyOfAll_22 rfl (by decide) rfl rfl ?_
      refine go_iinc (v := nI (g + 1)) (L' := [_, _, _]) dX7_joyOfAll_23 rfl (nI_1 _) (by decide) rfl rfl ?_
      refine go_goto (tgt := 4) dX7_joyOfAll_26 (by decide) ?_
      exact ih (g + 1) (by omega) (by omega)
set_option maxHeartbeats 1000000 in
theorem sp_joyOfAll {Γ : Gm} {σ : Mm} {t : Nat} {P : Pb} {h : Nat → Int32} (ht : isT t) (hP : PI σ P) (hT : TI σ t P h) (hr : Rok P h) : Sp Γ 2 mX7_joyOfAll [rf Γ t] σ (aP (joyA P h) σ) := by
  refine sp_in (L := [some (rf Γ t), none, none]) rfl (Nat.le_of_ble_eq_true rfl) rfl ?_
  refine go_iconst (v := nI 0) dX7_joyOfAll_0 rfl ?_
  refine go_istore_n (L' := [_, _, _]) dX7_joyOfAll_1 rfl (by decide) rfl rfl ?_
  refine go_iconst (v := nI 0) dX7_joyOfAll_2 rfl ?_
  refine go_istore_n (L' := [_, _, _]) dX7_joyOfAll_3 rfl (by decide) rfl rfl ?_
  exact lp_joyOfAll ht hP hT hr (pG P) 0 rfl (Nat.zero_le _)
set_option maxHeartbeats 1000000 in
theorem lp_howMany {Γ : Gm} {σ : Mm} {t : Nat} {P : Pb} {h : Nat → Int32} (ht : isT t) (hP : PI σ P) (hT : TI σ t P h) : ∀ (m g : Nat), pG P - g = m → g ≤ pG P → Go Γ 1 mX7_howManyOrdered (aP (ordN P h) σ) 4 [some (rf Γ t), some (.int (sumN (fun g => hO (h g)) g)), some (.int (nI g))] [] σ := by
  have hG := hP.2.1.2
  intro m
  induction m with
  | zero =>
    intro g hm hg
    have e : g = pG P := by omega
    subst e
    refine go_iload_n dX7_howManyOrdered_4 rfl rfl ?_
    refine go_aload_n dX7_howManyOrdered_5 rfl rfl ?_
    refine go_getR flX7_32 (fT_1 ht) dX7_howManyOrdered_6 ?_
    refine go_getI flX7_90 fs_6_1 dX7_howManyOrdered_9 ?_
    rw [hP.2.1.1]
    refine go_icmp_ge (tgt := 30) dX7_howManyOrdered_12 (by decide) (fun c12 => ?_) (fun c12 => ?_)
    · refine go_iload_n dX7_howManyOrdered_30 rfl rfl ?_
      refine go_iret rfl dX7_howManyOrdered_31 ?_
      exact ⟨rfl, rfl⟩
    · exact absurd (Int32.le_refl _) c12
  | succ m ih =>
    intro g hm hg
    have hg1 : g < pG P := by omega
    refine go_iload_n dX7_howManyOrdered_4 rfl rfl ?_
    refine go_aload_n dX7_howManyOrdered_5 rfl rfl ?_
    refine go_getR flX7_32 (fT_1 ht) dX7_howManyOrdered_6 ?_
    refine go_getI flX7_90 fs_6_1 dX7_howManyOrdered_9 ?_
    rw [hP.2.1.1]
    refine go_icmp_ge (tgt := 30) dX7_howManyOrdered_12 (by decide) (fun c12 => ?_) (fun c12 => ?_)
    · exact absurd c12 (nI_ge (by omega) (by omega))
    · refine go_iload_n dX7_howManyOrdered_15 rfl rfl ?_
      refine go_aload_n dX7_howManyOrdered_16 rfl rfl ?_
      refine go_getR flX7_21 (fT_5 ht) dX7_howManyOrdered_17 ?_
      refine go_iload_n dX7_howManyOrdered_20 rfl rfl ?_
      refine go_iald (g) rfl (aT_4 ht) (by omega) (by decide) dX7_howManyOrdered_21 ?_
      rw [(hT.2.2 g (by omega) (Or.inr (by omega))).2]
      refine go_iadd dX7_howManyOrdered_22 ?_
      refine go_istore_n (L' := [_, _, _]) dX7_howManyOrdered_23 rfl (by decide) rfl rfl ?_
      refine go_iinc (v := nI (g + 1)) (L' := [_, _, _]) dX7_howManyOrdered_24 rfl (nI_1 _) (by decide) rfl rfl ?_
      refine go_goto (tgt := 4) dX7_howManyOrdered_27 (by decide) ?_
      exact ih (g + 1) (by omega) (by omega)
set_option maxHeartbeats 1000000 in
theorem sp_howMany {Γ : Gm} {σ : Mm} {t : Nat} {P : Pb} {h : Nat → Int32} (ht : isT t) (hP : PI σ P) (hT : TI σ t P h) : Sp Γ 1 mX7_howManyOrdered [rf Γ t] σ (aP (ordN P h) σ) := by
  refine sp_in (L := [some (rf Γ t), none, none]) rfl (Nat.le_of_ble_eq_true rfl) rfl ?_
  refine go_iconst (v := nI 0) dX7_howManyOrdered_0 rfl ?_
  refine go_istore_n (L' := [_, _, _]) dX7_howManyOrdered_1 rfl (by decide) rfl rfl ?_
  refine go_iconst (v := nI 0) dX7_howManyOrdered_2 rfl ?_
  refine go_istore_n (L' := [_, _, _]) dX7_howManyOrdered_3 rfl (by decide) rfl rfl ?_
  exact lp_howMany ht hP hT (pG P) 0 rfl (Nat.zero_le _)
set_option maxHeartbeats 1000000 in
theorem sp_press {Γ : Gm} {σ : Mm} {t : Nat} {x y : Int32} (ht : isT t) : Sp Γ 1 mX7_press [rf Γ t, .int x, .int y] σ (aV (fun σ' => σ' = stI (stI σ t 6 (if y = 0 then -1 else x)) t 7 y)) := by
  refine sp_in (L := [some (rf Γ t), some (.int x), some (.int y)]) rfl (Nat.le_of_ble_eq_true rfl) rfl ?_
  refine go_aload_n dX7_press_0 rfl rfl ?_
  refine go_iload_n dX7_press_1 rfl rfl ?_
  refine go_if_ne (tgt := 9) dX7_press_2 (by decide) (fun c2 => ?_) (fun c2 => ?_)
  · refine go_iload_n dX7_press_9 rfl rfl ?_
    refine go_putI fwX7_24 (fT_6 ht) dX7_press_10 ?_
    refine go_aload_n dX7_press_13 rfl rfl ?_
    refine go_iload_n dX7_press_14 rfl rfl ?_
    refine go_putI fwX7_41 (fT_7 ht) dX7_press_15 ?_
    refine go_vret rfl dX7_press_18 ?_
    exact ⟨rfl, by rw [if_neg c2]⟩
  · refine go_iconst (v := (-1)) dX7_press_5 rfl ?_
    refine go_goto (tgt := 10) dX7_press_6 (by decide) ?_
    refine go_putI fwX7_24 (fT_6 ht) dX7_press_10 ?_
    refine go_aload_n dX7_press_13 rfl rfl ?_
    refine go_iload_n dX7_press_14 rfl rfl ?_
    refine go_putI fwX7_41 (fT_7 ht) dX7_press_15 ?_
    refine go_vret rfl dX7_press_18 ?_
    exact ⟨rfl, by rw [if_pos c2]⟩
/-- a wiped table -/
def Wiped (t : Nat) (σ σ' : Mm) : Prop := (∀ d, d < 6 → σ'.1 (t + 1) d = σ.1 4 d ∧ σ'.1 (t + 2) d = 0) ∧ (∀ g, g < 5 → σ'.1 (t + 3) g = -1 ∧ σ'.1 (t + 4) g = 0) ∧ (∀ k, σ'.1 t k = σ.1 t k) ∧ OT t σ σ'
set_option maxHeartbeats 1000000 in
theorem lp_wipe2 {Γ : Gm} {σ : Mm} {t : Nat} (ht : isT t) : ∀ (m g : Nat) (σ' : Mm), 5 - g = m → g ≤ 5 → (∀ d, d < 6 → σ'.1 (t + 1) d = σ.1 4 d ∧ σ'.1 (t + 2) d = 0) → (∀ k, k < g → σ'.1 (t + 3) k = -1 ∧ σ'.1 (t + 4) k = 0) → (∀ k, σ'.1 t k = σ.1 t k) → OT t σ σ' → Go Γ 1 mX7_wipe (aV (Wiped t σ)) 38 [some (rf Γ t), some (.int (nI g))] [] σ' := by
  intro m
  induction m with
  | zero =>
    intro g σ' hm hg h1 h2 h3 h4
    have e : g = 5 := by omega
    subst e
    refine go_iload_n dX7_wipe_38 rfl rfl ?_
    refine go_iconst (v := nI 5) dX7_wipe_39 rfl ?_
    refine go_icmp_ge (tgt := 63) dX7_wipe_40 (by decide) (fun c40 => ?_) (fun c40 => ?_)
    · refine go_vret rfl dX7_wipe_63 ?_
      exact ⟨rfl, h1, h2, h3, h4⟩
    · exact absurd (Int32.le_refl _) c40
  | succ m ih =>
    intro g σ' hm hg h1 h2 h3 h4
    have hg1 : g < 5 := by omega
    refine go_iload_n dX7_wipe_38 rfl rfl ?_
    refine go_iconst (v := nI 5) dX7_wipe_39 rfl ?_
    refine go_icmp_ge (tgt := 63) dX7_wipe_40 (by decide) (fun c40 => ?_) (fun c40 => ?_)
    · exact absurd c40 (nI_ge (by omega) (by omega))
    · refine go_aload_n dX7_wipe_43 rfl rfl ?_
      refine go_getR flX7_18 (fT_4 ht) dX7_wipe_44 ?_
      refine go_iload_n dX7_wipe_47 rfl rfl ?_
      refine go_iconst (v := (-1)) dX7_wipe_48 rfl ?_
      refine go_iast (g) rfl (aT_3 ht) (by omega) (by decide) dX7_wipe_49 ?_
      refine go_aload_n dX7_wipe_50 rfl rfl ?_
      refine go_getR flX7_21 (fT_5 ht) dX7_wipe_51 ?_
      refine go_iload_n dX7_wipe_54 rfl rfl ?_
      refine go_iconst (v := nI 0) dX7_wipe_55 rfl ?_
      refine go_iast (g) rfl (aT_4 ht) (by omega) (by decide) dX7_wipe_56 ?_
      refine go_iinc (v := nI (g + 1)) (L' := [_, _]) dX7_wipe_57 rfl (nI_1 _) (by decide) rfl rfl ?_
      refine go_goto (tgt := 38) dX7_wipe_60 (by decide) ?_
      refine ih (g + 1) _ (by omega) (by omega) (fun d hd => ?_) (fun k hk => ?_) (fun k => ?_) ((h4.st (by omega) (by omega)).st (by omega) (by omega))
      · simp (disch := omega) only [stI_ne]; exact h1 d hd
      · by_cases q : k = g
        · subst q; simp (disch := omega) only [stI_at, stI_ne]; exact ⟨trivial, rfl⟩
        · simp (disch := omega) only [stI_ne]; exact h2 k (by omega)
      · simp (disch := omega) only [stI_ne]; exact h3 k
set_option maxHeartbeats 1000000 in
theorem lp_wipe1 {Γ : Gm} {σ : Mm} {t : Nat} (ht : isT t) : ∀ (m d : Nat) (σ' : Mm), 6 - d = m → d ≤ 6 → (∀ k, k < d → σ'.1 (t + 1) k = σ.1 4 k ∧ σ'.1 (t + 2) k = 0) → (∀ k, σ'.1 t k = σ.1 t k) → OT t σ σ' → Go Γ 1 mX7_wipe (aV (Wiped t σ)) 2 [some (rf Γ t), some (.int (nI d))] [] σ' := by
  have ht18 : 18 ≤ t := by rcases ht with rfl | rfl | rfl <;> omega
  intro m
  induction m with
  | zero =>
    intro d σ' hm hg h1 h3 h4
    have e : d = 6 := by omega
    subst e
    refine go_iload_n dX7_wipe_2 rfl rfl ?_
    refine go_bipush (v := nI 6) dX7_wipe_3 rfl ?_
    refine go_icmp_ge (tgt := 36) dX7_wipe_5 (by decide) (fun c5 => ?_) (fun c5 => ?_)
    · refine go_iconst (v := nI 0) dX7_wipe_36 rfl ?_
      refine go_istore_n (L' := [_, _]) dX7_wipe_37 rfl (by decide) rfl rfl ?_
      exact lp_wipe2 ht 5 0 σ' rfl (by omega) h1 (fun k hk => absurd hk (Nat.not_lt_zero k)) h3 h4
    · exact absurd (Int32.le_refl _) c5
  | succ m ih =>
    intro d σ' hm hg h1 h3 h4
    have hd1 : d < 6 := by omega
    have e4 : σ'.1 4 = σ.1 4 := h4.1 4 (by omega)
    refine go_iload_n dX7_wipe_2 rfl rfl ?_
    refine go_bipush (v := nI 6) dX7_wipe_3 rfl ?_
    refine go_icmp_ge (tgt := 36) dX7_wipe_5 (by decide) (fun c5 => ?_) (fun c5 => ?_)
    · exact absurd c5 (nI_ge (by omega) (by omega))
    · refine go_aload_n dX7_wipe_8 rfl rfl ?_
      refine go_getR flX7_9 (fT_2 ht) dX7_wipe_9 ?_
      refine go_iload_n dX7_wipe_12 rfl rfl ?_
      refine go_aload_n dX7_wipe_13 rfl rfl ?_
      refine go_getR flX7_28 (fT_0 ht) dX7_wipe_14 ?_
      refine go_getR flX7_36 fs_3_0 dX7_wipe_17 ?_
      refine go_iload_n dX7_wipe_20 rfl rfl ?_
      refine go_iald (d) rfl as_4 (by omega) (by decide) dX7_wipe_21 ?_
      refine go_iast (d) rfl (aT_1 ht) (by omega) (by decide) dX7_wipe_22 ?_
      refine go_aload_n dX7_wipe_23 rfl rfl ?_
      refine go_getR flX7_15 (fT_3 ht) dX7_wipe_24 ?_
      refine go_iload_n dX7_wipe_27 rfl rfl ?_
      refine go_iconst (v := nI 0) dX7_wipe_28 rfl ?_
      refine go_iast (d) rfl (aT_2 ht) (by omega) (by decide) dX7_wipe_29 ?_
      refine go_iinc (v := nI (d + 1)) (L' := [_, _]) dX7_wipe_30 rfl (nI_1 _) (by decide) rfl rfl ?_
      refine go_goto (tgt := 2) dX7_wipe_33 (by decide) ?_
      refine ih (d + 1) _ (by omega) (by omega) (fun k hk => ?_) (fun k => ?_) ((h4.st (by omega) (by omega)).st (by omega) (by omega))
      · by_cases q : k = d
        · subst q; simp (disch := omega) only [stI_at, stI_ne]; exact ⟨by rw [e4], rfl⟩
        · simp (disch := omega) only [stI_ne]; exact h1 k (by omega)
      · simp (disch := omega) only [stI_ne]; exact h3 k
set_option maxHeartbeats 1000000 in
theorem sp_wipe {Γ : Gm} {σ : Mm} {t : Nat} (ht : isT t) : Sp Γ 1 mX7_wipe [rf Γ t] σ (aV (Wiped t σ)) := by
  refine sp_in (L := [some (rf Γ t), none]) rfl (Nat.le_of_ble_eq_true rfl) rfl ?_
  refine go_iconst (v := nI 0) dX7_wipe_0 rfl ?_
  refine go_istore_n (L' := [_, _]) dX7_wipe_1 rfl (by decide) rfl rfl ?_
  exact lp_wipe1 ht 6 0 σ rfl (by omega) (fun k hk => absurd hk (Nat.not_lt_zero k)) (fun _ => rfl) OT.rf
