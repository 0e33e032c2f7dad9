/-! the model's public methods (7): image, restore -/
theorem Cpd.frm {a b n : Nat} {σ σ' : Mm} (hb : 58 ≤ b) (h : Cpd a b n σ σ') : FrM σ σ' := ⟨fun c q => h.2.2.1 c (by omega), fun c _ => by rw [h.2.2.2]⟩
set_option maxHeartbeats 2000000 in
theorem sm_image {Γ : Gm} {σ : Mm} {X : Xs} {N : Nat} (hI : XI N X) (h : RM σ X) : Sp Γ 2 mX9_image [rf Γ 58] σ (aI (aImage X) (fun σ' => RM σ' (tImage X) ∧ FrM σ σ')) := by
  refine sp_in (L := [some (rf Γ 58)]) rfl (Nat.le_of_ble_eq_true rfl) rfl ?_
  have hP := h.2.1.1
  have hD := hP.1.2
  have hG := hP.2.1.2
  have fin : ∀ σ1 σ2 σ3 σ4, Cpd 65 70 30 σ σ1 → Cpd 64 71 10 σ1 σ2 → Cpd 66 72 5 σ2 σ3 → Cpd 68 73 12 σ3 σ4 → ¬ pD (xP X) = 0 → ∀ σ5, σ5 = stI (stI (stI (stI (stI σ4 58 28 (nI (pG (xP X)))) 58 29 (pUr (xP X))) 58 30 (pMu (xP X))) 58 31 (nI (xE X).1)) 58 27 (nI (xC X)) → RM σ5 (tImage X) ∧ FrM σ σ5 := by
    intro σ1 σ2 σ3 σ4 q1 q2 q3 q4 h0 σ5 e5
    have ho : ∀ a, a ≠ 70 → a ≠ 71 → a ≠ 72 → a ≠ 73 → σ4.1 a = σ.1 a := fun a h1 h2 h3 h4 => by rw [q4.2.2.1 a h4, q3.2.2.1 a h3, q2.2.2.1 a h2, q1.2.2.1 a h1]
    have h5 : ∀ a, a ≠ 58 → σ5.1 a = σ4.1 a := fun a ha => by rw [e5]; exact funext fun y => by simp (disch := omega) only [stI_ne]
    have hf : ∀ k, k ≠ 27 → k ≠ 28 → k ≠ 29 → k ≠ 30 → k ≠ 31 → σ5.1 58 k = σ.1 58 k := fun k h1 h2 h3 h4 h5 => by
      rw [e5]; simp (disch := omega) only [stI_ne]; rw [ho 58 (by omega) (by omega) (by omega) (by omega)]
    have hoo : ∀ a, a ≠ 58 → a ≠ 70 → a ≠ 71 → a ≠ 72 → a ≠ 73 → σ5.1 a = σ.1 a := fun a h1 h2 h3 h4 h6 => by rw [h5 a h1, ho a h2 h3 h4 h6]
    obtain ⟨⟨a1, a2⟩, b, c, d, ⟨e1, e2⟩, f⟩ := h
    refine ⟨?_, ?_⟩
    · unfold tImage
      rw [if_neg h0]
      refine ⟨⟨by rw [hf 1 (by omega) (by omega) (by omega) (by omega) (by omega)]; exact a1, fun k hk => by rw [hoo 59 (by omega) (by omega) (by omega) (by omega) (by omega)]; exact a2 k hk⟩, b.eq (fun k hk => hf k (by omega) (by omega) (by omega) (by omega) (by omega)) (fun a h1 h2 => hoo a (by omega) (by omega) (by omega) (by omega) (by omega)), fun g hg => by rw [hoo 66 (by omega) (by omega) (by omega) (by omega) (by omega)]; exact c g hg, d.eq (hf 23 (by omega) (by omega) (by omega) (by omega) (by omega)) (hoo 68 (by omega) (by omega) (by omega) (by omega) (by omega)), ⟨by rw [hf 9 (by omega) (by omega) (by omega) (by omega) (by omega)]; exact e1, by rw [hf 22 (by omega) (by omega) (by omega) (by omega) (by omega)]; exact e2⟩, ?_⟩
      have hc0 : xC X ≠ 0 := fun z => h0 (hI.2.2.2.1.mp z)
      refine ⟨?_, fun _ _ => ⟨?_, ?_, ?_, ?_, fun g hg => ?_, fun e he => ?_⟩⟩
      · show _ = if xC X = 0 then -1 else nI (xC X)
        rw [if_neg hc0, e5, stI_at]
      · rw [e5]; simp (disch := omega) only [stI_ne, stI_at]; rfl
      · rw [e5]; simp (disch := omega) only [stI_ne, stI_at]; rfl
      · rw [e5]; simp (disch := omega) only [stI_ne, stI_at]; rfl
      · rw [e5]; simp (disch := omega) only [stI_ne, stI_at]; rfl
      · have hg' : g < pG (xP X) := hg
        obtain ⟨y1, y2, y3⟩ := hP.2.2.2 g hg'
        have z71 : ∀ k, k < 10 → σ5.1 71 k = σ.1 64 k := fun k hk => by rw [h5 71 (by omega), q4.2.2.1 71 (by omega), q3.2.2.1 71 (by omega), q2.1 k hk, q1.2.2.1 64 (by omega)]
        refine ⟨?_, ?_, ?_, fun dd hd => ?_⟩
        · rw [z71 _ (by omega)]; exact y1
        · rw [z71 _ (by omega)]; exact y2
        · rw [h5 72 (by omega), q4.2.2.1 72 (by omega), q3.1 g (by omega), q2.2.2.1 66 (by omega), q1.2.2.1 66 (by omega)]; exact c g hg'
        · have hd' : dd < pD (xP X) := hd
          rw [h5 70 (by omega), q4.2.2.1 70 (by omega), q3.2.2.1 70 (by omega), q2.2.2.1 70 (by omega), q1.1 _ (by omega)]; exact y3 dd hd'
      · have he' : e < (xE X).1 := he
        have h4 := d.2.1
        obtain ⟨y1, -, y3, -, y5⟩ := d.2.2 e he'
        have z73 : ∀ k, k < 12 → σ5.1 73 k = σ.1 68 k := fun k hk => by rw [h5 73 (by omega), q4.1 k hk, q3.2.2.1 68 (by omega), q2.2.2.1 68 (by omega), q1.2.2.1 68 (by omega)]
        exact ⟨by rw [z73 _ (by omega)]; exact y1, by rw [z73 _ (by omega)]; exact y3, by rw [z73 _ (by omega)]; exact y5⟩
    · rw [e5]
      exact ((((((((q1.frm (by omega)).trans (q2.frm (by omega))).trans (q3.frm (by omega))).trans (q4.frm (by omega))).st (by omega)).st (by omega)).st (by omega)).st (by omega)).st (by omega)
  refine go_aload_n dX9_image_0 rfl rfl ?_
  refine go_callVp cvX9_121 os_58 (sm_lacks hP) (by omega) rfl rfl (Nat.le_of_ble_eq_true rfl) dX9_image_1 ?_
  refine go_if_eq (tgt := 10) dX9_image_4 (by decide) (fun c4 => ?_) (fun c4 => ?_)
  · have c4 : ¬ pD (xP X) = 0 := by have := bI_eq0.mp c4; simpa using this
    refine go_aload_n dX9_image_10 rfl rfl ?_
    refine go_getR flX9_28 fs_58_16 dX9_image_11 ?_
    refine go_aload_n dX9_image_14 rfl rfl ?_
    refine go_getR flX9_43 fs_58_32 dX9_image_15 ?_
    refine go_callSv csX9_215 (sm_copy 65 70 as_65 as_70 (by omega) (by omega)) (by omega) rfl rfl (Nat.le_of_ble_eq_true rfl) dX9_image_18 (fun σ1 q1 => ?_)
    refine go_aload_n dX9_image_21 rfl rfl ?_
    refine go_getR flX9_25 fs_58_15 dX9_image_22 ?_
    refine go_aload_n dX9_image_25 rfl rfl ?_
    refine go_getR flX9_46 fs_58_33 dX9_image_26 ?_
    refine go_callSv csX9_215 (sm_copy 64 71 as_64 as_71 (by omega) (by omega)) (by omega) rfl rfl (Nat.le_of_ble_eq_true rfl) dX9_image_29 (fun σ2 q2 => ?_)
    refine go_aload_n dX9_image_32 rfl rfl ?_
    refine go_getR flX9_31 fs_58_17 dX9_image_33 ?_
    refine go_aload_n dX9_image_36 rfl rfl ?_
    refine go_getR flX9_49 fs_58_34 dX9_image_37 ?_
    refine go_callSv csX9_215 (sm_copy 66 72 as_66 as_72 (by omega) (by omega)) (by omega) rfl rfl (Nat.le_of_ble_eq_true rfl) dX9_image_40 (fun σ3 q3 => ?_)
    refine go_aload_n dX9_image_43 rfl rfl ?_
    refine go_getR flX9_37 fs_58_24 dX9_image_44 ?_
    refine go_aload_n dX9_image_47 rfl rfl ?_
    refine go_getR flX9_52 fs_58_35 dX9_image_48 ?_
    refine go_callSv csX9_215 (sm_copy 68 73 as_68 as_73 (by omega) (by omega)) (by omega) rfl rfl (Nat.le_of_ble_eq_true rfl) dX9_image_51 (fun σ4 q4 => ?_)
    have h58 : σ4.1 58 = σ.1 58 := by rw [q4.2.2.1 58 (by omega), q3.2.2.1 58 (by omega), q2.2.2.1 58 (by omega), q1.2.2.1 58 (by omega)]
    refine go_aload_n dX9_image_54 rfl rfl ?_
    refine go_aload_n dX9_image_55 rfl rfl ?_
    refine go_getI flX9_96 fs_58_14 dX9_image_56 ?_
    rw [h58, hP.2.1.1]
    refine go_putI fwX9_222 fs_58_28 dX9_image_59 ?_
    refine go_aload_n dX9_image_62 rfl rfl ?_
    refine go_aload_n dX9_image_63 rfl rfl ?_
    refine go_getI flX9_59 fs_58_10 dX9_image_64 ?_
    rw [stI_ne (by omega), h58, h.2.1.2.2.1]
    refine go_putI fwX9_225 fs_58_29 dX9_image_67 ?_
    refine go_aload_n dX9_image_70 rfl rfl ?_
    refine go_aload_n dX9_image_71 rfl rfl ?_
    refine go_getI flX9_102 fs_58_11 dX9_image_72 ?_
    rw [stI_ne (by omega), stI_ne (by omega), h58, h.2.1.2.2.2]
    refine go_putI fwX9_228 fs_58_30 dX9_image_75 ?_
    refine go_aload_n dX9_image_78 rfl rfl ?_
    refine go_aload_n dX9_image_79 rfl rfl ?_
    refine go_getI flX9_99 fs_58_23 dX9_image_80 ?_
    rw [stI_ne (by omega), stI_ne (by omega), stI_ne (by omega), h58, h.2.2.2.1.1]
    refine go_putI fwX9_231 fs_58_31 dX9_image_83 ?_
    refine go_aload_n dX9_image_86 rfl rfl ?_
    refine go_aload_n dX9_image_87 rfl rfl ?_
    refine go_getI flX9_105 fs_58_9 dX9_image_88 ?_
    rw [stI_ne (by omega), stI_ne (by omega), stI_ne (by omega), stI_ne (by omega), h58, h.2.2.2.2.1.1]
    refine go_putI fwX9_55 fs_58_27 dX9_image_91 ?_
    refine go_aload_n dX9_image_94 rfl rfl ?_
    refine go_callVp cvX9_162 os_58 (sm_ordered (P := xP X) (h := xH X) (by have z := (fin σ1 σ2 σ3 σ4 q1 q2 q3 q4 c4 _ rfl).1.2.1.1; unfold tImage at z; rw [if_neg c4] at z; exact z) (by have z := (fin σ1 σ2 σ3 σ4 q1 q2 q3 q4 c4 _ rfl).1.2.2.1; unfold tImage at z; rw [if_neg c4] at z; exact z)) (by omega) rfl rfl (Nat.le_of_ble_eq_true rfl) dX9_image_95 ?_
    refine go_iret rfl dX9_image_98 ?_
    exact ⟨by unfold aImage; rw [if_neg c4], fin σ1 σ2 σ3 σ4 q1 q2 q3 q4 c4 _ rfl⟩
  · have c4 : pD (xP X) = 0 := by have := bI_ne0.mp c4; simpa using this
    refine go_bipush (v := (-103)) dX9_image_7 rfl ?_
    refine go_iret rfl dX9_image_9 ?_
    exact ⟨by unfold aImage; rw [if_pos c4], by unfold tImage; rw [if_pos c4]; exact h.q OM.rf⟩
set_option maxHeartbeats 2000000 in
theorem sm_restore {Γ : Gm} {σ : Mm} {X : Xs} {N : Nat} (hN : N < 2 ^ 30) (hI : XI N X) (h : RM σ X) : Sp Γ 2 mX9_restore [rf Γ 58] σ (aI (aRestore X) (fun σ' => RM σ' (tRestore X) ∧ FrM σ σ')) := by
  refine sp_in (L := [some (rf Γ 58)]) rfl (Nat.le_of_ble_eq_true rfl) rfl ?_
  have hP := h.2.1.1
  have hD := hP.1.2
  have hG := hP.2.1.2
  have hk := h.2.2.2.2.2
  have hC := hI.2.2.1
  have hKC := hI.2.2.2.2.2.1
  have hkc : σ.1 58 27 = nI (xC X) ↔ (0 < xC X ∧ (xK X).1 = xC X) := by
    rw [hk.1]
    by_cases z : (xK X).1 = 0
    · rw [if_pos z]
      constructor
      · intro q; exact absurd q.symm (nI_neg1 (by omega))
      · intro q; omega
    · rw [if_neg z, nI_eq (by omega) (by omega)]
      constructor
      · intro q; omega
      · intro q; exact q.2
  have no : ¬ (0 < xC X ∧ (xK X).1 = xC X ∧ pG (xK X).2.1 = pG (xP X)) → aI (aRestore X) (fun σ' => RM σ' (tRestore X) ∧ FrM σ σ') (some (.int (-103))) σ := fun q => ⟨by unfold aRestore; rw [if_neg q], by unfold tRestore; rw [if_neg q]; exact h.q OM.rf⟩
  have fin : (0 < xC X ∧ (xK X).1 = xC X ∧ pG (xK X).2.1 = pG (xP X)) → ∀ σ1 σ2 σ3 σ4, Cpd 70 65 30 σ σ1 → Cpd 71 64 10 σ1 σ2 → Cpd 72 66 5 σ2 σ3 → Cpd 73 68 12 σ3 σ4 → ∀ σ5, σ5 = stI (stI (stI σ4 58 10 (pUr (xK X).2.1)) 58 11 (pMu (xK X).2.1)) 58 23 (nI (xK X).2.2.2.1) → RM σ5 (tRestore X) ∧ FrM σ σ5 := by
    intro hq σ1 σ2 σ3 σ4 q1 q2 q3 q4 σ5 e5
    obtain ⟨⟨s1, s2, s3, s4, s5⟩, dk⟩ := hI.2.2.2.2.2.2 hq.2.1 hq.1
    obtain ⟨k1, k2, k3, k4, k5, k6⟩ := hk.2 hq.2.1 hq.1
    have hkE : (xK X).2.2.2.1 ≤ 4 := dk.2.2.2.2.2.2.2.2.1
    have hkE2 := dk.2.2.2.2.2.2.2.2.2
    have hkG : pG (xK X).2.1 ≤ 5 := dk.2.2.1
    have hkD : pD (xK X).2.1 ≤ 6 := dk.2.1
    have ho : ∀ a, a ≠ 65 → a ≠ 64 → a ≠ 66 → a ≠ 68 → σ4.1 a = σ.1 a := fun a h1 h2 h3 h4 => by rw [q4.2.2.1 a h4, q3.2.2.1 a h3, q2.2.2.1 a h2, q1.2.2.1 a h1]
    have h5 : ∀ a, a ≠ 58 → σ5.1 a = σ4.1 a := fun a ha => by rw [e5]; exact funext fun y => by simp (disch := omega) only [stI_ne]
    have hf : ∀ k, k ≠ 10 → k ≠ 11 → k ≠ 23 → σ5.1 58 k = σ.1 58 k := fun k h1 h2 h3 => by
      rw [e5]; simp (disch := omega) only [stI_ne]; rw [ho 58 (by omega) (by omega) (by omega) (by omega)]
    have hoo : ∀ a, a ≠ 58 → a ≠ 65 → a ≠ 64 → a ≠ 66 → a ≠ 68 → σ5.1 a = σ.1 a := fun a h1 h2 h3 h4 h6 => by rw [h5 a h1, ho a h2 h3 h4 h6]
    obtain ⟨⟨a1, a2⟩, b, c, d, ⟨e1, e2⟩, f⟩ := h
    refine ⟨?_, ?_⟩
    · unfold tRestore
      rw [if_pos hq]
      refine ⟨⟨by rw [hf 1 (by omega) (by omega) (by omega)]; exact a1, fun k hk => by rw [hoo 59 (by omega) (by omega) (by omega) (by omega) (by omega)]; exact a2 k hk⟩, ⟨⟨⟨?_, hkD⟩, ⟨?_, hkG⟩, fun dd hd => ?_, fun g hg => ?_⟩, ?_, ?_, ?_⟩, fun g hg => ?_, ⟨?_, hkE, fun e he => ?_⟩, ⟨by rw [hf 9 (by omega) (by omega) (by omega)]; exact e1, by rw [hf 22 (by omega) (by omega) (by omega)]; exact e2⟩, RMk.eq f (fun k h1 h2 => hf k (by omega) (by omega) (by omega)) (fun a h1 h2 => hoo a (by omega) (by omega) (by omega) (by omega) (by omega))⟩
      · rw [hf 7 (by omega) (by omega) (by omega)]; show _ = nI (pD (xK X).2.1); rw [s1]; exact hP.1.1
      · rw [hf 14 (by omega) (by omega) (by omega)]; show _ = nI (pG (xK X).2.1); rw [hq.2.2]; exact hP.2.1.1
      · have hd' : dd < pD (xP X) := by have : dd < pD (xK X).2.1 := hd; omega
        rw [hoo 62 (by omega) (by omega) (by omega) (by omega) (by omega), hoo 63 (by omega) (by omega) (by omega) (by omega) (by omega)]
        show _ = pSt (xK X).2.1 dd ∧ _ = pPr (xK X).2.1 dd
        rw [(s3 dd hd').1, (s3 dd hd').2]
        exact hP.2.2.1 dd hd'
      · have hg' : g < pG (xK X).2.1 := hg
        obtain ⟨y1, y2, y3, y4⟩ := k5 g hg'
        have z64 : ∀ k, k < 10 → σ5.1 64 k = σ.1 71 k := fun k hk => by rw [h5 64 (by omega), q4.2.2.1 64 (by omega), q3.2.2.1 64 (by omega), q2.1 k hk, q1.2.2.1 71 (by omega)]
        refine ⟨by rw [z64 _ (by omega)]; exact y1, by rw [z64 _ (by omega)]; exact y2, fun dd hd => ?_⟩
        have hd' : dd < pD (xK X).2.1 := hd
        rw [h5 65 (by omega), q4.2.2.1 65 (by omega), q3.2.2.1 65 (by omega), q2.2.2.1 65 (by omega), q1.1 _ (by omega)]
        exact y4 dd hd'
      · rw [hf 8 (by omega) (by omega) (by omega)]; show _ = pLo (xK X).2.1; rw [s2]; exact b.2.1
      · rw [e5]; simp (disch := omega) only [stI_ne, stI_at]
      · rw [e5]; simp (disch := omega) only [stI_ne, stI_at]
      · have hg' : g < pG (xK X).2.1 := hg
        rw [h5 66 (by omega), q4.2.2.1 66 (by omega), q3.1 g (by omega), q2.2.2.1 72 (by omega), q1.2.2.1 72 (by omega)]
        exact (k5 g hg').2.2.1
      · rw [e5, stI_at]
      · have he' : e < (xK X).2.2.2.1 := he
        obtain ⟨y1, y3, y5⟩ := k6 e he'
        have z68 : ∀ k, k < 12 → σ5.1 68 k = σ.1 73 k := fun k hk => by rw [h5 68 (by omega), q4.1 k hk, q3.2.2.1 73 (by omega), q2.2.2.1 73 (by omega), q1.2.2.1 73 (by omega)]
        exact ⟨by rw [z68 _ (by omega)]; exact y1, (hkE2 e he').1, by rw [z68 _ (by omega)]; exact y3, (hkE2 e he').2, by rw [z68 _ (by omega)]; exact y5⟩
    · rw [e5]
      exact ((((((q1.frm (by omega)).trans (q2.frm (by omega))).trans (q3.frm (by omega))).trans (q4.frm (by omega))).st (by omega)).st (by omega)).st (by omega)
  refine go_aload_n dX9_restore_0 rfl rfl ?_
  refine go_getI flX9_55 fs_58_27 dX9_restore_1 ?_
  refine go_aload_n dX9_restore_4 rfl rfl ?_
  refine go_getI flX9_105 fs_58_9 dX9_restore_5 ?_
  rw [h.2.2.2.2.1.1]
  refine go_icmp_ne (tgt := 22) dX9_restore_8 (by decide) (fun c8 => ?_) (fun c8 => ?_)
  · refine go_bipush (v := (-103)) dX9_restore_22 rfl ?_
    refine go_iret rfl dX9_restore_24 ?_
    exact no (fun z => c8 (hkc.mpr ⟨z.1, z.2.1⟩))
  · refine go_aload_n dX9_restore_11 rfl rfl ?_
    refine go_getI flX9_222 fs_58_28 dX9_restore_12 ?_
    refine go_aload_n dX9_restore_15 rfl rfl ?_
    refine go_getI flX9_96 fs_58_14 dX9_restore_16 ?_
    rw [hP.2.1.1]
    refine go_icmp_eq (tgt := 25) dX9_restore_19 (by decide) (fun c19 => ?_) (fun c19 => ?_)
    · obtain ⟨z1, z2⟩ := hkc.mp c8
      obtain ⟨k1, k2, k3, k4, -, -⟩ := hk.2 z2 z1
      have hKG := (hI.2.2.2.2.2.2 z2 z1).2.2.2.1
      rw [k1, nI_eq (by omega) (by omega)] at c19
      have hq : 0 < xC X ∧ (xK X).1 = xC X ∧ pG (xK X).2.1 = pG (xP X) := ⟨z1, z2, c19⟩
      refine go_aload_n dX9_restore_25 rfl rfl ?_
      refine go_getR flX9_43 fs_58_32 dX9_restore_26 ?_
      refine go_aload_n dX9_restore_29 rfl rfl ?_
      refine go_getR flX9_28 fs_58_16 dX9_restore_30 ?_
      refine go_callSv csX9_215 (sm_copy 70 65 as_70 as_65 (by omega) (by omega)) (by omega) rfl rfl (Nat.le_of_ble_eq_true rfl) dX9_restore_33 (fun σ1 q1 => ?_)
      refine go_aload_n dX9_restore_36 rfl rfl ?_
      refine go_getR flX9_46 fs_58_33 dX9_restore_37 ?_
      refine go_aload_n dX9_restore_40 rfl rfl ?_
      refine go_getR flX9_25 fs_58_15 dX9_restore_41 ?_
      refine go_callSv csX9_215 (sm_copy 71 64 as_71 as_64 (by omega) (by omega)) (by omega) rfl rfl (Nat.le_of_ble_eq_true rfl) dX9_restore_44 (fun σ2 q2 => ?_)
      refine go_aload_n dX9_restore_47 rfl rfl ?_
      refine go_getR flX9_49 fs_58_34 dX9_restore_48 ?_
      refine go_aload_n dX9_restore_51 rfl rfl ?_
      refine go_getR flX9_31 fs_58_17 dX9_restore_52 ?_
      refine go_callSv csX9_215 (sm_copy 72 66 as_72 as_66 (by omega) (by omega)) (by omega) rfl rfl (Nat.le_of_ble_eq_true rfl) dX9_restore_55 (fun σ3 q3 => ?_)
      refine go_aload_n dX9_restore_58 rfl rfl ?_
      refine go_getR flX9_52 fs_58_35 dX9_restore_59 ?_
      refine go_aload_n dX9_restore_62 rfl rfl ?_
      refine go_getR flX9_37 fs_58_24 dX9_restore_63 ?_
      refine go_callSv csX9_215 (sm_copy 73 68 as_73 as_68 (by omega) (by omega)) (by omega) rfl rfl (Nat.le_of_ble_eq_true rfl) dX9_restore_66 (fun σ4 q4 => ?_)
      have h58 : σ4.1 58 = σ.1 58 := by rw [q4.2.2.1 58 (by omega), q3.2.2.1 58 (by omega), q2.2.2.1 58 (by omega), q1.2.2.1 58 (by omega)]
      refine go_aload_n dX9_restore_69 rfl rfl ?_
      refine go_aload_n dX9_restore_70 rfl rfl ?_
      refine go_getI flX9_225 fs_58_29 dX9_restore_71 ?_
      rw [h58, k2]
      refine go_putI fwX9_59 fs_58_10 dX9_restore_74 ?_
      refine go_aload_n dX9_restore_77 rfl rfl ?_
      refine go_aload_n dX9_restore_78 rfl rfl ?_
      refine go_getI flX9_228 fs_58_30 dX9_restore_79 ?_
      rw [stI_ne (by omega), h58, k3]
      refine go_putI fwX9_102 fs_58_11 dX9_restore_82 ?_
      refine go_aload_n dX9_restore_85 rfl rfl ?_
      refine go_aload_n dX9_restore_86 rfl rfl ?_
      refine go_getI flX9_231 fs_58_31 dX9_restore_87 ?_
      rw [stI_ne (by omega), stI_ne (by omega), h58, k4]
      refine go_putI fwX9_99 fs_58_23 dX9_restore_90 ?_
      refine go_aload_n dX9_restore_93 rfl rfl ?_
      refine go_callVp cvX9_162 os_58 (sm_ordered (P := (xK X).2.1) (h := (xK X).2.2.1) (by have z := (fin hq σ1 σ2 σ3 σ4 q1 q2 q3 q4 _ rfl).1.2.1.1; unfold tRestore at z; rw [if_pos hq] at z; exact z) (by have z := (fin hq σ1 σ2 σ3 σ4 q1 q2 q3 q4 _ rfl).1.2.2.1; unfold tRestore at z; rw [if_pos hq] at z; exact z)) (by omega) rfl rfl (Nat.le_of_ble_eq_true rfl) dX9_restore_94 ?_
      refine go_iret rfl dX9_restore_97 ?_
      exact ⟨by unfold aRestore; rw [if_pos hq], fin hq σ1 σ2 σ3 σ4 q1 q2 q3 q4 _ rfl⟩
    · obtain ⟨z1, z2⟩ := hkc.mp c8
      obtain ⟨k1, -⟩ := hk.2 z2 z1
      refine go_bipush (v := (-103)) dX9_restore_22 rfl ?_
      refine go_iret rfl dX9_restore_24 ?_
      exact no (fun z => c19 (by rw [k1, z.2.2]))
