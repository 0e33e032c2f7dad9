/-! the model's public methods (6) -/
set_option maxHeartbeats 2000000 in
theorem sm_countOf {Γ : Gm} {σ : Mm} {X : Xs} {N : Nat} {a : Int32} (hI : XI N X) (h : RM σ X) : Sp Γ 3 mX9_countOf [rf Γ 58, .int a] σ (aP (aCount X a) σ) := by
  refine sp_in (L := [some (rf Γ 58), some (.int a)]) rfl (Nat.le_of_ble_eq_true rfl) rfl ?_
  have hP := h.2.1.1
  have hG := hP.2.1.2
  refine go_iload_n dX9_countOf_0 rfl rfl ?_
  rcases sw8 a with hsw | rfl | rfl | rfl | rfl | rfl | rfl | rfl | rfl | rfl
  · refine go_tabOut (tgt := 101) dX9_countOf_1 hsw (by decide) ?_
    refine go_bipush (v := (-102)) dX9_countOf_101 rfl ?_
    refine go_iret rfl dX9_countOf_103 ?_
    exact ⟨by unfold aCount; rw [swo (n := 8) (by omega) hsw], rfl⟩
  · refine go_tabIn (off := 51) (tgt := 52) dX9_countOf_1 (by decide) (by decide) (by decide) (by decide) ?_
    refine go_aload_n dX9_countOf_52 rfl rfl ?_
    refine go_getI flX9_90 fs_58_7 dX9_countOf_53 ?_
    rw [hP.1.1]
    refine go_iret rfl dX9_countOf_56 ?_
    exact ⟨by unfold aCount; rfl, rfl⟩
  · refine go_tabIn (off := 56) (tgt := 57) dX9_countOf_1 (by decide) (by decide) (by decide) (by decide) ?_
    refine go_aload_n dX9_countOf_57 rfl rfl ?_
    refine go_getI flX9_93 fs_58_8 dX9_countOf_58 ?_
    rw [h.2.1.2.1]
    refine go_iret rfl dX9_countOf_61 ?_
    exact ⟨by unfold aCount; rfl, rfl⟩
  · refine go_tabIn (off := 61) (tgt := 62) dX9_countOf_1 (by decide) (by decide) (by decide) (by decide) ?_
    refine go_aload_n dX9_countOf_62 rfl rfl ?_
    refine go_getI flX9_96 fs_58_14 dX9_countOf_63 ?_
    rw [hP.2.1.1]
    refine go_iret rfl dX9_countOf_66 ?_
    exact ⟨by unfold aCount; rfl, rfl⟩
  · refine go_tabIn (off := 66) (tgt := 67) dX9_countOf_1 (by decide) (by decide) (by decide) (by decide) ?_
    refine go_aload_n dX9_countOf_67 rfl rfl ?_
    refine go_callVp cvX9_162 os_58 (sm_ordered hP h.2.2.1) (by omega) rfl rfl (Nat.le_of_ble_eq_true rfl) dX9_countOf_68 ?_
    refine go_iret rfl dX9_countOf_71 ?_
    exact ⟨by unfold aCount; rfl, rfl⟩
  · refine go_tabIn (off := 71) (tgt := 72) dX9_countOf_1 (by decide) (by decide) (by decide) (by decide) ?_
    refine go_aload_n dX9_countOf_72 rfl rfl ?_
    refine go_aload_n dX9_countOf_73 rfl rfl ?_
    refine go_getR flX9_31 fs_58_17 dX9_countOf_74 ?_
    refine go_callVp cvX9_169 os_58 (sm_joyAll isR66 hP h.2.2.1 (fun g hg => row_neg (hI.2.1.2.2.2.2.2.2.2.1.1 g (by omega)))) (by omega) rfl rfl (Nat.le_of_ble_eq_true rfl) dX9_countOf_77 ?_
    refine go_iret rfl dX9_countOf_80 ?_
    exact ⟨by unfold aCount; rfl, rfl⟩
  · refine go_tabIn (off := 80) (tgt := 81) dX9_countOf_1 (by decide) (by decide) (by decide) (by decide) ?_
    refine go_aload_n dX9_countOf_81 rfl rfl ?_
    refine go_getI flX9_99 fs_58_23 dX9_countOf_82 ?_
    rw [h.2.2.2.1.1]
    refine go_iret rfl dX9_countOf_85 ?_
    exact ⟨by unfold aCount; rfl, rfl⟩
  · refine go_tabIn (off := 85) (tgt := 86) dX9_countOf_1 (by decide) (by decide) (by decide) (by decide) ?_
    refine go_aload_n dX9_countOf_86 rfl rfl ?_
    refine go_getI flX9_68 fs_58_1 dX9_countOf_87 ?_
    rw [h.1.1]
    refine go_iret rfl dX9_countOf_90 ?_
    exact ⟨by unfold aCount; rfl, rfl⟩
  · refine go_tabIn (off := 90) (tgt := 91) dX9_countOf_1 (by decide) (by decide) (by decide) (by decide) ?_
    refine go_aload_n dX9_countOf_91 rfl rfl ?_
    refine go_getI flX9_105 fs_58_9 dX9_countOf_92 ?_
    rw [h.2.2.2.2.1.1]
    refine go_iret rfl dX9_countOf_95 ?_
    exact ⟨by unfold aCount; rfl, rfl⟩
  · refine go_tabIn (off := 95) (tgt := 96) dX9_countOf_1 (by decide) (by decide) (by decide) (by decide) ?_
    refine go_aload_n dX9_countOf_96 rfl rfl ?_
    refine go_getI flX9_176 fs_58_22 dX9_countOf_97 ?_
    rw [h.2.2.2.2.1.2]
    refine go_iret rfl dX9_countOf_100 ?_
    exact ⟨by unfold aCount; rfl, rfl⟩
set_option maxHeartbeats 1000000 in
theorem sm_count {Γ : Gm} {σ : Mm} {X : Xs} {N : Nat} {a : Int32} (hI : XI N X) (h : RM σ X) : Sp Γ 4 mX9_count [rf Γ 58, .int a] σ (aP (aCount X a) σ) := by
  refine sp_in (L := [some (rf Γ 58), some (.int a)]) rfl (Nat.le_of_ble_eq_true rfl) rfl ?_
  refine go_aload_n dX9_count_0 rfl rfl ?_
  refine go_iload_n dX9_count_1 rfl rfl ?_
  refine go_callVp cvX9_234 os_58 (sm_countOf hI h) (by omega) rfl rfl (Nat.le_of_ble_eq_true rfl) dX9_count_2 ?_
  refine go_iret rfl dX9_count_5 ?_
  exact ⟨rfl, rfl⟩
set_option maxHeartbeats 2000000 in
theorem sm_atOnce {Γ : Gm} {σ : Mm} {X : Xs} {N : Nat} {a : Int32} (hI : XI N X) (hh : 0 < pD (xP X) → atA (xP X) (pD (xP X) ^ pG (xP X)) = atM (xP X)) (h : RM σ X) : Sp Γ 4 mX9_atOnce [rf Γ 58, .int a] σ (aI (aAtOnce X a) (fun σ' => RM σ' (tAtOnce X a) ∧ FrM σ σ')) := by
  refine sp_in (L := [some (rf Γ 58), some (.int a), none, none, none, none, none]) rfl (Nat.le_of_ble_eq_true rfl) rfl ?_
  have hP := h.2.1.1
  have hA := hI.2.2.2.2.1
  have hbx := inR_ix (k := 1) (a := a) (by omega)
  cases hi : ix 2 a with
  | none =>
    rw [hi] at hbx
    refine go_iload_n dX9_atOnce_0 rfl rfl ?_
    refine go_i2l dX9_atOnce_1 ?_
    refine go_lconst (v := 0) dX9_atOnce_2 rfl ?_
    refine go_lconst (v := 1) dX9_atOnce_3 rfl ?_
    refine go_callSp csX9_64 (sm_in (lo := nI 0) (hi := nI 1) rfl rfl rfl) (by omega) rfl rfl (Nat.le_of_ble_eq_true rfl) dX9_atOnce_4 ?_
    rw [hbx]
    refine go_if_ne (tgt := 13) dX9_atOnce_7 (by decide) (fun c7 => ?_) (fun c7 => ?_)
    · exact absurd rfl c7
    · refine go_bipush (v := (-102)) dX9_atOnce_10 rfl ?_
      refine go_iret rfl dX9_atOnce_12 ?_
      exact ⟨by unfold aAtOnce; rw [hi], by unfold tAtOnce; rw [hi]; exact h.q OM.rf⟩
  | some w =>
    obtain ⟨hw, rfl⟩ := ix_some (by omega) hi
    rw [hi] at hbx
    have no : (pD (xP X) = 0 ∨ 20 ≤ xA X) → aI (aAtOnce X (nI w)) (fun σ' => RM σ' (tAtOnce X (nI w)) ∧ FrM σ σ') (some (.int (-103))) σ := fun q => ⟨by unfold aAtOnce; rw [hi]; simp only [if_pos q], by unfold tAtOnce; rw [hi]; simp only [if_pos q]; exact h.q OM.rf⟩
    have h1 : ¬ (pD (xP X) = 0 ∨ 20 ≤ xA X) → RM (stI σ 58 22 (nI (xA X + 1))) (setA X (xA X + 1)) := by
      intro q
      obtain ⟨⟨a1, a2⟩, b, c, d, ⟨e1, e2⟩, f⟩ := h
      have ho : ∀ x, x ≠ 58 → (stI σ 58 22 (nI (xA X + 1))).1 x = σ.1 x := fun x hx => funext fun y => stI_ne (Or.inl hx)
      have hf : ∀ k, k ≠ 22 → (stI σ 58 22 (nI (xA X + 1))).1 58 k = σ.1 58 k := fun k hk => stI_ne (by omega)
      exact ⟨⟨by rw [hf 1 (by omega)]; exact a1, fun k hk => by rw [ho 59 (by omega)]; exact a2 k hk⟩, b.eq (fun k hk => hf k (by omega)) (fun a h1 h2 => ho a (by omega)), fun g hg => by rw [ho 66 (by omega)]; exact c g hg, d.eq (hf 23 (by omega)) (ho 68 (by omega)), ⟨by rw [hf 9 (by omega)]; exact e1, stI_at⟩, RMk.eq f (fun k h1 h2 => hf k (by omega)) (fun a h1 h2 => ho a (by omega))⟩
    refine go_iload_n dX9_atOnce_0 rfl rfl ?_
    refine go_i2l dX9_atOnce_1 ?_
    refine go_lconst (v := 0) dX9_atOnce_2 rfl ?_
    refine go_lconst (v := 1) dX9_atOnce_3 rfl ?_
    refine go_callSp csX9_64 (sm_in (lo := nI 0) (hi := nI 1) rfl rfl rfl) (by omega) rfl rfl (Nat.le_of_ble_eq_true rfl) dX9_atOnce_4 ?_
    rw [hbx]
    refine go_if_ne (tgt := 13) dX9_atOnce_7 (by decide) (fun c7 => ?_) (fun c7 => ?_)
    · refine go_aload_n dX9_atOnce_13 rfl rfl ?_
      refine go_callVp cvX9_121 os_58 (sm_lacks hP) (by omega) rfl rfl (Nat.le_of_ble_eq_true rfl) dX9_atOnce_14 ?_
      refine go_if_ne (tgt := 29) dX9_atOnce_17 (by decide) (fun c17 => ?_) (fun c17 => ?_)
      · have c17 : pD (xP X) = 0 := by have := bI_ne0.mp c17; simpa using this
        refine go_bipush (v := (-103)) dX9_atOnce_29 rfl ?_
        refine go_iret rfl dX9_atOnce_31 ?_
        exact no (Or.inl c17)
      · have c17 : ¬ pD (xP X) = 0 := by have := bI_eq0.mp c17; simpa using this
        refine go_aload_n dX9_atOnce_20 rfl rfl ?_
        refine go_getI flX9_176 fs_58_22 dX9_atOnce_21 ?_
        rw [h.2.2.2.2.1.2]
        refine go_bipush (v := nI 20) dX9_atOnce_24 rfl ?_
        refine go_icmp_ne (tgt := 32) dX9_atOnce_26 (by decide) (fun c26 => ?_) (fun c26 => ?_)
        · rw [nI_eq (by omega) (by omega)] at c26
          refine go_aload_n dX9_atOnce_32 rfl rfl ?_
          refine go_dup dX9_atOnce_33 rfl ?_
          refine go_getI flX9_176 fs_58_22 dX9_atOnce_34 ?_
          rw [h.2.2.2.2.1.2]
          refine go_iconst (v := nI 1) dX9_atOnce_37 rfl ?_
          refine go_iadd dX9_atOnce_38 ?_
          rw [nI_add]
          refine go_putI fwX9_176 fs_58_22 dX9_atOnce_39 ?_
          refine go_aload_n dX9_atOnce_42 rfl rfl ?_
          refine go_callVv cvX9_156 os_58 (sm_asItIs (h1 (fun z => by rcases z with z | z; exact c17 z; exact c26 (by omega))).2.1) (by omega) rfl rfl (Nat.le_of_ble_eq_true rfl) dX9_atOnce_43 (fun σ1 q1 => ?_)
          refine go_iconst (v := nI 0) dX9_atOnce_46 rfl ?_
          refine go_istore_n (L' := [_, _, _, _, _, _, _]) dX9_atOnce_47 rfl (by decide) rfl rfl ?_
          refine go_iconst (v := (-1)) dX9_atOnce_48 rfl ?_
          refine go_istore_n (L' := [_, _, _, _, _, _, _]) dX9_atOnce_49 rfl (by decide) rfl rfl ?_
          refine go_iconst (v := nI 0) dX9_atOnce_50 rfl ?_
          refine go_istore (L' := [_, _, _, _, _, _, _]) dX9_atOnce_51 (by decide) rfl rfl ?_
          have hq : ¬ (pD (xP X) = 0 ∨ 20 ≤ xA X) := fun z => by rcases z with z | z; exact c17 z; exact c26 (by omega)
          have hR := h1 hq
          have hP1 : MP σ1 (xP X) := hR.2.1.1.om q1.2.1
          refine go_mono (fun v σ' q => ⟨?_, ?_, ?_⟩) (lp_atC1 (Γ := Γ) (w := nI w) hP1 q1.1 (by omega) (pD (xP X) ^ pG (xP X)) 0 σ1 (by omega) O67.rf)
          · rw [q.1, hh (by omega)]
            unfold aAtOnce
            rw [hi]
            simp only [if_neg hq]
            by_cases z : w = 0
            · subst z; rfl
            · rw [if_neg z, if_neg (fun y => z ((nI_z (by omega)).mp y))]
          · unfold tAtOnce
            rw [hi]
            simp only [if_neg hq]
            exact (hR.om q1.2.1).om q.2.om
          · exact ((FrM.rf.st (by omega)).trans q1.2.1.frm).trans q.2.om.frm
        · rw [nI_eq (by omega) (by omega)] at c26
          refine go_bipush (v := (-103)) dX9_atOnce_29 rfl ?_
          refine go_iret rfl dX9_atOnce_31 ?_
          exact no (Or.inr (by omega))
    · exact absurd c7 bt0
set_option maxHeartbeats 1000000 in
theorem lp_guestM {Γ : Gm} {σ : Mm} {g : Nat} {x1 x2 : Int32} {Q : Option Value → Mm → Prop} (hg : g < 5) (h14 : σ.1 58 14 = nI g)
    (next : ∀ σ', (∀ k, k < 6 → σ'.1 65 (6 * g + k) = 0) → (∀ k, k < 6 * g → σ'.1 65 k = σ.1 65 k) → (∀ a, a ≠ 65 → σ'.1 a = σ.1 a) → σ'.2 = σ.2 → Go Γ 2 mX9_guest Q 114 [some (rf Γ 58), some (.int x1), some (.int x2), none] [] σ') :
    ∀ (m k : Nat) (σ' : Mm), k + m = 6 → (∀ j, j < k → σ'.1 65 (6 * g + j) = 0) → (∀ k, k < 6 * g → σ'.1 65 k = σ.1 65 k) → (∀ a, a ≠ 65 → σ'.1 a = σ.1 a) → σ'.2 = σ.2 → Go Γ 2 mX9_guest Q 87 [some (rf Γ 58), some (.int x1), some (.int x2), some (.int (nI k))] [] σ' := by
  intro m
  induction m with
  | zero =>
    intro k σ' hk h1 h2 h3 h4
    have e : k = 6 := by omega
    subst e
    refine go_iload_n dX9_guest_87 rfl rfl ?_
    refine go_bipush (v := nI 6) dX9_guest_88 rfl ?_
    refine go_icmp_ge (tgt := 114) dX9_guest_90 (by decide) (fun c90 => ?_) (fun c90 => ?_)
    · exact go_sub [true, true, true, false] rfl (next σ' h1 h2 h3 h4)
    · exact absurd (Int32.le_refl _) c90
  | succ m ih =>
    intro k σ' hk h1 h2 h3 h4
    refine go_iload_n dX9_guest_87 rfl rfl ?_
    refine go_bipush (v := nI 6) dX9_guest_88 rfl ?_
    refine go_icmp_ge (tgt := 114) dX9_guest_90 (by decide) (fun c90 => ?_) (fun c90 => ?_)
    · exact absurd c90 (nI_ge (by omega) (by omega))
    · refine go_aload_n dX9_guest_93 rfl rfl ?_
      refine go_getR flX9_28 fs_58_16 dX9_guest_94 ?_
      refine go_bipush (v := nI 6) dX9_guest_97 rfl ?_
      refine go_aload_n dX9_guest_99 rfl rfl ?_
      refine go_getI flX9_96 fs_58_14 dX9_guest_100 ?_
      rw [h3 58 (by omega), h14]
      refine go_imul dX9_guest_103 ?_
      refine go_iload_n dX9_guest_104 rfl rfl ?_
      refine go_iadd dX9_guest_105 ?_
      refine go_iconst (v := nI 0) dX9_guest_106 rfl ?_
      refine go_iast ((6 * g) + k) (by simp only [pk_mul, nI_add]) as_65 (by omega) (by decide) dX9_guest_107 ?_
      refine go_iinc (v := nI (k + 1)) (L' := [_, _, _, _]) dX9_guest_108 rfl (nI_1 _) (by decide) rfl rfl ?_
      refine go_goto (tgt := 87) dX9_guest_111 (by decide) ?_
      refine ih (k + 1) _ (by omega) (fun j hj => ?_) (fun j hj => ?_) (fun a ha => ?_) h4
      · by_cases q : j = k
        · subst q; rw [stI_at]; rfl
        · rw [stI_ne (by omega)]; exact h1 j (by omega)
      · rw [stI_ne (by omega)]; exact h2 j hj
      · exact (funext fun y => stI_ne (Or.inl ha)).trans (h3 a ha)
set_option maxHeartbeats 2000000 in
theorem sm_guest {Γ : Gm} {σ : Mm} {X : Xs} {N : Nat} {a b : Int32} (hI : XI N X) (h : RM σ X) : Sp Γ 2 mX9_guest [rf Γ 58, .int a, .int b] σ (aI (aGuest X a b) (fun σ' => RM σ' (tGuest X a b) ∧ FrM σ σ')) := by
  refine sp_in (L := [some (rf Γ 58), some (.int a), some (.int b), none]) rfl (Nat.le_of_ble_eq_true rfl) rfl ?_
  have hP := h.2.1.1
  have hD := hP.1.2
  have hG := hP.2.1.2
  have hg14 := hP.2.1.1
  have hw : xH X (pG (xP X)) = -2 := hI.2.1.2.2.2.2.2.2.2.1.2 _ (Nat.le_refl _)
  have bad : (inR (nI 0) (nI 4) a && inR (nI 1) (nI 9) b) = false → aI (aGuest X a b) (fun σ' => RM σ' (tGuest X a b) ∧ FrM σ σ') (some (.int (-102))) σ := fun q => ⟨by unfold aGuest; rw [q]; rfl, by unfold tGuest; rw [if_neg (fun z => by rw [q] at z; cases z.1)]; exact h.q OM.rf⟩
  have n114 : (inR (nI 0) (nI 4) a && inR (nI 1) (nI 9) b) = true ∧ pD (xP X) ≠ 0 ∧ pG (xP X) < 5 → ∀ σ', (∀ k, k < 6 → σ'.1 65 (6 * pG (xP X) + k) = 0) → (∀ k, k < 6 * pG (xP X) → σ'.1 65 k = σ.1 65 k) → (∀ c, c ≠ 65 → σ'.1 c = (stI (stI (stI σ 64 (2 * pG (xP X)) a) 64 (2 * pG (xP X) + 1) b) 66 (pG (xP X)) (-2)).1 c) → σ'.2 = σ.2 → Go Γ 2 mX9_guest (aI (aGuest X a b) (fun σ' => RM σ' (tGuest X a b) ∧ FrM σ σ')) 114 [some (rf Γ 58), some (.int a), some (.int b), none] [] σ' := by
    intro hq σ' w1 w2 w3 w4
    have e14 : σ'.1 58 14 = nI (pG (xP X)) := by rw [w3 58 (by omega)]; simp (disch := omega) only [stI_ne]; exact hg14
    refine go_aload_n dX9_guest_114 rfl rfl ?_
    refine go_dup dX9_guest_115 rfl ?_
    refine go_getI flX9_96 fs_58_14 dX9_guest_116 ?_
    rw [e14]
    refine go_iconst (v := nI 1) dX9_guest_119 rfl ?_
    refine go_iadd dX9_guest_120 ?_
    rw [nI_add]
    refine go_putI fwX9_96 fs_58_14 dX9_guest_121 ?_
    refine go_aload_n dX9_guest_124 rfl rfl ?_
    refine go_getI flX9_96 fs_58_14 dX9_guest_125 ?_
    rw [stI_at]
    refine go_iconst (v := nI 1) dX9_guest_128 rfl ?_
    refine go_isub dX9_guest_129 ?_
    rw [pk_sub (show 1 ≤ pG (xP X) + 1 by omega)]
    refine go_iret rfl dX9_guest_130 ?_
    have ho : ∀ c, c ≠ 58 → c ≠ 64 → c ≠ 65 → c ≠ 66 → (stI σ' 58 14 (nI (pG (xP X) + 1))).1 c = σ.1 c := fun c h1 h2 h3 h4 => by
      refine (funext fun y => stI_ne (Or.inl h1)).trans ((w3 c h3).trans (funext fun y => ?_))
      simp (disch := omega) only [stI_ne]
    have hf : ∀ k, k ≠ 14 → (stI σ' 58 14 (nI (pG (xP X) + 1))).1 58 k = σ.1 58 k := fun k hk => by
      rw [stI_ne (by omega), w3 58 (by omega)]
      simp (disch := omega) only [stI_ne]
    refine ⟨by unfold aGuest; rw [if_pos hq.1, if_neg hq.2.1, if_pos hq.2.2]; rfl, ?_, ⟨fun c hc => ho c (by omega) (by omega) (by omega) (by omega), fun c hc => by show σ'.2 c = σ.2 c; rw [w4]⟩⟩
    unfold tGuest
    rw [if_pos hq]
    obtain ⟨⟨⟨p1, p2⟩, ⟨p3, p4⟩, p5, p6⟩, m1, m2, m3⟩ := h.2.1
    refine h.party ho (fun k _ _ hk => hf k hk) ⟨⟨⟨by rw [hf 7 (by omega)]; exact p1, p2⟩, ⟨stI_at, by show pG (xP X) + 1 ≤ 5; omega⟩, fun d hd => by rw [ho 62 (by omega) (by omega) (by omega) (by omega), ho 63 (by omega) (by omega) (by omega) (by omega)]; exact p5 d hd, fun g hg => ?_⟩, by rw [hf 8 (by omega)]; exact m1, by rw [hf 10 (by omega)]; exact m2, by rw [hf 11 (by omega)]; exact m3⟩ (fun g hg => ?_) (Nat.le_succ _)
    · have hg' : g < pG (xP X) + 1 := hg
      show _ = upd (pKi (xP X)) (pG (xP X)) a g ∧ _ = upd (pPu (xP X)) (pG (xP X)) b g ∧ ∀ d, d < pD (xP X) → _ = if g = pG (xP X) then 0 else pWa (xP X) g d
      rw [show (stI σ' 58 14 (nI (pG (xP X) + 1))).1 64 = (stI (stI (stI σ 64 (2 * pG (xP X)) a) 64 (2 * pG (xP X) + 1) b) 66 (pG (xP X)) (-2)).1 64 from (funext fun y => stI_ne (Or.inl (by omega))).trans (w3 64 (by omega))]
      by_cases q : g = pG (xP X)
      · subst q
        refine ⟨?_, ?_, fun d hd => ?_⟩
        · simp (disch := omega) only [stI_ne, stI_at, upd, if_true]
        · simp (disch := omega) only [stI_ne, stI_at, upd, if_true]
        · rw [stI_ne (by omega), w1 d (by omega), if_pos rfl]
      · obtain ⟨y1, y2, y3⟩ := p6 g (by omega)
        refine ⟨?_, ?_, fun d hd => ?_⟩
        · simp (disch := omega) only [stI_ne, upd, if_neg q]; exact y1
        · simp (disch := omega) only [stI_ne, upd, if_neg q]; exact y2
        · rw [stI_ne (by omega), w2 _ (by omega), if_neg q]; exact y3 d hd
    · have hg' : g < pG (xP X) + 1 := hg
      rw [stI_ne (by omega), w3 66 (by omega)]
      by_cases q : g = pG (xP X)
      · subst q; rw [stI_at, hw]
      · simp (disch := omega) only [stI_ne]; exact h.2.2.1 g (by omega)
  refine go_iload_n dX9_guest_0 rfl rfl ?_
  refine go_i2l dX9_guest_1 ?_
  refine go_lconst (v := 0) dX9_guest_2 rfl ?_
  refine go_ldc2 (v := 4) dX9_guest_3 klX9_119 ?_
  refine go_callSp csX9_64 (sm_in (lo := nI 0) (hi := nI 4) rfl rfl rfl) (by omega) rfl rfl (Nat.le_of_ble_eq_true rfl) dX9_guest_6 ?_
  refine go_if_eq (tgt := 24) dX9_guest_9 (by decide) (fun c9 => ?_) (fun c9 => ?_)
  · refine go_bipush (v := (-102)) dX9_guest_24 rfl ?_
    refine go_iret rfl dX9_guest_26 ?_
    exact bad (by rw [bI_eq0.mp c9]; rfl)
  · refine go_iload_n dX9_guest_12 rfl rfl ?_
    refine go_i2l dX9_guest_13 ?_
    refine go_lconst (v := 1) dX9_guest_14 rfl ?_
    refine go_ldc2 (v := 9) dX9_guest_15 klX9_77 ?_
    refine go_callSp csX9_64 (sm_in (lo := nI 1) (hi := nI 9) rfl rfl rfl) (by omega) rfl rfl (Nat.le_of_ble_eq_true rfl) dX9_guest_18 ?_
    refine go_if_ne (tgt := 27) dX9_guest_21 (by decide) (fun c21 => ?_) (fun c21 => ?_)
    · refine go_aload_n dX9_guest_27 rfl rfl ?_
      refine go_callVp cvX9_121 os_58 (sm_lacks hP) (by omega) rfl rfl (Nat.le_of_ble_eq_true rfl) dX9_guest_28 ?_
      refine go_if_eq (tgt := 37) dX9_guest_31 (by decide) (fun c31 => ?_) (fun c31 => ?_)
      · have c31 : ¬ pD (xP X) = 0 := by have := bI_eq0.mp c31; simpa using this
        refine go_aload_n dX9_guest_37 rfl rfl ?_
        refine go_getI flX9_96 fs_58_14 dX9_guest_38 ?_
        rw [hg14]
        refine go_iconst (v := nI 5) dX9_guest_41 rfl ?_
        refine go_icmp_ne (tgt := 48) dX9_guest_42 (by decide) (fun c42 => ?_) (fun c42 => ?_)
        · rw [nI_eq (by omega) (by omega)] at c42
          refine go_aload_n dX9_guest_48 rfl rfl ?_
          refine go_getR flX9_25 fs_58_15 dX9_guest_49 ?_
          refine go_iconst (v := nI 2) dX9_guest_52 rfl ?_
          refine go_aload_n dX9_guest_53 rfl rfl ?_
          refine go_getI flX9_96 fs_58_14 dX9_guest_54 ?_
          rw [hg14]
          refine go_imul dX9_guest_57 ?_
          refine go_iload_n dX9_guest_58 rfl rfl ?_
          refine go_iast (2 * pG (xP X)) (by simp only [pk_mul]) as_64 (by omega) (by decide) dX9_guest_59 ?_
          refine go_aload_n dX9_guest_60 rfl rfl ?_
          refine go_getR flX9_25 fs_58_15 dX9_guest_61 ?_
          refine go_iconst (v := nI 2) dX9_guest_64 rfl ?_
          refine go_aload_n dX9_guest_65 rfl rfl ?_
          refine go_getI flX9_96 fs_58_14 dX9_guest_66 ?_
          rw [stI_ne (by omega), hg14]
          refine go_imul dX9_guest_69 ?_
          refine go_iconst (v := nI 1) dX9_guest_70 rfl ?_
          refine go_iadd dX9_guest_71 ?_
          refine go_iload_n dX9_guest_72 rfl rfl ?_
          refine go_iast (2 * pG (xP X) + 1) (by simp only [pk_mul, nI_add]) as_64 (by omega) (by decide) dX9_guest_73 ?_
          refine go_aload_n dX9_guest_74 rfl rfl ?_
          refine go_getR flX9_31 fs_58_17 dX9_guest_75 ?_
          refine go_aload_n dX9_guest_78 rfl rfl ?_
          refine go_getI flX9_96 fs_58_14 dX9_guest_79 ?_
          rw [stI_ne (by omega), stI_ne (by omega), hg14]
          refine go_bipush (v := (-2)) dX9_guest_82 rfl ?_
          refine go_iast (pG (xP X)) rfl as_66 (by omega) (by decide) dX9_guest_84 ?_
          refine go_iconst (v := nI 0) dX9_guest_85 rfl ?_
          refine go_istore_n (L' := [_, _, _, _]) dX9_guest_86 rfl (by decide) rfl rfl ?_
          have hq : (inR (nI 0) (nI 4) a && inR (nI 1) (nI 9) b) = true ∧ pD (xP X) ≠ 0 ∧ pG (xP X) < 5 := ⟨by rw [bI_ne0.mp c9, bI_ne0.mp c21]; rfl, c31, by omega⟩
          refine lp_guestM (g := pG (xP X)) (σ := stI (stI (stI σ 64 (2 * pG (xP X)) a) 64 (2 * pG (xP X) + 1) b) 66 (pG (xP X)) (-2)) (by omega) (by simp (disch := omega) only [stI_ne]; exact hg14) (fun σ' w1 w2 w3 w4 => n114 hq σ' w1 (fun k hk => by rw [w2 k hk]; simp (disch := omega) only [stI_ne]) w3 w4) 6 0 _ rfl (fun j hj => absurd hj (Nat.not_lt_zero j)) (fun _ _ => rfl) (fun _ _ => rfl) rfl
        · rw [nI_eq (by omega) (by omega)] at c42
          refine go_bipush (v := (-104)) dX9_guest_45 rfl ?_
          refine go_iret rfl dX9_guest_47 ?_
          exact ⟨by unfold aGuest; rw [bI_ne0.mp c9, bI_ne0.mp c21]; simp [c31, show ¬ pG (xP X) < 5 by omega], by unfold tGuest; rw [if_neg (fun z => by omega)]; exact h.q OM.rf⟩
      · have c31 : pD (xP X) = 0 := by have := bI_ne0.mp c31; simpa using this
        refine go_bipush (v := (-103)) dX9_guest_34 rfl ?_
        refine go_iret rfl dX9_guest_36 ?_
        exact ⟨by unfold aGuest; rw [bI_ne0.mp c9, bI_ne0.mp c21]; simp [c31], by unfold tGuest; rw [if_neg (fun z => z.2.1 c31)]; exact h.q OM.rf⟩
    · refine go_bipush (v := (-102)) dX9_guest_24 rfl ?_
      refine go_iret rfl dX9_guest_26 ?_
      exact bad (by rw [bI_eq0.mp c21, Bool.and_false])
