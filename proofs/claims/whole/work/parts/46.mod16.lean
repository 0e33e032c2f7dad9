/-! the model's card -/
set_option maxHeartbeats 1000000 in
theorem lp_cardM {Γ : Gm} {σ : Mm} {Q : Option Value → Mm → Prop}
    (next : ∀ σ', (∀ j, j < 6 → σ'.1 62 j = σ.1 60 j ∧ σ'.1 63 j = σ.1 61 j) → (∀ a, a ≠ 62 → a ≠ 63 → σ'.1 a = σ.1 a) → σ'.2 = σ.2 → Go Γ 4 mX9_card Q 60 [some (rf Γ 58), none] [] σ') :
    ∀ (m k : Nat) (σ' : Mm), k + m = 6 → (∀ j, j < k → σ'.1 62 j = σ.1 60 j ∧ σ'.1 63 j = σ.1 61 j) → (∀ a, a ≠ 62 → a ≠ 63 → σ'.1 a = σ.1 a) → σ'.2 = σ.2 → Go Γ 4 mX9_card Q 24 [some (rf Γ 58), some (.int (nI k))] [] σ' := by
  intro m
  induction m with
  | zero =>
    intro k σ' hk h1 h2 h3
    have e : k = 6 := by omega
    subst e
    refine go_iload_n dX9_card_24 rfl rfl ?_
    refine go_bipush (v := nI 6) dX9_card_25 rfl ?_
    refine go_icmp_ge (tgt := 60) dX9_card_27 (by decide) (fun c27 => ?_) (fun c27 => ?_)
    · exact go_sub [true, false] rfl (next σ' h1 h2 h3)
    · exact absurd (Int32.le_refl _) c27
  | succ m ih =>
    intro k σ' hk h1 h2 h3
    refine go_iload_n dX9_card_24 rfl rfl ?_
    refine go_bipush (v := nI 6) dX9_card_25 rfl ?_
    refine go_icmp_ge (tgt := 60) dX9_card_27 (by decide) (fun c27 => ?_) (fun c27 => ?_)
    · exact absurd c27 (nI_ge (by omega) (by omega))
    · refine go_aload_n dX9_card_30 rfl rfl ?_
      refine go_getR flX9_19 fs_58_12 dX9_card_31 ?_
      refine go_iload_n dX9_card_34 rfl rfl ?_
      refine go_aload_n dX9_card_35 rfl rfl ?_
      refine go_getR flX9_13 fs_58_2 dX9_card_36 ?_
      refine go_iload_n dX9_card_39 rfl rfl ?_
      refine go_iald (k) rfl as_60 (by omega) (by decide) dX9_card_40 ?_
      rw [h2 60 (by omega) (by omega)]
      refine go_iast (k) rfl as_62 (by omega) (by decide) dX9_card_41 ?_
      refine go_aload_n dX9_card_42 rfl rfl ?_
      refine go_getR flX9_22 fs_58_13 dX9_card_43 ?_
      refine go_iload_n dX9_card_46 rfl rfl ?_
      refine go_aload_n dX9_card_47 rfl rfl ?_
      refine go_getR flX9_16 fs_58_3 dX9_card_48 ?_
      refine go_iload_n dX9_card_51 rfl rfl ?_
      refine go_iald (k) rfl as_61 (by omega) (by decide) dX9_card_52 ?_
      rw [stI_ne (by omega), h2 61 (by omega) (by omega)]
      refine go_iast (k) rfl as_63 (by omega) (by decide) dX9_card_53 ?_
      refine go_iinc (v := nI (k + 1)) (L' := [_, _]) dX9_card_54 rfl (nI_1 _) (by decide) rfl rfl ?_
      refine go_goto (tgt := 24) dX9_card_57 (by decide) ?_
      refine ih (k + 1) _ (by omega) (fun j hj => ?_) (fun a h4 h5 => (funext fun y => (stI_ne (Or.inl h5)).trans (stI_ne (Or.inl h4))).trans (h2 a h4 h5)) h3
      by_cases q : j = k
      · subst q; simp (disch := omega) only [stI_ne, stI_at]; exact ⟨trivial, trivial⟩
      · simp (disch := omega) only [stI_ne]; exact h1 j (by omega)
set_option maxHeartbeats 2000000 in
theorem sm_card {Γ : Gm} {σ : Mm} {X : Xs} {N : Nat} (hI : XI N X) (h : RM σ X) : Sp Γ 4 mX9_card [rf Γ 58] σ (aI (aCard X) (fun σ' => RM σ' (tCard X) ∧ FrM σ σ')) := by
  refine sp_in (L := [some (rf Γ 58), none]) rfl (Nat.le_of_ble_eq_true rfl) rfl ?_
  have hn := hI.1
  have hce : crdB (σ.1 59) (xPn X) = crdB (xPg X) (xPn X) := crdB_congr h.1.2
  have hff := ffF_le (σ.1 59) (xPn X) 0
  have hst := crd_st (pg := σ.1 59) hn
  rw [hce] at hst
  have no : ¬ crdB (xPg X) (xPn X) = true → ∀ σ', OM σ σ' → aI (aCard X) (fun σ' => RM σ' (tCard X) ∧ FrM σ σ') (some (.int (-103))) σ' := fun q σ' ho => ⟨by unfold aCard; rw [if_neg q], by unfold tCard; rw [if_neg q]; exact h.q ho⟩
  have n60 : ∀ σ1, OM σ σ1 → crdB (xPg X) (xPn X) = true → GI σ1 (σ.1 59) (xPn X) → ∀ σ', (∀ j, j < 6 → σ'.1 62 j = σ1.1 60 j ∧ σ'.1 63 j = σ1.1 61 j) → (∀ a, a ≠ 62 → a ≠ 63 → σ'.1 a = σ1.1 a) → σ'.2 = σ1.2 → Go Γ 4 mX9_card (aI (aCard X) (fun σ' => RM σ' (tCard X) ∧ FrM σ σ')) 60 [some (rf Γ 58), none] [] σ' := by
    intro σ1 ho hc hG σ2 w1 w2 w3
    obtain ⟨D, hD, hD2, hD6, -, -⟩ := card_page hI.1 hc
    have hD3 : (xPn X - 1) / 3 = D := by omega
    obtain ⟨g1, g2, g3, -, g5⟩ := hG
    have g1 : σ2.1 58 4 = nI D := by rw [w2 58 (by omega) (by omega), g1, show (xPn X + 1) / 3 = D by omega]
    have hst4 : stO (σ.1 59) (xPn X) = 4 := (hst (by
      have := hc
      rw [← hce] at this
      unfold crdB at this
      simp only [Bool.and_eq_true, decide_eq_true_eq] at this
      exact this.2.2)).mpr hc
    have g5 : σ2.1 58 5 = xPg X (3 * D) - nI 48 := by rw [w2 58 (by omega) (by omega), g5 hst4, show xPn X - 1 = 3 * D by omega, h.1.2 _ (by omega)]
    have f : ∀ k, k ≠ 4 → k ≠ 5 → k ≠ 6 → k ≠ 18 → k ≠ 19 → k ≠ 20 → k ≠ 25 → σ2.1 58 k = σ.1 58 k := fun k q1 q2 q3 q4 q5 q6 q7 => by rw [w2 58 (by omega) (by omega)]; exact ho.2.1 k q1 q2 q3 q4 q5 q6 q7
    have h9 : σ2.1 58 9 = nI (xC X) := by rw [f 9 (by omega) (by omega) (by omega) (by omega) (by omega) (by omega) (by omega)]; exact h.2.2.2.2.1.1
    refine go_aload_n dX9_card_60 rfl rfl ?_
    refine go_aload_n dX9_card_61 rfl rfl ?_
    refine go_getI flX9_74 fs_58_4 dX9_card_62 ?_
    rw [g1]
    refine go_putI fwX9_90 fs_58_7 dX9_card_65 ?_
    refine go_aload_n dX9_card_68 rfl rfl ?_
    refine go_aload_n dX9_card_69 rfl rfl ?_
    refine go_getI flX9_79 fs_58_5 dX9_card_70 ?_
    rw [stI_ne (by omega), g5]
    refine go_putI fwX9_93 fs_58_8 dX9_card_73 ?_
    refine go_aload_n dX9_card_76 rfl rfl ?_
    refine go_iconst (v := nI 0) dX9_card_77 rfl ?_
    refine go_putI fwX9_96 fs_58_14 dX9_card_78 ?_
    refine go_aload_n dX9_card_81 rfl rfl ?_
    refine go_iconst (v := nI 0) dX9_card_82 rfl ?_
    refine go_putI fwX9_99 fs_58_23 dX9_card_83 ?_
    refine go_aload_n dX9_card_86 rfl rfl ?_
    refine go_iconst (v := (-1)) dX9_card_87 rfl ?_
    refine go_putI fwX9_59 fs_58_10 dX9_card_88 ?_
    refine go_aload_n dX9_card_91 rfl rfl ?_
    refine go_iconst (v := nI 0) dX9_card_92 rfl ?_
    refine go_putI fwX9_102 fs_58_11 dX9_card_93 ?_
    refine go_aload_n dX9_card_96 rfl rfl ?_
    refine go_dup dX9_card_97 rfl ?_
    refine go_getI flX9_105 fs_58_9 dX9_card_98 ?_
    rw [stI_ne (by omega), stI_ne (by omega), stI_ne (by omega), stI_ne (by omega), stI_ne (by omega), stI_ne (by omega), h9]
    refine go_iconst (v := nI 1) dX9_card_101 rfl ?_
    refine go_iadd dX9_card_102 ?_
    rw [nI_add]
    refine go_putI fwX9_105 fs_58_9 dX9_card_103 ?_
    refine go_aload_n dX9_card_106 rfl rfl ?_
    refine go_iconst (v := nI 0) dX9_card_107 rfl ?_
    refine go_putI fwX9_68 fs_58_1 dX9_card_108 ?_
    refine go_aload_n dX9_card_111 rfl rfl ?_
    refine go_getI flX9_90 fs_58_7 dX9_card_112 ?_
    rw [(by simp (disch := omega) only [stI_ne, stI_at] : (stI (stI (stI (stI (stI (stI (stI (stI σ2 58 7 (nI D)) 58 8 (xPg X (3 * D) - nI 48)) 58 14 (nI 0)) 58 23 (nI 0)) 58 10 (-1)) 58 11 (nI 0)) 58 9 (nI (xC X + 1))) 58 1 (nI 0)).1 58 7 = nI D)]
    refine go_iret rfl dX9_card_115 ?_
    generalize e5 : stI (stI (stI (stI (stI (stI (stI (stI σ2 58 7 (nI D)) 58 8 (xPg X (3 * D) - nI 48)) 58 14 (nI 0)) 58 23 (nI 0)) 58 10 (-1)) 58 11 (nI 0)) 58 9 (nI (xC X + 1))) 58 1 (nI 0) = σ5
    have h5 : ∀ a, a ≠ 58 → σ5.1 a = σ2.1 a := fun a ha => by rw [← e5]; exact funext fun y => by simp (disch := omega) only [stI_ne]
    have h6 : ∀ a, a ≠ 58 → a ≠ 60 → a ≠ 61 → a ≠ 62 → a ≠ 63 → a ≠ 67 → a ≠ 69 → σ5.1 a = σ.1 a := fun a q1 q2 q3 q4 q5 q6 q7 => by rw [h5 a q1, w2 a q4 q5, ho.1 a q1 q2 q3 q6 q7]
    have hf5 : ∀ k, k ≠ 7 → k ≠ 8 → k ≠ 14 → k ≠ 23 → k ≠ 10 → k ≠ 11 → k ≠ 9 → k ≠ 1 → σ5.1 58 k = σ2.1 58 k := fun k q1 q2 q3 q4 q5 q6 q7 q8 => by rw [← e5]; simp (disch := omega) only [stI_ne]
    refine ⟨by unfold aCard; rw [if_pos hc, hD3], ?_, ⟨fun a ha => h6 a (by omega) (by omega) (by omega) (by omega) (by omega) (by omega) (by omega), fun a ha => by rw [← e5]; show σ2.2 a = σ.2 a; rw [w3]; exact ho.2.2 a (by omega)⟩⟩
    unfold tCard
    rw [if_pos hc, hD3]
    refine ⟨⟨by rw [← e5, stI_at], fun k hk => absurd hk (Nat.not_lt_zero k)⟩, ⟨⟨⟨?_, hD6⟩, ⟨?_, Nat.zero_le _⟩, fun d hd => ?_, fun g hg => absurd hg (Nat.not_lt_zero g)⟩, ?_, ?_, ?_⟩, fun g hg => absurd hg (Nat.not_lt_zero g), ⟨?_, Nat.zero_le _, fun e he => absurd he (Nat.not_lt_zero e)⟩, ⟨?_, ?_⟩, ?_, fun q _ => ?_⟩
    · rw [← e5]; simp (disch := omega) only [stI_ne, stI_at]; rfl
    · rw [← e5]; simp (disch := omega) only [stI_ne, stI_at]; rfl
    · have hd' : d < D := hd
      rw [h5 62 (by omega), h5 63 (by omega), (w1 d (by omega)).1, (w1 d (by omega)).2, (g3 d (by omega)).1, (g3 d (by omega)).2, h.1.2 _ (by omega), h.1.2 _ (by omega)]
      exact ⟨rfl, rfl⟩
    · rw [← e5]; simp (disch := omega) only [stI_ne, stI_at]; rfl
    · rw [← e5]; simp (disch := omega) only [stI_ne, stI_at]; rfl
    · rw [← e5]; simp (disch := omega) only [stI_ne, stI_at]; rfl
    · rw [← e5]; simp (disch := omega) only [stI_ne, stI_at]
    · rw [← e5]; simp (disch := omega) only [stI_ne, stI_at]
    · rw [hf5 22 (by omega) (by omega) (by omega) (by omega) (by omega) (by omega) (by omega) (by omega), f 22 (by omega) (by omega) (by omega) (by omega) (by omega) (by omega) (by omega)]; exact h.2.2.2.2.1.2
    · rw [hf5 27 (by omega) (by omega) (by omega) (by omega) (by omega) (by omega) (by omega) (by omega), f 27 (by omega) (by omega) (by omega) (by omega) (by omega) (by omega) (by omega)]; exact h.2.2.2.2.2.1
    · have := hI.2.2.2.2.2.1
      exact absurd q (by show ¬ (xK X).1 = xC X + 1; omega)
  refine go_aload_n dX9_card_0 rfl rfl ?_
  refine go_callVi cvX9_86 os_58 (sm_faultOf hn h.1.1) (by omega) rfl rfl (Nat.le_of_ble_eq_true rfl) dX9_card_1 (fun σ1 q1 => ?_)
  refine go_aload_n dX9_card_4 rfl rfl ?_
  refine go_getI flX9_68 fs_58_1 dX9_card_5 ?_
  rw [(h.om q1.1).1.1]
  refine go_icmp_lt (tgt := 19) dX9_card_8 (by decide) (fun c8 => ?_) (fun c8 => ?_)
  · rw [nI_ltI (by unfold ffM; omega) (by omega)] at c8
    refine go_bipush (v := (-103)) dX9_card_19 rfl ?_
    refine go_iret rfl dX9_card_21 ?_
    exact no (fun z => by rw [← hce] at z; unfold crdB at z; simp only [Bool.and_eq_true, decide_eq_true_eq] at z; omega) σ1 q1.1
  · rw [nI_ltI (by unfold ffM; omega) (by omega)] at c8
    have zz : ffM (σ.1 59) (xPn X) ≤ xPn X := by unfold ffM; omega
    have c8 : ffM (σ.1 59) (xPn X) = xPn X := by omega
    refine go_aload_n dX9_card_11 rfl rfl ?_
    refine go_getI flX9_71 fs_58_6 dX9_card_12 ?_
    rw [(q1.2 c8).2.1]
    refine go_iconst (v := nI 4) dX9_card_15 rfl ?_
    refine go_icmp_eq (tgt := 22) dX9_card_16 (by decide) (fun c16 => ?_) (fun c16 => ?_)
    · refine go_iconst (v := nI 0) dX9_card_22 rfl ?_
      refine go_istore_n (L' := [_, _]) dX9_card_23 rfl (by decide) rfl rfl ?_
      have c16 : stO (σ.1 59) (xPn X) = 4 := (nI_eq (Nat.lt_trans stO_lt (by omega)) (by omega)).mp c16
      exact lp_cardM (n60 σ1 q1.1 ((hst c8).mp c16) (q1.2 c8)) 6 0 σ1 rfl (fun j hj => absurd hj (Nat.not_lt_zero j)) (fun _ _ _ => rfl) rfl
    · refine go_bipush (v := (-103)) dX9_card_19 rfl ?_
      refine go_iret rfl dX9_card_21 ?_
      exact no (fun z => c16 (by rw [(hst c8).mpr z])) σ1 q1.1
