/-! the model's page: fault, card -/
theorem GI.step {σ : Mm} {pg : Nat → Int32} {k : Nat} (hk : k < 22) (hg : ∀ j, j < k → gdB pg j = true) (hgk : gdB pg k = true) (h : GI σ pg k) : GI (goM (stO pg k) ((k + 1) / 3) (pg k) σ) pg (k + 1) := by
  obtain ⟨f1, f2, f3, -⟩ := good_facts hk hg
  obtain ⟨a1, a2, a3, a4, a5⟩ := h
  unfold gdB at hgk
  by_cases h1 : 0 < k ∧ pg (k - 1) = nI 59
  · rw [if_pos h1] at hgk
    have e0 : stO pg k = 3 := by unfold stO; rw [if_pos h1]
    have e1 : stO pg (k + 1) = 4 := by
      unfold stO
      rw [if_neg (fun z => dg_59 hgk z.2), if_pos ⟨by omega, by rw [show k + 1 - 2 = k - 1 by omega]; exact h1.2⟩]
    have e2 : (k + 1 + 1) / 3 = (k + 1) / 3 := by have := (f1 h1).1; omega
    rw [e0]
    show GI (stI (stI σ 58 6 (nI 4)) 58 5 (pg k - nI 48)) pg (k + 1)
    unfold GI
    rw [e1, e2]
    refine ⟨?_, ?_, fun d hd => ?_, fun z => absurd z (by omega), fun _ => stI_at⟩
    · simp (disch := omega) only [stI_ne]; exact a1
    · simp (disch := omega) only [stI_ne, stI_at]
    · simp (disch := omega) only [stI_ne]; exact a3 d hd
  · rw [if_neg h1] at hgk
    by_cases h2 : 1 < k ∧ pg (k - 2) = nI 59
    · rw [if_pos h2] at hgk; cases hgk
    · rw [if_neg h2] at hgk
      have e0 : stO pg k = k % 3 := by unfold stO; rw [if_neg h1, if_neg h2]
      have n2 : ¬ (1 < k + 1 ∧ pg (k + 1 - 2) = nI 59) := fun z => h1 ⟨by omega, by have := z.2; rw [show k + 1 - 2 = k - 1 by omega] at this; exact this⟩
      have e1 : pg k ≠ nI 59 → stO pg (k + 1) = (k + 1) % 3 := fun q => by
        unfold stO
        rw [if_neg (fun z => q z.2), if_neg n2]
      by_cases h3 : k % 3 < 2
      · rw [if_pos h3] at hgk
        have e1 := e1 (dg_59 hgk)
        by_cases h4 : k % 3 = 0
        · have e2 : (k + 1 + 1) / 3 = (k + 1) / 3 := by omega
          have e3 : 3 * ((k + 1) / 3) = k := by omega
          rw [e0, h4]
          show GI (stI (stI σ 58 6 (nI 1)) 60 ((k + 1) / 3) (pg k - nI 48)) pg (k + 1)
          unfold GI
          rw [e1, e2, show (k + 1) % 3 = 1 by omega]
          refine ⟨?_, ?_, fun d hd => ?_, fun _ => by rw [stI_at, e3], fun z => absurd z (by omega)⟩
          · simp (disch := omega) only [stI_ne]; exact a1
          · simp (disch := omega) only [stI_ne, stI_at]
          · simp (disch := omega) only [stI_ne]; exact a3 d hd
        · have h5 : k % 3 = 1 := by omega
          have e2 : (k + 1 + 1) / 3 = (k + 1) / 3 + 1 := by omega
          have e3 : 3 * ((k + 1) / 3) + 1 = k := by omega
          rw [e0, h5]
          show GI (stI (stI (stI σ 58 6 (nI 2)) 61 ((k + 1) / 3) (pg k - nI 48)) 58 4 (nI ((k + 1) / 3 + 1))) pg (k + 1)
          unfold GI
          rw [e1, e2, show (k + 1) % 3 = 2 by omega]
          refine ⟨stI_at, ?_, fun d hd => ?_, fun z => absurd z (by omega), fun z => absurd z (by omega)⟩
          · simp (disch := omega) only [stI_ne, stI_at]
          · by_cases q : d = (k + 1) / 3
            · subst q
              simp (disch := omega) only [stI_ne, stI_at]
              exact ⟨a4 (by omega), by rw [e3]⟩
            · simp (disch := omega) only [stI_ne]; exact a3 d (by omega)
      · rw [if_neg h3] at hgk
        have e2 : (k + 1 + 1) / 3 = (k + 1) / 3 := by omega
        rw [e0, show k % 3 = 2 by omega]
        show GI (stI (stI σ 58 6 (nI 3)) 58 6 (if pg k = nI 44 then nI 0 else nI 3)) pg (k + 1)
        have e5 : stO pg (k + 1) = if pg k = nI 44 then 0 else 3 := by
          by_cases q : pg k = nI 44
          · rw [if_pos q, e1 (by rw [q]; decide)]; omega
          · rw [if_neg q] at hgk ⊢
            simp only [Bool.and_eq_true, decide_eq_true_eq] at hgk
            unfold stO
            rw [if_pos ⟨by omega, hgk.1⟩]
        unfold GI
        rw [e5, e2]
        refine ⟨?_, ?_, fun d hd => ?_, fun z => absurd z (by split <;> omega), fun z => absurd z (by split <;> omega)⟩
        · simp (disch := omega) only [stI_ne]; exact a1
        · rw [stI_at]; split <;> rfl
        · simp (disch := omega) only [stI_ne]; exact a3 d hd
theorem OM.s60 {σ σ' : Mm} {a k : Nat} {v : Int32} (h : OM σ σ') (ha : a = 60 ∨ a = 61) : OM σ (stI σ' a k v) := ⟨fun c q1 q2 q3 q4 q5 => (funext fun y => stI_ne (Or.inl (by omega))).trans (h.1 c q1 q2 q3 q4 q5), fun j q1 q2 q3 q4 q5 q6 q7 => (stI_ne (by omega)).trans (h.2.1 j q1 q2 q3 q4 q5 q6 q7), h.2.2⟩
theorem goM_om {σ : Mm} {st many : Nat} {c : Int32} : OM σ (goM st many c σ) := by
  unfold goM
  split
  · exact (OM.rf.s58 (by omega)).s60 (by omega)
  · split
    · exact ((OM.rf.s58 (by omega)).s60 (by omega)).s58 (by omega)
    · split
      · exact (OM.rf.s58 (by omega)).s58 (by omega)
      · exact (OM.rf.s58 (by omega)).s58 (by omega)
set_option maxHeartbeats 1000000 in
theorem lp_faultOf {Γ : Gm} {σ : Mm} {n : Nat} (hn : n ≤ 22) (hs : σ.1 58 1 = nI n) : ∀ (m k : Nat) (σ' : Mm), k + m = n → OM σ σ' → (∀ j, j < k → gdB (σ.1 59) j = true) → GI σ' (σ.1 59) k → Go Γ 3 mX9_faultOf (aI (nI (ffF (σ.1 59) m k)) (fun σ' => OM σ σ' ∧ (ffF (σ.1 59) m k = k + m → GI σ' (σ.1 59) (k + m)))) 12 [some (rf Γ 58), some (.int (nI k))] [] σ' := by
  have h59 : ∀ σ', OM σ σ' → σ'.1 59 = σ.1 59 := fun σ' ho => ho.1 59 (by omega) (by omega) (by omega) (by omega) (by omega)
  have h1 : ∀ σ', OM σ σ' → σ'.1 58 1 = nI n := fun σ' ho => by rw [ho.2.1 1 (by omega) (by omega) (by omega) (by omega) (by omega) (by omega) (by omega)]; exact hs
  intro m
  induction m with
  | zero =>
    intro k σ' hk ho hg hG
    have e : k = n := by omega
    subst e
    refine go_iload_n dX9_faultOf_12 rfl rfl ?_
    refine go_aload_n dX9_faultOf_13 rfl rfl ?_
    refine go_getI flX9_68 fs_58_1 dX9_faultOf_14 ?_
    rw [h1 σ' ho]
    refine go_icmp_ge (tgt := 39) dX9_faultOf_17 (by decide) (fun c17 => ?_) (fun c17 => ?_)
    · refine go_iload_n dX9_faultOf_39 rfl rfl ?_
      refine go_iret rfl dX9_faultOf_40 ?_
      exact ⟨rfl, ho, fun _ => hG⟩
    · exact absurd (Int32.le_refl _) c17
  | succ m ih =>
    intro k σ' hk ho hg hG
    obtain ⟨f1, f2, f3, f4⟩ := good_facts (by omega) hg
    have hm2 : stO (σ.1 59) k < 2 → (k + 1) / 3 < 6 := by
      intro z
      unfold stO at z
      split at z
      · omega
      · rename_i n1
        split at z
        · omega
        · rename_i n2
          exact (f3 n1 n2).2 z
    refine go_iload_n dX9_faultOf_12 rfl rfl ?_
    refine go_aload_n dX9_faultOf_13 rfl rfl ?_
    refine go_getI flX9_68 fs_58_1 dX9_faultOf_14 ?_
    rw [h1 σ' ho]
    refine go_icmp_ge (tgt := 39) dX9_faultOf_17 (by decide) (fun c17 => ?_) (fun c17 => ?_)
    · exact absurd c17 (nI_ge (by omega) (by omega))
    · refine go_aload_n dX9_faultOf_20 rfl rfl ?_
      refine go_aload_n dX9_faultOf_21 rfl rfl ?_
      refine go_getR flX9_7 fs_58_0 dX9_faultOf_22 ?_
      refine go_iload_n dX9_faultOf_25 rfl rfl ?_
      refine go_iald (k) rfl as_59 (by omega) (by decide) dX9_faultOf_26 ?_
      rw [h59 σ' ho]
      refine go_callVi cvX9_82 os_58 (sm_go stO_lt f4 hm2 hG.2.1 hG.1) (by omega) rfl rfl (Nat.le_of_ble_eq_true rfl) dX9_faultOf_27 (fun σ1 q1 => ?_)
      rw [goB_gd (by omega) hg]
      refine go_if_eq (tgt := 39) dX9_faultOf_30 (by decide) (fun c30 => ?_) (fun c30 => ?_)
      · refine go_iload_n dX9_faultOf_39 rfl rfl ?_
        refine go_iret rfl dX9_faultOf_40 ?_
        refine ⟨by unfold ffF; rw [if_neg (by rw [bI_eq0.mp c30]; simp)], by subst q1; exact ho.trans goM_om, fun z => ?_⟩
        unfold ffF at z
        rw [if_neg (by rw [bI_eq0.mp c30]; simp)] at z
        omega
      · refine go_iinc (v := nI (k + 1)) (L' := [_, _]) dX9_faultOf_33 rfl (nI_1 _) (by decide) rfl rfl ?_
        refine go_goto (tgt := 12) dX9_faultOf_36 (by decide) ?_
        have c30 := bI_ne0.mp c30
        subst q1
        rw [show ffF (σ.1 59) (m + 1) k = ffF (σ.1 59) m (k + 1) by conv => lhs; unfold ffF; rw [if_pos c30]]
        have := ih (k + 1) _ (by omega) (ho.trans goM_om) (fun j hj => by
          by_cases q : j = k
          · subst q; exact c30
          · exact hg j (by omega)) (hG.step (by omega) hg c30)
        rw [show k + (m + 1) = k + 1 + m by omega]
        exact this
set_option maxHeartbeats 1000000 in
theorem sm_faultOf {Γ : Gm} {σ : Mm} {n : Nat} (hn : n ≤ 22) (hs : σ.1 58 1 = nI n) : Sp Γ 3 mX9_faultOf [rf Γ 58] σ (aI (nI (ffM (σ.1 59) n)) (fun σ' => OM σ σ' ∧ (ffM (σ.1 59) n = n → GI σ' (σ.1 59) n))) := by
  refine sp_in (L := [some (rf Γ 58), none]) rfl (Nat.le_of_ble_eq_true rfl) rfl ?_
  refine go_aload_n dX9_faultOf_0 rfl rfl ?_
  refine go_iconst (v := nI 0) dX9_faultOf_1 rfl ?_
  refine go_putI fwX9_74 fs_58_4 dX9_faultOf_2 ?_
  refine go_aload_n dX9_faultOf_5 rfl rfl ?_
  refine go_iconst (v := nI 0) dX9_faultOf_6 rfl ?_
  refine go_putI fwX9_71 fs_58_6 dX9_faultOf_7 ?_
  refine go_iconst (v := nI 0) dX9_faultOf_10 rfl ?_
  refine go_istore_n (L' := [_, _]) dX9_faultOf_11 rfl (by decide) rfl rfl ?_
  have ho : OM σ (stI (stI σ 58 4 (nI 0)) 58 6 (nI 0)) := (OM.rf.s58 (by omega)).s58 (by omega)
  refine go_mono (fun v σ' q => ⟨q.1, q.2.1, fun z => ?_⟩) (lp_faultOf hn hs n 0 _ (by omega) ho (fun j hj => absurd hj (Nat.not_lt_zero j)) ⟨by rw [stI_ne (by omega), stI_at], stI_at, fun d hd => absurd hd (by omega), fun z => absurd z (show ¬ stO (σ.1 59) 0 = 1 by unfold stO; simp), fun z => absurd z (show ¬ stO (σ.1 59) 0 = 4 by unfold stO; simp)⟩)
  have := q.2.2 (by rw [Nat.zero_add]; exact z)
  rw [Nat.zero_add] at this
  exact this
set_option maxHeartbeats 1000000 in
theorem sm_fault {Γ : Gm} {σ : Mm} {X : Xs} {N : Nat} (hI : XI N X) (h : RM σ X) : Sp Γ 4 mX9_fault [rf Γ 58] σ (aI (aFault X) (fun σ' => RM σ' X ∧ FrM σ σ')) := by
  refine sp_in (L := [some (rf Γ 58)]) rfl (Nat.le_of_ble_eq_true rfl) rfl ?_
  refine go_aload_n dX9_fault_0 rfl rfl ?_
  refine go_callVi cvX9_86 os_58 (sm_faultOf hI.1 h.1.1) (by omega) rfl rfl (Nat.le_of_ble_eq_true rfl) dX9_fault_1 (fun σ1 q1 => ?_)
  refine go_iret rfl dX9_fault_4 ?_
  exact ⟨by unfold aFault; rw [ffM_congr h.1.2], h.q q1.1⟩
theorem crd_st {pg : Nat → Int32} {n : Nat} (hn : n ≤ 22) (hf : ffM pg n = n) : stO pg n = 4 ↔ crdB pg n = true := by
  have hg : ∀ j, j < n → gdB pg j = true := fun j hj => ffF_all n 0 (by unfold ffM at hf; omega) j (Nat.zero_le _) (by omega)
  unfold stO crdB
  simp only [Bool.and_eq_true, decide_eq_true_eq]
  constructor
  · intro z
    split at z
    · omega
    · split at z
      · rename_i q; exact ⟨by omega, q.2, hf⟩
      · omega
  · rintro ⟨h1, h2, h3⟩
    have h5 := hg (n - 1) (by omega)
    unfold gdB at h5
    rw [if_pos ⟨by omega, by rw [show n - 1 - 1 = n - 2 by omega]; exact h2⟩] at h5
    rw [if_neg (fun z => dg_59 h5 z.2), if_pos ⟨by omega, h2⟩]
