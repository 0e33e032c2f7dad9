/-! the class's Party.behind and Forecast: setting up, going round, what is asked of it -/
theorem isT18 : isT 18 := Or.inl rfl
theorem isT36 : isT 36 := Or.inr (Or.inl rfl)
theorem isT49 : isT 49 := Or.inr (Or.inr rfl)
set_option maxHeartbeats 1000000 in
theorem sp_behind {Γ : Gm} {σ : Mm} {P : Pb} {f k : Nat} (hP : PI σ P) (hf : f < pG P) (hk : k < pG P) : Sp Γ 1 mX6_behind [rf Γ 6, .int (nI f), .int (nI k)] σ (aP (nI (gat P f k)) σ) := by
  have hG := hP.2.1.2
  refine sp_in (L := [some (rf Γ 6), some (.int (nI f)), some (.int (nI k)), none]) rfl (Nat.le_of_ble_eq_true rfl) rfl ?_
  refine go_iload_n dX6_behind_0 rfl rfl ?_
  refine go_iload_n dX6_behind_1 rfl rfl ?_
  refine go_iadd dX6_behind_2 ?_
  refine go_istore_n (L' := [_, _, _, _]) dX6_behind_3 rfl (by decide) rfl rfl ?_
  refine go_iload_n dX6_behind_4 rfl rfl ?_
  refine go_aload_n dX6_behind_5 rfl rfl ?_
  refine go_getI flX6_18 fs_6_1 dX6_behind_6 ?_
  rw [hP.2.1.1]
  refine go_icmp_ge (tgt := 16) dX6_behind_9 (by decide) (fun c9 => ?_) (fun c9 => ?_)
  · refine go_iload_n dX6_behind_16 rfl rfl ?_
    refine go_aload_n dX6_behind_17 rfl rfl ?_
    refine go_getI flX6_18 fs_6_1 dX6_behind_18 ?_
    rw [hP.2.1.1]
    refine go_isub dX6_behind_21 ?_
    refine go_iret rfl dX6_behind_22 ?_
    refine ⟨?_, rfl⟩
    rw [nI_add] at c9 ⊢
    have c := (nI_leI (by omega) (by omega)).mp c9
    rw [gat_eq hf hk, if_neg (by omega), pk_sub c]
  · refine go_iload_n dX6_behind_12 rfl rfl ?_
    refine go_goto (tgt := 22) dX6_behind_13 (by decide) ?_
    refine go_iret rfl dX6_behind_22 ?_
    refine ⟨?_, rfl⟩
    rw [nI_add] at c9 ⊢
    have c : ¬ pG P ≤ f + k := fun z => c9 (nI_le z (by omega))
    rw [gat_eq hf hk, if_pos (by omega)]
/-- what the forecast is set up from -/
def SU (σ : Mm) (P : Pb) : Prop := PI σ P ∧ σ.1 3 3 = pLo P ∧ σ.1 18 6 = pUr P ∧ σ.1 18 7 = pMu P ∧ (pMu P = 0 → pUr P = -1)
theorem SU.ot {σ σ' : Mm} {P : Pb} (h : OT 36 σ σ') (hS : SU σ P) : SU σ' P := by
  obtain ⟨a, b, c, d, e⟩ := hS
  exact ⟨a.ot isT36 h, by rw [h.1 3 (by omega)]; exact b, by rw [h.1 18 (by omega)]; exact c, by rw [h.1 18 (by omega)]; exact d, e⟩
set_option maxHeartbeats 1000000 in
theorem sp_setUp {Γ : Gm} {σ : Mm} {P : Pb} (hS : SU σ P) : Sp Γ 2 mX0_setUp [rf Γ 27] σ (aV (fun σ' => TI σ' 36 P (fun _ => -2) ∧ OT 36 σ σ')) := by
  obtain ⟨hP, hlo, hur, hmu, hz⟩ := id hS
  refine sp_in (L := [some (rf Γ 27)]) rfl (Nat.le_of_ble_eq_true rfl) rfl ?_
  refine go_aload_n dX0_setUp_0 rfl rfl ?_
  refine go_getR flX0_40 fs_27_3 dX0_setUp_1 ?_
  refine go_callVv cvX0_43 os_36 (sp_wipe isT36) (by omega) rfl rfl (Nat.le_of_ble_eq_true rfl) dX0_setUp_4 (fun σ1 q1 => ?_)
  obtain ⟨w1, w2, w3, w4⟩ := q1
  refine go_aload_n dX0_setUp_7 rfl rfl ?_
  refine go_getR flX0_40 fs_27_3 dX0_setUp_8 ?_
  refine go_aload_n dX0_setUp_11 rfl rfl ?_
  refine go_getR flX0_23 fs_27_0 dX0_setUp_12 ?_
  refine go_getI flX0_46 fs_3_3 dX0_setUp_15 ?_
  refine go_putI fwX0_52 fs_36_8 dX0_setUp_18 ?_
  refine go_aload_n dX0_setUp_21 rfl rfl ?_
  refine go_getR flX0_40 fs_27_3 dX0_setUp_22 ?_
  refine go_aload_n dX0_setUp_25 rfl rfl ?_
  refine go_getR flX0_31 fs_27_2 dX0_setUp_26 ?_
  refine go_getI flX0_53 fs_18_6 dX0_setUp_29 ?_
  refine go_aload_n dX0_setUp_32 rfl rfl ?_
  refine go_getR flX0_31 fs_27_2 dX0_setUp_33 ?_
  refine go_getI flX0_56 fs_18_7 dX0_setUp_36 ?_
  refine go_callVv cvX0_59 os_36 (sp_press isT36) (by omega) rfl rfl (Nat.le_of_ble_eq_true rfl) dX0_setUp_39 (fun σ2 q2 => ?_)
  refine go_vret rfl dX0_setUp_42 ?_
  subst q2
  have hlo1 : σ1.1 3 3 = pLo P := by rw [w4.1 3 (by omega)]; exact hlo
  have e6 : (stI σ1 36 8 (σ1.1 3 3)).1 18 6 = pUr P := by rw [stI_ne (by omega), w4.1 18 (by omega)]; exact hur
  have e7 : (stI σ1 36 8 (σ1.1 3 3)).1 18 7 = pMu P := by rw [stI_ne (by omega), w4.1 18 (by omega)]; exact hmu
  refine ⟨rfl, ⟨⟨?_, ?_, ?_⟩, fun d hd => ?_, fun g hg _ => ?_⟩, ((w4.st (by omega) (by omega)).st (by omega) (by omega)).st (by omega) (by omega)⟩
  · simp (disch := omega) only [stI_at, stI_ne]
    rw [w4.1 18 (by omega), hmu, hur]
    split
    · rename_i q; exact (hz q).symm
    · rfl
  · simp (disch := omega) only [stI_at, stI_ne]
    rw [w4.1 18 (by omega)]; exact hmu
  · simp (disch := omega) only [stI_at, stI_ne]
    exact hlo1
  · have hd6 : d < 6 := by have := hP.1.2; omega
    simp (disch := omega) only [stI_at, stI_ne]
    rw [(w1 d hd6).1, (w1 d hd6).2, cnt_wait (by omega), (hP.2.2.1 d hd).1]
    exact ⟨by rw [show nI 0 = 0 from rfl, Int32.sub_zero], rfl⟩
  · simp (disch := omega) only [stI_at, stI_ne]
    rw [(w2 g hg).1, (w2 g hg).2]
    exact ⟨by decide, by decide⟩
set_option maxHeartbeats 1000000 in
theorem lp_goRound {Γ : Gm} {σ : Mm} {P : Pb} {f : Nat} (hP : PI σ P) (hk : Pok P) (hf : f < pG P) : ∀ (m k : Nat) (σ' : Mm), pG P - k = m → k ≤ pG P → TI σ' 36 P (layR P f k) → OT 36 σ σ' → Go Γ 3 mX0_goRound (aV (fun σ' => TI σ' 36 P (lay P f) ∧ OT 36 σ σ')) 2 [some (rf Γ 27), some (.int (nI f)), some (.int (nI k)), none] [] σ' := by
  have hD := hP.1.2
  have hG := hP.2.1.2
  intro m
  induction m with
  | zero =>
    intro k σ' hm hk1 hT hO
    have e : k = pG P := by omega
    subst e
    have hP' := hP.ot isT36 hO
    refine go_iload_n dX0_goRound_2 rfl rfl ?_
    refine go_aload_n dX0_goRound_3 rfl rfl ?_
    refine go_getR flX0_27 fs_27_1 dX0_goRound_4 ?_
    refine go_getI flX0_63 fs_6_1 dX0_goRound_7 ?_
    rw [hP'.2.1.1]
    refine go_icmp_ge (tgt := 45) dX0_goRound_10 (by decide) (fun c10 => ?_) (fun c10 => ?_)
    · refine go_vret rfl dX0_goRound_45 ?_
      exact ⟨rfl, hT, hO⟩
    · exact absurd (Int32.le_refl _) c10
  | succ m ih =>
    intro k σ' hm hk1 hT hO
    have hk2 : k < pG P := by omega
    have hP' := hP.ot isT36 hO
    have hg := gat_lt (P := P) (f := f) (k := k) (by omega)
    have hw := layR_wait hf k k (Nat.le_refl _) hk2
    have hx : bestM P (layR P f k) (gat P f k) = -1 ∨ ∃ d, d < pD P ∧ bestM P (layR P f k) (gat P f k) = nI d := by
      rcases best_range (P := P) (h := layR P f k) (g := gat P f k) with q | ⟨d, hd, -, q⟩
      · exact Or.inl q
      · exact Or.inr ⟨d, hd, q⟩
    refine go_iload_n dX0_goRound_2 rfl rfl ?_
    refine go_aload_n dX0_goRound_3 rfl rfl ?_
    refine go_getR flX0_27 fs_27_1 dX0_goRound_4 ?_
    refine go_getI flX0_63 fs_6_1 dX0_goRound_7 ?_
    rw [hP'.2.1.1]
    refine go_icmp_ge (tgt := 45) dX0_goRound_10 (by decide) (fun c10 => ?_) (fun c10 => ?_)
    · exact absurd c10 (nI_ge (by omega) (by omega))
    · refine go_aload_n dX0_goRound_13 rfl rfl ?_
      refine go_getR flX0_27 fs_27_1 dX0_goRound_14 ?_
      refine go_iload_n dX0_goRound_17 rfl rfl ?_
      refine go_iload_n dX0_goRound_18 rfl rfl ?_
      refine go_callVp cvX0_68 os_6 (sp_behind hP' hf hk2) (by omega) rfl rfl (Nat.le_of_ble_eq_true rfl) dX0_goRound_19 ?_
      refine go_istore_n (L' := [_, _, _, _]) dX0_goRound_22 rfl (by decide) rfl rfl ?_
      refine go_aload_n dX0_goRound_23 rfl rfl ?_
      refine go_getR flX0_40 fs_27_3 dX0_goRound_24 ?_
      refine go_iload_n dX0_goRound_27 rfl rfl ?_
      refine go_aload_n dX0_goRound_28 rfl rfl ?_
      refine go_getR flX0_40 fs_27_3 dX0_goRound_29 ?_
      refine go_iload_n dX0_goRound_32 rfl rfl ?_
      refine go_callVp cvX0_72 os_36 (sp_choice isT36 hg hP' hT hk hw) (by omega) rfl rfl (Nat.le_of_ble_eq_true rfl) dX0_goRound_33 ?_
      refine go_callVv cvX0_76 os_36 (sp_give isT36 hg hG hD hT hw hx) (by omega) rfl rfl (Nat.le_of_ble_eq_true rfl) dX0_goRound_36 (fun σ2 q2 => ?_)
      refine go_iinc (v := nI (k + 1)) (L' := [_, _, _, _]) dX0_goRound_39 rfl (nI_1 _) (by decide) rfl rfl ?_
      refine go_goto (tgt := 2) dX0_goRound_42 (by decide) ?_
      exact go_sub [true, true, true, false] rfl (ih (k + 1) σ2 (by omega) (by omega) q2.1 (hO.trans q2.2))
set_option maxHeartbeats 1000000 in
theorem sp_goRound {Γ : Gm} {σ : Mm} {P : Pb} {f : Nat} (hP : PI σ P) (hk : Pok P) (hf : f < pG P) (hT : TI σ 36 P (fun _ => -2)) : Sp Γ 3 mX0_goRound [rf Γ 27, .int (nI f)] σ (aV (fun σ' => TI σ' 36 P (lay P f) ∧ OT 36 σ σ')) := by
  refine sp_in (L := [some (rf Γ 27), some (.int (nI f)), none, none]) rfl (Nat.le_of_ble_eq_true rfl) rfl ?_
  refine go_iconst (v := nI 0) dX0_goRound_0 rfl ?_
  refine go_istore_n (L' := [_, _, _, _]) dX0_goRound_1 rfl (by decide) rfl rfl ?_
  exact lp_goRound hP hk hf (pG P) 0 σ rfl (Nat.zero_le _) hT OT.rf
theorem lay_ok {P : Pb} {f : Nat} (hf : f < pG P) : Rok P (lay P f) := layR_ok hf _
theorem lay_full {P : Pb} {f : Nat} (hf : f < pG P) (hD : pD P ≤ 6) : Full P (lay P f) := fun _ hg => lay_set hf hD hg
theorem hC_full {P : Pb} {h : Nat → Int32} {g : Nat} (hf : Full P h) (hg : g < pG P) : hC (h g) = h g := by unfold hC; rw [if_neg (hf g hg)]
set_option maxHeartbeats 1000000 in
theorem sp_dishInTurn {Γ : Gm} {σ : Mm} {P : Pb} {f g : Nat} (hS : SU σ P) (hk : Pok P) (hf : f < pG P) (hg : g < pG P) : Sp Γ 4 mX0_dishInTurn [rf Γ 27, .int (nI f), .int (nI g)] σ (aI (lay P f g) (OT 36 σ)) := by
  have hG := hS.1.2.1.2
  refine sp_in (L := [some (rf Γ 27), some (.int (nI f)), some (.int (nI g))]) rfl (Nat.le_of_ble_eq_true rfl) rfl ?_
  refine go_aload_n dX0_dishInTurn_0 rfl rfl ?_
  refine go_callVv cvX0_79 os_27 (sp_setUp hS) (by omega) rfl rfl (Nat.le_of_ble_eq_true rfl) dX0_dishInTurn_1 (fun σ1 q1 => ?_)
  refine go_aload_n dX0_dishInTurn_4 rfl rfl ?_
  refine go_iload_n dX0_dishInTurn_5 rfl rfl ?_
  refine go_callVv cvX0_82 os_27 (sp_goRound (hS.ot q1.2).1 hk hf q1.1) (by omega) rfl rfl (Nat.le_of_ble_eq_true rfl) dX0_dishInTurn_6 (fun σ2 q2 => ?_)
  refine go_aload_n dX0_dishInTurn_9 rfl rfl ?_
  refine go_getR flX0_40 fs_27_3 dX0_dishInTurn_10 ?_
  refine go_getR flX0_86 fs_36_4 dX0_dishInTurn_13 ?_
  refine go_iload_n dX0_dishInTurn_16 rfl rfl ?_
  refine go_iald (g) rfl as_39 (by omega) (by decide) dX0_dishInTurn_17 ?_
  refine go_iret rfl dX0_dishInTurn_18 ?_
  refine ⟨?_, q1.2.trans q2.2⟩
  rw [(q2.1.2.2 g (by omega) (Or.inr hg)).1, hC_full (lay_full hf hS.1.1.2) hg]
set_option maxHeartbeats 1000000 in
theorem sp_joyFrom {Γ : Gm} {σ : Mm} {P : Pb} {f : Nat} {g : Int32} (hS : SU σ P) (hk : Pok P) (hf : f < pG P) (hg : g = -1 ∨ ∃ k, k < pG P ∧ g = nI k) : Sp Γ 4 mX0_joyFrom [rf Γ 27, .int (nI f), .int g] σ (aI (joyF P g f) (OT 36 σ)) := by
  have hG := hS.1.2.1.2
  refine sp_in (L := [some (rf Γ 27), some (.int (nI f)), some (.int g)]) rfl (Nat.le_of_ble_eq_true rfl) rfl ?_
  refine go_aload_n dX0_joyFrom_0 rfl rfl ?_
  refine go_callVv cvX0_79 os_27 (sp_setUp hS) (by omega) rfl rfl (Nat.le_of_ble_eq_true rfl) dX0_joyFrom_1 (fun σ1 q1 => ?_)
  refine go_aload_n dX0_joyFrom_4 rfl rfl ?_
  refine go_iload_n dX0_joyFrom_5 rfl rfl ?_
  refine go_callVv cvX0_82 os_27 (sp_goRound (hS.ot q1.2).1 hk hf q1.1) (by omega) rfl rfl (Nat.le_of_ble_eq_true rfl) dX0_joyFrom_6 (fun σ2 q2 => ?_)
  refine go_iload_n dX0_joyFrom_9 rfl rfl ?_
  refine go_iconst (v := (-1)) dX0_joyFrom_10 rfl ?_
  refine go_icmp_ne (tgt := 24) dX0_joyFrom_11 (by decide) (fun c11 => ?_) (fun c11 => ?_)
  · obtain ⟨k, hk1, e⟩ := hg.resolve_left c11
    subst e
    refine go_aload_n dX0_joyFrom_24 rfl rfl ?_
    refine go_getR flX0_40 fs_27_3 dX0_joyFrom_25 ?_
    refine go_iload_n dX0_joyFrom_28 rfl rfl ?_
    refine go_callVp cvX0_93 os_36 (sp_joyOf isT36 hk1 (hS.ot (q1.2.trans q2.2)).1 q2.1 (lay_ok hf)) (by omega) rfl rfl (Nat.le_of_ble_eq_true rfl) dX0_joyFrom_29 ?_
    refine go_iret rfl dX0_joyFrom_32 ?_
    exact ⟨by unfold joyF; rw [if_neg c11, nI_clamp (by omega)], q1.2.trans q2.2⟩
  · refine go_aload_n dX0_joyFrom_14 rfl rfl ?_
    refine go_getR flX0_40 fs_27_3 dX0_joyFrom_15 ?_
    refine go_callVp cvX0_89 os_36 (sp_joyOfAll isT36 (hS.ot (q1.2.trans q2.2)).1 q2.1 (lay_ok hf)) (by omega) rfl rfl (Nat.le_of_ble_eq_true rfl) dX0_joyFrom_18 ?_
    refine go_goto (tgt := 32) dX0_joyFrom_21 (by decide) ?_
    refine go_iret rfl dX0_joyFrom_32 ?_
    exact ⟨by unfold joyF; rw [if_pos c11], q1.2.trans q2.2⟩
set_option maxHeartbeats 1000000 in
theorem lp_bestFirst {Γ : Gm} {σ : Mm} {P : Pb} {g : Int32} (hS : SU σ P) (hk : Pok P) (hg : g = -1 ∨ ∃ k, k < pG P ∧ g = nI k) : ∀ (m f : Nat) (σ' : Mm), pG P - f = m → f ≤ pG P → OT 36 σ σ' → Go Γ 5 mX0_bestFirst (aI (bfL (joyF P g) 0 (pG P)).1 (OT 36 σ)) 7 [some (rf Γ 27), some (.int g), some (.int (bfL (joyF P g) 0 f).1), some (.int (bfL (joyF P g) 0 f).2), some (.int (nI f)), none] [] σ' := by
  have hG := hS.1.2.1.2
  intro m
  induction m with
  | zero =>
    intro f σ' hm hf hO
    have e : f = pG P := by omega
    subst e
    refine go_iload dX0_bestFirst_7 rfl ?_
    refine go_aload_n dX0_bestFirst_9 rfl rfl ?_
    refine go_getR flX0_27 fs_27_1 dX0_bestFirst_10 ?_
    refine go_getI flX0_63 fs_6_1 dX0_bestFirst_13 ?_
    rw [(hS.ot hO).1.2.1.1]
    refine go_icmp_ge (tgt := 46) dX0_bestFirst_16 (by decide) (fun c16 => ?_) (fun c16 => ?_)
    · refine go_iload_n dX0_bestFirst_46 rfl rfl ?_
      refine go_iret rfl dX0_bestFirst_47 ?_
      exact ⟨rfl, hO⟩
    · exact absurd (Int32.le_refl _) c16
  | succ m ih =>
    intro f σ' hm hf hO
    have hf1 : f < pG P := by omega
    refine go_iload dX0_bestFirst_7 rfl ?_
    refine go_aload_n dX0_bestFirst_9 rfl rfl ?_
    refine go_getR flX0_27 fs_27_1 dX0_bestFirst_10 ?_
    refine go_getI flX0_63 fs_6_1 dX0_bestFirst_13 ?_
    rw [(hS.ot hO).1.2.1.1]
    refine go_icmp_ge (tgt := 46) dX0_bestFirst_16 (by decide) (fun c16 => ?_) (fun c16 => ?_)
    · exact absurd c16 (nI_ge (by omega) (by omega))
    · refine go_aload_n dX0_bestFirst_19 rfl rfl ?_
      refine go_iload dX0_bestFirst_20 rfl ?_
      refine go_iload_n dX0_bestFirst_22 rfl rfl ?_
      refine go_callVi cvX0_96 os_27 (sp_joyFrom (hS.ot hO) hk hf1 hg) (by omega) rfl rfl (Nat.le_of_ble_eq_true rfl) dX0_bestFirst_23 (fun σ2 q2 => ?_)
      refine go_istore (L' := [_, _, _, _, _, _]) dX0_bestFirst_26 (by decide) rfl rfl ?_
      refine go_iload dX0_bestFirst_28 rfl ?_
      refine go_iload_n dX0_bestFirst_30 rfl rfl ?_
      refine go_icmp_le (tgt := 40) dX0_bestFirst_31 (by decide) (fun c31 => ?_) (fun c31 => ?_)
      · refine go_iinc (v := nI (f + 1)) (L' := [_, _, _, _, _, _]) dX0_bestFirst_40 rfl (nI_1 _) (by decide) rfl rfl ?_
        refine go_goto (tgt := 7) dX0_bestFirst_43 (by decide) ?_
        have e2 : bfL (joyF P g) 0 (f + 1) = bfL (joyF P g) 0 f := by conv => lhs; unfold bfL; rw [if_neg (Int32.not_lt.mpr c31)]
        have := ih (f + 1) σ2 (by omega) (by omega) (hO.trans q2)
        rw [e2] at this
        exact go_sub [true, true, true, true, true, false] rfl this
      · refine go_iload dX0_bestFirst_34 rfl ?_
        refine go_istore_n (L' := [_, _, _, _, _, _]) dX0_bestFirst_36 rfl (by decide) rfl rfl ?_
        refine go_iload dX0_bestFirst_37 rfl ?_
        refine go_istore_n (L' := [_, _, _, _, _, _]) dX0_bestFirst_39 rfl (by decide) rfl rfl ?_
        refine go_iinc (v := nI (f + 1)) (L' := [_, _, _, _, _, _]) dX0_bestFirst_40 rfl (nI_1 _) (by decide) rfl rfl ?_
        refine go_goto (tgt := 7) dX0_bestFirst_43 (by decide) ?_
        have e2 : bfL (joyF P g) 0 (f + 1) = (nI f, joyF P g f) := by conv => lhs; unfold bfL; rw [if_pos (Int32.not_le.mp c31)]
        have := ih (f + 1) σ2 (by omega) (by omega) (hO.trans q2)
        rw [e2] at this
        exact go_sub [true, true, true, true, true, false] rfl this
set_option maxHeartbeats 1000000 in
theorem sp_bestFirst {Γ : Gm} {σ : Mm} {P : Pb} {g : Int32} (hS : SU σ P) (hk : Pok P) (hg : g = -1 ∨ ∃ k, k < pG P ∧ g = nI k) : Sp Γ 5 mX0_bestFirst [rf Γ 27, .int g] σ (aI (bfL (joyF P g) 0 (pG P)).1 (OT 36 σ)) := by
  refine sp_in (L := [some (rf Γ 27), some (.int g), none, none, none, none]) rfl (Nat.le_of_ble_eq_true rfl) rfl ?_
  refine go_iconst (v := nI 0) dX0_bestFirst_0 rfl ?_
  refine go_istore_n (L' := [_, _, _, _, _, _]) dX0_bestFirst_1 rfl (by decide) rfl rfl ?_
  refine go_iconst (v := (-1)) dX0_bestFirst_2 rfl ?_
  refine go_istore_n (L' := [_, _, _, _, _, _]) dX0_bestFirst_3 rfl (by decide) rfl rfl ?_
  refine go_iconst (v := nI 0) dX0_bestFirst_4 rfl ?_
  refine go_istore (L' := [_, _, _, _, _, _]) dX0_bestFirst_5 (by decide) rfl rfl ?_
  exact lp_bestFirst hS hk hg (pG P) 0 σ rfl (Nat.zero_le _) OT.rf
set_option maxHeartbeats 1000000 in
theorem lp_rounds2 {Γ : Gm} {σ : Mm} {P : Pb} {f n r : Nat} {h : Nat → Int32} (hP : PI σ P) (hk : Pok P) (hf : f < pG P) (hr : Rok P h) (hfu : Full P h) (hF : Fea P h)
    (next : ∀ σ', (mr P f h (pG P)).2 = true → TI σ' 36 P (mr P f h (pG P)).1 → OT 36 σ σ' → Go Γ 5 mX0_roundsTillSettled (aI (rs P f n (mr P f h (pG P)).1 (r + 1)) (OT 36 σ)) 11 [some (rf Γ 27), some (.int (nI f)), some (.int (nI (r + 1))), none, none] [] σ') :
    ∀ (m k : Nat) (σ' : Mm), pG P - k = m → k ≤ pG P → TI σ' 36 P (mr P f h k).1 → OT 36 σ σ' → Go Γ 5 mX0_roundsTillSettled (aI (rs P f (n + 1) h r) (OT 36 σ)) 22 [some (rf Γ 27), some (.int (nI f)), some (.int (nI r)), some (.int (bI (mr P f h k).2)), some (.int (nI k))] [] σ' := by
  have hD := hP.1.2
  have hG := hP.2.1.2
  intro m
  induction m with
  | zero =>
    intro k σ' hm hk1 hT hO
    have e : k = pG P := by omega
    subst e
    have hP' := hP.ot isT36 hO
    refine go_iload dX0_roundsTillSettled_22 rfl ?_
    refine go_aload_n dX0_roundsTillSettled_24 rfl rfl ?_
    refine go_getR flX0_27 fs_27_1 dX0_roundsTillSettled_25 ?_
    refine go_getI flX0_63 fs_6_1 dX0_roundsTillSettled_28 ?_
    rw [hP'.2.1.1]
    refine go_icmp_ge (tgt := 62) dX0_roundsTillSettled_31 (by decide) (fun c31 => ?_) (fun c31 => ?_)
    · refine go_iload_n dX0_roundsTillSettled_62 rfl rfl ?_
      refine go_if_ne (tgt := 68) dX0_roundsTillSettled_63 (by decide) (fun c63 => ?_) (fun c63 => ?_)
      · refine go_iinc (v := nI (r + 1)) (L' := [_, _, _, _, _]) dX0_roundsTillSettled_68 rfl (nI_1 _) (by decide) rfl rfl ?_
        refine go_goto (tgt := 11) dX0_roundsTillSettled_71 (by decide) ?_
        have e1 : rs P f (n + 1) h r = rs P f n (mr P f h (pG P)).1 (r + 1) := by conv => lhs; unfold rs; rw [if_pos (bI_ne0.mp c63)]
        rw [e1]
        exact go_sub [true, true, true, false, false] rfl (next σ' (bI_ne0.mp c63) hT hO)
      · refine go_iload_n dX0_roundsTillSettled_66 rfl rfl ?_
        refine go_iret rfl dX0_roundsTillSettled_67 ?_
        refine ⟨?_, hO⟩
        unfold rs
        rw [if_neg (by rw [bI_eq0.mp c63]; decide)]
    · exact absurd (Int32.le_refl _) c31
  | succ m ih =>
    intro k σ' hm hk1 hT hO
    have hk2 : k < pG P := by omega
    have hP' := hP.ot isT36 hO
    have hg := gat_lt (P := P) (f := f) (k := k) (by omega)
    obtain ⟨o1, o2, o3⟩ := mr_ok hk hG hD hf hr hfu hF k
    have hm3 : (mr P f h k).1 (gat P f k) = -1 ∨ ∃ d, d < pD P ∧ (mr P f h k).1 (gat P f k) = nI d ∧ mayM P (mr P f h k).1 (gat P f k) d = true := by
      rcases row_cases o1 o2 hG hg with q | ⟨d, hd, q⟩
      · exact Or.inl q
      · exact Or.inr ⟨d, hd, q, o3.may hk hG hg hd q⟩
    refine go_iload dX0_roundsTillSettled_22 rfl ?_
    refine go_aload_n dX0_roundsTillSettled_24 rfl rfl ?_
    refine go_getR flX0_27 fs_27_1 dX0_roundsTillSettled_25 ?_
    refine go_getI flX0_63 fs_6_1 dX0_roundsTillSettled_28 ?_
    rw [hP'.2.1.1]
    refine go_icmp_ge (tgt := 62) dX0_roundsTillSettled_31 (by decide) (fun c31 => ?_) (fun c31 => ?_)
    · exact absurd c31 (nI_ge (by omega) (by omega))
    · refine go_aload_n dX0_roundsTillSettled_34 rfl rfl ?_
      refine go_getR flX0_40 fs_27_3 dX0_roundsTillSettled_35 ?_
      refine go_aload_n dX0_roundsTillSettled_38 rfl rfl ?_
      refine go_getR flX0_27 fs_27_1 dX0_roundsTillSettled_39 ?_
      refine go_iload_n dX0_roundsTillSettled_42 rfl rfl ?_
      refine go_iload dX0_roundsTillSettled_43 rfl ?_
      refine go_callVp cvX0_68 os_6 (sp_behind hP' hf hk2) (by omega) rfl rfl (Nat.le_of_ble_eq_true rfl) dX0_roundsTillSettled_45 ?_
      refine go_callVi cvX0_127 os_36 (sp_changesMind isT36 hg hP' hT hk o1 hm3) (by omega) rfl rfl (Nat.le_of_ble_eq_true rfl) dX0_roundsTillSettled_48 (fun σ2 q2 => ?_)
      refine go_if_eq (tgt := 56) dX0_roundsTillSettled_51 (by decide) (fun c51 => ?_) (fun c51 => ?_)
      · refine go_iinc (v := nI (k + 1)) (L' := [_, _, _, _, _]) dX0_roundsTillSettled_56 rfl (nI_1 _) (by decide) rfl rfl ?_
        refine go_goto (tgt := 22) dX0_roundsTillSettled_59 (by decide) ?_
        have := ih (k + 1) σ2 (by omega) (by omega) q2.1 (hO.trans q2.2)
        rw [show (mr P f h (k + 1)).2 = (mr P f h k).2 by conv => lhs; unfold mr; simp [bI_eq0.mp c51]] at this
        exact this
      · refine go_iconst (v := nI 1) dX0_roundsTillSettled_54 rfl ?_
        refine go_istore_n (L' := [_, _, _, _, _]) dX0_roundsTillSettled_55 rfl (by decide) rfl rfl ?_
        refine go_iinc (v := nI (k + 1)) (L' := [_, _, _, _, _]) dX0_roundsTillSettled_56 rfl (nI_1 _) (by decide) rfl rfl ?_
        refine go_goto (tgt := 22) dX0_roundsTillSettled_59 (by decide) ?_
        have := ih (k + 1) σ2 (by omega) (by omega) q2.1 (hO.trans q2.2)
        rw [show (mr P f h (k + 1)).2 = true by conv => lhs; unfold mr; simp [bI_ne0.mp c51]] at this
        exact this
set_option maxHeartbeats 1000000 in
theorem lp_rounds1 {Γ : Gm} {σ : Mm} {P : Pb} {f : Nat} (hP : PI σ P) (hk : Pok P) (hf : f < pG P) : ∀ (n r : Nat) (h : Nat → Int32) (σ' : Mm), r + n = 21 → TI σ' 36 P h → Rok P h → Full P h → Fea P h → OT 36 σ σ' → Go Γ 5 mX0_roundsTillSettled (aI (rs P f n h r) (OT 36 σ)) 11 [some (rf Γ 27), some (.int (nI f)), some (.int (nI r)), none, none] [] σ' := by
  have hD := hP.1.2
  have hG := hP.2.1.2
  intro n
  induction n with
  | zero =>
    intro r h σ' hr hT h1 h2 h3 hO
    have e : r = 21 := by omega
    subst e
    refine go_iload_n dX0_roundsTillSettled_11 rfl rfl ?_
    refine go_bipush (v := nI 20) dX0_roundsTillSettled_12 rfl ?_
    refine go_icmp_gt (tgt := 74) dX0_roundsTillSettled_14 (by decide) (fun c14 => ?_) (fun c14 => ?_)
    · refine go_iconst (v := (-1)) dX0_roundsTillSettled_74 rfl ?_
      refine go_iret rfl dX0_roundsTillSettled_75 ?_
      exact ⟨rfl, hO⟩
    · exact absurd (by decide) c14
  | succ n ih =>
    intro r h σ' hr hT h1 h2 h3 hO
    obtain ⟨o1, o2, o3⟩ := mr_ok hk hG hD hf h1 h2 h3 (pG P)
    refine go_iload_n dX0_roundsTillSettled_11 rfl rfl ?_
    refine go_bipush (v := nI 20) dX0_roundsTillSettled_12 rfl ?_
    refine go_icmp_gt (tgt := 74) dX0_roundsTillSettled_14 (by decide) (fun c14 => ?_) (fun c14 => ?_)
    · exact absurd c14 (nI_nlt (by omega) (by omega))
    · refine go_iconst (v := nI 0) dX0_roundsTillSettled_17 rfl ?_
      refine go_istore_n (L' := [_, _, _, _, _]) dX0_roundsTillSettled_18 rfl (by decide) rfl rfl ?_
      refine go_iconst (v := nI 0) dX0_roundsTillSettled_19 rfl ?_
      refine go_istore (L' := [_, _, _, _, _]) dX0_roundsTillSettled_20 (by decide) rfl rfl ?_
      exact lp_rounds2 hP hk hf h1 h2 h3 (fun σ2 _ t o => ih (r + 1) _ σ2 (by omega) t o1 o2 o3 o) (pG P) 0 σ' rfl (Nat.zero_le _) hT hO
set_option maxHeartbeats 1000000 in
theorem sp_rounds {Γ : Gm} {σ : Mm} {P : Pb} {f : Nat} (hS : SU σ P) (hk : Pok P) (hf : f < pG P) : Sp Γ 5 mX0_roundsTillSettled [rf Γ 27, .int (nI f)] σ (aI (minM P f) (OT 36 σ)) := by
  have hD := hS.1.1.2
  have hG := hS.1.2.1.2
  refine sp_in (L := [some (rf Γ 27), some (.int (nI f)), none, none, none]) rfl (Nat.le_of_ble_eq_true rfl) rfl ?_
  refine go_aload_n dX0_roundsTillSettled_0 rfl rfl ?_
  refine go_callVv cvX0_79 os_27 (sp_setUp hS) (by omega) rfl rfl (Nat.le_of_ble_eq_true rfl) dX0_roundsTillSettled_1 (fun σ1 q1 => ?_)
  refine go_aload_n dX0_roundsTillSettled_4 rfl rfl ?_
  refine go_iload_n dX0_roundsTillSettled_5 rfl rfl ?_
  refine go_callVv cvX0_82 os_27 (sp_goRound (hS.ot q1.2).1 hk hf q1.1) (by omega) rfl rfl (Nat.le_of_ble_eq_true rfl) dX0_roundsTillSettled_6 (fun σ2 q2 => ?_)
  refine go_iconst (v := nI 1) dX0_roundsTillSettled_9 rfl ?_
  refine go_istore_n (L' := [_, _, _, _, _]) dX0_roundsTillSettled_10 rfl (by decide) rfl rfl ?_
  exact lp_rounds1 hS.1 hk hf 20 1 (lay P f) σ2 rfl q2.1 (lay_ok hf) (lay_full hf hD) (layR_fea hf hk hG hD _) (q1.2.trans q2.2)
