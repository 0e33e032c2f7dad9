/-! the model: in turn, minds, at once -/
/-- only the table is new -/
def O67 (σ σ' : Mm) : Prop := (∀ a, a ≠ 67 → σ'.1 a = σ.1 a) ∧ σ'.2 = σ.2
theorem O67.rf {σ : Mm} : O67 σ σ := ⟨fun _ _ => rfl, rfl⟩
theorem O67.trans {σ σ1 σ2 : Mm} (h : O67 σ σ1) (h2 : O67 σ1 σ2) : O67 σ σ2 := ⟨fun a q => (h2.1 a q).trans (h.1 a q), h2.2.trans h.2⟩
theorem O67.st {σ σ' : Mm} {k : Nat} {v : Int32} (h : O67 σ σ') : O67 σ (stI σ' 67 k v) := ⟨fun x q => (funext fun y => stI_ne (Or.inl q)).trans (h.1 x q), h.2⟩
/-- only what the model keeps for its own use is new -/
def OM (σ σ' : Mm) : Prop := (∀ a, a ≠ 58 → a ≠ 60 → a ≠ 61 → a ≠ 67 → a ≠ 69 → σ'.1 a = σ.1 a) ∧ (∀ k, k ≠ 4 → k ≠ 5 → k ≠ 6 → k ≠ 18 → k ≠ 19 → k ≠ 20 → k ≠ 25 → σ'.1 58 k = σ.1 58 k) ∧ ∀ a, a ≠ 74 → σ'.2 a = σ.2 a
theorem OM.rf {σ : Mm} : OM σ σ := ⟨fun _ _ _ _ _ _ => rfl, fun _ _ _ _ _ _ _ _ => rfl, fun _ _ => rfl⟩
theorem OM.trans {σ σ1 σ2 : Mm} (h : OM σ σ1) (h2 : OM σ1 σ2) : OM σ σ2 := ⟨fun a q1 q2 q3 q4 q5 => (h2.1 a q1 q2 q3 q4 q5).trans (h.1 a q1 q2 q3 q4 q5), fun k q1 q2 q3 q4 q5 q6 q7 => (h2.2.1 k q1 q2 q3 q4 q5 q6 q7).trans (h.2.1 k q1 q2 q3 q4 q5 q6 q7), fun a q => (h2.2.2 a q).trans (h.2.2 a q)⟩
theorem O67.om {σ σ' : Mm} (h : O67 σ σ') : OM σ σ' := ⟨fun a _ _ _ q _ => h.1 a q, fun k _ _ _ _ _ _ _ => by rw [h.1 58 (by omega)], fun a _ => by rw [h.2]⟩
theorem MP.om {σ σ' : Mm} {P : Pb} (h : OM σ σ') (hP : MP σ P) : MP σ' P := by
  obtain ⟨⟨a1, a2⟩, ⟨b1, b2⟩, c, d⟩ := hP
  refine ⟨⟨by rw [h.2.1 7 (by omega) (by omega) (by omega) (by omega) (by omega) (by omega) (by omega)]; exact a1, a2⟩, ⟨by rw [h.2.1 14 (by omega) (by omega) (by omega) (by omega) (by omega) (by omega) (by omega)]; exact b1, b2⟩, fun k hk => ?_, fun g hg => ?_⟩
  · rw [h.1 62 (by omega) (by omega) (by omega) (by omega) (by omega), h.1 63 (by omega) (by omega) (by omega) (by omega) (by omega)]; exact c k hk
  · rw [h.1 64 (by omega) (by omega) (by omega) (by omega) (by omega), h.1 65 (by omega) (by omega) (by omega) (by omega) (by omega)]; exact d g hg
theorem BY.o67 {σ σ' : Mm} {P : Pb} (h : O67 σ σ') (hB : BY σ P) : BY σ' P := by unfold BY; rw [h.1 58 (by omega)]; exact hB
/-- what the model's own answers start from -/
def MS (σ : Mm) (P : Pb) : Prop := MP σ P ∧ σ.1 58 8 = pLo P ∧ σ.1 58 10 = pUr P ∧ σ.1 58 11 = pMu P
theorem MS.om {σ σ' : Mm} {P : Pb} (h : OM σ σ') (hS : MS σ P) : MS σ' P := ⟨hS.1.om h, by rw [h.2.1 8 (by omega) (by omega) (by omega) (by omega) (by omega) (by omega) (by omega)]; exact hS.2.1, by rw [h.2.1 10 (by omega) (by omega) (by omega) (by omega) (by omega) (by omega) (by omega)]; exact hS.2.2.1, by rw [h.2.1 11 (by omega) (by omega) (by omega) (by omega) (by omega) (by omega) (by omega)]; exact hS.2.2.2⟩
theorem OM.s58 {σ σ' : Mm} {k : Nat} {v : Int32} (h : OM σ σ') (hk : k = 4 ∨ k = 5 ∨ k = 6 ∨ k = 18 ∨ k = 19 ∨ k = 20 ∨ k = 25) : OM σ (stI σ' 58 k v) := ⟨fun a q1 q2 q3 q4 q5 => (funext fun y => stI_ne (Or.inl q1)).trans (h.1 a q1 q2 q3 q4 q5), fun j q1 q2 q3 q4 q5 q6 q7 => (stI_ne (by omega)).trans (h.2.1 j q1 q2 q3 q4 q5 q6 q7), h.2.2⟩
set_option maxHeartbeats 1000000 in
theorem sm_asItIs {Γ : Gm} {σ : Mm} {P : Pb} (hS : MS σ P) : Sp Γ 1 mX9_asItIs [rf Γ 58] σ (aV (fun σ' => BY σ' P ∧ OM σ σ' ∧ (∀ a, a ≠ 58 → σ'.1 a = σ.1 a))) := by
  refine sp_in (L := [some (rf Γ 58)]) rfl (Nat.le_of_ble_eq_true rfl) rfl ?_
  refine go_aload_n dX9_asItIs_0 rfl rfl ?_
  refine go_aload_n dX9_asItIs_1 rfl rfl ?_
  refine go_getI flX9_93 fs_58_8 dX9_asItIs_2 ?_
  rw [hS.2.1]
  refine go_putI fwX9_139 fs_58_18 dX9_asItIs_5 ?_
  refine go_aload_n dX9_asItIs_8 rfl rfl ?_
  refine go_aload_n dX9_asItIs_9 rfl rfl ?_
  refine go_getI flX9_59 fs_58_10 dX9_asItIs_10 ?_
  rw [stI_ne (by omega), hS.2.2.1]
  refine go_putI fwX9_142 fs_58_19 dX9_asItIs_13 ?_
  refine go_aload_n dX9_asItIs_16 rfl rfl ?_
  refine go_aload_n dX9_asItIs_17 rfl rfl ?_
  refine go_getI flX9_102 fs_58_11 dX9_asItIs_18 ?_
  rw [stI_ne (by omega), stI_ne (by omega), hS.2.2.2]
  refine go_putI fwX9_145 fs_58_20 dX9_asItIs_21 ?_
  refine go_vret rfl dX9_asItIs_24 ?_
  refine ⟨rfl, ⟨?_, ?_, ?_⟩, ((OM.rf.s58 (by omega)).s58 (by omega)).s58 (by omega), fun a ha => funext fun y => by rw [stI_ne (Or.inl ha), stI_ne (Or.inl ha), stI_ne (Or.inl ha)]⟩
  · simp (disch := omega) only [stI_at, stI_ne]
  · simp (disch := omega) only [stI_at, stI_ne]
  · simp (disch := omega) only [stI_at, stI_ne]
set_option maxHeartbeats 1000000 in
theorem lp_layM2 {Γ : Gm} {σ : Mm} {P : Pb} {f : Nat} (hP : MP σ P) (hB : BY σ P) (hf : f < pG P) : ∀ (m k : Nat) (σ' : Mm), k + m = pG P → Rw σ' 67 P (layR P f k) → O67 σ σ' → Go Γ 4 mX9_layInTurn (aV (fun σ' => Rw σ' 67 P (lay P f) ∧ O67 σ σ')) 23 [some (rf Γ 58), some (.int (nI f)), some (.int (nI k)), none] [] σ' := by
  have hG := hP.2.1.2
  intro m
  induction m with
  | zero =>
    intro k σ' hk hR hO
    have e : k = pG P := by omega
    subst e
    refine go_iload_n dX9_layInTurn_23 rfl rfl ?_
    refine go_aload_n dX9_layInTurn_24 rfl rfl ?_
    refine go_getI flX9_96 fs_58_14 dX9_layInTurn_25 ?_
    rw [(hP.om hO.om).2.1.1]
    refine go_icmp_ge (tgt := 61) dX9_layInTurn_28 (by decide) (fun c28 => ?_) (fun c28 => ?_)
    · refine go_vret rfl dX9_layInTurn_61 ?_
      exact ⟨rfl, hR, hO⟩
    · exact absurd (Int32.le_refl _) c28
  | succ m ih =>
    intro k σ' hk hR hO
    have hP' := hP.om hO.om
    have hg := gat_lt (P := P) (f := f) (k := k) (by omega)
    have hg5 : gat P f k < 5 := by omega
    have er : nI (f + k) - nI (f + k) / nI (pG P) * nI (pG P) = nI (gat P f k) := pk_rem (by omega) (by omega) (by omega)
    refine go_iload_n dX9_layInTurn_23 rfl rfl ?_
    refine go_aload_n dX9_layInTurn_24 rfl rfl ?_
    refine go_getI flX9_96 fs_58_14 dX9_layInTurn_25 ?_
    rw [hP'.2.1.1]
    refine go_icmp_ge (tgt := 61) dX9_layInTurn_28 (by decide) (fun c28 => ?_) (fun c28 => ?_)
    · exact absurd c28 (nI_ge (by omega) (by omega))
    · refine go_iload_n dX9_layInTurn_31 rfl rfl ?_
      refine go_iload_n dX9_layInTurn_32 rfl rfl ?_
      refine go_iadd dX9_layInTurn_33 ?_
      rw [nI_add]
      refine go_aload_n dX9_layInTurn_34 rfl rfl ?_
      refine go_getI flX9_96 fs_58_14 dX9_layInTurn_35 ?_
      rw [hP'.2.1.1]
      refine go_irem dX9_layInTurn_38 (nI_ne0 (by omega) (by omega)) ?_
      rw [er]
      refine go_istore_n (L' := [_, _, _, _]) dX9_layInTurn_39 rfl (by decide) rfl rfl ?_
      refine go_aload_n dX9_layInTurn_40 rfl rfl ?_
      refine go_getR flX9_34 fs_58_21 dX9_layInTurn_41 ?_
      refine go_iload_n dX9_layInTurn_44 rfl rfl ?_
      refine go_aload_n dX9_layInTurn_45 rfl rfl ?_
      refine go_aload_n dX9_layInTurn_46 rfl rfl ?_
      refine go_getR flX9_34 fs_58_21 dX9_layInTurn_47 ?_
      refine go_iload_n dX9_layInTurn_50 rfl rfl ?_
      refine go_callVp cvX9_159 os_58 (sm_bestFor isR67 hP' (hB.o67 hO) hR hg) (by omega) rfl rfl (Nat.le_of_ble_eq_true rfl) dX9_layInTurn_51 ?_
      refine go_iast (gat P f k) rfl as_67 hg5 (by decide) dX9_layInTurn_54 ?_
      refine go_iinc (v := nI (k + 1)) (L' := [_, _, _, _]) dX9_layInTurn_55 rfl (nI_1 _) (by decide) rfl rfl ?_
      refine go_goto (tgt := 23) dX9_layInTurn_58 (by decide) ?_
      refine go_sub [true, true, true, false] rfl (ih (k + 1) _ (by omega) (fun g hg1 => ?_) hO.st)
      show _ = upd (layR P f k) (gat P f k) (bestM P (layR P f k) (gat P f k)) g
      by_cases q : g = gat P f k
      · subst q; rw [stI_at]; simp [upd]
      · rw [stI_ne (by omega), hR g hg1]; simp [upd, q]
set_option maxHeartbeats 1000000 in
theorem lp_layM1 {Γ : Gm} {σ : Mm} {P : Pb} {f : Nat} (hP : MP σ P) (hB : BY σ P) (hf : f < pG P) : ∀ (m k : Nat) (σ' : Mm), k + m = 5 → (∀ j, j < k → σ'.1 67 j = -2) → O67 σ σ' → Go Γ 4 mX9_layInTurn (aV (fun σ' => Rw σ' 67 P (lay P f) ∧ O67 σ σ')) 2 [some (rf Γ 58), some (.int (nI f)), some (.int (nI k)), none] [] σ' := by
  have hG := hP.2.1.2
  intro m
  induction m with
  | zero =>
    intro k σ' hk hR hO
    have e : k = 5 := by omega
    subst e
    refine go_iload_n dX9_layInTurn_2 rfl rfl ?_
    refine go_iconst (v := nI 5) dX9_layInTurn_3 rfl ?_
    refine go_icmp_ge (tgt := 21) dX9_layInTurn_4 (by decide) (fun c4 => ?_) (fun c4 => ?_)
    · refine go_iconst (v := nI 0) dX9_layInTurn_21 rfl ?_
      refine go_istore_n (L' := [_, _, _, _]) dX9_layInTurn_22 rfl (by decide) rfl rfl ?_
      exact lp_layM2 hP hB hf (pG P) 0 σ' (by omega) (fun g hg => hR g (by omega)) hO
    · exact absurd (Int32.le_refl _) c4
  | succ m ih =>
    intro k σ' hk hR hO
    refine go_iload_n dX9_layInTurn_2 rfl rfl ?_
    refine go_iconst (v := nI 5) dX9_layInTurn_3 rfl ?_
    refine go_icmp_ge (tgt := 21) dX9_layInTurn_4 (by decide) (fun c4 => ?_) (fun c4 => ?_)
    · exact absurd c4 (nI_ge (by omega) (by omega))
    · refine go_aload_n dX9_layInTurn_7 rfl rfl ?_
      refine go_getR flX9_34 fs_58_21 dX9_layInTurn_8 ?_
      refine go_iload_n dX9_layInTurn_11 rfl rfl ?_
      refine go_bipush (v := (-2)) dX9_layInTurn_12 rfl ?_
      refine go_iast (k) rfl as_67 (by omega) (by decide) dX9_layInTurn_14 ?_
      refine go_iinc (v := nI (k + 1)) (L' := [_, _, _, _]) dX9_layInTurn_15 rfl (nI_1 _) (by decide) rfl rfl ?_
      refine go_goto (tgt := 2) dX9_layInTurn_18 (by decide) ?_
      refine ih (k + 1) _ (by omega) (fun j hj => ?_) hO.st
      by_cases q : j = k
      · subst q; rw [stI_at]
      · rw [stI_ne (by omega)]; exact hR j (by omega)
set_option maxHeartbeats 1000000 in
theorem sm_lay {Γ : Gm} {σ : Mm} {P : Pb} {f : Nat} (hP : MP σ P) (hB : BY σ P) (hf : f < pG P) : Sp Γ 4 mX9_layInTurn [rf Γ 58, .int (nI f)] σ (aV (fun σ' => Rw σ' 67 P (lay P f) ∧ O67 σ σ')) := by
  refine sp_in (L := [some (rf Γ 58), some (.int (nI f)), none, none]) rfl (Nat.le_of_ble_eq_true rfl) rfl ?_
  refine go_iconst (v := nI 0) dX9_layInTurn_0 rfl ?_
  refine go_istore_n (L' := [_, _, _, _]) dX9_layInTurn_1 rfl (by decide) rfl rfl ?_
  exact lp_layM1 hP hB hf 5 0 σ rfl (fun j hj => absurd hj (Nat.not_lt_zero j)) O67.rf
theorem row_neg {P : Pb} {h : Nat → Int32} {g : Nat} (hr : h g = -2 ∨ h g = -1 ∨ ∃ d, d < pD P ∧ h g = nI d) : h g < 0 ∨ ∃ d, d < pD P ∧ h g = nI d := by
  rcases hr with e | e | e
  · exact Or.inl (by rw [e]; decide)
  · exact Or.inl (by rw [e]; decide)
  · exact Or.inr e
set_option maxHeartbeats 1000000 in
theorem lp_joyAll {Γ : Gm} {σ : Mm} {P : Pb} {h : Nat → Int32} {rr : Nat} (hrr : isR rr) (hP : MP σ P) (hR : Rw σ rr P h) (hv : ∀ g, g < pG P → h g < 0 ∨ ∃ d, d < pD P ∧ h g = nI d) : ∀ (m g : Nat), g + m = pG P → Go Γ 2 mX9_joyAll (aP (joyA P h) σ) 4 [some (rf Γ 58), some (rf Γ rr), some (.int (sumN (joyM P h) g)), some (.int (nI g))] [] σ := by
  have hG := hP.2.1.2
  intro m
  induction m with
  | zero =>
    intro g hg
    have e : g = pG P := by omega
    subst e
    refine go_iload_n dX9_joyAll_4 rfl rfl ?_
    refine go_aload_n dX9_joyAll_5 rfl rfl ?_
    refine go_getI flX9_96 fs_58_14 dX9_joyAll_6 ?_
    rw [hP.2.1.1]
    refine go_icmp_ge (tgt := 27) dX9_joyAll_9 (by decide) (fun c9 => ?_) (fun c9 => ?_)
    · refine go_iload_n dX9_joyAll_27 rfl rfl ?_
      refine go_iret rfl dX9_joyAll_28 ?_
      exact ⟨rfl, rfl⟩
    · exact absurd (Int32.le_refl _) c9
  | succ m ih =>
    intro g hg
    refine go_iload_n dX9_joyAll_4 rfl rfl ?_
    refine go_aload_n dX9_joyAll_5 rfl rfl ?_
    refine go_getI flX9_96 fs_58_14 dX9_joyAll_6 ?_
    rw [hP.2.1.1]
    refine go_icmp_ge (tgt := 27) dX9_joyAll_9 (by decide) (fun c9 => ?_) (fun c9 => ?_)
    · exact absurd c9 (nI_ge (by omega) (by omega))
    · refine go_iload_n dX9_joyAll_12 rfl rfl ?_
      refine go_aload_n dX9_joyAll_13 rfl rfl ?_
      refine go_aload_n dX9_joyAll_14 rfl rfl ?_
      refine go_iload_n dX9_joyAll_15 rfl rfl ?_
      refine go_callVp cvX9_128 os_58 (sm_joyOf hrr hP hR (by omega) (hv g (by omega))) (by omega) rfl rfl (Nat.le_of_ble_eq_true rfl) dX9_joyAll_16 ?_
      refine go_iadd dX9_joyAll_19 ?_
      refine go_istore_n (L' := [_, _, _, _]) dX9_joyAll_20 rfl (by decide) rfl rfl ?_
      refine go_iinc (v := nI (g + 1)) (L' := [_, _, _, _]) dX9_joyAll_21 rfl (nI_1 _) (by decide) rfl rfl ?_
      refine go_goto (tgt := 4) dX9_joyAll_24 (by decide) ?_
      exact ih (g + 1) (by omega)
set_option maxHeartbeats 1000000 in
theorem sm_joyAll {Γ : Gm} {σ : Mm} {P : Pb} {h : Nat → Int32} {rr : Nat} (hrr : isR rr) (hP : MP σ P) (hR : Rw σ rr P h) (hv : ∀ g, g < pG P → h g < 0 ∨ ∃ d, d < pD P ∧ h g = nI d) : Sp Γ 2 mX9_joyAll [rf Γ 58, rf Γ rr] σ (aP (joyA P h) σ) := by
  refine sp_in (L := [some (rf Γ 58), some (rf Γ rr), none, none]) rfl (Nat.le_of_ble_eq_true rfl) rfl ?_
  refine go_iconst (v := nI 0) dX9_joyAll_0 rfl ?_
  refine go_istore_n (L' := [_, _, _, _]) dX9_joyAll_1 rfl (by decide) rfl rfl ?_
  refine go_iconst (v := nI 0) dX9_joyAll_2 rfl ?_
  refine go_istore_n (L' := [_, _, _, _]) dX9_joyAll_3 rfl (by decide) rfl rfl ?_
  exact lp_joyAll hrr hP hR hv (pG P) 0 (by omega)
set_option maxHeartbeats 1000000 in
theorem lp_ordered {Γ : Gm} {σ : Mm} {P : Pb} {h : Nat → Int32} (hP : MP σ P) (hR : Rw σ 66 P h) : ∀ (m g : Nat), g + m = pG P → Go Γ 1 mX9_orderedMany (aP (ordN P h) σ) 4 [some (rf Γ 58), some (.int (sumN (fun g => hO (h g)) g)), some (.int (nI g))] [] σ := by
  have hG := hP.2.1.2
  intro m
  induction m with
  | zero =>
    intro g hg
    have e : g = pG P := by omega
    subst e
    refine go_iload_n dX9_orderedMany_4 rfl rfl ?_
    refine go_aload_n dX9_orderedMany_5 rfl rfl ?_
    refine go_getI flX9_96 fs_58_14 dX9_orderedMany_6 ?_
    rw [hP.2.1.1]
    refine go_icmp_ge (tgt := 37) dX9_orderedMany_9 (by decide) (fun c9 => ?_) (fun c9 => ?_)
    · refine go_iload_n dX9_orderedMany_37 rfl rfl ?_
      refine go_iret rfl dX9_orderedMany_38 ?_
      exact ⟨rfl, rfl⟩
    · exact absurd (Int32.le_refl _) c9
  | succ m ih =>
    intro g hg
    have stp := ih (g + 1) (by omega)
    refine go_iload_n dX9_orderedMany_4 rfl rfl ?_
    refine go_aload_n dX9_orderedMany_5 rfl rfl ?_
    refine go_getI flX9_96 fs_58_14 dX9_orderedMany_6 ?_
    rw [hP.2.1.1]
    refine go_icmp_ge (tgt := 37) dX9_orderedMany_9 (by decide) (fun c9 => ?_) (fun c9 => ?_)
    · exact absurd c9 (nI_ge (by omega) (by omega))
    · refine go_iload_n dX9_orderedMany_12 rfl rfl ?_
      refine go_aload_n dX9_orderedMany_13 rfl rfl ?_
      refine go_getR flX9_31 fs_58_17 dX9_orderedMany_14 ?_
      refine go_iload_n dX9_orderedMany_17 rfl rfl ?_
      refine go_iald (g) rfl as_66 (by omega) (by decide) dX9_orderedMany_18 ?_
      rw [hR g (by omega)]
      refine go_bipush (v := (-2)) dX9_orderedMany_19 rfl ?_
      refine go_icmp_ne (tgt := 28) dX9_orderedMany_21 (by decide) (fun c21 => ?_) (fun c21 => ?_)
      · refine go_iconst (v := nI 1) dX9_orderedMany_28 rfl ?_
        refine go_iadd dX9_orderedMany_29 ?_
        refine go_istore_n (L' := [_, _, _]) dX9_orderedMany_30 rfl (by decide) rfl rfl ?_
        refine go_iinc (v := nI (g + 1)) (L' := [_, _, _]) dX9_orderedMany_31 rfl (nI_1 _) (by decide) rfl rfl ?_
        refine go_goto (tgt := 4) dX9_orderedMany_34 (by decide) ?_
        rw [show sumN (fun g => hO (h g)) (g + 1) = sumN (fun g => hO (h g)) g + nI 1 by conv => lhs; unfold sumN; rw [show hO (h g) = nI 1 from hO_1.mpr c21]] at stp
        exact stp
      · refine go_iconst (v := nI 0) dX9_orderedMany_24 rfl ?_
        refine go_goto (tgt := 29) dX9_orderedMany_25 (by decide) ?_
        refine go_iadd dX9_orderedMany_29 ?_
        refine go_istore_n (L' := [_, _, _]) dX9_orderedMany_30 rfl (by decide) rfl rfl ?_
        refine go_iinc (v := nI (g + 1)) (L' := [_, _, _]) dX9_orderedMany_31 rfl (nI_1 _) (by decide) rfl rfl ?_
        refine go_goto (tgt := 4) dX9_orderedMany_34 (by decide) ?_
        rw [show sumN (fun g => hO (h g)) (g + 1) = sumN (fun g => hO (h g)) g + nI 0 by conv => lhs; unfold sumN; rw [show hO (h g) = nI 0 by rw [c21]; decide]] at stp
        exact stp
set_option maxHeartbeats 1000000 in
theorem sm_ordered {Γ : Gm} {σ : Mm} {P : Pb} {h : Nat → Int32} (hP : MP σ P) (hR : Rw σ 66 P h) : Sp Γ 1 mX9_orderedMany [rf Γ 58] σ (aP (ordN P h) σ) := by
  refine sp_in (L := [some (rf Γ 58), none, none]) rfl (Nat.le_of_ble_eq_true rfl) rfl ?_
  refine go_iconst (v := nI 0) dX9_orderedMany_0 rfl ?_
  refine go_istore_n (L' := [_, _, _]) dX9_orderedMany_1 rfl (by decide) rfl rfl ?_
  refine go_iconst (v := nI 0) dX9_orderedMany_2 rfl ?_
  refine go_istore_n (L' := [_, _, _]) dX9_orderedMany_3 rfl (by decide) rfl rfl ?_
  exact lp_ordered hP hR (pG P) 0 (by omega)
set_option maxHeartbeats 2000000 in
theorem lp_beginM {Γ : Gm} {σ : Mm} {P : Pb} {a w : Int32} (hP : MP σ P) (hB : BY σ P) (ha : a = -1 ∨ ∃ k, k < pG P ∧ a = nI k) : ∀ (m f : Nat) (σ' : Mm), f + m = pG P → O67 σ σ' → Go Γ 5 mX9_beginOf (aI (if w = 0 then (bfL (joyF P a) (-1) (pG P)).1 else (bfL (joyF P a) (-1) (pG P)).2) (O67 σ)) 12 [some (rf Γ 58), some (.int a), some (.int w), some (.int (bfL (joyF P a) (-1) f).1), some (.int (bfL (joyF P a) (-1) f).2), some (.int (nI f)), none] [] σ' := by
  have hG := hP.2.1.2
  intro m
  induction m with
  | zero =>
    intro f σ' hf hO
    have e : f = pG P := by omega
    subst e
    refine go_iload dX9_beginOf_12 rfl ?_
    refine go_aload_n dX9_beginOf_14 rfl rfl ?_
    refine go_getI flX9_96 fs_58_14 dX9_beginOf_15 ?_
    rw [(hP.om hO.om).2.1.1]
    refine go_icmp_ge (tgt := 90) dX9_beginOf_18 (by decide) (fun c18 => ?_) (fun c18 => ?_)
    · refine go_iload_n dX9_beginOf_90 rfl rfl ?_
      refine go_if_ne (tgt := 98) dX9_beginOf_91 (by decide) (fun c91 => ?_) (fun c91 => ?_)
      · refine go_iload dX9_beginOf_98 rfl ?_
        refine go_iret rfl dX9_beginOf_100 ?_
        exact ⟨by rw [if_neg c91], hO⟩
      · refine go_iload_n dX9_beginOf_94 rfl rfl ?_
        refine go_goto (tgt := 100) dX9_beginOf_95 (by decide) ?_
        refine go_iret rfl dX9_beginOf_100 ?_
        exact ⟨by rw [if_pos c91], hO⟩
    · exact absurd (Int32.le_refl _) c18
  | succ m ih =>
    intro f σ' hf hO
    have hf1 : f < pG P := by omega
    have hP' := hP.om hO.om
    have fin : ∀ (σ2 : Mm), O67 σ σ2 → Go Γ 5 mX9_beginOf (aI (if w = 0 then (bfL (joyF P a) (-1) (pG P)).1 else (bfL (joyF P a) (-1) (pG P)).2) (O67 σ)) 52 [some (rf Γ 58), some (.int a), some (.int w), some (.int (bfL (joyF P a) (-1) f).1), some (.int (bfL (joyF P a) (-1) f).2), some (.int (nI f)), none] [.int (joyF P a f)] σ2 := by
      intro σ2 hO2
      have stp := ih (f + 1) σ2 (by omega) hO2
      refine go_istore (L' := [_, _, _, _, _, _, _]) dX9_beginOf_52 (by decide) rfl rfl ?_
      refine go_iload dX9_beginOf_54 rfl ?_
      refine go_iload dX9_beginOf_56 rfl ?_
      refine go_icmp_le (tgt := 66) dX9_beginOf_58 (by decide) (fun c58 => ?_) (fun c58 => ?_)
      · refine go_iload_n dX9_beginOf_66 rfl rfl ?_
        refine go_istore_n (L' := [_, _, _, _, _, _, _]) dX9_beginOf_67 rfl (by decide) rfl rfl ?_
        refine go_iload dX9_beginOf_68 rfl ?_
        refine go_iload dX9_beginOf_70 rfl ?_
        refine go_icmp_le (tgt := 80) dX9_beginOf_72 (by decide) (fun c72 => ?_) (fun c72 => ?_)
        · refine go_iload dX9_beginOf_80 rfl ?_
          refine go_istore (L' := [_, _, _, _, _, _, _]) dX9_beginOf_82 (by decide) rfl rfl ?_
          refine go_iinc (v := nI (f + 1)) (L' := [_, _, _, _, _, _, _]) dX9_beginOf_84 rfl (nI_1 _) (by decide) rfl rfl ?_
          refine go_goto (tgt := 12) dX9_beginOf_87 (by decide) ?_
          rw [show bfL (joyF P a) (-1) (f + 1) = bfL (joyF P a) (-1) f by conv => lhs; unfold bfL; rw [if_neg (Int32.not_lt.mpr c58)]] at stp
          exact go_sub [true, true, true, true, true, true, false] rfl stp
        · refine go_iload dX9_beginOf_75 rfl ?_
          refine go_goto (tgt := 82) dX9_beginOf_77 (by decide) ?_
          refine go_istore (L' := [_, _, _, _, _, _, _]) dX9_beginOf_82 (by decide) rfl rfl ?_
          refine go_iinc (v := nI (f + 1)) (L' := [_, _, _, _, _, _, _]) dX9_beginOf_84 rfl (nI_1 _) (by decide) rfl rfl ?_
          refine go_goto (tgt := 12) dX9_beginOf_87 (by decide) ?_
          exact absurd c58 c72
      · refine go_iload dX9_beginOf_61 rfl ?_
        refine go_goto (tgt := 67) dX9_beginOf_63 (by decide) ?_
        refine go_istore_n (L' := [_, _, _, _, _, _, _]) dX9_beginOf_67 rfl (by decide) rfl rfl ?_
        refine go_iload dX9_beginOf_68 rfl ?_
        refine go_iload dX9_beginOf_70 rfl ?_
        refine go_icmp_le (tgt := 80) dX9_beginOf_72 (by decide) (fun c72 => ?_) (fun c72 => ?_)
        · refine go_iload dX9_beginOf_80 rfl ?_
          refine go_istore (L' := [_, _, _, _, _, _, _]) dX9_beginOf_82 (by decide) rfl rfl ?_
          refine go_iinc (v := nI (f + 1)) (L' := [_, _, _, _, _, _, _]) dX9_beginOf_84 rfl (nI_1 _) (by decide) rfl rfl ?_
          refine go_goto (tgt := 12) dX9_beginOf_87 (by decide) ?_
          exact absurd c72 c58
        · refine go_iload dX9_beginOf_75 rfl ?_
          refine go_goto (tgt := 82) dX9_beginOf_77 (by decide) ?_
          refine go_istore (L' := [_, _, _, _, _, _, _]) dX9_beginOf_82 (by decide) rfl rfl ?_
          refine go_iinc (v := nI (f + 1)) (L' := [_, _, _, _, _, _, _]) dX9_beginOf_84 rfl (nI_1 _) (by decide) rfl rfl ?_
          refine go_goto (tgt := 12) dX9_beginOf_87 (by decide) ?_
          rw [show bfL (joyF P a) (-1) (f + 1) = (nI f, joyF P a f) by conv => lhs; unfold bfL; rw [if_pos (Int32.not_le.mp c58)]] at stp
          exact go_sub [true, true, true, true, true, true, false] rfl stp
    refine go_iload dX9_beginOf_12 rfl ?_
    refine go_aload_n dX9_beginOf_14 rfl rfl ?_
    refine go_getI flX9_96 fs_58_14 dX9_beginOf_15 ?_
    rw [hP'.2.1.1]
    refine go_icmp_ge (tgt := 90) dX9_beginOf_18 (by decide) (fun c18 => ?_) (fun c18 => ?_)
    · exact absurd c18 (nI_ge (by omega) (by omega))
    · refine go_aload_n dX9_beginOf_21 rfl rfl ?_
      refine go_iload dX9_beginOf_22 rfl ?_
      refine go_callVv cvX9_165 os_58 (sm_lay hP' (hB.o67 hO) hf1) (by omega) rfl rfl (Nat.le_of_ble_eq_true rfl) dX9_beginOf_24 (fun σ2 q2 => ?_)
      refine go_iload_n dX9_beginOf_27 rfl rfl ?_
      refine go_iconst (v := (-1)) dX9_beginOf_28 rfl ?_
      refine go_icmp_ne (tgt := 43) dX9_beginOf_29 (by decide) (fun c29 => ?_) (fun c29 => ?_)
      · obtain ⟨k, hk1, e⟩ := ha.resolve_left c29
        subst e
        refine go_aload_n dX9_beginOf_43 rfl rfl ?_
        refine go_aload_n dX9_beginOf_44 rfl rfl ?_
        refine go_getR flX9_34 fs_58_21 dX9_beginOf_45 ?_
        refine go_iload_n dX9_beginOf_48 rfl rfl ?_
        refine go_callVp cvX9_128 os_58 (sm_joyOf isR67 (hP'.om q2.2.om) q2.1 hk1 (row_neg ((lay_ok hf1).1 k (by omega)))) (by omega) rfl rfl (Nat.le_of_ble_eq_true rfl) dX9_beginOf_49 ?_
        have := fin σ2 (hO.trans q2.2)
        rw [show joyF P (nI k) f = joyM P (lay P f) k by unfold joyF; rw [if_neg c29, nI_clamp (by omega)]] at this
        exact this
      · refine go_aload_n dX9_beginOf_32 rfl rfl ?_
        refine go_aload_n dX9_beginOf_33 rfl rfl ?_
        refine go_getR flX9_34 fs_58_21 dX9_beginOf_34 ?_
        refine go_callVp cvX9_169 os_58 (sm_joyAll isR67 (hP'.om q2.2.om) q2.1 (fun g hg => row_neg ((lay_ok hf1).1 g (by omega)))) (by omega) rfl rfl (Nat.le_of_ble_eq_true rfl) dX9_beginOf_37 ?_
        refine go_goto (tgt := 52) dX9_beginOf_40 (by decide) ?_
        have := fin σ2 (hO.trans q2.2)
        rw [show joyF P a f = joyA P (lay P f) by unfold joyF; rw [if_pos c29]] at this
        exact this
set_option maxHeartbeats 1000000 in
theorem sm_beginOf {Γ : Gm} {σ : Mm} {P : Pb} {a w : Int32} (hS : MS σ P) (ha : a = -1 ∨ ∃ k, k < pG P ∧ a = nI k) : Sp Γ 5 mX9_beginOf [rf Γ 58, .int a, .int w] σ (aI (if w = 0 then (bfL (joyF P a) (-1) (pG P)).1 else (bfL (joyF P a) (-1) (pG P)).2) (OM σ)) := by
  refine sp_in (L := [some (rf Γ 58), some (.int a), some (.int w), none, none, none, none]) rfl (Nat.le_of_ble_eq_true rfl) rfl ?_
  refine go_aload_n dX9_beginOf_0 rfl rfl ?_
  refine go_callVv cvX9_156 os_58 (sm_asItIs hS) (by omega) rfl rfl (Nat.le_of_ble_eq_true rfl) dX9_beginOf_1 (fun σ1 q1 => ?_)
  refine go_iconst (v := (-1)) dX9_beginOf_4 rfl ?_
  refine go_istore_n (L' := [_, _, _, _, _, _, _]) dX9_beginOf_5 rfl (by decide) rfl rfl ?_
  refine go_iconst (v := (-1)) dX9_beginOf_6 rfl ?_
  refine go_istore (L' := [_, _, _, _, _, _, _]) dX9_beginOf_7 (by decide) rfl rfl ?_
  refine go_iconst (v := nI 0) dX9_beginOf_9 rfl ?_
  refine go_istore (L' := [_, _, _, _, _, _, _]) dX9_beginOf_10 (by decide) rfl rfl ?_
  exact go_mono (fun v σ' h => ⟨h.1, q1.2.1.trans h.2.om⟩) (lp_beginM (hS.1.om q1.2.1) q1.1 ha (pG P) 0 σ1 (by omega) O67.rf)
