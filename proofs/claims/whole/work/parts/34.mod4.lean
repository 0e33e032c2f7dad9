/-! the model: at once and host by codes, fewest -/
set_option maxHeartbeats 1000000 in
theorem lp_power {Γ : Gm} {σ : Mm} {P : Pb} {c : Nat} (hP : MP σ P) : ∀ (m g : Nat), g + m = pG P → Go Γ 1 mX9_power (aP (nI (c ^ pG P)) σ) 4 [some (rf Γ 58), some (.int (nI c)), some (.int (nI (c ^ g))), some (.int (nI g))] [] σ := by
  have hG := hP.2.1.2
  intro m
  induction m with
  | zero =>
    intro g hg
    have e : g = pG P := by omega
    subst e
    refine go_iload_n dX9_power_4 rfl rfl ?_
    refine go_aload_n dX9_power_5 rfl rfl ?_
    refine go_getI flX9_96 fs_58_14 dX9_power_6 ?_
    rw [hP.2.1.1]
    refine go_icmp_ge (tgt := 22) dX9_power_9 (by decide) (fun c9 => ?_) (fun c9 => ?_)
    · refine go_iload_n dX9_power_22 rfl rfl ?_
      refine go_iret rfl dX9_power_23 ?_
      exact ⟨rfl, rfl⟩
    · exact absurd (Int32.le_refl _) c9
  | succ m ih =>
    intro g hg
    refine go_iload_n dX9_power_4 rfl rfl ?_
    refine go_aload_n dX9_power_5 rfl rfl ?_
    refine go_getI flX9_96 fs_58_14 dX9_power_6 ?_
    rw [hP.2.1.1]
    refine go_icmp_ge (tgt := 22) dX9_power_9 (by decide) (fun c9 => ?_) (fun c9 => ?_)
    · exact absurd c9 (nI_ge (by omega) (by omega))
    · refine go_iload_n dX9_power_12 rfl rfl ?_
      refine go_iload_n dX9_power_13 rfl rfl ?_
      refine go_imul dX9_power_14 ?_
      rw [pk_mul, ← Nat.pow_succ]
      refine go_istore_n (L' := [_, _, _, _]) dX9_power_15 rfl (by decide) rfl rfl ?_
      refine go_iinc (v := nI (g + 1)) (L' := [_, _, _, _]) dX9_power_16 rfl (nI_1 _) (by decide) rfl rfl ?_
      refine go_goto (tgt := 4) dX9_power_19 (by decide) ?_
      exact ih (g + 1) (by omega)
set_option maxHeartbeats 1000000 in
theorem sm_power {Γ : Gm} {σ : Mm} {P : Pb} {c : Nat} {x : Int32} (hP : MP σ P) (e : x = nI c) : Sp Γ 1 mX9_power [rf Γ 58, .int x] σ (aP (nI (c ^ pG P)) σ) := by
  subst e
  refine sp_in (L := [some (rf Γ 58), some (.int (nI c)), none, none]) rfl (Nat.le_of_ble_eq_true rfl) rfl ?_
  refine go_iconst (v := nI 1) dX9_power_0 rfl ?_
  refine go_istore_n (L' := [_, _, _, _]) dX9_power_1 rfl (by decide) rfl rfl ?_
  refine go_iconst (v := nI 0) dX9_power_2 rfl ?_
  refine go_istore_n (L' := [_, _, _, _]) dX9_power_3 rfl (by decide) rfl rfl ?_
  exact lp_power hP (pG P) 0 (by omega)
theorem pw_b {c g : Nat} (hc : c ≤ 7) (hg : g ≤ 5) : c ^ g ≤ 16807 := Nat.le_trans (Nat.pow_le_pow_left hc g) (by
  have := Nat.pow_le_pow_right (n := 7) (by omega) hg
  omega)
/-- what each has by a code -/
def rc (P : Pb) (c : Nat) : Nat → Int32 := fun g => nI (c / pD P ^ g % pD P)
def atA (P : Pb) (c : Nat) : Ac := opA (0, -1) (fo (fun c => ctr P (rc P c)) c)
theorem rc_dn {P : Pb} {c : Nat} (h : 0 < pD P) : Dn P (rc P c) (pG P) := fun g _ => ⟨c / pD P ^ g % pD P, Nat.mod_lt _ h, rfl⟩
set_option maxHeartbeats 2000000 in
theorem lp_atC2 {Γ : Gm} {σ : Mm} {P : Pb} {c : Nat} {w x2 x3 : Int32} {Q : Option Value → Mm → Prop} (hP : MP σ P) (hD0 : 0 < pD P) (hc : c < 2 ^ 30)
    (next : ∀ σ', Rw σ' 67 P (rc P c) → O67 σ σ' → Go Γ 4 mX9_atOnce Q 111 [some (rf Γ 58), some (.int w), some (.int x2), some (.int x3), some (.int (nI c)), none, none] [] σ') :
    ∀ (m g : Nat) (σ' : Mm), g + m = pG P → (∀ k, k < g → σ'.1 67 k = rc P c k) → O67 σ σ' → Go Γ 4 mX9_atOnce Q 73 [some (rf Γ 58), some (.int w), some (.int x2), some (.int x3), some (.int (nI c)), some (.int (nI (c / pD P ^ g))), some (.int (nI g))] [] σ' := by
  have hD := hP.1.2
  have hG := hP.2.1.2
  intro m
  induction m with
  | zero =>
    intro g σ' hg hR hO
    have e : g = pG P := by omega
    subst e
    refine go_iload dX9_atOnce_73 rfl ?_
    refine go_aload_n dX9_atOnce_75 rfl rfl ?_
    refine go_getI flX9_96 fs_58_14 dX9_atOnce_76 ?_
    rw [(hP.om hO.om).2.1.1]
    refine go_icmp_ge (tgt := 111) dX9_atOnce_79 (by decide) (fun c79 => ?_) (fun c79 => ?_)
    · exact go_sub [true, true, true, true, true, false, false] rfl (next σ' hR hO)
    · exact absurd (Int32.le_refl _) c79
  | succ m ih =>
    intro g σ' hg hR hO
    have hP' := hP.om hO.om
    have hl : c / pD P ^ g < 2 ^ 31 := Nat.lt_of_le_of_lt (Nat.div_le_self _ _) (by omega)
    have er : nI (c / pD P ^ g) - nI (c / pD P ^ g) / nI (pD P) * nI (pD P) = nI (c / pD P ^ g % pD P) := pk_rem hl hD0 (by omega)
    have ed : nI (c / pD P ^ g) / nI (pD P) = nI (c / pD P ^ (g + 1)) := by rw [pk_div hl hD0 (by omega), Nat.div_div_eq_div_mul, ← Nat.pow_succ]
    have h7 : (stI σ' 67 g (nI (c / pD P ^ g % pD P))).1 58 7 = nI (pD P) := by rw [stI_ne (by omega)]; exact hP'.1.1
    refine go_iload dX9_atOnce_73 rfl ?_
    refine go_aload_n dX9_atOnce_75 rfl rfl ?_
    refine go_getI flX9_96 fs_58_14 dX9_atOnce_76 ?_
    rw [hP'.2.1.1]
    refine go_icmp_ge (tgt := 111) dX9_atOnce_79 (by decide) (fun c79 => ?_) (fun c79 => ?_)
    · exact absurd c79 (nI_ge (by omega) (by omega))
    · refine go_aload_n dX9_atOnce_82 rfl rfl ?_
      refine go_getR flX9_34 fs_58_21 dX9_atOnce_83 ?_
      refine go_iload dX9_atOnce_86 rfl ?_
      refine go_iload dX9_atOnce_88 rfl ?_
      refine go_aload_n dX9_atOnce_90 rfl rfl ?_
      refine go_getI flX9_90 fs_58_7 dX9_atOnce_91 ?_
      rw [hP'.1.1]
      refine go_irem dX9_atOnce_94 (nI_ne0 hD0 (by omega)) ?_
      rw [er]
      refine go_iast (g) rfl as_67 (by omega) (by decide) dX9_atOnce_95 ?_
      refine go_iload dX9_atOnce_96 rfl ?_
      refine go_aload_n dX9_atOnce_98 rfl rfl ?_
      refine go_getI flX9_90 fs_58_7 dX9_atOnce_99 ?_
      rw [h7]
      refine go_idiv dX9_atOnce_102 (nI_ne0 hD0 (by omega)) ?_
      rw [ed]
      refine go_istore (L' := [_, _, _, _, _, _, _]) dX9_atOnce_103 (by decide) rfl rfl ?_
      refine go_iinc (v := nI (g + 1)) (L' := [_, _, _, _, _, _, _]) dX9_atOnce_105 rfl (nI_1 _) (by decide) rfl rfl ?_
      refine go_goto (tgt := 73) dX9_atOnce_108 (by decide) ?_
      refine ih (g + 1) _ (by omega) (fun k hk => ?_) hO.st
      by_cases q : k = g
      · subst q; rw [stI_at]; rfl
      · rw [stI_ne (by omega)]; exact hR k (by omega)
set_option maxHeartbeats 2000000 in
theorem lp_atC1 {Γ : Gm} {σ : Mm} {P : Pb} {w : Int32} (hP : MP σ P) (hB : BY σ P) (hD0 : 0 < pD P) : ∀ (m c : Nat) (σ' : Mm), c + m = pD P ^ pG P → O67 σ σ' → Go Γ 4 mX9_atOnce (aI (if w = 0 then (atA P (pD P ^ pG P)).1 else (atA P (pD P ^ pG P)).2) (O67 σ)) 53 [some (rf Γ 58), some (.int w), some (.int (atA P c).1), some (.int (atA P c).2), some (.int (nI c)), none, none] [] σ' := by
  have hD := hP.1.2
  have hG := hP.2.1.2
  have hb := pw_b (c := pD P) (g := pG P) (by omega) hG
  intro m
  induction m with
  | zero =>
    intro c σ' hc hO
    have e : c = pD P ^ pG P := by omega
    subst e
    refine go_iload dX9_atOnce_53 rfl ?_
    refine go_aload_n dX9_atOnce_55 rfl rfl ?_
    refine go_aload_n dX9_atOnce_56 rfl rfl ?_
    refine go_getI flX9_90 fs_58_7 dX9_atOnce_57 ?_
    rw [(hP.om hO.om).1.1]
    refine go_callVp cvX9_179 os_58 (sm_power (hP.om hO.om) rfl) (by omega) rfl rfl (Nat.le_of_ble_eq_true rfl) dX9_atOnce_60 ?_
    refine go_icmp_ge (tgt := 150) dX9_atOnce_63 (by decide) (fun c63 => ?_) (fun c63 => ?_)
    · refine go_iload_n dX9_atOnce_150 rfl rfl ?_
      refine go_if_ne (tgt := 158) dX9_atOnce_151 (by decide) (fun c151 => ?_) (fun c151 => ?_)
      · refine go_iload_n dX9_atOnce_158 rfl rfl ?_
        refine go_iret rfl dX9_atOnce_159 ?_
        exact ⟨by rw [if_neg c151], hO⟩
      · refine go_iload_n dX9_atOnce_154 rfl rfl ?_
        refine go_goto (tgt := 159) dX9_atOnce_155 (by decide) ?_
        refine go_iret rfl dX9_atOnce_159 ?_
        exact ⟨by rw [if_pos c151], hO⟩
    · exact absurd (Int32.le_refl _) c63
  | succ m ih =>
    intro c σ' hc hO
    have n111 : ∀ σ2, Rw σ2 67 P (rc P c) → O67 σ' σ2 → Go Γ 4 mX9_atOnce (aI (if w = 0 then (atA P (pD P ^ pG P)).1 else (atA P (pD P ^ pG P)).2) (O67 σ)) 111 [some (rf Γ 58), some (.int w), some (.int (atA P c).1), some (.int (atA P c).2), some (.int (nI c)), none, none] [] σ2 := by
      intro σ2 hR hO2
      have hO3 := hO.trans hO2
      have stp := ih (c + 1) σ2 (by omega) hO3
      have ea : atA P (c + 1) = opA (atA P c) (ctr P (rc P c)) := by
        show opA (0, -1) (opA (fo (fun c => ctr P (rc P c)) c) (ctr P (rc P c))) = _
        rw [← opA_assoc]; rfl
      have good : goodB P (rc P c) = true → atA P (c + 1) = ((atA P c).1 + 1, mx (atA P c).2 (joyA P (rc P c))) := by
        intro q; rw [ea]; unfold ctr; rw [if_pos q]; rfl
      refine go_aload_n dX9_atOnce_111 rfl rfl ?_
      refine go_callVp cvX9_183 os_58 (sm_isAtOnce (hP.om hO3.om) (hB.o67 hO3) hR (rc_dn hD0)) (by omega) rfl rfl (Nat.le_of_ble_eq_true rfl) dX9_atOnce_112 ?_
      refine go_if_eq (tgt := 144) dX9_atOnce_115 (by decide) (fun c115 => ?_) (fun c115 => ?_)
      · refine go_iinc (v := nI (c + 1)) (L' := [_, _, _, _, _, _, _]) dX9_atOnce_144 rfl (nI_1 _) (by decide) rfl rfl ?_
        refine go_goto (tgt := 53) dX9_atOnce_147 (by decide) ?_
        rw [show atA P (c + 1) = atA P c by rw [ea]; unfold ctr; rw [bI_eq0.mp c115]; exact opA_e _] at stp
        exact go_sub [true, true, true, true, true, false, false] rfl stp
      · refine go_aload_n dX9_atOnce_118 rfl rfl ?_
        refine go_aload_n dX9_atOnce_119 rfl rfl ?_
        refine go_getR flX9_34 fs_58_21 dX9_atOnce_120 ?_
        refine go_callVp cvX9_169 os_58 (sm_joyAll isR67 (hP.om hO3.om) hR (fun g hg => Or.inr (rc_dn hD0 g hg))) (by omega) rfl rfl (Nat.le_of_ble_eq_true rfl) dX9_atOnce_123 ?_
        refine go_istore (L' := [_, _, _, _, _, _, _]) dX9_atOnce_126 (by decide) rfl rfl ?_
        refine go_iinc (L' := [_, _, _, _, _, _, _]) dX9_atOnce_128 rfl rfl (by decide) rfl rfl ?_
        refine go_iload dX9_atOnce_131 rfl ?_
        refine go_iload_n dX9_atOnce_133 rfl rfl ?_
        refine go_icmp_le (tgt := 142) dX9_atOnce_134 (by decide) (fun c134 => ?_) (fun c134 => ?_)
        · refine go_iload_n dX9_atOnce_142 rfl rfl ?_
          refine go_istore_n (L' := [_, _, _, _, _, _, _]) dX9_atOnce_143 rfl (by decide) rfl rfl ?_
          refine go_iinc (v := nI (c + 1)) (L' := [_, _, _, _, _, _, _]) dX9_atOnce_144 rfl (nI_1 _) (by decide) rfl rfl ?_
          refine go_goto (tgt := 53) dX9_atOnce_147 (by decide) ?_
          rw [show atA P (c + 1) = ((atA P c).1 + 1, (atA P c).2) by rw [good (bI_ne0.mp c115)]; unfold mx; rw [if_neg (Int32.not_lt.mpr c134)]] at stp
          exact go_sub [true, true, true, true, true, false, false] rfl stp
        · refine go_iload dX9_atOnce_137 rfl ?_
          refine go_goto (tgt := 143) dX9_atOnce_139 (by decide) ?_
          refine go_istore_n (L' := [_, _, _, _, _, _, _]) dX9_atOnce_143 rfl (by decide) rfl rfl ?_
          refine go_iinc (v := nI (c + 1)) (L' := [_, _, _, _, _, _, _]) dX9_atOnce_144 rfl (nI_1 _) (by decide) rfl rfl ?_
          refine go_goto (tgt := 53) dX9_atOnce_147 (by decide) ?_
          rw [show atA P (c + 1) = ((atA P c).1 + 1, joyA P (rc P c)) by rw [good (bI_ne0.mp c115)]; unfold mx; rw [if_pos (Int32.not_le.mp c134)]] at stp
          exact go_sub [true, true, true, true, true, false, false] rfl stp
    refine go_iload dX9_atOnce_53 rfl ?_
    refine go_aload_n dX9_atOnce_55 rfl rfl ?_
    refine go_aload_n dX9_atOnce_56 rfl rfl ?_
    refine go_getI flX9_90 fs_58_7 dX9_atOnce_57 ?_
    rw [(hP.om hO.om).1.1]
    refine go_callVp cvX9_179 os_58 (sm_power (hP.om hO.om) rfl) (by omega) rfl rfl (Nat.le_of_ble_eq_true rfl) dX9_atOnce_60 ?_
    refine go_icmp_ge (tgt := 150) dX9_atOnce_63 (by decide) (fun c63 => ?_) (fun c63 => ?_)
    · exact absurd c63 (nI_ge (by omega) (by omega))
    · refine go_iload dX9_atOnce_66 rfl ?_
      refine go_istore (L' := [_, _, _, _, _, _, _]) dX9_atOnce_68 (by decide) rfl rfl ?_
      refine go_iconst (v := nI 0) dX9_atOnce_70 rfl ?_
      refine go_istore (L' := [_, _, _, _, _, _, _]) dX9_atOnce_71 (by decide) rfl rfl ?_
      have := lp_atC2 (c := c) (hP.om hO.om) hD0 (by omega) n111 (pG P) 0 σ' (by omega) (fun k hk => absurd hk (Nat.not_lt_zero k)) O67.rf
      rw [Nat.pow_zero, Nat.div_one] at this
      exact this
/-- host by codes -/
def hrC (P : Pb) (c : Nat) : Nat → Int32 := fun g => nI (c / (pD P + 1) ^ g % (pD P + 1)) - nI 1
def feaG (P : Pb) (h : Nat → Int32) (g : Nat) : Bool := decide (h g = -1) || decide (pPr P (h g).toNatClampNeg ≤ pPu P g)
def feaD (P : Pb) (h : Nat → Int32) (d : Nat) : Bool := decide (nI (cnt h (nI d) (pG P)) ≤ pSt P d)
def hv (P : Pb) (h : Nat → Int32) : Int32 := if (allB (feaG P h) (pG P) && allB (feaD P h) (pD P)) = true then joyA P h else 0
def hmF (P : Pb) : Nat → Int32
  | 0 => 0
  | c + 1 => mx (hmF P c) (hv P (hrC P c))
theorem hrC_row {P : Pb} {c g : Nat} : hrC P c g = -1 ∨ ∃ d, d < pD P ∧ hrC P c g = nI d := by
  unfold hrC
  have := Nat.mod_lt (c / (pD P + 1) ^ g) (show 0 < pD P + 1 by omega)
  generalize c / (pD P + 1) ^ g % (pD P + 1) = k at this
  cases k with
  | zero => exact Or.inl (by decide)
  | succ k => exact Or.inr ⟨k, by omega, by rw [pk_sub (by omega)]; rfl⟩
set_option maxHeartbeats 2000000 in
theorem lp_hostC2 {Γ : Gm} {σ : Mm} {P : Pb} {c : Nat} {x1 : Int32} {Q : Option Value → Mm → Prop} (hP : MP σ P) (hc : c < 2 ^ 30)
    (next : ∀ σ', Rw σ' 67 P (hrC P c) → O67 σ σ' → Go Γ 3 mX9_hostOf Q 116 [some (rf Γ 58), some (.int x1), some (.int (nI c)), none, some (.int (bI (allB (feaG P (hrC P c)) (pG P)))), none] [] σ') :
    ∀ (m g : Nat) (σ' : Mm), g + m = pG P → (∀ k, k < g → σ'.1 67 k = hrC P c k) → O67 σ σ' → Go Γ 3 mX9_hostOf Q 26 [some (rf Γ 58), some (.int x1), some (.int (nI c)), some (.int (nI (c / (pD P + 1) ^ g))), some (.int (bI (allB (feaG P (hrC P c)) g))), some (.int (nI g))] [] σ' := by
  have hD := hP.1.2
  have hG := hP.2.1.2
  intro m
  induction m with
  | zero =>
    intro g σ' hg hR hO
    have e : g = pG P := by omega
    subst e
    refine go_iload dX9_hostOf_26 rfl ?_
    refine go_aload_n dX9_hostOf_28 rfl rfl ?_
    refine go_getI flX9_96 fs_58_14 dX9_hostOf_29 ?_
    rw [(hP.om hO.om).2.1.1]
    refine go_icmp_ge (tgt := 116) dX9_hostOf_32 (by decide) (fun c32 => ?_) (fun c32 => ?_)
    · exact go_sub [true, true, true, false, true, false] rfl (next σ' hR hO)
    · exact absurd (Int32.le_refl _) c32
  | succ m ih =>
    intro g σ' hg hR hO
    have hg1 : g < pG P := by omega
    have hP' := hP.om hO.om
    have hl : c / (pD P + 1) ^ g < 2 ^ 31 := Nat.lt_of_le_of_lt (Nat.div_le_self _ _) (by omega)
    have e1 : nI (pD P) + nI 1 = nI (pD P + 1) := nI_add _ _
    have er : nI (c / (pD P + 1) ^ g) - nI (c / (pD P + 1) ^ g) / nI (pD P + 1) * nI (pD P + 1) = nI (c / (pD P + 1) ^ g % (pD P + 1)) := pk_rem hl (by omega) (by omega)
    have ed : nI (c / (pD P + 1) ^ g) / nI (pD P + 1) = nI (c / (pD P + 1) ^ (g + 1)) := by rw [pk_div hl (by omega) (by omega), Nat.div_div_eq_div_mul, ← Nat.pow_succ]
    have h7 : (stI σ' 67 g (hrC P c g)).1 58 7 = nI (pD P) := by rw [stI_ne (by omega)]; exact hP'.1.1
    have hrow : (stI σ' 67 g (hrC P c g)).1 67 g = hrC P c g := stI_at
    have hP2 : MP (stI σ' 67 g (hrC P c g)) P := hP'.om (O67.rf.st).om
    have hcase := hrC_row (P := P) (c := c) (g := g)
    have stp := ih (g + 1) (stI σ' 67 g (hrC P c g)) (by omega) (fun k hk => by
      by_cases q : k = g
      · subst q; rw [stI_at]
      · rw [stI_ne (by omega)]; exact hR k (by omega)) hO.st
    have fin : ∀ b : Bool, (allB (feaG P (hrC P c)) g && feaG P (hrC P c) g) = b → Go Γ 3 mX9_hostOf Q 26 [some (rf Γ 58), some (.int x1), some (.int (nI c)), some (.int (nI (c / (pD P + 1) ^ (g + 1)))), some (.int (bI b)), some (.int (nI (g + 1)))] [] (stI σ' 67 g (hrC P c g)) := fun b hb => by
      rw [show allB (feaG P (hrC P c)) (g + 1) = b from hb] at stp
      exact stp
    refine go_iload dX9_hostOf_26 rfl ?_
    refine go_aload_n dX9_hostOf_28 rfl rfl ?_
    refine go_getI flX9_96 fs_58_14 dX9_hostOf_29 ?_
    rw [hP'.2.1.1]
    refine go_icmp_ge (tgt := 116) dX9_hostOf_32 (by decide) (fun c32 => ?_) (fun c32 => ?_)
    · exact absurd c32 (nI_ge (by omega) (by omega))
    · refine go_aload_n dX9_hostOf_35 rfl rfl ?_
      refine go_getR flX9_34 fs_58_21 dX9_hostOf_36 ?_
      refine go_iload dX9_hostOf_39 rfl ?_
      refine go_iload_n dX9_hostOf_41 rfl rfl ?_
      refine go_aload_n dX9_hostOf_42 rfl rfl ?_
      refine go_getI flX9_90 fs_58_7 dX9_hostOf_43 ?_
      rw [hP'.1.1]
      refine go_iconst (v := nI 1) dX9_hostOf_46 rfl ?_
      refine go_iadd dX9_hostOf_47 ?_
      rw [e1]
      refine go_irem dX9_hostOf_48 (nI_ne0 (by omega) (by omega)) ?_
      rw [er]
      refine go_iconst (v := nI 1) dX9_hostOf_49 rfl ?_
      refine go_isub dX9_hostOf_50 ?_
      rw [show nI (c / (pD P + 1) ^ g % (pD P + 1)) - nI 1 = hrC P c g from rfl]
      refine go_iast (g) rfl as_67 (by omega) (by decide) dX9_hostOf_51 ?_
      refine go_iload_n dX9_hostOf_52 rfl rfl ?_
      refine go_aload_n dX9_hostOf_53 rfl rfl ?_
      refine go_getI flX9_90 fs_58_7 dX9_hostOf_54 ?_
      rw [h7]
      refine go_iconst (v := nI 1) dX9_hostOf_57 rfl ?_
      refine go_iadd dX9_hostOf_58 ?_
      rw [e1]
      refine go_idiv dX9_hostOf_59 (nI_ne0 (by omega) (by omega)) ?_
      rw [ed]
      refine go_istore_n (L' := [_, _, _, _, _, _]) dX9_hostOf_60 rfl (by decide) rfl rfl ?_
      refine go_iload dX9_hostOf_61 rfl ?_
      refine go_if_eq (tgt := 107) dX9_hostOf_63 (by decide) (fun c63 => ?_) (fun c63 => ?_)
      · refine go_iconst (v := nI 0) dX9_hostOf_107 rfl ?_
        refine go_istore (L' := [_, _, _, _, _, _]) dX9_hostOf_108 (by decide) rfl rfl ?_
        refine go_iinc (v := nI (g + 1)) (L' := [_, _, _, _, _, _]) dX9_hostOf_110 rfl (nI_1 _) (by decide) rfl rfl ?_
        refine go_goto (tgt := 26) dX9_hostOf_113 (by decide) ?_
        exact fin false (by rw [bI_eq0.mp c63]; rfl)
      · refine go_aload_n dX9_hostOf_66 rfl rfl ?_
        refine go_getR flX9_34 fs_58_21 dX9_hostOf_67 ?_
        refine go_iload dX9_hostOf_70 rfl ?_
        refine go_iald (g) rfl as_67 (by omega) (by decide) dX9_hostOf_72 ?_
        rw [hrow]
        refine go_iconst (v := (-1)) dX9_hostOf_73 rfl ?_
        refine go_icmp_eq (tgt := 103) dX9_hostOf_74 (by decide) (fun c74 => ?_) (fun c74 => ?_)
        · refine go_iconst (v := nI 1) dX9_hostOf_103 rfl ?_
          refine go_goto (tgt := 108) dX9_hostOf_104 (by decide) ?_
          refine go_istore (L' := [_, _, _, _, _, _]) dX9_hostOf_108 (by decide) rfl rfl ?_
          refine go_iinc (v := nI (g + 1)) (L' := [_, _, _, _, _, _]) dX9_hostOf_110 rfl (nI_1 _) (by decide) rfl rfl ?_
          refine go_goto (tgt := 26) dX9_hostOf_113 (by decide) ?_
          exact fin true (by rw [bI_ne0.mp c63]; unfold feaG; simp [c74])
        · obtain ⟨d, hd, e⟩ := hcase.resolve_left c74
          refine go_aload_n dX9_hostOf_77 rfl rfl ?_
          refine go_getR flX9_22 fs_58_13 dX9_hostOf_78 ?_
          refine go_aload_n dX9_hostOf_81 rfl rfl ?_
          refine go_getR flX9_34 fs_58_21 dX9_hostOf_82 ?_
          refine go_iload dX9_hostOf_85 rfl ?_
          refine go_iald (g) rfl as_67 (by omega) (by decide) dX9_hostOf_87 ?_
          rw [hrow]
          refine go_iald d e as_63 (by omega) (by decide) dX9_hostOf_88 ?_
          rw [(hP2.2.2.1 d hd).2]
          refine go_aload_n dX9_hostOf_89 rfl rfl ?_
          refine go_getR flX9_25 fs_58_15 dX9_hostOf_90 ?_
          refine go_iconst (v := nI 2) dX9_hostOf_93 rfl ?_
          refine go_iload dX9_hostOf_94 rfl ?_
          refine go_imul dX9_hostOf_96 ?_
          refine go_iconst (v := nI 1) dX9_hostOf_97 rfl ?_
          refine go_iadd dX9_hostOf_98 ?_
          refine go_iald ((2 * g) + 1) (by simp only [pk_mul, nI_add]) as_64 (by omega) (by decide) dX9_hostOf_99 ?_
          rw [(hP2.2.2.2 g hg1).2.1]
          refine go_icmp_gt (tgt := 107) dX9_hostOf_100 (by decide) (fun c100 => ?_) (fun c100 => ?_)
          · refine go_iconst (v := nI 0) dX9_hostOf_107 rfl ?_
            refine go_istore (L' := [_, _, _, _, _, _]) dX9_hostOf_108 (by decide) rfl rfl ?_
            refine go_iinc (v := nI (g + 1)) (L' := [_, _, _, _, _, _]) dX9_hostOf_110 rfl (nI_1 _) (by decide) rfl rfl ?_
            refine go_goto (tgt := 26) dX9_hostOf_113 (by decide) ?_
            exact fin false (by rw [bI_ne0.mp c63]; unfold feaG; rw [e, nI_clamp (by omega)]; simp [Int32.not_le.mpr c100, nI_neg1 (show d < 2 ^ 31 by omega)])
          · refine go_iconst (v := nI 1) dX9_hostOf_103 rfl ?_
            refine go_goto (tgt := 108) dX9_hostOf_104 (by decide) ?_
            refine go_istore (L' := [_, _, _, _, _, _]) dX9_hostOf_108 (by decide) rfl rfl ?_
            refine go_iinc (v := nI (g + 1)) (L' := [_, _, _, _, _, _]) dX9_hostOf_110 rfl (nI_1 _) (by decide) rfl rfl ?_
            refine go_goto (tgt := 26) dX9_hostOf_113 (by decide) ?_
            exact fin true (by rw [bI_ne0.mp c63]; unfold feaG; rw [e, nI_clamp (by omega)]; simp [Int32.not_lt.mp c100])
set_option maxHeartbeats 2000000 in
theorem lp_hostC3 {Γ : Gm} {σ : Mm} {P : Pb} {h : Nat → Int32} {b0 : Bool} {x1 x2 : Int32} {Q : Option Value → Mm → Prop} (hP : MP σ P) (hR : Rw σ 67 P h)
    (next : Go Γ 3 mX9_hostOf Q 166 [some (rf Γ 58), some (.int x1), some (.int x2), none, some (.int (bI (b0 && allB (feaD P h) (pD P)))), none] [] σ) :
    ∀ (m d : Nat), d + m = pD P → Go Γ 3 mX9_hostOf Q 119 [some (rf Γ 58), some (.int x1), some (.int x2), none, some (.int (bI (b0 && allB (feaD P h) d))), some (.int (nI d))] [] σ := by
  have hD := hP.1.2
  intro m
  induction m with
  | zero =>
    intro d hd
    have e : d = pD P := by omega
    subst e
    refine go_iload dX9_hostOf_119 rfl ?_
    refine go_aload_n dX9_hostOf_121 rfl rfl ?_
    refine go_getI flX9_90 fs_58_7 dX9_hostOf_122 ?_
    rw [hP.1.1]
    refine go_icmp_ge (tgt := 166) dX9_hostOf_125 (by decide) (fun c125 => ?_) (fun c125 => ?_)
    · exact go_sub [true, true, true, true, true, false] rfl next
    · exact absurd (Int32.le_refl _) c125
  | succ m ih =>
    intro d hd
    have hd1 : d < pD P := by omega
    have stp := ih (d + 1) (by omega)
    have fin : ∀ b : Bool, (b0 && allB (feaD P h) d) = true → feaD P h d = b → Go Γ 3 mX9_hostOf Q 119 [some (rf Γ 58), some (.int x1), some (.int x2), none, some (.int (bI b)), some (.int (nI (d + 1)))] [] σ := by
      intro b h1 h2
      rw [show (b0 && allB (feaD P h) (d + 1)) = b by
        show (b0 && (allB (feaD P h) d && feaD P h d)) = b
        rw [← Bool.and_assoc, h1, Bool.true_and, h2]] at stp
      exact stp
    refine go_iload dX9_hostOf_119 rfl ?_
    refine go_aload_n dX9_hostOf_121 rfl rfl ?_
    refine go_getI flX9_90 fs_58_7 dX9_hostOf_122 ?_
    rw [hP.1.1]
    refine go_icmp_ge (tgt := 166) dX9_hostOf_125 (by decide) (fun c125 => ?_) (fun c125 => ?_)
    · exact absurd c125 (nI_ge (by omega) (by omega))
    · refine go_iload dX9_hostOf_128 rfl ?_
      refine go_if_eq (tgt := 166) dX9_hostOf_130 (by decide) (fun c130 => ?_) (fun c130 => ?_)
      · have hz : (b0 && allB (feaD P h) (pD P)) = false := by
          have := bI_eq0.mp c130
          cases b0 with
          | false => rfl
          | true =>
            rw [Bool.true_and] at this ⊢
            cases ha : allB (feaD P h) (pD P) with
            | false => rfl
            | true => rw [allB_iff.mpr (fun k hk => allB_iff.mp ha k (by omega))] at this; cases this
        rw [hz] at next
        rw [bI_eq0.mp c130]
        exact go_sub [true, true, true, true, true, false] rfl next
      · refine go_aload_n dX9_hostOf_133 rfl rfl ?_
        refine go_aload_n dX9_hostOf_134 rfl rfl ?_
        refine go_getR flX9_34 fs_58_21 dX9_hostOf_135 ?_
        refine go_iload dX9_hostOf_138 rfl ?_
        refine go_callVp cvX9_108 os_58 (sm_haveOf isR67 hP hR) (by omega) rfl rfl (Nat.le_of_ble_eq_true rfl) dX9_hostOf_140 ?_
        refine go_aload_n dX9_hostOf_143 rfl rfl ?_
        refine go_getR flX9_19 fs_58_12 dX9_hostOf_144 ?_
        refine go_iload dX9_hostOf_147 rfl ?_
        refine go_iald (d) rfl as_62 (by omega) (by decide) dX9_hostOf_149 ?_
        rw [(hP.2.2.1 d hd1).1]
        refine go_icmp_gt (tgt := 157) dX9_hostOf_150 (by decide) (fun c150 => ?_) (fun c150 => ?_)
        · refine go_iconst (v := nI 0) dX9_hostOf_157 rfl ?_
          refine go_istore (L' := [_, _, _, _, _, _]) dX9_hostOf_158 (by decide) rfl rfl ?_
          refine go_iinc (v := nI (d + 1)) (L' := [_, _, _, _, _, _]) dX9_hostOf_160 rfl (nI_1 _) (by decide) rfl rfl ?_
          refine go_goto (tgt := 119) dX9_hostOf_163 (by decide) ?_
          exact fin false (bI_ne0.mp c130) (by unfold feaD; simp [Int32.not_le.mpr c150])
        · refine go_iconst (v := nI 1) dX9_hostOf_153 rfl ?_
          refine go_goto (tgt := 158) dX9_hostOf_154 (by decide) ?_
          refine go_istore (L' := [_, _, _, _, _, _]) dX9_hostOf_158 (by decide) rfl rfl ?_
          refine go_iinc (v := nI (d + 1)) (L' := [_, _, _, _, _, _]) dX9_hostOf_160 rfl (nI_1 _) (by decide) rfl rfl ?_
          refine go_goto (tgt := 119) dX9_hostOf_163 (by decide) ?_
          exact fin true (bI_ne0.mp c130) (by unfold feaD; simp [Int32.not_lt.mp c150])
set_option maxHeartbeats 2000000 in
theorem lp_hostC1 {Γ : Gm} {σ : Mm} {P : Pb} (hP : MP σ P) : ∀ (m c : Nat) (σ' : Mm), c + m = (pD P + 1) ^ pG P → O67 σ σ' → Go Γ 3 mX9_hostOf (aI (hmF P ((pD P + 1) ^ pG P)) (O67 σ)) 4 [some (rf Γ 58), some (.int (hmF P c)), some (.int (nI c)), none, none, none] [] σ' := by
  have hD := hP.1.2
  have hG := hP.2.1.2
  have hb := pw_b (c := pD P + 1) (g := pG P) (by omega) hG
  intro m
  induction m with
  | zero =>
    intro c σ' hc hO
    have e : c = (pD P + 1) ^ pG P := by omega
    subst e
    refine go_iload_n dX9_hostOf_4 rfl rfl ?_
    refine go_aload_n dX9_hostOf_5 rfl rfl ?_
    refine go_aload_n dX9_hostOf_6 rfl rfl ?_
    refine go_getI flX9_90 fs_58_7 dX9_hostOf_7 ?_
    rw [(hP.om hO.om).1.1]
    refine go_iconst (v := nI 1) dX9_hostOf_10 rfl ?_
    refine go_iadd dX9_hostOf_11 ?_
    rw [nI_add]
    refine go_callVp cvX9_179 os_58 (sm_power (hP.om hO.om) rfl) (by omega) rfl rfl (Nat.le_of_ble_eq_true rfl) dX9_hostOf_12 ?_
    refine go_icmp_ge (tgt := 204) dX9_hostOf_15 (by decide) (fun c15 => ?_) (fun c15 => ?_)
    · refine go_iload_n dX9_hostOf_204 rfl rfl ?_
      refine go_iret rfl dX9_hostOf_205 ?_
      exact ⟨rfl, hO⟩
    · exact absurd (Int32.le_refl _) c15
  | succ m ih =>
    intro c σ' hc hO
    have n166 : ∀ σ2, Rw σ2 67 P (hrC P c) → O67 σ' σ2 → Go Γ 3 mX9_hostOf (aI (hmF P ((pD P + 1) ^ pG P)) (O67 σ)) 166 [some (rf Γ 58), some (.int (hmF P c)), some (.int (nI c)), none, some (.int (bI (allB (feaG P (hrC P c)) (pG P) && allB (feaD P (hrC P c)) (pD P)))), none] [] σ2 := by
      intro σ2 hR hO2
      have hO3 := hO.trans hO2
      have stp := ih (c + 1) σ2 (by omega) hO3
      have n183 : ∀ v, v = hv P (hrC P c) → Go Γ 3 mX9_hostOf (aI (hmF P ((pD P + 1) ^ pG P)) (O67 σ)) 183 [some (rf Γ 58), some (.int (hmF P c)), some (.int (nI c)), none, some (.int (bI (allB (feaG P (hrC P c)) (pG P) && allB (feaD P (hrC P c)) (pD P)))), none] [.int v] σ2 := by
        intro v ev
        refine go_istore (L' := [_, _, _, _, _, _]) dX9_hostOf_183 (by decide) rfl rfl ?_
        refine go_iload dX9_hostOf_185 rfl ?_
        refine go_iload_n dX9_hostOf_187 rfl rfl ?_
        refine go_icmp_le (tgt := 196) dX9_hostOf_188 (by decide) (fun c188 => ?_) (fun c188 => ?_)
        · refine go_iload_n dX9_hostOf_196 rfl rfl ?_
          refine go_istore_n (L' := [_, _, _, _, _, _]) dX9_hostOf_197 rfl (by decide) rfl rfl ?_
          refine go_iinc (v := nI (c + 1)) (L' := [_, _, _, _, _, _]) dX9_hostOf_198 rfl (nI_1 _) (by decide) rfl rfl ?_
          refine go_goto (tgt := 4) dX9_hostOf_201 (by decide) ?_
          rw [show hmF P (c + 1) = hmF P c by show mx (hmF P c) (hv P (hrC P c)) = _; rw [← ev]; unfold mx; rw [if_neg (Int32.not_lt.mpr c188)]] at stp
          exact go_sub [true, true, true, false, false, false] rfl stp
        · refine go_iload dX9_hostOf_191 rfl ?_
          refine go_goto (tgt := 197) dX9_hostOf_193 (by decide) ?_
          refine go_istore_n (L' := [_, _, _, _, _, _]) dX9_hostOf_197 rfl (by decide) rfl rfl ?_
          refine go_iinc (v := nI (c + 1)) (L' := [_, _, _, _, _, _]) dX9_hostOf_198 rfl (nI_1 _) (by decide) rfl rfl ?_
          refine go_goto (tgt := 4) dX9_hostOf_201 (by decide) ?_
          rw [show hmF P (c + 1) = v by show mx (hmF P c) (hv P (hrC P c)) = _; rw [← ev]; unfold mx; rw [if_pos (Int32.not_le.mp c188)]] at stp
          exact go_sub [true, true, true, false, false, false] rfl stp
      refine go_iload dX9_hostOf_166 rfl ?_
      refine go_if_eq (tgt := 182) dX9_hostOf_168 (by decide) (fun c168 => ?_) (fun c168 => ?_)
      · refine go_iconst (v := nI 0) dX9_hostOf_182 rfl ?_
        exact n183 _ (by unfold hv; rw [bI_eq0.mp c168]; rfl)
      · refine go_aload_n dX9_hostOf_171 rfl rfl ?_
        refine go_aload_n dX9_hostOf_172 rfl rfl ?_
        refine go_getR flX9_34 fs_58_21 dX9_hostOf_173 ?_
        refine go_callVp cvX9_169 os_58 (sm_joyAll isR67 (hP.om hO3.om) hR (fun g hg => by rcases hrC_row (P := P) (c := c) (g := g) with q | q; exact Or.inl (by rw [q]; decide); exact Or.inr q)) (by omega) rfl rfl (Nat.le_of_ble_eq_true rfl) dX9_hostOf_176 ?_
        refine go_goto (tgt := 183) dX9_hostOf_179 (by decide) ?_
        exact n183 _ (by unfold hv; rw [if_pos (bI_ne0.mp c168)])
    have n116 : ∀ σ2, Rw σ2 67 P (hrC P c) → O67 σ' σ2 → Go Γ 3 mX9_hostOf (aI (hmF P ((pD P + 1) ^ pG P)) (O67 σ)) 116 [some (rf Γ 58), some (.int (hmF P c)), some (.int (nI c)), none, some (.int (bI (allB (feaG P (hrC P c)) (pG P)))), none] [] σ2 := by
      intro σ2 hR hO2
      have tt := lp_hostC3 (hP.om (hO.trans hO2).om) hR (n166 σ2 hR hO2) (pD P) 0 (by omega)
      rw [show (allB (feaG P (hrC P c)) (pG P) && allB (feaD P (hrC P c)) 0) = allB (feaG P (hrC P c)) (pG P) by simp [allB]] at tt
      refine go_iconst (v := nI 0) dX9_hostOf_116 rfl ?_
      refine go_istore (L' := [_, _, _, _, _, _]) dX9_hostOf_117 (by decide) rfl rfl ?_
      exact tt
    refine go_iload_n dX9_hostOf_4 rfl rfl ?_
    refine go_aload_n dX9_hostOf_5 rfl rfl ?_
    refine go_aload_n dX9_hostOf_6 rfl rfl ?_
    refine go_getI flX9_90 fs_58_7 dX9_hostOf_7 ?_
    rw [(hP.om hO.om).1.1]
    refine go_iconst (v := nI 1) dX9_hostOf_10 rfl ?_
    refine go_iadd dX9_hostOf_11 ?_
    rw [nI_add]
    refine go_callVp cvX9_179 os_58 (sm_power (hP.om hO.om) rfl) (by omega) rfl rfl (Nat.le_of_ble_eq_true rfl) dX9_hostOf_12 ?_
    refine go_icmp_ge (tgt := 204) dX9_hostOf_15 (by decide) (fun c15 => ?_) (fun c15 => ?_)
    · exact absurd c15 (nI_ge (by omega) (by omega))
    · refine go_iload_n dX9_hostOf_18 rfl rfl ?_
      refine go_istore_n (L' := [_, _, _, _, _, _]) dX9_hostOf_19 rfl (by decide) rfl rfl ?_
      refine go_iconst (v := nI 1) dX9_hostOf_20 rfl ?_
      refine go_istore (L' := [_, _, _, _, _, _]) dX9_hostOf_21 (by decide) rfl rfl ?_
      refine go_iconst (v := nI 0) dX9_hostOf_23 rfl ?_
      refine go_istore (L' := [_, _, _, _, _, _]) dX9_hostOf_24 (by decide) rfl rfl ?_
      have := lp_hostC2 (Γ := Γ) (c := c) (x1 := hmF P c) (hP.om hO.om) (by omega) n116 (pG P) 0 σ' (by omega) (fun k hk => absurd hk (Nat.not_lt_zero k)) O67.rf
      rw [Nat.pow_zero, Nat.div_one] at this
      exact this
set_option maxHeartbeats 1000000 in
theorem sm_hostOf {Γ : Gm} {σ : Mm} {P : Pb} (hP : MP σ P) : Sp Γ 3 mX9_hostOf [rf Γ 58] σ (aI (hmF P ((pD P + 1) ^ pG P)) (O67 σ)) := by
  refine sp_in (L := [some (rf Γ 58), none, none, none, none, none]) rfl (Nat.le_of_ble_eq_true rfl) rfl ?_
  refine go_iconst (v := nI 0) dX9_hostOf_0 rfl ?_
  refine go_istore_n (L' := [_, _, _, _, _, _]) dX9_hostOf_1 rfl (by decide) rfl rfl ?_
  refine go_iconst (v := nI 0) dX9_hostOf_2 rfl ?_
  refine go_istore_n (L' := [_, _, _, _, _, _]) dX9_hostOf_3 rfl (by decide) rfl rfl ?_
  exact lp_hostC1 hP ((pD P + 1) ^ pG P) 0 σ (by omega) O67.rf
