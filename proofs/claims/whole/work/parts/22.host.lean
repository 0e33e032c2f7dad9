/-! the host: dish by dish, each to a group -/
/-- the joy of the group S among the first g if all of it have dish d; -1 where they can't -/
def JS (P : Pb) (d : Nat) : Nat → Nat → Int32
  | 0, _ => 0
  | g + 1, S => if S < 2 ^ g then JS P d g S else if pPr P d ≤ pPu P g ∧ JS P d g (S - 2 ^ g) ≠ -1 ∧ nI (pop (S - 2 ^ g)) < pSt P d then JS P d g (S - 2 ^ g) + pWa P g d else -1
theorem JS_low {P : Pb} {d g S : Nat} (h : S < 2 ^ g) : JS P d (g + 1) S = JS P d g S := by
  conv => lhs; unfold JS
  rw [if_pos h]
theorem or_ok : ∀ g, g < 5 → ∀ o, o < 2 ^ g → nI o ||| (nI 1 <<< (nI g &&& 31)) = nI (2 ^ g + o) := by decide +kernel
theorem pw5 {g : Nat} (h : g ≤ 5) : 2 ^ g ≤ 32 := by
  have := Nat.pow_le_pow_right (n := 2) (by omega) h
  omega
theorem pw1 (g : Nat) : 2 ^ (g + 1) = 2 ^ g + 2 ^ g := by rw [Nat.pow_succ]; omega
/-- only the two rows of groups are new -/
def OH (σ σ' : Mm) : Prop := (∀ a, a ≠ 28 → a ≠ 29 → σ'.1 a = σ.1 a) ∧ σ'.2 = σ.2
theorem OH.rf {σ : Mm} : OH σ σ := ⟨fun _ _ _ => rfl, rfl⟩
theorem OH.trans {σ σ1 σ2 : Mm} (h : OH σ σ1) (h2 : OH σ1 σ2) : OH σ σ2 := ⟨fun a q r => (h2.1 a q r).trans (h.1 a q r), h2.2.trans h.2⟩
theorem OH.st {σ σ' : Mm} {a k : Nat} {v : Int32} (h : OH σ σ') (ha : a = 28 ∨ a = 29) : OH σ (stI σ' a k v) := ⟨fun x q r => (funext fun y => stI_ne (Or.inl (by omega))).trans (h.1 x q r), h.2⟩
theorem OH.of {σ σ' : Mm} (h : OH σ σ') : OF σ σ' := ⟨fun a r => h.1 a (by omega) (by omega), fun a _ => by rw [h.2]⟩
theorem PI.oh {σ σ' : Mm} {P : Pb} (h : OH σ σ') (hP : PI σ P) : PI σ' P := by
  obtain ⟨⟨a1, a2⟩, ⟨b1, b2⟩, c, d⟩ := hP
  refine ⟨⟨by rw [h.1 3 (by omega) (by omega)]; exact a1, a2⟩, ⟨by rw [h.1 6 (by omega) (by omega)]; exact b1, b2⟩, fun k hk => ?_, fun g hg => ?_⟩
  · rw [h.1 4 (by omega) (by omega), h.1 5 (by omega) (by omega)]; exact c k hk
  · by_cases q : 8 + 2 * g = 28
    · omega
    · rw [h.1 (8 + 2 * g) (by omega) (by omega), h.1 (9 + 2 * g) (by omega) (by omega)]; exact d g hg
set_option maxHeartbeats 2000000 in
theorem lp_find2 {Γ : Gm} {σ : Mm} {P : Pb} {d g : Nat} (hP : PI σ P) (hd : d < pD P) (hg : g < pG P)
    (next : ∀ σ', (∀ S, S < 2 ^ (g + 1) → σ'.1 29 S = JS P d (g + 1) S) → (∀ S, σ'.1 28 S = σ.1 28 S) → OH σ σ' → Go Γ 2 mX0_findJoyOfGroups (aV (fun σ' => (∀ S, S < 2 ^ pG P → σ'.1 29 S = JS P d (pG P) S) ∧ (∀ S, σ'.1 28 S = σ.1 28 S) ∧ OH σ σ')) 9 [some (rf Γ 27), some (.int (nI d)), some (.int (nI (g + 1))), none, none, none, none] [] σ') :
    ∀ (m o : Nat) (σ' : Mm), 2 ^ g - o = m → o ≤ 2 ^ g → (∀ S, S < 2 ^ g + o → σ'.1 29 S = JS P d (g + 1) S) → (∀ S, σ'.1 28 S = σ.1 28 S) → OH σ σ' → Go Γ 2 mX0_findJoyOfGroups (aV (fun σ' => (∀ S, S < 2 ^ pG P → σ'.1 29 S = JS P d (pG P) S) ∧ (∀ S, σ'.1 28 S = σ.1 28 S) ∧ OH σ σ')) 56 [some (rf Γ 27), some (.int (nI d)), some (.int (nI g)), some (rf Γ (8 + 2 * g)), some (.int (bI (decide (pPr P d ≤ pPu P g)))), some (.int (nI o)), none] [] σ' := by
  have hD := hP.1.2
  have hG := hP.2.1.2
  have hg5 : g < 5 := by omega
  have h32 := pw5 (g := g + 1) (by omega)
  have hp1 := pw1 g
  intro m
  induction m with
  | zero =>
    intro o σ' hm ho hj hb hO
    have e : o = 2 ^ g := by omega
    subst e
    refine go_iload dX0_findJoyOfGroups_56 rfl ?_
    refine go_iconst (v := nI 1) dX0_findJoyOfGroups_58 rfl ?_
    refine go_iload_n dX0_findJoyOfGroups_59 rfl rfl ?_
    refine go_ishl dX0_findJoyOfGroups_60 ?_
    rw [shl_ok g (by omega)]
    refine go_icmp_ge (tgt := 144) dX0_findJoyOfGroups_61 (by decide) (fun c61 => ?_) (fun c61 => ?_)
    · refine go_iinc (v := nI (g + 1)) (L' := [_, _, _, _, _, _, _]) dX0_findJoyOfGroups_144 rfl (nI_1 _) (by decide) rfl rfl ?_
      refine go_goto (tgt := 9) dX0_findJoyOfGroups_147 (by decide) ?_
      exact go_sub [true, true, true, false, false, false, false] rfl (next σ' (fun S hS => hj S (by omega)) hb hO)
    · exact absurd (Int32.le_refl _) c61
  | succ m ih =>
    intro o σ' hm ho hj hb hO
    have ho1 : o < 2 ^ g := by omega
    have hP' := hP.oh hO
    have hjo : σ'.1 29 o = JS P d g o := by rw [hj o (by omega), JS_low ho1]
    have hor := or_ok g hg5 o ho1
    have hst := (hP'.2.2.1 d hd).1
    have hwa := (hP'.2.2.2 g hg).2.2 d hd
    have fin : ∀ v : Int32, v = JS P d (g + 1) (2 ^ g + o) → Go Γ 2 mX0_findJoyOfGroups (aV (fun σ' => (∀ S, S < 2 ^ pG P → σ'.1 29 S = JS P d (pG P) S) ∧ (∀ S, σ'.1 28 S = σ.1 28 S) ∧ OH σ σ')) 56 [some (rf Γ 27), some (.int (nI d)), some (.int (nI g)), some (rf Γ (8 + 2 * g)), some (.int (bI (decide (pPr P d ≤ pPu P g)))), some (.int (nI (o + 1))), none] [] (stI σ' 29 (2 ^ g + o) v) := by
      intro v hv
      refine ih (o + 1) _ (by omega) (by omega) (fun S hS => ?_) (fun S => ?_) (hO.st (Or.inr rfl))
      · by_cases q : S = 2 ^ g + o
        · subst q; rw [stI_at, hv]
        · rw [stI_ne (by omega)]; exact hj S (by omega)
      · rw [stI_ne (by omega)]; exact hb S
    have ej : JS P d (g + 1) (2 ^ g + o) = if pPr P d ≤ pPu P g ∧ JS P d g o ≠ -1 ∧ nI (pop o) < pSt P d then JS P d g o + pWa P g d else -1 := by
      conv => lhs; unfold JS
      rw [if_neg (by omega), show 2 ^ g + o - 2 ^ g = o by omega]
    refine go_iload dX0_findJoyOfGroups_56 rfl ?_
    refine go_iconst (v := nI 1) dX0_findJoyOfGroups_58 rfl ?_
    refine go_iload_n dX0_findJoyOfGroups_59 rfl rfl ?_
    refine go_ishl dX0_findJoyOfGroups_60 ?_
    rw [shl_ok g (by omega)]
    refine go_icmp_ge (tgt := 144) dX0_findJoyOfGroups_61 (by decide) (fun c61 => ?_) (fun c61 => ?_)
    · exact absurd c61 (nI_ge (by omega) (by omega))
    · refine go_iload dX0_findJoyOfGroups_64 rfl ?_
      refine go_if_eq (tgt := 101) dX0_findJoyOfGroups_66 (by decide) (fun c66 => ?_) (fun c66 => ?_)
      · refine go_iconst (v := nI 0) dX0_findJoyOfGroups_101 rfl ?_
        refine go_istore (L' := [_, _, _, _, _, _, _]) dX0_findJoyOfGroups_102 (by decide) rfl rfl ?_
        refine go_aload_n dX0_findJoyOfGroups_104 rfl rfl ?_
        refine go_getR flX0_15 fs_27_5 dX0_findJoyOfGroups_105 ?_
        refine go_iload dX0_findJoyOfGroups_108 rfl ?_
        refine go_iconst (v := nI 1) dX0_findJoyOfGroups_110 rfl ?_
        refine go_iload_n dX0_findJoyOfGroups_111 rfl rfl ?_
        refine go_ishl dX0_findJoyOfGroups_112 ?_
        refine go_ior dX0_findJoyOfGroups_113 ?_
        rw [hor]
        refine go_iload dX0_findJoyOfGroups_114 rfl ?_
        refine go_if_eq (tgt := 136) dX0_findJoyOfGroups_116 (by decide) (fun c116 => ?_) (fun c116 => ?_)
        · refine go_iconst (v := (-1)) dX0_findJoyOfGroups_136 rfl ?_
          refine go_iast (2 ^ g + o) rfl as_29 (by omega) (by decide) dX0_findJoyOfGroups_137 ?_
          refine go_iinc (v := nI (o + 1)) (L' := [_, _, _, _, _, _, _]) dX0_findJoyOfGroups_138 rfl (nI_1 _) (by decide) rfl rfl ?_
          refine go_goto (tgt := 56) dX0_findJoyOfGroups_141 (by decide) ?_
          exact go_sub [true, true, true, true, true, true, false] rfl (fin _ (by rw [ej, if_neg (fun z => by rw [decide_eq_true z.1] at c66; exact absurd c66 (by decide))]))
        · refine go_aload_n dX0_findJoyOfGroups_119 rfl rfl ?_
          refine go_getR flX0_15 fs_27_5 dX0_findJoyOfGroups_120 ?_
          refine go_iload dX0_findJoyOfGroups_123 rfl ?_
          refine go_iald (o) rfl as_29 (by omega) (by decide) dX0_findJoyOfGroups_125 ?_
          rw [hjo]
          refine go_aload_n dX0_findJoyOfGroups_126 rfl rfl ?_
          refine go_getR flX0_154 (fG_0 hg5) dX0_findJoyOfGroups_127 ?_
          refine go_iload_n dX0_findJoyOfGroups_130 rfl rfl ?_
          refine go_iald (d) rfl (aW hg5) (by omega) (by decide) dX0_findJoyOfGroups_131 ?_
          rw [hwa]
          refine go_iadd dX0_findJoyOfGroups_132 ?_
          refine go_goto (tgt := 137) dX0_findJoyOfGroups_133 (by decide) ?_
          refine go_iast (2 ^ g + o) rfl as_29 (by omega) (by decide) dX0_findJoyOfGroups_137 ?_
          refine go_iinc (v := nI (o + 1)) (L' := [_, _, _, _, _, _, _]) dX0_findJoyOfGroups_138 rfl (nI_1 _) (by decide) rfl rfl ?_
          refine go_goto (tgt := 56) dX0_findJoyOfGroups_141 (by decide) ?_
          exact absurd rfl c116
      · refine go_aload_n dX0_findJoyOfGroups_69 rfl rfl ?_
        refine go_getR flX0_15 fs_27_5 dX0_findJoyOfGroups_70 ?_
        refine go_iload dX0_findJoyOfGroups_73 rfl ?_
        refine go_iald (o) rfl as_29 (by omega) (by decide) dX0_findJoyOfGroups_75 ?_
        rw [hjo]
        refine go_iconst (v := (-1)) dX0_findJoyOfGroups_76 rfl ?_
        refine go_icmp_eq (tgt := 101) dX0_findJoyOfGroups_77 (by decide) (fun c77 => ?_) (fun c77 => ?_)
        · refine go_iconst (v := nI 0) dX0_findJoyOfGroups_101 rfl ?_
          refine go_istore (L' := [_, _, _, _, _, _, _]) dX0_findJoyOfGroups_102 (by decide) rfl rfl ?_
          refine go_aload_n dX0_findJoyOfGroups_104 rfl rfl ?_
          refine go_getR flX0_15 fs_27_5 dX0_findJoyOfGroups_105 ?_
          refine go_iload dX0_findJoyOfGroups_108 rfl ?_
          refine go_iconst (v := nI 1) dX0_findJoyOfGroups_110 rfl ?_
          refine go_iload_n dX0_findJoyOfGroups_111 rfl rfl ?_
          refine go_ishl dX0_findJoyOfGroups_112 ?_
          refine go_ior dX0_findJoyOfGroups_113 ?_
          rw [hor]
          refine go_iload dX0_findJoyOfGroups_114 rfl ?_
          refine go_if_eq (tgt := 136) dX0_findJoyOfGroups_116 (by decide) (fun c116 => ?_) (fun c116 => ?_)
          · refine go_iconst (v := (-1)) dX0_findJoyOfGroups_136 rfl ?_
            refine go_iast (2 ^ g + o) rfl as_29 (by omega) (by decide) dX0_findJoyOfGroups_137 ?_
            refine go_iinc (v := nI (o + 1)) (L' := [_, _, _, _, _, _, _]) dX0_findJoyOfGroups_138 rfl (nI_1 _) (by decide) rfl rfl ?_
            refine go_goto (tgt := 56) dX0_findJoyOfGroups_141 (by decide) ?_
            exact go_sub [true, true, true, true, true, true, false] rfl (fin _ (by rw [ej, if_neg (fun z => z.2.1 c77)]))
          · refine go_aload_n dX0_findJoyOfGroups_119 rfl rfl ?_
            refine go_getR flX0_15 fs_27_5 dX0_findJoyOfGroups_120 ?_
            refine go_iload dX0_findJoyOfGroups_123 rfl ?_
            refine go_iald (o) rfl as_29 (by omega) (by decide) dX0_findJoyOfGroups_125 ?_
            rw [hjo]
            refine go_aload_n dX0_findJoyOfGroups_126 rfl rfl ?_
            refine go_getR flX0_154 (fG_0 hg5) dX0_findJoyOfGroups_127 ?_
            refine go_iload_n dX0_findJoyOfGroups_130 rfl rfl ?_
            refine go_iald (d) rfl (aW hg5) (by omega) (by decide) dX0_findJoyOfGroups_131 ?_
            rw [hwa]
            refine go_iadd dX0_findJoyOfGroups_132 ?_
            refine go_goto (tgt := 137) dX0_findJoyOfGroups_133 (by decide) ?_
            refine go_iast (2 ^ g + o) rfl as_29 (by omega) (by decide) dX0_findJoyOfGroups_137 ?_
            refine go_iinc (v := nI (o + 1)) (L' := [_, _, _, _, _, _, _]) dX0_findJoyOfGroups_138 rfl (nI_1 _) (by decide) rfl rfl ?_
            refine go_goto (tgt := 56) dX0_findJoyOfGroups_141 (by decide) ?_
            exact absurd rfl c116
        · refine go_iload dX0_findJoyOfGroups_80 rfl ?_
          refine go_callSp csX0_146 (sp_bitCount (show o < 64 by omega)) (by omega) rfl rfl (Nat.le_of_ble_eq_true rfl) dX0_findJoyOfGroups_82 ?_
          refine go_aload_n dX0_findJoyOfGroups_85 rfl rfl ?_
          refine go_getR flX0_23 fs_27_0 dX0_findJoyOfGroups_86 ?_
          refine go_getR flX0_151 fs_3_0 dX0_findJoyOfGroups_89 ?_
          refine go_iload_n dX0_findJoyOfGroups_92 rfl rfl ?_
          refine go_iald (d) rfl as_4 (by omega) (by decide) dX0_findJoyOfGroups_93 ?_
          rw [hst]
          refine go_icmp_ge (tgt := 101) dX0_findJoyOfGroups_94 (by decide) (fun c94 => ?_) (fun c94 => ?_)
          · refine go_iconst (v := nI 0) dX0_findJoyOfGroups_101 rfl ?_
            refine go_istore (L' := [_, _, _, _, _, _, _]) dX0_findJoyOfGroups_102 (by decide) rfl rfl ?_
            refine go_aload_n dX0_findJoyOfGroups_104 rfl rfl ?_
            refine go_getR flX0_15 fs_27_5 dX0_findJoyOfGroups_105 ?_
            refine go_iload dX0_findJoyOfGroups_108 rfl ?_
            refine go_iconst (v := nI 1) dX0_findJoyOfGroups_110 rfl ?_
            refine go_iload_n dX0_findJoyOfGroups_111 rfl rfl ?_
            refine go_ishl dX0_findJoyOfGroups_112 ?_
            refine go_ior dX0_findJoyOfGroups_113 ?_
            rw [hor]
            refine go_iload dX0_findJoyOfGroups_114 rfl ?_
            refine go_if_eq (tgt := 136) dX0_findJoyOfGroups_116 (by decide) (fun c116 => ?_) (fun c116 => ?_)
            · refine go_iconst (v := (-1)) dX0_findJoyOfGroups_136 rfl ?_
              refine go_iast (2 ^ g + o) rfl as_29 (by omega) (by decide) dX0_findJoyOfGroups_137 ?_
              refine go_iinc (v := nI (o + 1)) (L' := [_, _, _, _, _, _, _]) dX0_findJoyOfGroups_138 rfl (nI_1 _) (by decide) rfl rfl ?_
              refine go_goto (tgt := 56) dX0_findJoyOfGroups_141 (by decide) ?_
              exact go_sub [true, true, true, true, true, true, false] rfl (fin _ (by rw [ej, if_neg (fun z => Int32.not_lt.mpr c94 z.2.2)]))
            · refine go_aload_n dX0_findJoyOfGroups_119 rfl rfl ?_
              refine go_getR flX0_15 fs_27_5 dX0_findJoyOfGroups_120 ?_
              refine go_iload dX0_findJoyOfGroups_123 rfl ?_
              refine go_iald (o) rfl as_29 (by omega) (by decide) dX0_findJoyOfGroups_125 ?_
              rw [hjo]
              refine go_aload_n dX0_findJoyOfGroups_126 rfl rfl ?_
              refine go_getR flX0_154 (fG_0 hg5) dX0_findJoyOfGroups_127 ?_
              refine go_iload_n dX0_findJoyOfGroups_130 rfl rfl ?_
              refine go_iald (d) rfl (aW hg5) (by omega) (by decide) dX0_findJoyOfGroups_131 ?_
              rw [hwa]
              refine go_iadd dX0_findJoyOfGroups_132 ?_
              refine go_goto (tgt := 137) dX0_findJoyOfGroups_133 (by decide) ?_
              refine go_iast (2 ^ g + o) rfl as_29 (by omega) (by decide) dX0_findJoyOfGroups_137 ?_
              refine go_iinc (v := nI (o + 1)) (L' := [_, _, _, _, _, _, _]) dX0_findJoyOfGroups_138 rfl (nI_1 _) (by decide) rfl rfl ?_
              refine go_goto (tgt := 56) dX0_findJoyOfGroups_141 (by decide) ?_
              exact absurd rfl c116
          · refine go_iconst (v := nI 1) dX0_findJoyOfGroups_97 rfl ?_
            refine go_goto (tgt := 102) dX0_findJoyOfGroups_98 (by decide) ?_
            refine go_istore (L' := [_, _, _, _, _, _, _]) dX0_findJoyOfGroups_102 (by decide) rfl rfl ?_
            refine go_aload_n dX0_findJoyOfGroups_104 rfl rfl ?_
            refine go_getR flX0_15 fs_27_5 dX0_findJoyOfGroups_105 ?_
            refine go_iload dX0_findJoyOfGroups_108 rfl ?_
            refine go_iconst (v := nI 1) dX0_findJoyOfGroups_110 rfl ?_
            refine go_iload_n dX0_findJoyOfGroups_111 rfl rfl ?_
            refine go_ishl dX0_findJoyOfGroups_112 ?_
            refine go_ior dX0_findJoyOfGroups_113 ?_
            rw [hor]
            refine go_iload dX0_findJoyOfGroups_114 rfl ?_
            refine go_if_eq (tgt := 136) dX0_findJoyOfGroups_116 (by decide) (fun c116 => ?_) (fun c116 => ?_)
            · refine go_iconst (v := (-1)) dX0_findJoyOfGroups_136 rfl ?_
              refine go_iast (2 ^ g + o) rfl as_29 (by omega) (by decide) dX0_findJoyOfGroups_137 ?_
              refine go_iinc (v := nI (o + 1)) (L' := [_, _, _, _, _, _, _]) dX0_findJoyOfGroups_138 rfl (nI_1 _) (by decide) rfl rfl ?_
              refine go_goto (tgt := 56) dX0_findJoyOfGroups_141 (by decide) ?_
              exact absurd c116 (by decide)
            · refine go_aload_n dX0_findJoyOfGroups_119 rfl rfl ?_
              refine go_getR flX0_15 fs_27_5 dX0_findJoyOfGroups_120 ?_
              refine go_iload dX0_findJoyOfGroups_123 rfl ?_
              refine go_iald (o) rfl as_29 (by omega) (by decide) dX0_findJoyOfGroups_125 ?_
              rw [hjo]
              refine go_aload_n dX0_findJoyOfGroups_126 rfl rfl ?_
              refine go_getR flX0_154 (fG_0 hg5) dX0_findJoyOfGroups_127 ?_
              refine go_iload_n dX0_findJoyOfGroups_130 rfl rfl ?_
              refine go_iald (d) rfl (aW hg5) (by omega) (by decide) dX0_findJoyOfGroups_131 ?_
              rw [hwa]
              refine go_iadd dX0_findJoyOfGroups_132 ?_
              refine go_goto (tgt := 137) dX0_findJoyOfGroups_133 (by decide) ?_
              refine go_iast (2 ^ g + o) rfl as_29 (by omega) (by decide) dX0_findJoyOfGroups_137 ?_
              refine go_iinc (v := nI (o + 1)) (L' := [_, _, _, _, _, _, _]) dX0_findJoyOfGroups_138 rfl (nI_1 _) (by decide) rfl rfl ?_
              refine go_goto (tgt := 56) dX0_findJoyOfGroups_141 (by decide) ?_
              exact go_sub [true, true, true, true, true, true, false] rfl (fin _ (by rw [ej, if_pos ⟨of_decide_eq_true (bI_ne0.mp c66), c77, Int32.not_le.mp c94⟩]))
set_option maxHeartbeats 1000000 in
theorem lp_find1 {Γ : Gm} {σ : Mm} {P : Pb} {d : Nat} (hP : PI σ P) (hd : d < pD P) : ∀ (m g : Nat) (σ' : Mm), pG P - g = m → g ≤ pG P → (∀ S, S < 2 ^ g → σ'.1 29 S = JS P d g S) → (∀ S, σ'.1 28 S = σ.1 28 S) → OH σ σ' → Go Γ 2 mX0_findJoyOfGroups (aV (fun σ' => (∀ S, S < 2 ^ pG P → σ'.1 29 S = JS P d (pG P) S) ∧ (∀ S, σ'.1 28 S = σ.1 28 S) ∧ OH σ σ')) 9 [some (rf Γ 27), some (.int (nI d)), some (.int (nI g)), none, none, none, none] [] σ' := by
  have hD := hP.1.2
  have hG := hP.2.1.2
  intro m
  induction m with
  | zero =>
    intro g σ' hm hg hj hb hO
    have e : g = pG P := by omega
    subst e
    refine go_iload_n dX0_findJoyOfGroups_9 rfl rfl ?_
    refine go_aload_n dX0_findJoyOfGroups_10 rfl rfl ?_
    refine go_getR flX0_27 fs_27_1 dX0_findJoyOfGroups_11 ?_
    refine go_getI flX0_63 fs_6_1 dX0_findJoyOfGroups_14 ?_
    rw [(hP.oh hO).2.1.1]
    refine go_icmp_ge (tgt := 150) dX0_findJoyOfGroups_17 (by decide) (fun c17 => ?_) (fun c17 => ?_)
    · refine go_vret rfl dX0_findJoyOfGroups_150 ?_
      exact ⟨rfl, hj, hb, hO⟩
    · exact absurd (Int32.le_refl _) c17
  | succ m ih =>
    intro g σ' hm hg hj hb hO
    have hg1 : g < pG P := by omega
    have hg5 : g < 5 := by omega
    have hP' := hP.oh hO
    have hpr := (hP'.2.2.1 d hd).2
    have hpu := (hP'.2.2.2 g hg1).1
    have go2 : Go Γ 2 mX0_findJoyOfGroups (aV (fun σ' => (∀ S, S < 2 ^ pG P → σ'.1 29 S = JS P d (pG P) S) ∧ (∀ S, σ'.1 28 S = σ.1 28 S) ∧ OH σ σ')) 56 [some (rf Γ 27), some (.int (nI d)), some (.int (nI g)), some (rf Γ (8 + 2 * g)), some (.int (bI (decide (pPr P d ≤ pPu P g)))), some (.int (nI 0)), none] [] σ' :=
      lp_find2 hP hd hg1 (fun σ2 h1 h2 h3 => ih (g + 1) σ2 (by omega) (by omega) h1 h2 h3) (2 ^ g) 0 σ' rfl (Nat.zero_le _) (fun S hS => by rw [hj S hS]; exact (JS_low hS).symm) hb hO
    refine go_iload_n dX0_findJoyOfGroups_9 rfl rfl ?_
    refine go_aload_n dX0_findJoyOfGroups_10 rfl rfl ?_
    refine go_getR flX0_27 fs_27_1 dX0_findJoyOfGroups_11 ?_
    refine go_getI flX0_63 fs_6_1 dX0_findJoyOfGroups_14 ?_
    rw [hP'.2.1.1]
    refine go_icmp_ge (tgt := 150) dX0_findJoyOfGroups_17 (by decide) (fun c17 => ?_) (fun c17 => ?_)
    · exact absurd c17 (nI_ge (by omega) (by omega))
    · refine go_aload_n dX0_findJoyOfGroups_20 rfl rfl ?_
      refine go_getR flX0_27 fs_27_1 dX0_findJoyOfGroups_21 ?_
      refine go_getR flX0_134 fs_6_0 dX0_findJoyOfGroups_24 ?_
      refine go_iload_n dX0_findJoyOfGroups_27 rfl rfl ?_
      refine go_aald (g) rfl (rG hg5) rt_7 dX0_findJoyOfGroups_28 ?_
      refine go_astore_n (L' := [_, _, _, _, _, _, _]) dX0_findJoyOfGroups_29 rfl (by decide) rfl rfl ?_
      refine go_aload_n dX0_findJoyOfGroups_30 rfl rfl ?_
      refine go_getR flX0_23 fs_27_0 dX0_findJoyOfGroups_31 ?_
      refine go_getR flX0_138 fs_3_1 dX0_findJoyOfGroups_34 ?_
      refine go_iload_n dX0_findJoyOfGroups_37 rfl rfl ?_
      refine go_iald (d) rfl as_5 (by omega) (by decide) dX0_findJoyOfGroups_38 ?_
      rw [hpr]
      refine go_aload_n dX0_findJoyOfGroups_39 rfl rfl ?_
      refine go_getI flX0_141 (fG_2 hg5) dX0_findJoyOfGroups_40 ?_
      rw [hpu]
      refine go_icmp_gt (tgt := 50) dX0_findJoyOfGroups_43 (by decide) (fun c43 => ?_) (fun c43 => ?_)
      · refine go_iconst (v := nI 0) dX0_findJoyOfGroups_50 rfl ?_
        refine go_istore (L' := [_, _, _, _, _, _, _]) dX0_findJoyOfGroups_51 (by decide) rfl rfl ?_
        refine go_iconst (v := nI 0) dX0_findJoyOfGroups_53 rfl ?_
        refine go_istore (L' := [_, _, _, _, _, _, _]) dX0_findJoyOfGroups_54 (by decide) rfl rfl ?_
        rw [show decide (pPr P d ≤ pPu P g) = false from decide_eq_false (Int32.not_le.mpr c43)] at go2
        exact go2
      · refine go_iconst (v := nI 1) dX0_findJoyOfGroups_46 rfl ?_
        refine go_goto (tgt := 51) dX0_findJoyOfGroups_47 (by decide) ?_
        refine go_istore (L' := [_, _, _, _, _, _, _]) dX0_findJoyOfGroups_51 (by decide) rfl rfl ?_
        refine go_iconst (v := nI 0) dX0_findJoyOfGroups_53 rfl ?_
        refine go_istore (L' := [_, _, _, _, _, _, _]) dX0_findJoyOfGroups_54 (by decide) rfl rfl ?_
        rw [show decide (pPr P d ≤ pPu P g) = true from decide_eq_true (Int32.not_lt.mp c43)] at go2
        exact go2
set_option maxHeartbeats 1000000 in
theorem sp_find {Γ : Gm} {σ : Mm} {P : Pb} {d : Nat} (hP : PI σ P) (hd : d < pD P) : Sp Γ 2 mX0_findJoyOfGroups [rf Γ 27, .int (nI d)] σ (aV (fun σ' => (∀ S, S < 2 ^ pG P → σ'.1 29 S = JS P d (pG P) S) ∧ (∀ S, σ'.1 28 S = σ.1 28 S) ∧ OH σ σ')) := by
  refine sp_in (L := [some (rf Γ 27), some (.int (nI d)), none, none, none, none, none]) rfl (Nat.le_of_ble_eq_true rfl) rfl ?_
  refine go_aload_n dX0_findJoyOfGroups_0 rfl rfl ?_
  refine go_getR flX0_15 fs_27_5 dX0_findJoyOfGroups_1 ?_
  refine go_iconst (v := nI 0) dX0_findJoyOfGroups_4 rfl ?_
  refine go_iconst (v := nI 0) dX0_findJoyOfGroups_5 rfl ?_
  refine go_iast (0) rfl as_29 (by omega) (by decide) dX0_findJoyOfGroups_6 ?_
  refine go_iconst (v := nI 0) dX0_findJoyOfGroups_7 rfl ?_
  refine go_istore_n (L' := [_, _, _, _, _, _, _]) dX0_findJoyOfGroups_8 rfl (by decide) rfl rfl ?_
  refine lp_find1 hP hd (pG P) 0 _ rfl (Nat.zero_le _) (fun S hS => ?_) (fun S => stI_ne (by omega)) (OH.rf.st (Or.inr rfl))
  have : S = 0 := by simpa using hS
  subst this
  rw [stI_at]; rfl
/-- the best of the parts of S up to k, over B without a dish and J of it -/
def pf (B J : Nat → Int32) (S : Nat) : Nat → Int32
  | 0 => B S
  | k + 1 => if (k + 1) &&& S = k + 1 ∧ J (k + 1) ≠ -1 then mx (pf B J S k) (B (S ^^^ (k + 1)) + J (k + 1)) else pf B J S k
def BG (P : Pb) : Nat → Nat → Int32
  | 0, _ => 0
  | d + 1, S => pf (BG P d) (JS P d (pG P)) S S
theorem xor_lt : ∀ S, S < 32 → ∀ p, p < 32 → 0 < p → p &&& S = p → S ^^^ p < S := by decide +kernel
theorem and_nI : ∀ S, S < 32 → ∀ p, p < 32 → nI p &&& nI S = nI (p &&& S) := by decide +kernel
theorem xor_nI : ∀ S, S < 32 → ∀ p, p < 32 → nI S ^^^ nI p = nI (S ^^^ p) := by decide +kernel
theorem and_lt : ∀ S, S < 32 → ∀ p, p < 32 → p &&& S < 32 := by decide +kernel
theorem pf_congr {B B' J J' : Nat → Int32} {S : Nat} (hS : S < 32) (hb : ∀ k, k ≤ S → B k = B' k) (hj : ∀ k, k ≤ S → J k = J' k) : ∀ k : Nat, k ≤ S → pf B J S k = pf B' J' S k
  | 0, _ => hb S (Nat.le_refl _)
  | k + 1, h => by
    unfold pf
    rw [pf_congr hS hb hj k (by omega), hj (k + 1) h]
    by_cases q : (k + 1) &&& S = k + 1 ∧ J' (k + 1) ≠ -1
    · rw [if_pos q, if_pos q, hb _ (Nat.le_of_lt (xor_lt S hS (k + 1) (by omega) (by omega) q.1))]
    · rw [if_neg q, if_neg q]
set_option maxHeartbeats 2000000 in
theorem lp_give3 {Γ : Gm} {σ : Mm} {P : Pb} {d S : Nat} (hP : PI σ P) (hS : S < 2 ^ pG P) (hS0 : 0 < S) (Q : Option Value → Mm → Prop)
    (next : ∀ σ', (∀ k, k < 2 ^ pG P → σ'.1 28 k = if k < S then BG P d k else BG P (d + 1) k) → (∀ k, k < 2 ^ pG P → σ'.1 29 k = JS P d (pG P) k) → OH σ σ' → Go Γ 3 mX0_mostGiven Q 127 [some (rf Γ 27), some (.int (nI (2 ^ pG P))), some (.int (nI d)), some (.int (nI S)), none, none] [] σ') :
    ∀ (m p : Nat) (σ' : Mm), S - p = m → p ≤ S → (∀ k, k < 2 ^ pG P → k ≠ S → σ'.1 28 k = if k < S then BG P d k else BG P (d + 1) k) → σ'.1 28 S = pf (BG P d) (JS P d (pG P)) S p → (∀ k, k < 2 ^ pG P → σ'.1 29 k = JS P d (pG P) k) → OH σ σ' → Go Γ 3 mX0_mostGiven Q 59 [some (rf Γ 27), some (.int (nI (2 ^ pG P))), some (.int (nI d)), some (.int (nI S)), some (.int (nI (p + 1))), none] [] σ' := by
  have hG := hP.2.1.2
  have h32 := pw5 hG
  intro m
  induction m with
  | zero =>
    intro p σ' hm hp hb hs hj hO
    have e : p = S := by omega
    subst e
    refine go_iload dX0_mostGiven_59 rfl ?_
    refine go_iload_n dX0_mostGiven_61 rfl rfl ?_
    refine go_icmp_gt (tgt := 127) dX0_mostGiven_62 (by decide) (fun c62 => ?_) (fun c62 => ?_)
    · refine go_sub [true, true, true, true, false, false] rfl (next σ' (fun k hk => ?_) hj hO)
      by_cases q : k = p
      · subst q; rw [hs, if_neg (by omega)]; rfl
      · exact hb k hk q
    · exact absurd (nI_lt (by omega) (by omega)) c62
  | succ m ih =>
    intro p σ' hm hp hb hs hj hO
    have hp1 : p + 1 ≤ S := by omega
    have ea := and_nI S (by omega) (p + 1) (by omega)
    have ex := xor_nI S (by omega) (p + 1) (by omega)
    have hal := and_lt S (by omega) (p + 1) (by omega)
    have hjp := hj (p + 1) (by omega)
    refine go_iload dX0_mostGiven_59 rfl ?_
    refine go_iload_n dX0_mostGiven_61 rfl rfl ?_
    refine go_icmp_gt (tgt := 127) dX0_mostGiven_62 (by decide) (fun c62 => ?_) (fun c62 => ?_)
    · exact absurd c62 (nI_nlt (by omega) (by omega))
    · refine go_iload dX0_mostGiven_65 rfl ?_
      refine go_iload_n dX0_mostGiven_67 rfl rfl ?_
      refine go_iand dX0_mostGiven_68 ?_
      rw [ea]
      refine go_iload dX0_mostGiven_69 rfl ?_
      refine go_icmp_ne (tgt := 121) dX0_mostGiven_71 (by decide) (fun c71 => ?_) (fun c71 => ?_)
      · rw [nI_eq (by omega) (by omega)] at c71
        refine go_iinc (v := nI (p + 1 + 1)) (L' := [_, _, _, _, _, _]) dX0_mostGiven_121 rfl (nI_1 _) (by decide) rfl rfl ?_
        refine go_goto (tgt := 59) dX0_mostGiven_124 (by decide) ?_
        refine ih (p + 1) σ' (by omega) (by omega) hb ?_ hj hO
        rw [hs]
        conv => rhs; unfold pf
        rw [if_neg (fun z => c71 z.1)]
      · refine go_aload_n dX0_mostGiven_74 rfl rfl ?_
        refine go_getR flX0_15 fs_27_5 dX0_mostGiven_75 ?_
        refine go_iload dX0_mostGiven_78 rfl ?_
        refine go_iald (p + 1) rfl as_29 (by omega) (by decide) dX0_mostGiven_80 ?_
        rw [hjp]
        refine go_iconst (v := (-1)) dX0_mostGiven_81 rfl ?_
        refine go_icmp_eq (tgt := 121) dX0_mostGiven_82 (by decide) (fun c82 => ?_) (fun c82 => ?_)
        · refine go_iinc (v := nI (p + 1 + 1)) (L' := [_, _, _, _, _, _]) dX0_mostGiven_121 rfl (nI_1 _) (by decide) rfl rfl ?_
          refine go_goto (tgt := 59) dX0_mostGiven_124 (by decide) ?_
          refine ih (p + 1) σ' (by omega) (by omega) hb ?_ hj hO
          rw [hs]
          conv => rhs; unfold pf
          rw [if_neg (fun z => z.2 c82)]
        · rw [nI_eq (by omega) (by omega)] at c71
          have hx := xor_lt S (by omega) (p + 1) (by omega) (by omega) c71
          refine go_aload_n dX0_mostGiven_85 rfl rfl ?_
          refine go_getR flX0_11 fs_27_4 dX0_mostGiven_86 ?_
          refine go_iload_n dX0_mostGiven_89 rfl rfl ?_
          refine go_iload dX0_mostGiven_90 rfl ?_
          refine go_ixor dX0_mostGiven_92 ?_
          rw [ex]
          refine go_iald (S ^^^ (p + 1)) rfl as_28 (by omega) (by decide) dX0_mostGiven_93 ?_
          rw [hb (S ^^^ (p + 1)) (by omega) (by omega), if_pos hx]
          refine go_aload_n dX0_mostGiven_94 rfl rfl ?_
          refine go_getR flX0_15 fs_27_5 dX0_mostGiven_95 ?_
          refine go_iload dX0_mostGiven_98 rfl ?_
          refine go_iald (p + 1) rfl as_29 (by omega) (by decide) dX0_mostGiven_100 ?_
          rw [hjp]
          refine go_iadd dX0_mostGiven_101 ?_
          refine go_istore (L' := [_, _, _, _, _, _]) dX0_mostGiven_102 (by decide) rfl rfl ?_
          refine go_aload_n dX0_mostGiven_104 rfl rfl ?_
          refine go_getR flX0_11 fs_27_4 dX0_mostGiven_105 ?_
          refine go_iload_n dX0_mostGiven_108 rfl rfl ?_
          refine go_aload_n dX0_mostGiven_109 rfl rfl ?_
          refine go_getR flX0_11 fs_27_4 dX0_mostGiven_110 ?_
          refine go_iload_n dX0_mostGiven_113 rfl rfl ?_
          refine go_iald (S) rfl as_28 (by omega) (by decide) dX0_mostGiven_114 ?_
          rw [hs]
          refine go_iload dX0_mostGiven_115 rfl ?_
          refine go_max csX0_112 (by omega) (Nat.le_of_ble_eq_true rfl) dX0_mostGiven_117 ?_
          refine go_iast (S) rfl as_28 (by omega) (by decide) dX0_mostGiven_120 ?_
          refine go_iinc (v := nI (p+1 + 1)) (L' := [_, _, _, _, _, _]) dX0_mostGiven_121 rfl (nI_1 _) (by decide) rfl rfl ?_
          refine go_goto (tgt := 59) dX0_mostGiven_124 (by decide) ?_
          refine go_sub [true, true, true, true, true, false] rfl (ih (p + 1) _ (by omega) (by omega) (fun k h1 h2 => ?_) ?_ (fun k hk => ?_) (hO.st (Or.inl rfl)))
          · rw [stI_ne (by omega)]; exact hb k h1 h2
          · rw [stI_at]
            conv => rhs; unfold pf
            rw [if_pos ⟨c71, c82⟩]
          · rw [stI_ne (by omega)]; exact hj k hk
set_option maxHeartbeats 2000000 in
theorem lp_give2 {Γ : Gm} {σ : Mm} {P : Pb} {d : Nat} (hP : PI σ P) (Q : Option Value → Mm → Prop)
    (next : ∀ σ', (∀ k, k < 2 ^ pG P → σ'.1 28 k = BG P (d + 1) k) → OH σ σ' → Go Γ 3 mX0_mostGiven Q 133 [some (rf Γ 27), some (.int (nI (2 ^ pG P))), some (.int (nI d)), none, none, none] [] σ') :
    ∀ (S : Nat) (σ' : Mm), S < 2 ^ pG P → (∀ k, k < 2 ^ pG P → σ'.1 28 k = if k < S + 1 then BG P d k else BG P (d + 1) k) → (∀ k, k < 2 ^ pG P → σ'.1 29 k = JS P d (pG P) k) → OH σ σ' → Go Γ 3 mX0_mostGiven Q 52 [some (rf Γ 27), some (.int (nI (2 ^ pG P))), some (.int (nI d)), some (.int (nI S)), none, none] [] σ' := by
  have hG := hP.2.1.2
  have h32 := pw5 hG
  intro S
  induction S with
  | zero =>
    intro σ' hS hb hj hO
    refine go_iload_n dX0_mostGiven_52 rfl rfl ?_
    refine go_if_le (tgt := 133) dX0_mostGiven_53 (by decide) (fun c53 => ?_) (fun c53 => ?_)
    · refine go_sub [true, true, true, false, false, false] rfl (next σ' (fun k hk => ?_) hO)
      rw [hb k hk]
      by_cases q : k < 0 + 1
      · have : k = 0 := by omega
        subst this
        rfl
      · rw [if_neg q]
    · exact absurd (by decide) c53
  | succ S ih =>
    intro σ' hS hb hj hO
    refine go_iload_n dX0_mostGiven_52 rfl rfl ?_
    refine go_if_le (tgt := 133) dX0_mostGiven_53 (by decide) (fun c53 => ?_) (fun c53 => ?_)
    · exact absurd c53 (nI_nle (by omega) (by omega))
    · refine go_iconst (v := nI 1) dX0_mostGiven_56 rfl ?_
      refine go_istore (L' := [_, _, _, _, _, _]) dX0_mostGiven_57 (by decide) rfl rfl ?_
      refine lp_give3 (S := S + 1) hP hS (by omega) Q (fun σ2 h1 h2 h3 => ?_) (S + 1) 0 σ' rfl (Nat.zero_le _) (fun k h1 h2 => ?_) ?_ hj hO
      · refine go_iinc (v := nI S) (L' := [_, _, _, _, _, _]) dX0_mostGiven_127 rfl (pk_m1 S) (by decide) rfl rfl ?_
        refine go_goto (tgt := 52) dX0_mostGiven_130 (by decide) ?_
        exact ih σ2 (by omega) h1 h2 h3
      · rw [hb k h1]
        by_cases q : k < S + 1
        · rw [if_pos q, if_pos (by omega)]
        · rw [if_neg q, if_neg (by omega)]
      · rw [hb (S + 1) hS, if_pos (by omega)]; rfl
set_option maxHeartbeats 2000000 in
theorem lp_give1 {Γ : Gm} {σ : Mm} {P : Pb} (hP : PI σ P) : ∀ (m d : Nat) (σ' : Mm), pD P - d = m → d ≤ pD P → (∀ k, k < 2 ^ pG P → σ'.1 28 k = BG P d k) → OH σ σ' → Go Γ 3 mX0_mostGiven (aI (BG P (pD P) (2 ^ pG P - 1)) (OH σ)) 32 [some (rf Γ 27), some (.int (nI (2 ^ pG P))), some (.int (nI d)), none, none, none] [] σ' := by
  have hD := hP.1.2
  have hG := hP.2.1.2
  have h32 := pw5 hG
  have hpos : 0 < 2 ^ pG P := Nat.two_pow_pos _
  intro m
  induction m with
  | zero =>
    intro d σ' hm hd hb hO
    have e : d = pD P := by omega
    subst e
    have es : nI (2 ^ pG P) - nI 1 = nI (2 ^ pG P - 1) := pk_sub (by omega)
    refine go_iload_n dX0_mostGiven_32 rfl rfl ?_
    refine go_aload_n dX0_mostGiven_33 rfl rfl ?_
    refine go_getR flX0_23 fs_27_0 dX0_mostGiven_34 ?_
    refine go_getI flX0_117 fs_3_2 dX0_mostGiven_37 ?_
    rw [(hP.oh hO).1.1]
    refine go_icmp_ge (tgt := 139) dX0_mostGiven_40 (by decide) (fun c40 => ?_) (fun c40 => ?_)
    · refine go_aload_n dX0_mostGiven_139 rfl rfl ?_
      refine go_getR flX0_11 fs_27_4 dX0_mostGiven_140 ?_
      refine go_iload_n dX0_mostGiven_143 rfl rfl ?_
      refine go_iconst (v := nI 1) dX0_mostGiven_144 rfl ?_
      refine go_isub dX0_mostGiven_145 ?_
      rw [es]
      refine go_iald (2 ^ pG P - 1) rfl as_28 (by omega) (by decide) dX0_mostGiven_146 ?_
      rw [hb (2 ^ pG P - 1) (by omega)]
      refine go_iret rfl dX0_mostGiven_147 ?_
      exact ⟨rfl, hO⟩
    · exact absurd (Int32.le_refl _) c40
  | succ m ih =>
    intro d σ' hm hd hb hO
    have hd1 : d < pD P := by omega
    have es : nI (2 ^ pG P) - nI 1 = nI (2 ^ pG P - 1) := pk_sub (by omega)
    refine go_iload_n dX0_mostGiven_32 rfl rfl ?_
    refine go_aload_n dX0_mostGiven_33 rfl rfl ?_
    refine go_getR flX0_23 fs_27_0 dX0_mostGiven_34 ?_
    refine go_getI flX0_117 fs_3_2 dX0_mostGiven_37 ?_
    rw [(hP.oh hO).1.1]
    refine go_icmp_ge (tgt := 139) dX0_mostGiven_40 (by decide) (fun c40 => ?_) (fun c40 => ?_)
    · exact absurd c40 (nI_ge (by omega) (by omega))
    · refine go_aload_n dX0_mostGiven_43 rfl rfl ?_
      refine go_iload_n dX0_mostGiven_44 rfl rfl ?_
      refine go_callVv cvX0_131 os_27 (sp_find (hP.oh hO) hd1) (by omega) rfl rfl (Nat.le_of_ble_eq_true rfl) dX0_mostGiven_45 (fun σ2 q2 => ?_)
      refine go_iload_n dX0_mostGiven_48 rfl rfl ?_
      refine go_iconst (v := nI 1) dX0_mostGiven_49 rfl ?_
      refine go_isub dX0_mostGiven_50 ?_
      rw [es]
      refine go_istore_n (L' := [_, _, _, _, _, _]) dX0_mostGiven_51 rfl (by decide) rfl rfl ?_
      refine lp_give2 hP _ (fun σ3 h1 h2 => ?_) (2 ^ pG P - 1) σ2 (by omega) (fun k hk => ?_) q2.1 (hO.trans q2.2.2)
      · refine go_iinc (v := nI (d + 1)) (L' := [_, _, _, _, _, _]) dX0_mostGiven_133 rfl (nI_1 _) (by decide) rfl rfl ?_
        refine go_goto (tgt := 32) dX0_mostGiven_136 (by decide) ?_
        exact ih (d + 1) σ3 (by omega) (by omega) h1 h2
      · rw [q2.2.1 k, hb k hk, if_pos (by omega)]
set_option maxHeartbeats 2000000 in
theorem lp_give0 {Γ : Gm} {σ : Mm} {P : Pb} (hP : PI σ P) : ∀ (m k : Nat) (σ' : Mm), 2 ^ pG P - k = m → k ≤ 2 ^ pG P → (∀ j, j < k → σ'.1 28 j = 0) → OH σ σ' → Go Γ 3 mX0_mostGiven (aI (BG P (pD P) (2 ^ pG P - 1)) (OH σ)) 12 [some (rf Γ 27), some (.int (nI (2 ^ pG P))), some (.int (nI k)), none, none, none] [] σ' := by
  have hG := hP.2.1.2
  have h32 := pw5 hG
  intro m
  induction m with
  | zero =>
    intro k σ' hm hk hb hO
    have e : k = 2 ^ pG P := by omega
    subst e
    refine go_iload_n dX0_mostGiven_12 rfl rfl ?_
    refine go_iload_n dX0_mostGiven_13 rfl rfl ?_
    refine go_icmp_ge (tgt := 30) dX0_mostGiven_14 (by decide) (fun c14 => ?_) (fun c14 => ?_)
    · refine go_iconst (v := nI 0) dX0_mostGiven_30 rfl ?_
      refine go_istore_n (L' := [_, _, _, _, _, _]) dX0_mostGiven_31 rfl (by decide) rfl rfl ?_
      exact lp_give1 hP (pD P) 0 σ' rfl (Nat.zero_le _) hb hO
    · exact absurd (Int32.le_refl _) c14
  | succ m ih =>
    intro k σ' hm hk hb hO
    have hk32 : k < 32 := by omega
    refine go_iload_n dX0_mostGiven_12 rfl rfl ?_
    refine go_iload_n dX0_mostGiven_13 rfl rfl ?_
    refine go_icmp_ge (tgt := 30) dX0_mostGiven_14 (by decide) (fun c14 => ?_) (fun c14 => ?_)
    · exact absurd c14 (nI_ge (by omega) (by omega))
    · refine go_aload_n dX0_mostGiven_17 rfl rfl ?_
      refine go_getR flX0_11 fs_27_4 dX0_mostGiven_18 ?_
      refine go_iload_n dX0_mostGiven_21 rfl rfl ?_
      refine go_iconst (v := nI 0) dX0_mostGiven_22 rfl ?_
      refine go_iast (k) rfl as_28 (by omega) (by decide) dX0_mostGiven_23 ?_
      refine go_iinc (v := nI (k + 1)) (L' := [_, _, _, _, _, _]) dX0_mostGiven_24 rfl (nI_1 _) (by decide) rfl rfl ?_
      refine go_goto (tgt := 12) dX0_mostGiven_27 (by decide) ?_
      refine ih (k + 1) _ (by omega) (by omega) (fun j hj => ?_) (hO.st (Or.inl rfl))
      by_cases q : j = k
      · subst q; rw [stI_at]; rfl
      · rw [stI_ne (by omega)]; exact hb j (by omega)
set_option maxHeartbeats 1000000 in
theorem sp_mostGiven {Γ : Gm} {σ : Mm} {P : Pb} (hP : PI σ P) : Sp Γ 3 mX0_mostGiven [rf Γ 27] σ (aI (BG P (pD P) (2 ^ pG P - 1)) (OH σ)) := by
  have hG := hP.2.1.2
  refine sp_in (L := [some (rf Γ 27), none, none, none, none, none]) rfl (Nat.le_of_ble_eq_true rfl) rfl ?_
  refine go_iconst (v := nI 1) dX0_mostGiven_0 rfl ?_
  refine go_aload_n dX0_mostGiven_1 rfl rfl ?_
  refine go_getR flX0_27 fs_27_1 dX0_mostGiven_2 ?_
  refine go_getI flX0_63 fs_6_1 dX0_mostGiven_5 ?_
  rw [hP.2.1.1]
  refine go_ishl dX0_mostGiven_8 ?_
  rw [shl_ok (pG P) (by omega)]
  refine go_istore_n (L' := [_, _, _, _, _, _]) dX0_mostGiven_9 rfl (by decide) rfl rfl ?_
  refine go_iconst (v := nI 0) dX0_mostGiven_10 rfl ?_
  refine go_istore_n (L' := [_, _, _, _, _, _]) dX0_mostGiven_11 rfl (by decide) rfl rfl ?_
  exact lp_give0 hP (2 ^ pG P) 0 σ rfl (Nat.zero_le _) (fun j hj => absurd hj (Nat.not_lt_zero j)) OH.rf
